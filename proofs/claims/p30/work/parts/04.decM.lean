theorem dX10_init_0 : decode cX10_init 0 = .ok (.aload_n 0, 1) := by decide +kernel
theorem dX10_init_1 : decode cX10_init 1 = .ok (.invokespecial 3, 3) := by decide +kernel
theorem dX10_init_4 : decode cX10_init 4 = .ok (.aload_n 0, 1) := by decide +kernel
theorem dX10_init_5 : decode cX10_init 5 = .ok (.iconst 2, 1) := by decide +kernel
theorem dX10_init_6 : decode cX10_init 6 = .ok (.putfield 9, 3) := by decide +kernel
theorem dX10_init_9 : decode cX10_init 9 = .ok (.aload_n 0, 1) := by decide +kernel
theorem dX10_init_10 : decode cX10_init 10 = .ok (.iconst 4, 1) := by decide +kernel
theorem dX10_init_11 : decode cX10_init 11 = .ok (.newarray .int, 2) := by decide +kernel
theorem dX10_init_13 : decode cX10_init 13 = .ok (.putfield 15, 3) := by decide +kernel
theorem dX10_init_16 : decode cX10_init 16 = .ok (.aload_n 0, 1) := by decide +kernel
theorem dX10_init_17 : decode cX10_init 17 = .ok (.iconst 4, 1) := by decide +kernel
theorem dX10_init_18 : decode cX10_init 18 = .ok (.newarray .int, 2) := by decide +kernel
theorem dX10_init_20 : decode cX10_init 20 = .ok (.putfield 19, 3) := by decide +kernel
theorem dX10_init_23 : decode cX10_init 23 = .ok (.aload_n 0, 1) := by decide +kernel
theorem dX10_init_24 : decode cX10_init 24 = .ok (.bipush 20, 2) := by decide +kernel
theorem dX10_init_26 : decode cX10_init 26 = .ok (.newarray .int, 2) := by decide +kernel
theorem dX10_init_28 : decode cX10_init 28 = .ok (.putfield 22, 3) := by decide +kernel
theorem dX10_init_31 : decode cX10_init 31 = .ok (.aload_n 0, 1) := by decide +kernel
theorem dX10_init_32 : decode cX10_init 32 = .ok (.bipush 20, 2) := by decide +kernel
theorem dX10_init_34 : decode cX10_init 34 = .ok (.newarray .int, 2) := by decide +kernel
theorem dX10_init_36 : decode cX10_init 36 = .ok (.putfield 25, 3) := by decide +kernel
theorem dX10_init_39 : decode cX10_init 39 = .ok (.aload_n 0, 1) := by decide +kernel
theorem dX10_init_40 : decode cX10_init 40 = .ok (.bipush 20, 2) := by decide +kernel
theorem dX10_init_42 : decode cX10_init 42 = .ok (.newarray .int, 2) := by decide +kernel
theorem dX10_init_44 : decode cX10_init 44 = .ok (.putfield 28, 3) := by decide +kernel
theorem dX10_init_47 : decode cX10_init 47 = .ok (.aload_n 0, 1) := by decide +kernel
theorem dX10_init_48 : decode cX10_init 48 = .ok (.bipush 20, 2) := by decide +kernel
theorem dX10_init_50 : decode cX10_init 50 = .ok (.newarray .int, 2) := by decide +kernel
theorem dX10_init_52 : decode cX10_init 52 = .ok (.putfield 31, 3) := by decide +kernel
theorem dX10_init_55 : decode cX10_init 55 = .ok (.aload_n 0, 1) := by decide +kernel
theorem dX10_init_56 : decode cX10_init 56 = .ok (.bipush 80, 2) := by decide +kernel
theorem dX10_init_58 : decode cX10_init 58 = .ok (.newarray .int, 2) := by decide +kernel
theorem dX10_init_60 : decode cX10_init 60 = .ok (.putfield 34, 3) := by decide +kernel
theorem dX10_init_63 : decode cX10_init 63 = .ok (.aload_n 0, 1) := by decide +kernel
theorem dX10_init_64 : decode cX10_init 64 = .ok (.bipush 20, 2) := by decide +kernel
theorem dX10_init_66 : decode cX10_init 66 = .ok (.newarray .int, 2) := by decide +kernel
theorem dX10_init_68 : decode cX10_init 68 = .ok (.putfield 37, 3) := by decide +kernel
theorem dX10_init_71 : decode cX10_init 71 = .ok (.aload_n 0, 1) := by decide +kernel
theorem dX10_init_72 : decode cX10_init 72 = .ok (.bipush 8, 2) := by decide +kernel
theorem dX10_init_74 : decode cX10_init 74 = .ok (.newarray .int, 2) := by decide +kernel
theorem dX10_init_76 : decode cX10_init 76 = .ok (.putfield 40, 3) := by decide +kernel
theorem dX10_init_79 : decode cX10_init 79 = .ok (.aload_n 0, 1) := by decide +kernel
theorem dX10_init_80 : decode cX10_init 80 = .ok (.bipush 8, 2) := by decide +kernel
theorem dX10_init_82 : decode cX10_init 82 = .ok (.newarray .int, 2) := by decide +kernel
theorem dX10_init_84 : decode cX10_init 84 = .ok (.putfield 43, 3) := by decide +kernel
theorem dX10_init_87 : decode cX10_init 87 = .ok (.aload_n 0, 1) := by decide +kernel
theorem dX10_init_88 : decode cX10_init 88 = .ok (.bipush 8, 2) := by decide +kernel
theorem dX10_init_90 : decode cX10_init 90 = .ok (.newarray .int, 2) := by decide +kernel
theorem dX10_init_92 : decode cX10_init 92 = .ok (.putfield 46, 3) := by decide +kernel
theorem dX10_init_95 : decode cX10_init 95 = .ok (.aload_n 0, 1) := by decide +kernel
theorem dX10_init_96 : decode cX10_init 96 = .ok (.bipush 8, 2) := by decide +kernel
theorem dX10_init_98 : decode cX10_init 98 = .ok (.newarray .int, 2) := by decide +kernel
theorem dX10_init_100 : decode cX10_init 100 = .ok (.putfield 49, 3) := by decide +kernel
theorem dX10_init_103 : decode cX10_init 103 = .ok (.aload_n 0, 1) := by decide +kernel
theorem dX10_init_104 : decode cX10_init 104 = .ok (.iconst 3, 1) := by decide +kernel
theorem dX10_init_105 : decode cX10_init 105 = .ok (.newarray .int, 2) := by decide +kernel
theorem dX10_init_107 : decode cX10_init 107 = .ok (.putfield 52, 3) := by decide +kernel
theorem dX10_init_110 : decode cX10_init 110 = .ok (.aload_n 0, 1) := by decide +kernel
theorem dX10_init_111 : decode cX10_init 111 = .ok (.sipush 180, 3) := by decide +kernel
theorem dX10_init_114 : decode cX10_init 114 = .ok (.newarray .int, 2) := by decide +kernel
theorem dX10_init_116 : decode cX10_init 116 = .ok (.putfield 55, 3) := by decide +kernel
theorem dX10_init_119 : decode cX10_init 119 = .ok (.aload_n 0, 1) := by decide +kernel
theorem dX10_init_120 : decode cX10_init 120 = .ok (.bipush 60, 2) := by decide +kernel
theorem dX10_init_122 : decode cX10_init 122 = .ok (.newarray .int, 2) := by decide +kernel
theorem dX10_init_124 : decode cX10_init 124 = .ok (.putfield 58, 3) := by decide +kernel
theorem dX10_init_127 : decode cX10_init 127 = .ok (.aload_n 0, 1) := by decide +kernel
theorem dX10_init_128 : decode cX10_init 128 = .ok (.iconst 3, 1) := by decide +kernel
theorem dX10_init_129 : decode cX10_init 129 = .ok (.newarray .int, 2) := by decide +kernel
theorem dX10_init_131 : decode cX10_init 131 = .ok (.dup, 1) := by decide +kernel
theorem dX10_init_132 : decode cX10_init 132 = .ok (.iconst 0, 1) := by decide +kernel
theorem dX10_init_133 : decode cX10_init 133 = .ok (.iconst (-1), 1) := by decide +kernel
theorem dX10_init_134 : decode cX10_init 134 = .ok (.iastore, 1) := by decide +kernel
theorem dX10_init_135 : decode cX10_init 135 = .ok (.dup, 1) := by decide +kernel
theorem dX10_init_136 : decode cX10_init 136 = .ok (.iconst 1, 1) := by decide +kernel
theorem dX10_init_137 : decode cX10_init 137 = .ok (.iconst (-1), 1) := by decide +kernel
theorem dX10_init_138 : decode cX10_init 138 = .ok (.iastore, 1) := by decide +kernel
theorem dX10_init_139 : decode cX10_init 139 = .ok (.dup, 1) := by decide +kernel
theorem dX10_init_140 : decode cX10_init 140 = .ok (.iconst 2, 1) := by decide +kernel
theorem dX10_init_141 : decode cX10_init 141 = .ok (.iconst (-1), 1) := by decide +kernel
theorem dX10_init_142 : decode cX10_init 142 = .ok (.iastore, 1) := by decide +kernel
theorem dX10_init_143 : decode cX10_init 143 = .ok (.putfield 61, 3) := by decide +kernel
theorem dX10_init_146 : decode cX10_init 146 = .ok (.aload_n 0, 1) := by decide +kernel
theorem dX10_init_147 : decode cX10_init 147 = .ok (.bipush 60, 2) := by decide +kernel
theorem dX10_init_149 : decode cX10_init 149 = .ok (.newarray .long, 2) := by decide +kernel
theorem dX10_init_151 : decode cX10_init 151 = .ok (.putfield 64, 3) := by decide +kernel
theorem dX10_init_154 : decode cX10_init 154 = .ok (.aload_n 0, 1) := by decide +kernel
theorem dX10_init_155 : decode cX10_init 155 = .ok (.iconst 4, 1) := by decide +kernel
theorem dX10_init_156 : decode cX10_init 156 = .ok (.newarray .int, 2) := by decide +kernel
theorem dX10_init_158 : decode cX10_init 158 = .ok (.putfield 68, 3) := by decide +kernel
theorem dX10_init_161 : decode cX10_init 161 = .ok (.aload_n 0, 1) := by decide +kernel
theorem dX10_init_162 : decode cX10_init 162 = .ok (.iconst 4, 1) := by decide +kernel
theorem dX10_init_163 : decode cX10_init 163 = .ok (.newarray .int, 2) := by decide +kernel
theorem dX10_init_165 : decode cX10_init 165 = .ok (.putfield 71, 3) := by decide +kernel
theorem dX10_init_168 : decode cX10_init 168 = .ok (.aload_n 0, 1) := by decide +kernel
theorem dX10_init_169 : decode cX10_init 169 = .ok (.bipush 20, 2) := by decide +kernel
theorem dX10_init_171 : decode cX10_init 171 = .ok (.newarray .int, 2) := by decide +kernel
theorem dX10_init_173 : decode cX10_init 173 = .ok (.putfield 74, 3) := by decide +kernel
theorem dX10_init_176 : decode cX10_init 176 = .ok (.aload_n 0, 1) := by decide +kernel
theorem dX10_init_177 : decode cX10_init 177 = .ok (.bipush 20, 2) := by decide +kernel
theorem dX10_init_179 : decode cX10_init 179 = .ok (.newarray .int, 2) := by decide +kernel
theorem dX10_init_181 : decode cX10_init 181 = .ok (.putfield 77, 3) := by decide +kernel
theorem dX10_init_184 : decode cX10_init 184 = .ok (.aload_n 0, 1) := by decide +kernel
theorem dX10_init_185 : decode cX10_init 185 = .ok (.bipush 20, 2) := by decide +kernel
theorem dX10_init_187 : decode cX10_init 187 = .ok (.newarray .int, 2) := by decide +kernel
theorem dX10_init_189 : decode cX10_init 189 = .ok (.putfield 80, 3) := by decide +kernel
theorem dX10_init_192 : decode cX10_init 192 = .ok (.aload_n 0, 1) := by decide +kernel
theorem dX10_init_193 : decode cX10_init 193 = .ok (.bipush 20, 2) := by decide +kernel
theorem dX10_init_195 : decode cX10_init 195 = .ok (.newarray .int, 2) := by decide +kernel
theorem dX10_init_197 : decode cX10_init 197 = .ok (.putfield 83, 3) := by decide +kernel
theorem dX10_init_200 : decode cX10_init 200 = .ok (.aload_n 0, 1) := by decide +kernel
theorem dX10_init_201 : decode cX10_init 201 = .ok (.bipush 80, 2) := by decide +kernel
theorem dX10_init_203 : decode cX10_init 203 = .ok (.newarray .int, 2) := by decide +kernel
theorem dX10_init_205 : decode cX10_init 205 = .ok (.putfield 86, 3) := by decide +kernel
theorem dX10_init_208 : decode cX10_init 208 = .ok (.aload_n 0, 1) := by decide +kernel
theorem dX10_init_209 : decode cX10_init 209 = .ok (.bipush 20, 2) := by decide +kernel
theorem dX10_init_211 : decode cX10_init 211 = .ok (.newarray .int, 2) := by decide +kernel
theorem dX10_init_213 : decode cX10_init 213 = .ok (.putfield 89, 3) := by decide +kernel
theorem dX10_init_216 : decode cX10_init 216 = .ok (.aload_n 0, 1) := by decide +kernel
theorem dX10_init_217 : decode cX10_init 217 = .ok (.bipush 8, 2) := by decide +kernel
theorem dX10_init_219 : decode cX10_init 219 = .ok (.newarray .int, 2) := by decide +kernel
theorem dX10_init_221 : decode cX10_init 221 = .ok (.putfield 92, 3) := by decide +kernel
theorem dX10_init_224 : decode cX10_init 224 = .ok (.aload_n 0, 1) := by decide +kernel
theorem dX10_init_225 : decode cX10_init 225 = .ok (.bipush 8, 2) := by decide +kernel
theorem dX10_init_227 : decode cX10_init 227 = .ok (.newarray .int, 2) := by decide +kernel
theorem dX10_init_229 : decode cX10_init 229 = .ok (.putfield 95, 3) := by decide +kernel
theorem dX10_init_232 : decode cX10_init 232 = .ok (.aload_n 0, 1) := by decide +kernel
theorem dX10_init_233 : decode cX10_init 233 = .ok (.bipush 8, 2) := by decide +kernel
theorem dX10_init_235 : decode cX10_init 235 = .ok (.newarray .int, 2) := by decide +kernel
theorem dX10_init_237 : decode cX10_init 237 = .ok (.putfield 98, 3) := by decide +kernel
theorem dX10_init_240 : decode cX10_init 240 = .ok (.aload_n 0, 1) := by decide +kernel
theorem dX10_init_241 : decode cX10_init 241 = .ok (.bipush 8, 2) := by decide +kernel
theorem dX10_init_243 : decode cX10_init 243 = .ok (.newarray .int, 2) := by decide +kernel
theorem dX10_init_245 : decode cX10_init 245 = .ok (.putfield 101, 3) := by decide +kernel
theorem dX10_init_248 : decode cX10_init 248 = .ok (.aload_n 0, 1) := by decide +kernel
theorem dX10_init_249 : decode cX10_init 249 = .ok (.iconst 3, 1) := by decide +kernel
theorem dX10_init_250 : decode cX10_init 250 = .ok (.newarray .int, 2) := by decide +kernel
theorem dX10_init_252 : decode cX10_init 252 = .ok (.putfield 104, 3) := by decide +kernel
theorem dX10_init_255 : decode cX10_init 255 = .ok (.aload_n 0, 1) := by decide +kernel
theorem dX10_init_256 : decode cX10_init 256 = .ok (.sipush 180, 3) := by decide +kernel
theorem dX10_init_259 : decode cX10_init 259 = .ok (.newarray .int, 2) := by decide +kernel
theorem dX10_init_261 : decode cX10_init 261 = .ok (.putfield 107, 3) := by decide +kernel
theorem dX10_init_264 : decode cX10_init 264 = .ok (.aload_n 0, 1) := by decide +kernel
theorem dX10_init_265 : decode cX10_init 265 = .ok (.sipush 1296, 3) := by decide +kernel
theorem dX10_init_268 : decode cX10_init 268 = .ok (.newarray .int, 2) := by decide +kernel
theorem dX10_init_270 : decode cX10_init 270 = .ok (.putfield 110, 3) := by decide +kernel
theorem dX10_init_273 : decode cX10_init 273 = .ok (.aload_n 0, 1) := by decide +kernel
theorem dX10_init_274 : decode cX10_init 274 = .ok (.sipush 5184, 3) := by decide +kernel
theorem dX10_init_277 : decode cX10_init 277 = .ok (.newarray .int, 2) := by decide +kernel
theorem dX10_init_279 : decode cX10_init 279 = .ok (.putfield 113, 3) := by decide +kernel
theorem dX10_init_282 : decode cX10_init 282 = .ok (.aload_n 0, 1) := by decide +kernel
theorem dX10_init_283 : decode cX10_init 283 = .ok (.sipush 6000, 3) := by decide +kernel
theorem dX10_init_286 : decode cX10_init 286 = .ok (.newarray .int, 2) := by decide +kernel
theorem dX10_init_288 : decode cX10_init 288 = .ok (.putfield 116, 3) := by decide +kernel
theorem dX10_init_291 : decode cX10_init 291 = .ok (.aload_n 0, 1) := by decide +kernel
theorem dX10_init_292 : decode cX10_init 292 = .ok (.iconst 4, 1) := by decide +kernel
theorem dX10_init_293 : decode cX10_init 293 = .ok (.newarray .int, 2) := by decide +kernel
theorem dX10_init_295 : decode cX10_init 295 = .ok (.putfield 119, 3) := by decide +kernel
theorem dX10_init_298 : decode cX10_init 298 = .ok (.aload_n 0, 1) := by decide +kernel
theorem dX10_init_299 : decode cX10_init 299 = .ok (.sipush 1296, 3) := by decide +kernel
theorem dX10_init_302 : decode cX10_init 302 = .ok (.newarray .long, 2) := by decide +kernel
theorem dX10_init_304 : decode cX10_init 304 = .ok (.putfield 122, 3) := by decide +kernel
theorem dX10_init_307 : decode cX10_init 307 = .ok (.aload_n 0, 1) := by decide +kernel
theorem dX10_init_308 : decode cX10_init 308 = .ok (.sipush 1296, 3) := by decide +kernel
theorem dX10_init_311 : decode cX10_init 311 = .ok (.newarray .long, 2) := by decide +kernel
theorem dX10_init_313 : decode cX10_init 313 = .ok (.putfield 125, 3) := by decide +kernel
theorem dX10_init_316 : decode cX10_init 316 = .ok (.aload_n 0, 1) := by decide +kernel
theorem dX10_init_317 : decode cX10_init 317 = .ok (.bipush 8, 2) := by decide +kernel
theorem dX10_init_319 : decode cX10_init 319 = .ok (.newarray .int, 2) := by decide +kernel
theorem dX10_init_321 : decode cX10_init 321 = .ok (.putfield 128, 3) := by decide +kernel
theorem dX10_init_324 : decode cX10_init 324 = .ok (.aload_n 0, 1) := by decide +kernel
theorem dX10_init_325 : decode cX10_init 325 = .ok (.bipush 7, 2) := by decide +kernel
theorem dX10_init_327 : decode cX10_init 327 = .ok (.newarray .boolean, 2) := by decide +kernel
theorem dX10_init_329 : decode cX10_init 329 = .ok (.putfield 131, 3) := by decide +kernel
theorem dX10_init_332 : decode cX10_init 332 = .ok (.aload_n 0, 1) := by decide +kernel
theorem dX10_init_333 : decode cX10_init 333 = .ok (.bipush 7, 2) := by decide +kernel
theorem dX10_init_335 : decode cX10_init 335 = .ok (.newarray .boolean, 2) := by decide +kernel
theorem dX10_init_337 : decode cX10_init 337 = .ok (.putfield 135, 3) := by decide +kernel
theorem dX10_init_340 : decode cX10_init 340 = .ok (.aload_n 0, 1) := by decide +kernel
theorem dX10_init_341 : decode cX10_init 341 = .ok (.bipush 7, 2) := by decide +kernel
theorem dX10_init_343 : decode cX10_init 343 = .ok (.newarray .boolean, 2) := by decide +kernel
theorem dX10_init_345 : decode cX10_init 345 = .ok (.putfield 138, 3) := by decide +kernel
theorem dX10_init_348 : decode cX10_init 348 = .ok (.aload_n 0, 1) := by decide +kernel
theorem dX10_init_349 : decode cX10_init 349 = .ok (.sipush 1296, 3) := by decide +kernel
theorem dX10_init_352 : decode cX10_init 352 = .ok (.newarray .boolean, 2) := by decide +kernel
theorem dX10_init_354 : decode cX10_init 354 = .ok (.putfield 141, 3) := by decide +kernel
theorem dX10_init_357 : decode cX10_init 357 = .ok (.aload_n 0, 1) := by decide +kernel
theorem dX10_init_358 : decode cX10_init 358 = .ok (.sipush 1296, 3) := by decide +kernel
theorem dX10_init_361 : decode cX10_init 361 = .ok (.newarray .boolean, 2) := by decide +kernel
theorem dX10_init_363 : decode cX10_init 363 = .ok (.putfield 144, 3) := by decide +kernel
theorem dX10_init_366 : decode cX10_init 366 = .ok (.aload_n 0, 1) := by decide +kernel
theorem dX10_init_367 : decode cX10_init 367 = .ok (.bipush 80, 2) := by decide +kernel
theorem dX10_init_369 : decode cX10_init 369 = .ok (.newarray .int, 2) := by decide +kernel
theorem dX10_init_371 : decode cX10_init 371 = .ok (.putfield 147, 3) := by decide +kernel
theorem dX10_init_374 : decode cX10_init 374 = .ok (.aload_n 0, 1) := by decide +kernel
theorem dX10_init_375 : decode cX10_init 375 = .ok (.iconst 4, 1) := by decide +kernel
theorem dX10_init_376 : decode cX10_init 376 = .ok (.newarray .int, 2) := by decide +kernel
theorem dX10_init_378 : decode cX10_init 378 = .ok (.putfield 150, 3) := by decide +kernel
theorem dX10_init_381 : decode cX10_init 381 = .ok (.aload_n 0, 1) := by decide +kernel
theorem dX10_init_382 : decode cX10_init 382 = .ok (.bipush 12, 2) := by decide +kernel
theorem dX10_init_384 : decode cX10_init 384 = .ok (.newarray .int, 2) := by decide +kernel
theorem dX10_init_386 : decode cX10_init 386 = .ok (.putfield 153, 3) := by decide +kernel
theorem dX10_init_389 : decode cX10_init 389 = .ok (.aload_n 0, 1) := by decide +kernel
theorem dX10_init_390 : decode cX10_init 390 = .ok (.bipush 12, 2) := by decide +kernel
theorem dX10_init_392 : decode cX10_init 392 = .ok (.newarray .int, 2) := by decide +kernel
theorem dX10_init_394 : decode cX10_init 394 = .ok (.putfield 156, 3) := by decide +kernel
theorem dX10_init_397 : decode cX10_init 397 = .ok (.aload_n 0, 1) := by decide +kernel
theorem dX10_init_398 : decode cX10_init 398 = .ok (.bipush 12, 2) := by decide +kernel
theorem dX10_init_400 : decode cX10_init 400 = .ok (.newarray .int, 2) := by decide +kernel
theorem dX10_init_402 : decode cX10_init 402 = .ok (.putfield 159, 3) := by decide +kernel
theorem dX10_init_405 : decode cX10_init 405 = .ok (.aload_n 0, 1) := by decide +kernel
theorem dX10_init_406 : decode cX10_init 406 = .ok (.bipush 12, 2) := by decide +kernel
theorem dX10_init_408 : decode cX10_init 408 = .ok (.newarray .int, 2) := by decide +kernel
theorem dX10_init_410 : decode cX10_init 410 = .ok (.putfield 162, 3) := by decide +kernel
theorem dX10_init_413 : decode cX10_init 413 = .ok (.return_, 1) := by decide +kernel
theorem dX10_in_0 : decode cX10_in 0 = .ok (.lload_n 0, 1) := by decide +kernel
theorem dX10_in_1 : decode cX10_in 1 = .ok (.lload_n 2, 1) := by decide +kernel
theorem dX10_in_2 : decode cX10_in 2 = .ok (.lcmp, 1) := by decide +kernel
theorem dX10_in_3 : decode cX10_in 3 = .ok (.ifCond .lt 14, 3) := by decide +kernel
theorem dX10_in_6 : decode cX10_in 6 = .ok (.lload_n 0, 1) := by decide +kernel
theorem dX10_in_7 : decode cX10_in 7 = .ok (.lload 4, 2) := by decide +kernel
theorem dX10_in_9 : decode cX10_in 9 = .ok (.lcmp, 1) := by decide +kernel
theorem dX10_in_10 : decode cX10_in 10 = .ok (.ifCond .gt 7, 3) := by decide +kernel
theorem dX10_in_13 : decode cX10_in 13 = .ok (.iconst 1, 1) := by decide +kernel
theorem dX10_in_14 : decode cX10_in 14 = .ok (.goto 4, 3) := by decide +kernel
theorem dX10_in_17 : decode cX10_in 17 = .ok (.iconst 0, 1) := by decide +kernel
theorem dX10_in_18 : decode cX10_in 18 = .ok (.ireturn, 1) := by decide +kernel
theorem dX10_isProcess_0 : decode cX10_isProcess 0 = .ok (.iload_n 1, 1) := by decide +kernel
theorem dX10_isProcess_1 : decode cX10_isProcess 1 = .ok (.i2l, 1) := by decide +kernel
theorem dX10_isProcess_2 : decode cX10_isProcess 2 = .ok (.lconst 0, 1) := by decide +kernel
theorem dX10_isProcess_3 : decode cX10_isProcess 3 = .ok (.aload_n 0, 1) := by decide +kernel
theorem dX10_isProcess_4 : decode cX10_isProcess 4 = .ok (.getfield 9, 3) := by decide +kernel
theorem dX10_isProcess_7 : decode cX10_isProcess 7 = .ok (.iconst 1, 1) := by decide +kernel
theorem dX10_isProcess_8 : decode cX10_isProcess 8 = .ok (.isub, 1) := by decide +kernel
theorem dX10_isProcess_9 : decode cX10_isProcess 9 = .ok (.i2l, 1) := by decide +kernel
theorem dX10_isProcess_10 : decode cX10_isProcess 10 = .ok (.invokestatic 165, 3) := by decide +kernel
theorem dX10_isProcess_13 : decode cX10_isProcess 13 = .ok (.ireturn, 1) := by decide +kernel
theorem dX10_isEvent_0 : decode cX10_isEvent 0 = .ok (.aload_n 0, 1) := by decide +kernel
theorem dX10_isEvent_1 : decode cX10_isEvent 1 = .ok (.iload_n 1, 1) := by decide +kernel
theorem dX10_isEvent_2 : decode cX10_isEvent 2 = .ok (.invokevirtual 169, 3) := by decide +kernel
theorem dX10_isEvent_5 : decode cX10_isEvent 5 = .ok (.ifCond .eq 23, 3) := by decide +kernel
theorem dX10_isEvent_8 : decode cX10_isEvent 8 = .ok (.iload_n 2, 1) := by decide +kernel
theorem dX10_isEvent_9 : decode cX10_isEvent 9 = .ok (.i2l, 1) := by decide +kernel
theorem dX10_isEvent_10 : decode cX10_isEvent 10 = .ok (.lconst 1, 1) := by decide +kernel
theorem dX10_isEvent_11 : decode cX10_isEvent 11 = .ok (.aload_n 0, 1) := by decide +kernel
theorem dX10_isEvent_12 : decode cX10_isEvent 12 = .ok (.getfield 19, 3) := by decide +kernel
theorem dX10_isEvent_15 : decode cX10_isEvent 15 = .ok (.iload_n 1, 1) := by decide +kernel
theorem dX10_isEvent_16 : decode cX10_isEvent 16 = .ok (.iaload, 1) := by decide +kernel
theorem dX10_isEvent_17 : decode cX10_isEvent 17 = .ok (.i2l, 1) := by decide +kernel
theorem dX10_isEvent_18 : decode cX10_isEvent 18 = .ok (.invokestatic 165, 3) := by decide +kernel
theorem dX10_isEvent_21 : decode cX10_isEvent 21 = .ok (.ifCond .eq 7, 3) := by decide +kernel
theorem dX10_isEvent_24 : decode cX10_isEvent 24 = .ok (.iconst 1, 1) := by decide +kernel
theorem dX10_isEvent_25 : decode cX10_isEvent 25 = .ok (.goto 4, 3) := by decide +kernel
theorem dX10_isEvent_28 : decode cX10_isEvent 28 = .ok (.iconst 0, 1) := by decide +kernel
theorem dX10_isEvent_29 : decode cX10_isEvent 29 = .ok (.ireturn, 1) := by decide +kernel
theorem dX10_at_0 : decode cX10_at 0 = .ok (.iconst 5, 1) := by decide +kernel
theorem dX10_at_1 : decode cX10_at 1 = .ok (.iload_n 0, 1) := by decide +kernel
theorem dX10_at_2 : decode cX10_at 2 = .ok (.imul, 1) := by decide +kernel
theorem dX10_at_3 : decode cX10_at 3 = .ok (.iload_n 1, 1) := by decide +kernel
theorem dX10_at_4 : decode cX10_at 4 = .ok (.iadd, 1) := by decide +kernel
theorem dX10_at_5 : decode cX10_at 5 = .ok (.iconst 1, 1) := by decide +kernel
theorem dX10_at_6 : decode cX10_at 6 = .ok (.isub, 1) := by decide +kernel
theorem dX10_at_7 : decode cX10_at 7 = .ok (.ireturn, 1) := by decide +kernel
theorem dX10_processes_0 : decode cX10_processes 0 = .ok (.iload_n 1, 1) := by decide +kernel
theorem dX10_processes_1 : decode cX10_processes 1 = .ok (.i2l, 1) := by decide +kernel
theorem dX10_processes_2 : decode cX10_processes 2 = .ok (.lconst 1, 1) := by decide +kernel
theorem dX10_processes_3 : decode cX10_processes 3 = .ok (.ldc2_w 173, 3) := by decide +kernel
theorem dX10_processes_6 : decode cX10_processes 6 = .ok (.invokestatic 165, 3) := by decide +kernel
theorem dX10_processes_9 : decode cX10_processes 9 = .ok (.ifCond .ne 6, 3) := by decide +kernel
theorem dX10_processes_12 : decode cX10_processes 12 = .ok (.bipush (-2), 2) := by decide +kernel
theorem dX10_processes_14 : decode cX10_processes 14 = .ok (.ireturn, 1) := by decide +kernel
theorem dX10_processes_15 : decode cX10_processes 15 = .ok (.aload_n 0, 1) := by decide +kernel
theorem dX10_processes_16 : decode cX10_processes 16 = .ok (.getfield 9, 3) := by decide +kernel
theorem dX10_processes_19 : decode cX10_processes 19 = .ok (.istore_n 2, 1) := by decide +kernel
theorem dX10_processes_20 : decode cX10_processes 20 = .ok (.aload_n 0, 1) := by decide +kernel
theorem dX10_processes_21 : decode cX10_processes 21 = .ok (.iload_n 1, 1) := by decide +kernel
theorem dX10_processes_22 : decode cX10_processes 22 = .ok (.putfield 9, 3) := by decide +kernel
theorem dX10_processes_25 : decode cX10_processes 25 = .ok (.aload_n 0, 1) := by decide +kernel
theorem dX10_processes_26 : decode cX10_processes 26 = .ok (.iconst 0, 1) := by decide +kernel
theorem dX10_processes_27 : decode cX10_processes 27 = .ok (.putfield 175, 3) := by decide +kernel
theorem dX10_processes_30 : decode cX10_processes 30 = .ok (.aload_n 0, 1) := by decide +kernel
theorem dX10_processes_31 : decode cX10_processes 31 = .ok (.iconst 0, 1) := by decide +kernel
theorem dX10_processes_32 : decode cX10_processes 32 = .ok (.putfield 178, 3) := by decide +kernel
theorem dX10_processes_35 : decode cX10_processes 35 = .ok (.iconst 0, 1) := by decide +kernel
theorem dX10_processes_36 : decode cX10_processes 36 = .ok (.istore_n 3, 1) := by decide +kernel
theorem dX10_processes_37 : decode cX10_processes 37 = .ok (.iload_n 3, 1) := by decide +kernel
theorem dX10_processes_38 : decode cX10_processes 38 = .ok (.iconst 4, 1) := by decide +kernel
theorem dX10_processes_39 : decode cX10_processes 39 = .ok (.if_icmp .ge 23, 3) := by decide +kernel
theorem dX10_processes_42 : decode cX10_processes 42 = .ok (.aload_n 0, 1) := by decide +kernel
theorem dX10_processes_43 : decode cX10_processes 43 = .ok (.getfield 15, 3) := by decide +kernel
theorem dX10_processes_46 : decode cX10_processes 46 = .ok (.iload_n 3, 1) := by decide +kernel
theorem dX10_processes_47 : decode cX10_processes 47 = .ok (.iconst 0, 1) := by decide +kernel
theorem dX10_processes_48 : decode cX10_processes 48 = .ok (.iastore, 1) := by decide +kernel
theorem dX10_processes_49 : decode cX10_processes 49 = .ok (.aload_n 0, 1) := by decide +kernel
theorem dX10_processes_50 : decode cX10_processes 50 = .ok (.getfield 19, 3) := by decide +kernel
theorem dX10_processes_53 : decode cX10_processes 53 = .ok (.iload_n 3, 1) := by decide +kernel
theorem dX10_processes_54 : decode cX10_processes 54 = .ok (.iconst 0, 1) := by decide +kernel
theorem dX10_processes_55 : decode cX10_processes 55 = .ok (.iastore, 1) := by decide +kernel
theorem dX10_processes_56 : decode cX10_processes 56 = .ok (.iinc 3 1, 3) := by decide +kernel
theorem dX10_processes_59 : decode cX10_processes 59 = .ok (.goto (-22), 3) := by decide +kernel
theorem dX10_processes_62 : decode cX10_processes 62 = .ok (.iconst 0, 1) := by decide +kernel
theorem dX10_processes_63 : decode cX10_processes 63 = .ok (.istore_n 3, 1) := by decide +kernel
theorem dX10_processes_64 : decode cX10_processes 64 = .ok (.iload_n 3, 1) := by decide +kernel
theorem dX10_processes_65 : decode cX10_processes 65 = .ok (.iconst 3, 1) := by decide +kernel
theorem dX10_processes_66 : decode cX10_processes 66 = .ok (.if_icmp .ge 16, 3) := by decide +kernel
theorem dX10_processes_69 : decode cX10_processes 69 = .ok (.aload_n 0, 1) := by decide +kernel
theorem dX10_processes_70 : decode cX10_processes 70 = .ok (.getfield 52, 3) := by decide +kernel
theorem dX10_processes_73 : decode cX10_processes 73 = .ok (.iload_n 3, 1) := by decide +kernel
theorem dX10_processes_74 : decode cX10_processes 74 = .ok (.iconst 0, 1) := by decide +kernel
theorem dX10_processes_75 : decode cX10_processes 75 = .ok (.iastore, 1) := by decide +kernel
theorem dX10_processes_76 : decode cX10_processes 76 = .ok (.iinc 3 1, 3) := by decide +kernel
theorem dX10_processes_79 : decode cX10_processes 79 = .ok (.goto (-15), 3) := by decide +kernel
theorem dX10_processes_82 : decode cX10_processes 82 = .ok (.aload_n 0, 1) := by decide +kernel
theorem dX10_processes_83 : decode cX10_processes 83 = .ok (.iconst 0, 1) := by decide +kernel
theorem dX10_processes_84 : decode cX10_processes 84 = .ok (.putfield 181, 3) := by decide +kernel
theorem dX10_processes_87 : decode cX10_processes 87 = .ok (.iload_n 2, 1) := by decide +kernel
theorem dX10_processes_88 : decode cX10_processes 88 = .ok (.ireturn, 1) := by decide +kernel
theorem dX10_start_0 : decode cX10_start 0 = .ok (.aload_n 0, 1) := by decide +kernel
theorem dX10_start_1 : decode cX10_start 1 = .ok (.iload_n 1, 1) := by decide +kernel
theorem dX10_start_2 : decode cX10_start 2 = .ok (.invokevirtual 169, 3) := by decide +kernel
theorem dX10_start_5 : decode cX10_start 5 = .ok (.ifCond .ne 5, 3) := by decide +kernel
theorem dX10_start_8 : decode cX10_start 8 = .ok (.iconst (-1), 1) := by decide +kernel
theorem dX10_start_9 : decode cX10_start 9 = .ok (.ireturn, 1) := by decide +kernel
theorem dX10_start_10 : decode cX10_start 10 = .ok (.iload_n 2, 1) := by decide +kernel
theorem dX10_start_11 : decode cX10_start 11 = .ok (.i2l, 1) := by decide +kernel
theorem dX10_start_12 : decode cX10_start 12 = .ok (.ldc2_w 185, 3) := by decide +kernel
theorem dX10_start_15 : decode cX10_start 15 = .ok (.ldc2_w 187, 3) := by decide +kernel
theorem dX10_start_18 : decode cX10_start 18 = .ok (.invokestatic 165, 3) := by decide +kernel
theorem dX10_start_21 : decode cX10_start 21 = .ok (.ifCond .ne 6, 3) := by decide +kernel
theorem dX10_start_24 : decode cX10_start 24 = .ok (.bipush (-2), 2) := by decide +kernel
theorem dX10_start_26 : decode cX10_start 26 = .ok (.ireturn, 1) := by decide +kernel
theorem dX10_start_27 : decode cX10_start 27 = .ok (.aload_n 0, 1) := by decide +kernel
theorem dX10_start_28 : decode cX10_start 28 = .ok (.getfield 15, 3) := by decide +kernel
theorem dX10_start_31 : decode cX10_start 31 = .ok (.iload_n 1, 1) := by decide +kernel
theorem dX10_start_32 : decode cX10_start 32 = .ok (.iaload, 1) := by decide +kernel
theorem dX10_start_33 : decode cX10_start 33 = .ok (.istore_n 3, 1) := by decide +kernel
theorem dX10_start_34 : decode cX10_start 34 = .ok (.aload_n 0, 1) := by decide +kernel
theorem dX10_start_35 : decode cX10_start 35 = .ok (.getfield 15, 3) := by decide +kernel
theorem dX10_start_38 : decode cX10_start 38 = .ok (.iload_n 1, 1) := by decide +kernel
theorem dX10_start_39 : decode cX10_start 39 = .ok (.iload_n 2, 1) := by decide +kernel
theorem dX10_start_40 : decode cX10_start 40 = .ok (.iastore, 1) := by decide +kernel
theorem dX10_start_41 : decode cX10_start 41 = .ok (.iload_n 3, 1) := by decide +kernel
theorem dX10_start_42 : decode cX10_start 42 = .ok (.bipush 100, 2) := by decide +kernel
theorem dX10_start_44 : decode cX10_start 44 = .ok (.iadd, 1) := by decide +kernel
theorem dX10_start_45 : decode cX10_start 45 = .ok (.ireturn, 1) := by decide +kernel
theorem dX10_comes_0 : decode cX10_comes 0 = .ok (.aload_n 0, 1) := by decide +kernel
theorem dX10_comes_1 : decode cX10_comes 1 = .ok (.getfield 19, 3) := by decide +kernel
theorem dX10_comes_4 : decode cX10_comes 4 = .ok (.iload_n 1, 1) := by decide +kernel
theorem dX10_comes_5 : decode cX10_comes 5 = .ok (.dup2, 1) := by decide +kernel
theorem dX10_comes_6 : decode cX10_comes 6 = .ok (.iaload, 1) := by decide +kernel
theorem dX10_comes_7 : decode cX10_comes 7 = .ok (.iconst 1, 1) := by decide +kernel
theorem dX10_comes_8 : decode cX10_comes 8 = .ok (.iadd, 1) := by decide +kernel
theorem dX10_comes_9 : decode cX10_comes 9 = .ok (.iastore, 1) := by decide +kernel
theorem dX10_comes_10 : decode cX10_comes 10 = .ok (.iload_n 1, 1) := by decide +kernel
theorem dX10_comes_11 : decode cX10_comes 11 = .ok (.aload_n 0, 1) := by decide +kernel
theorem dX10_comes_12 : decode cX10_comes 12 = .ok (.getfield 19, 3) := by decide +kernel
theorem dX10_comes_15 : decode cX10_comes 15 = .ok (.iload_n 1, 1) := by decide +kernel
theorem dX10_comes_16 : decode cX10_comes 16 = .ok (.iaload, 1) := by decide +kernel
theorem dX10_comes_17 : decode cX10_comes 17 = .ok (.invokestatic 189, 3) := by decide +kernel
theorem dX10_comes_20 : decode cX10_comes 20 = .ok (.istore 5, 2) := by decide +kernel
theorem dX10_comes_22 : decode cX10_comes 22 = .ok (.aload_n 0, 1) := by decide +kernel
theorem dX10_comes_23 : decode cX10_comes 23 = .ok (.getfield 22, 3) := by decide +kernel
theorem dX10_comes_26 : decode cX10_comes 26 = .ok (.iload 5, 2) := by decide +kernel
theorem dX10_comes_28 : decode cX10_comes 28 = .ok (.iload_n 2, 1) := by decide +kernel
theorem dX10_comes_29 : decode cX10_comes 29 = .ok (.iastore, 1) := by decide +kernel
theorem dX10_comes_30 : decode cX10_comes 30 = .ok (.aload_n 0, 1) := by decide +kernel
theorem dX10_comes_31 : decode cX10_comes 31 = .ok (.getfield 25, 3) := by decide +kernel
theorem dX10_comes_34 : decode cX10_comes 34 = .ok (.iload 5, 2) := by decide +kernel
theorem dX10_comes_36 : decode cX10_comes 36 = .ok (.iload_n 3, 1) := by decide +kernel
theorem dX10_comes_37 : decode cX10_comes 37 = .ok (.iastore, 1) := by decide +kernel
theorem dX10_comes_38 : decode cX10_comes 38 = .ok (.aload_n 0, 1) := by decide +kernel
theorem dX10_comes_39 : decode cX10_comes 39 = .ok (.getfield 28, 3) := by decide +kernel
theorem dX10_comes_42 : decode cX10_comes 42 = .ok (.iload 5, 2) := by decide +kernel
theorem dX10_comes_44 : decode cX10_comes 44 = .ok (.iload 4, 2) := by decide +kernel
theorem dX10_comes_46 : decode cX10_comes 46 = .ok (.iastore, 1) := by decide +kernel
theorem dX10_comes_47 : decode cX10_comes 47 = .ok (.aload_n 0, 1) := by decide +kernel
theorem dX10_comes_48 : decode cX10_comes 48 = .ok (.getfield 31, 3) := by decide +kernel
theorem dX10_comes_51 : decode cX10_comes 51 = .ok (.iload 5, 2) := by decide +kernel
theorem dX10_comes_53 : decode cX10_comes 53 = .ok (.iconst 0, 1) := by decide +kernel
theorem dX10_comes_54 : decode cX10_comes 54 = .ok (.iastore, 1) := by decide +kernel
theorem dX10_comes_55 : decode cX10_comes 55 = .ok (.iconst 0, 1) := by decide +kernel
theorem dX10_comes_56 : decode cX10_comes 56 = .ok (.istore 6, 2) := by decide +kernel
theorem dX10_comes_58 : decode cX10_comes 58 = .ok (.iload 6, 2) := by decide +kernel
theorem dX10_comes_60 : decode cX10_comes 60 = .ok (.iconst 4, 1) := by decide +kernel
theorem dX10_comes_61 : decode cX10_comes 61 = .ok (.if_icmp .ge 49, 3) := by decide +kernel
theorem dX10_comes_64 : decode cX10_comes 64 = .ok (.aload_n 0, 1) := by decide +kernel
theorem dX10_comes_65 : decode cX10_comes 65 = .ok (.getfield 34, 3) := by decide +kernel
theorem dX10_comes_68 : decode cX10_comes 68 = .ok (.iconst 4, 1) := by decide +kernel
theorem dX10_comes_69 : decode cX10_comes 69 = .ok (.iload 5, 2) := by decide +kernel
theorem dX10_comes_71 : decode cX10_comes 71 = .ok (.imul, 1) := by decide +kernel
theorem dX10_comes_72 : decode cX10_comes 72 = .ok (.iload 6, 2) := by decide +kernel
theorem dX10_comes_74 : decode cX10_comes 74 = .ok (.iadd, 1) := by decide +kernel
theorem dX10_comes_75 : decode cX10_comes 75 = .ok (.aload_n 0, 1) := by decide +kernel
theorem dX10_comes_76 : decode cX10_comes 76 = .ok (.getfield 19, 3) := by decide +kernel
theorem dX10_comes_79 : decode cX10_comes 79 = .ok (.iload_n 1, 1) := by decide +kernel
theorem dX10_comes_80 : decode cX10_comes 80 = .ok (.iaload, 1) := by decide +kernel
theorem dX10_comes_81 : decode cX10_comes 81 = .ok (.iconst 1, 1) := by decide +kernel
theorem dX10_comes_82 : decode cX10_comes 82 = .ok (.if_icmp .le 20, 3) := by decide +kernel
theorem dX10_comes_85 : decode cX10_comes 85 = .ok (.aload_n 0, 1) := by decide +kernel
theorem dX10_comes_86 : decode cX10_comes 86 = .ok (.getfield 34, 3) := by decide +kernel
theorem dX10_comes_89 : decode cX10_comes 89 = .ok (.iconst 4, 1) := by decide +kernel
theorem dX10_comes_90 : decode cX10_comes 90 = .ok (.iload 5, 2) := by decide +kernel
theorem dX10_comes_92 : decode cX10_comes 92 = .ok (.iconst 1, 1) := by decide +kernel
theorem dX10_comes_93 : decode cX10_comes 93 = .ok (.isub, 1) := by decide +kernel
theorem dX10_comes_94 : decode cX10_comes 94 = .ok (.imul, 1) := by decide +kernel
theorem dX10_comes_95 : decode cX10_comes 95 = .ok (.iload 6, 2) := by decide +kernel
theorem dX10_comes_97 : decode cX10_comes 97 = .ok (.iadd, 1) := by decide +kernel
theorem dX10_comes_98 : decode cX10_comes 98 = .ok (.iaload, 1) := by decide +kernel
theorem dX10_comes_99 : decode cX10_comes 99 = .ok (.goto 4, 3) := by decide +kernel
theorem dX10_comes_102 : decode cX10_comes 102 = .ok (.iconst 0, 1) := by decide +kernel
theorem dX10_comes_103 : decode cX10_comes 103 = .ok (.iastore, 1) := by decide +kernel
theorem dX10_comes_104 : decode cX10_comes 104 = .ok (.iinc 6 1, 3) := by decide +kernel
theorem dX10_comes_107 : decode cX10_comes 107 = .ok (.goto (-49), 3) := by decide +kernel
theorem dX10_comes_110 : decode cX10_comes 110 = .ok (.iload_n 2, 1) := by decide +kernel
theorem dX10_comes_111 : decode cX10_comes 111 = .ok (.iconst 2, 1) := by decide +kernel
theorem dX10_comes_112 : decode cX10_comes 112 = .ok (.if_icmp .ne 76, 3) := by decide +kernel
theorem dX10_comes_115 : decode cX10_comes 115 = .ok (.aload_n 0, 1) := by decide +kernel
theorem dX10_comes_116 : decode cX10_comes 116 = .ok (.getfield 40, 3) := by decide +kernel
theorem dX10_comes_119 : decode cX10_comes 119 = .ok (.iload 4, 2) := by decide +kernel
theorem dX10_comes_121 : decode cX10_comes 121 = .ok (.iaload, 1) := by decide +kernel
theorem dX10_comes_122 : decode cX10_comes 122 = .ok (.aload_n 0, 1) := by decide +kernel
theorem dX10_comes_123 : decode cX10_comes 123 = .ok (.getfield 43, 3) := by decide +kernel
theorem dX10_comes_126 : decode cX10_comes 126 = .ok (.iload 4, 2) := by decide +kernel
theorem dX10_comes_128 : decode cX10_comes 128 = .ok (.iaload, 1) := by decide +kernel
theorem dX10_comes_129 : decode cX10_comes 129 = .ok (.invokestatic 189, 3) := by decide +kernel
theorem dX10_comes_132 : decode cX10_comes 132 = .ok (.istore 6, 2) := by decide +kernel
theorem dX10_comes_134 : decode cX10_comes 134 = .ok (.iconst 0, 1) := by decide +kernel
theorem dX10_comes_135 : decode cX10_comes 135 = .ok (.istore 7, 2) := by decide +kernel
theorem dX10_comes_137 : decode cX10_comes 137 = .ok (.iload 7, 2) := by decide +kernel
theorem dX10_comes_139 : decode cX10_comes 139 = .ok (.iconst 4, 1) := by decide +kernel
theorem dX10_comes_140 : decode cX10_comes 140 = .ok (.if_icmp .ge 48, 3) := by decide +kernel
theorem dX10_comes_143 : decode cX10_comes 143 = .ok (.aload_n 0, 1) := by decide +kernel
theorem dX10_comes_144 : decode cX10_comes 144 = .ok (.getfield 34, 3) := by decide +kernel
theorem dX10_comes_147 : decode cX10_comes 147 = .ok (.iconst 4, 1) := by decide +kernel
theorem dX10_comes_148 : decode cX10_comes 148 = .ok (.iload 5, 2) := by decide +kernel
theorem dX10_comes_150 : decode cX10_comes 150 = .ok (.imul, 1) := by decide +kernel
theorem dX10_comes_151 : decode cX10_comes 151 = .ok (.iload 7, 2) := by decide +kernel
theorem dX10_comes_153 : decode cX10_comes 153 = .ok (.iadd, 1) := by decide +kernel
theorem dX10_comes_154 : decode cX10_comes 154 = .ok (.aload_n 0, 1) := by decide +kernel
theorem dX10_comes_155 : decode cX10_comes 155 = .ok (.getfield 34, 3) := by decide +kernel
theorem dX10_comes_158 : decode cX10_comes 158 = .ok (.iconst 4, 1) := by decide +kernel
theorem dX10_comes_159 : decode cX10_comes 159 = .ok (.iload 5, 2) := by decide +kernel
theorem dX10_comes_161 : decode cX10_comes 161 = .ok (.imul, 1) := by decide +kernel
theorem dX10_comes_162 : decode cX10_comes 162 = .ok (.iload 7, 2) := by decide +kernel
theorem dX10_comes_164 : decode cX10_comes 164 = .ok (.iadd, 1) := by decide +kernel
theorem dX10_comes_165 : decode cX10_comes 165 = .ok (.iaload, 1) := by decide +kernel
theorem dX10_comes_166 : decode cX10_comes 166 = .ok (.aload_n 0, 1) := by decide +kernel
theorem dX10_comes_167 : decode cX10_comes 167 = .ok (.getfield 34, 3) := by decide +kernel
theorem dX10_comes_170 : decode cX10_comes 170 = .ok (.iconst 4, 1) := by decide +kernel
theorem dX10_comes_171 : decode cX10_comes 171 = .ok (.iload 6, 2) := by decide +kernel
theorem dX10_comes_173 : decode cX10_comes 173 = .ok (.imul, 1) := by decide +kernel
theorem dX10_comes_174 : decode cX10_comes 174 = .ok (.iload 7, 2) := by decide +kernel
theorem dX10_comes_176 : decode cX10_comes 176 = .ok (.iadd, 1) := by decide +kernel
theorem dX10_comes_177 : decode cX10_comes 177 = .ok (.iaload, 1) := by decide +kernel
theorem dX10_comes_178 : decode cX10_comes 178 = .ok (.invokestatic 193, 3) := by decide +kernel
theorem dX10_comes_181 : decode cX10_comes 181 = .ok (.iastore, 1) := by decide +kernel
theorem dX10_comes_182 : decode cX10_comes 182 = .ok (.iinc 7 1, 3) := by decide +kernel
theorem dX10_comes_185 : decode cX10_comes 185 = .ok (.goto (-48), 3) := by decide +kernel
theorem dX10_comes_188 : decode cX10_comes 188 = .ok (.aload_n 0, 1) := by decide +kernel
theorem dX10_comes_189 : decode cX10_comes 189 = .ok (.getfield 34, 3) := by decide +kernel
theorem dX10_comes_192 : decode cX10_comes 192 = .ok (.iconst 4, 1) := by decide +kernel
theorem dX10_comes_193 : decode cX10_comes 193 = .ok (.iload 5, 2) := by decide +kernel
theorem dX10_comes_195 : decode cX10_comes 195 = .ok (.imul, 1) := by decide +kernel
theorem dX10_comes_196 : decode cX10_comes 196 = .ok (.iload_n 1, 1) := by decide +kernel
theorem dX10_comes_197 : decode cX10_comes 197 = .ok (.iadd, 1) := by decide +kernel
theorem dX10_comes_198 : decode cX10_comes 198 = .ok (.aload_n 0, 1) := by decide +kernel
theorem dX10_comes_199 : decode cX10_comes 199 = .ok (.getfield 19, 3) := by decide +kernel
theorem dX10_comes_202 : decode cX10_comes 202 = .ok (.iload_n 1, 1) := by decide +kernel
theorem dX10_comes_203 : decode cX10_comes 203 = .ok (.iaload, 1) := by decide +kernel
theorem dX10_comes_204 : decode cX10_comes 204 = .ok (.iastore, 1) := by decide +kernel
theorem dX10_comes_205 : decode cX10_comes 205 = .ok (.aload_n 0, 1) := by decide +kernel
theorem dX10_comes_206 : decode cX10_comes 206 = .ok (.getfield 37, 3) := by decide +kernel
theorem dX10_comes_209 : decode cX10_comes 209 = .ok (.aload_n 0, 1) := by decide +kernel
theorem dX10_comes_210 : decode cX10_comes 210 = .ok (.getfield 175, 3) := by decide +kernel
theorem dX10_comes_213 : decode cX10_comes 213 = .ok (.iload_n 1, 1) := by decide +kernel
theorem dX10_comes_214 : decode cX10_comes 214 = .ok (.iastore, 1) := by decide +kernel
theorem dX10_comes_215 : decode cX10_comes 215 = .ok (.aload_n 0, 1) := by decide +kernel
theorem dX10_comes_216 : decode cX10_comes 216 = .ok (.dup, 1) := by decide +kernel
theorem dX10_comes_217 : decode cX10_comes 217 = .ok (.getfield 175, 3) := by decide +kernel
theorem dX10_comes_220 : decode cX10_comes 220 = .ok (.iconst 1, 1) := by decide +kernel
theorem dX10_comes_221 : decode cX10_comes 221 = .ok (.iadd, 1) := by decide +kernel
theorem dX10_comes_222 : decode cX10_comes 222 = .ok (.putfield 175, 3) := by decide +kernel
theorem dX10_comes_225 : decode cX10_comes 225 = .ok (.aload_n 0, 1) := by decide +kernel
theorem dX10_comes_226 : decode cX10_comes 226 = .ok (.iconst 0, 1) := by decide +kernel
theorem dX10_comes_227 : decode cX10_comes 227 = .ok (.putfield 181, 3) := by decide +kernel
theorem dX10_comes_230 : decode cX10_comes 230 = .ok (.aload_n 0, 1) := by decide +kernel
theorem dX10_comes_231 : decode cX10_comes 231 = .ok (.getfield 19, 3) := by decide +kernel
theorem dX10_comes_234 : decode cX10_comes 234 = .ok (.iload_n 1, 1) := by decide +kernel
theorem dX10_comes_235 : decode cX10_comes 235 = .ok (.iaload, 1) := by decide +kernel
theorem dX10_comes_236 : decode cX10_comes 236 = .ok (.ireturn, 1) := by decide +kernel
theorem dX10_step_0 : decode cX10_step 0 = .ok (.aload_n 0, 1) := by decide +kernel
theorem dX10_step_1 : decode cX10_step 1 = .ok (.iload_n 1, 1) := by decide +kernel
theorem dX10_step_2 : decode cX10_step 2 = .ok (.invokevirtual 169, 3) := by decide +kernel
theorem dX10_step_5 : decode cX10_step 5 = .ok (.ifCond .ne 5, 3) := by decide +kernel
theorem dX10_step_8 : decode cX10_step 8 = .ok (.iconst (-1), 1) := by decide +kernel
theorem dX10_step_9 : decode cX10_step 9 = .ok (.ireturn, 1) := by decide +kernel
theorem dX10_step_10 : decode cX10_step 10 = .ok (.iload_n 2, 1) := by decide +kernel
theorem dX10_step_11 : decode cX10_step 11 = .ok (.i2l, 1) := by decide +kernel
theorem dX10_step_12 : decode cX10_step 12 = .ok (.ldc2_w 185, 3) := by decide +kernel
theorem dX10_step_15 : decode cX10_step 15 = .ok (.ldc2_w 187, 3) := by decide +kernel
theorem dX10_step_18 : decode cX10_step 18 = .ok (.invokestatic 165, 3) := by decide +kernel
theorem dX10_step_21 : decode cX10_step 21 = .ok (.ifCond .ne 6, 3) := by decide +kernel
theorem dX10_step_24 : decode cX10_step 24 = .ok (.bipush (-2), 2) := by decide +kernel
theorem dX10_step_26 : decode cX10_step 26 = .ok (.ireturn, 1) := by decide +kernel
theorem dX10_step_27 : decode cX10_step 27 = .ok (.aload_n 0, 1) := by decide +kernel
theorem dX10_step_28 : decode cX10_step 28 = .ok (.getfield 19, 3) := by decide +kernel
theorem dX10_step_31 : decode cX10_step 31 = .ok (.iload_n 1, 1) := by decide +kernel
theorem dX10_step_32 : decode cX10_step 32 = .ok (.iaload, 1) := by decide +kernel
theorem dX10_step_33 : decode cX10_step 33 = .ok (.iconst 5, 1) := by decide +kernel
theorem dX10_step_34 : decode cX10_step 34 = .ok (.if_icmp .ne 8, 3) := by decide +kernel
theorem dX10_step_37 : decode cX10_step 37 = .ok (.bipush (-4), 2) := by decide +kernel
theorem dX10_step_39 : decode cX10_step 39 = .ok (.goto 12, 3) := by decide +kernel
theorem dX10_step_42 : decode cX10_step 42 = .ok (.aload_n 0, 1) := by decide +kernel
theorem dX10_step_43 : decode cX10_step 43 = .ok (.iload_n 1, 1) := by decide +kernel
theorem dX10_step_44 : decode cX10_step 44 = .ok (.iconst 0, 1) := by decide +kernel
theorem dX10_step_45 : decode cX10_step 45 = .ok (.iload_n 2, 1) := by decide +kernel
theorem dX10_step_46 : decode cX10_step 46 = .ok (.bipush (-5), 2) := by decide +kernel
theorem dX10_step_48 : decode cX10_step 48 = .ok (.invokevirtual 198, 3) := by decide +kernel
theorem dX10_step_51 : decode cX10_step 51 = .ok (.ireturn, 1) := by decide +kernel
theorem dX10_send_0 : decode cX10_send 0 = .ok (.aload_n 0, 1) := by decide +kernel
theorem dX10_send_1 : decode cX10_send 1 = .ok (.iload_n 1, 1) := by decide +kernel
theorem dX10_send_2 : decode cX10_send 2 = .ok (.invokevirtual 169, 3) := by decide +kernel
theorem dX10_send_5 : decode cX10_send 5 = .ok (.ifCond .ne 5, 3) := by decide +kernel
theorem dX10_send_8 : decode cX10_send 8 = .ok (.iconst (-1), 1) := by decide +kernel
theorem dX10_send_9 : decode cX10_send 9 = .ok (.ireturn, 1) := by decide +kernel
theorem dX10_send_10 : decode cX10_send 10 = .ok (.iload_n 2, 1) := by decide +kernel
theorem dX10_send_11 : decode cX10_send 11 = .ok (.i2l, 1) := by decide +kernel
theorem dX10_send_12 : decode cX10_send 12 = .ok (.ldc2_w 185, 3) := by decide +kernel
theorem dX10_send_15 : decode cX10_send 15 = .ok (.ldc2_w 187, 3) := by decide +kernel
theorem dX10_send_18 : decode cX10_send 18 = .ok (.invokestatic 165, 3) := by decide +kernel
theorem dX10_send_21 : decode cX10_send 21 = .ok (.ifCond .ne 6, 3) := by decide +kernel
theorem dX10_send_24 : decode cX10_send 24 = .ok (.bipush (-2), 2) := by decide +kernel
theorem dX10_send_26 : decode cX10_send 26 = .ok (.ireturn, 1) := by decide +kernel
theorem dX10_send_27 : decode cX10_send 27 = .ok (.aload_n 0, 1) := by decide +kernel
theorem dX10_send_28 : decode cX10_send 28 = .ok (.getfield 19, 3) := by decide +kernel
theorem dX10_send_31 : decode cX10_send 31 = .ok (.iload_n 1, 1) := by decide +kernel
theorem dX10_send_32 : decode cX10_send 32 = .ok (.iaload, 1) := by decide +kernel
theorem dX10_send_33 : decode cX10_send 33 = .ok (.iconst 5, 1) := by decide +kernel
theorem dX10_send_34 : decode cX10_send 34 = .ok (.if_icmp .eq 12, 3) := by decide +kernel
theorem dX10_send_37 : decode cX10_send 37 = .ok (.aload_n 0, 1) := by decide +kernel
theorem dX10_send_38 : decode cX10_send 38 = .ok (.getfield 178, 3) := by decide +kernel
theorem dX10_send_41 : decode cX10_send 41 = .ok (.bipush 8, 2) := by decide +kernel
theorem dX10_send_43 : decode cX10_send 43 = .ok (.if_icmp .ne 6, 3) := by decide +kernel
theorem dX10_send_46 : decode cX10_send 46 = .ok (.bipush (-4), 2) := by decide +kernel
theorem dX10_send_48 : decode cX10_send 48 = .ok (.ireturn, 1) := by decide +kernel
theorem dX10_send_49 : decode cX10_send 49 = .ok (.aload_n 0, 1) := by decide +kernel
theorem dX10_send_50 : decode cX10_send 50 = .ok (.getfield 178, 3) := by decide +kernel
theorem dX10_send_53 : decode cX10_send 53 = .ok (.istore_n 3, 1) := by decide +kernel
theorem dX10_send_54 : decode cX10_send 54 = .ok (.aload_n 0, 1) := by decide +kernel
theorem dX10_send_55 : decode cX10_send 55 = .ok (.dup, 1) := by decide +kernel
theorem dX10_send_56 : decode cX10_send 56 = .ok (.getfield 178, 3) := by decide +kernel
theorem dX10_send_59 : decode cX10_send 59 = .ok (.iconst 1, 1) := by decide +kernel
theorem dX10_send_60 : decode cX10_send 60 = .ok (.iadd, 1) := by decide +kernel
theorem dX10_send_61 : decode cX10_send 61 = .ok (.putfield 178, 3) := by decide +kernel
theorem dX10_send_64 : decode cX10_send 64 = .ok (.aload_n 0, 1) := by decide +kernel
theorem dX10_send_65 : decode cX10_send 65 = .ok (.getfield 40, 3) := by decide +kernel
theorem dX10_send_68 : decode cX10_send 68 = .ok (.iload_n 3, 1) := by decide +kernel
theorem dX10_send_69 : decode cX10_send 69 = .ok (.iload_n 1, 1) := by decide +kernel
theorem dX10_send_70 : decode cX10_send 70 = .ok (.iastore, 1) := by decide +kernel
theorem dX10_send_71 : decode cX10_send 71 = .ok (.aload_n 0, 1) := by decide +kernel
theorem dX10_send_72 : decode cX10_send 72 = .ok (.getfield 43, 3) := by decide +kernel
theorem dX10_send_75 : decode cX10_send 75 = .ok (.iload_n 3, 1) := by decide +kernel
theorem dX10_send_76 : decode cX10_send 76 = .ok (.aload_n 0, 1) := by decide +kernel
theorem dX10_send_77 : decode cX10_send 77 = .ok (.iload_n 1, 1) := by decide +kernel
theorem dX10_send_78 : decode cX10_send 78 = .ok (.iconst 1, 1) := by decide +kernel
theorem dX10_send_79 : decode cX10_send 79 = .ok (.iload_n 2, 1) := by decide +kernel
theorem dX10_send_80 : decode cX10_send 80 = .ok (.iload_n 3, 1) := by decide +kernel
theorem dX10_send_81 : decode cX10_send 81 = .ok (.invokevirtual 198, 3) := by decide +kernel
theorem dX10_send_84 : decode cX10_send 84 = .ok (.iastore, 1) := by decide +kernel
theorem dX10_send_85 : decode cX10_send 85 = .ok (.aload_n 0, 1) := by decide +kernel
theorem dX10_send_86 : decode cX10_send 86 = .ok (.getfield 46, 3) := by decide +kernel
theorem dX10_send_89 : decode cX10_send 89 = .ok (.iload_n 3, 1) := by decide +kernel
theorem dX10_send_90 : decode cX10_send 90 = .ok (.bipush (-5), 2) := by decide +kernel
theorem dX10_send_92 : decode cX10_send 92 = .ok (.iastore, 1) := by decide +kernel
theorem dX10_send_93 : decode cX10_send 93 = .ok (.aload_n 0, 1) := by decide +kernel
theorem dX10_send_94 : decode cX10_send 94 = .ok (.getfield 49, 3) := by decide +kernel
theorem dX10_send_97 : decode cX10_send 97 = .ok (.iload_n 3, 1) := by decide +kernel
theorem dX10_send_98 : decode cX10_send 98 = .ok (.bipush (-5), 2) := by decide +kernel
theorem dX10_send_100 : decode cX10_send 100 = .ok (.iastore, 1) := by decide +kernel
theorem dX10_send_101 : decode cX10_send 101 = .ok (.iload_n 3, 1) := by decide +kernel
theorem dX10_send_102 : decode cX10_send 102 = .ok (.ireturn, 1) := by decide +kernel
theorem dX10_take_0 : decode cX10_take 0 = .ok (.aload_n 0, 1) := by decide +kernel
theorem dX10_take_1 : decode cX10_take 1 = .ok (.iload_n 1, 1) := by decide +kernel
theorem dX10_take_2 : decode cX10_take 2 = .ok (.invokevirtual 169, 3) := by decide +kernel
theorem dX10_take_5 : decode cX10_take 5 = .ok (.ifCond .eq 19, 3) := by decide +kernel
theorem dX10_take_8 : decode cX10_take 8 = .ok (.iload_n 2, 1) := by decide +kernel
theorem dX10_take_9 : decode cX10_take 9 = .ok (.i2l, 1) := by decide +kernel
theorem dX10_take_10 : decode cX10_take 10 = .ok (.lconst 0, 1) := by decide +kernel
theorem dX10_take_11 : decode cX10_take 11 = .ok (.aload_n 0, 1) := by decide +kernel
theorem dX10_take_12 : decode cX10_take 12 = .ok (.getfield 178, 3) := by decide +kernel
theorem dX10_take_15 : decode cX10_take 15 = .ok (.iconst 1, 1) := by decide +kernel
theorem dX10_take_16 : decode cX10_take 16 = .ok (.isub, 1) := by decide +kernel
theorem dX10_take_17 : decode cX10_take 17 = .ok (.i2l, 1) := by decide +kernel
theorem dX10_take_18 : decode cX10_take 18 = .ok (.invokestatic 165, 3) := by decide +kernel
theorem dX10_take_21 : decode cX10_take 21 = .ok (.ifCond .ne 5, 3) := by decide +kernel
theorem dX10_take_24 : decode cX10_take 24 = .ok (.iconst (-1), 1) := by decide +kernel
theorem dX10_take_25 : decode cX10_take 25 = .ok (.ireturn, 1) := by decide +kernel
theorem dX10_take_26 : decode cX10_take 26 = .ok (.iload_n 3, 1) := by decide +kernel
theorem dX10_take_27 : decode cX10_take 27 = .ok (.i2l, 1) := by decide +kernel
theorem dX10_take_28 : decode cX10_take 28 = .ok (.ldc2_w 185, 3) := by decide +kernel
theorem dX10_take_31 : decode cX10_take 31 = .ok (.ldc2_w 187, 3) := by decide +kernel
theorem dX10_take_34 : decode cX10_take 34 = .ok (.invokestatic 165, 3) := by decide +kernel
theorem dX10_take_37 : decode cX10_take 37 = .ok (.ifCond .ne 6, 3) := by decide +kernel
theorem dX10_take_40 : decode cX10_take 40 = .ok (.bipush (-2), 2) := by decide +kernel
theorem dX10_take_42 : decode cX10_take 42 = .ok (.ireturn, 1) := by decide +kernel
theorem dX10_take_43 : decode cX10_take 43 = .ok (.aload_n 0, 1) := by decide +kernel
theorem dX10_take_44 : decode cX10_take 44 = .ok (.getfield 46, 3) := by decide +kernel
theorem dX10_take_47 : decode cX10_take 47 = .ok (.iload_n 2, 1) := by decide +kernel
theorem dX10_take_48 : decode cX10_take 48 = .ok (.iaload, 1) := by decide +kernel
theorem dX10_take_49 : decode cX10_take 49 = .ok (.ifCond .lt 6, 3) := by decide +kernel
theorem dX10_take_52 : decode cX10_take 52 = .ok (.bipush (-3), 2) := by decide +kernel
theorem dX10_take_54 : decode cX10_take 54 = .ok (.ireturn, 1) := by decide +kernel
theorem dX10_take_55 : decode cX10_take 55 = .ok (.aload_n 0, 1) := by decide +kernel
theorem dX10_take_56 : decode cX10_take 56 = .ok (.getfield 19, 3) := by decide +kernel
theorem dX10_take_59 : decode cX10_take 59 = .ok (.iload_n 1, 1) := by decide +kernel
theorem dX10_take_60 : decode cX10_take 60 = .ok (.iaload, 1) := by decide +kernel
theorem dX10_take_61 : decode cX10_take 61 = .ok (.iconst 5, 1) := by decide +kernel
theorem dX10_take_62 : decode cX10_take 62 = .ok (.if_icmp .ne 6, 3) := by decide +kernel
theorem dX10_take_65 : decode cX10_take 65 = .ok (.bipush (-4), 2) := by decide +kernel
theorem dX10_take_67 : decode cX10_take 67 = .ok (.ireturn, 1) := by decide +kernel
theorem dX10_take_68 : decode cX10_take 68 = .ok (.aload_n 0, 1) := by decide +kernel
theorem dX10_take_69 : decode cX10_take 69 = .ok (.iload_n 1, 1) := by decide +kernel
theorem dX10_take_70 : decode cX10_take 70 = .ok (.iconst 2, 1) := by decide +kernel
theorem dX10_take_71 : decode cX10_take 71 = .ok (.iload_n 3, 1) := by decide +kernel
theorem dX10_take_72 : decode cX10_take 72 = .ok (.iload_n 2, 1) := by decide +kernel
theorem dX10_take_73 : decode cX10_take 73 = .ok (.invokevirtual 198, 3) := by decide +kernel
theorem dX10_take_76 : decode cX10_take 76 = .ok (.istore 4, 2) := by decide +kernel
theorem dX10_take_78 : decode cX10_take 78 = .ok (.aload_n 0, 1) := by decide +kernel
theorem dX10_take_79 : decode cX10_take 79 = .ok (.getfield 46, 3) := by decide +kernel
theorem dX10_take_82 : decode cX10_take 82 = .ok (.iload_n 2, 1) := by decide +kernel
theorem dX10_take_83 : decode cX10_take 83 = .ok (.iload_n 1, 1) := by decide +kernel
theorem dX10_take_84 : decode cX10_take 84 = .ok (.iastore, 1) := by decide +kernel
theorem dX10_take_85 : decode cX10_take 85 = .ok (.aload_n 0, 1) := by decide +kernel
theorem dX10_take_86 : decode cX10_take 86 = .ok (.getfield 49, 3) := by decide +kernel
theorem dX10_take_89 : decode cX10_take 89 = .ok (.iload_n 2, 1) := by decide +kernel
theorem dX10_take_90 : decode cX10_take 90 = .ok (.iload 4, 2) := by decide +kernel
theorem dX10_take_92 : decode cX10_take 92 = .ok (.iastore, 1) := by decide +kernel
theorem dX10_take_93 : decode cX10_take 93 = .ok (.iload 4, 2) := by decide +kernel
theorem dX10_take_95 : decode cX10_take 95 = .ok (.ireturn, 1) := by decide +kernel
theorem dX10_back_0 : decode cX10_back 0 = .ok (.aload_n 0, 1) := by decide +kernel
theorem dX10_back_1 : decode cX10_back 1 = .ok (.getfield 175, 3) := by decide +kernel
theorem dX10_back_4 : decode cX10_back 4 = .ok (.ifCond .ne 6, 3) := by decide +kernel
theorem dX10_back_7 : decode cX10_back 7 = .ok (.bipush (-3), 2) := by decide +kernel
theorem dX10_back_9 : decode cX10_back 9 = .ok (.ireturn, 1) := by decide +kernel
theorem dX10_back_10 : decode cX10_back 10 = .ok (.aload_n 0, 1) := by decide +kernel
theorem dX10_back_11 : decode cX10_back 11 = .ok (.dup, 1) := by decide +kernel
theorem dX10_back_12 : decode cX10_back 12 = .ok (.getfield 175, 3) := by decide +kernel
theorem dX10_back_15 : decode cX10_back 15 = .ok (.iconst 1, 1) := by decide +kernel
theorem dX10_back_16 : decode cX10_back 16 = .ok (.isub, 1) := by decide +kernel
theorem dX10_back_17 : decode cX10_back 17 = .ok (.putfield 175, 3) := by decide +kernel
theorem dX10_back_20 : decode cX10_back 20 = .ok (.aload_n 0, 1) := by decide +kernel
theorem dX10_back_21 : decode cX10_back 21 = .ok (.getfield 37, 3) := by decide +kernel
theorem dX10_back_24 : decode cX10_back 24 = .ok (.aload_n 0, 1) := by decide +kernel
theorem dX10_back_25 : decode cX10_back 25 = .ok (.getfield 175, 3) := by decide +kernel
theorem dX10_back_28 : decode cX10_back 28 = .ok (.iaload, 1) := by decide +kernel
theorem dX10_back_29 : decode cX10_back 29 = .ok (.istore_n 1, 1) := by decide +kernel
theorem dX10_back_30 : decode cX10_back 30 = .ok (.iload_n 1, 1) := by decide +kernel
theorem dX10_back_31 : decode cX10_back 31 = .ok (.aload_n 0, 1) := by decide +kernel
theorem dX10_back_32 : decode cX10_back 32 = .ok (.getfield 19, 3) := by decide +kernel
theorem dX10_back_35 : decode cX10_back 35 = .ok (.iload_n 1, 1) := by decide +kernel
theorem dX10_back_36 : decode cX10_back 36 = .ok (.iaload, 1) := by decide +kernel
theorem dX10_back_37 : decode cX10_back 37 = .ok (.invokestatic 189, 3) := by decide +kernel
theorem dX10_back_40 : decode cX10_back 40 = .ok (.istore_n 2, 1) := by decide +kernel
theorem dX10_back_41 : decode cX10_back 41 = .ok (.aload_n 0, 1) := by decide +kernel
theorem dX10_back_42 : decode cX10_back 42 = .ok (.getfield 22, 3) := by decide +kernel
theorem dX10_back_45 : decode cX10_back 45 = .ok (.iload_n 2, 1) := by decide +kernel
theorem dX10_back_46 : decode cX10_back 46 = .ok (.iaload, 1) := by decide +kernel
theorem dX10_back_47 : decode cX10_back 47 = .ok (.iconst 1, 1) := by decide +kernel
theorem dX10_back_48 : decode cX10_back 48 = .ok (.if_icmp .ne 13, 3) := by decide +kernel
theorem dX10_back_51 : decode cX10_back 51 = .ok (.aload_n 0, 1) := by decide +kernel
theorem dX10_back_52 : decode cX10_back 52 = .ok (.dup, 1) := by decide +kernel
theorem dX10_back_53 : decode cX10_back 53 = .ok (.getfield 178, 3) := by decide +kernel
theorem dX10_back_56 : decode cX10_back 56 = .ok (.iconst 1, 1) := by decide +kernel
theorem dX10_back_57 : decode cX10_back 57 = .ok (.isub, 1) := by decide +kernel
theorem dX10_back_58 : decode cX10_back 58 = .ok (.putfield 178, 3) := by decide +kernel
theorem dX10_back_61 : decode cX10_back 61 = .ok (.aload_n 0, 1) := by decide +kernel
theorem dX10_back_62 : decode cX10_back 62 = .ok (.getfield 22, 3) := by decide +kernel
theorem dX10_back_65 : decode cX10_back 65 = .ok (.iload_n 2, 1) := by decide +kernel
theorem dX10_back_66 : decode cX10_back 66 = .ok (.iaload, 1) := by decide +kernel
theorem dX10_back_67 : decode cX10_back 67 = .ok (.iconst 2, 1) := by decide +kernel
theorem dX10_back_68 : decode cX10_back 68 = .ok (.if_icmp .ne 29, 3) := by decide +kernel
theorem dX10_back_71 : decode cX10_back 71 = .ok (.aload_n 0, 1) := by decide +kernel
theorem dX10_back_72 : decode cX10_back 72 = .ok (.getfield 46, 3) := by decide +kernel
theorem dX10_back_75 : decode cX10_back 75 = .ok (.aload_n 0, 1) := by decide +kernel
theorem dX10_back_76 : decode cX10_back 76 = .ok (.getfield 28, 3) := by decide +kernel
theorem dX10_back_79 : decode cX10_back 79 = .ok (.iload_n 2, 1) := by decide +kernel
theorem dX10_back_80 : decode cX10_back 80 = .ok (.iaload, 1) := by decide +kernel
theorem dX10_back_81 : decode cX10_back 81 = .ok (.bipush (-5), 2) := by decide +kernel
theorem dX10_back_83 : decode cX10_back 83 = .ok (.iastore, 1) := by decide +kernel
theorem dX10_back_84 : decode cX10_back 84 = .ok (.aload_n 0, 1) := by decide +kernel
theorem dX10_back_85 : decode cX10_back 85 = .ok (.getfield 49, 3) := by decide +kernel
theorem dX10_back_88 : decode cX10_back 88 = .ok (.aload_n 0, 1) := by decide +kernel
theorem dX10_back_89 : decode cX10_back 89 = .ok (.getfield 28, 3) := by decide +kernel
theorem dX10_back_92 : decode cX10_back 92 = .ok (.iload_n 2, 1) := by decide +kernel
theorem dX10_back_93 : decode cX10_back 93 = .ok (.iaload, 1) := by decide +kernel
theorem dX10_back_94 : decode cX10_back 94 = .ok (.bipush (-5), 2) := by decide +kernel
theorem dX10_back_96 : decode cX10_back 96 = .ok (.iastore, 1) := by decide +kernel
theorem dX10_back_97 : decode cX10_back 97 = .ok (.aload_n 0, 1) := by decide +kernel
theorem dX10_back_98 : decode cX10_back 98 = .ok (.getfield 19, 3) := by decide +kernel
theorem dX10_back_101 : decode cX10_back 101 = .ok (.iload_n 1, 1) := by decide +kernel
theorem dX10_back_102 : decode cX10_back 102 = .ok (.dup2, 1) := by decide +kernel
theorem dX10_back_103 : decode cX10_back 103 = .ok (.iaload, 1) := by decide +kernel
theorem dX10_back_104 : decode cX10_back 104 = .ok (.iconst 1, 1) := by decide +kernel
theorem dX10_back_105 : decode cX10_back 105 = .ok (.isub, 1) := by decide +kernel
theorem dX10_back_106 : decode cX10_back 106 = .ok (.iastore, 1) := by decide +kernel
theorem dX10_back_107 : decode cX10_back 107 = .ok (.aload_n 0, 1) := by decide +kernel
theorem dX10_back_108 : decode cX10_back 108 = .ok (.iconst 0, 1) := by decide +kernel
theorem dX10_back_109 : decode cX10_back 109 = .ok (.putfield 181, 3) := by decide +kernel
theorem dX10_back_112 : decode cX10_back 112 = .ok (.aload_n 0, 1) := by decide +kernel
theorem dX10_back_113 : decode cX10_back 113 = .ok (.getfield 175, 3) := by decide +kernel
theorem dX10_back_116 : decode cX10_back 116 = .ok (.ireturn, 1) := by decide +kernel
theorem dX10_eventOf_0 : decode cX10_eventOf 0 = .ok (.aload_n 0, 1) := by decide +kernel
theorem dX10_eventOf_1 : decode cX10_eventOf 1 = .ok (.iload_n 1, 1) := by decide +kernel
theorem dX10_eventOf_2 : decode cX10_eventOf 2 = .ok (.iload_n 2, 1) := by decide +kernel
theorem dX10_eventOf_3 : decode cX10_eventOf 3 = .ok (.invokevirtual 202, 3) := by decide +kernel
theorem dX10_eventOf_6 : decode cX10_eventOf 6 = .ok (.ifCond .eq 15, 3) := by decide +kernel
theorem dX10_eventOf_9 : decode cX10_eventOf 9 = .ok (.iload_n 3, 1) := by decide +kernel
theorem dX10_eventOf_10 : decode cX10_eventOf 10 = .ok (.i2l, 1) := by decide +kernel
theorem dX10_eventOf_11 : decode cX10_eventOf 11 = .ok (.lconst 0, 1) := by decide +kernel
theorem dX10_eventOf_12 : decode cX10_eventOf 12 = .ok (.ldc2_w 206, 3) := by decide +kernel
theorem dX10_eventOf_15 : decode cX10_eventOf 15 = .ok (.invokestatic 165, 3) := by decide +kernel
theorem dX10_eventOf_18 : decode cX10_eventOf 18 = .ok (.ifCond .ne 5, 3) := by decide +kernel
theorem dX10_eventOf_21 : decode cX10_eventOf 21 = .ok (.iconst (-1), 1) := by decide +kernel
theorem dX10_eventOf_22 : decode cX10_eventOf 22 = .ok (.ireturn, 1) := by decide +kernel
theorem dX10_eventOf_23 : decode cX10_eventOf 23 = .ok (.iload_n 1, 1) := by decide +kernel
theorem dX10_eventOf_24 : decode cX10_eventOf 24 = .ok (.iload_n 2, 1) := by decide +kernel
theorem dX10_eventOf_25 : decode cX10_eventOf 25 = .ok (.invokestatic 189, 3) := by decide +kernel
theorem dX10_eventOf_28 : decode cX10_eventOf 28 = .ok (.istore 4, 2) := by decide +kernel
theorem dX10_eventOf_30 : decode cX10_eventOf 30 = .ok (.iload_n 3, 1) := by decide +kernel
theorem dX10_eventOf_31 : decode cX10_eventOf 31 = .ok (.ifCond .ne 13, 3) := by decide +kernel
theorem dX10_eventOf_34 : decode cX10_eventOf 34 = .ok (.aload_n 0, 1) := by decide +kernel
theorem dX10_eventOf_35 : decode cX10_eventOf 35 = .ok (.getfield 22, 3) := by decide +kernel
theorem dX10_eventOf_38 : decode cX10_eventOf 38 = .ok (.iload 4, 2) := by decide +kernel
theorem dX10_eventOf_40 : decode cX10_eventOf 40 = .ok (.iaload, 1) := by decide +kernel
theorem dX10_eventOf_41 : decode cX10_eventOf 41 = .ok (.goto 43, 3) := by decide +kernel
theorem dX10_eventOf_44 : decode cX10_eventOf 44 = .ok (.iload_n 3, 1) := by decide +kernel
theorem dX10_eventOf_45 : decode cX10_eventOf 45 = .ok (.iconst 1, 1) := by decide +kernel
theorem dX10_eventOf_46 : decode cX10_eventOf 46 = .ok (.if_icmp .ne 16, 3) := by decide +kernel
theorem dX10_eventOf_49 : decode cX10_eventOf 49 = .ok (.aload_n 0, 1) := by decide +kernel
theorem dX10_eventOf_50 : decode cX10_eventOf 50 = .ok (.getfield 25, 3) := by decide +kernel
theorem dX10_eventOf_53 : decode cX10_eventOf 53 = .ok (.iload 4, 2) := by decide +kernel
theorem dX10_eventOf_55 : decode cX10_eventOf 55 = .ok (.iaload, 1) := by decide +kernel
theorem dX10_eventOf_56 : decode cX10_eventOf 56 = .ok (.bipush 100, 2) := by decide +kernel
theorem dX10_eventOf_58 : decode cX10_eventOf 58 = .ok (.iadd, 1) := by decide +kernel
theorem dX10_eventOf_59 : decode cX10_eventOf 59 = .ok (.goto 25, 3) := by decide +kernel
theorem dX10_eventOf_62 : decode cX10_eventOf 62 = .ok (.iload_n 3, 1) := by decide +kernel
theorem dX10_eventOf_63 : decode cX10_eventOf 63 = .ok (.iconst 2, 1) := by decide +kernel
theorem dX10_eventOf_64 : decode cX10_eventOf 64 = .ok (.if_icmp .ne 13, 3) := by decide +kernel
theorem dX10_eventOf_67 : decode cX10_eventOf 67 = .ok (.aload_n 0, 1) := by decide +kernel
theorem dX10_eventOf_68 : decode cX10_eventOf 68 = .ok (.getfield 28, 3) := by decide +kernel
theorem dX10_eventOf_71 : decode cX10_eventOf 71 = .ok (.iload 4, 2) := by decide +kernel
theorem dX10_eventOf_73 : decode cX10_eventOf 73 = .ok (.iaload, 1) := by decide +kernel
theorem dX10_eventOf_74 : decode cX10_eventOf 74 = .ok (.goto 10, 3) := by decide +kernel
theorem dX10_eventOf_77 : decode cX10_eventOf 77 = .ok (.aload_n 0, 1) := by decide +kernel
theorem dX10_eventOf_78 : decode cX10_eventOf 78 = .ok (.getfield 31, 3) := by decide +kernel
theorem dX10_eventOf_81 : decode cX10_eventOf 81 = .ok (.iload 4, 2) := by decide +kernel
theorem dX10_eventOf_83 : decode cX10_eventOf 83 = .ok (.iaload, 1) := by decide +kernel
theorem dX10_eventOf_84 : decode cX10_eventOf 84 = .ok (.ireturn, 1) := by decide +kernel
theorem dX10_clock_0 : decode cX10_clock 0 = .ok (.aload_n 0, 1) := by decide +kernel
theorem dX10_clock_1 : decode cX10_clock 1 = .ok (.iload_n 1, 1) := by decide +kernel
theorem dX10_clock_2 : decode cX10_clock 2 = .ok (.iload_n 2, 1) := by decide +kernel
theorem dX10_clock_3 : decode cX10_clock 3 = .ok (.invokevirtual 202, 3) := by decide +kernel
theorem dX10_clock_6 : decode cX10_clock 6 = .ok (.ifCond .eq 28, 3) := by decide +kernel
theorem dX10_clock_9 : decode cX10_clock 9 = .ok (.aload_n 0, 1) := by decide +kernel
theorem dX10_clock_10 : decode cX10_clock 10 = .ok (.iload_n 3, 1) := by decide +kernel
theorem dX10_clock_11 : decode cX10_clock 11 = .ok (.invokevirtual 169, 3) := by decide +kernel
theorem dX10_clock_14 : decode cX10_clock 14 = .ok (.ifCond .eq 20, 3) := by decide +kernel
theorem dX10_clock_17 : decode cX10_clock 17 = .ok (.aload_n 0, 1) := by decide +kernel
theorem dX10_clock_18 : decode cX10_clock 18 = .ok (.getfield 34, 3) := by decide +kernel
theorem dX10_clock_21 : decode cX10_clock 21 = .ok (.iconst 4, 1) := by decide +kernel
theorem dX10_clock_22 : decode cX10_clock 22 = .ok (.iload_n 1, 1) := by decide +kernel
theorem dX10_clock_23 : decode cX10_clock 23 = .ok (.iload_n 2, 1) := by decide +kernel
theorem dX10_clock_24 : decode cX10_clock 24 = .ok (.invokestatic 189, 3) := by decide +kernel
theorem dX10_clock_27 : decode cX10_clock 27 = .ok (.imul, 1) := by decide +kernel
theorem dX10_clock_28 : decode cX10_clock 28 = .ok (.iload_n 3, 1) := by decide +kernel
theorem dX10_clock_29 : decode cX10_clock 29 = .ok (.iadd, 1) := by decide +kernel
theorem dX10_clock_30 : decode cX10_clock 30 = .ok (.iaload, 1) := by decide +kernel
theorem dX10_clock_31 : decode cX10_clock 31 = .ok (.goto 4, 3) := by decide +kernel
theorem dX10_clock_34 : decode cX10_clock 34 = .ok (.iconst (-1), 1) := by decide +kernel
theorem dX10_clock_35 : decode cX10_clock 35 = .ok (.ireturn, 1) := by decide +kernel
theorem dX10_ahead_0 : decode cX10_ahead 0 = .ok (.aload_n 0, 1) := by decide +kernel
theorem dX10_ahead_1 : decode cX10_ahead 1 = .ok (.iload_n 1, 1) := by decide +kernel
theorem dX10_ahead_2 : decode cX10_ahead 2 = .ok (.iload_n 2, 1) := by decide +kernel
theorem dX10_ahead_3 : decode cX10_ahead 3 = .ok (.invokevirtual 202, 3) := by decide +kernel
theorem dX10_ahead_6 : decode cX10_ahead 6 = .ok (.ifCond .eq 13, 3) := by decide +kernel
theorem dX10_ahead_9 : decode cX10_ahead 9 = .ok (.aload_n 0, 1) := by decide +kernel
theorem dX10_ahead_10 : decode cX10_ahead 10 = .ok (.iload_n 3, 1) := by decide +kernel
theorem dX10_ahead_11 : decode cX10_ahead 11 = .ok (.iload 4, 2) := by decide +kernel
theorem dX10_ahead_13 : decode cX10_ahead 13 = .ok (.invokevirtual 202, 3) := by decide +kernel
theorem dX10_ahead_16 : decode cX10_ahead 16 = .ok (.ifCond .ne 5, 3) := by decide +kernel
theorem dX10_ahead_19 : decode cX10_ahead 19 = .ok (.iconst (-1), 1) := by decide +kernel
theorem dX10_ahead_20 : decode cX10_ahead 20 = .ok (.ireturn, 1) := by decide +kernel
theorem dX10_ahead_21 : decode cX10_ahead 21 = .ok (.iload_n 1, 1) := by decide +kernel
theorem dX10_ahead_22 : decode cX10_ahead 22 = .ok (.iload_n 3, 1) := by decide +kernel
theorem dX10_ahead_23 : decode cX10_ahead 23 = .ok (.if_icmp .ne 11, 3) := by decide +kernel
theorem dX10_ahead_26 : decode cX10_ahead 26 = .ok (.iload_n 2, 1) := by decide +kernel
theorem dX10_ahead_27 : decode cX10_ahead 27 = .ok (.iload 4, 2) := by decide +kernel
theorem dX10_ahead_29 : decode cX10_ahead 29 = .ok (.if_icmp .ne 5, 3) := by decide +kernel
theorem dX10_ahead_32 : decode cX10_ahead 32 = .ok (.iconst 0, 1) := by decide +kernel
theorem dX10_ahead_33 : decode cX10_ahead 33 = .ok (.ireturn, 1) := by decide +kernel
theorem dX10_ahead_34 : decode cX10_ahead 34 = .ok (.aload_n 0, 1) := by decide +kernel
theorem dX10_ahead_35 : decode cX10_ahead 35 = .ok (.getfield 34, 3) := by decide +kernel
theorem dX10_ahead_38 : decode cX10_ahead 38 = .ok (.iconst 4, 1) := by decide +kernel
theorem dX10_ahead_39 : decode cX10_ahead 39 = .ok (.iload_n 3, 1) := by decide +kernel
theorem dX10_ahead_40 : decode cX10_ahead 40 = .ok (.iload 4, 2) := by decide +kernel
theorem dX10_ahead_42 : decode cX10_ahead 42 = .ok (.invokestatic 189, 3) := by decide +kernel
theorem dX10_ahead_45 : decode cX10_ahead 45 = .ok (.imul, 1) := by decide +kernel
theorem dX10_ahead_46 : decode cX10_ahead 46 = .ok (.iload_n 1, 1) := by decide +kernel
theorem dX10_ahead_47 : decode cX10_ahead 47 = .ok (.iadd, 1) := by decide +kernel
theorem dX10_ahead_48 : decode cX10_ahead 48 = .ok (.iaload, 1) := by decide +kernel
theorem dX10_ahead_49 : decode cX10_ahead 49 = .ok (.iload_n 2, 1) := by decide +kernel
theorem dX10_ahead_50 : decode cX10_ahead 50 = .ok (.if_icmp .lt 7, 3) := by decide +kernel
theorem dX10_ahead_53 : decode cX10_ahead 53 = .ok (.iconst 1, 1) := by decide +kernel
theorem dX10_ahead_54 : decode cX10_ahead 54 = .ok (.goto 27, 3) := by decide +kernel
theorem dX10_ahead_57 : decode cX10_ahead 57 = .ok (.aload_n 0, 1) := by decide +kernel
theorem dX10_ahead_58 : decode cX10_ahead 58 = .ok (.getfield 34, 3) := by decide +kernel
theorem dX10_ahead_61 : decode cX10_ahead 61 = .ok (.iconst 4, 1) := by decide +kernel
theorem dX10_ahead_62 : decode cX10_ahead 62 = .ok (.iload_n 1, 1) := by decide +kernel
theorem dX10_ahead_63 : decode cX10_ahead 63 = .ok (.iload_n 2, 1) := by decide +kernel
theorem dX10_ahead_64 : decode cX10_ahead 64 = .ok (.invokestatic 189, 3) := by decide +kernel
theorem dX10_ahead_67 : decode cX10_ahead 67 = .ok (.imul, 1) := by decide +kernel
theorem dX10_ahead_68 : decode cX10_ahead 68 = .ok (.iload_n 3, 1) := by decide +kernel
theorem dX10_ahead_69 : decode cX10_ahead 69 = .ok (.iadd, 1) := by decide +kernel
theorem dX10_ahead_70 : decode cX10_ahead 70 = .ok (.iaload, 1) := by decide +kernel
theorem dX10_ahead_71 : decode cX10_ahead 71 = .ok (.iload 4, 2) := by decide +kernel
theorem dX10_ahead_73 : decode cX10_ahead 73 = .ok (.if_icmp .lt 7, 3) := by decide +kernel
theorem dX10_ahead_76 : decode cX10_ahead 76 = .ok (.iconst 2, 1) := by decide +kernel
theorem dX10_ahead_77 : decode cX10_ahead 77 = .ok (.goto 4, 3) := by decide +kernel
theorem dX10_ahead_80 : decode cX10_ahead 80 = .ok (.iconst 0, 1) := by decide +kernel
theorem dX10_ahead_81 : decode cX10_ahead 81 = .ok (.ireturn, 1) := by decide +kernel
theorem dX10_message_0 : decode cX10_message 0 = .ok (.iload_n 1, 1) := by decide +kernel
theorem dX10_message_1 : decode cX10_message 1 = .ok (.i2l, 1) := by decide +kernel
theorem dX10_message_2 : decode cX10_message 2 = .ok (.lconst 0, 1) := by decide +kernel
theorem dX10_message_3 : decode cX10_message 3 = .ok (.aload_n 0, 1) := by decide +kernel
theorem dX10_message_4 : decode cX10_message 4 = .ok (.getfield 178, 3) := by decide +kernel
theorem dX10_message_7 : decode cX10_message 7 = .ok (.iconst 1, 1) := by decide +kernel
theorem dX10_message_8 : decode cX10_message 8 = .ok (.isub, 1) := by decide +kernel
theorem dX10_message_9 : decode cX10_message 9 = .ok (.i2l, 1) := by decide +kernel
theorem dX10_message_10 : decode cX10_message 10 = .ok (.invokestatic 165, 3) := by decide +kernel
theorem dX10_message_13 : decode cX10_message 13 = .ok (.ifCond .eq 15, 3) := by decide +kernel
theorem dX10_message_16 : decode cX10_message 16 = .ok (.iload_n 2, 1) := by decide +kernel
theorem dX10_message_17 : decode cX10_message 17 = .ok (.i2l, 1) := by decide +kernel
theorem dX10_message_18 : decode cX10_message 18 = .ok (.lconst 0, 1) := by decide +kernel
theorem dX10_message_19 : decode cX10_message 19 = .ok (.ldc2_w 206, 3) := by decide +kernel
theorem dX10_message_22 : decode cX10_message 22 = .ok (.invokestatic 165, 3) := by decide +kernel
theorem dX10_message_25 : decode cX10_message 25 = .ok (.ifCond .ne 5, 3) := by decide +kernel
theorem dX10_message_28 : decode cX10_message 28 = .ok (.iconst (-1), 1) := by decide +kernel
theorem dX10_message_29 : decode cX10_message 29 = .ok (.ireturn, 1) := by decide +kernel
theorem dX10_message_30 : decode cX10_message 30 = .ok (.iload_n 2, 1) := by decide +kernel
theorem dX10_message_31 : decode cX10_message 31 = .ok (.ifCond .ne 12, 3) := by decide +kernel
theorem dX10_message_34 : decode cX10_message 34 = .ok (.aload_n 0, 1) := by decide +kernel
theorem dX10_message_35 : decode cX10_message 35 = .ok (.getfield 40, 3) := by decide +kernel
theorem dX10_message_38 : decode cX10_message 38 = .ok (.iload_n 1, 1) := by decide +kernel
theorem dX10_message_39 : decode cX10_message 39 = .ok (.iaload, 1) := by decide +kernel
theorem dX10_message_40 : decode cX10_message 40 = .ok (.goto 37, 3) := by decide +kernel
theorem dX10_message_43 : decode cX10_message 43 = .ok (.iload_n 2, 1) := by decide +kernel
theorem dX10_message_44 : decode cX10_message 44 = .ok (.iconst 1, 1) := by decide +kernel
theorem dX10_message_45 : decode cX10_message 45 = .ok (.if_icmp .ne 12, 3) := by decide +kernel
theorem dX10_message_48 : decode cX10_message 48 = .ok (.aload_n 0, 1) := by decide +kernel
theorem dX10_message_49 : decode cX10_message 49 = .ok (.getfield 43, 3) := by decide +kernel
theorem dX10_message_52 : decode cX10_message 52 = .ok (.iload_n 1, 1) := by decide +kernel
theorem dX10_message_53 : decode cX10_message 53 = .ok (.iaload, 1) := by decide +kernel
theorem dX10_message_54 : decode cX10_message 54 = .ok (.goto 23, 3) := by decide +kernel
theorem dX10_message_57 : decode cX10_message 57 = .ok (.iload_n 2, 1) := by decide +kernel
theorem dX10_message_58 : decode cX10_message 58 = .ok (.iconst 2, 1) := by decide +kernel
theorem dX10_message_59 : decode cX10_message 59 = .ok (.if_icmp .ne 12, 3) := by decide +kernel
theorem dX10_message_62 : decode cX10_message 62 = .ok (.aload_n 0, 1) := by decide +kernel
theorem dX10_message_63 : decode cX10_message 63 = .ok (.getfield 46, 3) := by decide +kernel
theorem dX10_message_66 : decode cX10_message 66 = .ok (.iload_n 1, 1) := by decide +kernel
theorem dX10_message_67 : decode cX10_message 67 = .ok (.iaload, 1) := by decide +kernel
theorem dX10_message_68 : decode cX10_message 68 = .ok (.goto 9, 3) := by decide +kernel
theorem dX10_message_71 : decode cX10_message 71 = .ok (.aload_n 0, 1) := by decide +kernel
theorem dX10_message_72 : decode cX10_message 72 = .ok (.getfield 49, 3) := by decide +kernel
theorem dX10_message_75 : decode cX10_message 75 = .ok (.iload_n 1, 1) := by decide +kernel
theorem dX10_message_76 : decode cX10_message 76 = .ok (.iaload, 1) := by decide +kernel
theorem dX10_message_77 : decode cX10_message 77 = .ok (.ireturn, 1) := by decide +kernel
theorem dX10_holdsNow_0 : decode cX10_holdsNow 0 = .ok (.iconst 0, 1) := by decide +kernel
theorem dX10_holdsNow_1 : decode cX10_holdsNow 1 = .ok (.istore_n 1, 1) := by decide +kernel
theorem dX10_holdsNow_2 : decode cX10_holdsNow 2 = .ok (.iload_n 1, 1) := by decide +kernel
theorem dX10_holdsNow_3 : decode cX10_holdsNow 3 = .ok (.aload_n 0, 1) := by decide +kernel
theorem dX10_holdsNow_4 : decode cX10_holdsNow 4 = .ok (.getfield 9, 3) := by decide +kernel
theorem dX10_holdsNow_7 : decode cX10_holdsNow 7 = .ok (.if_icmp .ge 64, 3) := by decide +kernel
theorem dX10_holdsNow_10 : decode cX10_holdsNow 10 = .ok (.iconst 0, 1) := by decide +kernel
theorem dX10_holdsNow_11 : decode cX10_holdsNow 11 = .ok (.istore_n 2, 1) := by decide +kernel
theorem dX10_holdsNow_12 : decode cX10_holdsNow 12 = .ok (.iload_n 2, 1) := by decide +kernel
theorem dX10_holdsNow_13 : decode cX10_holdsNow 13 = .ok (.aload_n 0, 1) := by decide +kernel
theorem dX10_holdsNow_14 : decode cX10_holdsNow 14 = .ok (.getfield 9, 3) := by decide +kernel
theorem dX10_holdsNow_17 : decode cX10_holdsNow 17 = .ok (.if_icmp .ge 48, 3) := by decide +kernel
theorem dX10_holdsNow_20 : decode cX10_holdsNow 20 = .ok (.aload_n 0, 1) := by decide +kernel
theorem dX10_holdsNow_21 : decode cX10_holdsNow 21 = .ok (.getfield 119, 3) := by decide +kernel
theorem dX10_holdsNow_24 : decode cX10_holdsNow 24 = .ok (.iload_n 1, 1) := by decide +kernel
theorem dX10_holdsNow_25 : decode cX10_holdsNow 25 = .ok (.iaload, 1) := by decide +kernel
theorem dX10_holdsNow_26 : decode cX10_holdsNow 26 = .ok (.ifCond .le 39, 3) := by decide +kernel
theorem dX10_holdsNow_29 : decode cX10_holdsNow 29 = .ok (.aload_n 0, 1) := by decide +kernel
theorem dX10_holdsNow_30 : decode cX10_holdsNow 30 = .ok (.getfield 34, 3) := by decide +kernel
theorem dX10_holdsNow_33 : decode cX10_holdsNow 33 = .ok (.iconst 4, 1) := by decide +kernel
theorem dX10_holdsNow_34 : decode cX10_holdsNow 34 = .ok (.iload_n 1, 1) := by decide +kernel
theorem dX10_holdsNow_35 : decode cX10_holdsNow 35 = .ok (.aload_n 0, 1) := by decide +kernel
theorem dX10_holdsNow_36 : decode cX10_holdsNow 36 = .ok (.getfield 119, 3) := by decide +kernel
theorem dX10_holdsNow_39 : decode cX10_holdsNow 39 = .ok (.iload_n 1, 1) := by decide +kernel
theorem dX10_holdsNow_40 : decode cX10_holdsNow 40 = .ok (.iaload, 1) := by decide +kernel
theorem dX10_holdsNow_41 : decode cX10_holdsNow 41 = .ok (.invokestatic 189, 3) := by decide +kernel
theorem dX10_holdsNow_44 : decode cX10_holdsNow 44 = .ok (.imul, 1) := by decide +kernel
theorem dX10_holdsNow_45 : decode cX10_holdsNow 45 = .ok (.iload_n 2, 1) := by decide +kernel
theorem dX10_holdsNow_46 : decode cX10_holdsNow 46 = .ok (.iadd, 1) := by decide +kernel
theorem dX10_holdsNow_47 : decode cX10_holdsNow 47 = .ok (.iaload, 1) := by decide +kernel
theorem dX10_holdsNow_48 : decode cX10_holdsNow 48 = .ok (.aload_n 0, 1) := by decide +kernel
theorem dX10_holdsNow_49 : decode cX10_holdsNow 49 = .ok (.getfield 119, 3) := by decide +kernel
theorem dX10_holdsNow_52 : decode cX10_holdsNow 52 = .ok (.iload_n 2, 1) := by decide +kernel
theorem dX10_holdsNow_53 : decode cX10_holdsNow 53 = .ok (.iaload, 1) := by decide +kernel
theorem dX10_holdsNow_54 : decode cX10_holdsNow 54 = .ok (.if_icmp .le 5, 3) := by decide +kernel
theorem dX10_holdsNow_57 : decode cX10_holdsNow 57 = .ok (.iconst 0, 1) := by decide +kernel
theorem dX10_holdsNow_58 : decode cX10_holdsNow 58 = .ok (.ireturn, 1) := by decide +kernel
theorem dX10_holdsNow_59 : decode cX10_holdsNow 59 = .ok (.iinc 2 1, 3) := by decide +kernel
theorem dX10_holdsNow_62 : decode cX10_holdsNow 62 = .ok (.goto (-50), 3) := by decide +kernel
theorem dX10_holdsNow_65 : decode cX10_holdsNow 65 = .ok (.iinc 1 1, 3) := by decide +kernel
theorem dX10_holdsNow_68 : decode cX10_holdsNow 68 = .ok (.goto (-66), 3) := by decide +kernel
theorem dX10_holdsNow_71 : decode cX10_holdsNow 71 = .ok (.iconst 1, 1) := by decide +kernel
theorem dX10_holdsNow_72 : decode cX10_holdsNow 72 = .ok (.ireturn, 1) := by decide +kernel
theorem dX10_digitsNow_0 : decode cX10_digitsNow 0 = .ok (.iconst 0, 1) := by decide +kernel
theorem dX10_digitsNow_1 : decode cX10_digitsNow 1 = .ok (.istore_n 1, 1) := by decide +kernel
theorem dX10_digitsNow_2 : decode cX10_digitsNow 2 = .ok (.iconst 0, 1) := by decide +kernel
theorem dX10_digitsNow_3 : decode cX10_digitsNow 3 = .ok (.istore_n 2, 1) := by decide +kernel
theorem dX10_digitsNow_4 : decode cX10_digitsNow 4 = .ok (.iload_n 2, 1) := by decide +kernel
theorem dX10_digitsNow_5 : decode cX10_digitsNow 5 = .ok (.aload_n 0, 1) := by decide +kernel
theorem dX10_digitsNow_6 : decode cX10_digitsNow 6 = .ok (.getfield 9, 3) := by decide +kernel
theorem dX10_digitsNow_9 : decode cX10_digitsNow 9 = .ok (.if_icmp .ge 21, 3) := by decide +kernel
theorem dX10_digitsNow_12 : decode cX10_digitsNow 12 = .ok (.bipush 10, 2) := by decide +kernel
theorem dX10_digitsNow_14 : decode cX10_digitsNow 14 = .ok (.iload_n 1, 1) := by decide +kernel
theorem dX10_digitsNow_15 : decode cX10_digitsNow 15 = .ok (.imul, 1) := by decide +kernel
theorem dX10_digitsNow_16 : decode cX10_digitsNow 16 = .ok (.aload_n 0, 1) := by decide +kernel
theorem dX10_digitsNow_17 : decode cX10_digitsNow 17 = .ok (.getfield 119, 3) := by decide +kernel
theorem dX10_digitsNow_20 : decode cX10_digitsNow 20 = .ok (.iload_n 2, 1) := by decide +kernel
theorem dX10_digitsNow_21 : decode cX10_digitsNow 21 = .ok (.iaload, 1) := by decide +kernel
theorem dX10_digitsNow_22 : decode cX10_digitsNow 22 = .ok (.iadd, 1) := by decide +kernel
theorem dX10_digitsNow_23 : decode cX10_digitsNow 23 = .ok (.istore_n 1, 1) := by decide +kernel
theorem dX10_digitsNow_24 : decode cX10_digitsNow 24 = .ok (.iinc 2 1, 3) := by decide +kernel
theorem dX10_digitsNow_27 : decode cX10_digitsNow 27 = .ok (.goto (-23), 3) := by decide +kernel
theorem dX10_digitsNow_30 : decode cX10_digitsNow 30 = .ok (.iload_n 1, 1) := by decide +kernel
theorem dX10_digitsNow_31 : decode cX10_digitsNow 31 = .ok (.ireturn, 1) := by decide +kernel
theorem dX10_layCuts_0 : decode cX10_layCuts 0 = .ok (.aload_n 0, 1) := by decide +kernel
theorem dX10_layCuts_1 : decode cX10_layCuts 1 = .ok (.getfield 181, 3) := by decide +kernel
theorem dX10_layCuts_4 : decode cX10_layCuts 4 = .ok (.ifCond .eq 4, 3) := by decide +kernel
theorem dX10_layCuts_7 : decode cX10_layCuts 7 = .ok (.return_, 1) := by decide +kernel
theorem dX10_layCuts_8 : decode cX10_layCuts 8 = .ok (.aload_n 0, 1) := by decide +kernel
theorem dX10_layCuts_9 : decode cX10_layCuts 9 = .ok (.iconst 1, 1) := by decide +kernel
theorem dX10_layCuts_10 : decode cX10_layCuts 10 = .ok (.putfield 181, 3) := by decide +kernel
theorem dX10_layCuts_13 : decode cX10_layCuts 13 = .ok (.aload_n 0, 1) := by decide +kernel
theorem dX10_layCuts_14 : decode cX10_layCuts 14 = .ok (.iconst 0, 1) := by decide +kernel
theorem dX10_layCuts_15 : decode cX10_layCuts 15 = .ok (.putfield 208, 3) := by decide +kernel
theorem dX10_layCuts_18 : decode cX10_layCuts 18 = .ok (.iconst 0, 1) := by decide +kernel
theorem dX10_layCuts_19 : decode cX10_layCuts 19 = .ok (.istore_n 1, 1) := by decide +kernel
theorem dX10_layCuts_20 : decode cX10_layCuts 20 = .ok (.iload_n 1, 1) := by decide +kernel
theorem dX10_layCuts_21 : decode cX10_layCuts 21 = .ok (.sipush 6000, 3) := by decide +kernel
theorem dX10_layCuts_24 : decode cX10_layCuts 24 = .ok (.if_icmp .ge 17, 3) := by decide +kernel
theorem dX10_layCuts_27 : decode cX10_layCuts 27 = .ok (.aload_n 0, 1) := by decide +kernel
theorem dX10_layCuts_28 : decode cX10_layCuts 28 = .ok (.getfield 116, 3) := by decide +kernel
theorem dX10_layCuts_31 : decode cX10_layCuts 31 = .ok (.iload_n 1, 1) := by decide +kernel
theorem dX10_layCuts_32 : decode cX10_layCuts 32 = .ok (.bipush (-5), 2) := by decide +kernel
theorem dX10_layCuts_34 : decode cX10_layCuts 34 = .ok (.iastore, 1) := by decide +kernel
theorem dX10_layCuts_35 : decode cX10_layCuts 35 = .ok (.iinc 1 1, 3) := by decide +kernel
theorem dX10_layCuts_38 : decode cX10_layCuts 38 = .ok (.goto (-18), 3) := by decide +kernel
theorem dX10_layCuts_41 : decode cX10_layCuts 41 = .ok (.iconst 0, 1) := by decide +kernel
theorem dX10_layCuts_42 : decode cX10_layCuts 42 = .ok (.istore_n 1, 1) := by decide +kernel
theorem dX10_layCuts_43 : decode cX10_layCuts 43 = .ok (.iload_n 1, 1) := by decide +kernel
theorem dX10_layCuts_44 : decode cX10_layCuts 44 = .ok (.iconst 4, 1) := by decide +kernel
theorem dX10_layCuts_45 : decode cX10_layCuts 45 = .ok (.if_icmp .ge 16, 3) := by decide +kernel
theorem dX10_layCuts_48 : decode cX10_layCuts 48 = .ok (.aload_n 0, 1) := by decide +kernel
theorem dX10_layCuts_49 : decode cX10_layCuts 49 = .ok (.getfield 119, 3) := by decide +kernel
theorem dX10_layCuts_52 : decode cX10_layCuts 52 = .ok (.iload_n 1, 1) := by decide +kernel
theorem dX10_layCuts_53 : decode cX10_layCuts 53 = .ok (.iconst 0, 1) := by decide +kernel
theorem dX10_layCuts_54 : decode cX10_layCuts 54 = .ok (.iastore, 1) := by decide +kernel
theorem dX10_layCuts_55 : decode cX10_layCuts 55 = .ok (.iinc 1 1, 3) := by decide +kernel
theorem dX10_layCuts_58 : decode cX10_layCuts 58 = .ok (.goto (-15), 3) := by decide +kernel
theorem dX10_layCuts_61 : decode cX10_layCuts 61 = .ok (.iconst 1, 1) := by decide +kernel
theorem dX10_layCuts_62 : decode cX10_layCuts 62 = .ok (.istore_n 1, 1) := by decide +kernel
theorem dX10_layCuts_63 : decode cX10_layCuts 63 = .ok (.iload_n 1, 1) := by decide +kernel
theorem dX10_layCuts_64 : decode cX10_layCuts 64 = .ok (.ifCond .eq 144, 3) := by decide +kernel
theorem dX10_layCuts_67 : decode cX10_layCuts 67 = .ok (.aload_n 0, 1) := by decide +kernel
theorem dX10_layCuts_68 : decode cX10_layCuts 68 = .ok (.invokevirtual 211, 3) := by decide +kernel
theorem dX10_layCuts_71 : decode cX10_layCuts 71 = .ok (.ifCond .eq 71, 3) := by decide +kernel
theorem dX10_layCuts_74 : decode cX10_layCuts 74 = .ok (.aload_n 0, 1) := by decide +kernel
theorem dX10_layCuts_75 : decode cX10_layCuts 75 = .ok (.getfield 110, 3) := by decide +kernel
theorem dX10_layCuts_78 : decode cX10_layCuts 78 = .ok (.aload_n 0, 1) := by decide +kernel
theorem dX10_layCuts_79 : decode cX10_layCuts 79 = .ok (.getfield 208, 3) := by decide +kernel
theorem dX10_layCuts_82 : decode cX10_layCuts 82 = .ok (.aload_n 0, 1) := by decide +kernel
theorem dX10_layCuts_83 : decode cX10_layCuts 83 = .ok (.invokevirtual 215, 3) := by decide +kernel
theorem dX10_layCuts_86 : decode cX10_layCuts 86 = .ok (.iastore, 1) := by decide +kernel
theorem dX10_layCuts_87 : decode cX10_layCuts 87 = .ok (.aload_n 0, 1) := by decide +kernel
theorem dX10_layCuts_88 : decode cX10_layCuts 88 = .ok (.getfield 116, 3) := by decide +kernel
theorem dX10_layCuts_91 : decode cX10_layCuts 91 = .ok (.aload_n 0, 1) := by decide +kernel
theorem dX10_layCuts_92 : decode cX10_layCuts 92 = .ok (.invokevirtual 215, 3) := by decide +kernel
theorem dX10_layCuts_95 : decode cX10_layCuts 95 = .ok (.aload_n 0, 1) := by decide +kernel
theorem dX10_layCuts_96 : decode cX10_layCuts 96 = .ok (.getfield 208, 3) := by decide +kernel
theorem dX10_layCuts_99 : decode cX10_layCuts 99 = .ok (.iastore, 1) := by decide +kernel
theorem dX10_layCuts_100 : decode cX10_layCuts 100 = .ok (.iconst 0, 1) := by decide +kernel
theorem dX10_layCuts_101 : decode cX10_layCuts 101 = .ok (.istore_n 2, 1) := by decide +kernel
theorem dX10_layCuts_102 : decode cX10_layCuts 102 = .ok (.iload_n 2, 1) := by decide +kernel
theorem dX10_layCuts_103 : decode cX10_layCuts 103 = .ok (.iconst 4, 1) := by decide +kernel
theorem dX10_layCuts_104 : decode cX10_layCuts 104 = .ok (.if_icmp .ge 28, 3) := by decide +kernel
theorem dX10_layCuts_107 : decode cX10_layCuts 107 = .ok (.aload_n 0, 1) := by decide +kernel
theorem dX10_layCuts_108 : decode cX10_layCuts 108 = .ok (.getfield 113, 3) := by decide +kernel
theorem dX10_layCuts_111 : decode cX10_layCuts 111 = .ok (.iconst 4, 1) := by decide +kernel
theorem dX10_layCuts_112 : decode cX10_layCuts 112 = .ok (.aload_n 0, 1) := by decide +kernel
theorem dX10_layCuts_113 : decode cX10_layCuts 113 = .ok (.getfield 208, 3) := by decide +kernel
theorem dX10_layCuts_116 : decode cX10_layCuts 116 = .ok (.imul, 1) := by decide +kernel
theorem dX10_layCuts_117 : decode cX10_layCuts 117 = .ok (.iload_n 2, 1) := by decide +kernel
theorem dX10_layCuts_118 : decode cX10_layCuts 118 = .ok (.iadd, 1) := by decide +kernel
theorem dX10_layCuts_119 : decode cX10_layCuts 119 = .ok (.aload_n 0, 1) := by decide +kernel
theorem dX10_layCuts_120 : decode cX10_layCuts 120 = .ok (.getfield 119, 3) := by decide +kernel
theorem dX10_layCuts_123 : decode cX10_layCuts 123 = .ok (.iload_n 2, 1) := by decide +kernel
theorem dX10_layCuts_124 : decode cX10_layCuts 124 = .ok (.iaload, 1) := by decide +kernel
theorem dX10_layCuts_125 : decode cX10_layCuts 125 = .ok (.iastore, 1) := by decide +kernel
theorem dX10_layCuts_126 : decode cX10_layCuts 126 = .ok (.iinc 2 1, 3) := by decide +kernel
theorem dX10_layCuts_129 : decode cX10_layCuts 129 = .ok (.goto (-27), 3) := by decide +kernel
theorem dX10_layCuts_132 : decode cX10_layCuts 132 = .ok (.aload_n 0, 1) := by decide +kernel
theorem dX10_layCuts_133 : decode cX10_layCuts 133 = .ok (.dup, 1) := by decide +kernel
theorem dX10_layCuts_134 : decode cX10_layCuts 134 = .ok (.getfield 208, 3) := by decide +kernel
theorem dX10_layCuts_137 : decode cX10_layCuts 137 = .ok (.iconst 1, 1) := by decide +kernel
theorem dX10_layCuts_138 : decode cX10_layCuts 138 = .ok (.iadd, 1) := by decide +kernel
theorem dX10_layCuts_139 : decode cX10_layCuts 139 = .ok (.putfield 208, 3) := by decide +kernel
theorem dX10_layCuts_142 : decode cX10_layCuts 142 = .ok (.aload_n 0, 1) := by decide +kernel
theorem dX10_layCuts_143 : decode cX10_layCuts 143 = .ok (.getfield 9, 3) := by decide +kernel
theorem dX10_layCuts_146 : decode cX10_layCuts 146 = .ok (.iconst 1, 1) := by decide +kernel
theorem dX10_layCuts_147 : decode cX10_layCuts 147 = .ok (.isub, 1) := by decide +kernel
theorem dX10_layCuts_148 : decode cX10_layCuts 148 = .ok (.istore_n 2, 1) := by decide +kernel
theorem dX10_layCuts_149 : decode cX10_layCuts 149 = .ok (.iload_n 2, 1) := by decide +kernel
theorem dX10_layCuts_150 : decode cX10_layCuts 150 = .ok (.ifCond .lt 31, 3) := by decide +kernel
theorem dX10_layCuts_153 : decode cX10_layCuts 153 = .ok (.aload_n 0, 1) := by decide +kernel
theorem dX10_layCuts_154 : decode cX10_layCuts 154 = .ok (.getfield 119, 3) := by decide +kernel
theorem dX10_layCuts_157 : decode cX10_layCuts 157 = .ok (.iload_n 2, 1) := by decide +kernel
theorem dX10_layCuts_158 : decode cX10_layCuts 158 = .ok (.iaload, 1) := by decide +kernel
theorem dX10_layCuts_159 : decode cX10_layCuts 159 = .ok (.aload_n 0, 1) := by decide +kernel
theorem dX10_layCuts_160 : decode cX10_layCuts 160 = .ok (.getfield 19, 3) := by decide +kernel
theorem dX10_layCuts_163 : decode cX10_layCuts 163 = .ok (.iload_n 2, 1) := by decide +kernel
theorem dX10_layCuts_164 : decode cX10_layCuts 164 = .ok (.iaload, 1) := by decide +kernel
theorem dX10_layCuts_165 : decode cX10_layCuts 165 = .ok (.if_icmp .ne 16, 3) := by decide +kernel
theorem dX10_layCuts_168 : decode cX10_layCuts 168 = .ok (.aload_n 0, 1) := by decide +kernel
theorem dX10_layCuts_169 : decode cX10_layCuts 169 = .ok (.getfield 119, 3) := by decide +kernel
theorem dX10_layCuts_172 : decode cX10_layCuts 172 = .ok (.iload_n 2, 1) := by decide +kernel
theorem dX10_layCuts_173 : decode cX10_layCuts 173 = .ok (.iconst 0, 1) := by decide +kernel
theorem dX10_layCuts_174 : decode cX10_layCuts 174 = .ok (.iastore, 1) := by decide +kernel
theorem dX10_layCuts_175 : decode cX10_layCuts 175 = .ok (.iinc 2 (-1), 3) := by decide +kernel
theorem dX10_layCuts_178 : decode cX10_layCuts 178 = .ok (.goto (-29), 3) := by decide +kernel
theorem dX10_layCuts_181 : decode cX10_layCuts 181 = .ok (.iload_n 2, 1) := by decide +kernel
theorem dX10_layCuts_182 : decode cX10_layCuts 182 = .ok (.ifCond .lt 7, 3) := by decide +kernel
theorem dX10_layCuts_185 : decode cX10_layCuts 185 = .ok (.iconst 1, 1) := by decide +kernel
theorem dX10_layCuts_186 : decode cX10_layCuts 186 = .ok (.goto 4, 3) := by decide +kernel
theorem dX10_layCuts_189 : decode cX10_layCuts 189 = .ok (.iconst 0, 1) := by decide +kernel
theorem dX10_layCuts_190 : decode cX10_layCuts 190 = .ok (.istore_n 1, 1) := by decide +kernel
theorem dX10_layCuts_191 : decode cX10_layCuts 191 = .ok (.iload_n 1, 1) := by decide +kernel
theorem dX10_layCuts_192 : decode cX10_layCuts 192 = .ok (.ifCond .eq 13, 3) := by decide +kernel
theorem dX10_layCuts_195 : decode cX10_layCuts 195 = .ok (.aload_n 0, 1) := by decide +kernel
theorem dX10_layCuts_196 : decode cX10_layCuts 196 = .ok (.getfield 119, 3) := by decide +kernel
theorem dX10_layCuts_199 : decode cX10_layCuts 199 = .ok (.iload_n 2, 1) := by decide +kernel
theorem dX10_layCuts_200 : decode cX10_layCuts 200 = .ok (.dup2, 1) := by decide +kernel
theorem dX10_layCuts_201 : decode cX10_layCuts 201 = .ok (.iaload, 1) := by decide +kernel
theorem dX10_layCuts_202 : decode cX10_layCuts 202 = .ok (.iconst 1, 1) := by decide +kernel
theorem dX10_layCuts_203 : decode cX10_layCuts 203 = .ok (.iadd, 1) := by decide +kernel
theorem dX10_layCuts_204 : decode cX10_layCuts 204 = .ok (.iastore, 1) := by decide +kernel
theorem dX10_layCuts_205 : decode cX10_layCuts 205 = .ok (.goto (-142), 3) := by decide +kernel
theorem dX10_layCuts_208 : decode cX10_layCuts 208 = .ok (.return_, 1) := by decide +kernel
theorem dX10_isCut_0 : decode cX10_isCut 0 = .ok (.aload_n 0, 1) := by decide +kernel
theorem dX10_isCut_1 : decode cX10_isCut 1 = .ok (.invokevirtual 219, 3) := by decide +kernel
theorem dX10_isCut_4 : decode cX10_isCut 4 = .ok (.iload_n 1, 1) := by decide +kernel
theorem dX10_isCut_5 : decode cX10_isCut 5 = .ok (.i2l, 1) := by decide +kernel
theorem dX10_isCut_6 : decode cX10_isCut 6 = .ok (.lconst 0, 1) := by decide +kernel
theorem dX10_isCut_7 : decode cX10_isCut 7 = .ok (.aload_n 0, 1) := by decide +kernel
theorem dX10_isCut_8 : decode cX10_isCut 8 = .ok (.getfield 208, 3) := by decide +kernel
theorem dX10_isCut_11 : decode cX10_isCut 11 = .ok (.iconst 1, 1) := by decide +kernel
theorem dX10_isCut_12 : decode cX10_isCut 12 = .ok (.isub, 1) := by decide +kernel
theorem dX10_isCut_13 : decode cX10_isCut 13 = .ok (.i2l, 1) := by decide +kernel
theorem dX10_isCut_14 : decode cX10_isCut 14 = .ok (.invokestatic 165, 3) := by decide +kernel
theorem dX10_isCut_17 : decode cX10_isCut 17 = .ok (.ireturn, 1) := by decide +kernel
theorem dX10_cuts_0 : decode cX10_cuts 0 = .ok (.aload_n 0, 1) := by decide +kernel
theorem dX10_cuts_1 : decode cX10_cuts 1 = .ok (.invokevirtual 219, 3) := by decide +kernel
theorem dX10_cuts_4 : decode cX10_cuts 4 = .ok (.aload_n 0, 1) := by decide +kernel
theorem dX10_cuts_5 : decode cX10_cuts 5 = .ok (.getfield 208, 3) := by decide +kernel
theorem dX10_cuts_8 : decode cX10_cuts 8 = .ok (.ireturn, 1) := by decide +kernel
theorem dX10_cut_0 : decode cX10_cut 0 = .ok (.aload_n 0, 1) := by decide +kernel
theorem dX10_cut_1 : decode cX10_cut 1 = .ok (.iload_n 1, 1) := by decide +kernel
theorem dX10_cut_2 : decode cX10_cut 2 = .ok (.invokevirtual 222, 3) := by decide +kernel
theorem dX10_cut_5 : decode cX10_cut 5 = .ok (.ifCond .eq 12, 3) := by decide +kernel
theorem dX10_cut_8 : decode cX10_cut 8 = .ok (.aload_n 0, 1) := by decide +kernel
theorem dX10_cut_9 : decode cX10_cut 9 = .ok (.getfield 110, 3) := by decide +kernel
theorem dX10_cut_12 : decode cX10_cut 12 = .ok (.iload_n 1, 1) := by decide +kernel
theorem dX10_cut_13 : decode cX10_cut 13 = .ok (.iaload, 1) := by decide +kernel
theorem dX10_cut_14 : decode cX10_cut 14 = .ok (.goto 4, 3) := by decide +kernel
theorem dX10_cut_17 : decode cX10_cut 17 = .ok (.iconst (-1), 1) := by decide +kernel
theorem dX10_cut_18 : decode cX10_cut 18 = .ok (.ireturn, 1) := by decide +kernel
theorem dX10_which_0 : decode cX10_which 0 = .ok (.iload_n 1, 1) := by decide +kernel
theorem dX10_which_1 : decode cX10_which 1 = .ok (.ifCond .ge 5, 3) := by decide +kernel
theorem dX10_which_4 : decode cX10_which 4 = .ok (.iconst (-1), 1) := by decide +kernel
theorem dX10_which_5 : decode cX10_which 5 = .ok (.ireturn, 1) := by decide +kernel
theorem dX10_which_6 : decode cX10_which 6 = .ok (.iload_n 1, 1) := by decide +kernel
theorem dX10_which_7 : decode cX10_which 7 = .ok (.istore_n 2, 1) := by decide +kernel
theorem dX10_which_8 : decode cX10_which 8 = .ok (.aload_n 0, 1) := by decide +kernel
theorem dX10_which_9 : decode cX10_which 9 = .ok (.getfield 9, 3) := by decide +kernel
theorem dX10_which_12 : decode cX10_which 12 = .ok (.iconst 1, 1) := by decide +kernel
theorem dX10_which_13 : decode cX10_which 13 = .ok (.isub, 1) := by decide +kernel
theorem dX10_which_14 : decode cX10_which 14 = .ok (.istore_n 3, 1) := by decide +kernel
theorem dX10_which_15 : decode cX10_which 15 = .ok (.iload_n 3, 1) := by decide +kernel
theorem dX10_which_16 : decode cX10_which 16 = .ok (.ifCond .lt 29, 3) := by decide +kernel
theorem dX10_which_19 : decode cX10_which 19 = .ok (.iload_n 2, 1) := by decide +kernel
theorem dX10_which_20 : decode cX10_which 20 = .ok (.bipush 10, 2) := by decide +kernel
theorem dX10_which_22 : decode cX10_which 22 = .ok (.irem, 1) := by decide +kernel
theorem dX10_which_23 : decode cX10_which 23 = .ok (.aload_n 0, 1) := by decide +kernel
theorem dX10_which_24 : decode cX10_which 24 = .ok (.getfield 19, 3) := by decide +kernel
theorem dX10_which_27 : decode cX10_which 27 = .ok (.iload_n 3, 1) := by decide +kernel
theorem dX10_which_28 : decode cX10_which 28 = .ok (.iaload, 1) := by decide +kernel
theorem dX10_which_29 : decode cX10_which 29 = .ok (.if_icmp .le 5, 3) := by decide +kernel
theorem dX10_which_32 : decode cX10_which 32 = .ok (.iconst (-1), 1) := by decide +kernel
theorem dX10_which_33 : decode cX10_which 33 = .ok (.ireturn, 1) := by decide +kernel
theorem dX10_which_34 : decode cX10_which 34 = .ok (.iload_n 2, 1) := by decide +kernel
theorem dX10_which_35 : decode cX10_which 35 = .ok (.bipush 10, 2) := by decide +kernel
theorem dX10_which_37 : decode cX10_which 37 = .ok (.idiv, 1) := by decide +kernel
theorem dX10_which_38 : decode cX10_which 38 = .ok (.istore_n 2, 1) := by decide +kernel
theorem dX10_which_39 : decode cX10_which 39 = .ok (.iinc 3 (-1), 3) := by decide +kernel
theorem dX10_which_42 : decode cX10_which 42 = .ok (.goto (-27), 3) := by decide +kernel
theorem dX10_which_45 : decode cX10_which 45 = .ok (.iload_n 2, 1) := by decide +kernel
theorem dX10_which_46 : decode cX10_which 46 = .ok (.ifCond .le 5, 3) := by decide +kernel
theorem dX10_which_49 : decode cX10_which 49 = .ok (.iconst (-1), 1) := by decide +kernel
theorem dX10_which_50 : decode cX10_which 50 = .ok (.ireturn, 1) := by decide +kernel
theorem dX10_which_51 : decode cX10_which 51 = .ok (.aload_n 0, 1) := by decide +kernel
theorem dX10_which_52 : decode cX10_which 52 = .ok (.invokevirtual 219, 3) := by decide +kernel
theorem dX10_which_55 : decode cX10_which 55 = .ok (.aload_n 0, 1) := by decide +kernel
theorem dX10_which_56 : decode cX10_which 56 = .ok (.getfield 116, 3) := by decide +kernel
theorem dX10_which_59 : decode cX10_which 59 = .ok (.iload_n 1, 1) := by decide +kernel
theorem dX10_which_60 : decode cX10_which 60 = .ok (.iaload, 1) := by decide +kernel
theorem dX10_which_61 : decode cX10_which 61 = .ok (.ireturn, 1) := by decide +kernel
theorem dX10_levelOf_0 : decode cX10_levelOf 0 = .ok (.iconst 0, 1) := by decide +kernel
theorem dX10_levelOf_1 : decode cX10_levelOf 1 = .ok (.istore_n 2, 1) := by decide +kernel
theorem dX10_levelOf_2 : decode cX10_levelOf 2 = .ok (.iconst 0, 1) := by decide +kernel
theorem dX10_levelOf_3 : decode cX10_levelOf 3 = .ok (.istore_n 3, 1) := by decide +kernel
theorem dX10_levelOf_4 : decode cX10_levelOf 4 = .ok (.iload_n 3, 1) := by decide +kernel
theorem dX10_levelOf_5 : decode cX10_levelOf 5 = .ok (.iconst 4, 1) := by decide +kernel
theorem dX10_levelOf_6 : decode cX10_levelOf 6 = .ok (.if_icmp .ge 22, 3) := by decide +kernel
theorem dX10_levelOf_9 : decode cX10_levelOf 9 = .ok (.iload_n 2, 1) := by decide +kernel
theorem dX10_levelOf_10 : decode cX10_levelOf 10 = .ok (.aload_n 0, 1) := by decide +kernel
theorem dX10_levelOf_11 : decode cX10_levelOf 11 = .ok (.getfield 113, 3) := by decide +kernel
theorem dX10_levelOf_14 : decode cX10_levelOf 14 = .ok (.iconst 4, 1) := by decide +kernel
theorem dX10_levelOf_15 : decode cX10_levelOf 15 = .ok (.iload_n 1, 1) := by decide +kernel
theorem dX10_levelOf_16 : decode cX10_levelOf 16 = .ok (.imul, 1) := by decide +kernel
theorem dX10_levelOf_17 : decode cX10_levelOf 17 = .ok (.iload_n 3, 1) := by decide +kernel
theorem dX10_levelOf_18 : decode cX10_levelOf 18 = .ok (.iadd, 1) := by decide +kernel
theorem dX10_levelOf_19 : decode cX10_levelOf 19 = .ok (.iaload, 1) := by decide +kernel
theorem dX10_levelOf_20 : decode cX10_levelOf 20 = .ok (.iadd, 1) := by decide +kernel
theorem dX10_levelOf_21 : decode cX10_levelOf 21 = .ok (.istore_n 2, 1) := by decide +kernel
theorem dX10_levelOf_22 : decode cX10_levelOf 22 = .ok (.iinc 3 1, 3) := by decide +kernel
theorem dX10_levelOf_25 : decode cX10_levelOf 25 = .ok (.goto (-21), 3) := by decide +kernel
theorem dX10_levelOf_28 : decode cX10_levelOf 28 = .ok (.iload_n 2, 1) := by decide +kernel
theorem dX10_levelOf_29 : decode cX10_levelOf 29 = .ok (.ireturn, 1) := by decide +kernel
theorem dX10_level_0 : decode cX10_level 0 = .ok (.aload_n 0, 1) := by decide +kernel
theorem dX10_level_1 : decode cX10_level 1 = .ok (.iload_n 1, 1) := by decide +kernel
theorem dX10_level_2 : decode cX10_level 2 = .ok (.invokevirtual 222, 3) := by decide +kernel
theorem dX10_level_5 : decode cX10_level 5 = .ok (.ifCond .eq 11, 3) := by decide +kernel
theorem dX10_level_8 : decode cX10_level 8 = .ok (.aload_n 0, 1) := by decide +kernel
theorem dX10_level_9 : decode cX10_level 9 = .ok (.iload_n 1, 1) := by decide +kernel
theorem dX10_level_10 : decode cX10_level 10 = .ok (.invokevirtual 225, 3) := by decide +kernel
theorem dX10_level_13 : decode cX10_level 13 = .ok (.goto 4, 3) := by decide +kernel
theorem dX10_level_16 : decode cX10_level 16 = .ok (.iconst (-1), 1) := by decide +kernel
theorem dX10_level_17 : decode cX10_level 17 = .ok (.ireturn, 1) := by decide +kernel
theorem dX10_nextBy_0 : decode cX10_nextBy 0 = .ok (.aload_n 0, 1) := by decide +kernel
theorem dX10_nextBy_1 : decode cX10_nextBy 1 = .ok (.getfield 113, 3) := by decide +kernel
theorem dX10_nextBy_4 : decode cX10_nextBy 4 = .ok (.iconst 4, 1) := by decide +kernel
theorem dX10_nextBy_5 : decode cX10_nextBy 5 = .ok (.iload_n 1, 1) := by decide +kernel
theorem dX10_nextBy_6 : decode cX10_nextBy 6 = .ok (.imul, 1) := by decide +kernel
theorem dX10_nextBy_7 : decode cX10_nextBy 7 = .ok (.iload_n 2, 1) := by decide +kernel
theorem dX10_nextBy_8 : decode cX10_nextBy 8 = .ok (.iadd, 1) := by decide +kernel
theorem dX10_nextBy_9 : decode cX10_nextBy 9 = .ok (.iaload, 1) := by decide +kernel
theorem dX10_nextBy_10 : decode cX10_nextBy 10 = .ok (.aload_n 0, 1) := by decide +kernel
theorem dX10_nextBy_11 : decode cX10_nextBy 11 = .ok (.getfield 19, 3) := by decide +kernel
theorem dX10_nextBy_14 : decode cX10_nextBy 14 = .ok (.iload_n 2, 1) := by decide +kernel
theorem dX10_nextBy_15 : decode cX10_nextBy 15 = .ok (.iaload, 1) := by decide +kernel
theorem dX10_nextBy_16 : decode cX10_nextBy 16 = .ok (.if_icmp .ne 6, 3) := by decide +kernel
theorem dX10_nextBy_19 : decode cX10_nextBy 19 = .ok (.bipush (-5), 2) := by decide +kernel
theorem dX10_nextBy_21 : decode cX10_nextBy 21 = .ok (.ireturn, 1) := by decide +kernel
theorem dX10_nextBy_22 : decode cX10_nextBy 22 = .ok (.iconst 1, 1) := by decide +kernel
theorem dX10_nextBy_23 : decode cX10_nextBy 23 = .ok (.istore_n 3, 1) := by decide +kernel
theorem dX10_nextBy_24 : decode cX10_nextBy 24 = .ok (.iload_n 2, 1) := by decide +kernel
theorem dX10_nextBy_25 : decode cX10_nextBy 25 = .ok (.iconst 1, 1) := by decide +kernel
theorem dX10_nextBy_26 : decode cX10_nextBy 26 = .ok (.iadd, 1) := by decide +kernel
theorem dX10_nextBy_27 : decode cX10_nextBy 27 = .ok (.istore 4, 2) := by decide +kernel
theorem dX10_nextBy_29 : decode cX10_nextBy 29 = .ok (.iload 4, 2) := by decide +kernel
theorem dX10_nextBy_31 : decode cX10_nextBy 31 = .ok (.aload_n 0, 1) := by decide +kernel
theorem dX10_nextBy_32 : decode cX10_nextBy 32 = .ok (.getfield 9, 3) := by decide +kernel
theorem dX10_nextBy_35 : decode cX10_nextBy 35 = .ok (.if_icmp .ge 14, 3) := by decide +kernel
theorem dX10_nextBy_38 : decode cX10_nextBy 38 = .ok (.iload_n 3, 1) := by decide +kernel
theorem dX10_nextBy_39 : decode cX10_nextBy 39 = .ok (.bipush 10, 2) := by decide +kernel
theorem dX10_nextBy_41 : decode cX10_nextBy 41 = .ok (.imul, 1) := by decide +kernel
theorem dX10_nextBy_42 : decode cX10_nextBy 42 = .ok (.istore_n 3, 1) := by decide +kernel
theorem dX10_nextBy_43 : decode cX10_nextBy 43 = .ok (.iinc 4 1, 3) := by decide +kernel
theorem dX10_nextBy_46 : decode cX10_nextBy 46 = .ok (.goto (-17), 3) := by decide +kernel
theorem dX10_nextBy_49 : decode cX10_nextBy 49 = .ok (.aload_n 0, 1) := by decide +kernel
theorem dX10_nextBy_50 : decode cX10_nextBy 50 = .ok (.getfield 116, 3) := by decide +kernel
theorem dX10_nextBy_53 : decode cX10_nextBy 53 = .ok (.aload_n 0, 1) := by decide +kernel
theorem dX10_nextBy_54 : decode cX10_nextBy 54 = .ok (.getfield 110, 3) := by decide +kernel
theorem dX10_nextBy_57 : decode cX10_nextBy 57 = .ok (.iload_n 1, 1) := by decide +kernel
theorem dX10_nextBy_58 : decode cX10_nextBy 58 = .ok (.iaload, 1) := by decide +kernel
theorem dX10_nextBy_59 : decode cX10_nextBy 59 = .ok (.iload_n 3, 1) := by decide +kernel
theorem dX10_nextBy_60 : decode cX10_nextBy 60 = .ok (.iadd, 1) := by decide +kernel
theorem dX10_nextBy_61 : decode cX10_nextBy 61 = .ok (.iaload, 1) := by decide +kernel
theorem dX10_nextBy_62 : decode cX10_nextBy 62 = .ok (.ireturn, 1) := by decide +kernel
theorem dX10_next_0 : decode cX10_next 0 = .ok (.aload_n 0, 1) := by decide +kernel
theorem dX10_next_1 : decode cX10_next 1 = .ok (.iload_n 1, 1) := by decide +kernel
theorem dX10_next_2 : decode cX10_next 2 = .ok (.invokevirtual 222, 3) := by decide +kernel
theorem dX10_next_5 : decode cX10_next 5 = .ok (.ifCond .eq 8, 3) := by decide +kernel
theorem dX10_next_8 : decode cX10_next 8 = .ok (.iload_n 2, 1) := by decide +kernel
theorem dX10_next_9 : decode cX10_next 9 = .ok (.iconst (-1), 1) := by decide +kernel
theorem dX10_next_10 : decode cX10_next 10 = .ok (.if_icmp .ge 5, 3) := by decide +kernel
theorem dX10_next_13 : decode cX10_next 13 = .ok (.iconst (-1), 1) := by decide +kernel
theorem dX10_next_14 : decode cX10_next 14 = .ok (.ireturn, 1) := by decide +kernel
theorem dX10_next_15 : decode cX10_next 15 = .ok (.iconst 0, 1) := by decide +kernel
theorem dX10_next_16 : decode cX10_next 16 = .ok (.istore_n 3, 1) := by decide +kernel
theorem dX10_next_17 : decode cX10_next 17 = .ok (.iconst 0, 1) := by decide +kernel
theorem dX10_next_18 : decode cX10_next 18 = .ok (.istore 4, 2) := by decide +kernel
theorem dX10_next_20 : decode cX10_next 20 = .ok (.iload 4, 2) := by decide +kernel
theorem dX10_next_22 : decode cX10_next 22 = .ok (.aload_n 0, 1) := by decide +kernel
theorem dX10_next_23 : decode cX10_next 23 = .ok (.getfield 9, 3) := by decide +kernel
theorem dX10_next_26 : decode cX10_next 26 = .ok (.if_icmp .ge 35, 3) := by decide +kernel
theorem dX10_next_29 : decode cX10_next 29 = .ok (.aload_n 0, 1) := by decide +kernel
theorem dX10_next_30 : decode cX10_next 30 = .ok (.iload_n 1, 1) := by decide +kernel
theorem dX10_next_31 : decode cX10_next 31 = .ok (.iload 4, 2) := by decide +kernel
theorem dX10_next_33 : decode cX10_next 33 = .ok (.invokevirtual 229, 3) := by decide +kernel
theorem dX10_next_36 : decode cX10_next 36 = .ok (.ifCond .lt 19, 3) := by decide +kernel
theorem dX10_next_39 : decode cX10_next 39 = .ok (.iload_n 3, 1) := by decide +kernel
theorem dX10_next_40 : decode cX10_next 40 = .ok (.iload_n 2, 1) := by decide +kernel
theorem dX10_next_41 : decode cX10_next 41 = .ok (.if_icmp .ne 11, 3) := by decide +kernel
theorem dX10_next_44 : decode cX10_next 44 = .ok (.aload_n 0, 1) := by decide +kernel
theorem dX10_next_45 : decode cX10_next 45 = .ok (.iload_n 1, 1) := by decide +kernel
theorem dX10_next_46 : decode cX10_next 46 = .ok (.iload 4, 2) := by decide +kernel
theorem dX10_next_48 : decode cX10_next 48 = .ok (.invokevirtual 229, 3) := by decide +kernel
theorem dX10_next_51 : decode cX10_next 51 = .ok (.ireturn, 1) := by decide +kernel
theorem dX10_next_52 : decode cX10_next 52 = .ok (.iinc 3 1, 3) := by decide +kernel
theorem dX10_next_55 : decode cX10_next 55 = .ok (.iinc 4 1, 3) := by decide +kernel
theorem dX10_next_58 : decode cX10_next 58 = .ok (.goto (-38), 3) := by decide +kernel
theorem dX10_next_61 : decode cX10_next 61 = .ok (.iload_n 2, 1) := by decide +kernel
theorem dX10_next_62 : decode cX10_next 62 = .ok (.iconst (-1), 1) := by decide +kernel
theorem dX10_next_63 : decode cX10_next 63 = .ok (.if_icmp .ne 7, 3) := by decide +kernel
theorem dX10_next_66 : decode cX10_next 66 = .ok (.iload_n 3, 1) := by decide +kernel
theorem dX10_next_67 : decode cX10_next 67 = .ok (.goto 4, 3) := by decide +kernel
theorem dX10_next_70 : decode cX10_next 70 = .ok (.iconst (-1), 1) := by decide +kernel
theorem dX10_next_71 : decode cX10_next 71 = .ok (.ireturn, 1) := by decide +kernel
theorem dX10_both_0 : decode cX10_both 0 = .ok (.aload_n 0, 1) := by decide +kernel
theorem dX10_both_1 : decode cX10_both 1 = .ok (.iload_n 1, 1) := by decide +kernel
theorem dX10_both_2 : decode cX10_both 2 = .ok (.invokevirtual 222, 3) := by decide +kernel
theorem dX10_both_5 : decode cX10_both 5 = .ok (.ifCond .eq 11, 3) := by decide +kernel
theorem dX10_both_8 : decode cX10_both 8 = .ok (.aload_n 0, 1) := by decide +kernel
theorem dX10_both_9 : decode cX10_both 9 = .ok (.iload_n 2, 1) := by decide +kernel
theorem dX10_both_10 : decode cX10_both 10 = .ok (.invokevirtual 222, 3) := by decide +kernel
theorem dX10_both_13 : decode cX10_both 13 = .ok (.ifCond .ne 5, 3) := by decide +kernel
theorem dX10_both_16 : decode cX10_both 16 = .ok (.iconst (-1), 1) := by decide +kernel
theorem dX10_both_17 : decode cX10_both 17 = .ok (.ireturn, 1) := by decide +kernel
theorem dX10_both_18 : decode cX10_both 18 = .ok (.iconst 0, 1) := by decide +kernel
theorem dX10_both_19 : decode cX10_both 19 = .ok (.istore 4, 2) := by decide +kernel
theorem dX10_both_21 : decode cX10_both 21 = .ok (.iload 4, 2) := by decide +kernel
theorem dX10_both_23 : decode cX10_both 23 = .ok (.iconst 4, 1) := by decide +kernel
theorem dX10_both_24 : decode cX10_both 24 = .ok (.if_icmp .ge 63, 3) := by decide +kernel
theorem dX10_both_27 : decode cX10_both 27 = .ok (.aload_n 0, 1) := by decide +kernel
theorem dX10_both_28 : decode cX10_both 28 = .ok (.getfield 113, 3) := by decide +kernel
theorem dX10_both_31 : decode cX10_both 31 = .ok (.iconst 4, 1) := by decide +kernel
theorem dX10_both_32 : decode cX10_both 32 = .ok (.iload_n 1, 1) := by decide +kernel
theorem dX10_both_33 : decode cX10_both 33 = .ok (.imul, 1) := by decide +kernel
theorem dX10_both_34 : decode cX10_both 34 = .ok (.iload 4, 2) := by decide +kernel
theorem dX10_both_36 : decode cX10_both 36 = .ok (.iadd, 1) := by decide +kernel
theorem dX10_both_37 : decode cX10_both 37 = .ok (.iaload, 1) := by decide +kernel
theorem dX10_both_38 : decode cX10_both 38 = .ok (.istore 5, 2) := by decide +kernel
theorem dX10_both_40 : decode cX10_both 40 = .ok (.aload_n 0, 1) := by decide +kernel
theorem dX10_both_41 : decode cX10_both 41 = .ok (.getfield 113, 3) := by decide +kernel
theorem dX10_both_44 : decode cX10_both 44 = .ok (.iconst 4, 1) := by decide +kernel
theorem dX10_both_45 : decode cX10_both 45 = .ok (.iload_n 2, 1) := by decide +kernel
theorem dX10_both_46 : decode cX10_both 46 = .ok (.imul, 1) := by decide +kernel
theorem dX10_both_47 : decode cX10_both 47 = .ok (.iload 4, 2) := by decide +kernel
theorem dX10_both_49 : decode cX10_both 49 = .ok (.iadd, 1) := by decide +kernel
theorem dX10_both_50 : decode cX10_both 50 = .ok (.iaload, 1) := by decide +kernel
theorem dX10_both_51 : decode cX10_both 51 = .ok (.istore 6, 2) := by decide +kernel
theorem dX10_both_53 : decode cX10_both 53 = .ok (.aload_n 0, 1) := by decide +kernel
theorem dX10_both_54 : decode cX10_both 54 = .ok (.getfield 119, 3) := by decide +kernel
theorem dX10_both_57 : decode cX10_both 57 = .ok (.iload 4, 2) := by decide +kernel
theorem dX10_both_59 : decode cX10_both 59 = .ok (.iload_n 3, 1) := by decide +kernel
theorem dX10_both_60 : decode cX10_both 60 = .ok (.ifCond .eq 13, 3) := by decide +kernel
theorem dX10_both_63 : decode cX10_both 63 = .ok (.iload 5, 2) := by decide +kernel
theorem dX10_both_65 : decode cX10_both 65 = .ok (.iload 6, 2) := by decide +kernel
theorem dX10_both_67 : decode cX10_both 67 = .ok (.invokestatic 232, 3) := by decide +kernel
theorem dX10_both_70 : decode cX10_both 70 = .ok (.goto 10, 3) := by decide +kernel
theorem dX10_both_73 : decode cX10_both 73 = .ok (.iload 5, 2) := by decide +kernel
theorem dX10_both_75 : decode cX10_both 75 = .ok (.iload 6, 2) := by decide +kernel
theorem dX10_both_77 : decode cX10_both 77 = .ok (.invokestatic 193, 3) := by decide +kernel
theorem dX10_both_80 : decode cX10_both 80 = .ok (.iastore, 1) := by decide +kernel
theorem dX10_both_81 : decode cX10_both 81 = .ok (.iinc 4 1, 3) := by decide +kernel
theorem dX10_both_84 : decode cX10_both 84 = .ok (.goto (-63), 3) := by decide +kernel
theorem dX10_both_87 : decode cX10_both 87 = .ok (.aload_n 0, 1) := by decide +kernel
theorem dX10_both_88 : decode cX10_both 88 = .ok (.getfield 116, 3) := by decide +kernel
theorem dX10_both_91 : decode cX10_both 91 = .ok (.aload_n 0, 1) := by decide +kernel
theorem dX10_both_92 : decode cX10_both 92 = .ok (.invokevirtual 215, 3) := by decide +kernel
theorem dX10_both_95 : decode cX10_both 95 = .ok (.iaload, 1) := by decide +kernel
theorem dX10_both_96 : decode cX10_both 96 = .ok (.ireturn, 1) := by decide +kernel
theorem dX10_meet_0 : decode cX10_meet 0 = .ok (.aload_n 0, 1) := by decide +kernel
theorem dX10_meet_1 : decode cX10_meet 1 = .ok (.iload_n 1, 1) := by decide +kernel
theorem dX10_meet_2 : decode cX10_meet 2 = .ok (.iload_n 2, 1) := by decide +kernel
theorem dX10_meet_3 : decode cX10_meet 3 = .ok (.iconst 1, 1) := by decide +kernel
theorem dX10_meet_4 : decode cX10_meet 4 = .ok (.invokevirtual 235, 3) := by decide +kernel
theorem dX10_meet_7 : decode cX10_meet 7 = .ok (.ireturn, 1) := by decide +kernel
theorem dX10_join_0 : decode cX10_join 0 = .ok (.aload_n 0, 1) := by decide +kernel
theorem dX10_join_1 : decode cX10_join 1 = .ok (.iload_n 1, 1) := by decide +kernel
theorem dX10_join_2 : decode cX10_join 2 = .ok (.iload_n 2, 1) := by decide +kernel
theorem dX10_join_3 : decode cX10_join 3 = .ok (.iconst 0, 1) := by decide +kernel
theorem dX10_join_4 : decode cX10_join 4 = .ok (.invokevirtual 235, 3) := by decide +kernel
theorem dX10_join_7 : decode cX10_join 7 = .ok (.ireturn, 1) := by decide +kernel
theorem dX10_underOf_0 : decode cX10_underOf 0 = .ok (.iconst 0, 1) := by decide +kernel
theorem dX10_underOf_1 : decode cX10_underOf 1 = .ok (.istore_n 2, 1) := by decide +kernel
theorem dX10_underOf_2 : decode cX10_underOf 2 = .ok (.iconst 0, 1) := by decide +kernel
theorem dX10_underOf_3 : decode cX10_underOf 3 = .ok (.istore_n 3, 1) := by decide +kernel
theorem dX10_underOf_4 : decode cX10_underOf 4 = .ok (.iload_n 3, 1) := by decide +kernel
theorem dX10_underOf_5 : decode cX10_underOf 5 = .ok (.aload_n 0, 1) := by decide +kernel
theorem dX10_underOf_6 : decode cX10_underOf 6 = .ok (.getfield 178, 3) := by decide +kernel
theorem dX10_underOf_9 : decode cX10_underOf 9 = .ok (.if_icmp .ge 104, 3) := by decide +kernel
theorem dX10_underOf_12 : decode cX10_underOf 12 = .ok (.aload_n 0, 1) := by decide +kernel
theorem dX10_underOf_13 : decode cX10_underOf 13 = .ok (.getfield 113, 3) := by decide +kernel
theorem dX10_underOf_16 : decode cX10_underOf 16 = .ok (.iconst 4, 1) := by decide +kernel
theorem dX10_underOf_17 : decode cX10_underOf 17 = .ok (.iload_n 1, 1) := by decide +kernel
theorem dX10_underOf_18 : decode cX10_underOf 18 = .ok (.imul, 1) := by decide +kernel
theorem dX10_underOf_19 : decode cX10_underOf 19 = .ok (.aload_n 0, 1) := by decide +kernel
theorem dX10_underOf_20 : decode cX10_underOf 20 = .ok (.getfield 40, 3) := by decide +kernel
theorem dX10_underOf_23 : decode cX10_underOf 23 = .ok (.iload_n 3, 1) := by decide +kernel
theorem dX10_underOf_24 : decode cX10_underOf 24 = .ok (.iaload, 1) := by decide +kernel
theorem dX10_underOf_25 : decode cX10_underOf 25 = .ok (.iadd, 1) := by decide +kernel
theorem dX10_underOf_26 : decode cX10_underOf 26 = .ok (.iaload, 1) := by decide +kernel
theorem dX10_underOf_27 : decode cX10_underOf 27 = .ok (.aload_n 0, 1) := by decide +kernel
theorem dX10_underOf_28 : decode cX10_underOf 28 = .ok (.getfield 43, 3) := by decide +kernel
theorem dX10_underOf_31 : decode cX10_underOf 31 = .ok (.iload_n 3, 1) := by decide +kernel
theorem dX10_underOf_32 : decode cX10_underOf 32 = .ok (.iaload, 1) := by decide +kernel
theorem dX10_underOf_33 : decode cX10_underOf 33 = .ok (.if_icmp .lt 7, 3) := by decide +kernel
theorem dX10_underOf_36 : decode cX10_underOf 36 = .ok (.iconst 1, 1) := by decide +kernel
theorem dX10_underOf_37 : decode cX10_underOf 37 = .ok (.goto 4, 3) := by decide +kernel
theorem dX10_underOf_40 : decode cX10_underOf 40 = .ok (.iconst 0, 1) := by decide +kernel
theorem dX10_underOf_41 : decode cX10_underOf 41 = .ok (.istore 4, 2) := by decide +kernel
theorem dX10_underOf_43 : decode cX10_underOf 43 = .ok (.aload_n 0, 1) := by decide +kernel
theorem dX10_underOf_44 : decode cX10_underOf 44 = .ok (.getfield 46, 3) := by decide +kernel
theorem dX10_underOf_47 : decode cX10_underOf 47 = .ok (.iload_n 3, 1) := by decide +kernel
theorem dX10_underOf_48 : decode cX10_underOf 48 = .ok (.iaload, 1) := by decide +kernel
theorem dX10_underOf_49 : decode cX10_underOf 49 = .ok (.ifCond .lt 35, 3) := by decide +kernel
theorem dX10_underOf_52 : decode cX10_underOf 52 = .ok (.aload_n 0, 1) := by decide +kernel
theorem dX10_underOf_53 : decode cX10_underOf 53 = .ok (.getfield 113, 3) := by decide +kernel
theorem dX10_underOf_56 : decode cX10_underOf 56 = .ok (.iconst 4, 1) := by decide +kernel
theorem dX10_underOf_57 : decode cX10_underOf 57 = .ok (.iload_n 1, 1) := by decide +kernel
theorem dX10_underOf_58 : decode cX10_underOf 58 = .ok (.imul, 1) := by decide +kernel
theorem dX10_underOf_59 : decode cX10_underOf 59 = .ok (.iconst 0, 1) := by decide +kernel
theorem dX10_underOf_60 : decode cX10_underOf 60 = .ok (.aload_n 0, 1) := by decide +kernel
theorem dX10_underOf_61 : decode cX10_underOf 61 = .ok (.getfield 46, 3) := by decide +kernel
theorem dX10_underOf_64 : decode cX10_underOf 64 = .ok (.iload_n 3, 1) := by decide +kernel
theorem dX10_underOf_65 : decode cX10_underOf 65 = .ok (.iaload, 1) := by decide +kernel
theorem dX10_underOf_66 : decode cX10_underOf 66 = .ok (.invokestatic 193, 3) := by decide +kernel
theorem dX10_underOf_69 : decode cX10_underOf 69 = .ok (.iadd, 1) := by decide +kernel
theorem dX10_underOf_70 : decode cX10_underOf 70 = .ok (.iaload, 1) := by decide +kernel
theorem dX10_underOf_71 : decode cX10_underOf 71 = .ok (.aload_n 0, 1) := by decide +kernel
theorem dX10_underOf_72 : decode cX10_underOf 72 = .ok (.getfield 49, 3) := by decide +kernel
theorem dX10_underOf_75 : decode cX10_underOf 75 = .ok (.iload_n 3, 1) := by decide +kernel
theorem dX10_underOf_76 : decode cX10_underOf 76 = .ok (.iaload, 1) := by decide +kernel
theorem dX10_underOf_77 : decode cX10_underOf 77 = .ok (.if_icmp .lt 7, 3) := by decide +kernel
theorem dX10_underOf_80 : decode cX10_underOf 80 = .ok (.iconst 1, 1) := by decide +kernel
theorem dX10_underOf_81 : decode cX10_underOf 81 = .ok (.goto 4, 3) := by decide +kernel
theorem dX10_underOf_84 : decode cX10_underOf 84 = .ok (.iconst 0, 1) := by decide +kernel
theorem dX10_underOf_85 : decode cX10_underOf 85 = .ok (.istore 5, 2) := by decide +kernel
theorem dX10_underOf_87 : decode cX10_underOf 87 = .ok (.iload_n 2, 1) := by decide +kernel
theorem dX10_underOf_88 : decode cX10_underOf 88 = .ok (.iload 4, 2) := by decide +kernel
theorem dX10_underOf_90 : decode cX10_underOf 90 = .ok (.ifCond .eq 14, 3) := by decide +kernel
theorem dX10_underOf_93 : decode cX10_underOf 93 = .ok (.iload 5, 2) := by decide +kernel
theorem dX10_underOf_95 : decode cX10_underOf 95 = .ok (.ifCond .ne 9, 3) := by decide +kernel
theorem dX10_underOf_98 : decode cX10_underOf 98 = .ok (.iconst 1, 1) := by decide +kernel
theorem dX10_underOf_99 : decode cX10_underOf 99 = .ok (.iload_n 3, 1) := by decide +kernel
theorem dX10_underOf_100 : decode cX10_underOf 100 = .ok (.ishl, 1) := by decide +kernel
theorem dX10_underOf_101 : decode cX10_underOf 101 = .ok (.goto 4, 3) := by decide +kernel
theorem dX10_underOf_104 : decode cX10_underOf 104 = .ok (.iconst 0, 1) := by decide +kernel
theorem dX10_underOf_105 : decode cX10_underOf 105 = .ok (.ior, 1) := by decide +kernel
theorem dX10_underOf_106 : decode cX10_underOf 106 = .ok (.istore_n 2, 1) := by decide +kernel
theorem dX10_underOf_107 : decode cX10_underOf 107 = .ok (.iinc 3 1, 3) := by decide +kernel
theorem dX10_underOf_110 : decode cX10_underOf 110 = .ok (.goto (-106), 3) := by decide +kernel
theorem dX10_underOf_113 : decode cX10_underOf 113 = .ok (.iload_n 2, 1) := by decide +kernel
theorem dX10_underOf_114 : decode cX10_underOf 114 = .ok (.ireturn, 1) := by decide +kernel
theorem dX10_under_0 : decode cX10_under 0 = .ok (.aload_n 0, 1) := by decide +kernel
theorem dX10_under_1 : decode cX10_under 1 = .ok (.iload_n 1, 1) := by decide +kernel
theorem dX10_under_2 : decode cX10_under 2 = .ok (.invokevirtual 222, 3) := by decide +kernel
theorem dX10_under_5 : decode cX10_under 5 = .ok (.ifCond .eq 11, 3) := by decide +kernel
theorem dX10_under_8 : decode cX10_under 8 = .ok (.aload_n 0, 1) := by decide +kernel
theorem dX10_under_9 : decode cX10_under 9 = .ok (.iload_n 1, 1) := by decide +kernel
theorem dX10_under_10 : decode cX10_under 10 = .ok (.invokevirtual 239, 3) := by decide +kernel
theorem dX10_under_13 : decode cX10_under 13 = .ok (.goto 4, 3) := by decide +kernel
theorem dX10_under_16 : decode cX10_under 16 = .ok (.iconst (-1), 1) := by decide +kernel
theorem dX10_under_17 : decode cX10_under 17 = .ok (.ireturn, 1) := by decide +kernel
theorem dX10_valueIn_0 : decode cX10_valueIn 0 = .ok (.aload_n 0, 1) := by decide +kernel
theorem dX10_valueIn_1 : decode cX10_valueIn 1 = .ok (.getfield 113, 3) := by decide +kernel
theorem dX10_valueIn_4 : decode cX10_valueIn 4 = .ok (.iconst 4, 1) := by decide +kernel
theorem dX10_valueIn_5 : decode cX10_valueIn 5 = .ok (.iload_n 1, 1) := by decide +kernel
theorem dX10_valueIn_6 : decode cX10_valueIn 6 = .ok (.imul, 1) := by decide +kernel
theorem dX10_valueIn_7 : decode cX10_valueIn 7 = .ok (.iload_n 2, 1) := by decide +kernel
theorem dX10_valueIn_8 : decode cX10_valueIn 8 = .ok (.iadd, 1) := by decide +kernel
theorem dX10_valueIn_9 : decode cX10_valueIn 9 = .ok (.iaload, 1) := by decide +kernel
theorem dX10_valueIn_10 : decode cX10_valueIn 10 = .ok (.istore_n 3, 1) := by decide +kernel
theorem dX10_valueIn_11 : decode cX10_valueIn 11 = .ok (.iload_n 3, 1) := by decide +kernel
theorem dX10_valueIn_12 : decode cX10_valueIn 12 = .ok (.ifCond .ne 12, 3) := by decide +kernel
theorem dX10_valueIn_15 : decode cX10_valueIn 15 = .ok (.aload_n 0, 1) := by decide +kernel
theorem dX10_valueIn_16 : decode cX10_valueIn 16 = .ok (.getfield 15, 3) := by decide +kernel
theorem dX10_valueIn_19 : decode cX10_valueIn 19 = .ok (.iload_n 2, 1) := by decide +kernel
theorem dX10_valueIn_20 : decode cX10_valueIn 20 = .ok (.iaload, 1) := by decide +kernel
theorem dX10_valueIn_21 : decode cX10_valueIn 21 = .ok (.goto 13, 3) := by decide +kernel
theorem dX10_valueIn_24 : decode cX10_valueIn 24 = .ok (.aload_n 0, 1) := by decide +kernel
theorem dX10_valueIn_25 : decode cX10_valueIn 25 = .ok (.getfield 25, 3) := by decide +kernel
theorem dX10_valueIn_28 : decode cX10_valueIn 28 = .ok (.iload_n 2, 1) := by decide +kernel
theorem dX10_valueIn_29 : decode cX10_valueIn 29 = .ok (.iload_n 3, 1) := by decide +kernel
theorem dX10_valueIn_30 : decode cX10_valueIn 30 = .ok (.invokestatic 189, 3) := by decide +kernel
theorem dX10_valueIn_33 : decode cX10_valueIn 33 = .ok (.iaload, 1) := by decide +kernel
theorem dX10_valueIn_34 : decode cX10_valueIn 34 = .ok (.ireturn, 1) := by decide +kernel
theorem dX10_value_0 : decode cX10_value 0 = .ok (.aload_n 0, 1) := by decide +kernel
theorem dX10_value_1 : decode cX10_value 1 = .ok (.iload_n 1, 1) := by decide +kernel
theorem dX10_value_2 : decode cX10_value 2 = .ok (.invokevirtual 222, 3) := by decide +kernel
theorem dX10_value_5 : decode cX10_value 5 = .ok (.ifCond .eq 23, 3) := by decide +kernel
theorem dX10_value_8 : decode cX10_value 8 = .ok (.aload_n 0, 1) := by decide +kernel
theorem dX10_value_9 : decode cX10_value 9 = .ok (.iload_n 2, 1) := by decide +kernel
theorem dX10_value_10 : decode cX10_value 10 = .ok (.invokevirtual 169, 3) := by decide +kernel
theorem dX10_value_13 : decode cX10_value 13 = .ok (.ifCond .eq 15, 3) := by decide +kernel
theorem dX10_value_16 : decode cX10_value 16 = .ok (.aload_n 0, 1) := by decide +kernel
theorem dX10_value_17 : decode cX10_value 17 = .ok (.iload_n 1, 1) := by decide +kernel
theorem dX10_value_18 : decode cX10_value 18 = .ok (.iload_n 2, 1) := by decide +kernel
theorem dX10_value_19 : decode cX10_value 19 = .ok (.invokevirtual 242, 3) := by decide +kernel
theorem dX10_value_22 : decode cX10_value 22 = .ok (.bipush 100, 2) := by decide +kernel
theorem dX10_value_24 : decode cX10_value 24 = .ok (.iadd, 1) := by decide +kernel
theorem dX10_value_25 : decode cX10_value 25 = .ok (.goto 4, 3) := by decide +kernel
theorem dX10_value_28 : decode cX10_value 28 = .ok (.iconst (-1), 1) := by decide +kernel
theorem dX10_value_29 : decode cX10_value 29 = .ok (.ireturn, 1) := by decide +kernel
theorem dX10_ways_0 : decode cX10_ways 0 = .ok (.iload_n 1, 1) := by decide +kernel
theorem dX10_ways_1 : decode cX10_ways 1 = .ok (.iconst (-1), 1) := by decide +kernel
theorem dX10_ways_2 : decode cX10_ways 2 = .ok (.if_icmp .eq 15, 3) := by decide +kernel
theorem dX10_ways_5 : decode cX10_ways 5 = .ok (.aload_n 0, 1) := by decide +kernel
theorem dX10_ways_6 : decode cX10_ways 6 = .ok (.iload_n 1, 1) := by decide +kernel
theorem dX10_ways_7 : decode cX10_ways 7 = .ok (.invokevirtual 222, 3) := by decide +kernel
theorem dX10_ways_10 : decode cX10_ways 10 = .ok (.ifCond .ne 7, 3) := by decide +kernel
theorem dX10_ways_13 : decode cX10_ways 13 = .ok (.ldc2_w 245, 3) := by decide +kernel
theorem dX10_ways_16 : decode cX10_ways 16 = .ok (.lreturn, 1) := by decide +kernel
theorem dX10_ways_17 : decode cX10_ways 17 = .ok (.aload_n 0, 1) := by decide +kernel
theorem dX10_ways_18 : decode cX10_ways 18 = .ok (.invokevirtual 219, 3) := by decide +kernel
theorem dX10_ways_21 : decode cX10_ways 21 = .ok (.iconst 0, 1) := by decide +kernel
theorem dX10_ways_22 : decode cX10_ways 22 = .ok (.istore_n 2, 1) := by decide +kernel
theorem dX10_ways_23 : decode cX10_ways 23 = .ok (.iload_n 2, 1) := by decide +kernel
theorem dX10_ways_24 : decode cX10_ways 24 = .ok (.aload_n 0, 1) := by decide +kernel
theorem dX10_ways_25 : decode cX10_ways 25 = .ok (.getfield 208, 3) := by decide +kernel
theorem dX10_ways_28 : decode cX10_ways 28 = .ok (.if_icmp .ge 45, 3) := by decide +kernel
theorem dX10_ways_31 : decode cX10_ways 31 = .ok (.aload_n 0, 1) := by decide +kernel
theorem dX10_ways_32 : decode cX10_ways 32 = .ok (.getfield 122, 3) := by decide +kernel
theorem dX10_ways_35 : decode cX10_ways 35 = .ok (.iload_n 2, 1) := by decide +kernel
theorem dX10_ways_36 : decode cX10_ways 36 = .ok (.iload_n 2, 1) := by decide +kernel
theorem dX10_ways_37 : decode cX10_ways 37 = .ok (.ifCond .ne 7, 3) := by decide +kernel
theorem dX10_ways_40 : decode cX10_ways 40 = .ok (.lconst 1, 1) := by decide +kernel
theorem dX10_ways_41 : decode cX10_ways 41 = .ok (.goto 4, 3) := by decide +kernel
theorem dX10_ways_44 : decode cX10_ways 44 = .ok (.lconst 0, 1) := by decide +kernel
theorem dX10_ways_45 : decode cX10_ways 45 = .ok (.lastore, 1) := by decide +kernel
theorem dX10_ways_46 : decode cX10_ways 46 = .ok (.aload_n 0, 1) := by decide +kernel
theorem dX10_ways_47 : decode cX10_ways 47 = .ok (.getfield 125, 3) := by decide +kernel
theorem dX10_ways_50 : decode cX10_ways 50 = .ok (.iload_n 2, 1) := by decide +kernel
theorem dX10_ways_51 : decode cX10_ways 51 = .ok (.iload_n 2, 1) := by decide +kernel
theorem dX10_ways_52 : decode cX10_ways 52 = .ok (.aload_n 0, 1) := by decide +kernel
theorem dX10_ways_53 : decode cX10_ways 53 = .ok (.getfield 208, 3) := by decide +kernel
theorem dX10_ways_56 : decode cX10_ways 56 = .ok (.iconst 1, 1) := by decide +kernel
theorem dX10_ways_57 : decode cX10_ways 57 = .ok (.isub, 1) := by decide +kernel
theorem dX10_ways_58 : decode cX10_ways 58 = .ok (.if_icmp .ne 7, 3) := by decide +kernel
theorem dX10_ways_61 : decode cX10_ways 61 = .ok (.lconst 1, 1) := by decide +kernel
theorem dX10_ways_62 : decode cX10_ways 62 = .ok (.goto 4, 3) := by decide +kernel
theorem dX10_ways_65 : decode cX10_ways 65 = .ok (.lconst 0, 1) := by decide +kernel
theorem dX10_ways_66 : decode cX10_ways 66 = .ok (.lastore, 1) := by decide +kernel
theorem dX10_ways_67 : decode cX10_ways 67 = .ok (.iinc 2 1, 3) := by decide +kernel
theorem dX10_ways_70 : decode cX10_ways 70 = .ok (.goto (-47), 3) := by decide +kernel
theorem dX10_ways_73 : decode cX10_ways 73 = .ok (.iconst 0, 1) := by decide +kernel
theorem dX10_ways_74 : decode cX10_ways 74 = .ok (.istore_n 2, 1) := by decide +kernel
theorem dX10_ways_75 : decode cX10_ways 75 = .ok (.iload_n 2, 1) := by decide +kernel
theorem dX10_ways_76 : decode cX10_ways 76 = .ok (.aload_n 0, 1) := by decide +kernel
theorem dX10_ways_77 : decode cX10_ways 77 = .ok (.getfield 208, 3) := by decide +kernel
theorem dX10_ways_80 : decode cX10_ways 80 = .ok (.if_icmp .ge 54, 3) := by decide +kernel
theorem dX10_ways_83 : decode cX10_ways 83 = .ok (.iconst 0, 1) := by decide +kernel
theorem dX10_ways_84 : decode cX10_ways 84 = .ok (.istore_n 3, 1) := by decide +kernel
theorem dX10_ways_85 : decode cX10_ways 85 = .ok (.iload_n 3, 1) := by decide +kernel
theorem dX10_ways_86 : decode cX10_ways 86 = .ok (.aload_n 0, 1) := by decide +kernel
theorem dX10_ways_87 : decode cX10_ways 87 = .ok (.getfield 9, 3) := by decide +kernel
theorem dX10_ways_90 : decode cX10_ways 90 = .ok (.if_icmp .ge 38, 3) := by decide +kernel
theorem dX10_ways_93 : decode cX10_ways 93 = .ok (.aload_n 0, 1) := by decide +kernel
theorem dX10_ways_94 : decode cX10_ways 94 = .ok (.iload_n 2, 1) := by decide +kernel
theorem dX10_ways_95 : decode cX10_ways 95 = .ok (.iload_n 3, 1) := by decide +kernel
theorem dX10_ways_96 : decode cX10_ways 96 = .ok (.invokevirtual 229, 3) := by decide +kernel
theorem dX10_ways_99 : decode cX10_ways 99 = .ok (.ifCond .lt 23, 3) := by decide +kernel
theorem dX10_ways_102 : decode cX10_ways 102 = .ok (.aload_n 0, 1) := by decide +kernel
theorem dX10_ways_103 : decode cX10_ways 103 = .ok (.getfield 122, 3) := by decide +kernel
theorem dX10_ways_106 : decode cX10_ways 106 = .ok (.aload_n 0, 1) := by decide +kernel
theorem dX10_ways_107 : decode cX10_ways 107 = .ok (.iload_n 2, 1) := by decide +kernel
theorem dX10_ways_108 : decode cX10_ways 108 = .ok (.iload_n 3, 1) := by decide +kernel
theorem dX10_ways_109 : decode cX10_ways 109 = .ok (.invokevirtual 229, 3) := by decide +kernel
theorem dX10_ways_112 : decode cX10_ways 112 = .ok (.dup2, 1) := by decide +kernel
theorem dX10_ways_113 : decode cX10_ways 113 = .ok (.laload, 1) := by decide +kernel
theorem dX10_ways_114 : decode cX10_ways 114 = .ok (.aload_n 0, 1) := by decide +kernel
theorem dX10_ways_115 : decode cX10_ways 115 = .ok (.getfield 122, 3) := by decide +kernel
theorem dX10_ways_118 : decode cX10_ways 118 = .ok (.iload_n 2, 1) := by decide +kernel
theorem dX10_ways_119 : decode cX10_ways 119 = .ok (.laload, 1) := by decide +kernel
theorem dX10_ways_120 : decode cX10_ways 120 = .ok (.ladd, 1) := by decide +kernel
theorem dX10_ways_121 : decode cX10_ways 121 = .ok (.lastore, 1) := by decide +kernel
theorem dX10_ways_122 : decode cX10_ways 122 = .ok (.iinc 3 1, 3) := by decide +kernel
theorem dX10_ways_125 : decode cX10_ways 125 = .ok (.goto (-40), 3) := by decide +kernel
theorem dX10_ways_128 : decode cX10_ways 128 = .ok (.iinc 2 1, 3) := by decide +kernel
theorem dX10_ways_131 : decode cX10_ways 131 = .ok (.goto (-56), 3) := by decide +kernel
theorem dX10_ways_134 : decode cX10_ways 134 = .ok (.aload_n 0, 1) := by decide +kernel
theorem dX10_ways_135 : decode cX10_ways 135 = .ok (.getfield 208, 3) := by decide +kernel
theorem dX10_ways_138 : decode cX10_ways 138 = .ok (.iconst 1, 1) := by decide +kernel
theorem dX10_ways_139 : decode cX10_ways 139 = .ok (.isub, 1) := by decide +kernel
theorem dX10_ways_140 : decode cX10_ways 140 = .ok (.istore_n 2, 1) := by decide +kernel
theorem dX10_ways_141 : decode cX10_ways 141 = .ok (.iload_n 2, 1) := by decide +kernel
theorem dX10_ways_142 : decode cX10_ways 142 = .ok (.ifCond .lt 54, 3) := by decide +kernel
theorem dX10_ways_145 : decode cX10_ways 145 = .ok (.iconst 0, 1) := by decide +kernel
theorem dX10_ways_146 : decode cX10_ways 146 = .ok (.istore_n 3, 1) := by decide +kernel
theorem dX10_ways_147 : decode cX10_ways 147 = .ok (.iload_n 3, 1) := by decide +kernel
theorem dX10_ways_148 : decode cX10_ways 148 = .ok (.aload_n 0, 1) := by decide +kernel
theorem dX10_ways_149 : decode cX10_ways 149 = .ok (.getfield 9, 3) := by decide +kernel
theorem dX10_ways_152 : decode cX10_ways 152 = .ok (.if_icmp .ge 38, 3) := by decide +kernel
theorem dX10_ways_155 : decode cX10_ways 155 = .ok (.aload_n 0, 1) := by decide +kernel
theorem dX10_ways_156 : decode cX10_ways 156 = .ok (.iload_n 2, 1) := by decide +kernel
theorem dX10_ways_157 : decode cX10_ways 157 = .ok (.iload_n 3, 1) := by decide +kernel
theorem dX10_ways_158 : decode cX10_ways 158 = .ok (.invokevirtual 229, 3) := by decide +kernel
theorem dX10_ways_161 : decode cX10_ways 161 = .ok (.ifCond .lt 23, 3) := by decide +kernel
theorem dX10_ways_164 : decode cX10_ways 164 = .ok (.aload_n 0, 1) := by decide +kernel
theorem dX10_ways_165 : decode cX10_ways 165 = .ok (.getfield 125, 3) := by decide +kernel
theorem dX10_ways_168 : decode cX10_ways 168 = .ok (.iload_n 2, 1) := by decide +kernel
theorem dX10_ways_169 : decode cX10_ways 169 = .ok (.dup2, 1) := by decide +kernel
theorem dX10_ways_170 : decode cX10_ways 170 = .ok (.laload, 1) := by decide +kernel
theorem dX10_ways_171 : decode cX10_ways 171 = .ok (.aload_n 0, 1) := by decide +kernel
theorem dX10_ways_172 : decode cX10_ways 172 = .ok (.getfield 125, 3) := by decide +kernel
theorem dX10_ways_175 : decode cX10_ways 175 = .ok (.aload_n 0, 1) := by decide +kernel
theorem dX10_ways_176 : decode cX10_ways 176 = .ok (.iload_n 2, 1) := by decide +kernel
theorem dX10_ways_177 : decode cX10_ways 177 = .ok (.iload_n 3, 1) := by decide +kernel
theorem dX10_ways_178 : decode cX10_ways 178 = .ok (.invokevirtual 229, 3) := by decide +kernel
theorem dX10_ways_181 : decode cX10_ways 181 = .ok (.laload, 1) := by decide +kernel
theorem dX10_ways_182 : decode cX10_ways 182 = .ok (.ladd, 1) := by decide +kernel
theorem dX10_ways_183 : decode cX10_ways 183 = .ok (.lastore, 1) := by decide +kernel
theorem dX10_ways_184 : decode cX10_ways 184 = .ok (.iinc 3 1, 3) := by decide +kernel
theorem dX10_ways_187 : decode cX10_ways 187 = .ok (.goto (-40), 3) := by decide +kernel
theorem dX10_ways_190 : decode cX10_ways 190 = .ok (.iinc 2 (-1), 3) := by decide +kernel
theorem dX10_ways_193 : decode cX10_ways 193 = .ok (.goto (-52), 3) := by decide +kernel
theorem dX10_ways_196 : decode cX10_ways 196 = .ok (.iload_n 1, 1) := by decide +kernel
theorem dX10_ways_197 : decode cX10_ways 197 = .ok (.iconst (-1), 1) := by decide +kernel
theorem dX10_ways_198 : decode cX10_ways 198 = .ok (.if_icmp .ne 17, 3) := by decide +kernel
theorem dX10_ways_201 : decode cX10_ways 201 = .ok (.aload_n 0, 1) := by decide +kernel
theorem dX10_ways_202 : decode cX10_ways 202 = .ok (.getfield 122, 3) := by decide +kernel
theorem dX10_ways_205 : decode cX10_ways 205 = .ok (.aload_n 0, 1) := by decide +kernel
theorem dX10_ways_206 : decode cX10_ways 206 = .ok (.getfield 208, 3) := by decide +kernel
theorem dX10_ways_209 : decode cX10_ways 209 = .ok (.iconst 1, 1) := by decide +kernel
theorem dX10_ways_210 : decode cX10_ways 210 = .ok (.isub, 1) := by decide +kernel
theorem dX10_ways_211 : decode cX10_ways 211 = .ok (.laload, 1) := by decide +kernel
theorem dX10_ways_212 : decode cX10_ways 212 = .ok (.goto 16, 3) := by decide +kernel
theorem dX10_ways_215 : decode cX10_ways 215 = .ok (.aload_n 0, 1) := by decide +kernel
theorem dX10_ways_216 : decode cX10_ways 216 = .ok (.getfield 122, 3) := by decide +kernel
theorem dX10_ways_219 : decode cX10_ways 219 = .ok (.iload_n 1, 1) := by decide +kernel
theorem dX10_ways_220 : decode cX10_ways 220 = .ok (.laload, 1) := by decide +kernel
theorem dX10_ways_221 : decode cX10_ways 221 = .ok (.aload_n 0, 1) := by decide +kernel
theorem dX10_ways_222 : decode cX10_ways 222 = .ok (.getfield 125, 3) := by decide +kernel
theorem dX10_ways_225 : decode cX10_ways 225 = .ok (.iload_n 1, 1) := by decide +kernel
theorem dX10_ways_226 : decode cX10_ways 226 = .ok (.laload, 1) := by decide +kernel
theorem dX10_ways_227 : decode cX10_ways 227 = .ok (.lmul, 1) := by decide +kernel
theorem dX10_ways_228 : decode cX10_ways 228 = .ok (.lreturn, 1) := by decide +kernel
theorem dX10_tapeAt_0 : decode cX10_tapeAt 0 = .ok (.iload_n 1, 1) := by decide +kernel
theorem dX10_tapeAt_1 : decode cX10_tapeAt 1 = .ok (.aload_n 0, 1) := by decide +kernel
theorem dX10_tapeAt_2 : decode cX10_tapeAt 2 = .ok (.getfield 247, 3) := by decide +kernel
theorem dX10_tapeAt_5 : decode cX10_tapeAt 5 = .ok (.if_icmp .ge 12, 3) := by decide +kernel
theorem dX10_tapeAt_8 : decode cX10_tapeAt 8 = .ok (.aload_n 0, 1) := by decide +kernel
theorem dX10_tapeAt_9 : decode cX10_tapeAt 9 = .ok (.getfield 58, 3) := by decide +kernel
theorem dX10_tapeAt_12 : decode cX10_tapeAt 12 = .ok (.iload_n 1, 1) := by decide +kernel
theorem dX10_tapeAt_13 : decode cX10_tapeAt 13 = .ok (.iaload, 1) := by decide +kernel
theorem dX10_tapeAt_14 : decode cX10_tapeAt 14 = .ok (.goto 4, 3) := by decide +kernel
theorem dX10_tapeAt_17 : decode cX10_tapeAt 17 = .ok (.iconst (-1), 1) := by decide +kernel
theorem dX10_tapeAt_18 : decode cX10_tapeAt 18 = .ok (.ireturn, 1) := by decide +kernel
theorem dX10_isFigure_0 : decode cX10_isFigure 0 = .ok (.iload_n 0, 1) := by decide +kernel
theorem dX10_isFigure_1 : decode cX10_isFigure 1 = .ok (.i2l, 1) := by decide +kernel
theorem dX10_isFigure_2 : decode cX10_isFigure 2 = .ok (.ldc2_w 250, 3) := by decide +kernel
theorem dX10_isFigure_5 : decode cX10_isFigure 5 = .ok (.ldc2_w 252, 3) := by decide +kernel
theorem dX10_isFigure_8 : decode cX10_isFigure 8 = .ok (.invokestatic 165, 3) := by decide +kernel
theorem dX10_isFigure_11 : decode cX10_isFigure 11 = .ok (.ireturn, 1) := by decide +kernel
theorem dX10_behindUnit_0 : decode cX10_behindUnit 0 = .ok (.aload_n 0, 1) := by decide +kernel
theorem dX10_behindUnit_1 : decode cX10_behindUnit 1 = .ok (.iload_n 1, 1) := by decide +kernel
theorem dX10_behindUnit_2 : decode cX10_behindUnit 2 = .ok (.invokevirtual 254, 3) := by decide +kernel
theorem dX10_behindUnit_5 : decode cX10_behindUnit 5 = .ok (.istore_n 2, 1) := by decide +kernel
theorem dX10_behindUnit_6 : decode cX10_behindUnit 6 = .ok (.iload_n 2, 1) := by decide +kernel
theorem dX10_behindUnit_7 : decode cX10_behindUnit 7 = .ok (.bipush 109, 2) := by decide +kernel
theorem dX10_behindUnit_9 : decode cX10_behindUnit 9 = .ok (.if_icmp .ne 7, 3) := by decide +kernel
theorem dX10_behindUnit_12 : decode cX10_behindUnit 12 = .ok (.iload_n 1, 1) := by decide +kernel
theorem dX10_behindUnit_13 : decode cX10_behindUnit 13 = .ok (.iconst 1, 1) := by decide +kernel
theorem dX10_behindUnit_14 : decode cX10_behindUnit 14 = .ok (.iadd, 1) := by decide +kernel
theorem dX10_behindUnit_15 : decode cX10_behindUnit 15 = .ok (.ireturn, 1) := by decide +kernel
theorem dX10_behindUnit_16 : decode cX10_behindUnit 16 = .ok (.iload_n 2, 1) := by decide +kernel
theorem dX10_behindUnit_17 : decode cX10_behindUnit 17 = .ok (.bipush 120, 2) := by decide +kernel
theorem dX10_behindUnit_19 : decode cX10_behindUnit 19 = .ok (.if_icmp .eq 9, 3) := by decide +kernel
theorem dX10_behindUnit_22 : decode cX10_behindUnit 22 = .ok (.iload_n 2, 1) := by decide +kernel
theorem dX10_behindUnit_23 : decode cX10_behindUnit 23 = .ok (.bipush 99, 2) := by decide +kernel
theorem dX10_behindUnit_25 : decode cX10_behindUnit 25 = .ok (.if_icmp .ne 41, 3) := by decide +kernel
theorem dX10_behindUnit_28 : decode cX10_behindUnit 28 = .ok (.aload_n 0, 1) := by decide +kernel
theorem dX10_behindUnit_29 : decode cX10_behindUnit 29 = .ok (.iload_n 1, 1) := by decide +kernel
theorem dX10_behindUnit_30 : decode cX10_behindUnit 30 = .ok (.iconst 1, 1) := by decide +kernel
theorem dX10_behindUnit_31 : decode cX10_behindUnit 31 = .ok (.iadd, 1) := by decide +kernel
theorem dX10_behindUnit_32 : decode cX10_behindUnit 32 = .ok (.invokevirtual 254, 3) := by decide +kernel
theorem dX10_behindUnit_35 : decode cX10_behindUnit 35 = .ok (.i2l, 1) := by decide +kernel
theorem dX10_behindUnit_36 : decode cX10_behindUnit 36 = .ok (.ldc2_w 250, 3) := by decide +kernel
theorem dX10_behindUnit_39 : decode cX10_behindUnit 39 = .ok (.bipush 48, 2) := by decide +kernel
theorem dX10_behindUnit_41 : decode cX10_behindUnit 41 = .ok (.aload_n 0, 1) := by decide +kernel
theorem dX10_behindUnit_42 : decode cX10_behindUnit 42 = .ok (.getfield 9, 3) := by decide +kernel
theorem dX10_behindUnit_45 : decode cX10_behindUnit 45 = .ok (.iadd, 1) := by decide +kernel
theorem dX10_behindUnit_46 : decode cX10_behindUnit 46 = .ok (.iconst 1, 1) := by decide +kernel
theorem dX10_behindUnit_47 : decode cX10_behindUnit 47 = .ok (.isub, 1) := by decide +kernel
theorem dX10_behindUnit_48 : decode cX10_behindUnit 48 = .ok (.i2l, 1) := by decide +kernel
theorem dX10_behindUnit_49 : decode cX10_behindUnit 49 = .ok (.invokestatic 165, 3) := by decide +kernel
theorem dX10_behindUnit_52 : decode cX10_behindUnit 52 = .ok (.ifCond .eq 9, 3) := by decide +kernel
theorem dX10_behindUnit_55 : decode cX10_behindUnit 55 = .ok (.iload_n 1, 1) := by decide +kernel
theorem dX10_behindUnit_56 : decode cX10_behindUnit 56 = .ok (.iconst 2, 1) := by decide +kernel
theorem dX10_behindUnit_57 : decode cX10_behindUnit 57 = .ok (.iadd, 1) := by decide +kernel
theorem dX10_behindUnit_58 : decode cX10_behindUnit 58 = .ok (.goto 7, 3) := by decide +kernel
theorem dX10_behindUnit_61 : decode cX10_behindUnit 61 = .ok (.bipush (-2), 2) := by decide +kernel
theorem dX10_behindUnit_63 : decode cX10_behindUnit 63 = .ok (.iload_n 1, 1) := by decide +kernel
theorem dX10_behindUnit_64 : decode cX10_behindUnit 64 = .ok (.isub, 1) := by decide +kernel
theorem dX10_behindUnit_65 : decode cX10_behindUnit 65 = .ok (.ireturn, 1) := by decide +kernel
theorem dX10_behindUnit_66 : decode cX10_behindUnit 66 = .ok (.iload_n 2, 1) := by decide +kernel
theorem dX10_behindUnit_67 : decode cX10_behindUnit 67 = .ok (.invokestatic 257, 3) := by decide +kernel
theorem dX10_behindUnit_70 : decode cX10_behindUnit 70 = .ok (.ifCond .ne 7, 3) := by decide +kernel
theorem dX10_behindUnit_73 : decode cX10_behindUnit 73 = .ok (.iconst (-1), 1) := by decide +kernel
theorem dX10_behindUnit_74 : decode cX10_behindUnit 74 = .ok (.iload_n 1, 1) := by decide +kernel
theorem dX10_behindUnit_75 : decode cX10_behindUnit 75 = .ok (.isub, 1) := by decide +kernel
theorem dX10_behindUnit_76 : decode cX10_behindUnit 76 = .ok (.ireturn, 1) := by decide +kernel
theorem dX10_behindUnit_77 : decode cX10_behindUnit 77 = .ok (.aload_n 0, 1) := by decide +kernel
theorem dX10_behindUnit_78 : decode cX10_behindUnit 78 = .ok (.iload_n 1, 1) := by decide +kernel
theorem dX10_behindUnit_79 : decode cX10_behindUnit 79 = .ok (.iconst 1, 1) := by decide +kernel
theorem dX10_behindUnit_80 : decode cX10_behindUnit 80 = .ok (.iadd, 1) := by decide +kernel
theorem dX10_behindUnit_81 : decode cX10_behindUnit 81 = .ok (.invokevirtual 254, 3) := by decide +kernel
theorem dX10_behindUnit_84 : decode cX10_behindUnit 84 = .ok (.invokestatic 257, 3) := by decide +kernel
theorem dX10_behindUnit_87 : decode cX10_behindUnit 87 = .ok (.ifCond .eq 9, 3) := by decide +kernel
theorem dX10_behindUnit_90 : decode cX10_behindUnit 90 = .ok (.iload_n 1, 1) := by decide +kernel
theorem dX10_behindUnit_91 : decode cX10_behindUnit 91 = .ok (.iconst 2, 1) := by decide +kernel
theorem dX10_behindUnit_92 : decode cX10_behindUnit 92 = .ok (.iadd, 1) := by decide +kernel
theorem dX10_behindUnit_93 : decode cX10_behindUnit 93 = .ok (.goto 6, 3) := by decide +kernel
theorem dX10_behindUnit_96 : decode cX10_behindUnit 96 = .ok (.iload_n 1, 1) := by decide +kernel
theorem dX10_behindUnit_97 : decode cX10_behindUnit 97 = .ok (.iconst 1, 1) := by decide +kernel
theorem dX10_behindUnit_98 : decode cX10_behindUnit 98 = .ok (.iadd, 1) := by decide +kernel
theorem dX10_behindUnit_99 : decode cX10_behindUnit 99 = .ok (.ireturn, 1) := by decide +kernel
theorem dX10_testEnds_0 : decode cX10_testEnds 0 = .ok (.aload_n 0, 1) := by decide +kernel
theorem dX10_testEnds_1 : decode cX10_testEnds 1 = .ok (.getfield 260, 3) := by decide +kernel
theorem dX10_testEnds_4 : decode cX10_testEnds 4 = .ok (.ifCond .le 32, 3) := by decide +kernel
theorem dX10_testEnds_7 : decode cX10_testEnds 7 = .ok (.aload_n 0, 1) := by decide +kernel
theorem dX10_testEnds_8 : decode cX10_testEnds 8 = .ok (.getfield 128, 3) := by decide +kernel
theorem dX10_testEnds_11 : decode cX10_testEnds 11 = .ok (.aload_n 0, 1) := by decide +kernel
theorem dX10_testEnds_12 : decode cX10_testEnds 12 = .ok (.getfield 260, 3) := by decide +kernel
theorem dX10_testEnds_15 : decode cX10_testEnds 15 = .ok (.iconst 1, 1) := by decide +kernel
theorem dX10_testEnds_16 : decode cX10_testEnds 16 = .ok (.isub, 1) := by decide +kernel
theorem dX10_testEnds_17 : decode cX10_testEnds 17 = .ok (.iaload, 1) := by decide +kernel
theorem dX10_testEnds_18 : decode cX10_testEnds 18 = .ok (.bipush 33, 2) := by decide +kernel
theorem dX10_testEnds_20 : decode cX10_testEnds 20 = .ok (.if_icmp .ne 16, 3) := by decide +kernel
theorem dX10_testEnds_23 : decode cX10_testEnds 23 = .ok (.aload_n 0, 1) := by decide +kernel
theorem dX10_testEnds_24 : decode cX10_testEnds 24 = .ok (.dup, 1) := by decide +kernel
theorem dX10_testEnds_25 : decode cX10_testEnds 25 = .ok (.getfield 260, 3) := by decide +kernel
theorem dX10_testEnds_28 : decode cX10_testEnds 28 = .ok (.iconst 1, 1) := by decide +kernel
theorem dX10_testEnds_29 : decode cX10_testEnds 29 = .ok (.isub, 1) := by decide +kernel
theorem dX10_testEnds_30 : decode cX10_testEnds 30 = .ok (.putfield 260, 3) := by decide +kernel
theorem dX10_testEnds_33 : decode cX10_testEnds 33 = .ok (.goto (-33), 3) := by decide +kernel
theorem dX10_testEnds_36 : decode cX10_testEnds 36 = .ok (.return_, 1) := by decide +kernel
theorem dX10_conditionFault_0 : decode cX10_conditionFault 0 = .ok (.iconst 0, 1) := by decide +kernel
theorem dX10_conditionFault_1 : decode cX10_conditionFault 1 = .ok (.istore_n 1, 1) := by decide +kernel
theorem dX10_conditionFault_2 : decode cX10_conditionFault 2 = .ok (.iconst 0, 1) := by decide +kernel
theorem dX10_conditionFault_3 : decode cX10_conditionFault 3 = .ok (.istore_n 2, 1) := by decide +kernel
theorem dX10_conditionFault_4 : decode cX10_conditionFault 4 = .ok (.aload_n 0, 1) := by decide +kernel
theorem dX10_conditionFault_5 : decode cX10_conditionFault 5 = .ok (.iconst 0, 1) := by decide +kernel
theorem dX10_conditionFault_6 : decode cX10_conditionFault 6 = .ok (.putfield 260, 3) := by decide +kernel
theorem dX10_conditionFault_9 : decode cX10_conditionFault 9 = .ok (.iload_n 2, 1) := by decide +kernel
theorem dX10_conditionFault_10 : decode cX10_conditionFault 10 = .ok (.aload_n 0, 1) := by decide +kernel
theorem dX10_conditionFault_11 : decode cX10_conditionFault 11 = .ok (.getfield 247, 3) := by decide +kernel
theorem dX10_conditionFault_14 : decode cX10_conditionFault 14 = .ok (.if_icmp .ge 227, 3) := by decide +kernel
theorem dX10_conditionFault_17 : decode cX10_conditionFault 17 = .ok (.aload_n 0, 1) := by decide +kernel
theorem dX10_conditionFault_18 : decode cX10_conditionFault 18 = .ok (.getfield 58, 3) := by decide +kernel
theorem dX10_conditionFault_21 : decode cX10_conditionFault 21 = .ok (.iload_n 2, 1) := by decide +kernel
theorem dX10_conditionFault_22 : decode cX10_conditionFault 22 = .ok (.iaload, 1) := by decide +kernel
theorem dX10_conditionFault_23 : decode cX10_conditionFault 23 = .ok (.istore_n 3, 1) := by decide +kernel
theorem dX10_conditionFault_24 : decode cX10_conditionFault 24 = .ok (.iload_n 1, 1) := by decide +kernel
theorem dX10_conditionFault_25 : decode cX10_conditionFault 25 = .ok (.ifCond .ne 51, 3) := by decide +kernel
theorem dX10_conditionFault_28 : decode cX10_conditionFault 28 = .ok (.iload_n 3, 1) := by decide +kernel
theorem dX10_conditionFault_29 : decode cX10_conditionFault 29 = .ok (.bipush 33, 2) := by decide +kernel
theorem dX10_conditionFault_31 : decode cX10_conditionFault 31 = .ok (.if_icmp .eq 9, 3) := by decide +kernel
theorem dX10_conditionFault_34 : decode cX10_conditionFault 34 = .ok (.iload_n 3, 1) := by decide +kernel
theorem dX10_conditionFault_35 : decode cX10_conditionFault 35 = .ok (.bipush 40, 2) := by decide +kernel
theorem dX10_conditionFault_37 : decode cX10_conditionFault 37 = .ok (.if_icmp .ne 39, 3) := by decide +kernel
theorem dX10_conditionFault_40 : decode cX10_conditionFault 40 = .ok (.aload_n 0, 1) := by decide +kernel
theorem dX10_conditionFault_41 : decode cX10_conditionFault 41 = .ok (.getfield 260, 3) := by decide +kernel
theorem dX10_conditionFault_44 : decode cX10_conditionFault 44 = .ok (.iconst 5, 1) := by decide +kernel
theorem dX10_conditionFault_45 : decode cX10_conditionFault 45 = .ok (.if_icmp .ne 5, 3) := by decide +kernel
theorem dX10_conditionFault_48 : decode cX10_conditionFault 48 = .ok (.iload_n 2, 1) := by decide +kernel
theorem dX10_conditionFault_49 : decode cX10_conditionFault 49 = .ok (.ireturn, 1) := by decide +kernel
theorem dX10_conditionFault_50 : decode cX10_conditionFault 50 = .ok (.aload_n 0, 1) := by decide +kernel
theorem dX10_conditionFault_51 : decode cX10_conditionFault 51 = .ok (.getfield 128, 3) := by decide +kernel
theorem dX10_conditionFault_54 : decode cX10_conditionFault 54 = .ok (.aload_n 0, 1) := by decide +kernel
theorem dX10_conditionFault_55 : decode cX10_conditionFault 55 = .ok (.getfield 260, 3) := by decide +kernel
theorem dX10_conditionFault_58 : decode cX10_conditionFault 58 = .ok (.iload_n 3, 1) := by decide +kernel
theorem dX10_conditionFault_59 : decode cX10_conditionFault 59 = .ok (.iastore, 1) := by decide +kernel
theorem dX10_conditionFault_60 : decode cX10_conditionFault 60 = .ok (.aload_n 0, 1) := by decide +kernel
theorem dX10_conditionFault_61 : decode cX10_conditionFault 61 = .ok (.dup, 1) := by decide +kernel
theorem dX10_conditionFault_62 : decode cX10_conditionFault 62 = .ok (.getfield 260, 3) := by decide +kernel
theorem dX10_conditionFault_65 : decode cX10_conditionFault 65 = .ok (.iconst 1, 1) := by decide +kernel
theorem dX10_conditionFault_66 : decode cX10_conditionFault 66 = .ok (.iadd, 1) := by decide +kernel
theorem dX10_conditionFault_67 : decode cX10_conditionFault 67 = .ok (.putfield 260, 3) := by decide +kernel
theorem dX10_conditionFault_70 : decode cX10_conditionFault 70 = .ok (.iinc 2 1, 3) := by decide +kernel
theorem dX10_conditionFault_73 : decode cX10_conditionFault 73 = .ok (.goto 157, 3) := by decide +kernel
theorem dX10_conditionFault_76 : decode cX10_conditionFault 76 = .ok (.iload_n 1, 1) := by decide +kernel
theorem dX10_conditionFault_77 : decode cX10_conditionFault 77 = .ok (.ifCond .ne 14, 3) := by decide +kernel
theorem dX10_conditionFault_80 : decode cX10_conditionFault 80 = .ok (.aload_n 0, 1) := by decide +kernel
theorem dX10_conditionFault_81 : decode cX10_conditionFault 81 = .ok (.iload_n 2, 1) := by decide +kernel
theorem dX10_conditionFault_82 : decode cX10_conditionFault 82 = .ok (.invokevirtual 263, 3) := by decide +kernel
theorem dX10_conditionFault_85 : decode cX10_conditionFault 85 = .ok (.istore_n 2, 1) := by decide +kernel
theorem dX10_conditionFault_86 : decode cX10_conditionFault 86 = .ok (.iconst 1, 1) := by decide +kernel
theorem dX10_conditionFault_87 : decode cX10_conditionFault 87 = .ok (.istore_n 1, 1) := by decide +kernel
theorem dX10_conditionFault_88 : decode cX10_conditionFault 88 = .ok (.goto 142, 3) := by decide +kernel
theorem dX10_conditionFault_91 : decode cX10_conditionFault 91 = .ok (.iload_n 3, 1) := by decide +kernel
theorem dX10_conditionFault_92 : decode cX10_conditionFault 92 = .ok (.bipush 43, 2) := by decide +kernel
theorem dX10_conditionFault_94 : decode cX10_conditionFault 94 = .ok (.if_icmp .eq 9, 3) := by decide +kernel
theorem dX10_conditionFault_97 : decode cX10_conditionFault 97 = .ok (.iload_n 3, 1) := by decide +kernel
theorem dX10_conditionFault_98 : decode cX10_conditionFault 98 = .ok (.bipush 45, 2) := by decide +kernel
theorem dX10_conditionFault_100 : decode cX10_conditionFault 100 = .ok (.if_icmp .ne 19, 3) := by decide +kernel
theorem dX10_conditionFault_103 : decode cX10_conditionFault 103 = .ok (.iload_n 1, 1) := by decide +kernel
theorem dX10_conditionFault_104 : decode cX10_conditionFault 104 = .ok (.iconst 3, 1) := by decide +kernel
theorem dX10_conditionFault_105 : decode cX10_conditionFault 105 = .ok (.if_icmp .ge 14, 3) := by decide +kernel
theorem dX10_conditionFault_108 : decode cX10_conditionFault 108 = .ok (.aload_n 0, 1) := by decide +kernel
theorem dX10_conditionFault_109 : decode cX10_conditionFault 109 = .ok (.iload_n 2, 1) := by decide +kernel
theorem dX10_conditionFault_110 : decode cX10_conditionFault 110 = .ok (.iconst 1, 1) := by decide +kernel
theorem dX10_conditionFault_111 : decode cX10_conditionFault 111 = .ok (.iadd, 1) := by decide +kernel
theorem dX10_conditionFault_112 : decode cX10_conditionFault 112 = .ok (.invokevirtual 263, 3) := by decide +kernel
theorem dX10_conditionFault_115 : decode cX10_conditionFault 115 = .ok (.istore_n 2, 1) := by decide +kernel
theorem dX10_conditionFault_116 : decode cX10_conditionFault 116 = .ok (.goto 114, 3) := by decide +kernel
theorem dX10_conditionFault_119 : decode cX10_conditionFault 119 = .ok (.iload_n 3, 1) := by decide +kernel
theorem dX10_conditionFault_120 : decode cX10_conditionFault 120 = .ok (.bipush 61, 2) := by decide +kernel
theorem dX10_conditionFault_122 : decode cX10_conditionFault 122 = .ok (.if_icmp .eq 15, 3) := by decide +kernel
theorem dX10_conditionFault_125 : decode cX10_conditionFault 125 = .ok (.iload_n 3, 1) := by decide +kernel
theorem dX10_conditionFault_126 : decode cX10_conditionFault 126 = .ok (.bipush 60, 2) := by decide +kernel
theorem dX10_conditionFault_128 : decode cX10_conditionFault 128 = .ok (.if_icmp .eq 9, 3) := by decide +kernel
theorem dX10_conditionFault_131 : decode cX10_conditionFault 131 = .ok (.iload_n 3, 1) := by decide +kernel
theorem dX10_conditionFault_132 : decode cX10_conditionFault 132 = .ok (.bipush 62, 2) := by decide +kernel
theorem dX10_conditionFault_134 : decode cX10_conditionFault 134 = .ok (.if_icmp .ne 21, 3) := by decide +kernel
theorem dX10_conditionFault_137 : decode cX10_conditionFault 137 = .ok (.iload_n 1, 1) := by decide +kernel
theorem dX10_conditionFault_138 : decode cX10_conditionFault 138 = .ok (.iconst 1, 1) := by decide +kernel
theorem dX10_conditionFault_139 : decode cX10_conditionFault 139 = .ok (.if_icmp .ne 16, 3) := by decide +kernel
theorem dX10_conditionFault_142 : decode cX10_conditionFault 142 = .ok (.aload_n 0, 1) := by decide +kernel
theorem dX10_conditionFault_143 : decode cX10_conditionFault 143 = .ok (.iload_n 2, 1) := by decide +kernel
theorem dX10_conditionFault_144 : decode cX10_conditionFault 144 = .ok (.iconst 1, 1) := by decide +kernel
theorem dX10_conditionFault_145 : decode cX10_conditionFault 145 = .ok (.iadd, 1) := by decide +kernel
theorem dX10_conditionFault_146 : decode cX10_conditionFault 146 = .ok (.invokevirtual 263, 3) := by decide +kernel
theorem dX10_conditionFault_149 : decode cX10_conditionFault 149 = .ok (.istore_n 2, 1) := by decide +kernel
theorem dX10_conditionFault_150 : decode cX10_conditionFault 150 = .ok (.iconst 2, 1) := by decide +kernel
theorem dX10_conditionFault_151 : decode cX10_conditionFault 151 = .ok (.istore_n 1, 1) := by decide +kernel
theorem dX10_conditionFault_152 : decode cX10_conditionFault 152 = .ok (.goto 78, 3) := by decide +kernel
theorem dX10_conditionFault_155 : decode cX10_conditionFault 155 = .ok (.iload_n 3, 1) := by decide +kernel
theorem dX10_conditionFault_156 : decode cX10_conditionFault 156 = .ok (.bipush 38, 2) := by decide +kernel
theorem dX10_conditionFault_158 : decode cX10_conditionFault 158 = .ok (.if_icmp .eq 9, 3) := by decide +kernel
theorem dX10_conditionFault_161 : decode cX10_conditionFault 161 = .ok (.iload_n 3, 1) := by decide +kernel
theorem dX10_conditionFault_162 : decode cX10_conditionFault 162 = .ok (.bipush 124, 2) := by decide +kernel
theorem dX10_conditionFault_164 : decode cX10_conditionFault 164 = .ok (.if_icmp .ne 20, 3) := by decide +kernel
theorem dX10_conditionFault_167 : decode cX10_conditionFault 167 = .ok (.iload_n 1, 1) := by decide +kernel
theorem dX10_conditionFault_168 : decode cX10_conditionFault 168 = .ok (.iconst 1, 1) := by decide +kernel
theorem dX10_conditionFault_169 : decode cX10_conditionFault 169 = .ok (.if_icmp .le 15, 3) := by decide +kernel
theorem dX10_conditionFault_172 : decode cX10_conditionFault 172 = .ok (.aload_n 0, 1) := by decide +kernel
theorem dX10_conditionFault_173 : decode cX10_conditionFault 173 = .ok (.invokevirtual 266, 3) := by decide +kernel
theorem dX10_conditionFault_176 : decode cX10_conditionFault 176 = .ok (.iconst 0, 1) := by decide +kernel
theorem dX10_conditionFault_177 : decode cX10_conditionFault 177 = .ok (.istore_n 1, 1) := by decide +kernel
theorem dX10_conditionFault_178 : decode cX10_conditionFault 178 = .ok (.iinc 2 1, 3) := by decide +kernel
theorem dX10_conditionFault_181 : decode cX10_conditionFault 181 = .ok (.goto 49, 3) := by decide +kernel
theorem dX10_conditionFault_184 : decode cX10_conditionFault 184 = .ok (.iload_n 3, 1) := by decide +kernel
theorem dX10_conditionFault_185 : decode cX10_conditionFault 185 = .ok (.bipush 41, 2) := by decide +kernel
theorem dX10_conditionFault_187 : decode cX10_conditionFault 187 = .ok (.if_icmp .ne 41, 3) := by decide +kernel
theorem dX10_conditionFault_190 : decode cX10_conditionFault 190 = .ok (.iload_n 1, 1) := by decide +kernel
theorem dX10_conditionFault_191 : decode cX10_conditionFault 191 = .ok (.iconst 1, 1) := by decide +kernel
theorem dX10_conditionFault_192 : decode cX10_conditionFault 192 = .ok (.if_icmp .le 36, 3) := by decide +kernel
theorem dX10_conditionFault_195 : decode cX10_conditionFault 195 = .ok (.aload_n 0, 1) := by decide +kernel
theorem dX10_conditionFault_196 : decode cX10_conditionFault 196 = .ok (.invokevirtual 269, 3) := by decide +kernel
theorem dX10_conditionFault_199 : decode cX10_conditionFault 199 = .ok (.ifCond .eq 29, 3) := by decide +kernel
theorem dX10_conditionFault_202 : decode cX10_conditionFault 202 = .ok (.aload_n 0, 1) := by decide +kernel
theorem dX10_conditionFault_203 : decode cX10_conditionFault 203 = .ok (.invokevirtual 266, 3) := by decide +kernel
theorem dX10_conditionFault_206 : decode cX10_conditionFault 206 = .ok (.aload_n 0, 1) := by decide +kernel
theorem dX10_conditionFault_207 : decode cX10_conditionFault 207 = .ok (.dup, 1) := by decide +kernel
theorem dX10_conditionFault_208 : decode cX10_conditionFault 208 = .ok (.getfield 260, 3) := by decide +kernel
theorem dX10_conditionFault_211 : decode cX10_conditionFault 211 = .ok (.iconst 1, 1) := by decide +kernel
theorem dX10_conditionFault_212 : decode cX10_conditionFault 212 = .ok (.isub, 1) := by decide +kernel
theorem dX10_conditionFault_213 : decode cX10_conditionFault 213 = .ok (.putfield 260, 3) := by decide +kernel
theorem dX10_conditionFault_216 : decode cX10_conditionFault 216 = .ok (.aload_n 0, 1) := by decide +kernel
theorem dX10_conditionFault_217 : decode cX10_conditionFault 217 = .ok (.invokevirtual 266, 3) := by decide +kernel
theorem dX10_conditionFault_220 : decode cX10_conditionFault 220 = .ok (.iconst 3, 1) := by decide +kernel
theorem dX10_conditionFault_221 : decode cX10_conditionFault 221 = .ok (.istore_n 1, 1) := by decide +kernel
theorem dX10_conditionFault_222 : decode cX10_conditionFault 222 = .ok (.iinc 2 1, 3) := by decide +kernel
theorem dX10_conditionFault_225 : decode cX10_conditionFault 225 = .ok (.goto 5, 3) := by decide +kernel
theorem dX10_conditionFault_228 : decode cX10_conditionFault 228 = .ok (.iload_n 2, 1) := by decide +kernel
theorem dX10_conditionFault_229 : decode cX10_conditionFault 229 = .ok (.ireturn, 1) := by decide +kernel
theorem dX10_conditionFault_230 : decode cX10_conditionFault 230 = .ok (.iload_n 2, 1) := by decide +kernel
theorem dX10_conditionFault_231 : decode cX10_conditionFault 231 = .ok (.ifCond .ge 7, 3) := by decide +kernel
theorem dX10_conditionFault_234 : decode cX10_conditionFault 234 = .ok (.iconst (-1), 1) := by decide +kernel
theorem dX10_conditionFault_235 : decode cX10_conditionFault 235 = .ok (.iload_n 2, 1) := by decide +kernel
theorem dX10_conditionFault_236 : decode cX10_conditionFault 236 = .ok (.isub, 1) := by decide +kernel
theorem dX10_conditionFault_237 : decode cX10_conditionFault 237 = .ok (.ireturn, 1) := by decide +kernel
theorem dX10_conditionFault_238 : decode cX10_conditionFault 238 = .ok (.goto (-229), 3) := by decide +kernel
theorem dX10_conditionFault_241 : decode cX10_conditionFault 241 = .ok (.iload_n 1, 1) := by decide +kernel
theorem dX10_conditionFault_242 : decode cX10_conditionFault 242 = .ok (.iconst 2, 1) := by decide +kernel
theorem dX10_conditionFault_243 : decode cX10_conditionFault 243 = .ok (.if_icmp .lt 10, 3) := by decide +kernel
theorem dX10_conditionFault_246 : decode cX10_conditionFault 246 = .ok (.aload_n 0, 1) := by decide +kernel
theorem dX10_conditionFault_247 : decode cX10_conditionFault 247 = .ok (.invokevirtual 269, 3) := by decide +kernel
theorem dX10_conditionFault_250 : decode cX10_conditionFault 250 = .ok (.ifCond .eq 10, 3) := by decide +kernel
theorem dX10_conditionFault_253 : decode cX10_conditionFault 253 = .ok (.aload_n 0, 1) := by decide +kernel
theorem dX10_conditionFault_254 : decode cX10_conditionFault 254 = .ok (.getfield 247, 3) := by decide +kernel
theorem dX10_conditionFault_257 : decode cX10_conditionFault 257 = .ok (.goto 4, 3) := by decide +kernel
theorem dX10_conditionFault_260 : decode cX10_conditionFault 260 = .ok (.iconst (-1), 1) := by decide +kernel
theorem dX10_conditionFault_261 : decode cX10_conditionFault 261 = .ok (.ireturn, 1) := by decide +kernel
theorem dX10_isOpen_0 : decode cX10_isOpen 0 = .ok (.iconst 0, 1) := by decide +kernel
theorem dX10_isOpen_1 : decode cX10_isOpen 1 = .ok (.istore_n 1, 1) := by decide +kernel
theorem dX10_isOpen_2 : decode cX10_isOpen 2 = .ok (.iload_n 1, 1) := by decide +kernel
theorem dX10_isOpen_3 : decode cX10_isOpen 3 = .ok (.aload_n 0, 1) := by decide +kernel
theorem dX10_isOpen_4 : decode cX10_isOpen 4 = .ok (.getfield 260, 3) := by decide +kernel
theorem dX10_isOpen_7 : decode cX10_isOpen 7 = .ok (.if_icmp .ge 22, 3) := by decide +kernel
theorem dX10_isOpen_10 : decode cX10_isOpen 10 = .ok (.aload_n 0, 1) := by decide +kernel
theorem dX10_isOpen_11 : decode cX10_isOpen 11 = .ok (.getfield 128, 3) := by decide +kernel
theorem dX10_isOpen_14 : decode cX10_isOpen 14 = .ok (.iload_n 1, 1) := by decide +kernel
theorem dX10_isOpen_15 : decode cX10_isOpen 15 = .ok (.iaload, 1) := by decide +kernel
theorem dX10_isOpen_16 : decode cX10_isOpen 16 = .ok (.bipush 40, 2) := by decide +kernel
theorem dX10_isOpen_18 : decode cX10_isOpen 18 = .ok (.if_icmp .ne 5, 3) := by decide +kernel
theorem dX10_isOpen_21 : decode cX10_isOpen 21 = .ok (.iconst 1, 1) := by decide +kernel
theorem dX10_isOpen_22 : decode cX10_isOpen 22 = .ok (.ireturn, 1) := by decide +kernel
theorem dX10_isOpen_23 : decode cX10_isOpen 23 = .ok (.iinc 1 1, 3) := by decide +kernel
theorem dX10_isOpen_26 : decode cX10_isOpen 26 = .ok (.goto (-24), 3) := by decide +kernel
theorem dX10_isOpen_29 : decode cX10_isOpen 29 = .ok (.iconst 0, 1) := by decide +kernel
theorem dX10_isOpen_30 : decode cX10_isOpen 30 = .ok (.ireturn, 1) := by decide +kernel
theorem dX10_isCondition_0 : decode cX10_isCondition 0 = .ok (.iload_n 0, 1) := by decide +kernel
theorem dX10_isCondition_1 : decode cX10_isCondition 1 = .ok (.i2l, 1) := by decide +kernel
theorem dX10_isCondition_2 : decode cX10_isCondition 2 = .ok (.lconst 0, 1) := by decide +kernel
theorem dX10_isCondition_3 : decode cX10_isCondition 3 = .ok (.ldc2_w 272, 3) := by decide +kernel
theorem dX10_isCondition_6 : decode cX10_isCondition 6 = .ok (.invokestatic 165, 3) := by decide +kernel
theorem dX10_isCondition_9 : decode cX10_isCondition 9 = .ok (.ireturn, 1) := by decide +kernel
theorem dX10_read_0 : decode cX10_read 0 = .ok (.iload_n 1, 1) := by decide +kernel
theorem dX10_read_1 : decode cX10_read 1 = .ok (.invokestatic 274, 3) := by decide +kernel
theorem dX10_read_4 : decode cX10_read 4 = .ok (.ifCond .ne 5, 3) := by decide +kernel
theorem dX10_read_7 : decode cX10_read 7 = .ok (.iconst (-1), 1) := by decide +kernel
theorem dX10_read_8 : decode cX10_read 8 = .ok (.ireturn, 1) := by decide +kernel
theorem dX10_read_9 : decode cX10_read 9 = .ok (.aload_n 0, 1) := by decide +kernel
theorem dX10_read_10 : decode cX10_read 10 = .ok (.invokevirtual 277, 3) := by decide +kernel
theorem dX10_read_13 : decode cX10_read 13 = .ok (.istore_n 2, 1) := by decide +kernel
theorem dX10_read_14 : decode cX10_read 14 = .ok (.aload_n 0, 1) := by decide +kernel
theorem dX10_read_15 : decode cX10_read 15 = .ok (.getfield 247, 3) := by decide +kernel
theorem dX10_read_18 : decode cX10_read 18 = .ok (.istore_n 3, 1) := by decide +kernel
theorem dX10_read_19 : decode cX10_read 19 = .ok (.aload_n 0, 1) := by decide +kernel
theorem dX10_read_20 : decode cX10_read 20 = .ok (.iconst 0, 1) := by decide +kernel
theorem dX10_read_21 : decode cX10_read 21 = .ok (.putfield 247, 3) := by decide +kernel
theorem dX10_read_24 : decode cX10_read 24 = .ok (.iload_n 2, 1) := by decide +kernel
theorem dX10_read_25 : decode cX10_read 25 = .ok (.ifCond .lt 8, 3) := by decide +kernel
theorem dX10_read_28 : decode cX10_read 28 = .ok (.bipush (-100), 2) := by decide +kernel
theorem dX10_read_30 : decode cX10_read 30 = .ok (.iload_n 2, 1) := by decide +kernel
theorem dX10_read_31 : decode cX10_read 31 = .ok (.isub, 1) := by decide +kernel
theorem dX10_read_32 : decode cX10_read 32 = .ok (.ireturn, 1) := by decide +kernel
theorem dX10_read_33 : decode cX10_read 33 = .ok (.iconst 0, 1) := by decide +kernel
theorem dX10_read_34 : decode cX10_read 34 = .ok (.istore 4, 2) := by decide +kernel
theorem dX10_read_36 : decode cX10_read 36 = .ok (.iload 4, 2) := by decide +kernel
theorem dX10_read_38 : decode cX10_read 38 = .ok (.iload_n 3, 1) := by decide +kernel
theorem dX10_read_39 : decode cX10_read 39 = .ok (.if_icmp .ge 28, 3) := by decide +kernel
theorem dX10_read_42 : decode cX10_read 42 = .ok (.aload_n 0, 1) := by decide +kernel
theorem dX10_read_43 : decode cX10_read 43 = .ok (.getfield 55, 3) := by decide +kernel
theorem dX10_read_46 : decode cX10_read 46 = .ok (.bipush 60, 2) := by decide +kernel
theorem dX10_read_48 : decode cX10_read 48 = .ok (.iload_n 1, 1) := by decide +kernel
theorem dX10_read_49 : decode cX10_read 49 = .ok (.imul, 1) := by decide +kernel
theorem dX10_read_50 : decode cX10_read 50 = .ok (.iload 4, 2) := by decide +kernel
theorem dX10_read_52 : decode cX10_read 52 = .ok (.iadd, 1) := by decide +kernel
theorem dX10_read_53 : decode cX10_read 53 = .ok (.aload_n 0, 1) := by decide +kernel
theorem dX10_read_54 : decode cX10_read 54 = .ok (.getfield 58, 3) := by decide +kernel
theorem dX10_read_57 : decode cX10_read 57 = .ok (.iload 4, 2) := by decide +kernel
theorem dX10_read_59 : decode cX10_read 59 = .ok (.iaload, 1) := by decide +kernel
theorem dX10_read_60 : decode cX10_read 60 = .ok (.iastore, 1) := by decide +kernel
theorem dX10_read_61 : decode cX10_read 61 = .ok (.iinc 4 1, 3) := by decide +kernel
theorem dX10_read_64 : decode cX10_read 64 = .ok (.goto (-28), 3) := by decide +kernel
theorem dX10_read_67 : decode cX10_read 67 = .ok (.aload_n 0, 1) := by decide +kernel
theorem dX10_read_68 : decode cX10_read 68 = .ok (.getfield 52, 3) := by decide +kernel
theorem dX10_read_71 : decode cX10_read 71 = .ok (.iload_n 1, 1) := by decide +kernel
theorem dX10_read_72 : decode cX10_read 72 = .ok (.iload_n 3, 1) := by decide +kernel
theorem dX10_read_73 : decode cX10_read 73 = .ok (.iastore, 1) := by decide +kernel
theorem dX10_read_74 : decode cX10_read 74 = .ok (.iload_n 3, 1) := by decide +kernel
theorem dX10_read_75 : decode cX10_read 75 = .ok (.ireturn, 1) := by decide +kernel
theorem dX10_unitIn_0 : decode cX10_unitIn 0 = .ok (.aload_n 0, 1) := by decide +kernel
theorem dX10_unitIn_1 : decode cX10_unitIn 1 = .ok (.getfield 55, 3) := by decide +kernel
theorem dX10_unitIn_4 : decode cX10_unitIn 4 = .ok (.iload_n 2, 1) := by decide +kernel
theorem dX10_unitIn_5 : decode cX10_unitIn 5 = .ok (.iaload, 1) := by decide +kernel
theorem dX10_unitIn_6 : decode cX10_unitIn 6 = .ok (.istore_n 3, 1) := by decide +kernel
theorem dX10_unitIn_7 : decode cX10_unitIn 7 = .ok (.iload_n 3, 1) := by decide +kernel
theorem dX10_unitIn_8 : decode cX10_unitIn 8 = .ok (.bipush 109, 2) := by decide +kernel
theorem dX10_unitIn_10 : decode cX10_unitIn 10 = .ok (.if_icmp .ne 39, 3) := by decide +kernel
theorem dX10_unitIn_13 : decode cX10_unitIn 13 = .ok (.iconst 0, 1) := by decide +kernel
theorem dX10_unitIn_14 : decode cX10_unitIn 14 = .ok (.istore 4, 2) := by decide +kernel
theorem dX10_unitIn_16 : decode cX10_unitIn 16 = .ok (.aload_n 0, 1) := by decide +kernel
theorem dX10_unitIn_17 : decode cX10_unitIn 17 = .ok (.iload_n 1, 1) := by decide +kernel
theorem dX10_unitIn_18 : decode cX10_unitIn 18 = .ok (.invokevirtual 239, 3) := by decide +kernel
theorem dX10_unitIn_21 : decode cX10_unitIn 21 = .ok (.istore 5, 2) := by decide +kernel
theorem dX10_unitIn_23 : decode cX10_unitIn 23 = .ok (.iload 5, 2) := by decide +kernel
theorem dX10_unitIn_25 : decode cX10_unitIn 25 = .ok (.ifCond .le 21, 3) := by decide +kernel
theorem dX10_unitIn_28 : decode cX10_unitIn 28 = .ok (.iload 4, 2) := by decide +kernel
theorem dX10_unitIn_30 : decode cX10_unitIn 30 = .ok (.iload 5, 2) := by decide +kernel
theorem dX10_unitIn_32 : decode cX10_unitIn 32 = .ok (.iconst 2, 1) := by decide +kernel
theorem dX10_unitIn_33 : decode cX10_unitIn 33 = .ok (.irem, 1) := by decide +kernel
theorem dX10_unitIn_34 : decode cX10_unitIn 34 = .ok (.iadd, 1) := by decide +kernel
theorem dX10_unitIn_35 : decode cX10_unitIn 35 = .ok (.istore 4, 2) := by decide +kernel
theorem dX10_unitIn_37 : decode cX10_unitIn 37 = .ok (.iload 5, 2) := by decide +kernel
theorem dX10_unitIn_39 : decode cX10_unitIn 39 = .ok (.iconst 2, 1) := by decide +kernel
theorem dX10_unitIn_40 : decode cX10_unitIn 40 = .ok (.idiv, 1) := by decide +kernel
theorem dX10_unitIn_41 : decode cX10_unitIn 41 = .ok (.istore 5, 2) := by decide +kernel
theorem dX10_unitIn_43 : decode cX10_unitIn 43 = .ok (.goto (-20), 3) := by decide +kernel
theorem dX10_unitIn_46 : decode cX10_unitIn 46 = .ok (.iload 4, 2) := by decide +kernel
theorem dX10_unitIn_48 : decode cX10_unitIn 48 = .ok (.ireturn, 1) := by decide +kernel
theorem dX10_unitIn_49 : decode cX10_unitIn 49 = .ok (.iload_n 3, 1) := by decide +kernel
theorem dX10_unitIn_50 : decode cX10_unitIn 50 = .ok (.bipush 120, 2) := by decide +kernel
theorem dX10_unitIn_52 : decode cX10_unitIn 52 = .ok (.if_icmp .ne 20, 3) := by decide +kernel
theorem dX10_unitIn_55 : decode cX10_unitIn 55 = .ok (.aload_n 0, 1) := by decide +kernel
theorem dX10_unitIn_56 : decode cX10_unitIn 56 = .ok (.iload_n 1, 1) := by decide +kernel
theorem dX10_unitIn_57 : decode cX10_unitIn 57 = .ok (.aload_n 0, 1) := by decide +kernel
theorem dX10_unitIn_58 : decode cX10_unitIn 58 = .ok (.getfield 55, 3) := by decide +kernel
theorem dX10_unitIn_61 : decode cX10_unitIn 61 = .ok (.iload_n 2, 1) := by decide +kernel
theorem dX10_unitIn_62 : decode cX10_unitIn 62 = .ok (.iconst 1, 1) := by decide +kernel
theorem dX10_unitIn_63 : decode cX10_unitIn 63 = .ok (.iadd, 1) := by decide +kernel
theorem dX10_unitIn_64 : decode cX10_unitIn 64 = .ok (.iaload, 1) := by decide +kernel
theorem dX10_unitIn_65 : decode cX10_unitIn 65 = .ok (.bipush 48, 2) := by decide +kernel
theorem dX10_unitIn_67 : decode cX10_unitIn 67 = .ok (.isub, 1) := by decide +kernel
theorem dX10_unitIn_68 : decode cX10_unitIn 68 = .ok (.invokevirtual 242, 3) := by decide +kernel
theorem dX10_unitIn_71 : decode cX10_unitIn 71 = .ok (.ireturn, 1) := by decide +kernel
theorem dX10_unitIn_72 : decode cX10_unitIn 72 = .ok (.iload_n 3, 1) := by decide +kernel
theorem dX10_unitIn_73 : decode cX10_unitIn 73 = .ok (.bipush 99, 2) := by decide +kernel
theorem dX10_unitIn_75 : decode cX10_unitIn 75 = .ok (.if_icmp .ne 24, 3) := by decide +kernel
theorem dX10_unitIn_78 : decode cX10_unitIn 78 = .ok (.aload_n 0, 1) := by decide +kernel
theorem dX10_unitIn_79 : decode cX10_unitIn 79 = .ok (.getfield 113, 3) := by decide +kernel
theorem dX10_unitIn_82 : decode cX10_unitIn 82 = .ok (.iconst 4, 1) := by decide +kernel
theorem dX10_unitIn_83 : decode cX10_unitIn 83 = .ok (.iload_n 1, 1) := by decide +kernel
theorem dX10_unitIn_84 : decode cX10_unitIn 84 = .ok (.imul, 1) := by decide +kernel
theorem dX10_unitIn_85 : decode cX10_unitIn 85 = .ok (.aload_n 0, 1) := by decide +kernel
theorem dX10_unitIn_86 : decode cX10_unitIn 86 = .ok (.getfield 55, 3) := by decide +kernel
theorem dX10_unitIn_89 : decode cX10_unitIn 89 = .ok (.iload_n 2, 1) := by decide +kernel
theorem dX10_unitIn_90 : decode cX10_unitIn 90 = .ok (.iconst 1, 1) := by decide +kernel
theorem dX10_unitIn_91 : decode cX10_unitIn 91 = .ok (.iadd, 1) := by decide +kernel
theorem dX10_unitIn_92 : decode cX10_unitIn 92 = .ok (.iaload, 1) := by decide +kernel
theorem dX10_unitIn_93 : decode cX10_unitIn 93 = .ok (.iadd, 1) := by decide +kernel
theorem dX10_unitIn_94 : decode cX10_unitIn 94 = .ok (.bipush 48, 2) := by decide +kernel
theorem dX10_unitIn_96 : decode cX10_unitIn 96 = .ok (.isub, 1) := by decide +kernel
theorem dX10_unitIn_97 : decode cX10_unitIn 97 = .ok (.iaload, 1) := by decide +kernel
theorem dX10_unitIn_98 : decode cX10_unitIn 98 = .ok (.ireturn, 1) := by decide +kernel
theorem dX10_unitIn_99 : decode cX10_unitIn 99 = .ok (.iload_n 3, 1) := by decide +kernel
theorem dX10_unitIn_100 : decode cX10_unitIn 100 = .ok (.bipush 48, 2) := by decide +kernel
theorem dX10_unitIn_102 : decode cX10_unitIn 102 = .ok (.isub, 1) := by decide +kernel
theorem dX10_unitIn_103 : decode cX10_unitIn 103 = .ok (.istore 4, 2) := by decide +kernel
theorem dX10_unitIn_105 : decode cX10_unitIn 105 = .ok (.iload_n 2, 1) := by decide +kernel
theorem dX10_unitIn_106 : decode cX10_unitIn 106 = .ok (.iconst 1, 1) := by decide +kernel
theorem dX10_unitIn_107 : decode cX10_unitIn 107 = .ok (.iadd, 1) := by decide +kernel
theorem dX10_unitIn_108 : decode cX10_unitIn 108 = .ok (.aload_n 0, 1) := by decide +kernel
theorem dX10_unitIn_109 : decode cX10_unitIn 109 = .ok (.getfield 280, 3) := by decide +kernel
theorem dX10_unitIn_112 : decode cX10_unitIn 112 = .ok (.if_icmp .ge 37, 3) := by decide +kernel
theorem dX10_unitIn_115 : decode cX10_unitIn 115 = .ok (.aload_n 0, 1) := by decide +kernel
theorem dX10_unitIn_116 : decode cX10_unitIn 116 = .ok (.getfield 55, 3) := by decide +kernel
theorem dX10_unitIn_119 : decode cX10_unitIn 119 = .ok (.iload_n 2, 1) := by decide +kernel
theorem dX10_unitIn_120 : decode cX10_unitIn 120 = .ok (.iconst 1, 1) := by decide +kernel
theorem dX10_unitIn_121 : decode cX10_unitIn 121 = .ok (.iadd, 1) := by decide +kernel
theorem dX10_unitIn_122 : decode cX10_unitIn 122 = .ok (.iaload, 1) := by decide +kernel
theorem dX10_unitIn_123 : decode cX10_unitIn 123 = .ok (.invokestatic 257, 3) := by decide +kernel
theorem dX10_unitIn_126 : decode cX10_unitIn 126 = .ok (.ifCond .eq 23, 3) := by decide +kernel
theorem dX10_unitIn_129 : decode cX10_unitIn 129 = .ok (.bipush 10, 2) := by decide +kernel
theorem dX10_unitIn_131 : decode cX10_unitIn 131 = .ok (.iload 4, 2) := by decide +kernel
theorem dX10_unitIn_133 : decode cX10_unitIn 133 = .ok (.imul, 1) := by decide +kernel
theorem dX10_unitIn_134 : decode cX10_unitIn 134 = .ok (.aload_n 0, 1) := by decide +kernel
theorem dX10_unitIn_135 : decode cX10_unitIn 135 = .ok (.getfield 55, 3) := by decide +kernel
theorem dX10_unitIn_138 : decode cX10_unitIn 138 = .ok (.iload_n 2, 1) := by decide +kernel
theorem dX10_unitIn_139 : decode cX10_unitIn 139 = .ok (.iconst 1, 1) := by decide +kernel
theorem dX10_unitIn_140 : decode cX10_unitIn 140 = .ok (.iadd, 1) := by decide +kernel
theorem dX10_unitIn_141 : decode cX10_unitIn 141 = .ok (.iaload, 1) := by decide +kernel
theorem dX10_unitIn_142 : decode cX10_unitIn 142 = .ok (.iadd, 1) := by decide +kernel
theorem dX10_unitIn_143 : decode cX10_unitIn 143 = .ok (.bipush 48, 2) := by decide +kernel
theorem dX10_unitIn_145 : decode cX10_unitIn 145 = .ok (.isub, 1) := by decide +kernel
theorem dX10_unitIn_146 : decode cX10_unitIn 146 = .ok (.goto 5, 3) := by decide +kernel
theorem dX10_unitIn_149 : decode cX10_unitIn 149 = .ok (.iload 4, 2) := by decide +kernel
theorem dX10_unitIn_151 : decode cX10_unitIn 151 = .ok (.ireturn, 1) := by decide +kernel
theorem dX10_meets_0 : decode cX10_meets 0 = .ok (.aload_n 0, 1) := by decide +kernel
theorem dX10_meets_1 : decode cX10_meets 1 = .ok (.bipush 60, 2) := by decide +kernel
theorem dX10_meets_3 : decode cX10_meets 3 = .ok (.iload_n 1, 1) := by decide +kernel
theorem dX10_meets_4 : decode cX10_meets 4 = .ok (.imul, 1) := by decide +kernel
theorem dX10_meets_5 : decode cX10_meets 5 = .ok (.aload_n 0, 1) := by decide +kernel
theorem dX10_meets_6 : decode cX10_meets 6 = .ok (.getfield 52, 3) := by decide +kernel
theorem dX10_meets_9 : decode cX10_meets 9 = .ok (.iload_n 1, 1) := by decide +kernel
theorem dX10_meets_10 : decode cX10_meets 10 = .ok (.iaload, 1) := by decide +kernel
theorem dX10_meets_11 : decode cX10_meets 11 = .ok (.iadd, 1) := by decide +kernel
theorem dX10_meets_12 : decode cX10_meets 12 = .ok (.putfield 280, 3) := by decide +kernel
theorem dX10_meets_15 : decode cX10_meets 15 = .ok (.iconst 0, 1) := by decide +kernel
theorem dX10_meets_16 : decode cX10_meets 16 = .ok (.istore_n 3, 1) := by decide +kernel
theorem dX10_meets_17 : decode cX10_meets 17 = .ok (.aload_n 0, 1) := by decide +kernel
theorem dX10_meets_18 : decode cX10_meets 18 = .ok (.getfield 131, 3) := by decide +kernel
theorem dX10_meets_21 : decode cX10_meets 21 = .ok (.iconst 0, 1) := by decide +kernel
theorem dX10_meets_22 : decode cX10_meets 22 = .ok (.iconst 0, 1) := by decide +kernel
theorem dX10_meets_23 : decode cX10_meets 23 = .ok (.bastore, 1) := by decide +kernel
theorem dX10_meets_24 : decode cX10_meets 24 = .ok (.aload_n 0, 1) := by decide +kernel
theorem dX10_meets_25 : decode cX10_meets 25 = .ok (.getfield 135, 3) := by decide +kernel
theorem dX10_meets_28 : decode cX10_meets 28 = .ok (.iconst 0, 1) := by decide +kernel
theorem dX10_meets_29 : decode cX10_meets 29 = .ok (.iconst 1, 1) := by decide +kernel
theorem dX10_meets_30 : decode cX10_meets 30 = .ok (.bastore, 1) := by decide +kernel
theorem dX10_meets_31 : decode cX10_meets 31 = .ok (.iconst 0, 1) := by decide +kernel
theorem dX10_meets_32 : decode cX10_meets 32 = .ok (.istore 4, 2) := by decide +kernel
theorem dX10_meets_34 : decode cX10_meets 34 = .ok (.bipush 60, 2) := by decide +kernel
theorem dX10_meets_36 : decode cX10_meets 36 = .ok (.iload_n 1, 1) := by decide +kernel
theorem dX10_meets_37 : decode cX10_meets 37 = .ok (.imul, 1) := by decide +kernel
theorem dX10_meets_38 : decode cX10_meets 38 = .ok (.istore 5, 2) := by decide +kernel
theorem dX10_meets_40 : decode cX10_meets 40 = .ok (.iload 5, 2) := by decide +kernel
theorem dX10_meets_42 : decode cX10_meets 42 = .ok (.aload_n 0, 1) := by decide +kernel
theorem dX10_meets_43 : decode cX10_meets 43 = .ok (.getfield 280, 3) := by decide +kernel
theorem dX10_meets_46 : decode cX10_meets 46 = .ok (.if_icmp .ge 272, 3) := by decide +kernel
theorem dX10_meets_49 : decode cX10_meets 49 = .ok (.aload_n 0, 1) := by decide +kernel
theorem dX10_meets_50 : decode cX10_meets 50 = .ok (.getfield 55, 3) := by decide +kernel
theorem dX10_meets_53 : decode cX10_meets 53 = .ok (.iload 5, 2) := by decide +kernel
theorem dX10_meets_55 : decode cX10_meets 55 = .ok (.iaload, 1) := by decide +kernel
theorem dX10_meets_56 : decode cX10_meets 56 = .ok (.istore 6, 2) := by decide +kernel
theorem dX10_meets_58 : decode cX10_meets 58 = .ok (.iload 6, 2) := by decide +kernel
theorem dX10_meets_60 : decode cX10_meets 60 = .ok (.bipush 33, 2) := by decide +kernel
theorem dX10_meets_62 : decode cX10_meets 62 = .ok (.if_icmp .ne 21, 3) := by decide +kernel
theorem dX10_meets_65 : decode cX10_meets 65 = .ok (.iload 4, 2) := by decide +kernel
theorem dX10_meets_67 : decode cX10_meets 67 = .ok (.ifCond .ne 7, 3) := by decide +kernel
theorem dX10_meets_70 : decode cX10_meets 70 = .ok (.iconst 1, 1) := by decide +kernel
theorem dX10_meets_71 : decode cX10_meets 71 = .ok (.goto 4, 3) := by decide +kernel
theorem dX10_meets_74 : decode cX10_meets 74 = .ok (.iconst 0, 1) := by decide +kernel
theorem dX10_meets_75 : decode cX10_meets 75 = .ok (.istore 4, 2) := by decide +kernel
theorem dX10_meets_77 : decode cX10_meets 77 = .ok (.iinc 5 1, 3) := by decide +kernel
theorem dX10_meets_80 : decode cX10_meets 80 = .ok (.goto 235, 3) := by decide +kernel
theorem dX10_meets_83 : decode cX10_meets 83 = .ok (.iload 6, 2) := by decide +kernel
theorem dX10_meets_85 : decode cX10_meets 85 = .ok (.bipush 40, 2) := by decide +kernel
theorem dX10_meets_87 : decode cX10_meets 87 = .ok (.if_icmp .ne 37, 3) := by decide +kernel
theorem dX10_meets_90 : decode cX10_meets 90 = .ok (.iinc 3 1, 3) := by decide +kernel
theorem dX10_meets_93 : decode cX10_meets 93 = .ok (.aload_n 0, 1) := by decide +kernel
theorem dX10_meets_94 : decode cX10_meets 94 = .ok (.getfield 138, 3) := by decide +kernel
theorem dX10_meets_97 : decode cX10_meets 97 = .ok (.iload_n 3, 1) := by decide +kernel
theorem dX10_meets_98 : decode cX10_meets 98 = .ok (.iload 4, 2) := by decide +kernel
theorem dX10_meets_100 : decode cX10_meets 100 = .ok (.bastore, 1) := by decide +kernel
theorem dX10_meets_101 : decode cX10_meets 101 = .ok (.aload_n 0, 1) := by decide +kernel
theorem dX10_meets_102 : decode cX10_meets 102 = .ok (.getfield 131, 3) := by decide +kernel
theorem dX10_meets_105 : decode cX10_meets 105 = .ok (.iload_n 3, 1) := by decide +kernel
theorem dX10_meets_106 : decode cX10_meets 106 = .ok (.iconst 0, 1) := by decide +kernel
theorem dX10_meets_107 : decode cX10_meets 107 = .ok (.bastore, 1) := by decide +kernel
theorem dX10_meets_108 : decode cX10_meets 108 = .ok (.aload_n 0, 1) := by decide +kernel
theorem dX10_meets_109 : decode cX10_meets 109 = .ok (.getfield 135, 3) := by decide +kernel
theorem dX10_meets_112 : decode cX10_meets 112 = .ok (.iload_n 3, 1) := by decide +kernel
theorem dX10_meets_113 : decode cX10_meets 113 = .ok (.iconst 1, 1) := by decide +kernel
theorem dX10_meets_114 : decode cX10_meets 114 = .ok (.bastore, 1) := by decide +kernel
theorem dX10_meets_115 : decode cX10_meets 115 = .ok (.iconst 0, 1) := by decide +kernel
theorem dX10_meets_116 : decode cX10_meets 116 = .ok (.istore 4, 2) := by decide +kernel
theorem dX10_meets_118 : decode cX10_meets 118 = .ok (.iinc 5 1, 3) := by decide +kernel
theorem dX10_meets_121 : decode cX10_meets 121 = .ok (.goto 194, 3) := by decide +kernel
theorem dX10_meets_124 : decode cX10_meets 124 = .ok (.iload 6, 2) := by decide +kernel
theorem dX10_meets_126 : decode cX10_meets 126 = .ok (.bipush 41, 2) := by decide +kernel
theorem dX10_meets_128 : decode cX10_meets 128 = .ok (.if_icmp .ne 80, 3) := by decide +kernel
theorem dX10_meets_131 : decode cX10_meets 131 = .ok (.aload_n 0, 1) := by decide +kernel
theorem dX10_meets_132 : decode cX10_meets 132 = .ok (.getfield 131, 3) := by decide +kernel
theorem dX10_meets_135 : decode cX10_meets 135 = .ok (.iload_n 3, 1) := by decide +kernel
theorem dX10_meets_136 : decode cX10_meets 136 = .ok (.baload, 1) := by decide +kernel
theorem dX10_meets_137 : decode cX10_meets 137 = .ok (.ifCond .ne 12, 3) := by decide +kernel
theorem dX10_meets_140 : decode cX10_meets 140 = .ok (.aload_n 0, 1) := by decide +kernel
theorem dX10_meets_141 : decode cX10_meets 141 = .ok (.getfield 135, 3) := by decide +kernel
theorem dX10_meets_144 : decode cX10_meets 144 = .ok (.iload_n 3, 1) := by decide +kernel
theorem dX10_meets_145 : decode cX10_meets 145 = .ok (.baload, 1) := by decide +kernel
theorem dX10_meets_146 : decode cX10_meets 146 = .ok (.ifCond .eq 7, 3) := by decide +kernel
theorem dX10_meets_149 : decode cX10_meets 149 = .ok (.iconst 1, 1) := by decide +kernel
theorem dX10_meets_150 : decode cX10_meets 150 = .ok (.goto 4, 3) := by decide +kernel
theorem dX10_meets_153 : decode cX10_meets 153 = .ok (.iconst 0, 1) := by decide +kernel
theorem dX10_meets_154 : decode cX10_meets 154 = .ok (.istore 7, 2) := by decide +kernel
theorem dX10_meets_156 : decode cX10_meets 156 = .ok (.aload_n 0, 1) := by decide +kernel
theorem dX10_meets_157 : decode cX10_meets 157 = .ok (.getfield 138, 3) := by decide +kernel
theorem dX10_meets_160 : decode cX10_meets 160 = .ok (.iload_n 3, 1) := by decide +kernel
theorem dX10_meets_161 : decode cX10_meets 161 = .ok (.baload, 1) := by decide +kernel
theorem dX10_meets_162 : decode cX10_meets 162 = .ok (.iload 7, 2) := by decide +kernel
theorem dX10_meets_164 : decode cX10_meets 164 = .ok (.if_icmp .eq 7, 3) := by decide +kernel
theorem dX10_meets_167 : decode cX10_meets 167 = .ok (.iconst 1, 1) := by decide +kernel
theorem dX10_meets_168 : decode cX10_meets 168 = .ok (.goto 4, 3) := by decide +kernel
theorem dX10_meets_171 : decode cX10_meets 171 = .ok (.iconst 0, 1) := by decide +kernel
theorem dX10_meets_172 : decode cX10_meets 172 = .ok (.istore 7, 2) := by decide +kernel
theorem dX10_meets_174 : decode cX10_meets 174 = .ok (.iinc 3 (-1), 3) := by decide +kernel
theorem dX10_meets_177 : decode cX10_meets 177 = .ok (.aload_n 0, 1) := by decide +kernel
theorem dX10_meets_178 : decode cX10_meets 178 = .ok (.getfield 135, 3) := by decide +kernel
theorem dX10_meets_181 : decode cX10_meets 181 = .ok (.iload_n 3, 1) := by decide +kernel
theorem dX10_meets_182 : decode cX10_meets 182 = .ok (.aload_n 0, 1) := by decide +kernel
theorem dX10_meets_183 : decode cX10_meets 183 = .ok (.getfield 135, 3) := by decide +kernel
theorem dX10_meets_186 : decode cX10_meets 186 = .ok (.iload_n 3, 1) := by decide +kernel
theorem dX10_meets_187 : decode cX10_meets 187 = .ok (.baload, 1) := by decide +kernel
theorem dX10_meets_188 : decode cX10_meets 188 = .ok (.ifCond .eq 12, 3) := by decide +kernel
theorem dX10_meets_191 : decode cX10_meets 191 = .ok (.iload 7, 2) := by decide +kernel
theorem dX10_meets_193 : decode cX10_meets 193 = .ok (.ifCond .eq 7, 3) := by decide +kernel
theorem dX10_meets_196 : decode cX10_meets 196 = .ok (.iconst 1, 1) := by decide +kernel
theorem dX10_meets_197 : decode cX10_meets 197 = .ok (.goto 4, 3) := by decide +kernel
theorem dX10_meets_200 : decode cX10_meets 200 = .ok (.iconst 0, 1) := by decide +kernel
theorem dX10_meets_201 : decode cX10_meets 201 = .ok (.bastore, 1) := by decide +kernel
theorem dX10_meets_202 : decode cX10_meets 202 = .ok (.iinc 5 1, 3) := by decide +kernel
theorem dX10_meets_205 : decode cX10_meets 205 = .ok (.goto 110, 3) := by decide +kernel
theorem dX10_meets_208 : decode cX10_meets 208 = .ok (.iload 6, 2) := by decide +kernel
theorem dX10_meets_210 : decode cX10_meets 210 = .ok (.bipush 124, 2) := by decide +kernel
theorem dX10_meets_212 : decode cX10_meets 212 = .ok (.if_icmp .ne 45, 3) := by decide +kernel
theorem dX10_meets_215 : decode cX10_meets 215 = .ok (.aload_n 0, 1) := by decide +kernel
theorem dX10_meets_216 : decode cX10_meets 216 = .ok (.getfield 131, 3) := by decide +kernel
theorem dX10_meets_219 : decode cX10_meets 219 = .ok (.iload_n 3, 1) := by decide +kernel
theorem dX10_meets_220 : decode cX10_meets 220 = .ok (.aload_n 0, 1) := by decide +kernel
theorem dX10_meets_221 : decode cX10_meets 221 = .ok (.getfield 131, 3) := by decide +kernel
theorem dX10_meets_224 : decode cX10_meets 224 = .ok (.iload_n 3, 1) := by decide +kernel
theorem dX10_meets_225 : decode cX10_meets 225 = .ok (.baload, 1) := by decide +kernel
theorem dX10_meets_226 : decode cX10_meets 226 = .ok (.ifCond .ne 12, 3) := by decide +kernel
theorem dX10_meets_229 : decode cX10_meets 229 = .ok (.aload_n 0, 1) := by decide +kernel
theorem dX10_meets_230 : decode cX10_meets 230 = .ok (.getfield 135, 3) := by decide +kernel
theorem dX10_meets_233 : decode cX10_meets 233 = .ok (.iload_n 3, 1) := by decide +kernel
theorem dX10_meets_234 : decode cX10_meets 234 = .ok (.baload, 1) := by decide +kernel
theorem dX10_meets_235 : decode cX10_meets 235 = .ok (.ifCond .eq 7, 3) := by decide +kernel
theorem dX10_meets_238 : decode cX10_meets 238 = .ok (.iconst 1, 1) := by decide +kernel
theorem dX10_meets_239 : decode cX10_meets 239 = .ok (.goto 4, 3) := by decide +kernel
theorem dX10_meets_242 : decode cX10_meets 242 = .ok (.iconst 0, 1) := by decide +kernel
theorem dX10_meets_243 : decode cX10_meets 243 = .ok (.bastore, 1) := by decide +kernel
theorem dX10_meets_244 : decode cX10_meets 244 = .ok (.aload_n 0, 1) := by decide +kernel
theorem dX10_meets_245 : decode cX10_meets 245 = .ok (.getfield 135, 3) := by decide +kernel
theorem dX10_meets_248 : decode cX10_meets 248 = .ok (.iload_n 3, 1) := by decide +kernel
theorem dX10_meets_249 : decode cX10_meets 249 = .ok (.iconst 1, 1) := by decide +kernel
theorem dX10_meets_250 : decode cX10_meets 250 = .ok (.bastore, 1) := by decide +kernel
theorem dX10_meets_251 : decode cX10_meets 251 = .ok (.iinc 5 1, 3) := by decide +kernel
theorem dX10_meets_254 : decode cX10_meets 254 = .ok (.goto 61, 3) := by decide +kernel
theorem dX10_meets_257 : decode cX10_meets 257 = .ok (.iload 6, 2) := by decide +kernel
theorem dX10_meets_259 : decode cX10_meets 259 = .ok (.bipush 38, 2) := by decide +kernel
theorem dX10_meets_261 : decode cX10_meets 261 = .ok (.if_icmp .ne 9, 3) := by decide +kernel
theorem dX10_meets_264 : decode cX10_meets 264 = .ok (.iinc 5 1, 3) := by decide +kernel
theorem dX10_meets_267 : decode cX10_meets 267 = .ok (.goto 48, 3) := by decide +kernel
theorem dX10_meets_270 : decode cX10_meets 270 = .ok (.aload_n 0, 1) := by decide +kernel
theorem dX10_meets_271 : decode cX10_meets 271 = .ok (.iload_n 2, 1) := by decide +kernel
theorem dX10_meets_272 : decode cX10_meets 272 = .ok (.iload 5, 2) := by decide +kernel
theorem dX10_meets_274 : decode cX10_meets 274 = .ok (.invokevirtual 283, 3) := by decide +kernel
theorem dX10_meets_277 : decode cX10_meets 277 = .ok (.istore 7, 2) := by decide +kernel
theorem dX10_meets_279 : decode cX10_meets 279 = .ok (.aload_n 0, 1) := by decide +kernel
theorem dX10_meets_280 : decode cX10_meets 280 = .ok (.getfield 135, 3) := by decide +kernel
theorem dX10_meets_283 : decode cX10_meets 283 = .ok (.iload_n 3, 1) := by decide +kernel
theorem dX10_meets_284 : decode cX10_meets 284 = .ok (.aload_n 0, 1) := by decide +kernel
theorem dX10_meets_285 : decode cX10_meets 285 = .ok (.getfield 135, 3) := by decide +kernel
theorem dX10_meets_288 : decode cX10_meets 288 = .ok (.iload_n 3, 1) := by decide +kernel
theorem dX10_meets_289 : decode cX10_meets 289 = .ok (.baload, 1) := by decide +kernel
theorem dX10_meets_290 : decode cX10_meets 290 = .ok (.ifCond .eq 14, 3) := by decide +kernel
theorem dX10_meets_293 : decode cX10_meets 293 = .ok (.iload 7, 2) := by decide +kernel
theorem dX10_meets_295 : decode cX10_meets 295 = .ok (.iload 4, 2) := by decide +kernel
theorem dX10_meets_297 : decode cX10_meets 297 = .ok (.if_icmp .eq 7, 3) := by decide +kernel
theorem dX10_meets_300 : decode cX10_meets 300 = .ok (.iconst 1, 1) := by decide +kernel
theorem dX10_meets_301 : decode cX10_meets 301 = .ok (.goto 4, 3) := by decide +kernel
theorem dX10_meets_304 : decode cX10_meets 304 = .ok (.iconst 0, 1) := by decide +kernel
theorem dX10_meets_305 : decode cX10_meets 305 = .ok (.bastore, 1) := by decide +kernel
theorem dX10_meets_306 : decode cX10_meets 306 = .ok (.iconst 0, 1) := by decide +kernel
theorem dX10_meets_307 : decode cX10_meets 307 = .ok (.istore 4, 2) := by decide +kernel
theorem dX10_meets_309 : decode cX10_meets 309 = .ok (.aload_n 0, 1) := by decide +kernel
theorem dX10_meets_310 : decode cX10_meets 310 = .ok (.getfield 286, 3) := by decide +kernel
theorem dX10_meets_313 : decode cX10_meets 313 = .ok (.istore 5, 2) := by decide +kernel
theorem dX10_meets_315 : decode cX10_meets 315 = .ok (.goto (-275), 3) := by decide +kernel
theorem dX10_meets_318 : decode cX10_meets 318 = .ok (.aload_n 0, 1) := by decide +kernel
theorem dX10_meets_319 : decode cX10_meets 319 = .ok (.getfield 131, 3) := by decide +kernel
theorem dX10_meets_322 : decode cX10_meets 322 = .ok (.iconst 0, 1) := by decide +kernel
theorem dX10_meets_323 : decode cX10_meets 323 = .ok (.baload, 1) := by decide +kernel
theorem dX10_meets_324 : decode cX10_meets 324 = .ok (.ifCond .ne 12, 3) := by decide +kernel
theorem dX10_meets_327 : decode cX10_meets 327 = .ok (.aload_n 0, 1) := by decide +kernel
theorem dX10_meets_328 : decode cX10_meets 328 = .ok (.getfield 135, 3) := by decide +kernel
theorem dX10_meets_331 : decode cX10_meets 331 = .ok (.iconst 0, 1) := by decide +kernel
theorem dX10_meets_332 : decode cX10_meets 332 = .ok (.baload, 1) := by decide +kernel
theorem dX10_meets_333 : decode cX10_meets 333 = .ok (.ifCond .eq 7, 3) := by decide +kernel
theorem dX10_meets_336 : decode cX10_meets 336 = .ok (.iconst 1, 1) := by decide +kernel
theorem dX10_meets_337 : decode cX10_meets 337 = .ok (.goto 4, 3) := by decide +kernel
theorem dX10_meets_340 : decode cX10_meets 340 = .ok (.iconst 0, 1) := by decide +kernel
theorem dX10_meets_341 : decode cX10_meets 341 = .ok (.ireturn, 1) := by decide +kernel
theorem dX10_sumIn_0 : decode cX10_sumIn 0 = .ok (.iconst 0, 1) := by decide +kernel
theorem dX10_sumIn_1 : decode cX10_sumIn 1 = .ok (.istore_n 3, 1) := by decide +kernel
theorem dX10_sumIn_2 : decode cX10_sumIn 2 = .ok (.iconst 1, 1) := by decide +kernel
theorem dX10_sumIn_3 : decode cX10_sumIn 3 = .ok (.istore 4, 2) := by decide +kernel
theorem dX10_sumIn_5 : decode cX10_sumIn 5 = .ok (.iload_n 2, 1) := by decide +kernel
theorem dX10_sumIn_6 : decode cX10_sumIn 6 = .ok (.istore 5, 2) := by decide +kernel
theorem dX10_sumIn_8 : decode cX10_sumIn 8 = .ok (.iconst 1, 1) := by decide +kernel
theorem dX10_sumIn_9 : decode cX10_sumIn 9 = .ok (.istore 6, 2) := by decide +kernel
theorem dX10_sumIn_11 : decode cX10_sumIn 11 = .ok (.iload 6, 2) := by decide +kernel
theorem dX10_sumIn_13 : decode cX10_sumIn 13 = .ok (.ifCond .eq 168, 3) := by decide +kernel
theorem dX10_sumIn_16 : decode cX10_sumIn 16 = .ok (.iload_n 3, 1) := by decide +kernel
theorem dX10_sumIn_17 : decode cX10_sumIn 17 = .ok (.iload 4, 2) := by decide +kernel
theorem dX10_sumIn_19 : decode cX10_sumIn 19 = .ok (.aload_n 0, 1) := by decide +kernel
theorem dX10_sumIn_20 : decode cX10_sumIn 20 = .ok (.iload_n 1, 1) := by decide +kernel
theorem dX10_sumIn_21 : decode cX10_sumIn 21 = .ok (.iload 5, 2) := by decide +kernel
theorem dX10_sumIn_23 : decode cX10_sumIn 23 = .ok (.invokevirtual 289, 3) := by decide +kernel
theorem dX10_sumIn_26 : decode cX10_sumIn 26 = .ok (.imul, 1) := by decide +kernel
theorem dX10_sumIn_27 : decode cX10_sumIn 27 = .ok (.iadd, 1) := by decide +kernel
theorem dX10_sumIn_28 : decode cX10_sumIn 28 = .ok (.istore_n 3, 1) := by decide +kernel
theorem dX10_sumIn_29 : decode cX10_sumIn 29 = .ok (.aload_n 0, 1) := by decide +kernel
theorem dX10_sumIn_30 : decode cX10_sumIn 30 = .ok (.getfield 55, 3) := by decide +kernel
theorem dX10_sumIn_33 : decode cX10_sumIn 33 = .ok (.iload 5, 2) := by decide +kernel
theorem dX10_sumIn_35 : decode cX10_sumIn 35 = .ok (.iaload, 1) := by decide +kernel
theorem dX10_sumIn_36 : decode cX10_sumIn 36 = .ok (.istore 7, 2) := by decide +kernel
theorem dX10_sumIn_38 : decode cX10_sumIn 38 = .ok (.iload 5, 2) := by decide +kernel
theorem dX10_sumIn_40 : decode cX10_sumIn 40 = .ok (.iload 7, 2) := by decide +kernel
theorem dX10_sumIn_42 : decode cX10_sumIn 42 = .ok (.bipush 109, 2) := by decide +kernel
theorem dX10_sumIn_44 : decode cX10_sumIn 44 = .ok (.if_icmp .ne 7, 3) := by decide +kernel
theorem dX10_sumIn_47 : decode cX10_sumIn 47 = .ok (.iconst 1, 1) := by decide +kernel
theorem dX10_sumIn_48 : decode cX10_sumIn 48 = .ok (.goto 48, 3) := by decide +kernel
theorem dX10_sumIn_51 : decode cX10_sumIn 51 = .ok (.iload 7, 2) := by decide +kernel
theorem dX10_sumIn_53 : decode cX10_sumIn 53 = .ok (.bipush 120, 2) := by decide +kernel
theorem dX10_sumIn_55 : decode cX10_sumIn 55 = .ok (.if_icmp .eq 36, 3) := by decide +kernel
theorem dX10_sumIn_58 : decode cX10_sumIn 58 = .ok (.iload 7, 2) := by decide +kernel
theorem dX10_sumIn_60 : decode cX10_sumIn 60 = .ok (.bipush 99, 2) := by decide +kernel
theorem dX10_sumIn_62 : decode cX10_sumIn 62 = .ok (.if_icmp .eq 29, 3) := by decide +kernel
theorem dX10_sumIn_65 : decode cX10_sumIn 65 = .ok (.iload 5, 2) := by decide +kernel
theorem dX10_sumIn_67 : decode cX10_sumIn 67 = .ok (.iconst 1, 1) := by decide +kernel
theorem dX10_sumIn_68 : decode cX10_sumIn 68 = .ok (.iadd, 1) := by decide +kernel
theorem dX10_sumIn_69 : decode cX10_sumIn 69 = .ok (.aload_n 0, 1) := by decide +kernel
theorem dX10_sumIn_70 : decode cX10_sumIn 70 = .ok (.getfield 280, 3) := by decide +kernel
theorem dX10_sumIn_73 : decode cX10_sumIn 73 = .ok (.if_icmp .ge 22, 3) := by decide +kernel
theorem dX10_sumIn_76 : decode cX10_sumIn 76 = .ok (.aload_n 0, 1) := by decide +kernel
theorem dX10_sumIn_77 : decode cX10_sumIn 77 = .ok (.getfield 55, 3) := by decide +kernel
theorem dX10_sumIn_80 : decode cX10_sumIn 80 = .ok (.iload 5, 2) := by decide +kernel
theorem dX10_sumIn_82 : decode cX10_sumIn 82 = .ok (.iconst 1, 1) := by decide +kernel
theorem dX10_sumIn_83 : decode cX10_sumIn 83 = .ok (.iadd, 1) := by decide +kernel
theorem dX10_sumIn_84 : decode cX10_sumIn 84 = .ok (.iaload, 1) := by decide +kernel
theorem dX10_sumIn_85 : decode cX10_sumIn 85 = .ok (.invokestatic 257, 3) := by decide +kernel
theorem dX10_sumIn_88 : decode cX10_sumIn 88 = .ok (.ifCond .eq 7, 3) := by decide +kernel
theorem dX10_sumIn_91 : decode cX10_sumIn 91 = .ok (.iconst 2, 1) := by decide +kernel
theorem dX10_sumIn_92 : decode cX10_sumIn 92 = .ok (.goto 4, 3) := by decide +kernel
theorem dX10_sumIn_95 : decode cX10_sumIn 95 = .ok (.iconst 1, 1) := by decide +kernel
theorem dX10_sumIn_96 : decode cX10_sumIn 96 = .ok (.iadd, 1) := by decide +kernel
theorem dX10_sumIn_97 : decode cX10_sumIn 97 = .ok (.istore 5, 2) := by decide +kernel
theorem dX10_sumIn_99 : decode cX10_sumIn 99 = .ok (.iload 5, 2) := by decide +kernel
theorem dX10_sumIn_101 : decode cX10_sumIn 101 = .ok (.aload_n 0, 1) := by decide +kernel
theorem dX10_sumIn_102 : decode cX10_sumIn 102 = .ok (.getfield 280, 3) := by decide +kernel
theorem dX10_sumIn_105 : decode cX10_sumIn 105 = .ok (.if_icmp .ge 31, 3) := by decide +kernel
theorem dX10_sumIn_108 : decode cX10_sumIn 108 = .ok (.aload_n 0, 1) := by decide +kernel
theorem dX10_sumIn_109 : decode cX10_sumIn 109 = .ok (.getfield 55, 3) := by decide +kernel
theorem dX10_sumIn_112 : decode cX10_sumIn 112 = .ok (.iload 5, 2) := by decide +kernel
theorem dX10_sumIn_114 : decode cX10_sumIn 114 = .ok (.iaload, 1) := by decide +kernel
theorem dX10_sumIn_115 : decode cX10_sumIn 115 = .ok (.bipush 43, 2) := by decide +kernel
theorem dX10_sumIn_117 : decode cX10_sumIn 117 = .ok (.if_icmp .eq 15, 3) := by decide +kernel
theorem dX10_sumIn_120 : decode cX10_sumIn 120 = .ok (.aload_n 0, 1) := by decide +kernel
theorem dX10_sumIn_121 : decode cX10_sumIn 121 = .ok (.getfield 55, 3) := by decide +kernel
theorem dX10_sumIn_124 : decode cX10_sumIn 124 = .ok (.iload 5, 2) := by decide +kernel
theorem dX10_sumIn_126 : decode cX10_sumIn 126 = .ok (.iaload, 1) := by decide +kernel
theorem dX10_sumIn_127 : decode cX10_sumIn 127 = .ok (.bipush 45, 2) := by decide +kernel
theorem dX10_sumIn_129 : decode cX10_sumIn 129 = .ok (.if_icmp .ne 7, 3) := by decide +kernel
theorem dX10_sumIn_132 : decode cX10_sumIn 132 = .ok (.iconst 1, 1) := by decide +kernel
theorem dX10_sumIn_133 : decode cX10_sumIn 133 = .ok (.goto 4, 3) := by decide +kernel
theorem dX10_sumIn_136 : decode cX10_sumIn 136 = .ok (.iconst 0, 1) := by decide +kernel
theorem dX10_sumIn_137 : decode cX10_sumIn 137 = .ok (.istore 6, 2) := by decide +kernel
theorem dX10_sumIn_139 : decode cX10_sumIn 139 = .ok (.iload 6, 2) := by decide +kernel
theorem dX10_sumIn_141 : decode cX10_sumIn 141 = .ok (.ifCond .eq 19, 3) := by decide +kernel
theorem dX10_sumIn_144 : decode cX10_sumIn 144 = .ok (.aload_n 0, 1) := by decide +kernel
theorem dX10_sumIn_145 : decode cX10_sumIn 145 = .ok (.getfield 55, 3) := by decide +kernel
theorem dX10_sumIn_148 : decode cX10_sumIn 148 = .ok (.iload 5, 2) := by decide +kernel
theorem dX10_sumIn_150 : decode cX10_sumIn 150 = .ok (.iaload, 1) := by decide +kernel
theorem dX10_sumIn_151 : decode cX10_sumIn 151 = .ok (.bipush 45, 2) := by decide +kernel
theorem dX10_sumIn_153 : decode cX10_sumIn 153 = .ok (.if_icmp .ne 7, 3) := by decide +kernel
theorem dX10_sumIn_156 : decode cX10_sumIn 156 = .ok (.iconst (-1), 1) := by decide +kernel
theorem dX10_sumIn_157 : decode cX10_sumIn 157 = .ok (.goto 4, 3) := by decide +kernel
theorem dX10_sumIn_160 : decode cX10_sumIn 160 = .ok (.iconst 1, 1) := by decide +kernel
theorem dX10_sumIn_161 : decode cX10_sumIn 161 = .ok (.istore 4, 2) := by decide +kernel
theorem dX10_sumIn_163 : decode cX10_sumIn 163 = .ok (.iload 5, 2) := by decide +kernel
theorem dX10_sumIn_165 : decode cX10_sumIn 165 = .ok (.iload 6, 2) := by decide +kernel
theorem dX10_sumIn_167 : decode cX10_sumIn 167 = .ok (.ifCond .eq 7, 3) := by decide +kernel
theorem dX10_sumIn_170 : decode cX10_sumIn 170 = .ok (.iconst 1, 1) := by decide +kernel
theorem dX10_sumIn_171 : decode cX10_sumIn 171 = .ok (.goto 4, 3) := by decide +kernel
theorem dX10_sumIn_174 : decode cX10_sumIn 174 = .ok (.iconst 0, 1) := by decide +kernel
theorem dX10_sumIn_175 : decode cX10_sumIn 175 = .ok (.iadd, 1) := by decide +kernel
theorem dX10_sumIn_176 : decode cX10_sumIn 176 = .ok (.istore 5, 2) := by decide +kernel
theorem dX10_sumIn_178 : decode cX10_sumIn 178 = .ok (.goto (-167), 3) := by decide +kernel
theorem dX10_sumIn_181 : decode cX10_sumIn 181 = .ok (.aload_n 0, 1) := by decide +kernel
theorem dX10_sumIn_182 : decode cX10_sumIn 182 = .ok (.iload 5, 2) := by decide +kernel
theorem dX10_sumIn_184 : decode cX10_sumIn 184 = .ok (.putfield 286, 3) := by decide +kernel
theorem dX10_sumIn_187 : decode cX10_sumIn 187 = .ok (.iload_n 3, 1) := by decide +kernel
theorem dX10_sumIn_188 : decode cX10_sumIn 188 = .ok (.ireturn, 1) := by decide +kernel
theorem dX10_compare_0 : decode cX10_compare 0 = .ok (.aload_n 0, 1) := by decide +kernel
theorem dX10_compare_1 : decode cX10_compare 1 = .ok (.iload_n 1, 1) := by decide +kernel
theorem dX10_compare_2 : decode cX10_compare 2 = .ok (.iload_n 2, 1) := by decide +kernel
theorem dX10_compare_3 : decode cX10_compare 3 = .ok (.invokevirtual 292, 3) := by decide +kernel
theorem dX10_compare_6 : decode cX10_compare 6 = .ok (.istore_n 3, 1) := by decide +kernel
theorem dX10_compare_7 : decode cX10_compare 7 = .ok (.aload_n 0, 1) := by decide +kernel
theorem dX10_compare_8 : decode cX10_compare 8 = .ok (.getfield 55, 3) := by decide +kernel
theorem dX10_compare_11 : decode cX10_compare 11 = .ok (.aload_n 0, 1) := by decide +kernel
theorem dX10_compare_12 : decode cX10_compare 12 = .ok (.getfield 286, 3) := by decide +kernel
theorem dX10_compare_15 : decode cX10_compare 15 = .ok (.iaload, 1) := by decide +kernel
theorem dX10_compare_16 : decode cX10_compare 16 = .ok (.istore 4, 2) := by decide +kernel
theorem dX10_compare_18 : decode cX10_compare 18 = .ok (.aload_n 0, 1) := by decide +kernel
theorem dX10_compare_19 : decode cX10_compare 19 = .ok (.iload_n 1, 1) := by decide +kernel
theorem dX10_compare_20 : decode cX10_compare 20 = .ok (.aload_n 0, 1) := by decide +kernel
theorem dX10_compare_21 : decode cX10_compare 21 = .ok (.getfield 286, 3) := by decide +kernel
theorem dX10_compare_24 : decode cX10_compare 24 = .ok (.iconst 1, 1) := by decide +kernel
theorem dX10_compare_25 : decode cX10_compare 25 = .ok (.iadd, 1) := by decide +kernel
theorem dX10_compare_26 : decode cX10_compare 26 = .ok (.invokevirtual 292, 3) := by decide +kernel
theorem dX10_compare_29 : decode cX10_compare 29 = .ok (.istore 5, 2) := by decide +kernel
theorem dX10_compare_31 : decode cX10_compare 31 = .ok (.iload 4, 2) := by decide +kernel
theorem dX10_compare_33 : decode cX10_compare 33 = .ok (.bipush 61, 2) := by decide +kernel
theorem dX10_compare_35 : decode cX10_compare 35 = .ok (.if_icmp .ne 17, 3) := by decide +kernel
theorem dX10_compare_38 : decode cX10_compare 38 = .ok (.iload_n 3, 1) := by decide +kernel
theorem dX10_compare_39 : decode cX10_compare 39 = .ok (.iload 5, 2) := by decide +kernel
theorem dX10_compare_41 : decode cX10_compare 41 = .ok (.if_icmp .ne 7, 3) := by decide +kernel
theorem dX10_compare_44 : decode cX10_compare 44 = .ok (.iconst 1, 1) := by decide +kernel
theorem dX10_compare_45 : decode cX10_compare 45 = .ok (.goto 39, 3) := by decide +kernel
theorem dX10_compare_48 : decode cX10_compare 48 = .ok (.iconst 0, 1) := by decide +kernel
theorem dX10_compare_49 : decode cX10_compare 49 = .ok (.goto 35, 3) := by decide +kernel
theorem dX10_compare_52 : decode cX10_compare 52 = .ok (.iload 4, 2) := by decide +kernel
theorem dX10_compare_54 : decode cX10_compare 54 = .ok (.bipush 60, 2) := by decide +kernel
theorem dX10_compare_56 : decode cX10_compare 56 = .ok (.if_icmp .ne 17, 3) := by decide +kernel
theorem dX10_compare_59 : decode cX10_compare 59 = .ok (.iload_n 3, 1) := by decide +kernel
theorem dX10_compare_60 : decode cX10_compare 60 = .ok (.iload 5, 2) := by decide +kernel
theorem dX10_compare_62 : decode cX10_compare 62 = .ok (.if_icmp .ge 7, 3) := by decide +kernel
theorem dX10_compare_65 : decode cX10_compare 65 = .ok (.iconst 1, 1) := by decide +kernel
theorem dX10_compare_66 : decode cX10_compare 66 = .ok (.goto 18, 3) := by decide +kernel
theorem dX10_compare_69 : decode cX10_compare 69 = .ok (.iconst 0, 1) := by decide +kernel
theorem dX10_compare_70 : decode cX10_compare 70 = .ok (.goto 14, 3) := by decide +kernel
theorem dX10_compare_73 : decode cX10_compare 73 = .ok (.iload_n 3, 1) := by decide +kernel
theorem dX10_compare_74 : decode cX10_compare 74 = .ok (.iload 5, 2) := by decide +kernel
theorem dX10_compare_76 : decode cX10_compare 76 = .ok (.if_icmp .le 7, 3) := by decide +kernel
theorem dX10_compare_79 : decode cX10_compare 79 = .ok (.iconst 1, 1) := by decide +kernel
theorem dX10_compare_80 : decode cX10_compare 80 = .ok (.goto 4, 3) := by decide +kernel
theorem dX10_compare_83 : decode cX10_compare 83 = .ok (.iconst 0, 1) := by decide +kernel
theorem dX10_compare_84 : decode cX10_compare 84 = .ok (.ireturn, 1) := by decide +kernel
theorem dX10_layMet_0 : decode cX10_layMet 0 = .ok (.aload_n 0, 1) := by decide +kernel
theorem dX10_layMet_1 : decode cX10_layMet 1 = .ok (.invokevirtual 219, 3) := by decide +kernel
theorem dX10_layMet_4 : decode cX10_layMet 4 = .ok (.aload_n 0, 1) := by decide +kernel
theorem dX10_layMet_5 : decode cX10_layMet 5 = .ok (.iconst 0, 1) := by decide +kernel
theorem dX10_layMet_6 : decode cX10_layMet 6 = .ok (.putfield 295, 3) := by decide +kernel
theorem dX10_layMet_9 : decode cX10_layMet 9 = .ok (.iconst 0, 1) := by decide +kernel
theorem dX10_layMet_10 : decode cX10_layMet 10 = .ok (.istore_n 2, 1) := by decide +kernel
theorem dX10_layMet_11 : decode cX10_layMet 11 = .ok (.iload_n 2, 1) := by decide +kernel
theorem dX10_layMet_12 : decode cX10_layMet 12 = .ok (.aload_n 0, 1) := by decide +kernel
theorem dX10_layMet_13 : decode cX10_layMet 13 = .ok (.getfield 208, 3) := by decide +kernel
theorem dX10_layMet_16 : decode cX10_layMet 16 = .ok (.if_icmp .ge 44, 3) := by decide +kernel
theorem dX10_layMet_19 : decode cX10_layMet 19 = .ok (.aload_n 0, 1) := by decide +kernel
theorem dX10_layMet_20 : decode cX10_layMet 20 = .ok (.getfield 141, 3) := by decide +kernel
theorem dX10_layMet_23 : decode cX10_layMet 23 = .ok (.iload_n 2, 1) := by decide +kernel
theorem dX10_layMet_24 : decode cX10_layMet 24 = .ok (.aload_n 0, 1) := by decide +kernel
theorem dX10_layMet_25 : decode cX10_layMet 25 = .ok (.iload_n 1, 1) := by decide +kernel
theorem dX10_layMet_26 : decode cX10_layMet 26 = .ok (.iload_n 2, 1) := by decide +kernel
theorem dX10_layMet_27 : decode cX10_layMet 27 = .ok (.invokevirtual 298, 3) := by decide +kernel
theorem dX10_layMet_30 : decode cX10_layMet 30 = .ok (.bastore, 1) := by decide +kernel
theorem dX10_layMet_31 : decode cX10_layMet 31 = .ok (.aload_n 0, 1) := by decide +kernel
theorem dX10_layMet_32 : decode cX10_layMet 32 = .ok (.dup, 1) := by decide +kernel
theorem dX10_layMet_33 : decode cX10_layMet 33 = .ok (.getfield 295, 3) := by decide +kernel
theorem dX10_layMet_36 : decode cX10_layMet 36 = .ok (.aload_n 0, 1) := by decide +kernel
theorem dX10_layMet_37 : decode cX10_layMet 37 = .ok (.getfield 141, 3) := by decide +kernel
theorem dX10_layMet_40 : decode cX10_layMet 40 = .ok (.iload_n 2, 1) := by decide +kernel
theorem dX10_layMet_41 : decode cX10_layMet 41 = .ok (.baload, 1) := by decide +kernel
theorem dX10_layMet_42 : decode cX10_layMet 42 = .ok (.ifCond .eq 7, 3) := by decide +kernel
theorem dX10_layMet_45 : decode cX10_layMet 45 = .ok (.iconst 1, 1) := by decide +kernel
theorem dX10_layMet_46 : decode cX10_layMet 46 = .ok (.goto 4, 3) := by decide +kernel
theorem dX10_layMet_49 : decode cX10_layMet 49 = .ok (.iconst 0, 1) := by decide +kernel
theorem dX10_layMet_50 : decode cX10_layMet 50 = .ok (.iadd, 1) := by decide +kernel
theorem dX10_layMet_51 : decode cX10_layMet 51 = .ok (.putfield 295, 3) := by decide +kernel
theorem dX10_layMet_54 : decode cX10_layMet 54 = .ok (.iinc 2 1, 3) := by decide +kernel
theorem dX10_layMet_57 : decode cX10_layMet 57 = .ok (.goto (-46), 3) := by decide +kernel
theorem dX10_layMet_60 : decode cX10_layMet 60 = .ok (.return_, 1) := by decide +kernel
theorem dX10_wrongCondition_0 : decode cX10_wrongCondition 0 = .ok (.iload_n 1, 1) := by decide +kernel
theorem dX10_wrongCondition_1 : decode cX10_wrongCondition 1 = .ok (.invokestatic 274, 3) := by decide +kernel
theorem dX10_wrongCondition_4 : decode cX10_wrongCondition 4 = .ok (.ifCond .ne 7, 3) := by decide +kernel
theorem dX10_wrongCondition_7 : decode cX10_wrongCondition 7 = .ok (.iconst (-1), 1) := by decide +kernel
theorem dX10_wrongCondition_8 : decode cX10_wrongCondition 8 = .ok (.goto 18, 3) := by decide +kernel
theorem dX10_wrongCondition_11 : decode cX10_wrongCondition 11 = .ok (.aload_n 0, 1) := by decide +kernel
theorem dX10_wrongCondition_12 : decode cX10_wrongCondition 12 = .ok (.getfield 52, 3) := by decide +kernel
theorem dX10_wrongCondition_15 : decode cX10_wrongCondition 15 = .ok (.iload_n 1, 1) := by decide +kernel
theorem dX10_wrongCondition_16 : decode cX10_wrongCondition 16 = .ok (.iaload, 1) := by decide +kernel
theorem dX10_wrongCondition_17 : decode cX10_wrongCondition 17 = .ok (.ifCond .ne 8, 3) := by decide +kernel
theorem dX10_wrongCondition_20 : decode cX10_wrongCondition 20 = .ok (.bipush (-3), 2) := by decide +kernel
theorem dX10_wrongCondition_22 : decode cX10_wrongCondition 22 = .ok (.goto 4, 3) := by decide +kernel
theorem dX10_wrongCondition_25 : decode cX10_wrongCondition 25 = .ok (.iconst 0, 1) := by decide +kernel
theorem dX10_wrongCondition_26 : decode cX10_wrongCondition 26 = .ok (.ireturn, 1) := by decide +kernel
theorem dX10_holds_0 : decode cX10_holds 0 = .ok (.iload_n 1, 1) := by decide +kernel
theorem dX10_holds_1 : decode cX10_holds 1 = .ok (.invokestatic 274, 3) := by decide +kernel
theorem dX10_holds_4 : decode cX10_holds 4 = .ok (.ifCond .eq 11, 3) := by decide +kernel
theorem dX10_holds_7 : decode cX10_holds 7 = .ok (.aload_n 0, 1) := by decide +kernel
theorem dX10_holds_8 : decode cX10_holds 8 = .ok (.iload_n 2, 1) := by decide +kernel
theorem dX10_holds_9 : decode cX10_holds 9 = .ok (.invokevirtual 222, 3) := by decide +kernel
theorem dX10_holds_12 : decode cX10_holds 12 = .ok (.ifCond .ne 5, 3) := by decide +kernel
theorem dX10_holds_15 : decode cX10_holds 15 = .ok (.iconst (-1), 1) := by decide +kernel
theorem dX10_holds_16 : decode cX10_holds 16 = .ok (.ireturn, 1) := by decide +kernel
theorem dX10_holds_17 : decode cX10_holds 17 = .ok (.aload_n 0, 1) := by decide +kernel
theorem dX10_holds_18 : decode cX10_holds 18 = .ok (.getfield 52, 3) := by decide +kernel
theorem dX10_holds_21 : decode cX10_holds 21 = .ok (.iload_n 1, 1) := by decide +kernel
theorem dX10_holds_22 : decode cX10_holds 22 = .ok (.iaload, 1) := by decide +kernel
theorem dX10_holds_23 : decode cX10_holds 23 = .ok (.ifCond .ne 6, 3) := by decide +kernel
theorem dX10_holds_26 : decode cX10_holds 26 = .ok (.bipush (-3), 2) := by decide +kernel
theorem dX10_holds_28 : decode cX10_holds 28 = .ok (.ireturn, 1) := by decide +kernel
theorem dX10_holds_29 : decode cX10_holds 29 = .ok (.aload_n 0, 1) := by decide +kernel
theorem dX10_holds_30 : decode cX10_holds 30 = .ok (.iload_n 1, 1) := by decide +kernel
theorem dX10_holds_31 : decode cX10_holds 31 = .ok (.iload_n 2, 1) := by decide +kernel
theorem dX10_holds_32 : decode cX10_holds 32 = .ok (.invokevirtual 298, 3) := by decide +kernel
theorem dX10_holds_35 : decode cX10_holds 35 = .ok (.ifCond .eq 7, 3) := by decide +kernel
theorem dX10_holds_38 : decode cX10_holds 38 = .ok (.iconst 1, 1) := by decide +kernel
theorem dX10_holds_39 : decode cX10_holds 39 = .ok (.goto 4, 3) := by decide +kernel
theorem dX10_holds_42 : decode cX10_holds 42 = .ok (.iconst 0, 1) := by decide +kernel
theorem dX10_holds_43 : decode cX10_holds 43 = .ok (.ireturn, 1) := by decide +kernel
theorem dX10_possible_0 : decode cX10_possible 0 = .ok (.iload_n 1, 1) := by decide +kernel
theorem dX10_possible_1 : decode cX10_possible 1 = .ok (.invokestatic 274, 3) := by decide +kernel
theorem dX10_possible_4 : decode cX10_possible 4 = .ok (.ifCond .eq 8, 3) := by decide +kernel
theorem dX10_possible_7 : decode cX10_possible 7 = .ok (.iload_n 2, 1) := by decide +kernel
theorem dX10_possible_8 : decode cX10_possible 8 = .ok (.iconst (-1), 1) := by decide +kernel
theorem dX10_possible_9 : decode cX10_possible 9 = .ok (.if_icmp .ge 5, 3) := by decide +kernel
theorem dX10_possible_12 : decode cX10_possible 12 = .ok (.iconst (-1), 1) := by decide +kernel
theorem dX10_possible_13 : decode cX10_possible 13 = .ok (.ireturn, 1) := by decide +kernel
theorem dX10_possible_14 : decode cX10_possible 14 = .ok (.aload_n 0, 1) := by decide +kernel
theorem dX10_possible_15 : decode cX10_possible 15 = .ok (.getfield 52, 3) := by decide +kernel
theorem dX10_possible_18 : decode cX10_possible 18 = .ok (.iload_n 1, 1) := by decide +kernel
theorem dX10_possible_19 : decode cX10_possible 19 = .ok (.iaload, 1) := by decide +kernel
theorem dX10_possible_20 : decode cX10_possible 20 = .ok (.ifCond .ne 6, 3) := by decide +kernel
theorem dX10_possible_23 : decode cX10_possible 23 = .ok (.bipush (-3), 2) := by decide +kernel
theorem dX10_possible_25 : decode cX10_possible 25 = .ok (.ireturn, 1) := by decide +kernel
theorem dX10_possible_26 : decode cX10_possible 26 = .ok (.aload_n 0, 1) := by decide +kernel
theorem dX10_possible_27 : decode cX10_possible 27 = .ok (.iload_n 1, 1) := by decide +kernel
theorem dX10_possible_28 : decode cX10_possible 28 = .ok (.invokevirtual 301, 3) := by decide +kernel
theorem dX10_possible_31 : decode cX10_possible 31 = .ok (.iconst 0, 1) := by decide +kernel
theorem dX10_possible_32 : decode cX10_possible 32 = .ok (.istore_n 3, 1) := by decide +kernel
theorem dX10_possible_33 : decode cX10_possible 33 = .ok (.iconst 0, 1) := by decide +kernel
theorem dX10_possible_34 : decode cX10_possible 34 = .ok (.istore 4, 2) := by decide +kernel
theorem dX10_possible_36 : decode cX10_possible 36 = .ok (.iload 4, 2) := by decide +kernel
theorem dX10_possible_38 : decode cX10_possible 38 = .ok (.aload_n 0, 1) := by decide +kernel
theorem dX10_possible_39 : decode cX10_possible 39 = .ok (.getfield 208, 3) := by decide +kernel
theorem dX10_possible_42 : decode cX10_possible 42 = .ok (.if_icmp .ge 30, 3) := by decide +kernel
theorem dX10_possible_45 : decode cX10_possible 45 = .ok (.aload_n 0, 1) := by decide +kernel
theorem dX10_possible_46 : decode cX10_possible 46 = .ok (.getfield 141, 3) := by decide +kernel
theorem dX10_possible_49 : decode cX10_possible 49 = .ok (.iload 4, 2) := by decide +kernel
theorem dX10_possible_51 : decode cX10_possible 51 = .ok (.baload, 1) := by decide +kernel
theorem dX10_possible_52 : decode cX10_possible 52 = .ok (.ifCond .eq 14, 3) := by decide +kernel
theorem dX10_possible_55 : decode cX10_possible 55 = .ok (.iload_n 3, 1) := by decide +kernel
theorem dX10_possible_56 : decode cX10_possible 56 = .ok (.iload_n 2, 1) := by decide +kernel
theorem dX10_possible_57 : decode cX10_possible 57 = .ok (.if_icmp .ne 6, 3) := by decide +kernel
theorem dX10_possible_60 : decode cX10_possible 60 = .ok (.iload 4, 2) := by decide +kernel
theorem dX10_possible_62 : decode cX10_possible 62 = .ok (.ireturn, 1) := by decide +kernel
theorem dX10_possible_63 : decode cX10_possible 63 = .ok (.iinc 3 1, 3) := by decide +kernel
theorem dX10_possible_66 : decode cX10_possible 66 = .ok (.iinc 4 1, 3) := by decide +kernel
theorem dX10_possible_69 : decode cX10_possible 69 = .ok (.goto (-33), 3) := by decide +kernel
theorem dX10_possible_72 : decode cX10_possible 72 = .ok (.iload_n 2, 1) := by decide +kernel
theorem dX10_possible_73 : decode cX10_possible 73 = .ok (.iconst (-1), 1) := by decide +kernel
theorem dX10_possible_74 : decode cX10_possible 74 = .ok (.if_icmp .ne 7, 3) := by decide +kernel
theorem dX10_possible_77 : decode cX10_possible 77 = .ok (.iload_n 3, 1) := by decide +kernel
theorem dX10_possible_78 : decode cX10_possible 78 = .ok (.goto 5, 3) := by decide +kernel
theorem dX10_possible_81 : decode cX10_possible 81 = .ok (.bipush (-5), 2) := by decide +kernel
theorem dX10_possible_83 : decode cX10_possible 83 = .ok (.ireturn, 1) := by decide +kernel
theorem dX10_layFree_0 : decode cX10_layFree 0 = .ok (.aload_n 0, 1) := by decide +kernel
theorem dX10_layFree_1 : decode cX10_layFree 1 = .ok (.iload_n 1, 1) := by decide +kernel
theorem dX10_layFree_2 : decode cX10_layFree 2 = .ok (.invokevirtual 301, 3) := by decide +kernel
theorem dX10_layFree_5 : decode cX10_layFree 5 = .ok (.aload_n 0, 1) := by decide +kernel
theorem dX10_layFree_6 : decode cX10_layFree 6 = .ok (.getfield 208, 3) := by decide +kernel
theorem dX10_layFree_9 : decode cX10_layFree 9 = .ok (.iconst 1, 1) := by decide +kernel
theorem dX10_layFree_10 : decode cX10_layFree 10 = .ok (.isub, 1) := by decide +kernel
theorem dX10_layFree_11 : decode cX10_layFree 11 = .ok (.istore_n 2, 1) := by decide +kernel
theorem dX10_layFree_12 : decode cX10_layFree 12 = .ok (.iload_n 2, 1) := by decide +kernel
theorem dX10_layFree_13 : decode cX10_layFree 13 = .ok (.ifCond .lt 102, 3) := by decide +kernel
theorem dX10_layFree_16 : decode cX10_layFree 16 = .ok (.iload_n 2, 1) := by decide +kernel
theorem dX10_layFree_17 : decode cX10_layFree 17 = .ok (.aload_n 0, 1) := by decide +kernel
theorem dX10_layFree_18 : decode cX10_layFree 18 = .ok (.getfield 208, 3) := by decide +kernel
theorem dX10_layFree_21 : decode cX10_layFree 21 = .ok (.iconst 1, 1) := by decide +kernel
theorem dX10_layFree_22 : decode cX10_layFree 22 = .ok (.isub, 1) := by decide +kernel
theorem dX10_layFree_23 : decode cX10_layFree 23 = .ok (.if_icmp .ne 7, 3) := by decide +kernel
theorem dX10_layFree_26 : decode cX10_layFree 26 = .ok (.iconst 1, 1) := by decide +kernel
theorem dX10_layFree_27 : decode cX10_layFree 27 = .ok (.goto 4, 3) := by decide +kernel
theorem dX10_layFree_30 : decode cX10_layFree 30 = .ok (.iconst 0, 1) := by decide +kernel
theorem dX10_layFree_31 : decode cX10_layFree 31 = .ok (.istore_n 3, 1) := by decide +kernel
theorem dX10_layFree_32 : decode cX10_layFree 32 = .ok (.iconst 0, 1) := by decide +kernel
theorem dX10_layFree_33 : decode cX10_layFree 33 = .ok (.istore 4, 2) := by decide +kernel
theorem dX10_layFree_35 : decode cX10_layFree 35 = .ok (.iload 4, 2) := by decide +kernel
theorem dX10_layFree_37 : decode cX10_layFree 37 = .ok (.aload_n 0, 1) := by decide +kernel
theorem dX10_layFree_38 : decode cX10_layFree 38 = .ok (.getfield 9, 3) := by decide +kernel
theorem dX10_layFree_41 : decode cX10_layFree 41 = .ok (.if_icmp .ge 44, 3) := by decide +kernel
theorem dX10_layFree_44 : decode cX10_layFree 44 = .ok (.iload_n 3, 1) := by decide +kernel
theorem dX10_layFree_45 : decode cX10_layFree 45 = .ok (.ifCond .ne 28, 3) := by decide +kernel
theorem dX10_layFree_48 : decode cX10_layFree 48 = .ok (.aload_n 0, 1) := by decide +kernel
theorem dX10_layFree_49 : decode cX10_layFree 49 = .ok (.iload_n 2, 1) := by decide +kernel
theorem dX10_layFree_50 : decode cX10_layFree 50 = .ok (.iload 4, 2) := by decide +kernel
theorem dX10_layFree_52 : decode cX10_layFree 52 = .ok (.invokevirtual 229, 3) := by decide +kernel
theorem dX10_layFree_55 : decode cX10_layFree 55 = .ok (.ifCond .lt 22, 3) := by decide +kernel
theorem dX10_layFree_58 : decode cX10_layFree 58 = .ok (.aload_n 0, 1) := by decide +kernel
theorem dX10_layFree_59 : decode cX10_layFree 59 = .ok (.getfield 144, 3) := by decide +kernel
theorem dX10_layFree_62 : decode cX10_layFree 62 = .ok (.aload_n 0, 1) := by decide +kernel
theorem dX10_layFree_63 : decode cX10_layFree 63 = .ok (.iload_n 2, 1) := by decide +kernel
theorem dX10_layFree_64 : decode cX10_layFree 64 = .ok (.iload 4, 2) := by decide +kernel
theorem dX10_layFree_66 : decode cX10_layFree 66 = .ok (.invokevirtual 229, 3) := by decide +kernel
theorem dX10_layFree_69 : decode cX10_layFree 69 = .ok (.baload, 1) := by decide +kernel
theorem dX10_layFree_70 : decode cX10_layFree 70 = .ok (.ifCond .eq 7, 3) := by decide +kernel
theorem dX10_layFree_73 : decode cX10_layFree 73 = .ok (.iconst 1, 1) := by decide +kernel
theorem dX10_layFree_74 : decode cX10_layFree 74 = .ok (.goto 4, 3) := by decide +kernel
theorem dX10_layFree_77 : decode cX10_layFree 77 = .ok (.iconst 0, 1) := by decide +kernel
theorem dX10_layFree_78 : decode cX10_layFree 78 = .ok (.istore_n 3, 1) := by decide +kernel
theorem dX10_layFree_79 : decode cX10_layFree 79 = .ok (.iinc 4 1, 3) := by decide +kernel
theorem dX10_layFree_82 : decode cX10_layFree 82 = .ok (.goto (-47), 3) := by decide +kernel
theorem dX10_layFree_85 : decode cX10_layFree 85 = .ok (.aload_n 0, 1) := by decide +kernel
theorem dX10_layFree_86 : decode cX10_layFree 86 = .ok (.getfield 144, 3) := by decide +kernel
theorem dX10_layFree_89 : decode cX10_layFree 89 = .ok (.iload_n 2, 1) := by decide +kernel
theorem dX10_layFree_90 : decode cX10_layFree 90 = .ok (.iload_n 3, 1) := by decide +kernel
theorem dX10_layFree_91 : decode cX10_layFree 91 = .ok (.ifCond .eq 16, 3) := by decide +kernel
theorem dX10_layFree_94 : decode cX10_layFree 94 = .ok (.aload_n 0, 1) := by decide +kernel
theorem dX10_layFree_95 : decode cX10_layFree 95 = .ok (.getfield 141, 3) := by decide +kernel
theorem dX10_layFree_98 : decode cX10_layFree 98 = .ok (.iload_n 2, 1) := by decide +kernel
theorem dX10_layFree_99 : decode cX10_layFree 99 = .ok (.baload, 1) := by decide +kernel
theorem dX10_layFree_100 : decode cX10_layFree 100 = .ok (.ifCond .ne 7, 3) := by decide +kernel
theorem dX10_layFree_103 : decode cX10_layFree 103 = .ok (.iconst 1, 1) := by decide +kernel
theorem dX10_layFree_104 : decode cX10_layFree 104 = .ok (.goto 4, 3) := by decide +kernel
theorem dX10_layFree_107 : decode cX10_layFree 107 = .ok (.iconst 0, 1) := by decide +kernel
theorem dX10_layFree_108 : decode cX10_layFree 108 = .ok (.bastore, 1) := by decide +kernel
theorem dX10_layFree_109 : decode cX10_layFree 109 = .ok (.iinc 2 (-1), 3) := by decide +kernel
theorem dX10_layFree_112 : decode cX10_layFree 112 = .ok (.goto (-100), 3) := by decide +kernel
theorem dX10_layFree_115 : decode cX10_layFree 115 = .ok (.aload_n 0, 1) := by decide +kernel
theorem dX10_layFree_116 : decode cX10_layFree 116 = .ok (.getfield 144, 3) := by decide +kernel
theorem dX10_layFree_119 : decode cX10_layFree 119 = .ok (.iconst 0, 1) := by decide +kernel
theorem dX10_layFree_120 : decode cX10_layFree 120 = .ok (.baload, 1) := by decide +kernel
theorem dX10_layFree_121 : decode cX10_layFree 121 = .ok (.ireturn, 1) := by decide +kernel
theorem dX10_sure_0 : decode cX10_sure 0 = .ok (.aload_n 0, 1) := by decide +kernel
theorem dX10_sure_1 : decode cX10_sure 1 = .ok (.iload_n 1, 1) := by decide +kernel
theorem dX10_sure_2 : decode cX10_sure 2 = .ok (.invokevirtual 305, 3) := by decide +kernel
theorem dX10_sure_5 : decode cX10_sure 5 = .ok (.istore_n 2, 1) := by decide +kernel
theorem dX10_sure_6 : decode cX10_sure 6 = .ok (.iload_n 2, 1) := by decide +kernel
theorem dX10_sure_7 : decode cX10_sure 7 = .ok (.ifCond .ge 5, 3) := by decide +kernel
theorem dX10_sure_10 : decode cX10_sure 10 = .ok (.iload_n 2, 1) := by decide +kernel
theorem dX10_sure_11 : decode cX10_sure 11 = .ok (.ireturn, 1) := by decide +kernel
theorem dX10_sure_12 : decode cX10_sure 12 = .ok (.aload_n 0, 1) := by decide +kernel
theorem dX10_sure_13 : decode cX10_sure 13 = .ok (.iload_n 1, 1) := by decide +kernel
theorem dX10_sure_14 : decode cX10_sure 14 = .ok (.invokevirtual 308, 3) := by decide +kernel
theorem dX10_sure_17 : decode cX10_sure 17 = .ok (.ifCond .eq 7, 3) := by decide +kernel
theorem dX10_sure_20 : decode cX10_sure 20 = .ok (.iconst 0, 1) := by decide +kernel
theorem dX10_sure_21 : decode cX10_sure 21 = .ok (.goto 4, 3) := by decide +kernel
theorem dX10_sure_24 : decode cX10_sure 24 = .ok (.iconst 1, 1) := by decide +kernel
theorem dX10_sure_25 : decode cX10_sure 25 = .ok (.ireturn, 1) := by decide +kernel
theorem dX10_around_0 : decode cX10_around 0 = .ok (.iload_n 1, 1) := by decide +kernel
theorem dX10_around_1 : decode cX10_around 1 = .ok (.invokestatic 274, 3) := by decide +kernel
theorem dX10_around_4 : decode cX10_around 4 = .ok (.ifCond .eq 8, 3) := by decide +kernel
theorem dX10_around_7 : decode cX10_around 7 = .ok (.iload_n 2, 1) := by decide +kernel
theorem dX10_around_8 : decode cX10_around 8 = .ok (.iconst (-1), 1) := by decide +kernel
theorem dX10_around_9 : decode cX10_around 9 = .ok (.if_icmp .ge 5, 3) := by decide +kernel
theorem dX10_around_12 : decode cX10_around 12 = .ok (.iconst (-1), 1) := by decide +kernel
theorem dX10_around_13 : decode cX10_around 13 = .ok (.ireturn, 1) := by decide +kernel
theorem dX10_around_14 : decode cX10_around 14 = .ok (.aload_n 0, 1) := by decide +kernel
theorem dX10_around_15 : decode cX10_around 15 = .ok (.getfield 52, 3) := by decide +kernel
theorem dX10_around_18 : decode cX10_around 18 = .ok (.iload_n 1, 1) := by decide +kernel
theorem dX10_around_19 : decode cX10_around 19 = .ok (.iaload, 1) := by decide +kernel
theorem dX10_around_20 : decode cX10_around 20 = .ok (.ifCond .ne 6, 3) := by decide +kernel
theorem dX10_around_23 : decode cX10_around 23 = .ok (.bipush (-3), 2) := by decide +kernel
theorem dX10_around_25 : decode cX10_around 25 = .ok (.ireturn, 1) := by decide +kernel
theorem dX10_around_26 : decode cX10_around 26 = .ok (.aload_n 0, 1) := by decide +kernel
theorem dX10_around_27 : decode cX10_around 27 = .ok (.iload_n 1, 1) := by decide +kernel
theorem dX10_around_28 : decode cX10_around 28 = .ok (.invokevirtual 308, 3) := by decide +kernel
theorem dX10_around_31 : decode cX10_around 31 = .ok (.ifCond .ne 6, 3) := by decide +kernel
theorem dX10_around_34 : decode cX10_around 34 = .ok (.bipush (-5), 2) := by decide +kernel
theorem dX10_around_36 : decode cX10_around 36 = .ok (.ireturn, 1) := by decide +kernel
theorem dX10_around_37 : decode cX10_around 37 = .ok (.iload_n 2, 1) := by decide +kernel
theorem dX10_around_38 : decode cX10_around 38 = .ok (.iconst (-1), 1) := by decide +kernel
theorem dX10_around_39 : decode cX10_around 39 = .ok (.if_icmp .ne 8, 3) := by decide +kernel
theorem dX10_around_42 : decode cX10_around 42 = .ok (.aload_n 0, 1) := by decide +kernel
theorem dX10_around_43 : decode cX10_around 43 = .ok (.getfield 175, 3) := by decide +kernel
theorem dX10_around_46 : decode cX10_around 46 = .ok (.ireturn, 1) := by decide +kernel
theorem dX10_around_47 : decode cX10_around 47 = .ok (.iconst 0, 1) := by decide +kernel
theorem dX10_around_48 : decode cX10_around 48 = .ok (.istore_n 3, 1) := by decide +kernel
theorem dX10_around_49 : decode cX10_around 49 = .ok (.iconst 0, 1) := by decide +kernel
theorem dX10_around_50 : decode cX10_around 50 = .ok (.istore 4, 2) := by decide +kernel
theorem dX10_around_52 : decode cX10_around 52 = .ok (.iload 4, 2) := by decide +kernel
theorem dX10_around_54 : decode cX10_around 54 = .ok (.aload_n 0, 1) := by decide +kernel
theorem dX10_around_55 : decode cX10_around 55 = .ok (.getfield 175, 3) := by decide +kernel
theorem dX10_around_58 : decode cX10_around 58 = .ok (.if_icmp .ge 60, 3) := by decide +kernel
theorem dX10_around_61 : decode cX10_around 61 = .ok (.iconst 0, 1) := by decide +kernel
theorem dX10_around_62 : decode cX10_around 62 = .ok (.istore 5, 2) := by decide +kernel
theorem dX10_around_64 : decode cX10_around 64 = .ok (.aload_n 0, 1) := by decide +kernel
theorem dX10_around_65 : decode cX10_around 65 = .ok (.iload_n 3, 1) := by decide +kernel
theorem dX10_around_66 : decode cX10_around 66 = .ok (.iload 5, 2) := by decide +kernel
theorem dX10_around_68 : decode cX10_around 68 = .ok (.invokevirtual 229, 3) := by decide +kernel
theorem dX10_around_71 : decode cX10_around 71 = .ok (.ifCond .lt 18, 3) := by decide +kernel
theorem dX10_around_74 : decode cX10_around 74 = .ok (.aload_n 0, 1) := by decide +kernel
theorem dX10_around_75 : decode cX10_around 75 = .ok (.getfield 144, 3) := by decide +kernel
theorem dX10_around_78 : decode cX10_around 78 = .ok (.aload_n 0, 1) := by decide +kernel
theorem dX10_around_79 : decode cX10_around 79 = .ok (.iload_n 3, 1) := by decide +kernel
theorem dX10_around_80 : decode cX10_around 80 = .ok (.iload 5, 2) := by decide +kernel
theorem dX10_around_82 : decode cX10_around 82 = .ok (.invokevirtual 229, 3) := by decide +kernel
theorem dX10_around_85 : decode cX10_around 85 = .ok (.baload, 1) := by decide +kernel
theorem dX10_around_86 : decode cX10_around 86 = .ok (.ifCond .ne 9, 3) := by decide +kernel
theorem dX10_around_89 : decode cX10_around 89 = .ok (.iinc 5 1, 3) := by decide +kernel
theorem dX10_around_92 : decode cX10_around 92 = .ok (.goto (-28), 3) := by decide +kernel
theorem dX10_around_95 : decode cX10_around 95 = .ok (.iload 4, 2) := by decide +kernel
theorem dX10_around_97 : decode cX10_around 97 = .ok (.iload_n 2, 1) := by decide +kernel
theorem dX10_around_98 : decode cX10_around 98 = .ok (.if_icmp .ne 6, 3) := by decide +kernel
theorem dX10_around_101 : decode cX10_around 101 = .ok (.iload 5, 2) := by decide +kernel
theorem dX10_around_103 : decode cX10_around 103 = .ok (.ireturn, 1) := by decide +kernel
theorem dX10_around_104 : decode cX10_around 104 = .ok (.aload_n 0, 1) := by decide +kernel
theorem dX10_around_105 : decode cX10_around 105 = .ok (.iload_n 3, 1) := by decide +kernel
theorem dX10_around_106 : decode cX10_around 106 = .ok (.iload 5, 2) := by decide +kernel
theorem dX10_around_108 : decode cX10_around 108 = .ok (.invokevirtual 229, 3) := by decide +kernel
theorem dX10_around_111 : decode cX10_around 111 = .ok (.istore_n 3, 1) := by decide +kernel
theorem dX10_around_112 : decode cX10_around 112 = .ok (.iinc 4 1, 3) := by decide +kernel
theorem dX10_around_115 : decode cX10_around 115 = .ok (.goto (-63), 3) := by decide +kernel
theorem dX10_around_118 : decode cX10_around 118 = .ok (.bipush (-5), 2) := by decide +kernel
theorem dX10_around_120 : decode cX10_around 120 = .ok (.ireturn, 1) := by decide +kernel
theorem dX10_layLeast_0 : decode cX10_layLeast 0 = .ok (.aload_n 0, 1) := by decide +kernel
theorem dX10_layLeast_1 : decode cX10_layLeast 1 = .ok (.iload_n 1, 1) := by decide +kernel
theorem dX10_layLeast_2 : decode cX10_layLeast 2 = .ok (.invokevirtual 301, 3) := by decide +kernel
theorem dX10_layLeast_5 : decode cX10_layLeast 5 = .ok (.iconst 0, 1) := by decide +kernel
theorem dX10_layLeast_6 : decode cX10_layLeast 6 = .ok (.istore_n 2, 1) := by decide +kernel
theorem dX10_layLeast_7 : decode cX10_layLeast 7 = .ok (.iload_n 2, 1) := by decide +kernel
theorem dX10_layLeast_8 : decode cX10_layLeast 8 = .ok (.bipush 80, 2) := by decide +kernel
theorem dX10_layLeast_10 : decode cX10_layLeast 10 = .ok (.if_icmp .ge 17, 3) := by decide +kernel
theorem dX10_layLeast_13 : decode cX10_layLeast 13 = .ok (.aload_n 0, 1) := by decide +kernel
theorem dX10_layLeast_14 : decode cX10_layLeast 14 = .ok (.getfield 147, 3) := by decide +kernel
theorem dX10_layLeast_17 : decode cX10_layLeast 17 = .ok (.iload_n 2, 1) := by decide +kernel
theorem dX10_layLeast_18 : decode cX10_layLeast 18 = .ok (.bipush 9, 2) := by decide +kernel
theorem dX10_layLeast_20 : decode cX10_layLeast 20 = .ok (.iastore, 1) := by decide +kernel
theorem dX10_layLeast_21 : decode cX10_layLeast 21 = .ok (.iinc 2 1, 3) := by decide +kernel
theorem dX10_layLeast_24 : decode cX10_layLeast 24 = .ok (.goto (-17), 3) := by decide +kernel
theorem dX10_layLeast_27 : decode cX10_layLeast 27 = .ok (.iconst 0, 1) := by decide +kernel
theorem dX10_layLeast_28 : decode cX10_layLeast 28 = .ok (.istore_n 2, 1) := by decide +kernel
theorem dX10_layLeast_29 : decode cX10_layLeast 29 = .ok (.iload_n 2, 1) := by decide +kernel
theorem dX10_layLeast_30 : decode cX10_layLeast 30 = .ok (.iconst 4, 1) := by decide +kernel
theorem dX10_layLeast_31 : decode cX10_layLeast 31 = .ok (.if_icmp .ge 17, 3) := by decide +kernel
theorem dX10_layLeast_34 : decode cX10_layLeast 34 = .ok (.aload_n 0, 1) := by decide +kernel
theorem dX10_layLeast_35 : decode cX10_layLeast 35 = .ok (.getfield 150, 3) := by decide +kernel
theorem dX10_layLeast_38 : decode cX10_layLeast 38 = .ok (.iload_n 2, 1) := by decide +kernel
theorem dX10_layLeast_39 : decode cX10_layLeast 39 = .ok (.bipush 9, 2) := by decide +kernel
theorem dX10_layLeast_41 : decode cX10_layLeast 41 = .ok (.iastore, 1) := by decide +kernel
theorem dX10_layLeast_42 : decode cX10_layLeast 42 = .ok (.iinc 2 1, 3) := by decide +kernel
theorem dX10_layLeast_45 : decode cX10_layLeast 45 = .ok (.goto (-16), 3) := by decide +kernel
theorem dX10_layLeast_48 : decode cX10_layLeast 48 = .ok (.iconst 0, 1) := by decide +kernel
theorem dX10_layLeast_49 : decode cX10_layLeast 49 = .ok (.istore_n 2, 1) := by decide +kernel
theorem dX10_layLeast_50 : decode cX10_layLeast 50 = .ok (.iload_n 2, 1) := by decide +kernel
theorem dX10_layLeast_51 : decode cX10_layLeast 51 = .ok (.aload_n 0, 1) := by decide +kernel
theorem dX10_layLeast_52 : decode cX10_layLeast 52 = .ok (.getfield 208, 3) := by decide +kernel
theorem dX10_layLeast_55 : decode cX10_layLeast 55 = .ok (.if_icmp .ge 136, 3) := by decide +kernel
theorem dX10_layLeast_58 : decode cX10_layLeast 58 = .ok (.iconst 0, 1) := by decide +kernel
theorem dX10_layLeast_59 : decode cX10_layLeast 59 = .ok (.istore_n 3, 1) := by decide +kernel
theorem dX10_layLeast_60 : decode cX10_layLeast 60 = .ok (.iload_n 3, 1) := by decide +kernel
theorem dX10_layLeast_61 : decode cX10_layLeast 61 = .ok (.iconst 4, 1) := by decide +kernel
theorem dX10_layLeast_62 : decode cX10_layLeast 62 = .ok (.if_icmp .ge 123, 3) := by decide +kernel
theorem dX10_layLeast_65 : decode cX10_layLeast 65 = .ok (.aload_n 0, 1) := by decide +kernel
theorem dX10_layLeast_66 : decode cX10_layLeast 66 = .ok (.getfield 141, 3) := by decide +kernel
theorem dX10_layLeast_69 : decode cX10_layLeast 69 = .ok (.iload_n 2, 1) := by decide +kernel
theorem dX10_layLeast_70 : decode cX10_layLeast 70 = .ok (.baload, 1) := by decide +kernel
theorem dX10_layLeast_71 : decode cX10_layLeast 71 = .ok (.ifCond .eq 114, 3) := by decide +kernel
theorem dX10_layLeast_74 : decode cX10_layLeast 74 = .ok (.aload_n 0, 1) := by decide +kernel
theorem dX10_layLeast_75 : decode cX10_layLeast 75 = .ok (.getfield 150, 3) := by decide +kernel
theorem dX10_layLeast_78 : decode cX10_layLeast 78 = .ok (.iload_n 3, 1) := by decide +kernel
theorem dX10_layLeast_79 : decode cX10_layLeast 79 = .ok (.aload_n 0, 1) := by decide +kernel
theorem dX10_layLeast_80 : decode cX10_layLeast 80 = .ok (.getfield 150, 3) := by decide +kernel
theorem dX10_layLeast_83 : decode cX10_layLeast 83 = .ok (.iload_n 3, 1) := by decide +kernel
theorem dX10_layLeast_84 : decode cX10_layLeast 84 = .ok (.iaload, 1) := by decide +kernel
theorem dX10_layLeast_85 : decode cX10_layLeast 85 = .ok (.aload_n 0, 1) := by decide +kernel
theorem dX10_layLeast_86 : decode cX10_layLeast 86 = .ok (.getfield 113, 3) := by decide +kernel
theorem dX10_layLeast_89 : decode cX10_layLeast 89 = .ok (.iconst 4, 1) := by decide +kernel
theorem dX10_layLeast_90 : decode cX10_layLeast 90 = .ok (.iload_n 2, 1) := by decide +kernel
theorem dX10_layLeast_91 : decode cX10_layLeast 91 = .ok (.imul, 1) := by decide +kernel
theorem dX10_layLeast_92 : decode cX10_layLeast 92 = .ok (.iload_n 3, 1) := by decide +kernel
theorem dX10_layLeast_93 : decode cX10_layLeast 93 = .ok (.iadd, 1) := by decide +kernel
theorem dX10_layLeast_94 : decode cX10_layLeast 94 = .ok (.iaload, 1) := by decide +kernel
theorem dX10_layLeast_95 : decode cX10_layLeast 95 = .ok (.invokestatic 232, 3) := by decide +kernel
theorem dX10_layLeast_98 : decode cX10_layLeast 98 = .ok (.iastore, 1) := by decide +kernel
theorem dX10_layLeast_99 : decode cX10_layLeast 99 = .ok (.iconst 1, 1) := by decide +kernel
theorem dX10_layLeast_100 : decode cX10_layLeast 100 = .ok (.istore 4, 2) := by decide +kernel
theorem dX10_layLeast_102 : decode cX10_layLeast 102 = .ok (.iload 4, 2) := by decide +kernel
theorem dX10_layLeast_104 : decode cX10_layLeast 104 = .ok (.aload_n 0, 1) := by decide +kernel
theorem dX10_layLeast_105 : decode cX10_layLeast 105 = .ok (.getfield 113, 3) := by decide +kernel
theorem dX10_layLeast_108 : decode cX10_layLeast 108 = .ok (.iconst 4, 1) := by decide +kernel
theorem dX10_layLeast_109 : decode cX10_layLeast 109 = .ok (.iload_n 2, 1) := by decide +kernel
theorem dX10_layLeast_110 : decode cX10_layLeast 110 = .ok (.imul, 1) := by decide +kernel
theorem dX10_layLeast_111 : decode cX10_layLeast 111 = .ok (.iload_n 3, 1) := by decide +kernel
theorem dX10_layLeast_112 : decode cX10_layLeast 112 = .ok (.iadd, 1) := by decide +kernel
theorem dX10_layLeast_113 : decode cX10_layLeast 113 = .ok (.iaload, 1) := by decide +kernel
theorem dX10_layLeast_114 : decode cX10_layLeast 114 = .ok (.if_icmp .gt 65, 3) := by decide +kernel
theorem dX10_layLeast_117 : decode cX10_layLeast 117 = .ok (.iconst 0, 1) := by decide +kernel
theorem dX10_layLeast_118 : decode cX10_layLeast 118 = .ok (.istore 5, 2) := by decide +kernel
theorem dX10_layLeast_120 : decode cX10_layLeast 120 = .ok (.iload 5, 2) := by decide +kernel
theorem dX10_layLeast_122 : decode cX10_layLeast 122 = .ok (.iconst 4, 1) := by decide +kernel
theorem dX10_layLeast_123 : decode cX10_layLeast 123 = .ok (.if_icmp .ge 50, 3) := by decide +kernel
theorem dX10_layLeast_126 : decode cX10_layLeast 126 = .ok (.iconst 4, 1) := by decide +kernel
theorem dX10_layLeast_127 : decode cX10_layLeast 127 = .ok (.iload_n 3, 1) := by decide +kernel
theorem dX10_layLeast_128 : decode cX10_layLeast 128 = .ok (.iload 4, 2) := by decide +kernel
theorem dX10_layLeast_130 : decode cX10_layLeast 130 = .ok (.invokestatic 189, 3) := by decide +kernel
theorem dX10_layLeast_133 : decode cX10_layLeast 133 = .ok (.imul, 1) := by decide +kernel
theorem dX10_layLeast_134 : decode cX10_layLeast 134 = .ok (.iload 5, 2) := by decide +kernel
theorem dX10_layLeast_136 : decode cX10_layLeast 136 = .ok (.iadd, 1) := by decide +kernel
theorem dX10_layLeast_137 : decode cX10_layLeast 137 = .ok (.istore 6, 2) := by decide +kernel
theorem dX10_layLeast_139 : decode cX10_layLeast 139 = .ok (.aload_n 0, 1) := by decide +kernel
theorem dX10_layLeast_140 : decode cX10_layLeast 140 = .ok (.getfield 147, 3) := by decide +kernel
theorem dX10_layLeast_143 : decode cX10_layLeast 143 = .ok (.iload 6, 2) := by decide +kernel
theorem dX10_layLeast_145 : decode cX10_layLeast 145 = .ok (.aload_n 0, 1) := by decide +kernel
theorem dX10_layLeast_146 : decode cX10_layLeast 146 = .ok (.getfield 147, 3) := by decide +kernel
theorem dX10_layLeast_149 : decode cX10_layLeast 149 = .ok (.iload 6, 2) := by decide +kernel
theorem dX10_layLeast_151 : decode cX10_layLeast 151 = .ok (.iaload, 1) := by decide +kernel
theorem dX10_layLeast_152 : decode cX10_layLeast 152 = .ok (.aload_n 0, 1) := by decide +kernel
theorem dX10_layLeast_153 : decode cX10_layLeast 153 = .ok (.getfield 113, 3) := by decide +kernel
theorem dX10_layLeast_156 : decode cX10_layLeast 156 = .ok (.iconst 4, 1) := by decide +kernel
theorem dX10_layLeast_157 : decode cX10_layLeast 157 = .ok (.iload_n 2, 1) := by decide +kernel
theorem dX10_layLeast_158 : decode cX10_layLeast 158 = .ok (.imul, 1) := by decide +kernel
theorem dX10_layLeast_159 : decode cX10_layLeast 159 = .ok (.iload 5, 2) := by decide +kernel
theorem dX10_layLeast_161 : decode cX10_layLeast 161 = .ok (.iadd, 1) := by decide +kernel
theorem dX10_layLeast_162 : decode cX10_layLeast 162 = .ok (.iaload, 1) := by decide +kernel
theorem dX10_layLeast_163 : decode cX10_layLeast 163 = .ok (.invokestatic 232, 3) := by decide +kernel
theorem dX10_layLeast_166 : decode cX10_layLeast 166 = .ok (.iastore, 1) := by decide +kernel
theorem dX10_layLeast_167 : decode cX10_layLeast 167 = .ok (.iinc 5 1, 3) := by decide +kernel
theorem dX10_layLeast_170 : decode cX10_layLeast 170 = .ok (.goto (-50), 3) := by decide +kernel
theorem dX10_layLeast_173 : decode cX10_layLeast 173 = .ok (.iinc 4 1, 3) := by decide +kernel
theorem dX10_layLeast_176 : decode cX10_layLeast 176 = .ok (.goto (-74), 3) := by decide +kernel
theorem dX10_layLeast_179 : decode cX10_layLeast 179 = .ok (.iinc 3 1, 3) := by decide +kernel
theorem dX10_layLeast_182 : decode cX10_layLeast 182 = .ok (.goto (-122), 3) := by decide +kernel
theorem dX10_layLeast_185 : decode cX10_layLeast 185 = .ok (.iinc 2 1, 3) := by decide +kernel
theorem dX10_layLeast_188 : decode cX10_layLeast 188 = .ok (.goto (-138), 3) := by decide +kernel
theorem dX10_layLeast_191 : decode cX10_layLeast 191 = .ok (.return_, 1) := by decide +kernel
theorem dX10_isSliced_0 : decode cX10_isSliced 0 = .ok (.aload_n 0, 1) := by decide +kernel
theorem dX10_isSliced_1 : decode cX10_isSliced 1 = .ok (.getfield 295, 3) := by decide +kernel
theorem dX10_isSliced_4 : decode cX10_isSliced 4 = .ok (.ifCond .le 7, 3) := by decide +kernel
theorem dX10_isSliced_7 : decode cX10_isSliced 7 = .ok (.iconst 1, 1) := by decide +kernel
theorem dX10_isSliced_8 : decode cX10_isSliced 8 = .ok (.goto 4, 3) := by decide +kernel
theorem dX10_isSliced_11 : decode cX10_isSliced 11 = .ok (.iconst 0, 1) := by decide +kernel
theorem dX10_isSliced_12 : decode cX10_isSliced 12 = .ok (.istore_n 2, 1) := by decide +kernel
theorem dX10_isSliced_13 : decode cX10_isSliced 13 = .ok (.iconst 0, 1) := by decide +kernel
theorem dX10_isSliced_14 : decode cX10_isSliced 14 = .ok (.istore_n 3, 1) := by decide +kernel
theorem dX10_isSliced_15 : decode cX10_isSliced 15 = .ok (.iload_n 3, 1) := by decide +kernel
theorem dX10_isSliced_16 : decode cX10_isSliced 16 = .ok (.aload_n 0, 1) := by decide +kernel
theorem dX10_isSliced_17 : decode cX10_isSliced 17 = .ok (.getfield 9, 3) := by decide +kernel
theorem dX10_isSliced_20 : decode cX10_isSliced 20 = .ok (.if_icmp .ge 102, 3) := by decide +kernel
theorem dX10_isSliced_23 : decode cX10_isSliced 23 = .ok (.iload_n 2, 1) := by decide +kernel
theorem dX10_isSliced_24 : decode cX10_isSliced 24 = .ok (.ifCond .eq 98, 3) := by decide +kernel
theorem dX10_isSliced_27 : decode cX10_isSliced 27 = .ok (.aload_n 0, 1) := by decide +kernel
theorem dX10_isSliced_28 : decode cX10_isSliced 28 = .ok (.getfield 113, 3) := by decide +kernel
theorem dX10_isSliced_31 : decode cX10_isSliced 31 = .ok (.iconst 4, 1) := by decide +kernel
theorem dX10_isSliced_32 : decode cX10_isSliced 32 = .ok (.iload_n 1, 1) := by decide +kernel
theorem dX10_isSliced_33 : decode cX10_isSliced 33 = .ok (.imul, 1) := by decide +kernel
theorem dX10_isSliced_34 : decode cX10_isSliced 34 = .ok (.iload_n 3, 1) := by decide +kernel
theorem dX10_isSliced_35 : decode cX10_isSliced 35 = .ok (.iadd, 1) := by decide +kernel
theorem dX10_isSliced_36 : decode cX10_isSliced 36 = .ok (.iaload, 1) := by decide +kernel
theorem dX10_isSliced_37 : decode cX10_isSliced 37 = .ok (.istore 4, 2) := by decide +kernel
theorem dX10_isSliced_39 : decode cX10_isSliced 39 = .ok (.iload 4, 2) := by decide +kernel
theorem dX10_isSliced_41 : decode cX10_isSliced 41 = .ok (.aload_n 0, 1) := by decide +kernel
theorem dX10_isSliced_42 : decode cX10_isSliced 42 = .ok (.getfield 150, 3) := by decide +kernel
theorem dX10_isSliced_45 : decode cX10_isSliced 45 = .ok (.iload_n 3, 1) := by decide +kernel
theorem dX10_isSliced_46 : decode cX10_isSliced 46 = .ok (.iaload, 1) := by decide +kernel
theorem dX10_isSliced_47 : decode cX10_isSliced 47 = .ok (.if_icmp .lt 7, 3) := by decide +kernel
theorem dX10_isSliced_50 : decode cX10_isSliced 50 = .ok (.iconst 1, 1) := by decide +kernel
theorem dX10_isSliced_51 : decode cX10_isSliced 51 = .ok (.goto 4, 3) := by decide +kernel
theorem dX10_isSliced_54 : decode cX10_isSliced 54 = .ok (.iconst 0, 1) := by decide +kernel
theorem dX10_isSliced_55 : decode cX10_isSliced 55 = .ok (.istore_n 2, 1) := by decide +kernel
theorem dX10_isSliced_56 : decode cX10_isSliced 56 = .ok (.iconst 0, 1) := by decide +kernel
theorem dX10_isSliced_57 : decode cX10_isSliced 57 = .ok (.istore 5, 2) := by decide +kernel
theorem dX10_isSliced_59 : decode cX10_isSliced 59 = .ok (.iload 5, 2) := by decide +kernel
theorem dX10_isSliced_61 : decode cX10_isSliced 61 = .ok (.iconst 4, 1) := by decide +kernel
theorem dX10_isSliced_62 : decode cX10_isSliced 62 = .ok (.if_icmp .ge 54, 3) := by decide +kernel
theorem dX10_isSliced_65 : decode cX10_isSliced 65 = .ok (.iload_n 2, 1) := by decide +kernel
theorem dX10_isSliced_66 : decode cX10_isSliced 66 = .ok (.ifCond .eq 50, 3) := by decide +kernel
theorem dX10_isSliced_69 : decode cX10_isSliced 69 = .ok (.iload 4, 2) := by decide +kernel
theorem dX10_isSliced_71 : decode cX10_isSliced 71 = .ok (.ifCond .le 45, 3) := by decide +kernel
theorem dX10_isSliced_74 : decode cX10_isSliced 74 = .ok (.aload_n 0, 1) := by decide +kernel
theorem dX10_isSliced_75 : decode cX10_isSliced 75 = .ok (.getfield 147, 3) := by decide +kernel
theorem dX10_isSliced_78 : decode cX10_isSliced 78 = .ok (.iconst 4, 1) := by decide +kernel
theorem dX10_isSliced_79 : decode cX10_isSliced 79 = .ok (.iload_n 3, 1) := by decide +kernel
theorem dX10_isSliced_80 : decode cX10_isSliced 80 = .ok (.iload 4, 2) := by decide +kernel
theorem dX10_isSliced_82 : decode cX10_isSliced 82 = .ok (.invokestatic 189, 3) := by decide +kernel
theorem dX10_isSliced_85 : decode cX10_isSliced 85 = .ok (.imul, 1) := by decide +kernel
theorem dX10_isSliced_86 : decode cX10_isSliced 86 = .ok (.iload 5, 2) := by decide +kernel
theorem dX10_isSliced_88 : decode cX10_isSliced 88 = .ok (.iadd, 1) := by decide +kernel
theorem dX10_isSliced_89 : decode cX10_isSliced 89 = .ok (.iaload, 1) := by decide +kernel
theorem dX10_isSliced_90 : decode cX10_isSliced 90 = .ok (.aload_n 0, 1) := by decide +kernel
theorem dX10_isSliced_91 : decode cX10_isSliced 91 = .ok (.getfield 113, 3) := by decide +kernel
theorem dX10_isSliced_94 : decode cX10_isSliced 94 = .ok (.iconst 4, 1) := by decide +kernel
theorem dX10_isSliced_95 : decode cX10_isSliced 95 = .ok (.iload_n 1, 1) := by decide +kernel
theorem dX10_isSliced_96 : decode cX10_isSliced 96 = .ok (.imul, 1) := by decide +kernel
theorem dX10_isSliced_97 : decode cX10_isSliced 97 = .ok (.iload 5, 2) := by decide +kernel
theorem dX10_isSliced_99 : decode cX10_isSliced 99 = .ok (.iadd, 1) := by decide +kernel
theorem dX10_isSliced_100 : decode cX10_isSliced 100 = .ok (.iaload, 1) := by decide +kernel
theorem dX10_isSliced_101 : decode cX10_isSliced 101 = .ok (.if_icmp .gt 7, 3) := by decide +kernel
theorem dX10_isSliced_104 : decode cX10_isSliced 104 = .ok (.iconst 1, 1) := by decide +kernel
theorem dX10_isSliced_105 : decode cX10_isSliced 105 = .ok (.goto 4, 3) := by decide +kernel
theorem dX10_isSliced_108 : decode cX10_isSliced 108 = .ok (.iconst 0, 1) := by decide +kernel
theorem dX10_isSliced_109 : decode cX10_isSliced 109 = .ok (.istore_n 2, 1) := by decide +kernel
theorem dX10_isSliced_110 : decode cX10_isSliced 110 = .ok (.iinc 5 1, 3) := by decide +kernel
theorem dX10_isSliced_113 : decode cX10_isSliced 113 = .ok (.goto (-54), 3) := by decide +kernel
theorem dX10_isSliced_116 : decode cX10_isSliced 116 = .ok (.iinc 3 1, 3) := by decide +kernel
theorem dX10_isSliced_119 : decode cX10_isSliced 119 = .ok (.goto (-104), 3) := by decide +kernel
theorem dX10_isSliced_122 : decode cX10_isSliced 122 = .ok (.iload_n 2, 1) := by decide +kernel
theorem dX10_isSliced_123 : decode cX10_isSliced 123 = .ok (.ireturn, 1) := by decide +kernel
theorem dX10_slice_0 : decode cX10_slice 0 = .ok (.iload_n 1, 1) := by decide +kernel
theorem dX10_slice_1 : decode cX10_slice 1 = .ok (.invokestatic 274, 3) := by decide +kernel
theorem dX10_slice_4 : decode cX10_slice 4 = .ok (.ifCond .eq 8, 3) := by decide +kernel
theorem dX10_slice_7 : decode cX10_slice 7 = .ok (.iload_n 2, 1) := by decide +kernel
theorem dX10_slice_8 : decode cX10_slice 8 = .ok (.iconst (-1), 1) := by decide +kernel
theorem dX10_slice_9 : decode cX10_slice 9 = .ok (.if_icmp .ge 5, 3) := by decide +kernel
theorem dX10_slice_12 : decode cX10_slice 12 = .ok (.iconst (-1), 1) := by decide +kernel
theorem dX10_slice_13 : decode cX10_slice 13 = .ok (.ireturn, 1) := by decide +kernel
theorem dX10_slice_14 : decode cX10_slice 14 = .ok (.aload_n 0, 1) := by decide +kernel
theorem dX10_slice_15 : decode cX10_slice 15 = .ok (.getfield 52, 3) := by decide +kernel
theorem dX10_slice_18 : decode cX10_slice 18 = .ok (.iload_n 1, 1) := by decide +kernel
theorem dX10_slice_19 : decode cX10_slice 19 = .ok (.iaload, 1) := by decide +kernel
theorem dX10_slice_20 : decode cX10_slice 20 = .ok (.ifCond .ne 6, 3) := by decide +kernel
theorem dX10_slice_23 : decode cX10_slice 23 = .ok (.bipush (-3), 2) := by decide +kernel
theorem dX10_slice_25 : decode cX10_slice 25 = .ok (.ireturn, 1) := by decide +kernel
theorem dX10_slice_26 : decode cX10_slice 26 = .ok (.aload_n 0, 1) := by decide +kernel
theorem dX10_slice_27 : decode cX10_slice 27 = .ok (.iload_n 1, 1) := by decide +kernel
theorem dX10_slice_28 : decode cX10_slice 28 = .ok (.invokevirtual 311, 3) := by decide +kernel
theorem dX10_slice_31 : decode cX10_slice 31 = .ok (.iconst 0, 1) := by decide +kernel
theorem dX10_slice_32 : decode cX10_slice 32 = .ok (.istore_n 3, 1) := by decide +kernel
theorem dX10_slice_33 : decode cX10_slice 33 = .ok (.iconst 0, 1) := by decide +kernel
theorem dX10_slice_34 : decode cX10_slice 34 = .ok (.istore 4, 2) := by decide +kernel
theorem dX10_slice_36 : decode cX10_slice 36 = .ok (.iload 4, 2) := by decide +kernel
theorem dX10_slice_38 : decode cX10_slice 38 = .ok (.aload_n 0, 1) := by decide +kernel
theorem dX10_slice_39 : decode cX10_slice 39 = .ok (.getfield 208, 3) := by decide +kernel
theorem dX10_slice_42 : decode cX10_slice 42 = .ok (.if_icmp .ge 29, 3) := by decide +kernel
theorem dX10_slice_45 : decode cX10_slice 45 = .ok (.aload_n 0, 1) := by decide +kernel
theorem dX10_slice_46 : decode cX10_slice 46 = .ok (.iload 4, 2) := by decide +kernel
theorem dX10_slice_48 : decode cX10_slice 48 = .ok (.invokevirtual 314, 3) := by decide +kernel
theorem dX10_slice_51 : decode cX10_slice 51 = .ok (.ifCond .eq 14, 3) := by decide +kernel
theorem dX10_slice_54 : decode cX10_slice 54 = .ok (.iload_n 3, 1) := by decide +kernel
theorem dX10_slice_55 : decode cX10_slice 55 = .ok (.iload_n 2, 1) := by decide +kernel
theorem dX10_slice_56 : decode cX10_slice 56 = .ok (.if_icmp .ne 6, 3) := by decide +kernel
theorem dX10_slice_59 : decode cX10_slice 59 = .ok (.iload 4, 2) := by decide +kernel
theorem dX10_slice_61 : decode cX10_slice 61 = .ok (.ireturn, 1) := by decide +kernel
theorem dX10_slice_62 : decode cX10_slice 62 = .ok (.iinc 3 1, 3) := by decide +kernel
theorem dX10_slice_65 : decode cX10_slice 65 = .ok (.iinc 4 1, 3) := by decide +kernel
theorem dX10_slice_68 : decode cX10_slice 68 = .ok (.goto (-32), 3) := by decide +kernel
theorem dX10_slice_71 : decode cX10_slice 71 = .ok (.iload_n 2, 1) := by decide +kernel
theorem dX10_slice_72 : decode cX10_slice 72 = .ok (.iconst (-1), 1) := by decide +kernel
theorem dX10_slice_73 : decode cX10_slice 73 = .ok (.if_icmp .ne 7, 3) := by decide +kernel
theorem dX10_slice_76 : decode cX10_slice 76 = .ok (.iload_n 3, 1) := by decide +kernel
theorem dX10_slice_77 : decode cX10_slice 77 = .ok (.goto 5, 3) := by decide +kernel
theorem dX10_slice_80 : decode cX10_slice 80 = .ok (.bipush (-5), 2) := by decide +kernel
theorem dX10_slice_82 : decode cX10_slice 82 = .ok (.ireturn, 1) := by decide +kernel
theorem dX10_regular_0 : decode cX10_regular 0 = .ok (.aload_n 0, 1) := by decide +kernel
theorem dX10_regular_1 : decode cX10_regular 1 = .ok (.iload_n 1, 1) := by decide +kernel
theorem dX10_regular_2 : decode cX10_regular 2 = .ok (.invokevirtual 305, 3) := by decide +kernel
theorem dX10_regular_5 : decode cX10_regular 5 = .ok (.istore_n 2, 1) := by decide +kernel
theorem dX10_regular_6 : decode cX10_regular 6 = .ok (.iload_n 2, 1) := by decide +kernel
theorem dX10_regular_7 : decode cX10_regular 7 = .ok (.ifCond .ge 5, 3) := by decide +kernel
theorem dX10_regular_10 : decode cX10_regular 10 = .ok (.iload_n 2, 1) := by decide +kernel
theorem dX10_regular_11 : decode cX10_regular 11 = .ok (.ireturn, 1) := by decide +kernel
theorem dX10_regular_12 : decode cX10_regular 12 = .ok (.aload_n 0, 1) := by decide +kernel
theorem dX10_regular_13 : decode cX10_regular 13 = .ok (.iload_n 1, 1) := by decide +kernel
theorem dX10_regular_14 : decode cX10_regular 14 = .ok (.invokevirtual 311, 3) := by decide +kernel
theorem dX10_regular_17 : decode cX10_regular 17 = .ok (.iconst 0, 1) := by decide +kernel
theorem dX10_regular_18 : decode cX10_regular 18 = .ok (.istore_n 3, 1) := by decide +kernel
theorem dX10_regular_19 : decode cX10_regular 19 = .ok (.iconst 0, 1) := by decide +kernel
theorem dX10_regular_20 : decode cX10_regular 20 = .ok (.istore 4, 2) := by decide +kernel
theorem dX10_regular_22 : decode cX10_regular 22 = .ok (.iload 4, 2) := by decide +kernel
theorem dX10_regular_24 : decode cX10_regular 24 = .ok (.aload_n 0, 1) := by decide +kernel
theorem dX10_regular_25 : decode cX10_regular 25 = .ok (.getfield 208, 3) := by decide +kernel
theorem dX10_regular_28 : decode cX10_regular 28 = .ok (.if_icmp .ge 26, 3) := by decide +kernel
theorem dX10_regular_31 : decode cX10_regular 31 = .ok (.iload_n 3, 1) := by decide +kernel
theorem dX10_regular_32 : decode cX10_regular 32 = .ok (.aload_n 0, 1) := by decide +kernel
theorem dX10_regular_33 : decode cX10_regular 33 = .ok (.iload 4, 2) := by decide +kernel
theorem dX10_regular_35 : decode cX10_regular 35 = .ok (.invokevirtual 314, 3) := by decide +kernel
theorem dX10_regular_38 : decode cX10_regular 38 = .ok (.ifCond .eq 7, 3) := by decide +kernel
theorem dX10_regular_41 : decode cX10_regular 41 = .ok (.iconst 1, 1) := by decide +kernel
theorem dX10_regular_42 : decode cX10_regular 42 = .ok (.goto 4, 3) := by decide +kernel
theorem dX10_regular_45 : decode cX10_regular 45 = .ok (.iconst 0, 1) := by decide +kernel
theorem dX10_regular_46 : decode cX10_regular 46 = .ok (.iadd, 1) := by decide +kernel
theorem dX10_regular_47 : decode cX10_regular 47 = .ok (.istore_n 3, 1) := by decide +kernel
theorem dX10_regular_48 : decode cX10_regular 48 = .ok (.iinc 4 1, 3) := by decide +kernel
theorem dX10_regular_51 : decode cX10_regular 51 = .ok (.goto (-29), 3) := by decide +kernel
theorem dX10_regular_54 : decode cX10_regular 54 = .ok (.iload_n 3, 1) := by decide +kernel
theorem dX10_regular_55 : decode cX10_regular 55 = .ok (.aload_n 0, 1) := by decide +kernel
theorem dX10_regular_56 : decode cX10_regular 56 = .ok (.getfield 295, 3) := by decide +kernel
theorem dX10_regular_59 : decode cX10_regular 59 = .ok (.if_icmp .ne 7, 3) := by decide +kernel
theorem dX10_regular_62 : decode cX10_regular 62 = .ok (.iconst 1, 1) := by decide +kernel
theorem dX10_regular_63 : decode cX10_regular 63 = .ok (.goto 4, 3) := by decide +kernel
theorem dX10_regular_66 : decode cX10_regular 66 = .ok (.iconst 0, 1) := by decide +kernel
theorem dX10_regular_67 : decode cX10_regular 67 = .ok (.ireturn, 1) := by decide +kernel
theorem dX10_least_0 : decode cX10_least 0 = .ok (.iload_n 1, 1) := by decide +kernel
theorem dX10_least_1 : decode cX10_least 1 = .ok (.invokestatic 274, 3) := by decide +kernel
theorem dX10_least_4 : decode cX10_least 4 = .ok (.ifCond .eq 12, 3) := by decide +kernel
theorem dX10_least_7 : decode cX10_least 7 = .ok (.aload_n 0, 1) := by decide +kernel
theorem dX10_least_8 : decode cX10_least 8 = .ok (.iload_n 2, 1) := by decide +kernel
theorem dX10_least_9 : decode cX10_least 9 = .ok (.iload_n 3, 1) := by decide +kernel
theorem dX10_least_10 : decode cX10_least 10 = .ok (.invokevirtual 202, 3) := by decide +kernel
theorem dX10_least_13 : decode cX10_least 13 = .ok (.ifCond .ne 5, 3) := by decide +kernel
theorem dX10_least_16 : decode cX10_least 16 = .ok (.iconst (-1), 1) := by decide +kernel
theorem dX10_least_17 : decode cX10_least 17 = .ok (.ireturn, 1) := by decide +kernel
theorem dX10_least_18 : decode cX10_least 18 = .ok (.aload_n 0, 1) := by decide +kernel
theorem dX10_least_19 : decode cX10_least 19 = .ok (.getfield 52, 3) := by decide +kernel
theorem dX10_least_22 : decode cX10_least 22 = .ok (.iload_n 1, 1) := by decide +kernel
theorem dX10_least_23 : decode cX10_least 23 = .ok (.iaload, 1) := by decide +kernel
theorem dX10_least_24 : decode cX10_least 24 = .ok (.ifCond .ne 6, 3) := by decide +kernel
theorem dX10_least_27 : decode cX10_least 27 = .ok (.bipush (-3), 2) := by decide +kernel
theorem dX10_least_29 : decode cX10_least 29 = .ok (.ireturn, 1) := by decide +kernel
theorem dX10_least_30 : decode cX10_least 30 = .ok (.aload_n 0, 1) := by decide +kernel
theorem dX10_least_31 : decode cX10_least 31 = .ok (.iload_n 1, 1) := by decide +kernel
theorem dX10_least_32 : decode cX10_least 32 = .ok (.invokevirtual 311, 3) := by decide +kernel
theorem dX10_least_35 : decode cX10_least 35 = .ok (.aload_n 0, 1) := by decide +kernel
theorem dX10_least_36 : decode cX10_least 36 = .ok (.getfield 147, 3) := by decide +kernel
theorem dX10_least_39 : decode cX10_least 39 = .ok (.iconst 4, 1) := by decide +kernel
theorem dX10_least_40 : decode cX10_least 40 = .ok (.iload_n 2, 1) := by decide +kernel
theorem dX10_least_41 : decode cX10_least 41 = .ok (.iload_n 3, 1) := by decide +kernel
theorem dX10_least_42 : decode cX10_least 42 = .ok (.invokestatic 189, 3) := by decide +kernel
theorem dX10_least_45 : decode cX10_least 45 = .ok (.imul, 1) := by decide +kernel
theorem dX10_least_46 : decode cX10_least 46 = .ok (.iaload, 1) := by decide +kernel
theorem dX10_least_47 : decode cX10_least 47 = .ok (.bipush 9, 2) := by decide +kernel
theorem dX10_least_49 : decode cX10_least 49 = .ok (.if_icmp .ne 6, 3) := by decide +kernel
theorem dX10_least_52 : decode cX10_least 52 = .ok (.bipush (-5), 2) := by decide +kernel
theorem dX10_least_54 : decode cX10_least 54 = .ok (.ireturn, 1) := by decide +kernel
theorem dX10_least_55 : decode cX10_least 55 = .ok (.iconst 0, 1) := by decide +kernel
theorem dX10_least_56 : decode cX10_least 56 = .ok (.istore 4, 2) := by decide +kernel
theorem dX10_least_58 : decode cX10_least 58 = .ok (.iload 4, 2) := by decide +kernel
theorem dX10_least_60 : decode cX10_least 60 = .ok (.iconst 4, 1) := by decide +kernel
theorem dX10_least_61 : decode cX10_least 61 = .ok (.if_icmp .ge 31, 3) := by decide +kernel
theorem dX10_least_64 : decode cX10_least 64 = .ok (.aload_n 0, 1) := by decide +kernel
theorem dX10_least_65 : decode cX10_least 65 = .ok (.getfield 119, 3) := by decide +kernel
theorem dX10_least_68 : decode cX10_least 68 = .ok (.iload 4, 2) := by decide +kernel
theorem dX10_least_70 : decode cX10_least 70 = .ok (.aload_n 0, 1) := by decide +kernel
theorem dX10_least_71 : decode cX10_least 71 = .ok (.getfield 147, 3) := by decide +kernel
theorem dX10_least_74 : decode cX10_least 74 = .ok (.iconst 4, 1) := by decide +kernel
theorem dX10_least_75 : decode cX10_least 75 = .ok (.iload_n 2, 1) := by decide +kernel
theorem dX10_least_76 : decode cX10_least 76 = .ok (.iload_n 3, 1) := by decide +kernel
theorem dX10_least_77 : decode cX10_least 77 = .ok (.invokestatic 189, 3) := by decide +kernel
theorem dX10_least_80 : decode cX10_least 80 = .ok (.imul, 1) := by decide +kernel
theorem dX10_least_81 : decode cX10_least 81 = .ok (.iload 4, 2) := by decide +kernel
theorem dX10_least_83 : decode cX10_least 83 = .ok (.iadd, 1) := by decide +kernel
theorem dX10_least_84 : decode cX10_least 84 = .ok (.iaload, 1) := by decide +kernel
theorem dX10_least_85 : decode cX10_least 85 = .ok (.iastore, 1) := by decide +kernel
theorem dX10_least_86 : decode cX10_least 86 = .ok (.iinc 4 1, 3) := by decide +kernel
theorem dX10_least_89 : decode cX10_least 89 = .ok (.goto (-31), 3) := by decide +kernel
theorem dX10_least_92 : decode cX10_least 92 = .ok (.aload_n 0, 1) := by decide +kernel
theorem dX10_least_93 : decode cX10_least 93 = .ok (.getfield 116, 3) := by decide +kernel
theorem dX10_least_96 : decode cX10_least 96 = .ok (.aload_n 0, 1) := by decide +kernel
theorem dX10_least_97 : decode cX10_least 97 = .ok (.invokevirtual 215, 3) := by decide +kernel
theorem dX10_least_100 : decode cX10_least 100 = .ok (.iaload, 1) := by decide +kernel
theorem dX10_least_101 : decode cX10_least 101 = .ok (.ireturn, 1) := by decide +kernel
theorem dX10_forget_0 : decode cX10_forget 0 = .ok (.aload_n 0, 1) := by decide +kernel
theorem dX10_forget_1 : decode cX10_forget 1 = .ok (.iload_n 1, 1) := by decide +kernel
theorem dX10_forget_2 : decode cX10_forget 2 = .ok (.invokevirtual 305, 3) := by decide +kernel
theorem dX10_forget_5 : decode cX10_forget 5 = .ok (.istore_n 2, 1) := by decide +kernel
theorem dX10_forget_6 : decode cX10_forget 6 = .ok (.iload_n 2, 1) := by decide +kernel
theorem dX10_forget_7 : decode cX10_forget 7 = .ok (.ifCond .ge 5, 3) := by decide +kernel
theorem dX10_forget_10 : decode cX10_forget 10 = .ok (.iload_n 2, 1) := by decide +kernel
theorem dX10_forget_11 : decode cX10_forget 11 = .ok (.ireturn, 1) := by decide +kernel
theorem dX10_forget_12 : decode cX10_forget 12 = .ok (.aload_n 0, 1) := by decide +kernel
theorem dX10_forget_13 : decode cX10_forget 13 = .ok (.getfield 52, 3) := by decide +kernel
theorem dX10_forget_16 : decode cX10_forget 16 = .ok (.iload_n 1, 1) := by decide +kernel
theorem dX10_forget_17 : decode cX10_forget 17 = .ok (.iconst 0, 1) := by decide +kernel
theorem dX10_forget_18 : decode cX10_forget 18 = .ok (.iastore, 1) := by decide +kernel
theorem dX10_forget_19 : decode cX10_forget 19 = .ok (.iconst 1, 1) := by decide +kernel
theorem dX10_forget_20 : decode cX10_forget 20 = .ok (.ireturn, 1) := by decide +kernel
theorem dX10_mark_0 : decode cX10_mark 0 = .ok (.aload_n 0, 1) := by decide +kernel
theorem dX10_mark_1 : decode cX10_mark 1 = .ok (.iload_n 1, 1) := by decide +kernel
theorem dX10_mark_2 : decode cX10_mark 2 = .ok (.iload_n 2, 1) := by decide +kernel
theorem dX10_mark_3 : decode cX10_mark 3 = .ok (.invokevirtual 202, 3) := by decide +kernel
theorem dX10_mark_6 : decode cX10_mark 6 = .ok (.ifCond .ne 5, 3) := by decide +kernel
theorem dX10_mark_9 : decode cX10_mark 9 = .ok (.iconst (-1), 1) := by decide +kernel
theorem dX10_mark_10 : decode cX10_mark 10 = .ok (.ireturn, 1) := by decide +kernel
theorem dX10_mark_11 : decode cX10_mark 11 = .ok (.iload_n 3, 1) := by decide +kernel
theorem dX10_mark_12 : decode cX10_mark 12 = .ok (.i2l, 1) := by decide +kernel
theorem dX10_mark_13 : decode cX10_mark 13 = .ok (.lconst 0, 1) := by decide +kernel
theorem dX10_mark_14 : decode cX10_mark 14 = .ok (.lconst 1, 1) := by decide +kernel
theorem dX10_mark_15 : decode cX10_mark 15 = .ok (.invokestatic 165, 3) := by decide +kernel
theorem dX10_mark_18 : decode cX10_mark 18 = .ok (.ifCond .ne 6, 3) := by decide +kernel
theorem dX10_mark_21 : decode cX10_mark 21 = .ok (.bipush (-2), 2) := by decide +kernel
theorem dX10_mark_23 : decode cX10_mark 23 = .ok (.ireturn, 1) := by decide +kernel
theorem dX10_mark_24 : decode cX10_mark 24 = .ok (.aload_n 0, 1) := by decide +kernel
theorem dX10_mark_25 : decode cX10_mark 25 = .ok (.getfield 31, 3) := by decide +kernel
theorem dX10_mark_28 : decode cX10_mark 28 = .ok (.iload_n 1, 1) := by decide +kernel
theorem dX10_mark_29 : decode cX10_mark 29 = .ok (.iload_n 2, 1) := by decide +kernel
theorem dX10_mark_30 : decode cX10_mark 30 = .ok (.invokestatic 189, 3) := by decide +kernel
theorem dX10_mark_33 : decode cX10_mark 33 = .ok (.iaload, 1) := by decide +kernel
theorem dX10_mark_34 : decode cX10_mark 34 = .ok (.istore 4, 2) := by decide +kernel
theorem dX10_mark_36 : decode cX10_mark 36 = .ok (.aload_n 0, 1) := by decide +kernel
theorem dX10_mark_37 : decode cX10_mark 37 = .ok (.getfield 31, 3) := by decide +kernel
theorem dX10_mark_40 : decode cX10_mark 40 = .ok (.iload_n 1, 1) := by decide +kernel
theorem dX10_mark_41 : decode cX10_mark 41 = .ok (.iload_n 2, 1) := by decide +kernel
theorem dX10_mark_42 : decode cX10_mark 42 = .ok (.invokestatic 189, 3) := by decide +kernel
theorem dX10_mark_45 : decode cX10_mark 45 = .ok (.iload_n 3, 1) := by decide +kernel
theorem dX10_mark_46 : decode cX10_mark 46 = .ok (.iastore, 1) := by decide +kernel
theorem dX10_mark_47 : decode cX10_mark 47 = .ok (.iload 4, 2) := by decide +kernel
theorem dX10_mark_49 : decode cX10_mark 49 = .ok (.ireturn, 1) := by decide +kernel
theorem dX10_line_0 : decode cX10_line 0 = .ok (.aload_n 0, 1) := by decide +kernel
theorem dX10_line_1 : decode cX10_line 1 = .ok (.invokevirtual 219, 3) := by decide +kernel
theorem dX10_line_4 : decode cX10_line 4 = .ok (.iconst 0, 1) := by decide +kernel
theorem dX10_line_5 : decode cX10_line 5 = .ok (.istore_n 1, 1) := by decide +kernel
theorem dX10_line_6 : decode cX10_line 6 = .ok (.iconst 0, 1) := by decide +kernel
theorem dX10_line_7 : decode cX10_line 7 = .ok (.istore_n 2, 1) := by decide +kernel
theorem dX10_line_8 : decode cX10_line 8 = .ok (.iload_n 2, 1) := by decide +kernel
theorem dX10_line_9 : decode cX10_line 9 = .ok (.aload_n 0, 1) := by decide +kernel
theorem dX10_line_10 : decode cX10_line 10 = .ok (.getfield 208, 3) := by decide +kernel
theorem dX10_line_13 : decode cX10_line 13 = .ok (.if_icmp .ge 96, 3) := by decide +kernel
theorem dX10_line_16 : decode cX10_line 16 = .ok (.iconst 1, 1) := by decide +kernel
theorem dX10_line_17 : decode cX10_line 17 = .ok (.istore_n 3, 1) := by decide +kernel
theorem dX10_line_18 : decode cX10_line 18 = .ok (.iconst 0, 1) := by decide +kernel
theorem dX10_line_19 : decode cX10_line 19 = .ok (.istore 4, 2) := by decide +kernel
theorem dX10_line_21 : decode cX10_line 21 = .ok (.iload 4, 2) := by decide +kernel
theorem dX10_line_23 : decode cX10_line 23 = .ok (.aload_n 0, 1) := by decide +kernel
theorem dX10_line_24 : decode cX10_line 24 = .ok (.getfield 9, 3) := by decide +kernel
theorem dX10_line_27 : decode cX10_line 27 = .ok (.if_icmp .ge 53, 3) := by decide +kernel
theorem dX10_line_30 : decode cX10_line 30 = .ok (.aload_n 0, 1) := by decide +kernel
theorem dX10_line_31 : decode cX10_line 31 = .ok (.getfield 113, 3) := by decide +kernel
theorem dX10_line_34 : decode cX10_line 34 = .ok (.iconst 4, 1) := by decide +kernel
theorem dX10_line_35 : decode cX10_line 35 = .ok (.iload_n 2, 1) := by decide +kernel
theorem dX10_line_36 : decode cX10_line 36 = .ok (.imul, 1) := by decide +kernel
theorem dX10_line_37 : decode cX10_line 37 = .ok (.iload 4, 2) := by decide +kernel
theorem dX10_line_39 : decode cX10_line 39 = .ok (.iadd, 1) := by decide +kernel
theorem dX10_line_40 : decode cX10_line 40 = .ok (.iaload, 1) := by decide +kernel
theorem dX10_line_41 : decode cX10_line 41 = .ok (.istore 5, 2) := by decide +kernel
theorem dX10_line_43 : decode cX10_line 43 = .ok (.iload_n 3, 1) := by decide +kernel
theorem dX10_line_44 : decode cX10_line 44 = .ok (.ifCond .eq 28, 3) := by decide +kernel
theorem dX10_line_47 : decode cX10_line 47 = .ok (.iload 5, 2) := by decide +kernel
theorem dX10_line_49 : decode cX10_line 49 = .ok (.ifCond .eq 19, 3) := by decide +kernel
theorem dX10_line_52 : decode cX10_line 52 = .ok (.aload_n 0, 1) := by decide +kernel
theorem dX10_line_53 : decode cX10_line 53 = .ok (.getfield 31, 3) := by decide +kernel
theorem dX10_line_56 : decode cX10_line 56 = .ok (.iload 4, 2) := by decide +kernel
theorem dX10_line_58 : decode cX10_line 58 = .ok (.iload 5, 2) := by decide +kernel
theorem dX10_line_60 : decode cX10_line 60 = .ok (.invokestatic 189, 3) := by decide +kernel
theorem dX10_line_63 : decode cX10_line 63 = .ok (.iaload, 1) := by decide +kernel
theorem dX10_line_64 : decode cX10_line 64 = .ok (.iconst 1, 1) := by decide +kernel
theorem dX10_line_65 : decode cX10_line 65 = .ok (.if_icmp .ne 7, 3) := by decide +kernel
theorem dX10_line_68 : decode cX10_line 68 = .ok (.iconst 1, 1) := by decide +kernel
theorem dX10_line_69 : decode cX10_line 69 = .ok (.goto 4, 3) := by decide +kernel
theorem dX10_line_72 : decode cX10_line 72 = .ok (.iconst 0, 1) := by decide +kernel
theorem dX10_line_73 : decode cX10_line 73 = .ok (.istore_n 3, 1) := by decide +kernel
theorem dX10_line_74 : decode cX10_line 74 = .ok (.iinc 4 1, 3) := by decide +kernel
theorem dX10_line_77 : decode cX10_line 77 = .ok (.goto (-56), 3) := by decide +kernel
theorem dX10_line_80 : decode cX10_line 80 = .ok (.iload_n 3, 1) := by decide +kernel
theorem dX10_line_81 : decode cX10_line 81 = .ok (.ifCond .eq 20, 3) := by decide +kernel
theorem dX10_line_84 : decode cX10_line 84 = .ok (.aload_n 0, 1) := by decide +kernel
theorem dX10_line_85 : decode cX10_line 85 = .ok (.iload_n 2, 1) := by decide +kernel
theorem dX10_line_86 : decode cX10_line 86 = .ok (.invokevirtual 225, 3) := by decide +kernel
theorem dX10_line_89 : decode cX10_line 89 = .ok (.aload_n 0, 1) := by decide +kernel
theorem dX10_line_90 : decode cX10_line 90 = .ok (.iload_n 1, 1) := by decide +kernel
theorem dX10_line_91 : decode cX10_line 91 = .ok (.invokevirtual 225, 3) := by decide +kernel
theorem dX10_line_94 : decode cX10_line 94 = .ok (.if_icmp .le 7, 3) := by decide +kernel
theorem dX10_line_97 : decode cX10_line 97 = .ok (.iload_n 2, 1) := by decide +kernel
theorem dX10_line_98 : decode cX10_line 98 = .ok (.goto 4, 3) := by decide +kernel
theorem dX10_line_101 : decode cX10_line 101 = .ok (.iload_n 1, 1) := by decide +kernel
theorem dX10_line_102 : decode cX10_line 102 = .ok (.istore_n 1, 1) := by decide +kernel
theorem dX10_line_103 : decode cX10_line 103 = .ok (.iinc 2 1, 3) := by decide +kernel
theorem dX10_line_106 : decode cX10_line 106 = .ok (.goto (-98), 3) := by decide +kernel
theorem dX10_line_109 : decode cX10_line 109 = .ok (.iload_n 1, 1) := by decide +kernel
theorem dX10_line_110 : decode cX10_line 110 = .ok (.ireturn, 1) := by decide +kernel
theorem dX10_feed_0 : decode cX10_feed 0 = .ok (.iload_n 1, 1) := by decide +kernel
theorem dX10_feed_1 : decode cX10_feed 1 = .ok (.i2l, 1) := by decide +kernel
theorem dX10_feed_2 : decode cX10_feed 2 = .ok (.ldc2_w 317, 3) := by decide +kernel
theorem dX10_feed_5 : decode cX10_feed 5 = .ok (.ldc2_w 319, 3) := by decide +kernel
theorem dX10_feed_8 : decode cX10_feed 8 = .ok (.invokestatic 165, 3) := by decide +kernel
theorem dX10_feed_11 : decode cX10_feed 11 = .ok (.ifCond .ne 6, 3) := by decide +kernel
theorem dX10_feed_14 : decode cX10_feed 14 = .ok (.bipush (-2), 2) := by decide +kernel
theorem dX10_feed_16 : decode cX10_feed 16 = .ok (.ireturn, 1) := by decide +kernel
theorem dX10_feed_17 : decode cX10_feed 17 = .ok (.aload_n 0, 1) := by decide +kernel
theorem dX10_feed_18 : decode cX10_feed 18 = .ok (.getfield 247, 3) := by decide +kernel
theorem dX10_feed_21 : decode cX10_feed 21 = .ok (.bipush 60, 2) := by decide +kernel
theorem dX10_feed_23 : decode cX10_feed 23 = .ok (.if_icmp .ne 6, 3) := by decide +kernel
theorem dX10_feed_26 : decode cX10_feed 26 = .ok (.bipush (-4), 2) := by decide +kernel
theorem dX10_feed_28 : decode cX10_feed 28 = .ok (.ireturn, 1) := by decide +kernel
theorem dX10_feed_29 : decode cX10_feed 29 = .ok (.aload_n 0, 1) := by decide +kernel
theorem dX10_feed_30 : decode cX10_feed 30 = .ok (.getfield 58, 3) := by decide +kernel
theorem dX10_feed_33 : decode cX10_feed 33 = .ok (.aload_n 0, 1) := by decide +kernel
theorem dX10_feed_34 : decode cX10_feed 34 = .ok (.getfield 247, 3) := by decide +kernel
theorem dX10_feed_37 : decode cX10_feed 37 = .ok (.iload_n 1, 1) := by decide +kernel
theorem dX10_feed_38 : decode cX10_feed 38 = .ok (.iastore, 1) := by decide +kernel
theorem dX10_feed_39 : decode cX10_feed 39 = .ok (.aload_n 0, 1) := by decide +kernel
theorem dX10_feed_40 : decode cX10_feed 40 = .ok (.dup, 1) := by decide +kernel
theorem dX10_feed_41 : decode cX10_feed 41 = .ok (.getfield 247, 3) := by decide +kernel
theorem dX10_feed_44 : decode cX10_feed 44 = .ok (.iconst 1, 1) := by decide +kernel
theorem dX10_feed_45 : decode cX10_feed 45 = .ok (.iadd, 1) := by decide +kernel
theorem dX10_feed_46 : decode cX10_feed 46 = .ok (.putfield 247, 3) := by decide +kernel
theorem dX10_feed_49 : decode cX10_feed 49 = .ok (.aload_n 0, 1) := by decide +kernel
theorem dX10_feed_50 : decode cX10_feed 50 = .ok (.getfield 247, 3) := by decide +kernel
theorem dX10_feed_53 : decode cX10_feed 53 = .ok (.ireturn, 1) := by decide +kernel
theorem dX10_wipe_0 : decode cX10_wipe 0 = .ok (.aload_n 0, 1) := by decide +kernel
theorem dX10_wipe_1 : decode cX10_wipe 1 = .ok (.getfield 247, 3) := by decide +kernel
theorem dX10_wipe_4 : decode cX10_wipe 4 = .ok (.istore_n 1, 1) := by decide +kernel
theorem dX10_wipe_5 : decode cX10_wipe 5 = .ok (.aload_n 0, 1) := by decide +kernel
theorem dX10_wipe_6 : decode cX10_wipe 6 = .ok (.iconst 0, 1) := by decide +kernel
theorem dX10_wipe_7 : decode cX10_wipe 7 = .ok (.putfield 247, 3) := by decide +kernel
theorem dX10_wipe_10 : decode cX10_wipe 10 = .ok (.iload_n 1, 1) := by decide +kernel
theorem dX10_wipe_11 : decode cX10_wipe 11 = .ok (.ireturn, 1) := by decide +kernel
theorem dX10_wants_0 : decode cX10_wants 0 = .ok (.aload_n 0, 1) := by decide +kernel
theorem dX10_wants_1 : decode cX10_wants 1 = .ok (.aload_n 0, 1) := by decide +kernel
theorem dX10_wants_2 : decode cX10_wants 2 = .ok (.getfield 321, 3) := by decide +kernel
theorem dX10_wants_5 : decode cX10_wants 5 = .ok (.ifCond .ne 15, 3) := by decide +kernel
theorem dX10_wants_8 : decode cX10_wants 8 = .ok (.aload_n 0, 1) := by decide +kernel
theorem dX10_wants_9 : decode cX10_wants 9 = .ok (.aload_n 0, 1) := by decide +kernel
theorem dX10_wants_10 : decode cX10_wants 10 = .ok (.getfield 324, 3) := by decide +kernel
theorem dX10_wants_13 : decode cX10_wants 13 = .ok (.invokevirtual 254, 3) := by decide +kernel
theorem dX10_wants_16 : decode cX10_wants 16 = .ok (.iload_n 1, 1) := by decide +kernel
theorem dX10_wants_17 : decode cX10_wants 17 = .ok (.if_icmp .eq 7, 3) := by decide +kernel
theorem dX10_wants_20 : decode cX10_wants 20 = .ok (.iconst 1, 1) := by decide +kernel
theorem dX10_wants_21 : decode cX10_wants 21 = .ok (.goto 4, 3) := by decide +kernel
theorem dX10_wants_24 : decode cX10_wants 24 = .ok (.iconst 0, 1) := by decide +kernel
theorem dX10_wants_25 : decode cX10_wants 25 = .ok (.putfield 321, 3) := by decide +kernel
theorem dX10_wants_28 : decode cX10_wants 28 = .ok (.aload_n 0, 1) := by decide +kernel
theorem dX10_wants_29 : decode cX10_wants 29 = .ok (.dup, 1) := by decide +kernel
theorem dX10_wants_30 : decode cX10_wants 30 = .ok (.getfield 324, 3) := by decide +kernel
theorem dX10_wants_33 : decode cX10_wants 33 = .ok (.aload_n 0, 1) := by decide +kernel
theorem dX10_wants_34 : decode cX10_wants 34 = .ok (.getfield 321, 3) := by decide +kernel
theorem dX10_wants_37 : decode cX10_wants 37 = .ok (.ifCond .eq 7, 3) := by decide +kernel
theorem dX10_wants_40 : decode cX10_wants 40 = .ok (.iconst 0, 1) := by decide +kernel
theorem dX10_wants_41 : decode cX10_wants 41 = .ok (.goto 4, 3) := by decide +kernel
theorem dX10_wants_44 : decode cX10_wants 44 = .ok (.iconst 1, 1) := by decide +kernel
theorem dX10_wants_45 : decode cX10_wants 45 = .ok (.iadd, 1) := by decide +kernel
theorem dX10_wants_46 : decode cX10_wants 46 = .ok (.putfield 324, 3) := by decide +kernel
theorem dX10_wants_49 : decode cX10_wants 49 = .ok (.return_, 1) := by decide +kernel
theorem dX10_figure_0 : decode cX10_figure 0 = .ok (.aload_n 0, 1) := by decide +kernel
theorem dX10_figure_1 : decode cX10_figure 1 = .ok (.aload_n 0, 1) := by decide +kernel
theorem dX10_figure_2 : decode cX10_figure 2 = .ok (.getfield 321, 3) := by decide +kernel
theorem dX10_figure_5 : decode cX10_figure 5 = .ok (.ifCond .ne 17, 3) := by decide +kernel
theorem dX10_figure_8 : decode cX10_figure 8 = .ok (.aload_n 0, 1) := by decide +kernel
theorem dX10_figure_9 : decode cX10_figure 9 = .ok (.aload_n 0, 1) := by decide +kernel
theorem dX10_figure_10 : decode cX10_figure 10 = .ok (.getfield 324, 3) := by decide +kernel
theorem dX10_figure_13 : decode cX10_figure 13 = .ok (.invokevirtual 254, 3) := by decide +kernel
theorem dX10_figure_16 : decode cX10_figure 16 = .ok (.invokestatic 257, 3) := by decide +kernel
theorem dX10_figure_19 : decode cX10_figure 19 = .ok (.ifCond .ne 7, 3) := by decide +kernel
theorem dX10_figure_22 : decode cX10_figure 22 = .ok (.iconst 1, 1) := by decide +kernel
theorem dX10_figure_23 : decode cX10_figure 23 = .ok (.goto 4, 3) := by decide +kernel
theorem dX10_figure_26 : decode cX10_figure 26 = .ok (.iconst 0, 1) := by decide +kernel
theorem dX10_figure_27 : decode cX10_figure 27 = .ok (.putfield 321, 3) := by decide +kernel
theorem dX10_figure_30 : decode cX10_figure 30 = .ok (.aload_n 0, 1) := by decide +kernel
theorem dX10_figure_31 : decode cX10_figure 31 = .ok (.getfield 321, 3) := by decide +kernel
theorem dX10_figure_34 : decode cX10_figure 34 = .ok (.ifCond .eq 7, 3) := by decide +kernel
theorem dX10_figure_37 : decode cX10_figure 37 = .ok (.iconst 0, 1) := by decide +kernel
theorem dX10_figure_38 : decode cX10_figure 38 = .ok (.goto 14, 3) := by decide +kernel
theorem dX10_figure_41 : decode cX10_figure 41 = .ok (.aload_n 0, 1) := by decide +kernel
theorem dX10_figure_42 : decode cX10_figure 42 = .ok (.aload_n 0, 1) := by decide +kernel
theorem dX10_figure_43 : decode cX10_figure 43 = .ok (.getfield 324, 3) := by decide +kernel
theorem dX10_figure_46 : decode cX10_figure 46 = .ok (.invokevirtual 254, 3) := by decide +kernel
theorem dX10_figure_49 : decode cX10_figure 49 = .ok (.bipush 48, 2) := by decide +kernel
theorem dX10_figure_51 : decode cX10_figure 51 = .ok (.isub, 1) := by decide +kernel
theorem dX10_figure_52 : decode cX10_figure 52 = .ok (.istore_n 1, 1) := by decide +kernel
theorem dX10_figure_53 : decode cX10_figure 53 = .ok (.aload_n 0, 1) := by decide +kernel
theorem dX10_figure_54 : decode cX10_figure 54 = .ok (.dup, 1) := by decide +kernel
theorem dX10_figure_55 : decode cX10_figure 55 = .ok (.getfield 324, 3) := by decide +kernel
theorem dX10_figure_58 : decode cX10_figure 58 = .ok (.aload_n 0, 1) := by decide +kernel
theorem dX10_figure_59 : decode cX10_figure 59 = .ok (.getfield 321, 3) := by decide +kernel
theorem dX10_figure_62 : decode cX10_figure 62 = .ok (.ifCond .eq 7, 3) := by decide +kernel
theorem dX10_figure_65 : decode cX10_figure 65 = .ok (.iconst 0, 1) := by decide +kernel
theorem dX10_figure_66 : decode cX10_figure 66 = .ok (.goto 4, 3) := by decide +kernel
theorem dX10_figure_69 : decode cX10_figure 69 = .ok (.iconst 1, 1) := by decide +kernel
theorem dX10_figure_70 : decode cX10_figure 70 = .ok (.iadd, 1) := by decide +kernel
theorem dX10_figure_71 : decode cX10_figure 71 = .ok (.putfield 324, 3) := by decide +kernel
theorem dX10_figure_74 : decode cX10_figure 74 = .ok (.iload_n 1, 1) := by decide +kernel
theorem dX10_figure_75 : decode cX10_figure 75 = .ok (.ireturn, 1) := by decide +kernel
theorem dX10_statement_0 : decode cX10_statement 0 = .ok (.aload_n 0, 1) := by decide +kernel
theorem dX10_statement_1 : decode cX10_statement 1 = .ok (.aload_n 0, 1) := by decide +kernel
theorem dX10_statement_2 : decode cX10_statement 2 = .ok (.getfield 324, 3) := by decide +kernel
theorem dX10_statement_5 : decode cX10_statement 5 = .ok (.invokevirtual 254, 3) := by decide +kernel
theorem dX10_statement_8 : decode cX10_statement 8 = .ok (.istore_n 1, 1) := by decide +kernel
theorem dX10_statement_9 : decode cX10_statement 9 = .ok (.aload_n 0, 1) := by decide +kernel
theorem dX10_statement_10 : decode cX10_statement 10 = .ok (.iload_n 1, 1) := by decide +kernel
theorem dX10_statement_11 : decode cX10_statement 11 = .ok (.bipush 115, 2) := by decide +kernel
theorem dX10_statement_13 : decode cX10_statement 13 = .ok (.if_icmp .eq 19, 3) := by decide +kernel
theorem dX10_statement_16 : decode cX10_statement 16 = .ok (.iload_n 1, 1) := by decide +kernel
theorem dX10_statement_17 : decode cX10_statement 17 = .ok (.bipush 101, 2) := by decide +kernel
theorem dX10_statement_19 : decode cX10_statement 19 = .ok (.if_icmp .eq 13, 3) := by decide +kernel
theorem dX10_statement_22 : decode cX10_statement 22 = .ok (.iload_n 1, 1) := by decide +kernel
theorem dX10_statement_23 : decode cX10_statement 23 = .ok (.bipush 116, 2) := by decide +kernel
theorem dX10_statement_25 : decode cX10_statement 25 = .ok (.if_icmp .eq 7, 3) := by decide +kernel
theorem dX10_statement_28 : decode cX10_statement 28 = .ok (.iconst 1, 1) := by decide +kernel
theorem dX10_statement_29 : decode cX10_statement 29 = .ok (.goto 4, 3) := by decide +kernel
theorem dX10_statement_32 : decode cX10_statement 32 = .ok (.iconst 0, 1) := by decide +kernel
theorem dX10_statement_33 : decode cX10_statement 33 = .ok (.putfield 321, 3) := by decide +kernel
theorem dX10_statement_36 : decode cX10_statement 36 = .ok (.aload_n 0, 1) := by decide +kernel
theorem dX10_statement_37 : decode cX10_statement 37 = .ok (.dup, 1) := by decide +kernel
theorem dX10_statement_38 : decode cX10_statement 38 = .ok (.getfield 324, 3) := by decide +kernel
theorem dX10_statement_41 : decode cX10_statement 41 = .ok (.aload_n 0, 1) := by decide +kernel
theorem dX10_statement_42 : decode cX10_statement 42 = .ok (.getfield 321, 3) := by decide +kernel
theorem dX10_statement_45 : decode cX10_statement 45 = .ok (.ifCond .eq 7, 3) := by decide +kernel
theorem dX10_statement_48 : decode cX10_statement 48 = .ok (.iconst 0, 1) := by decide +kernel
theorem dX10_statement_49 : decode cX10_statement 49 = .ok (.goto 4, 3) := by decide +kernel
theorem dX10_statement_52 : decode cX10_statement 52 = .ok (.iconst 1, 1) := by decide +kernel
theorem dX10_statement_53 : decode cX10_statement 53 = .ok (.iadd, 1) := by decide +kernel
theorem dX10_statement_54 : decode cX10_statement 54 = .ok (.putfield 324, 3) := by decide +kernel
theorem dX10_statement_57 : decode cX10_statement 57 = .ok (.aload_n 0, 1) := by decide +kernel
theorem dX10_statement_58 : decode cX10_statement 58 = .ok (.bipush 32, 2) := by decide +kernel
theorem dX10_statement_60 : decode cX10_statement 60 = .ok (.invokevirtual 327, 3) := by decide +kernel
theorem dX10_statement_63 : decode cX10_statement 63 = .ok (.aload_n 0, 1) := by decide +kernel
theorem dX10_statement_64 : decode cX10_statement 64 = .ok (.invokevirtual 330, 3) := by decide +kernel
theorem dX10_statement_67 : decode cX10_statement 67 = .ok (.istore_n 2, 1) := by decide +kernel
theorem dX10_statement_68 : decode cX10_statement 68 = .ok (.iconst 0, 1) := by decide +kernel
theorem dX10_statement_69 : decode cX10_statement 69 = .ok (.istore_n 3, 1) := by decide +kernel
theorem dX10_statement_70 : decode cX10_statement 70 = .ok (.iload_n 1, 1) := by decide +kernel
theorem dX10_statement_71 : decode cX10_statement 71 = .ok (.bipush 116, 2) := by decide +kernel
theorem dX10_statement_73 : decode cX10_statement 73 = .ok (.if_icmp .ne 14, 3) := by decide +kernel
theorem dX10_statement_76 : decode cX10_statement 76 = .ok (.aload_n 0, 1) := by decide +kernel
theorem dX10_statement_77 : decode cX10_statement 77 = .ok (.bipush 32, 2) := by decide +kernel
theorem dX10_statement_79 : decode cX10_statement 79 = .ok (.invokevirtual 327, 3) := by decide +kernel
theorem dX10_statement_82 : decode cX10_statement 82 = .ok (.aload_n 0, 1) := by decide +kernel
theorem dX10_statement_83 : decode cX10_statement 83 = .ok (.invokevirtual 330, 3) := by decide +kernel
theorem dX10_statement_86 : decode cX10_statement 86 = .ok (.istore_n 3, 1) := by decide +kernel
theorem dX10_statement_87 : decode cX10_statement 87 = .ok (.aload_n 0, 1) := by decide +kernel
theorem dX10_statement_88 : decode cX10_statement 88 = .ok (.bipush 32, 2) := by decide +kernel
theorem dX10_statement_90 : decode cX10_statement 90 = .ok (.invokevirtual 327, 3) := by decide +kernel
theorem dX10_statement_93 : decode cX10_statement 93 = .ok (.aload_n 0, 1) := by decide +kernel
theorem dX10_statement_94 : decode cX10_statement 94 = .ok (.getfield 321, 3) := by decide +kernel
theorem dX10_statement_97 : decode cX10_statement 97 = .ok (.ifCond .ne 20, 3) := by decide +kernel
theorem dX10_statement_100 : decode cX10_statement 100 = .ok (.aload_n 0, 1) := by decide +kernel
theorem dX10_statement_101 : decode cX10_statement 101 = .ok (.aload_n 0, 1) := by decide +kernel
theorem dX10_statement_102 : decode cX10_statement 102 = .ok (.getfield 324, 3) := by decide +kernel
theorem dX10_statement_105 : decode cX10_statement 105 = .ok (.invokevirtual 254, 3) := by decide +kernel
theorem dX10_statement_108 : decode cX10_statement 108 = .ok (.bipush 45, 2) := by decide +kernel
theorem dX10_statement_110 : decode cX10_statement 110 = .ok (.if_icmp .ne 7, 3) := by decide +kernel
theorem dX10_statement_113 : decode cX10_statement 113 = .ok (.iconst 1, 1) := by decide +kernel
theorem dX10_statement_114 : decode cX10_statement 114 = .ok (.goto 4, 3) := by decide +kernel
theorem dX10_statement_117 : decode cX10_statement 117 = .ok (.iconst 0, 1) := by decide +kernel
theorem dX10_statement_118 : decode cX10_statement 118 = .ok (.istore 4, 2) := by decide +kernel
theorem dX10_statement_120 : decode cX10_statement 120 = .ok (.aload_n 0, 1) := by decide +kernel
theorem dX10_statement_121 : decode cX10_statement 121 = .ok (.dup, 1) := by decide +kernel
theorem dX10_statement_122 : decode cX10_statement 122 = .ok (.getfield 324, 3) := by decide +kernel
theorem dX10_statement_125 : decode cX10_statement 125 = .ok (.iload 4, 2) := by decide +kernel
theorem dX10_statement_127 : decode cX10_statement 127 = .ok (.ifCond .eq 7, 3) := by decide +kernel
theorem dX10_statement_130 : decode cX10_statement 130 = .ok (.iconst 1, 1) := by decide +kernel
theorem dX10_statement_131 : decode cX10_statement 131 = .ok (.goto 4, 3) := by decide +kernel
theorem dX10_statement_134 : decode cX10_statement 134 = .ok (.iconst 0, 1) := by decide +kernel
theorem dX10_statement_135 : decode cX10_statement 135 = .ok (.iadd, 1) := by decide +kernel
theorem dX10_statement_136 : decode cX10_statement 136 = .ok (.putfield 324, 3) := by decide +kernel
theorem dX10_statement_139 : decode cX10_statement 139 = .ok (.aload_n 0, 1) := by decide +kernel
theorem dX10_statement_140 : decode cX10_statement 140 = .ok (.invokevirtual 330, 3) := by decide +kernel
theorem dX10_statement_143 : decode cX10_statement 143 = .ok (.istore 5, 2) := by decide +kernel
theorem dX10_statement_145 : decode cX10_statement 145 = .ok (.aload_n 0, 1) := by decide +kernel
theorem dX10_statement_146 : decode cX10_statement 146 = .ok (.getfield 321, 3) := by decide +kernel
theorem dX10_statement_149 : decode cX10_statement 149 = .ok (.ifCond .ne 29, 3) := by decide +kernel
theorem dX10_statement_152 : decode cX10_statement 152 = .ok (.aload_n 0, 1) := by decide +kernel
theorem dX10_statement_153 : decode cX10_statement 153 = .ok (.aload_n 0, 1) := by decide +kernel
theorem dX10_statement_154 : decode cX10_statement 154 = .ok (.getfield 324, 3) := by decide +kernel
theorem dX10_statement_157 : decode cX10_statement 157 = .ok (.invokevirtual 254, 3) := by decide +kernel
theorem dX10_statement_160 : decode cX10_statement 160 = .ok (.invokestatic 257, 3) := by decide +kernel
theorem dX10_statement_163 : decode cX10_statement 163 = .ok (.ifCond .eq 15, 3) := by decide +kernel
theorem dX10_statement_166 : decode cX10_statement 166 = .ok (.bipush 10, 2) := by decide +kernel
theorem dX10_statement_168 : decode cX10_statement 168 = .ok (.iload 5, 2) := by decide +kernel
theorem dX10_statement_170 : decode cX10_statement 170 = .ok (.imul, 1) := by decide +kernel
theorem dX10_statement_171 : decode cX10_statement 171 = .ok (.aload_n 0, 1) := by decide +kernel
theorem dX10_statement_172 : decode cX10_statement 172 = .ok (.invokevirtual 330, 3) := by decide +kernel
theorem dX10_statement_175 : decode cX10_statement 175 = .ok (.iadd, 1) := by decide +kernel
theorem dX10_statement_176 : decode cX10_statement 176 = .ok (.istore 5, 2) := by decide +kernel
theorem dX10_statement_178 : decode cX10_statement 178 = .ok (.aload_n 0, 1) := by decide +kernel
theorem dX10_statement_179 : decode cX10_statement 179 = .ok (.getfield 321, 3) := by decide +kernel
theorem dX10_statement_182 : decode cX10_statement 182 = .ok (.ifCond .ne 65, 3) := by decide +kernel
theorem dX10_statement_185 : decode cX10_statement 185 = .ok (.aload_n 0, 1) := by decide +kernel
theorem dX10_statement_186 : decode cX10_statement 186 = .ok (.getfield 153, 3) := by decide +kernel
theorem dX10_statement_189 : decode cX10_statement 189 = .ok (.aload_n 0, 1) := by decide +kernel
theorem dX10_statement_190 : decode cX10_statement 190 = .ok (.getfield 333, 3) := by decide +kernel
theorem dX10_statement_193 : decode cX10_statement 193 = .ok (.iload_n 1, 1) := by decide +kernel
theorem dX10_statement_194 : decode cX10_statement 194 = .ok (.iastore, 1) := by decide +kernel
theorem dX10_statement_195 : decode cX10_statement 195 = .ok (.aload_n 0, 1) := by decide +kernel
theorem dX10_statement_196 : decode cX10_statement 196 = .ok (.getfield 156, 3) := by decide +kernel
theorem dX10_statement_199 : decode cX10_statement 199 = .ok (.aload_n 0, 1) := by decide +kernel
theorem dX10_statement_200 : decode cX10_statement 200 = .ok (.getfield 333, 3) := by decide +kernel
theorem dX10_statement_203 : decode cX10_statement 203 = .ok (.iload_n 2, 1) := by decide +kernel
theorem dX10_statement_204 : decode cX10_statement 204 = .ok (.iastore, 1) := by decide +kernel
theorem dX10_statement_205 : decode cX10_statement 205 = .ok (.aload_n 0, 1) := by decide +kernel
theorem dX10_statement_206 : decode cX10_statement 206 = .ok (.getfield 159, 3) := by decide +kernel
theorem dX10_statement_209 : decode cX10_statement 209 = .ok (.aload_n 0, 1) := by decide +kernel
theorem dX10_statement_210 : decode cX10_statement 210 = .ok (.getfield 333, 3) := by decide +kernel
theorem dX10_statement_213 : decode cX10_statement 213 = .ok (.iload_n 3, 1) := by decide +kernel
theorem dX10_statement_214 : decode cX10_statement 214 = .ok (.iastore, 1) := by decide +kernel
theorem dX10_statement_215 : decode cX10_statement 215 = .ok (.aload_n 0, 1) := by decide +kernel
theorem dX10_statement_216 : decode cX10_statement 216 = .ok (.getfield 162, 3) := by decide +kernel
theorem dX10_statement_219 : decode cX10_statement 219 = .ok (.aload_n 0, 1) := by decide +kernel
theorem dX10_statement_220 : decode cX10_statement 220 = .ok (.getfield 333, 3) := by decide +kernel
theorem dX10_statement_223 : decode cX10_statement 223 = .ok (.iload 4, 2) := by decide +kernel
theorem dX10_statement_225 : decode cX10_statement 225 = .ok (.ifCond .eq 9, 3) := by decide +kernel
theorem dX10_statement_228 : decode cX10_statement 228 = .ok (.iload 5, 2) := by decide +kernel
theorem dX10_statement_230 : decode cX10_statement 230 = .ok (.ineg, 1) := by decide +kernel
theorem dX10_statement_231 : decode cX10_statement 231 = .ok (.goto 5, 3) := by decide +kernel
theorem dX10_statement_234 : decode cX10_statement 234 = .ok (.iload 5, 2) := by decide +kernel
theorem dX10_statement_236 : decode cX10_statement 236 = .ok (.iastore, 1) := by decide +kernel
theorem dX10_statement_237 : decode cX10_statement 237 = .ok (.aload_n 0, 1) := by decide +kernel
theorem dX10_statement_238 : decode cX10_statement 238 = .ok (.dup, 1) := by decide +kernel
theorem dX10_statement_239 : decode cX10_statement 239 = .ok (.getfield 333, 3) := by decide +kernel
theorem dX10_statement_242 : decode cX10_statement 242 = .ok (.iconst 1, 1) := by decide +kernel
theorem dX10_statement_243 : decode cX10_statement 243 = .ok (.iadd, 1) := by decide +kernel
theorem dX10_statement_244 : decode cX10_statement 244 = .ok (.putfield 333, 3) := by decide +kernel
theorem dX10_statement_247 : decode cX10_statement 247 = .ok (.return_, 1) := by decide +kernel
theorem dX10_tell_0 : decode cX10_tell 0 = .ok (.aload_n 0, 1) := by decide +kernel
theorem dX10_tell_1 : decode cX10_tell 1 = .ok (.iconst 0, 1) := by decide +kernel
theorem dX10_tell_2 : decode cX10_tell 2 = .ok (.putfield 333, 3) := by decide +kernel
theorem dX10_tell_5 : decode cX10_tell 5 = .ok (.aload_n 0, 1) := by decide +kernel
theorem dX10_tell_6 : decode cX10_tell 6 = .ok (.iconst 0, 1) := by decide +kernel
theorem dX10_tell_7 : decode cX10_tell 7 = .ok (.putfield 324, 3) := by decide +kernel
theorem dX10_tell_10 : decode cX10_tell 10 = .ok (.aload_n 0, 1) := by decide +kernel
theorem dX10_tell_11 : decode cX10_tell 11 = .ok (.iconst 0, 1) := by decide +kernel
theorem dX10_tell_12 : decode cX10_tell 12 = .ok (.putfield 321, 3) := by decide +kernel
theorem dX10_tell_15 : decode cX10_tell 15 = .ok (.aload_n 0, 1) := by decide +kernel
theorem dX10_tell_16 : decode cX10_tell 16 = .ok (.invokevirtual 336, 3) := by decide +kernel
theorem dX10_tell_19 : decode cX10_tell 19 = .ok (.aload_n 0, 1) := by decide +kernel
theorem dX10_tell_20 : decode cX10_tell 20 = .ok (.getfield 321, 3) := by decide +kernel
theorem dX10_tell_23 : decode cX10_tell 23 = .ok (.ifCond .ne 34, 3) := by decide +kernel
theorem dX10_tell_26 : decode cX10_tell 26 = .ok (.aload_n 0, 1) := by decide +kernel
theorem dX10_tell_27 : decode cX10_tell 27 = .ok (.getfield 324, 3) := by decide +kernel
theorem dX10_tell_30 : decode cX10_tell 30 = .ok (.aload_n 0, 1) := by decide +kernel
theorem dX10_tell_31 : decode cX10_tell 31 = .ok (.getfield 247, 3) := by decide +kernel
theorem dX10_tell_34 : decode cX10_tell 34 = .ok (.if_icmp .ge 23, 3) := by decide +kernel
theorem dX10_tell_37 : decode cX10_tell 37 = .ok (.aload_n 0, 1) := by decide +kernel
theorem dX10_tell_38 : decode cX10_tell 38 = .ok (.bipush 59, 2) := by decide +kernel
theorem dX10_tell_40 : decode cX10_tell 40 = .ok (.invokevirtual 327, 3) := by decide +kernel
theorem dX10_tell_43 : decode cX10_tell 43 = .ok (.aload_n 0, 1) := by decide +kernel
theorem dX10_tell_44 : decode cX10_tell 44 = .ok (.getfield 321, 3) := by decide +kernel
theorem dX10_tell_47 : decode cX10_tell 47 = .ok (.ifCond .ne (-28), 3) := by decide +kernel
theorem dX10_tell_50 : decode cX10_tell 50 = .ok (.aload_n 0, 1) := by decide +kernel
theorem dX10_tell_51 : decode cX10_tell 51 = .ok (.invokevirtual 336, 3) := by decide +kernel
theorem dX10_tell_54 : decode cX10_tell 54 = .ok (.goto (-35), 3) := by decide +kernel
theorem dX10_tell_57 : decode cX10_tell 57 = .ok (.aload_n 0, 1) := by decide +kernel
theorem dX10_tell_58 : decode cX10_tell 58 = .ok (.iconst 0, 1) := by decide +kernel
theorem dX10_tell_59 : decode cX10_tell 59 = .ok (.putfield 247, 3) := by decide +kernel
theorem dX10_tell_62 : decode cX10_tell 62 = .ok (.aload_n 0, 1) := by decide +kernel
theorem dX10_tell_63 : decode cX10_tell 63 = .ok (.getfield 321, 3) := by decide +kernel
theorem dX10_tell_66 : decode cX10_tell 66 = .ok (.ifCond .eq 11, 3) := by decide +kernel
theorem dX10_tell_69 : decode cX10_tell 69 = .ok (.bipush (-100), 2) := by decide +kernel
theorem dX10_tell_71 : decode cX10_tell 71 = .ok (.aload_n 0, 1) := by decide +kernel
theorem dX10_tell_72 : decode cX10_tell 72 = .ok (.getfield 324, 3) := by decide +kernel
theorem dX10_tell_75 : decode cX10_tell 75 = .ok (.isub, 1) := by decide +kernel
theorem dX10_tell_76 : decode cX10_tell 76 = .ok (.ireturn, 1) := by decide +kernel
theorem dX10_tell_77 : decode cX10_tell 77 = .ok (.iconst 0, 1) := by decide +kernel
theorem dX10_tell_78 : decode cX10_tell 78 = .ok (.istore_n 1, 1) := by decide +kernel
theorem dX10_tell_79 : decode cX10_tell 79 = .ok (.iload_n 1, 1) := by decide +kernel
theorem dX10_tell_80 : decode cX10_tell 80 = .ok (.aload_n 0, 1) := by decide +kernel
theorem dX10_tell_81 : decode cX10_tell 81 = .ok (.getfield 333, 3) := by decide +kernel
theorem dX10_tell_84 : decode cX10_tell 84 = .ok (.if_icmp .ge 88, 3) := by decide +kernel
theorem dX10_tell_87 : decode cX10_tell 87 = .ok (.aload_n 0, 1) := by decide +kernel
theorem dX10_tell_88 : decode cX10_tell 88 = .ok (.getfield 156, 3) := by decide +kernel
theorem dX10_tell_91 : decode cX10_tell 91 = .ok (.iload_n 1, 1) := by decide +kernel
theorem dX10_tell_92 : decode cX10_tell 92 = .ok (.iaload, 1) := by decide +kernel
theorem dX10_tell_93 : decode cX10_tell 93 = .ok (.istore_n 2, 1) := by decide +kernel
theorem dX10_tell_94 : decode cX10_tell 94 = .ok (.aload_n 0, 1) := by decide +kernel
theorem dX10_tell_95 : decode cX10_tell 95 = .ok (.getfield 162, 3) := by decide +kernel
theorem dX10_tell_98 : decode cX10_tell 98 = .ok (.iload_n 1, 1) := by decide +kernel
theorem dX10_tell_99 : decode cX10_tell 99 = .ok (.iaload, 1) := by decide +kernel
theorem dX10_tell_100 : decode cX10_tell 100 = .ok (.istore_n 3, 1) := by decide +kernel
theorem dX10_tell_101 : decode cX10_tell 101 = .ok (.aload_n 0, 1) := by decide +kernel
theorem dX10_tell_102 : decode cX10_tell 102 = .ok (.getfield 153, 3) := by decide +kernel
theorem dX10_tell_105 : decode cX10_tell 105 = .ok (.iload_n 1, 1) := by decide +kernel
theorem dX10_tell_106 : decode cX10_tell 106 = .ok (.iaload, 1) := by decide +kernel
theorem dX10_tell_107 : decode cX10_tell 107 = .ok (.bipush 115, 2) := by decide +kernel
theorem dX10_tell_109 : decode cX10_tell 109 = .ok (.if_icmp .ne 12, 3) := by decide +kernel
theorem dX10_tell_112 : decode cX10_tell 112 = .ok (.aload_n 0, 1) := by decide +kernel
theorem dX10_tell_113 : decode cX10_tell 113 = .ok (.iload_n 2, 1) := by decide +kernel
theorem dX10_tell_114 : decode cX10_tell 114 = .ok (.iload_n 3, 1) := by decide +kernel
theorem dX10_tell_115 : decode cX10_tell 115 = .ok (.invokevirtual 339, 3) := by decide +kernel
theorem dX10_tell_118 : decode cX10_tell 118 = .ok (.goto 35, 3) := by decide +kernel
theorem dX10_tell_121 : decode cX10_tell 121 = .ok (.aload_n 0, 1) := by decide +kernel
theorem dX10_tell_122 : decode cX10_tell 122 = .ok (.getfield 153, 3) := by decide +kernel
theorem dX10_tell_125 : decode cX10_tell 125 = .ok (.iload_n 1, 1) := by decide +kernel
theorem dX10_tell_126 : decode cX10_tell 126 = .ok (.iaload, 1) := by decide +kernel
theorem dX10_tell_127 : decode cX10_tell 127 = .ok (.bipush 101, 2) := by decide +kernel
theorem dX10_tell_129 : decode cX10_tell 129 = .ok (.if_icmp .ne 12, 3) := by decide +kernel
theorem dX10_tell_132 : decode cX10_tell 132 = .ok (.aload_n 0, 1) := by decide +kernel
theorem dX10_tell_133 : decode cX10_tell 133 = .ok (.iload_n 2, 1) := by decide +kernel
theorem dX10_tell_134 : decode cX10_tell 134 = .ok (.iload_n 3, 1) := by decide +kernel
theorem dX10_tell_135 : decode cX10_tell 135 = .ok (.invokevirtual 342, 3) := by decide +kernel
theorem dX10_tell_138 : decode cX10_tell 138 = .ok (.goto 15, 3) := by decide +kernel
theorem dX10_tell_141 : decode cX10_tell 141 = .ok (.aload_n 0, 1) := by decide +kernel
theorem dX10_tell_142 : decode cX10_tell 142 = .ok (.iload_n 2, 1) := by decide +kernel
theorem dX10_tell_143 : decode cX10_tell 143 = .ok (.aload_n 0, 1) := by decide +kernel
theorem dX10_tell_144 : decode cX10_tell 144 = .ok (.getfield 159, 3) := by decide +kernel
theorem dX10_tell_147 : decode cX10_tell 147 = .ok (.iload_n 1, 1) := by decide +kernel
theorem dX10_tell_148 : decode cX10_tell 148 = .ok (.iaload, 1) := by decide +kernel
theorem dX10_tell_149 : decode cX10_tell 149 = .ok (.iload_n 3, 1) := by decide +kernel
theorem dX10_tell_150 : decode cX10_tell 150 = .ok (.invokevirtual 345, 3) := by decide +kernel
theorem dX10_tell_153 : decode cX10_tell 153 = .ok (.istore 4, 2) := by decide +kernel
theorem dX10_tell_155 : decode cX10_tell 155 = .ok (.iload 4, 2) := by decide +kernel
theorem dX10_tell_157 : decode cX10_tell 157 = .ok (.ifCond .ge 9, 3) := by decide +kernel
theorem dX10_tell_160 : decode cX10_tell 160 = .ok (.sipush (-300), 3) := by decide +kernel
theorem dX10_tell_163 : decode cX10_tell 163 = .ok (.iload_n 1, 1) := by decide +kernel
theorem dX10_tell_164 : decode cX10_tell 164 = .ok (.isub, 1) := by decide +kernel
theorem dX10_tell_165 : decode cX10_tell 165 = .ok (.ireturn, 1) := by decide +kernel
theorem dX10_tell_166 : decode cX10_tell 166 = .ok (.iinc 1 1, 3) := by decide +kernel
theorem dX10_tell_169 : decode cX10_tell 169 = .ok (.goto (-90), 3) := by decide +kernel
theorem dX10_tell_172 : decode cX10_tell 172 = .ok (.aload_n 0, 1) := by decide +kernel
theorem dX10_tell_173 : decode cX10_tell 173 = .ok (.getfield 333, 3) := by decide +kernel
theorem dX10_tell_176 : decode cX10_tell 176 = .ok (.ireturn, 1) := by decide +kernel
theorem dX10_isList_0 : decode cX10_isList 0 = .ok (.iload_n 0, 1) := by decide +kernel
theorem dX10_isList_1 : decode cX10_isList 1 = .ok (.i2l, 1) := by decide +kernel
theorem dX10_isList_2 : decode cX10_isList 2 = .ok (.lconst 0, 1) := by decide +kernel
theorem dX10_isList_3 : decode cX10_isList 3 = .ok (.ldc2_w 272, 3) := by decide +kernel
theorem dX10_isList_6 : decode cX10_isList 6 = .ok (.invokestatic 165, 3) := by decide +kernel
theorem dX10_isList_9 : decode cX10_isList 9 = .ok (.ireturn, 1) := by decide +kernel
theorem dX10_list_0 : decode cX10_list 0 = .ok (.iload_n 1, 1) := by decide +kernel
theorem dX10_list_1 : decode cX10_list 1 = .ok (.invokestatic 349, 3) := by decide +kernel
theorem dX10_list_4 : decode cX10_list 4 = .ok (.ifCond .ne 5, 3) := by decide +kernel
theorem dX10_list_7 : decode cX10_list 7 = .ok (.iconst (-1), 1) := by decide +kernel
theorem dX10_list_8 : decode cX10_list 8 = .ok (.ireturn, 1) := by decide +kernel
theorem dX10_list_9 : decode cX10_list 9 = .ok (.iload_n 2, 1) := by decide +kernel
theorem dX10_list_10 : decode cX10_list 10 = .ok (.bipush 20, 2) := by decide +kernel
theorem dX10_list_12 : decode cX10_list 12 = .ok (.if_icmp .le 6, 3) := by decide +kernel
theorem dX10_list_15 : decode cX10_list 15 = .ok (.bipush (-2), 2) := by decide +kernel
theorem dX10_list_17 : decode cX10_list 17 = .ok (.ireturn, 1) := by decide +kernel
theorem dX10_list_18 : decode cX10_list 18 = .ok (.iload_n 2, 1) := by decide +kernel
theorem dX10_list_19 : decode cX10_list 19 = .ok (.iconst (-1), 1) := by decide +kernel
theorem dX10_list_20 : decode cX10_list 20 = .ok (.if_icmp .ge 6, 3) := by decide +kernel
theorem dX10_list_23 : decode cX10_list 23 = .ok (.bipush (-14), 2) := by decide +kernel
theorem dX10_list_25 : decode cX10_list 25 = .ok (.ireturn, 1) := by decide +kernel
theorem dX10_list_26 : decode cX10_list 26 = .ok (.aload_n 0, 1) := by decide +kernel
theorem dX10_list_27 : decode cX10_list 27 = .ok (.getfield 61, 3) := by decide +kernel
theorem dX10_list_30 : decode cX10_list 30 = .ok (.iload_n 1, 1) := by decide +kernel
theorem dX10_list_31 : decode cX10_list 31 = .ok (.iload_n 2, 1) := by decide +kernel
theorem dX10_list_32 : decode cX10_list 32 = .ok (.iastore, 1) := by decide +kernel
theorem dX10_list_33 : decode cX10_list 33 = .ok (.iconst 0, 1) := by decide +kernel
theorem dX10_list_34 : decode cX10_list 34 = .ok (.istore_n 3, 1) := by decide +kernel
theorem dX10_list_35 : decode cX10_list 35 = .ok (.iload_n 3, 1) := by decide +kernel
theorem dX10_list_36 : decode cX10_list 36 = .ok (.iload_n 2, 1) := by decide +kernel
theorem dX10_list_37 : decode cX10_list 37 = .ok (.if_icmp .ge 21, 3) := by decide +kernel
theorem dX10_list_40 : decode cX10_list 40 = .ok (.aload_n 0, 1) := by decide +kernel
theorem dX10_list_41 : decode cX10_list 41 = .ok (.getfield 64, 3) := by decide +kernel
theorem dX10_list_44 : decode cX10_list 44 = .ok (.bipush 20, 2) := by decide +kernel
theorem dX10_list_46 : decode cX10_list 46 = .ok (.iload_n 1, 1) := by decide +kernel
theorem dX10_list_47 : decode cX10_list 47 = .ok (.imul, 1) := by decide +kernel
theorem dX10_list_48 : decode cX10_list 48 = .ok (.iload_n 3, 1) := by decide +kernel
theorem dX10_list_49 : decode cX10_list 49 = .ok (.iadd, 1) := by decide +kernel
theorem dX10_list_50 : decode cX10_list 50 = .ok (.lconst 0, 1) := by decide +kernel
theorem dX10_list_51 : decode cX10_list 51 = .ok (.lastore, 1) := by decide +kernel
theorem dX10_list_52 : decode cX10_list 52 = .ok (.iinc 3 1, 3) := by decide +kernel
theorem dX10_list_55 : decode cX10_list 55 = .ok (.goto (-20), 3) := by decide +kernel
theorem dX10_list_58 : decode cX10_list 58 = .ok (.iconst 1, 1) := by decide +kernel
theorem dX10_list_59 : decode cX10_list 59 = .ok (.ireturn, 1) := by decide +kernel
theorem dX10_lay_0 : decode cX10_lay 0 = .ok (.iload_n 1, 1) := by decide +kernel
theorem dX10_lay_1 : decode cX10_lay 1 = .ok (.invokestatic 349, 3) := by decide +kernel
theorem dX10_lay_4 : decode cX10_lay 4 = .ok (.ifCond .ne 5, 3) := by decide +kernel
theorem dX10_lay_7 : decode cX10_lay 7 = .ok (.iconst (-1), 1) := by decide +kernel
theorem dX10_lay_8 : decode cX10_lay 8 = .ok (.ireturn, 1) := by decide +kernel
theorem dX10_lay_9 : decode cX10_lay 9 = .ok (.aload_n 0, 1) := by decide +kernel
theorem dX10_lay_10 : decode cX10_lay 10 = .ok (.getfield 61, 3) := by decide +kernel
theorem dX10_lay_13 : decode cX10_lay 13 = .ok (.iload_n 1, 1) := by decide +kernel
theorem dX10_lay_14 : decode cX10_lay 14 = .ok (.iaload, 1) := by decide +kernel
theorem dX10_lay_15 : decode cX10_lay 15 = .ok (.ifCond .ge 6, 3) := by decide +kernel
theorem dX10_lay_18 : decode cX10_lay 18 = .ok (.bipush (-11), 2) := by decide +kernel
theorem dX10_lay_20 : decode cX10_lay 20 = .ok (.ireturn, 1) := by decide +kernel
theorem dX10_lay_21 : decode cX10_lay 21 = .ok (.iload_n 2, 1) := by decide +kernel
theorem dX10_lay_22 : decode cX10_lay 22 = .ok (.i2l, 1) := by decide +kernel
theorem dX10_lay_23 : decode cX10_lay 23 = .ok (.lconst 0, 1) := by decide +kernel
theorem dX10_lay_24 : decode cX10_lay 24 = .ok (.aload_n 0, 1) := by decide +kernel
theorem dX10_lay_25 : decode cX10_lay 25 = .ok (.getfield 61, 3) := by decide +kernel
theorem dX10_lay_28 : decode cX10_lay 28 = .ok (.iload_n 1, 1) := by decide +kernel
theorem dX10_lay_29 : decode cX10_lay 29 = .ok (.iaload, 1) := by decide +kernel
theorem dX10_lay_30 : decode cX10_lay 30 = .ok (.iconst 1, 1) := by decide +kernel
theorem dX10_lay_31 : decode cX10_lay 31 = .ok (.isub, 1) := by decide +kernel
theorem dX10_lay_32 : decode cX10_lay 32 = .ok (.i2l, 1) := by decide +kernel
theorem dX10_lay_33 : decode cX10_lay 33 = .ok (.invokestatic 165, 3) := by decide +kernel
theorem dX10_lay_36 : decode cX10_lay 36 = .ok (.ifCond .ne 6, 3) := by decide +kernel
theorem dX10_lay_39 : decode cX10_lay 39 = .ok (.bipush (-13), 2) := by decide +kernel
theorem dX10_lay_41 : decode cX10_lay 41 = .ok (.ireturn, 1) := by decide +kernel
theorem dX10_lay_42 : decode cX10_lay 42 = .ok (.aload_n 0, 1) := by decide +kernel
theorem dX10_lay_43 : decode cX10_lay 43 = .ok (.getfield 64, 3) := by decide +kernel
theorem dX10_lay_46 : decode cX10_lay 46 = .ok (.bipush 20, 2) := by decide +kernel
theorem dX10_lay_48 : decode cX10_lay 48 = .ok (.iload_n 1, 1) := by decide +kernel
theorem dX10_lay_49 : decode cX10_lay 49 = .ok (.imul, 1) := by decide +kernel
theorem dX10_lay_50 : decode cX10_lay 50 = .ok (.iload_n 2, 1) := by decide +kernel
theorem dX10_lay_51 : decode cX10_lay 51 = .ok (.iadd, 1) := by decide +kernel
theorem dX10_lay_52 : decode cX10_lay 52 = .ok (.lload_n 3, 1) := by decide +kernel
theorem dX10_lay_53 : decode cX10_lay 53 = .ok (.lastore, 1) := by decide +kernel
theorem dX10_lay_54 : decode cX10_lay 54 = .ok (.iconst 1, 1) := by decide +kernel
theorem dX10_lay_55 : decode cX10_lay 55 = .ok (.ireturn, 1) := by decide +kernel
theorem dX10_get_0 : decode cX10_get 0 = .ok (.iload_n 1, 1) := by decide +kernel
theorem dX10_get_1 : decode cX10_get 1 = .ok (.invokestatic 349, 3) := by decide +kernel
theorem dX10_get_4 : decode cX10_get 4 = .ok (.ifCond .eq 35, 3) := by decide +kernel
theorem dX10_get_7 : decode cX10_get 7 = .ok (.iload_n 2, 1) := by decide +kernel
theorem dX10_get_8 : decode cX10_get 8 = .ok (.i2l, 1) := by decide +kernel
theorem dX10_get_9 : decode cX10_get 9 = .ok (.lconst 0, 1) := by decide +kernel
theorem dX10_get_10 : decode cX10_get 10 = .ok (.aload_n 0, 1) := by decide +kernel
theorem dX10_get_11 : decode cX10_get 11 = .ok (.getfield 61, 3) := by decide +kernel
theorem dX10_get_14 : decode cX10_get 14 = .ok (.iload_n 1, 1) := by decide +kernel
theorem dX10_get_15 : decode cX10_get 15 = .ok (.iaload, 1) := by decide +kernel
theorem dX10_get_16 : decode cX10_get 16 = .ok (.iconst 1, 1) := by decide +kernel
theorem dX10_get_17 : decode cX10_get 17 = .ok (.isub, 1) := by decide +kernel
theorem dX10_get_18 : decode cX10_get 18 = .ok (.i2l, 1) := by decide +kernel
theorem dX10_get_19 : decode cX10_get 19 = .ok (.invokestatic 165, 3) := by decide +kernel
theorem dX10_get_22 : decode cX10_get 22 = .ok (.ifCond .eq 17, 3) := by decide +kernel
theorem dX10_get_25 : decode cX10_get 25 = .ok (.aload_n 0, 1) := by decide +kernel
theorem dX10_get_26 : decode cX10_get 26 = .ok (.getfield 64, 3) := by decide +kernel
theorem dX10_get_29 : decode cX10_get 29 = .ok (.bipush 20, 2) := by decide +kernel
theorem dX10_get_31 : decode cX10_get 31 = .ok (.iload_n 1, 1) := by decide +kernel
theorem dX10_get_32 : decode cX10_get 32 = .ok (.imul, 1) := by decide +kernel
theorem dX10_get_33 : decode cX10_get 33 = .ok (.iload_n 2, 1) := by decide +kernel
theorem dX10_get_34 : decode cX10_get 34 = .ok (.iadd, 1) := by decide +kernel
theorem dX10_get_35 : decode cX10_get 35 = .ok (.laload, 1) := by decide +kernel
theorem dX10_get_36 : decode cX10_get 36 = .ok (.goto 6, 3) := by decide +kernel
theorem dX10_get_39 : decode cX10_get 39 = .ok (.ldc2_w 245, 3) := by decide +kernel
theorem dX10_get_42 : decode cX10_get 42 = .ok (.lreturn, 1) := by decide +kernel
theorem dX10_film_0 : decode cX10_film 0 = .ok (.iload_n 1, 1) := by decide +kernel
theorem dX10_film_1 : decode cX10_film 1 = .ok (.invokestatic 349, 3) := by decide +kernel
theorem dX10_film_4 : decode cX10_film 4 = .ok (.ifCond .eq 10, 3) := by decide +kernel
theorem dX10_film_7 : decode cX10_film 7 = .ok (.iload_n 2, 1) := by decide +kernel
theorem dX10_film_8 : decode cX10_film 8 = .ok (.invokestatic 274, 3) := by decide +kernel
theorem dX10_film_11 : decode cX10_film 11 = .ok (.ifCond .ne 5, 3) := by decide +kernel
theorem dX10_film_14 : decode cX10_film 14 = .ok (.iconst (-1), 1) := by decide +kernel
theorem dX10_film_15 : decode cX10_film 15 = .ok (.ireturn, 1) := by decide +kernel
theorem dX10_film_16 : decode cX10_film 16 = .ok (.aload_n 0, 1) := by decide +kernel
theorem dX10_film_17 : decode cX10_film 17 = .ok (.getfield 52, 3) := by decide +kernel
theorem dX10_film_20 : decode cX10_film 20 = .ok (.iload_n 2, 1) := by decide +kernel
theorem dX10_film_21 : decode cX10_film 21 = .ok (.iaload, 1) := by decide +kernel
theorem dX10_film_22 : decode cX10_film 22 = .ok (.ifCond .ne 6, 3) := by decide +kernel
theorem dX10_film_25 : decode cX10_film 25 = .ok (.bipush (-3), 2) := by decide +kernel
theorem dX10_film_27 : decode cX10_film 27 = .ok (.ireturn, 1) := by decide +kernel
theorem dX10_film_28 : decode cX10_film 28 = .ok (.aload_n 0, 1) := by decide +kernel
theorem dX10_film_29 : decode cX10_film 29 = .ok (.iload_n 2, 1) := by decide +kernel
theorem dX10_film_30 : decode cX10_film 30 = .ok (.invokevirtual 301, 3) := by decide +kernel
theorem dX10_film_33 : decode cX10_film 33 = .ok (.iconst 0, 1) := by decide +kernel
theorem dX10_film_34 : decode cX10_film 34 = .ok (.istore_n 3, 1) := by decide +kernel
theorem dX10_film_35 : decode cX10_film 35 = .ok (.iconst 0, 1) := by decide +kernel
theorem dX10_film_36 : decode cX10_film 36 = .ok (.istore 4, 2) := by decide +kernel
theorem dX10_film_38 : decode cX10_film 38 = .ok (.iload 4, 2) := by decide +kernel
theorem dX10_film_40 : decode cX10_film 40 = .ok (.aload_n 0, 1) := by decide +kernel
theorem dX10_film_41 : decode cX10_film 41 = .ok (.getfield 208, 3) := by decide +kernel
theorem dX10_film_44 : decode cX10_film 44 = .ok (.if_icmp .ge 42, 3) := by decide +kernel
theorem dX10_film_47 : decode cX10_film 47 = .ok (.iload_n 3, 1) := by decide +kernel
theorem dX10_film_48 : decode cX10_film 48 = .ok (.bipush 20, 2) := by decide +kernel
theorem dX10_film_50 : decode cX10_film 50 = .ok (.if_icmp .ge 36, 3) := by decide +kernel
theorem dX10_film_53 : decode cX10_film 53 = .ok (.aload_n 0, 1) := by decide +kernel
theorem dX10_film_54 : decode cX10_film 54 = .ok (.getfield 141, 3) := by decide +kernel
theorem dX10_film_57 : decode cX10_film 57 = .ok (.iload 4, 2) := by decide +kernel
theorem dX10_film_59 : decode cX10_film 59 = .ok (.baload, 1) := by decide +kernel
theorem dX10_film_60 : decode cX10_film 60 = .ok (.ifCond .eq 20, 3) := by decide +kernel
theorem dX10_film_63 : decode cX10_film 63 = .ok (.aload_n 0, 1) := by decide +kernel
theorem dX10_film_64 : decode cX10_film 64 = .ok (.getfield 64, 3) := by decide +kernel
theorem dX10_film_67 : decode cX10_film 67 = .ok (.bipush 20, 2) := by decide +kernel
theorem dX10_film_69 : decode cX10_film 69 = .ok (.iload_n 1, 1) := by decide +kernel
theorem dX10_film_70 : decode cX10_film 70 = .ok (.imul, 1) := by decide +kernel
theorem dX10_film_71 : decode cX10_film 71 = .ok (.iload_n 3, 1) := by decide +kernel
theorem dX10_film_72 : decode cX10_film 72 = .ok (.iadd, 1) := by decide +kernel
theorem dX10_film_73 : decode cX10_film 73 = .ok (.iload 4, 2) := by decide +kernel
theorem dX10_film_75 : decode cX10_film 75 = .ok (.i2l, 1) := by decide +kernel
theorem dX10_film_76 : decode cX10_film 76 = .ok (.lastore, 1) := by decide +kernel
theorem dX10_film_77 : decode cX10_film 77 = .ok (.iinc 3 1, 3) := by decide +kernel
theorem dX10_film_80 : decode cX10_film 80 = .ok (.iinc 4 1, 3) := by decide +kernel
theorem dX10_film_83 : decode cX10_film 83 = .ok (.goto (-45), 3) := by decide +kernel
theorem dX10_film_86 : decode cX10_film 86 = .ok (.aload_n 0, 1) := by decide +kernel
theorem dX10_film_87 : decode cX10_film 87 = .ok (.getfield 61, 3) := by decide +kernel
theorem dX10_film_90 : decode cX10_film 90 = .ok (.iload_n 1, 1) := by decide +kernel
theorem dX10_film_91 : decode cX10_film 91 = .ok (.iload_n 3, 1) := by decide +kernel
theorem dX10_film_92 : decode cX10_film 92 = .ok (.iastore, 1) := by decide +kernel
theorem dX10_film_93 : decode cX10_film 93 = .ok (.iload_n 3, 1) := by decide +kernel
theorem dX10_film_94 : decode cX10_film 94 = .ok (.ireturn, 1) := by decide +kernel
theorem dX10_judge_0 : decode cX10_judge 0 = .ok (.iload_n 1, 1) := by decide +kernel
theorem dX10_judge_1 : decode cX10_judge 1 = .ok (.invokestatic 349, 3) := by decide +kernel
theorem dX10_judge_4 : decode cX10_judge 4 = .ok (.ifCond .eq 10, 3) := by decide +kernel
theorem dX10_judge_7 : decode cX10_judge 7 = .ok (.iload_n 2, 1) := by decide +kernel
theorem dX10_judge_8 : decode cX10_judge 8 = .ok (.invokestatic 274, 3) := by decide +kernel
theorem dX10_judge_11 : decode cX10_judge 11 = .ok (.ifCond .ne 5, 3) := by decide +kernel
theorem dX10_judge_14 : decode cX10_judge 14 = .ok (.iconst (-1), 1) := by decide +kernel
theorem dX10_judge_15 : decode cX10_judge 15 = .ok (.ireturn, 1) := by decide +kernel
theorem dX10_judge_16 : decode cX10_judge 16 = .ok (.aload_n 0, 1) := by decide +kernel
theorem dX10_judge_17 : decode cX10_judge 17 = .ok (.getfield 61, 3) := by decide +kernel
theorem dX10_judge_20 : decode cX10_judge 20 = .ok (.iload_n 1, 1) := by decide +kernel
theorem dX10_judge_21 : decode cX10_judge 21 = .ok (.iaload, 1) := by decide +kernel
theorem dX10_judge_22 : decode cX10_judge 22 = .ok (.ifCond .ge 6, 3) := by decide +kernel
theorem dX10_judge_25 : decode cX10_judge 25 = .ok (.bipush (-11), 2) := by decide +kernel
theorem dX10_judge_27 : decode cX10_judge 27 = .ok (.ireturn, 1) := by decide +kernel
theorem dX10_judge_28 : decode cX10_judge 28 = .ok (.aload_n 0, 1) := by decide +kernel
theorem dX10_judge_29 : decode cX10_judge 29 = .ok (.getfield 52, 3) := by decide +kernel
theorem dX10_judge_32 : decode cX10_judge 32 = .ok (.iload_n 2, 1) := by decide +kernel
theorem dX10_judge_33 : decode cX10_judge 33 = .ok (.iaload, 1) := by decide +kernel
theorem dX10_judge_34 : decode cX10_judge 34 = .ok (.ifCond .ne 6, 3) := by decide +kernel
theorem dX10_judge_37 : decode cX10_judge 37 = .ok (.bipush (-3), 2) := by decide +kernel
theorem dX10_judge_39 : decode cX10_judge 39 = .ok (.ireturn, 1) := by decide +kernel
theorem dX10_judge_40 : decode cX10_judge 40 = .ok (.aload_n 0, 1) := by decide +kernel
theorem dX10_judge_41 : decode cX10_judge 41 = .ok (.iload_n 2, 1) := by decide +kernel
theorem dX10_judge_42 : decode cX10_judge 42 = .ok (.invokevirtual 301, 3) := by decide +kernel
theorem dX10_judge_45 : decode cX10_judge 45 = .ok (.iconst (-1), 1) := by decide +kernel
theorem dX10_judge_46 : decode cX10_judge 46 = .ok (.istore_n 3, 1) := by decide +kernel
theorem dX10_judge_47 : decode cX10_judge 47 = .ok (.iconst 0, 1) := by decide +kernel
theorem dX10_judge_48 : decode cX10_judge 48 = .ok (.istore 4, 2) := by decide +kernel
theorem dX10_judge_50 : decode cX10_judge 50 = .ok (.iload 4, 2) := by decide +kernel
theorem dX10_judge_52 : decode cX10_judge 52 = .ok (.aload_n 0, 1) := by decide +kernel
theorem dX10_judge_53 : decode cX10_judge 53 = .ok (.getfield 61, 3) := by decide +kernel
theorem dX10_judge_56 : decode cX10_judge 56 = .ok (.iload_n 1, 1) := by decide +kernel
theorem dX10_judge_57 : decode cX10_judge 57 = .ok (.iaload, 1) := by decide +kernel
theorem dX10_judge_58 : decode cX10_judge 58 = .ok (.if_icmp .ge 64, 3) := by decide +kernel
theorem dX10_judge_61 : decode cX10_judge 61 = .ok (.iinc 3 1, 3) := by decide +kernel
theorem dX10_judge_64 : decode cX10_judge 64 = .ok (.iload_n 3, 1) := by decide +kernel
theorem dX10_judge_65 : decode cX10_judge 65 = .ok (.aload_n 0, 1) := by decide +kernel
theorem dX10_judge_66 : decode cX10_judge 66 = .ok (.getfield 208, 3) := by decide +kernel
theorem dX10_judge_69 : decode cX10_judge 69 = .ok (.if_icmp .ge 18, 3) := by decide +kernel
theorem dX10_judge_72 : decode cX10_judge 72 = .ok (.aload_n 0, 1) := by decide +kernel
theorem dX10_judge_73 : decode cX10_judge 73 = .ok (.getfield 141, 3) := by decide +kernel
theorem dX10_judge_76 : decode cX10_judge 76 = .ok (.iload_n 3, 1) := by decide +kernel
theorem dX10_judge_77 : decode cX10_judge 77 = .ok (.baload, 1) := by decide +kernel
theorem dX10_judge_78 : decode cX10_judge 78 = .ok (.ifCond .ne 9, 3) := by decide +kernel
theorem dX10_judge_81 : decode cX10_judge 81 = .ok (.iinc 3 1, 3) := by decide +kernel
theorem dX10_judge_84 : decode cX10_judge 84 = .ok (.goto (-20), 3) := by decide +kernel
theorem dX10_judge_87 : decode cX10_judge 87 = .ok (.iload_n 3, 1) := by decide +kernel
theorem dX10_judge_88 : decode cX10_judge 88 = .ok (.aload_n 0, 1) := by decide +kernel
theorem dX10_judge_89 : decode cX10_judge 89 = .ok (.getfield 208, 3) := by decide +kernel
theorem dX10_judge_92 : decode cX10_judge 92 = .ok (.if_icmp .ge 21, 3) := by decide +kernel
theorem dX10_judge_95 : decode cX10_judge 95 = .ok (.aload_n 0, 1) := by decide +kernel
theorem dX10_judge_96 : decode cX10_judge 96 = .ok (.getfield 64, 3) := by decide +kernel
theorem dX10_judge_99 : decode cX10_judge 99 = .ok (.bipush 20, 2) := by decide +kernel
theorem dX10_judge_101 : decode cX10_judge 101 = .ok (.iload_n 1, 1) := by decide +kernel
theorem dX10_judge_102 : decode cX10_judge 102 = .ok (.imul, 1) := by decide +kernel
theorem dX10_judge_103 : decode cX10_judge 103 = .ok (.iload 4, 2) := by decide +kernel
theorem dX10_judge_105 : decode cX10_judge 105 = .ok (.iadd, 1) := by decide +kernel
theorem dX10_judge_106 : decode cX10_judge 106 = .ok (.laload, 1) := by decide +kernel
theorem dX10_judge_107 : decode cX10_judge 107 = .ok (.iload_n 3, 1) := by decide +kernel
theorem dX10_judge_108 : decode cX10_judge 108 = .ok (.i2l, 1) := by decide +kernel
theorem dX10_judge_109 : decode cX10_judge 109 = .ok (.lcmp, 1) := by decide +kernel
theorem dX10_judge_110 : decode cX10_judge 110 = .ok (.ifCond .eq 6, 3) := by decide +kernel
theorem dX10_judge_113 : decode cX10_judge 113 = .ok (.iload 4, 2) := by decide +kernel
theorem dX10_judge_115 : decode cX10_judge 115 = .ok (.ireturn, 1) := by decide +kernel
theorem dX10_judge_116 : decode cX10_judge 116 = .ok (.iinc 4 1, 3) := by decide +kernel
theorem dX10_judge_119 : decode cX10_judge 119 = .ok (.goto (-69), 3) := by decide +kernel
theorem dX10_judge_122 : decode cX10_judge 122 = .ok (.bipush 100, 2) := by decide +kernel
theorem dX10_judge_124 : decode cX10_judge 124 = .ok (.aload_n 0, 1) := by decide +kernel
theorem dX10_judge_125 : decode cX10_judge 125 = .ok (.getfield 61, 3) := by decide +kernel
theorem dX10_judge_128 : decode cX10_judge 128 = .ok (.iload_n 1, 1) := by decide +kernel
theorem dX10_judge_129 : decode cX10_judge 129 = .ok (.iaload, 1) := by decide +kernel
theorem dX10_judge_130 : decode cX10_judge 130 = .ok (.iadd, 1) := by decide +kernel
theorem dX10_judge_131 : decode cX10_judge 131 = .ok (.ireturn, 1) := by decide +kernel
theorem dX10_copyRow_0 : decode cX10_copyRow 0 = .ok (.iconst 0, 1) := by decide +kernel
theorem dX10_copyRow_1 : decode cX10_copyRow 1 = .ok (.istore_n 2, 1) := by decide +kernel
theorem dX10_copyRow_2 : decode cX10_copyRow 2 = .ok (.iload_n 2, 1) := by decide +kernel
theorem dX10_copyRow_3 : decode cX10_copyRow 3 = .ok (.aload_n 0, 1) := by decide +kernel
theorem dX10_copyRow_4 : decode cX10_copyRow 4 = .ok (.arraylength, 1) := by decide +kernel
theorem dX10_copyRow_5 : decode cX10_copyRow 5 = .ok (.if_icmp .ge 15, 3) := by decide +kernel
theorem dX10_copyRow_8 : decode cX10_copyRow 8 = .ok (.aload_n 1, 1) := by decide +kernel
theorem dX10_copyRow_9 : decode cX10_copyRow 9 = .ok (.iload_n 2, 1) := by decide +kernel
theorem dX10_copyRow_10 : decode cX10_copyRow 10 = .ok (.aload_n 0, 1) := by decide +kernel
theorem dX10_copyRow_11 : decode cX10_copyRow 11 = .ok (.iload_n 2, 1) := by decide +kernel
theorem dX10_copyRow_12 : decode cX10_copyRow 12 = .ok (.iaload, 1) := by decide +kernel
theorem dX10_copyRow_13 : decode cX10_copyRow 13 = .ok (.iastore, 1) := by decide +kernel
theorem dX10_copyRow_14 : decode cX10_copyRow 14 = .ok (.iinc 2 1, 3) := by decide +kernel
theorem dX10_copyRow_17 : decode cX10_copyRow 17 = .ok (.goto (-15), 3) := by decide +kernel
theorem dX10_copyRow_20 : decode cX10_copyRow 20 = .ok (.return_, 1) := by decide +kernel
theorem dX10_image_0 : decode cX10_image 0 = .ok (.aload_n 0, 1) := by decide +kernel
theorem dX10_image_1 : decode cX10_image 1 = .ok (.iconst 1, 1) := by decide +kernel
theorem dX10_image_2 : decode cX10_image 2 = .ok (.putfield 352, 3) := by decide +kernel
theorem dX10_image_5 : decode cX10_image 5 = .ok (.aload_n 0, 1) := by decide +kernel
theorem dX10_image_6 : decode cX10_image 6 = .ok (.aload_n 0, 1) := by decide +kernel
theorem dX10_image_7 : decode cX10_image 7 = .ok (.getfield 9, 3) := by decide +kernel
theorem dX10_image_10 : decode cX10_image 10 = .ok (.putfield 355, 3) := by decide +kernel
theorem dX10_image_13 : decode cX10_image 13 = .ok (.aload_n 0, 1) := by decide +kernel
theorem dX10_image_14 : decode cX10_image 14 = .ok (.aload_n 0, 1) := by decide +kernel
theorem dX10_image_15 : decode cX10_image 15 = .ok (.getfield 175, 3) := by decide +kernel
theorem dX10_image_18 : decode cX10_image 18 = .ok (.putfield 358, 3) := by decide +kernel
theorem dX10_image_21 : decode cX10_image 21 = .ok (.aload_n 0, 1) := by decide +kernel
theorem dX10_image_22 : decode cX10_image 22 = .ok (.aload_n 0, 1) := by decide +kernel
theorem dX10_image_23 : decode cX10_image 23 = .ok (.getfield 178, 3) := by decide +kernel
theorem dX10_image_26 : decode cX10_image 26 = .ok (.putfield 361, 3) := by decide +kernel
theorem dX10_image_29 : decode cX10_image 29 = .ok (.aload_n 0, 1) := by decide +kernel
theorem dX10_image_30 : decode cX10_image 30 = .ok (.getfield 15, 3) := by decide +kernel
theorem dX10_image_33 : decode cX10_image 33 = .ok (.aload_n 0, 1) := by decide +kernel
theorem dX10_image_34 : decode cX10_image 34 = .ok (.getfield 68, 3) := by decide +kernel
theorem dX10_image_37 : decode cX10_image 37 = .ok (.invokestatic 364, 3) := by decide +kernel
theorem dX10_image_40 : decode cX10_image 40 = .ok (.aload_n 0, 1) := by decide +kernel
theorem dX10_image_41 : decode cX10_image 41 = .ok (.getfield 19, 3) := by decide +kernel
theorem dX10_image_44 : decode cX10_image 44 = .ok (.aload_n 0, 1) := by decide +kernel
theorem dX10_image_45 : decode cX10_image 45 = .ok (.getfield 71, 3) := by decide +kernel
theorem dX10_image_48 : decode cX10_image 48 = .ok (.invokestatic 364, 3) := by decide +kernel
theorem dX10_image_51 : decode cX10_image 51 = .ok (.aload_n 0, 1) := by decide +kernel
theorem dX10_image_52 : decode cX10_image 52 = .ok (.getfield 22, 3) := by decide +kernel
theorem dX10_image_55 : decode cX10_image 55 = .ok (.aload_n 0, 1) := by decide +kernel
theorem dX10_image_56 : decode cX10_image 56 = .ok (.getfield 74, 3) := by decide +kernel
theorem dX10_image_59 : decode cX10_image 59 = .ok (.invokestatic 364, 3) := by decide +kernel
theorem dX10_image_62 : decode cX10_image 62 = .ok (.aload_n 0, 1) := by decide +kernel
theorem dX10_image_63 : decode cX10_image 63 = .ok (.getfield 25, 3) := by decide +kernel
theorem dX10_image_66 : decode cX10_image 66 = .ok (.aload_n 0, 1) := by decide +kernel
theorem dX10_image_67 : decode cX10_image 67 = .ok (.getfield 77, 3) := by decide +kernel
theorem dX10_image_70 : decode cX10_image 70 = .ok (.invokestatic 364, 3) := by decide +kernel
theorem dX10_image_73 : decode cX10_image 73 = .ok (.aload_n 0, 1) := by decide +kernel
theorem dX10_image_74 : decode cX10_image 74 = .ok (.getfield 28, 3) := by decide +kernel
theorem dX10_image_77 : decode cX10_image 77 = .ok (.aload_n 0, 1) := by decide +kernel
theorem dX10_image_78 : decode cX10_image 78 = .ok (.getfield 80, 3) := by decide +kernel
theorem dX10_image_81 : decode cX10_image 81 = .ok (.invokestatic 364, 3) := by decide +kernel
theorem dX10_image_84 : decode cX10_image 84 = .ok (.aload_n 0, 1) := by decide +kernel
theorem dX10_image_85 : decode cX10_image 85 = .ok (.getfield 31, 3) := by decide +kernel
theorem dX10_image_88 : decode cX10_image 88 = .ok (.aload_n 0, 1) := by decide +kernel
theorem dX10_image_89 : decode cX10_image 89 = .ok (.getfield 83, 3) := by decide +kernel
theorem dX10_image_92 : decode cX10_image 92 = .ok (.invokestatic 364, 3) := by decide +kernel
theorem dX10_image_95 : decode cX10_image 95 = .ok (.aload_n 0, 1) := by decide +kernel
theorem dX10_image_96 : decode cX10_image 96 = .ok (.getfield 34, 3) := by decide +kernel
theorem dX10_image_99 : decode cX10_image 99 = .ok (.aload_n 0, 1) := by decide +kernel
theorem dX10_image_100 : decode cX10_image 100 = .ok (.getfield 86, 3) := by decide +kernel
theorem dX10_image_103 : decode cX10_image 103 = .ok (.invokestatic 364, 3) := by decide +kernel
theorem dX10_image_106 : decode cX10_image 106 = .ok (.aload_n 0, 1) := by decide +kernel
theorem dX10_image_107 : decode cX10_image 107 = .ok (.getfield 37, 3) := by decide +kernel
theorem dX10_image_110 : decode cX10_image 110 = .ok (.aload_n 0, 1) := by decide +kernel
theorem dX10_image_111 : decode cX10_image 111 = .ok (.getfield 89, 3) := by decide +kernel
theorem dX10_image_114 : decode cX10_image 114 = .ok (.invokestatic 364, 3) := by decide +kernel
theorem dX10_image_117 : decode cX10_image 117 = .ok (.aload_n 0, 1) := by decide +kernel
theorem dX10_image_118 : decode cX10_image 118 = .ok (.getfield 40, 3) := by decide +kernel
theorem dX10_image_121 : decode cX10_image 121 = .ok (.aload_n 0, 1) := by decide +kernel
theorem dX10_image_122 : decode cX10_image 122 = .ok (.getfield 92, 3) := by decide +kernel
theorem dX10_image_125 : decode cX10_image 125 = .ok (.invokestatic 364, 3) := by decide +kernel
theorem dX10_image_128 : decode cX10_image 128 = .ok (.aload_n 0, 1) := by decide +kernel
theorem dX10_image_129 : decode cX10_image 129 = .ok (.getfield 43, 3) := by decide +kernel
theorem dX10_image_132 : decode cX10_image 132 = .ok (.aload_n 0, 1) := by decide +kernel
theorem dX10_image_133 : decode cX10_image 133 = .ok (.getfield 95, 3) := by decide +kernel
theorem dX10_image_136 : decode cX10_image 136 = .ok (.invokestatic 364, 3) := by decide +kernel
theorem dX10_image_139 : decode cX10_image 139 = .ok (.aload_n 0, 1) := by decide +kernel
theorem dX10_image_140 : decode cX10_image 140 = .ok (.getfield 46, 3) := by decide +kernel
theorem dX10_image_143 : decode cX10_image 143 = .ok (.aload_n 0, 1) := by decide +kernel
theorem dX10_image_144 : decode cX10_image 144 = .ok (.getfield 98, 3) := by decide +kernel
theorem dX10_image_147 : decode cX10_image 147 = .ok (.invokestatic 364, 3) := by decide +kernel
theorem dX10_image_150 : decode cX10_image 150 = .ok (.aload_n 0, 1) := by decide +kernel
theorem dX10_image_151 : decode cX10_image 151 = .ok (.getfield 49, 3) := by decide +kernel
theorem dX10_image_154 : decode cX10_image 154 = .ok (.aload_n 0, 1) := by decide +kernel
theorem dX10_image_155 : decode cX10_image 155 = .ok (.getfield 101, 3) := by decide +kernel
theorem dX10_image_158 : decode cX10_image 158 = .ok (.invokestatic 364, 3) := by decide +kernel
theorem dX10_image_161 : decode cX10_image 161 = .ok (.aload_n 0, 1) := by decide +kernel
theorem dX10_image_162 : decode cX10_image 162 = .ok (.getfield 52, 3) := by decide +kernel
theorem dX10_image_165 : decode cX10_image 165 = .ok (.aload_n 0, 1) := by decide +kernel
theorem dX10_image_166 : decode cX10_image 166 = .ok (.getfield 104, 3) := by decide +kernel
theorem dX10_image_169 : decode cX10_image 169 = .ok (.invokestatic 364, 3) := by decide +kernel
theorem dX10_image_172 : decode cX10_image 172 = .ok (.aload_n 0, 1) := by decide +kernel
theorem dX10_image_173 : decode cX10_image 173 = .ok (.getfield 55, 3) := by decide +kernel
theorem dX10_image_176 : decode cX10_image 176 = .ok (.aload_n 0, 1) := by decide +kernel
theorem dX10_image_177 : decode cX10_image 177 = .ok (.getfield 107, 3) := by decide +kernel
theorem dX10_image_180 : decode cX10_image 180 = .ok (.invokestatic 364, 3) := by decide +kernel
theorem dX10_image_183 : decode cX10_image 183 = .ok (.aload_n 0, 1) := by decide +kernel
theorem dX10_image_184 : decode cX10_image 184 = .ok (.getfield 175, 3) := by decide +kernel
theorem dX10_image_187 : decode cX10_image 187 = .ok (.ireturn, 1) := by decide +kernel
theorem dX10_undo_0 : decode cX10_undo 0 = .ok (.aload_n 0, 1) := by decide +kernel
theorem dX10_undo_1 : decode cX10_undo 1 = .ok (.getfield 352, 3) := by decide +kernel
theorem dX10_undo_4 : decode cX10_undo 4 = .ok (.ifCond .ne 6, 3) := by decide +kernel
theorem dX10_undo_7 : decode cX10_undo 7 = .ok (.bipush (-3), 2) := by decide +kernel
theorem dX10_undo_9 : decode cX10_undo 9 = .ok (.ireturn, 1) := by decide +kernel
theorem dX10_undo_10 : decode cX10_undo 10 = .ok (.aload_n 0, 1) := by decide +kernel
theorem dX10_undo_11 : decode cX10_undo 11 = .ok (.aload_n 0, 1) := by decide +kernel
theorem dX10_undo_12 : decode cX10_undo 12 = .ok (.getfield 355, 3) := by decide +kernel
theorem dX10_undo_15 : decode cX10_undo 15 = .ok (.putfield 9, 3) := by decide +kernel
theorem dX10_undo_18 : decode cX10_undo 18 = .ok (.aload_n 0, 1) := by decide +kernel
theorem dX10_undo_19 : decode cX10_undo 19 = .ok (.aload_n 0, 1) := by decide +kernel
theorem dX10_undo_20 : decode cX10_undo 20 = .ok (.getfield 358, 3) := by decide +kernel
theorem dX10_undo_23 : decode cX10_undo 23 = .ok (.putfield 175, 3) := by decide +kernel
theorem dX10_undo_26 : decode cX10_undo 26 = .ok (.aload_n 0, 1) := by decide +kernel
theorem dX10_undo_27 : decode cX10_undo 27 = .ok (.aload_n 0, 1) := by decide +kernel
theorem dX10_undo_28 : decode cX10_undo 28 = .ok (.getfield 361, 3) := by decide +kernel
theorem dX10_undo_31 : decode cX10_undo 31 = .ok (.putfield 178, 3) := by decide +kernel
theorem dX10_undo_34 : decode cX10_undo 34 = .ok (.aload_n 0, 1) := by decide +kernel
theorem dX10_undo_35 : decode cX10_undo 35 = .ok (.getfield 68, 3) := by decide +kernel
theorem dX10_undo_38 : decode cX10_undo 38 = .ok (.aload_n 0, 1) := by decide +kernel
theorem dX10_undo_39 : decode cX10_undo 39 = .ok (.getfield 15, 3) := by decide +kernel
theorem dX10_undo_42 : decode cX10_undo 42 = .ok (.invokestatic 364, 3) := by decide +kernel
theorem dX10_undo_45 : decode cX10_undo 45 = .ok (.aload_n 0, 1) := by decide +kernel
theorem dX10_undo_46 : decode cX10_undo 46 = .ok (.getfield 71, 3) := by decide +kernel
theorem dX10_undo_49 : decode cX10_undo 49 = .ok (.aload_n 0, 1) := by decide +kernel
theorem dX10_undo_50 : decode cX10_undo 50 = .ok (.getfield 19, 3) := by decide +kernel
theorem dX10_undo_53 : decode cX10_undo 53 = .ok (.invokestatic 364, 3) := by decide +kernel
theorem dX10_undo_56 : decode cX10_undo 56 = .ok (.aload_n 0, 1) := by decide +kernel
theorem dX10_undo_57 : decode cX10_undo 57 = .ok (.getfield 74, 3) := by decide +kernel
theorem dX10_undo_60 : decode cX10_undo 60 = .ok (.aload_n 0, 1) := by decide +kernel
theorem dX10_undo_61 : decode cX10_undo 61 = .ok (.getfield 22, 3) := by decide +kernel
theorem dX10_undo_64 : decode cX10_undo 64 = .ok (.invokestatic 364, 3) := by decide +kernel
theorem dX10_undo_67 : decode cX10_undo 67 = .ok (.aload_n 0, 1) := by decide +kernel
theorem dX10_undo_68 : decode cX10_undo 68 = .ok (.getfield 77, 3) := by decide +kernel
theorem dX10_undo_71 : decode cX10_undo 71 = .ok (.aload_n 0, 1) := by decide +kernel
theorem dX10_undo_72 : decode cX10_undo 72 = .ok (.getfield 25, 3) := by decide +kernel
theorem dX10_undo_75 : decode cX10_undo 75 = .ok (.invokestatic 364, 3) := by decide +kernel
theorem dX10_undo_78 : decode cX10_undo 78 = .ok (.aload_n 0, 1) := by decide +kernel
theorem dX10_undo_79 : decode cX10_undo 79 = .ok (.getfield 80, 3) := by decide +kernel
theorem dX10_undo_82 : decode cX10_undo 82 = .ok (.aload_n 0, 1) := by decide +kernel
theorem dX10_undo_83 : decode cX10_undo 83 = .ok (.getfield 28, 3) := by decide +kernel
theorem dX10_undo_86 : decode cX10_undo 86 = .ok (.invokestatic 364, 3) := by decide +kernel
theorem dX10_undo_89 : decode cX10_undo 89 = .ok (.aload_n 0, 1) := by decide +kernel
theorem dX10_undo_90 : decode cX10_undo 90 = .ok (.getfield 83, 3) := by decide +kernel
theorem dX10_undo_93 : decode cX10_undo 93 = .ok (.aload_n 0, 1) := by decide +kernel
theorem dX10_undo_94 : decode cX10_undo 94 = .ok (.getfield 31, 3) := by decide +kernel
theorem dX10_undo_97 : decode cX10_undo 97 = .ok (.invokestatic 364, 3) := by decide +kernel
theorem dX10_undo_100 : decode cX10_undo 100 = .ok (.aload_n 0, 1) := by decide +kernel
theorem dX10_undo_101 : decode cX10_undo 101 = .ok (.getfield 86, 3) := by decide +kernel
theorem dX10_undo_104 : decode cX10_undo 104 = .ok (.aload_n 0, 1) := by decide +kernel
theorem dX10_undo_105 : decode cX10_undo 105 = .ok (.getfield 34, 3) := by decide +kernel
theorem dX10_undo_108 : decode cX10_undo 108 = .ok (.invokestatic 364, 3) := by decide +kernel
theorem dX10_undo_111 : decode cX10_undo 111 = .ok (.aload_n 0, 1) := by decide +kernel
theorem dX10_undo_112 : decode cX10_undo 112 = .ok (.getfield 89, 3) := by decide +kernel
theorem dX10_undo_115 : decode cX10_undo 115 = .ok (.aload_n 0, 1) := by decide +kernel
theorem dX10_undo_116 : decode cX10_undo 116 = .ok (.getfield 37, 3) := by decide +kernel
theorem dX10_undo_119 : decode cX10_undo 119 = .ok (.invokestatic 364, 3) := by decide +kernel
theorem dX10_undo_122 : decode cX10_undo 122 = .ok (.aload_n 0, 1) := by decide +kernel
theorem dX10_undo_123 : decode cX10_undo 123 = .ok (.getfield 92, 3) := by decide +kernel
theorem dX10_undo_126 : decode cX10_undo 126 = .ok (.aload_n 0, 1) := by decide +kernel
theorem dX10_undo_127 : decode cX10_undo 127 = .ok (.getfield 40, 3) := by decide +kernel
theorem dX10_undo_130 : decode cX10_undo 130 = .ok (.invokestatic 364, 3) := by decide +kernel
theorem dX10_undo_133 : decode cX10_undo 133 = .ok (.aload_n 0, 1) := by decide +kernel
theorem dX10_undo_134 : decode cX10_undo 134 = .ok (.getfield 95, 3) := by decide +kernel
theorem dX10_undo_137 : decode cX10_undo 137 = .ok (.aload_n 0, 1) := by decide +kernel
theorem dX10_undo_138 : decode cX10_undo 138 = .ok (.getfield 43, 3) := by decide +kernel
theorem dX10_undo_141 : decode cX10_undo 141 = .ok (.invokestatic 364, 3) := by decide +kernel
theorem dX10_undo_144 : decode cX10_undo 144 = .ok (.aload_n 0, 1) := by decide +kernel
theorem dX10_undo_145 : decode cX10_undo 145 = .ok (.getfield 98, 3) := by decide +kernel
theorem dX10_undo_148 : decode cX10_undo 148 = .ok (.aload_n 0, 1) := by decide +kernel
theorem dX10_undo_149 : decode cX10_undo 149 = .ok (.getfield 46, 3) := by decide +kernel
theorem dX10_undo_152 : decode cX10_undo 152 = .ok (.invokestatic 364, 3) := by decide +kernel
theorem dX10_undo_155 : decode cX10_undo 155 = .ok (.aload_n 0, 1) := by decide +kernel
theorem dX10_undo_156 : decode cX10_undo 156 = .ok (.getfield 101, 3) := by decide +kernel
theorem dX10_undo_159 : decode cX10_undo 159 = .ok (.aload_n 0, 1) := by decide +kernel
theorem dX10_undo_160 : decode cX10_undo 160 = .ok (.getfield 49, 3) := by decide +kernel
theorem dX10_undo_163 : decode cX10_undo 163 = .ok (.invokestatic 364, 3) := by decide +kernel
theorem dX10_undo_166 : decode cX10_undo 166 = .ok (.aload_n 0, 1) := by decide +kernel
theorem dX10_undo_167 : decode cX10_undo 167 = .ok (.getfield 104, 3) := by decide +kernel
theorem dX10_undo_170 : decode cX10_undo 170 = .ok (.aload_n 0, 1) := by decide +kernel
theorem dX10_undo_171 : decode cX10_undo 171 = .ok (.getfield 52, 3) := by decide +kernel
theorem dX10_undo_174 : decode cX10_undo 174 = .ok (.invokestatic 364, 3) := by decide +kernel
theorem dX10_undo_177 : decode cX10_undo 177 = .ok (.aload_n 0, 1) := by decide +kernel
theorem dX10_undo_178 : decode cX10_undo 178 = .ok (.getfield 107, 3) := by decide +kernel
theorem dX10_undo_181 : decode cX10_undo 181 = .ok (.aload_n 0, 1) := by decide +kernel
theorem dX10_undo_182 : decode cX10_undo 182 = .ok (.getfield 55, 3) := by decide +kernel
theorem dX10_undo_185 : decode cX10_undo 185 = .ok (.invokestatic 364, 3) := by decide +kernel
theorem dX10_undo_188 : decode cX10_undo 188 = .ok (.aload_n 0, 1) := by decide +kernel
theorem dX10_undo_189 : decode cX10_undo 189 = .ok (.iconst 0, 1) := by decide +kernel
theorem dX10_undo_190 : decode cX10_undo 190 = .ok (.putfield 181, 3) := by decide +kernel
theorem dX10_undo_193 : decode cX10_undo 193 = .ok (.aload_n 0, 1) := by decide +kernel
theorem dX10_undo_194 : decode cX10_undo 194 = .ok (.getfield 175, 3) := by decide +kernel
theorem dX10_undo_197 : decode cX10_undo 197 = .ok (.ireturn, 1) := by decide +kernel
theorem dX10_count_0 : decode cX10_count 0 = .ok (.iconst 0, 1) := by decide +kernel
theorem dX10_count_1 : decode cX10_count 1 = .ok (.istore_n 2, 1) := by decide +kernel
theorem dX10_count_2 : decode cX10_count 2 = .ok (.iconst 0, 1) := by decide +kernel
theorem dX10_count_3 : decode cX10_count 3 = .ok (.istore_n 3, 1) := by decide +kernel
theorem dX10_count_4 : decode cX10_count 4 = .ok (.iload_n 3, 1) := by decide +kernel
theorem dX10_count_5 : decode cX10_count 5 = .ok (.aload_n 0, 1) := by decide +kernel
theorem dX10_count_6 : decode cX10_count 6 = .ok (.getfield 9, 3) := by decide +kernel
theorem dX10_count_9 : decode cX10_count 9 = .ok (.if_icmp .ge 43, 3) := by decide +kernel
theorem dX10_count_12 : decode cX10_count 12 = .ok (.iconst 1, 1) := by decide +kernel
theorem dX10_count_13 : decode cX10_count 13 = .ok (.istore 4, 2) := by decide +kernel
theorem dX10_count_15 : decode cX10_count 15 = .ok (.iload 4, 2) := by decide +kernel
theorem dX10_count_17 : decode cX10_count 17 = .ok (.aload_n 0, 1) := by decide +kernel
theorem dX10_count_18 : decode cX10_count 18 = .ok (.getfield 19, 3) := by decide +kernel
theorem dX10_count_21 : decode cX10_count 21 = .ok (.iload_n 3, 1) := by decide +kernel
theorem dX10_count_22 : decode cX10_count 22 = .ok (.iaload, 1) := by decide +kernel
theorem dX10_count_23 : decode cX10_count 23 = .ok (.if_icmp .gt 23, 3) := by decide +kernel
theorem dX10_count_26 : decode cX10_count 26 = .ok (.iload_n 2, 1) := by decide +kernel
theorem dX10_count_27 : decode cX10_count 27 = .ok (.aload_n 0, 1) := by decide +kernel
theorem dX10_count_28 : decode cX10_count 28 = .ok (.getfield 31, 3) := by decide +kernel
theorem dX10_count_31 : decode cX10_count 31 = .ok (.iload_n 3, 1) := by decide +kernel
theorem dX10_count_32 : decode cX10_count 32 = .ok (.iload 4, 2) := by decide +kernel
theorem dX10_count_34 : decode cX10_count 34 = .ok (.invokestatic 189, 3) := by decide +kernel
theorem dX10_count_37 : decode cX10_count 37 = .ok (.iaload, 1) := by decide +kernel
theorem dX10_count_38 : decode cX10_count 38 = .ok (.iadd, 1) := by decide +kernel
theorem dX10_count_39 : decode cX10_count 39 = .ok (.istore_n 2, 1) := by decide +kernel
theorem dX10_count_40 : decode cX10_count 40 = .ok (.iinc 4 1, 3) := by decide +kernel
theorem dX10_count_43 : decode cX10_count 43 = .ok (.goto (-28), 3) := by decide +kernel
theorem dX10_count_46 : decode cX10_count 46 = .ok (.iinc 3 1, 3) := by decide +kernel
theorem dX10_count_49 : decode cX10_count 49 = .ok (.goto (-45), 3) := by decide +kernel
theorem dX10_count_52 : decode cX10_count 52 = .ok (.iconst 0, 1) := by decide +kernel
theorem dX10_count_53 : decode cX10_count 53 = .ok (.istore_n 3, 1) := by decide +kernel
theorem dX10_count_54 : decode cX10_count 54 = .ok (.iconst 0, 1) := by decide +kernel
theorem dX10_count_55 : decode cX10_count 55 = .ok (.istore 4, 2) := by decide +kernel
theorem dX10_count_57 : decode cX10_count 57 = .ok (.iconst 0, 1) := by decide +kernel
theorem dX10_count_58 : decode cX10_count 58 = .ok (.istore 5, 2) := by decide +kernel
theorem dX10_count_60 : decode cX10_count 60 = .ok (.iload 5, 2) := by decide +kernel
theorem dX10_count_62 : decode cX10_count 62 = .ok (.iconst 3, 1) := by decide +kernel
theorem dX10_count_63 : decode cX10_count 63 = .ok (.if_icmp .ge 47, 3) := by decide +kernel
theorem dX10_count_66 : decode cX10_count 66 = .ok (.iload_n 3, 1) := by decide +kernel
theorem dX10_count_67 : decode cX10_count 67 = .ok (.aload_n 0, 1) := by decide +kernel
theorem dX10_count_68 : decode cX10_count 68 = .ok (.getfield 52, 3) := by decide +kernel
theorem dX10_count_71 : decode cX10_count 71 = .ok (.iload 5, 2) := by decide +kernel
theorem dX10_count_73 : decode cX10_count 73 = .ok (.iaload, 1) := by decide +kernel
theorem dX10_count_74 : decode cX10_count 74 = .ok (.ifCond .le 7, 3) := by decide +kernel
theorem dX10_count_77 : decode cX10_count 77 = .ok (.iconst 1, 1) := by decide +kernel
theorem dX10_count_78 : decode cX10_count 78 = .ok (.goto 4, 3) := by decide +kernel
theorem dX10_count_81 : decode cX10_count 81 = .ok (.iconst 0, 1) := by decide +kernel
theorem dX10_count_82 : decode cX10_count 82 = .ok (.iadd, 1) := by decide +kernel
theorem dX10_count_83 : decode cX10_count 83 = .ok (.istore_n 3, 1) := by decide +kernel
theorem dX10_count_84 : decode cX10_count 84 = .ok (.iload 4, 2) := by decide +kernel
theorem dX10_count_86 : decode cX10_count 86 = .ok (.aload_n 0, 1) := by decide +kernel
theorem dX10_count_87 : decode cX10_count 87 = .ok (.getfield 61, 3) := by decide +kernel
theorem dX10_count_90 : decode cX10_count 90 = .ok (.iload 5, 2) := by decide +kernel
theorem dX10_count_92 : decode cX10_count 92 = .ok (.iaload, 1) := by decide +kernel
theorem dX10_count_93 : decode cX10_count 93 = .ok (.ifCond .lt 7, 3) := by decide +kernel
theorem dX10_count_96 : decode cX10_count 96 = .ok (.iconst 1, 1) := by decide +kernel
theorem dX10_count_97 : decode cX10_count 97 = .ok (.goto 4, 3) := by decide +kernel
theorem dX10_count_100 : decode cX10_count 100 = .ok (.iconst 0, 1) := by decide +kernel
theorem dX10_count_101 : decode cX10_count 101 = .ok (.iadd, 1) := by decide +kernel
theorem dX10_count_102 : decode cX10_count 102 = .ok (.istore 4, 2) := by decide +kernel
theorem dX10_count_104 : decode cX10_count 104 = .ok (.iinc 5 1, 3) := by decide +kernel
theorem dX10_count_107 : decode cX10_count 107 = .ok (.goto (-47), 3) := by decide +kernel
theorem dX10_count_110 : decode cX10_count 110 = .ok (.iload_n 1, 1) := by decide +kernel
theorem dX10_count_111 : decode cX10_count 111 = .ok (.tableswitch 68 0 6 #[41, 46, 51, 56, 58, 60, 65], 41) := by decide +kernel
theorem dX10_count_152 : decode cX10_count 152 = .ok (.aload_n 0, 1) := by decide +kernel
theorem dX10_count_153 : decode cX10_count 153 = .ok (.getfield 9, 3) := by decide +kernel
theorem dX10_count_156 : decode cX10_count 156 = .ok (.ireturn, 1) := by decide +kernel
theorem dX10_count_157 : decode cX10_count 157 = .ok (.aload_n 0, 1) := by decide +kernel
theorem dX10_count_158 : decode cX10_count 158 = .ok (.getfield 175, 3) := by decide +kernel
theorem dX10_count_161 : decode cX10_count 161 = .ok (.ireturn, 1) := by decide +kernel
theorem dX10_count_162 : decode cX10_count 162 = .ok (.aload_n 0, 1) := by decide +kernel
theorem dX10_count_163 : decode cX10_count 163 = .ok (.getfield 178, 3) := by decide +kernel
theorem dX10_count_166 : decode cX10_count 166 = .ok (.ireturn, 1) := by decide +kernel
theorem dX10_count_167 : decode cX10_count 167 = .ok (.iload_n 2, 1) := by decide +kernel
theorem dX10_count_168 : decode cX10_count 168 = .ok (.ireturn, 1) := by decide +kernel
theorem dX10_count_169 : decode cX10_count 169 = .ok (.iload_n 3, 1) := by decide +kernel
theorem dX10_count_170 : decode cX10_count 170 = .ok (.ireturn, 1) := by decide +kernel
theorem dX10_count_171 : decode cX10_count 171 = .ok (.aload_n 0, 1) := by decide +kernel
theorem dX10_count_172 : decode cX10_count 172 = .ok (.getfield 247, 3) := by decide +kernel
theorem dX10_count_175 : decode cX10_count 175 = .ok (.ireturn, 1) := by decide +kernel
theorem dX10_count_176 : decode cX10_count 176 = .ok (.iload 4, 2) := by decide +kernel
theorem dX10_count_178 : decode cX10_count 178 = .ok (.ireturn, 1) := by decide +kernel
theorem dX10_count_179 : decode cX10_count 179 = .ok (.iconst (-1), 1) := by decide +kernel
theorem dX10_count_180 : decode cX10_count 180 = .ok (.ireturn, 1) := by decide +kernel
