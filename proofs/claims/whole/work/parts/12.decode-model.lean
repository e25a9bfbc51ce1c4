theorem dX12_init_0 : decode cX12_init 0 = .ok (.aload_n 0, 1) := by decide +kernel
theorem dX12_init_1 : decode cX12_init 1 = .ok (.invokespecial 3, 3) := by decide +kernel
theorem dX12_init_4 : decode cX12_init 4 = .ok (.aload_n 0, 1) := by decide +kernel
theorem dX12_init_5 : decode cX12_init 5 = .ok (.iconst 4, 1) := by decide +kernel
theorem dX12_init_6 : decode cX12_init 6 = .ok (.anewarray 9, 3) := by decide +kernel
theorem dX12_init_9 : decode cX12_init 9 = .ok (.dup, 1) := by decide +kernel
theorem dX12_init_10 : decode cX12_init 10 = .ok (.iconst 0, 1) := by decide +kernel
theorem dX12_init_11 : decode cX12_init 11 = .ok (.ldc 11, 2) := by decide +kernel
theorem dX12_init_13 : decode cX12_init 13 = .ok (.aastore, 1) := by decide +kernel
theorem dX12_init_14 : decode cX12_init 14 = .ok (.dup, 1) := by decide +kernel
theorem dX12_init_15 : decode cX12_init 15 = .ok (.iconst 1, 1) := by decide +kernel
theorem dX12_init_16 : decode cX12_init 16 = .ok (.ldc 13, 2) := by decide +kernel
theorem dX12_init_18 : decode cX12_init 18 = .ok (.aastore, 1) := by decide +kernel
theorem dX12_init_19 : decode cX12_init 19 = .ok (.dup, 1) := by decide +kernel
theorem dX12_init_20 : decode cX12_init 20 = .ok (.iconst 2, 1) := by decide +kernel
theorem dX12_init_21 : decode cX12_init 21 = .ok (.ldc 15, 2) := by decide +kernel
theorem dX12_init_23 : decode cX12_init 23 = .ok (.aastore, 1) := by decide +kernel
theorem dX12_init_24 : decode cX12_init 24 = .ok (.dup, 1) := by decide +kernel
theorem dX12_init_25 : decode cX12_init 25 = .ok (.iconst 3, 1) := by decide +kernel
theorem dX12_init_26 : decode cX12_init 26 = .ok (.ldc 17, 2) := by decide +kernel
theorem dX12_init_28 : decode cX12_init 28 = .ok (.aastore, 1) := by decide +kernel
theorem dX12_init_29 : decode cX12_init 29 = .ok (.putfield 19, 3) := by decide +kernel
theorem dX12_init_32 : decode cX12_init 32 = .ok (.aload_n 0, 1) := by decide +kernel
theorem dX12_init_33 : decode cX12_init 33 = .ok (.bipush 7, 2) := by decide +kernel
theorem dX12_init_35 : decode cX12_init 35 = .ok (.anewarray 9, 3) := by decide +kernel
theorem dX12_init_38 : decode cX12_init 38 = .ok (.dup, 1) := by decide +kernel
theorem dX12_init_39 : decode cX12_init 39 = .ok (.iconst 0, 1) := by decide +kernel
theorem dX12_init_40 : decode cX12_init 40 = .ok (.ldc 23, 2) := by decide +kernel
theorem dX12_init_42 : decode cX12_init 42 = .ok (.aastore, 1) := by decide +kernel
theorem dX12_init_43 : decode cX12_init 43 = .ok (.dup, 1) := by decide +kernel
theorem dX12_init_44 : decode cX12_init 44 = .ok (.iconst 1, 1) := by decide +kernel
theorem dX12_init_45 : decode cX12_init 45 = .ok (.ldc 25, 2) := by decide +kernel
theorem dX12_init_47 : decode cX12_init 47 = .ok (.aastore, 1) := by decide +kernel
theorem dX12_init_48 : decode cX12_init 48 = .ok (.dup, 1) := by decide +kernel
theorem dX12_init_49 : decode cX12_init 49 = .ok (.iconst 2, 1) := by decide +kernel
theorem dX12_init_50 : decode cX12_init 50 = .ok (.ldc 27, 2) := by decide +kernel
theorem dX12_init_52 : decode cX12_init 52 = .ok (.aastore, 1) := by decide +kernel
theorem dX12_init_53 : decode cX12_init 53 = .ok (.dup, 1) := by decide +kernel
theorem dX12_init_54 : decode cX12_init 54 = .ok (.iconst 3, 1) := by decide +kernel
theorem dX12_init_55 : decode cX12_init 55 = .ok (.ldc 29, 2) := by decide +kernel
theorem dX12_init_57 : decode cX12_init 57 = .ok (.aastore, 1) := by decide +kernel
theorem dX12_init_58 : decode cX12_init 58 = .ok (.dup, 1) := by decide +kernel
theorem dX12_init_59 : decode cX12_init 59 = .ok (.iconst 4, 1) := by decide +kernel
theorem dX12_init_60 : decode cX12_init 60 = .ok (.ldc 31, 2) := by decide +kernel
theorem dX12_init_62 : decode cX12_init 62 = .ok (.aastore, 1) := by decide +kernel
theorem dX12_init_63 : decode cX12_init 63 = .ok (.dup, 1) := by decide +kernel
theorem dX12_init_64 : decode cX12_init 64 = .ok (.iconst 5, 1) := by decide +kernel
theorem dX12_init_65 : decode cX12_init 65 = .ok (.ldc 33, 2) := by decide +kernel
theorem dX12_init_67 : decode cX12_init 67 = .ok (.aastore, 1) := by decide +kernel
theorem dX12_init_68 : decode cX12_init 68 = .ok (.dup, 1) := by decide +kernel
theorem dX12_init_69 : decode cX12_init 69 = .ok (.bipush 6, 2) := by decide +kernel
theorem dX12_init_71 : decode cX12_init 71 = .ok (.ldc 35, 2) := by decide +kernel
theorem dX12_init_73 : decode cX12_init 73 = .ok (.aastore, 1) := by decide +kernel
theorem dX12_init_74 : decode cX12_init 74 = .ok (.putfield 37, 3) := by decide +kernel
theorem dX12_init_77 : decode cX12_init 77 = .ok (.aload_n 0, 1) := by decide +kernel
theorem dX12_init_78 : decode cX12_init 78 = .ok (.bipush 10, 2) := by decide +kernel
theorem dX12_init_80 : decode cX12_init 80 = .ok (.newarray .int, 2) := by decide +kernel
theorem dX12_init_82 : decode cX12_init 82 = .ok (.putfield 40, 3) := by decide +kernel
theorem dX12_init_85 : decode cX12_init 85 = .ok (.aload_n 0, 1) := by decide +kernel
theorem dX12_init_86 : decode cX12_init 86 = .ok (.bipush 16, 2) := by decide +kernel
theorem dX12_init_88 : decode cX12_init 88 = .ok (.newarray .int, 2) := by decide +kernel
theorem dX12_init_90 : decode cX12_init 90 = .ok (.putfield 44, 3) := by decide +kernel
theorem dX12_init_93 : decode cX12_init 93 = .ok (.aload_n 0, 1) := by decide +kernel
theorem dX12_init_94 : decode cX12_init 94 = .ok (.bipush 16, 2) := by decide +kernel
theorem dX12_init_96 : decode cX12_init 96 = .ok (.newarray .int, 2) := by decide +kernel
theorem dX12_init_98 : decode cX12_init 98 = .ok (.putfield 46, 3) := by decide +kernel
theorem dX12_init_101 : decode cX12_init 101 = .ok (.aload_n 0, 1) := by decide +kernel
theorem dX12_init_102 : decode cX12_init 102 = .ok (.bipush 16, 2) := by decide +kernel
theorem dX12_init_104 : decode cX12_init 104 = .ok (.newarray .int, 2) := by decide +kernel
theorem dX12_init_106 : decode cX12_init 106 = .ok (.putfield 49, 3) := by decide +kernel
theorem dX12_init_109 : decode cX12_init 109 = .ok (.aload_n 0, 1) := by decide +kernel
theorem dX12_init_110 : decode cX12_init 110 = .ok (.bipush 16, 2) := by decide +kernel
theorem dX12_init_112 : decode cX12_init 112 = .ok (.newarray .int, 2) := by decide +kernel
theorem dX12_init_114 : decode cX12_init 114 = .ok (.putfield 52, 3) := by decide +kernel
theorem dX12_init_117 : decode cX12_init 117 = .ok (.aload_n 0, 1) := by decide +kernel
theorem dX12_init_118 : decode cX12_init 118 = .ok (.bipush 12, 2) := by decide +kernel
theorem dX12_init_120 : decode cX12_init 120 = .ok (.newarray .int, 2) := by decide +kernel
theorem dX12_init_122 : decode cX12_init 122 = .ok (.putfield 55, 3) := by decide +kernel
theorem dX12_init_125 : decode cX12_init 125 = .ok (.aload_n 0, 1) := by decide +kernel
theorem dX12_init_126 : decode cX12_init 126 = .ok (.bipush 12, 2) := by decide +kernel
theorem dX12_init_128 : decode cX12_init 128 = .ok (.newarray .int, 2) := by decide +kernel
theorem dX12_init_130 : decode cX12_init 130 = .ok (.putfield 58, 3) := by decide +kernel
theorem dX12_init_133 : decode cX12_init 133 = .ok (.aload_n 0, 1) := by decide +kernel
theorem dX12_init_134 : decode cX12_init 134 = .ok (.bipush 48, 2) := by decide +kernel
theorem dX12_init_136 : decode cX12_init 136 = .ok (.newarray .int, 2) := by decide +kernel
theorem dX12_init_138 : decode cX12_init 138 = .ok (.putfield 61, 3) := by decide +kernel
theorem dX12_init_141 : decode cX12_init 141 = .ok (.aload_n 0, 1) := by decide +kernel
theorem dX12_init_142 : decode cX12_init 142 = .ok (.sipush 1200, 3) := by decide +kernel
theorem dX12_init_145 : decode cX12_init 145 = .ok (.newarray .int, 2) := by decide +kernel
theorem dX12_init_147 : decode cX12_init 147 = .ok (.putfield 64, 3) := by decide +kernel
theorem dX12_init_150 : decode cX12_init 150 = .ok (.aload_n 0, 1) := by decide +kernel
theorem dX12_init_151 : decode cX12_init 151 = .ok (.iconst 3, 1) := by decide +kernel
theorem dX12_init_152 : decode cX12_init 152 = .ok (.newarray .int, 2) := by decide +kernel
theorem dX12_init_154 : decode cX12_init 154 = .ok (.putfield 67, 3) := by decide +kernel
theorem dX12_init_157 : decode cX12_init 157 = .ok (.aload_n 0, 1) := by decide +kernel
theorem dX12_init_158 : decode cX12_init 158 = .ok (.bipush 8, 2) := by decide +kernel
theorem dX12_init_160 : decode cX12_init 160 = .ok (.newarray .int, 2) := by decide +kernel
theorem dX12_init_162 : decode cX12_init 162 = .ok (.putfield 70, 3) := by decide +kernel
theorem dX12_init_165 : decode cX12_init 165 = .ok (.aload_n 0, 1) := by decide +kernel
theorem dX12_init_166 : decode cX12_init 166 = .ok (.sipush 600, 3) := by decide +kernel
theorem dX12_init_169 : decode cX12_init 169 = .ok (.newarray .int, 2) := by decide +kernel
theorem dX12_init_171 : decode cX12_init 171 = .ok (.putfield 73, 3) := by decide +kernel
theorem dX12_init_174 : decode cX12_init 174 = .ok (.aload_n 0, 1) := by decide +kernel
theorem dX12_init_175 : decode cX12_init 175 = .ok (.iconst (-1), 1) := by decide +kernel
theorem dX12_init_176 : decode cX12_init 176 = .ok (.putfield 76, 3) := by decide +kernel
theorem dX12_init_179 : decode cX12_init 179 = .ok (.aload_n 0, 1) := by decide +kernel
theorem dX12_init_180 : decode cX12_init 180 = .ok (.bipush 8, 2) := by decide +kernel
theorem dX12_init_182 : decode cX12_init 182 = .ok (.newarray .int, 2) := by decide +kernel
theorem dX12_init_184 : decode cX12_init 184 = .ok (.putfield 80, 3) := by decide +kernel
theorem dX12_init_187 : decode cX12_init 187 = .ok (.aload_n 0, 1) := by decide +kernel
theorem dX12_init_188 : decode cX12_init 188 = .ok (.bipush 8, 2) := by decide +kernel
theorem dX12_init_190 : decode cX12_init 190 = .ok (.newarray .int, 2) := by decide +kernel
theorem dX12_init_192 : decode cX12_init 192 = .ok (.putfield 82, 3) := by decide +kernel
theorem dX12_init_195 : decode cX12_init 195 = .ok (.aload_n 0, 1) := by decide +kernel
theorem dX12_init_196 : decode cX12_init 196 = .ok (.bipush 6, 2) := by decide +kernel
theorem dX12_init_198 : decode cX12_init 198 = .ok (.newarray .int, 2) := by decide +kernel
theorem dX12_init_200 : decode cX12_init 200 = .ok (.putfield 84, 3) := by decide +kernel
theorem dX12_init_203 : decode cX12_init 203 = .ok (.aload_n 0, 1) := by decide +kernel
theorem dX12_init_204 : decode cX12_init 204 = .ok (.bipush 6, 2) := by decide +kernel
theorem dX12_init_206 : decode cX12_init 206 = .ok (.newarray .int, 2) := by decide +kernel
theorem dX12_init_208 : decode cX12_init 208 = .ok (.putfield 87, 3) := by decide +kernel
theorem dX12_init_211 : decode cX12_init 211 = .ok (.aload_n 0, 1) := by decide +kernel
theorem dX12_init_212 : decode cX12_init 212 = .ok (.sipush 1400, 3) := by decide +kernel
theorem dX12_init_215 : decode cX12_init 215 = .ok (.newarray .int, 2) := by decide +kernel
theorem dX12_init_217 : decode cX12_init 217 = .ok (.putfield 90, 3) := by decide +kernel
theorem dX12_init_220 : decode cX12_init 220 = .ok (.aload_n 0, 1) := by decide +kernel
theorem dX12_init_221 : decode cX12_init 221 = .ok (.sipush 400, 3) := by decide +kernel
theorem dX12_init_224 : decode cX12_init 224 = .ok (.newarray .int, 2) := by decide +kernel
theorem dX12_init_226 : decode cX12_init 226 = .ok (.putfield 93, 3) := by decide +kernel
theorem dX12_init_229 : decode cX12_init 229 = .ok (.aload_n 0, 1) := by decide +kernel
theorem dX12_init_230 : decode cX12_init 230 = .ok (.sipush 400, 3) := by decide +kernel
theorem dX12_init_233 : decode cX12_init 233 = .ok (.newarray .int, 2) := by decide +kernel
theorem dX12_init_235 : decode cX12_init 235 = .ok (.putfield 96, 3) := by decide +kernel
theorem dX12_init_238 : decode cX12_init 238 = .ok (.aload_n 0, 1) := by decide +kernel
theorem dX12_init_239 : decode cX12_init 239 = .ok (.sipush 400, 3) := by decide +kernel
theorem dX12_init_242 : decode cX12_init 242 = .ok (.newarray .int, 2) := by decide +kernel
theorem dX12_init_244 : decode cX12_init 244 = .ok (.putfield 99, 3) := by decide +kernel
theorem dX12_init_247 : decode cX12_init 247 = .ok (.aload_n 0, 1) := by decide +kernel
theorem dX12_init_248 : decode cX12_init 248 = .ok (.bipush 7, 2) := by decide +kernel
theorem dX12_init_250 : decode cX12_init 250 = .ok (.newarray .int, 2) := by decide +kernel
theorem dX12_init_252 : decode cX12_init 252 = .ok (.putfield 102, 3) := by decide +kernel
theorem dX12_init_255 : decode cX12_init 255 = .ok (.aload_n 0, 1) := by decide +kernel
theorem dX12_init_256 : decode cX12_init 256 = .ok (.bipush 64, 2) := by decide +kernel
theorem dX12_init_258 : decode cX12_init 258 = .ok (.newarray .int, 2) := by decide +kernel
theorem dX12_init_260 : decode cX12_init 260 = .ok (.putfield 105, 3) := by decide +kernel
theorem dX12_init_263 : decode cX12_init 263 = .ok (.aload_n 0, 1) := by decide +kernel
theorem dX12_init_264 : decode cX12_init 264 = .ok (.iconst (-1), 1) := by decide +kernel
theorem dX12_init_265 : decode cX12_init 265 = .ok (.putfield 108, 3) := by decide +kernel
theorem dX12_init_268 : decode cX12_init 268 = .ok (.aload_n 0, 1) := by decide +kernel
theorem dX12_init_269 : decode cX12_init 269 = .ok (.bipush 7, 2) := by decide +kernel
theorem dX12_init_271 : decode cX12_init 271 = .ok (.newarray .int, 2) := by decide +kernel
theorem dX12_init_273 : decode cX12_init 273 = .ok (.putfield 111, 3) := by decide +kernel
theorem dX12_init_276 : decode cX12_init 276 = .ok (.aload_n 0, 1) := by decide +kernel
theorem dX12_init_277 : decode cX12_init 277 = .ok (.bipush 25, 2) := by decide +kernel
theorem dX12_init_279 : decode cX12_init 279 = .ok (.newarray .int, 2) := by decide +kernel
theorem dX12_init_281 : decode cX12_init 281 = .ok (.putfield 114, 3) := by decide +kernel
theorem dX12_init_284 : decode cX12_init 284 = .ok (.aload_n 0, 1) := by decide +kernel
theorem dX12_init_285 : decode cX12_init 285 = .ok (.bipush 25, 2) := by decide +kernel
theorem dX12_init_287 : decode cX12_init 287 = .ok (.newarray .int, 2) := by decide +kernel
theorem dX12_init_289 : decode cX12_init 289 = .ok (.putfield 117, 3) := by decide +kernel
theorem dX12_init_292 : decode cX12_init 292 = .ok (.aload_n 0, 1) := by decide +kernel
theorem dX12_init_293 : decode cX12_init 293 = .ok (.bipush 35, 2) := by decide +kernel
theorem dX12_init_295 : decode cX12_init 295 = .ok (.newarray .int, 2) := by decide +kernel
theorem dX12_init_297 : decode cX12_init 297 = .ok (.putfield 120, 3) := by decide +kernel
theorem dX12_init_300 : decode cX12_init 300 = .ok (.aload_n 0, 1) := by decide +kernel
theorem dX12_init_301 : decode cX12_init 301 = .ok (.bipush 8, 2) := by decide +kernel
theorem dX12_init_303 : decode cX12_init 303 = .ok (.newarray .int, 2) := by decide +kernel
theorem dX12_init_305 : decode cX12_init 305 = .ok (.putfield 123, 3) := by decide +kernel
theorem dX12_init_308 : decode cX12_init 308 = .ok (.aload_n 0, 1) := by decide +kernel
theorem dX12_init_309 : decode cX12_init 309 = .ok (.bipush 8, 2) := by decide +kernel
theorem dX12_init_311 : decode cX12_init 311 = .ok (.newarray .int, 2) := by decide +kernel
theorem dX12_init_313 : decode cX12_init 313 = .ok (.putfield 126, 3) := by decide +kernel
theorem dX12_init_316 : decode cX12_init 316 = .ok (.aload_n 0, 1) := by decide +kernel
theorem dX12_init_317 : decode cX12_init 317 = .ok (.bipush 35, 2) := by decide +kernel
theorem dX12_init_319 : decode cX12_init 319 = .ok (.newarray .int, 2) := by decide +kernel
theorem dX12_init_321 : decode cX12_init 321 = .ok (.putfield 129, 3) := by decide +kernel
theorem dX12_init_324 : decode cX12_init 324 = .ok (.aload_n 0, 1) := by decide +kernel
theorem dX12_init_325 : decode cX12_init 325 = .ok (.bipush 60, 2) := by decide +kernel
theorem dX12_init_327 : decode cX12_init 327 = .ok (.newarray .int, 2) := by decide +kernel
theorem dX12_init_329 : decode cX12_init 329 = .ok (.putfield 132, 3) := by decide +kernel
theorem dX12_init_332 : decode cX12_init 332 = .ok (.aload_n 0, 1) := by decide +kernel
theorem dX12_init_333 : decode cX12_init 333 = .ok (.bipush 81, 2) := by decide +kernel
theorem dX12_init_335 : decode cX12_init 335 = .ok (.newarray .int, 2) := by decide +kernel
theorem dX12_init_337 : decode cX12_init 337 = .ok (.putfield 135, 3) := by decide +kernel
theorem dX12_init_340 : decode cX12_init 340 = .ok (.aload_n 0, 1) := by decide +kernel
theorem dX12_init_341 : decode cX12_init 341 = .ok (.bipush 81, 2) := by decide +kernel
theorem dX12_init_343 : decode cX12_init 343 = .ok (.newarray .int, 2) := by decide +kernel
theorem dX12_init_345 : decode cX12_init 345 = .ok (.putfield 138, 3) := by decide +kernel
theorem dX12_init_348 : decode cX12_init 348 = .ok (.aload_n 0, 1) := by decide +kernel
theorem dX12_init_349 : decode cX12_init 349 = .ok (.bipush 35, 2) := by decide +kernel
theorem dX12_init_351 : decode cX12_init 351 = .ok (.newarray .int, 2) := by decide +kernel
theorem dX12_init_353 : decode cX12_init 353 = .ok (.putfield 141, 3) := by decide +kernel
theorem dX12_init_356 : decode cX12_init 356 = .ok (.aload_n 0, 1) := by decide +kernel
theorem dX12_init_357 : decode cX12_init 357 = .ok (.sipush 1400, 3) := by decide +kernel
theorem dX12_init_360 : decode cX12_init 360 = .ok (.newarray .int, 2) := by decide +kernel
theorem dX12_init_362 : decode cX12_init 362 = .ok (.putfield 144, 3) := by decide +kernel
theorem dX12_init_365 : decode cX12_init 365 = .ok (.aload_n 0, 1) := by decide +kernel
theorem dX12_init_366 : decode cX12_init 366 = .ok (.sipush 400, 3) := by decide +kernel
theorem dX12_init_369 : decode cX12_init 369 = .ok (.newarray .int, 2) := by decide +kernel
theorem dX12_init_371 : decode cX12_init 371 = .ok (.putfield 147, 3) := by decide +kernel
theorem dX12_init_374 : decode cX12_init 374 = .ok (.aload_n 0, 1) := by decide +kernel
theorem dX12_init_375 : decode cX12_init 375 = .ok (.sipush 400, 3) := by decide +kernel
theorem dX12_init_378 : decode cX12_init 378 = .ok (.newarray .int, 2) := by decide +kernel
theorem dX12_init_380 : decode cX12_init 380 = .ok (.putfield 150, 3) := by decide +kernel
theorem dX12_init_383 : decode cX12_init 383 = .ok (.aload_n 0, 1) := by decide +kernel
theorem dX12_init_384 : decode cX12_init 384 = .ok (.sipush 400, 3) := by decide +kernel
theorem dX12_init_387 : decode cX12_init 387 = .ok (.newarray .int, 2) := by decide +kernel
theorem dX12_init_389 : decode cX12_init 389 = .ok (.putfield 153, 3) := by decide +kernel
theorem dX12_init_392 : decode cX12_init 392 = .ok (.aload_n 0, 1) := by decide +kernel
theorem dX12_init_393 : decode cX12_init 393 = .ok (.bipush 8, 2) := by decide +kernel
theorem dX12_init_395 : decode cX12_init 395 = .ok (.newarray .int, 2) := by decide +kernel
theorem dX12_init_397 : decode cX12_init 397 = .ok (.putfield 156, 3) := by decide +kernel
theorem dX12_init_400 : decode cX12_init 400 = .ok (.aload_n 0, 1) := by decide +kernel
theorem dX12_init_401 : decode cX12_init 401 = .ok (.bipush 8, 2) := by decide +kernel
theorem dX12_init_403 : decode cX12_init 403 = .ok (.newarray .int, 2) := by decide +kernel
theorem dX12_init_405 : decode cX12_init 405 = .ok (.putfield 159, 3) := by decide +kernel
theorem dX12_init_408 : decode cX12_init 408 = .ok (.aload_n 0, 1) := by decide +kernel
theorem dX12_init_409 : decode cX12_init 409 = .ok (.iconst 3, 1) := by decide +kernel
theorem dX12_init_410 : decode cX12_init 410 = .ok (.newarray .int, 2) := by decide +kernel
theorem dX12_init_412 : decode cX12_init 412 = .ok (.putfield 162, 3) := by decide +kernel
theorem dX12_init_415 : decode cX12_init 415 = .ok (.return_, 1) := by decide +kernel
theorem dX12_thrown_0 : decode cX12_thrown 0 = .ok (.aload_n 0, 1) := by decide +kernel
theorem dX12_thrown_1 : decode cX12_thrown 1 = .ok (.getfield 165, 3) := by decide +kernel
theorem dX12_thrown_4 : decode cX12_thrown 4 = .ok (.ireturn, 1) := by decide +kernel
theorem dX12_fail_0 : decode cX12_fail 0 = .ok (.aload_n 0, 1) := by decide +kernel
theorem dX12_fail_1 : decode cX12_fail 1 = .ok (.iload_n 1, 1) := by decide +kernel
theorem dX12_fail_2 : decode cX12_fail 2 = .ok (.putfield 165, 3) := by decide +kernel
theorem dX12_fail_5 : decode cX12_fail 5 = .ok (.iconst 0, 1) := by decide +kernel
theorem dX12_fail_6 : decode cX12_fail 6 = .ok (.ireturn, 1) := by decide +kernel
theorem dX12_failing_0 : decode cX12_failing 0 = .ok (.aload_n 0, 1) := by decide +kernel
theorem dX12_failing_1 : decode cX12_failing 1 = .ok (.iload_n 1, 1) := by decide +kernel
theorem dX12_failing_2 : decode cX12_failing 2 = .ok (.putfield 165, 3) := by decide +kernel
theorem dX12_failing_5 : decode cX12_failing 5 = .ok (.iconst 0, 1) := by decide +kernel
theorem dX12_failing_6 : decode cX12_failing 6 = .ok (.ireturn, 1) := by decide +kernel
theorem dX12_isIn_0 : decode cX12_isIn 0 = .ok (.lload_n 0, 1) := by decide +kernel
theorem dX12_isIn_1 : decode cX12_isIn 1 = .ok (.lload_n 2, 1) := by decide +kernel
theorem dX12_isIn_2 : decode cX12_isIn 2 = .ok (.lcmp, 1) := by decide +kernel
theorem dX12_isIn_3 : decode cX12_isIn 3 = .ok (.ifCond .lt 14, 3) := by decide +kernel
theorem dX12_isIn_6 : decode cX12_isIn 6 = .ok (.lload_n 0, 1) := by decide +kernel
theorem dX12_isIn_7 : decode cX12_isIn 7 = .ok (.lload 4, 2) := by decide +kernel
theorem dX12_isIn_9 : decode cX12_isIn 9 = .ok (.lcmp, 1) := by decide +kernel
theorem dX12_isIn_10 : decode cX12_isIn 10 = .ok (.ifCond .gt 7, 3) := by decide +kernel
theorem dX12_isIn_13 : decode cX12_isIn 13 = .ok (.iconst 1, 1) := by decide +kernel
theorem dX12_isIn_14 : decode cX12_isIn 14 = .ok (.goto 4, 3) := by decide +kernel
theorem dX12_isIn_17 : decode cX12_isIn 17 = .ok (.iconst 0, 1) := by decide +kernel
theorem dX12_isIn_18 : decode cX12_isIn 18 = .ok (.ireturn, 1) := by decide +kernel
theorem dX12_isOf_0 : decode cX12_isOf 0 = .ok (.iload_n 0, 1) := by decide +kernel
theorem dX12_isOf_1 : decode cX12_isOf 1 = .ok (.iload_n 1, 1) := by decide +kernel
theorem dX12_isOf_2 : decode cX12_isOf 2 = .ok (.ishr, 1) := by decide +kernel
theorem dX12_isOf_3 : decode cX12_isOf 3 = .ok (.iconst 1, 1) := by decide +kernel
theorem dX12_isOf_4 : decode cX12_isOf 4 = .ok (.iand, 1) := by decide +kernel
theorem dX12_isOf_5 : decode cX12_isOf 5 = .ok (.iconst 1, 1) := by decide +kernel
theorem dX12_isOf_6 : decode cX12_isOf 6 = .ok (.if_icmp .ne 7, 3) := by decide +kernel
theorem dX12_isOf_9 : decode cX12_isOf 9 = .ok (.iconst 1, 1) := by decide +kernel
theorem dX12_isOf_10 : decode cX12_isOf 10 = .ok (.goto 4, 3) := by decide +kernel
theorem dX12_isOf_13 : decode cX12_isOf 13 = .ok (.iconst 0, 1) := by decide +kernel
theorem dX12_isOf_14 : decode cX12_isOf 14 = .ok (.ireturn, 1) := by decide +kernel
theorem dX12_by12_0 : decode cX12_by12 0 = .ok (.iload_n 0, 1) := by decide +kernel
theorem dX12_by12_1 : decode cX12_by12 1 = .ok (.bipush 12, 2) := by decide +kernel
theorem dX12_by12_3 : decode cX12_by12 3 = .ok (.irem, 1) := by decide +kernel
theorem dX12_by12_4 : decode cX12_by12 4 = .ok (.istore_n 1, 1) := by decide +kernel
theorem dX12_by12_5 : decode cX12_by12 5 = .ok (.iload_n 1, 1) := by decide +kernel
theorem dX12_by12_6 : decode cX12_by12 6 = .ok (.ifCond .ge 10, 3) := by decide +kernel
theorem dX12_by12_9 : decode cX12_by12 9 = .ok (.iload_n 1, 1) := by decide +kernel
theorem dX12_by12_10 : decode cX12_by12 10 = .ok (.bipush 12, 2) := by decide +kernel
theorem dX12_by12_12 : decode cX12_by12 12 = .ok (.iadd, 1) := by decide +kernel
theorem dX12_by12_13 : decode cX12_by12 13 = .ok (.goto 4, 3) := by decide +kernel
theorem dX12_by12_16 : decode cX12_by12 16 = .ok (.iload_n 1, 1) := by decide +kernel
theorem dX12_by12_17 : decode cX12_by12 17 = .ok (.ireturn, 1) := by decide +kernel
theorem dX12_isPerson_0 : decode cX12_isPerson 0 = .ok (.iload_n 1, 1) := by decide +kernel
theorem dX12_isPerson_1 : decode cX12_isPerson 1 = .ok (.i2l, 1) := by decide +kernel
theorem dX12_isPerson_2 : decode cX12_isPerson 2 = .ok (.lconst 0, 1) := by decide +kernel
theorem dX12_isPerson_3 : decode cX12_isPerson 3 = .ok (.aload_n 0, 1) := by decide +kernel
theorem dX12_isPerson_4 : decode cX12_isPerson 4 = .ok (.getfield 40, 3) := by decide +kernel
theorem dX12_isPerson_7 : decode cX12_isPerson 7 = .ok (.iconst 0, 1) := by decide +kernel
theorem dX12_isPerson_8 : decode cX12_isPerson 8 = .ok (.iaload, 1) := by decide +kernel
theorem dX12_isPerson_9 : decode cX12_isPerson 9 = .ok (.iconst 1, 1) := by decide +kernel
theorem dX12_isPerson_10 : decode cX12_isPerson 10 = .ok (.isub, 1) := by decide +kernel
theorem dX12_isPerson_11 : decode cX12_isPerson 11 = .ok (.i2l, 1) := by decide +kernel
theorem dX12_isPerson_12 : decode cX12_isPerson 12 = .ok (.invokestatic 168, 3) := by decide +kernel
theorem dX12_isPerson_15 : decode cX12_isPerson 15 = .ok (.ireturn, 1) := by decide +kernel
theorem dX12_feed_0 : decode cX12_feed 0 = .ok (.aload_n 0, 1) := by decide +kernel
theorem dX12_feed_1 : decode cX12_feed 1 = .ok (.iconst 0, 1) := by decide +kernel
theorem dX12_feed_2 : decode cX12_feed 2 = .ok (.putfield 165, 3) := by decide +kernel
theorem dX12_feed_5 : decode cX12_feed 5 = .ok (.aload_n 0, 1) := by decide +kernel
theorem dX12_feed_6 : decode cX12_feed 6 = .ok (.getfield 172, 3) := by decide +kernel
theorem dX12_feed_9 : decode cX12_feed 9 = .ok (.bipush 20, 2) := by decide +kernel
theorem dX12_feed_11 : decode cX12_feed 11 = .ok (.iadd, 1) := by decide +kernel
theorem dX12_feed_12 : decode cX12_feed 12 = .ok (.sipush 600, 3) := by decide +kernel
theorem dX12_feed_15 : decode cX12_feed 15 = .ok (.if_icmp .le 5, 3) := by decide +kernel
theorem dX12_feed_18 : decode cX12_feed 18 = .ok (.iconst (-1), 1) := by decide +kernel
theorem dX12_feed_19 : decode cX12_feed 19 = .ok (.ireturn, 1) := by decide +kernel
theorem dX12_feed_20 : decode cX12_feed 20 = .ok (.iconst 0, 1) := by decide +kernel
theorem dX12_feed_21 : decode cX12_feed 21 = .ok (.istore 6, 2) := by decide +kernel
theorem dX12_feed_23 : decode cX12_feed 23 = .ok (.iload 6, 2) := by decide +kernel
theorem dX12_feed_25 : decode cX12_feed 25 = .ok (.bipush 20, 2) := by decide +kernel
theorem dX12_feed_27 : decode cX12_feed 27 = .ok (.if_icmp .ge 93, 3) := by decide +kernel
theorem dX12_feed_30 : decode cX12_feed 30 = .ok (.iload 6, 2) := by decide +kernel
theorem dX12_feed_32 : decode cX12_feed 32 = .ok (.iconst 4, 1) := by decide +kernel
theorem dX12_feed_33 : decode cX12_feed 33 = .ok (.if_icmp .ge 7, 3) := by decide +kernel
theorem dX12_feed_36 : decode cX12_feed 36 = .ok (.iload_n 1, 1) := by decide +kernel
theorem dX12_feed_37 : decode cX12_feed 37 = .ok (.goto 39, 3) := by decide +kernel
theorem dX12_feed_40 : decode cX12_feed 40 = .ok (.iload 6, 2) := by decide +kernel
theorem dX12_feed_42 : decode cX12_feed 42 = .ok (.bipush 8, 2) := by decide +kernel
theorem dX12_feed_44 : decode cX12_feed 44 = .ok (.if_icmp .ge 7, 3) := by decide +kernel
theorem dX12_feed_47 : decode cX12_feed 47 = .ok (.iload_n 2, 1) := by decide +kernel
theorem dX12_feed_48 : decode cX12_feed 48 = .ok (.goto 28, 3) := by decide +kernel
theorem dX12_feed_51 : decode cX12_feed 51 = .ok (.iload 6, 2) := by decide +kernel
theorem dX12_feed_53 : decode cX12_feed 53 = .ok (.bipush 12, 2) := by decide +kernel
theorem dX12_feed_55 : decode cX12_feed 55 = .ok (.if_icmp .ge 7, 3) := by decide +kernel
theorem dX12_feed_58 : decode cX12_feed 58 = .ok (.iload_n 3, 1) := by decide +kernel
theorem dX12_feed_59 : decode cX12_feed 59 = .ok (.goto 17, 3) := by decide +kernel
theorem dX12_feed_62 : decode cX12_feed 62 = .ok (.iload 6, 2) := by decide +kernel
theorem dX12_feed_64 : decode cX12_feed 64 = .ok (.bipush 16, 2) := by decide +kernel
theorem dX12_feed_66 : decode cX12_feed 66 = .ok (.if_icmp .ge 8, 3) := by decide +kernel
theorem dX12_feed_69 : decode cX12_feed 69 = .ok (.iload 4, 2) := by decide +kernel
theorem dX12_feed_71 : decode cX12_feed 71 = .ok (.goto 5, 3) := by decide +kernel
theorem dX12_feed_74 : decode cX12_feed 74 = .ok (.iload 5, 2) := by decide +kernel
theorem dX12_feed_76 : decode cX12_feed 76 = .ok (.istore 7, 2) := by decide +kernel
theorem dX12_feed_78 : decode cX12_feed 78 = .ok (.aload_n 0, 1) := by decide +kernel
theorem dX12_feed_79 : decode cX12_feed 79 = .ok (.getfield 73, 3) := by decide +kernel
theorem dX12_feed_82 : decode cX12_feed 82 = .ok (.aload_n 0, 1) := by decide +kernel
theorem dX12_feed_83 : decode cX12_feed 83 = .ok (.getfield 172, 3) := by decide +kernel
theorem dX12_feed_86 : decode cX12_feed 86 = .ok (.iload 7, 2) := by decide +kernel
theorem dX12_feed_88 : decode cX12_feed 88 = .ok (.bipush 24, 2) := by decide +kernel
theorem dX12_feed_90 : decode cX12_feed 90 = .ok (.bipush 8, 2) := by decide +kernel
theorem dX12_feed_92 : decode cX12_feed 92 = .ok (.iload 6, 2) := by decide +kernel
theorem dX12_feed_94 : decode cX12_feed 94 = .ok (.iconst 4, 1) := by decide +kernel
theorem dX12_feed_95 : decode cX12_feed 95 = .ok (.irem, 1) := by decide +kernel
theorem dX12_feed_96 : decode cX12_feed 96 = .ok (.imul, 1) := by decide +kernel
theorem dX12_feed_97 : decode cX12_feed 97 = .ok (.isub, 1) := by decide +kernel
theorem dX12_feed_98 : decode cX12_feed 98 = .ok (.ishr, 1) := by decide +kernel
theorem dX12_feed_99 : decode cX12_feed 99 = .ok (.sipush 255, 3) := by decide +kernel
theorem dX12_feed_102 : decode cX12_feed 102 = .ok (.iand, 1) := by decide +kernel
theorem dX12_feed_103 : decode cX12_feed 103 = .ok (.iastore, 1) := by decide +kernel
theorem dX12_feed_104 : decode cX12_feed 104 = .ok (.aload_n 0, 1) := by decide +kernel
theorem dX12_feed_105 : decode cX12_feed 105 = .ok (.dup, 1) := by decide +kernel
theorem dX12_feed_106 : decode cX12_feed 106 = .ok (.getfield 172, 3) := by decide +kernel
theorem dX12_feed_109 : decode cX12_feed 109 = .ok (.iconst 1, 1) := by decide +kernel
theorem dX12_feed_110 : decode cX12_feed 110 = .ok (.iadd, 1) := by decide +kernel
theorem dX12_feed_111 : decode cX12_feed 111 = .ok (.putfield 172, 3) := by decide +kernel
theorem dX12_feed_114 : decode cX12_feed 114 = .ok (.iinc 6 1, 3) := by decide +kernel
theorem dX12_feed_117 : decode cX12_feed 117 = .ok (.goto (-94), 3) := by decide +kernel
theorem dX12_feed_120 : decode cX12_feed 120 = .ok (.aload_n 0, 1) := by decide +kernel
theorem dX12_feed_121 : decode cX12_feed 121 = .ok (.getfield 172, 3) := by decide +kernel
theorem dX12_feed_124 : decode cX12_feed 124 = .ok (.ireturn, 1) := by decide +kernel
theorem dX12_byteAt_0 : decode cX12_byteAt 0 = .ok (.iload_n 1, 1) := by decide +kernel
theorem dX12_byteAt_1 : decode cX12_byteAt 1 = .ok (.aload_n 0, 1) := by decide +kernel
theorem dX12_byteAt_2 : decode cX12_byteAt 2 = .ok (.getfield 175, 3) := by decide +kernel
theorem dX12_byteAt_5 : decode cX12_byteAt 5 = .ok (.if_icmp .ge 12, 3) := by decide +kernel
theorem dX12_byteAt_8 : decode cX12_byteAt 8 = .ok (.aload_n 0, 1) := by decide +kernel
theorem dX12_byteAt_9 : decode cX12_byteAt 9 = .ok (.getfield 73, 3) := by decide +kernel
theorem dX12_byteAt_12 : decode cX12_byteAt 12 = .ok (.iload_n 1, 1) := by decide +kernel
theorem dX12_byteAt_13 : decode cX12_byteAt 13 = .ok (.iaload, 1) := by decide +kernel
theorem dX12_byteAt_14 : decode cX12_byteAt 14 = .ok (.goto 4, 3) := by decide +kernel
theorem dX12_byteAt_17 : decode cX12_byteAt 17 = .ok (.iconst (-1), 1) := by decide +kernel
theorem dX12_byteAt_18 : decode cX12_byteAt 18 = .ok (.ireturn, 1) := by decide +kernel
theorem dX12_isLetter_0 : decode cX12_isLetter 0 = .ok (.iload_n 0, 1) := by decide +kernel
theorem dX12_isLetter_1 : decode cX12_isLetter 1 = .ok (.bipush 97, 2) := by decide +kernel
theorem dX12_isLetter_3 : decode cX12_isLetter 3 = .ok (.if_icmp .lt 13, 3) := by decide +kernel
theorem dX12_isLetter_6 : decode cX12_isLetter 6 = .ok (.iload_n 0, 1) := by decide +kernel
theorem dX12_isLetter_7 : decode cX12_isLetter 7 = .ok (.bipush 122, 2) := by decide +kernel
theorem dX12_isLetter_9 : decode cX12_isLetter 9 = .ok (.if_icmp .gt 7, 3) := by decide +kernel
theorem dX12_isLetter_12 : decode cX12_isLetter 12 = .ok (.iconst 1, 1) := by decide +kernel
theorem dX12_isLetter_13 : decode cX12_isLetter 13 = .ok (.goto 4, 3) := by decide +kernel
theorem dX12_isLetter_16 : decode cX12_isLetter 16 = .ok (.iconst 0, 1) := by decide +kernel
theorem dX12_isLetter_17 : decode cX12_isLetter 17 = .ok (.ireturn, 1) := by decide +kernel
theorem dX12_isDigit_0 : decode cX12_isDigit 0 = .ok (.iload_n 0, 1) := by decide +kernel
theorem dX12_isDigit_1 : decode cX12_isDigit 1 = .ok (.bipush 48, 2) := by decide +kernel
theorem dX12_isDigit_3 : decode cX12_isDigit 3 = .ok (.if_icmp .lt 13, 3) := by decide +kernel
theorem dX12_isDigit_6 : decode cX12_isDigit 6 = .ok (.iload_n 0, 1) := by decide +kernel
theorem dX12_isDigit_7 : decode cX12_isDigit 7 = .ok (.bipush 57, 2) := by decide +kernel
theorem dX12_isDigit_9 : decode cX12_isDigit 9 = .ok (.if_icmp .gt 7, 3) := by decide +kernel
theorem dX12_isDigit_12 : decode cX12_isDigit 12 = .ok (.iconst 1, 1) := by decide +kernel
theorem dX12_isDigit_13 : decode cX12_isDigit 13 = .ok (.goto 4, 3) := by decide +kernel
theorem dX12_isDigit_16 : decode cX12_isDigit 16 = .ok (.iconst 0, 1) := by decide +kernel
theorem dX12_isDigit_17 : decode cX12_isDigit 17 = .ok (.ireturn, 1) := by decide +kernel
theorem dX12_isMark_0 : decode cX12_isMark 0 = .ok (.iload_n 0, 1) := by decide +kernel
theorem dX12_isMark_1 : decode cX12_isMark 1 = .ok (.bipush 59, 2) := by decide +kernel
theorem dX12_isMark_3 : decode cX12_isMark 3 = .ok (.if_icmp .eq 51, 3) := by decide +kernel
theorem dX12_isMark_6 : decode cX12_isMark 6 = .ok (.iload_n 0, 1) := by decide +kernel
theorem dX12_isMark_7 : decode cX12_isMark 7 = .ok (.bipush 40, 2) := by decide +kernel
theorem dX12_isMark_9 : decode cX12_isMark 9 = .ok (.if_icmp .eq 45, 3) := by decide +kernel
theorem dX12_isMark_12 : decode cX12_isMark 12 = .ok (.iload_n 0, 1) := by decide +kernel
theorem dX12_isMark_13 : decode cX12_isMark 13 = .ok (.bipush 41, 2) := by decide +kernel
theorem dX12_isMark_15 : decode cX12_isMark 15 = .ok (.if_icmp .eq 39, 3) := by decide +kernel
theorem dX12_isMark_18 : decode cX12_isMark 18 = .ok (.iload_n 0, 1) := by decide +kernel
theorem dX12_isMark_19 : decode cX12_isMark 19 = .ok (.bipush 43, 2) := by decide +kernel
theorem dX12_isMark_21 : decode cX12_isMark 21 = .ok (.if_icmp .eq 33, 3) := by decide +kernel
theorem dX12_isMark_24 : decode cX12_isMark 24 = .ok (.iload_n 0, 1) := by decide +kernel
theorem dX12_isMark_25 : decode cX12_isMark 25 = .ok (.bipush 45, 2) := by decide +kernel
theorem dX12_isMark_27 : decode cX12_isMark 27 = .ok (.if_icmp .eq 27, 3) := by decide +kernel
theorem dX12_isMark_30 : decode cX12_isMark 30 = .ok (.iload_n 0, 1) := by decide +kernel
theorem dX12_isMark_31 : decode cX12_isMark 31 = .ok (.bipush 42, 2) := by decide +kernel
theorem dX12_isMark_33 : decode cX12_isMark 33 = .ok (.if_icmp .eq 21, 3) := by decide +kernel
theorem dX12_isMark_36 : decode cX12_isMark 36 = .ok (.iload_n 0, 1) := by decide +kernel
theorem dX12_isMark_37 : decode cX12_isMark 37 = .ok (.bipush 47, 2) := by decide +kernel
theorem dX12_isMark_39 : decode cX12_isMark 39 = .ok (.if_icmp .eq 15, 3) := by decide +kernel
theorem dX12_isMark_42 : decode cX12_isMark 42 = .ok (.iload_n 0, 1) := by decide +kernel
theorem dX12_isMark_43 : decode cX12_isMark 43 = .ok (.bipush 60, 2) := by decide +kernel
theorem dX12_isMark_45 : decode cX12_isMark 45 = .ok (.if_icmp .eq 9, 3) := by decide +kernel
theorem dX12_isMark_48 : decode cX12_isMark 48 = .ok (.iload_n 0, 1) := by decide +kernel
theorem dX12_isMark_49 : decode cX12_isMark 49 = .ok (.bipush 61, 2) := by decide +kernel
theorem dX12_isMark_51 : decode cX12_isMark 51 = .ok (.if_icmp .ne 7, 3) := by decide +kernel
theorem dX12_isMark_54 : decode cX12_isMark 54 = .ok (.iconst 1, 1) := by decide +kernel
theorem dX12_isMark_55 : decode cX12_isMark 55 = .ok (.goto 4, 3) := by decide +kernel
theorem dX12_isMark_58 : decode cX12_isMark 58 = .ok (.iconst 0, 1) := by decide +kernel
theorem dX12_isMark_59 : decode cX12_isMark 59 = .ok (.ireturn, 1) := by decide +kernel
theorem dX12_stepOn_0 : decode cX12_stepOn 0 = .ok (.aload_n 0, 1) := by decide +kernel
theorem dX12_stepOn_1 : decode cX12_stepOn 1 = .ok (.aload_n 0, 1) := by decide +kernel
theorem dX12_stepOn_2 : decode cX12_stepOn 2 = .ok (.getfield 178, 3) := by decide +kernel
theorem dX12_stepOn_5 : decode cX12_stepOn 5 = .ok (.invokevirtual 181, 3) := by decide +kernel
theorem dX12_stepOn_8 : decode cX12_stepOn 8 = .ok (.bipush 32, 2) := by decide +kernel
theorem dX12_stepOn_10 : decode cX12_stepOn 10 = .ok (.if_icmp .eq 16, 3) := by decide +kernel
theorem dX12_stepOn_13 : decode cX12_stepOn 13 = .ok (.aload_n 0, 1) := by decide +kernel
theorem dX12_stepOn_14 : decode cX12_stepOn 14 = .ok (.aload_n 0, 1) := by decide +kernel
theorem dX12_stepOn_15 : decode cX12_stepOn 15 = .ok (.getfield 178, 3) := by decide +kernel
theorem dX12_stepOn_18 : decode cX12_stepOn 18 = .ok (.invokevirtual 181, 3) := by decide +kernel
theorem dX12_stepOn_21 : decode cX12_stepOn 21 = .ok (.bipush 10, 2) := by decide +kernel
theorem dX12_stepOn_23 : decode cX12_stepOn 23 = .ok (.if_icmp .ne 16, 3) := by decide +kernel
theorem dX12_stepOn_26 : decode cX12_stepOn 26 = .ok (.aload_n 0, 1) := by decide +kernel
theorem dX12_stepOn_27 : decode cX12_stepOn 27 = .ok (.dup, 1) := by decide +kernel
theorem dX12_stepOn_28 : decode cX12_stepOn 28 = .ok (.getfield 178, 3) := by decide +kernel
theorem dX12_stepOn_31 : decode cX12_stepOn 31 = .ok (.iconst 1, 1) := by decide +kernel
theorem dX12_stepOn_32 : decode cX12_stepOn 32 = .ok (.iadd, 1) := by decide +kernel
theorem dX12_stepOn_33 : decode cX12_stepOn 33 = .ok (.putfield 178, 3) := by decide +kernel
theorem dX12_stepOn_36 : decode cX12_stepOn 36 = .ok (.goto (-36), 3) := by decide +kernel
theorem dX12_stepOn_39 : decode cX12_stepOn 39 = .ok (.aload_n 0, 1) := by decide +kernel
theorem dX12_stepOn_40 : decode cX12_stepOn 40 = .ok (.aload_n 0, 1) := by decide +kernel
theorem dX12_stepOn_41 : decode cX12_stepOn 41 = .ok (.getfield 178, 3) := by decide +kernel
theorem dX12_stepOn_44 : decode cX12_stepOn 44 = .ok (.putfield 185, 3) := by decide +kernel
theorem dX12_stepOn_47 : decode cX12_stepOn 47 = .ok (.aload_n 0, 1) := by decide +kernel
theorem dX12_stepOn_48 : decode cX12_stepOn 48 = .ok (.aload_n 0, 1) := by decide +kernel
theorem dX12_stepOn_49 : decode cX12_stepOn 49 = .ok (.getfield 178, 3) := by decide +kernel
theorem dX12_stepOn_52 : decode cX12_stepOn 52 = .ok (.invokevirtual 181, 3) := by decide +kernel
theorem dX12_stepOn_55 : decode cX12_stepOn 55 = .ok (.istore_n 1, 1) := by decide +kernel
theorem dX12_stepOn_56 : decode cX12_stepOn 56 = .ok (.iload_n 1, 1) := by decide +kernel
theorem dX12_stepOn_57 : decode cX12_stepOn 57 = .ok (.iconst (-1), 1) := by decide +kernel
theorem dX12_stepOn_58 : decode cX12_stepOn 58 = .ok (.if_icmp .ne 11, 3) := by decide +kernel
theorem dX12_stepOn_61 : decode cX12_stepOn 61 = .ok (.aload_n 0, 1) := by decide +kernel
theorem dX12_stepOn_62 : decode cX12_stepOn 62 = .ok (.iconst 0, 1) := by decide +kernel
theorem dX12_stepOn_63 : decode cX12_stepOn 63 = .ok (.putfield 188, 3) := by decide +kernel
theorem dX12_stepOn_66 : decode cX12_stepOn 66 = .ok (.goto 146, 3) := by decide +kernel
theorem dX12_stepOn_69 : decode cX12_stepOn 69 = .ok (.iload_n 1, 1) := by decide +kernel
theorem dX12_stepOn_70 : decode cX12_stepOn 70 = .ok (.invokestatic 191, 3) := by decide +kernel
theorem dX12_stepOn_73 : decode cX12_stepOn 73 = .ok (.ifCond .eq 38, 3) := by decide +kernel
theorem dX12_stepOn_76 : decode cX12_stepOn 76 = .ok (.aload_n 0, 1) := by decide +kernel
theorem dX12_stepOn_77 : decode cX12_stepOn 77 = .ok (.aload_n 0, 1) := by decide +kernel
theorem dX12_stepOn_78 : decode cX12_stepOn 78 = .ok (.getfield 178, 3) := by decide +kernel
theorem dX12_stepOn_81 : decode cX12_stepOn 81 = .ok (.invokevirtual 181, 3) := by decide +kernel
theorem dX12_stepOn_84 : decode cX12_stepOn 84 = .ok (.invokestatic 191, 3) := by decide +kernel
theorem dX12_stepOn_87 : decode cX12_stepOn 87 = .ok (.ifCond .eq 16, 3) := by decide +kernel
theorem dX12_stepOn_90 : decode cX12_stepOn 90 = .ok (.aload_n 0, 1) := by decide +kernel
theorem dX12_stepOn_91 : decode cX12_stepOn 91 = .ok (.dup, 1) := by decide +kernel
theorem dX12_stepOn_92 : decode cX12_stepOn 92 = .ok (.getfield 178, 3) := by decide +kernel
theorem dX12_stepOn_95 : decode cX12_stepOn 95 = .ok (.iconst 1, 1) := by decide +kernel
theorem dX12_stepOn_96 : decode cX12_stepOn 96 = .ok (.iadd, 1) := by decide +kernel
theorem dX12_stepOn_97 : decode cX12_stepOn 97 = .ok (.putfield 178, 3) := by decide +kernel
theorem dX12_stepOn_100 : decode cX12_stepOn 100 = .ok (.goto (-24), 3) := by decide +kernel
theorem dX12_stepOn_103 : decode cX12_stepOn 103 = .ok (.aload_n 0, 1) := by decide +kernel
theorem dX12_stepOn_104 : decode cX12_stepOn 104 = .ok (.iconst 1, 1) := by decide +kernel
theorem dX12_stepOn_105 : decode cX12_stepOn 105 = .ok (.putfield 188, 3) := by decide +kernel
theorem dX12_stepOn_108 : decode cX12_stepOn 108 = .ok (.goto 104, 3) := by decide +kernel
theorem dX12_stepOn_111 : decode cX12_stepOn 111 = .ok (.iload_n 1, 1) := by decide +kernel
theorem dX12_stepOn_112 : decode cX12_stepOn 112 = .ok (.invokestatic 195, 3) := by decide +kernel
theorem dX12_stepOn_115 : decode cX12_stepOn 115 = .ok (.ifCond .eq 71, 3) := by decide +kernel
theorem dX12_stepOn_118 : decode cX12_stepOn 118 = .ok (.aload_n 0, 1) := by decide +kernel
theorem dX12_stepOn_119 : decode cX12_stepOn 119 = .ok (.iconst 0, 1) := by decide +kernel
theorem dX12_stepOn_120 : decode cX12_stepOn 120 = .ok (.putfield 198, 3) := by decide +kernel
theorem dX12_stepOn_123 : decode cX12_stepOn 123 = .ok (.aload_n 0, 1) := by decide +kernel
theorem dX12_stepOn_124 : decode cX12_stepOn 124 = .ok (.aload_n 0, 1) := by decide +kernel
theorem dX12_stepOn_125 : decode cX12_stepOn 125 = .ok (.getfield 178, 3) := by decide +kernel
theorem dX12_stepOn_128 : decode cX12_stepOn 128 = .ok (.invokevirtual 181, 3) := by decide +kernel
theorem dX12_stepOn_131 : decode cX12_stepOn 131 = .ok (.invokestatic 195, 3) := by decide +kernel
theorem dX12_stepOn_134 : decode cX12_stepOn 134 = .ok (.ifCond .eq 44, 3) := by decide +kernel
theorem dX12_stepOn_137 : decode cX12_stepOn 137 = .ok (.aload_n 0, 1) := by decide +kernel
theorem dX12_stepOn_138 : decode cX12_stepOn 138 = .ok (.ldc 201, 2) := by decide +kernel
theorem dX12_stepOn_140 : decode cX12_stepOn 140 = .ok (.bipush 10, 2) := by decide +kernel
theorem dX12_stepOn_142 : decode cX12_stepOn 142 = .ok (.aload_n 0, 1) := by decide +kernel
theorem dX12_stepOn_143 : decode cX12_stepOn 143 = .ok (.getfield 198, 3) := by decide +kernel
theorem dX12_stepOn_146 : decode cX12_stepOn 146 = .ok (.imul, 1) := by decide +kernel
theorem dX12_stepOn_147 : decode cX12_stepOn 147 = .ok (.aload_n 0, 1) := by decide +kernel
theorem dX12_stepOn_148 : decode cX12_stepOn 148 = .ok (.aload_n 0, 1) := by decide +kernel
theorem dX12_stepOn_149 : decode cX12_stepOn 149 = .ok (.getfield 178, 3) := by decide +kernel
theorem dX12_stepOn_152 : decode cX12_stepOn 152 = .ok (.invokevirtual 181, 3) := by decide +kernel
theorem dX12_stepOn_155 : decode cX12_stepOn 155 = .ok (.iadd, 1) := by decide +kernel
theorem dX12_stepOn_156 : decode cX12_stepOn 156 = .ok (.bipush 48, 2) := by decide +kernel
theorem dX12_stepOn_158 : decode cX12_stepOn 158 = .ok (.isub, 1) := by decide +kernel
theorem dX12_stepOn_159 : decode cX12_stepOn 159 = .ok (.invokestatic 202, 3) := by decide +kernel
theorem dX12_stepOn_162 : decode cX12_stepOn 162 = .ok (.putfield 198, 3) := by decide +kernel
theorem dX12_stepOn_165 : decode cX12_stepOn 165 = .ok (.aload_n 0, 1) := by decide +kernel
theorem dX12_stepOn_166 : decode cX12_stepOn 166 = .ok (.dup, 1) := by decide +kernel
theorem dX12_stepOn_167 : decode cX12_stepOn 167 = .ok (.getfield 178, 3) := by decide +kernel
theorem dX12_stepOn_170 : decode cX12_stepOn 170 = .ok (.iconst 1, 1) := by decide +kernel
theorem dX12_stepOn_171 : decode cX12_stepOn 171 = .ok (.iadd, 1) := by decide +kernel
theorem dX12_stepOn_172 : decode cX12_stepOn 172 = .ok (.putfield 178, 3) := by decide +kernel
theorem dX12_stepOn_175 : decode cX12_stepOn 175 = .ok (.goto (-52), 3) := by decide +kernel
theorem dX12_stepOn_178 : decode cX12_stepOn 178 = .ok (.aload_n 0, 1) := by decide +kernel
theorem dX12_stepOn_179 : decode cX12_stepOn 179 = .ok (.iconst 2, 1) := by decide +kernel
theorem dX12_stepOn_180 : decode cX12_stepOn 180 = .ok (.putfield 188, 3) := by decide +kernel
theorem dX12_stepOn_183 : decode cX12_stepOn 183 = .ok (.goto 29, 3) := by decide +kernel
theorem dX12_stepOn_186 : decode cX12_stepOn 186 = .ok (.aload_n 0, 1) := by decide +kernel
theorem dX12_stepOn_187 : decode cX12_stepOn 187 = .ok (.dup, 1) := by decide +kernel
theorem dX12_stepOn_188 : decode cX12_stepOn 188 = .ok (.getfield 178, 3) := by decide +kernel
theorem dX12_stepOn_191 : decode cX12_stepOn 191 = .ok (.iconst 1, 1) := by decide +kernel
theorem dX12_stepOn_192 : decode cX12_stepOn 192 = .ok (.iadd, 1) := by decide +kernel
theorem dX12_stepOn_193 : decode cX12_stepOn 193 = .ok (.putfield 178, 3) := by decide +kernel
theorem dX12_stepOn_196 : decode cX12_stepOn 196 = .ok (.aload_n 0, 1) := by decide +kernel
theorem dX12_stepOn_197 : decode cX12_stepOn 197 = .ok (.iload_n 1, 1) := by decide +kernel
theorem dX12_stepOn_198 : decode cX12_stepOn 198 = .ok (.invokestatic 208, 3) := by decide +kernel
theorem dX12_stepOn_201 : decode cX12_stepOn 201 = .ok (.ifCond .eq 7, 3) := by decide +kernel
theorem dX12_stepOn_204 : decode cX12_stepOn 204 = .ok (.iconst 3, 1) := by decide +kernel
theorem dX12_stepOn_205 : decode cX12_stepOn 205 = .ok (.goto 4, 3) := by decide +kernel
theorem dX12_stepOn_208 : decode cX12_stepOn 208 = .ok (.iconst 4, 1) := by decide +kernel
theorem dX12_stepOn_209 : decode cX12_stepOn 209 = .ok (.putfield 188, 3) := by decide +kernel
theorem dX12_stepOn_212 : decode cX12_stepOn 212 = .ok (.aload_n 0, 1) := by decide +kernel
theorem dX12_stepOn_213 : decode cX12_stepOn 213 = .ok (.aload_n 0, 1) := by decide +kernel
theorem dX12_stepOn_214 : decode cX12_stepOn 214 = .ok (.getfield 178, 3) := by decide +kernel
theorem dX12_stepOn_217 : decode cX12_stepOn 217 = .ok (.putfield 211, 3) := by decide +kernel
theorem dX12_stepOn_220 : decode cX12_stepOn 220 = .ok (.return_, 1) := by decide +kernel
theorem dX12_wrong_0 : decode cX12_wrong 0 = .ok (.aload_n 0, 1) := by decide +kernel
theorem dX12_wrong_1 : decode cX12_wrong 1 = .ok (.getfield 214, 3) := by decide +kernel
theorem dX12_wrong_4 : decode cX12_wrong 4 = .ok (.ifCond .eq 4, 3) := by decide +kernel
theorem dX12_wrong_7 : decode cX12_wrong 7 = .ok (.return_, 1) := by decide +kernel
theorem dX12_wrong_8 : decode cX12_wrong 8 = .ok (.aload_n 0, 1) := by decide +kernel
theorem dX12_wrong_9 : decode cX12_wrong 9 = .ok (.iload_n 1, 1) := by decide +kernel
theorem dX12_wrong_10 : decode cX12_wrong 10 = .ok (.putfield 214, 3) := by decide +kernel
theorem dX12_wrong_13 : decode cX12_wrong 13 = .ok (.aload_n 0, 1) := by decide +kernel
theorem dX12_wrong_14 : decode cX12_wrong 14 = .ok (.aload_n 0, 1) := by decide +kernel
theorem dX12_wrong_15 : decode cX12_wrong 15 = .ok (.getfield 185, 3) := by decide +kernel
theorem dX12_wrong_18 : decode cX12_wrong 18 = .ok (.putfield 217, 3) := by decide +kernel
theorem dX12_wrong_21 : decode cX12_wrong 21 = .ok (.return_, 1) := by decide +kernel
theorem dX12_is_0 : decode cX12_is 0 = .ok (.aload_n 0, 1) := by decide +kernel
theorem dX12_is_1 : decode cX12_is 1 = .ok (.getfield 214, 3) := by decide +kernel
theorem dX12_is_4 : decode cX12_is 4 = .ok (.ifCond .ne 31, 3) := by decide +kernel
theorem dX12_is_7 : decode cX12_is 7 = .ok (.aload_n 0, 1) := by decide +kernel
theorem dX12_is_8 : decode cX12_is 8 = .ok (.getfield 188, 3) := by decide +kernel
theorem dX12_is_11 : decode cX12_is 11 = .ok (.iconst 1, 1) := by decide +kernel
theorem dX12_is_12 : decode cX12_is 12 = .ok (.if_icmp .ne 23, 3) := by decide +kernel
theorem dX12_is_15 : decode cX12_is 15 = .ok (.aload_n 1, 1) := by decide +kernel
theorem dX12_is_16 : decode cX12_is 16 = .ok (.invokevirtual 220, 3) := by decide +kernel
theorem dX12_is_19 : decode cX12_is 19 = .ok (.aload_n 0, 1) := by decide +kernel
theorem dX12_is_20 : decode cX12_is 20 = .ok (.getfield 211, 3) := by decide +kernel
theorem dX12_is_23 : decode cX12_is 23 = .ok (.aload_n 0, 1) := by decide +kernel
theorem dX12_is_24 : decode cX12_is 24 = .ok (.getfield 185, 3) := by decide +kernel
theorem dX12_is_27 : decode cX12_is 27 = .ok (.isub, 1) := by decide +kernel
theorem dX12_is_28 : decode cX12_is 28 = .ok (.if_icmp .ne 7, 3) := by decide +kernel
theorem dX12_is_31 : decode cX12_is 31 = .ok (.iconst 1, 1) := by decide +kernel
theorem dX12_is_32 : decode cX12_is 32 = .ok (.goto 4, 3) := by decide +kernel
theorem dX12_is_35 : decode cX12_is 35 = .ok (.iconst 0, 1) := by decide +kernel
theorem dX12_is_36 : decode cX12_is 36 = .ok (.istore_n 2, 1) := by decide +kernel
theorem dX12_is_37 : decode cX12_is 37 = .ok (.iconst 0, 1) := by decide +kernel
theorem dX12_is_38 : decode cX12_is 38 = .ok (.istore_n 3, 1) := by decide +kernel
theorem dX12_is_39 : decode cX12_is 39 = .ok (.iload_n 2, 1) := by decide +kernel
theorem dX12_is_40 : decode cX12_is 40 = .ok (.ifCond .eq 42, 3) := by decide +kernel
theorem dX12_is_43 : decode cX12_is 43 = .ok (.iload_n 3, 1) := by decide +kernel
theorem dX12_is_44 : decode cX12_is 44 = .ok (.aload_n 1, 1) := by decide +kernel
theorem dX12_is_45 : decode cX12_is 45 = .ok (.invokevirtual 220, 3) := by decide +kernel
theorem dX12_is_48 : decode cX12_is 48 = .ok (.if_icmp .ge 34, 3) := by decide +kernel
theorem dX12_is_51 : decode cX12_is 51 = .ok (.aload_n 1, 1) := by decide +kernel
theorem dX12_is_52 : decode cX12_is 52 = .ok (.iload_n 3, 1) := by decide +kernel
theorem dX12_is_53 : decode cX12_is 53 = .ok (.invokevirtual 224, 3) := by decide +kernel
theorem dX12_is_56 : decode cX12_is 56 = .ok (.aload_n 0, 1) := by decide +kernel
theorem dX12_is_57 : decode cX12_is 57 = .ok (.getfield 73, 3) := by decide +kernel
theorem dX12_is_60 : decode cX12_is 60 = .ok (.aload_n 0, 1) := by decide +kernel
theorem dX12_is_61 : decode cX12_is 61 = .ok (.getfield 185, 3) := by decide +kernel
theorem dX12_is_64 : decode cX12_is 64 = .ok (.iload_n 3, 1) := by decide +kernel
theorem dX12_is_65 : decode cX12_is 65 = .ok (.iadd, 1) := by decide +kernel
theorem dX12_is_66 : decode cX12_is 66 = .ok (.iaload, 1) := by decide +kernel
theorem dX12_is_67 : decode cX12_is 67 = .ok (.if_icmp .ne 7, 3) := by decide +kernel
theorem dX12_is_70 : decode cX12_is 70 = .ok (.iconst 1, 1) := by decide +kernel
theorem dX12_is_71 : decode cX12_is 71 = .ok (.goto 4, 3) := by decide +kernel
theorem dX12_is_74 : decode cX12_is 74 = .ok (.iconst 0, 1) := by decide +kernel
theorem dX12_is_75 : decode cX12_is 75 = .ok (.istore_n 2, 1) := by decide +kernel
theorem dX12_is_76 : decode cX12_is 76 = .ok (.iinc 3 1, 3) := by decide +kernel
theorem dX12_is_79 : decode cX12_is 79 = .ok (.goto (-40), 3) := by decide +kernel
theorem dX12_is_82 : decode cX12_is 82 = .ok (.iload_n 2, 1) := by decide +kernel
theorem dX12_is_83 : decode cX12_is 83 = .ok (.ireturn, 1) := by decide +kernel
theorem dX12_which_0 : decode cX12_which 0 = .ok (.iconst 0, 1) := by decide +kernel
theorem dX12_which_1 : decode cX12_which 1 = .ok (.istore_n 2, 1) := by decide +kernel
theorem dX12_which_2 : decode cX12_which 2 = .ok (.iload_n 2, 1) := by decide +kernel
theorem dX12_which_3 : decode cX12_which 3 = .ok (.aload_n 1, 1) := by decide +kernel
theorem dX12_which_4 : decode cX12_which 4 = .ok (.arraylength, 1) := by decide +kernel
theorem dX12_which_5 : decode cX12_which 5 = .ok (.if_icmp .ge 21, 3) := by decide +kernel
theorem dX12_which_8 : decode cX12_which 8 = .ok (.aload_n 0, 1) := by decide +kernel
theorem dX12_which_9 : decode cX12_which 9 = .ok (.aload_n 1, 1) := by decide +kernel
theorem dX12_which_10 : decode cX12_which 10 = .ok (.iload_n 2, 1) := by decide +kernel
theorem dX12_which_11 : decode cX12_which 11 = .ok (.aaload, 1) := by decide +kernel
theorem dX12_which_12 : decode cX12_which 12 = .ok (.invokevirtual 228, 3) := by decide +kernel
theorem dX12_which_15 : decode cX12_which 15 = .ok (.ifCond .eq 5, 3) := by decide +kernel
theorem dX12_which_18 : decode cX12_which 18 = .ok (.iload_n 2, 1) := by decide +kernel
theorem dX12_which_19 : decode cX12_which 19 = .ok (.ireturn, 1) := by decide +kernel
theorem dX12_which_20 : decode cX12_which 20 = .ok (.iinc 2 1, 3) := by decide +kernel
theorem dX12_which_23 : decode cX12_which 23 = .ok (.goto (-21), 3) := by decide +kernel
theorem dX12_which_26 : decode cX12_which 26 = .ok (.iconst (-1), 1) := by decide +kernel
theorem dX12_which_27 : decode cX12_which 27 = .ok (.ireturn, 1) := by decide +kernel
theorem dX12_isMarked_0 : decode cX12_isMarked 0 = .ok (.aload_n 0, 1) := by decide +kernel
theorem dX12_isMarked_1 : decode cX12_isMarked 1 = .ok (.getfield 214, 3) := by decide +kernel
theorem dX12_isMarked_4 : decode cX12_isMarked 4 = .ok (.ifCond .ne 28, 3) := by decide +kernel
theorem dX12_isMarked_7 : decode cX12_isMarked 7 = .ok (.aload_n 0, 1) := by decide +kernel
theorem dX12_isMarked_8 : decode cX12_isMarked 8 = .ok (.getfield 188, 3) := by decide +kernel
theorem dX12_isMarked_11 : decode cX12_isMarked 11 = .ok (.iconst 3, 1) := by decide +kernel
theorem dX12_isMarked_12 : decode cX12_isMarked 12 = .ok (.if_icmp .ne 20, 3) := by decide +kernel
theorem dX12_isMarked_15 : decode cX12_isMarked 15 = .ok (.aload_n 0, 1) := by decide +kernel
theorem dX12_isMarked_16 : decode cX12_isMarked 16 = .ok (.getfield 73, 3) := by decide +kernel
theorem dX12_isMarked_19 : decode cX12_isMarked 19 = .ok (.aload_n 0, 1) := by decide +kernel
theorem dX12_isMarked_20 : decode cX12_isMarked 20 = .ok (.getfield 185, 3) := by decide +kernel
theorem dX12_isMarked_23 : decode cX12_isMarked 23 = .ok (.iaload, 1) := by decide +kernel
theorem dX12_isMarked_24 : decode cX12_isMarked 24 = .ok (.iload_n 1, 1) := by decide +kernel
theorem dX12_isMarked_25 : decode cX12_isMarked 25 = .ok (.if_icmp .ne 7, 3) := by decide +kernel
theorem dX12_isMarked_28 : decode cX12_isMarked 28 = .ok (.iconst 1, 1) := by decide +kernel
theorem dX12_isMarked_29 : decode cX12_isMarked 29 = .ok (.goto 4, 3) := by decide +kernel
theorem dX12_isMarked_32 : decode cX12_isMarked 32 = .ok (.iconst 0, 1) := by decide +kernel
theorem dX12_isMarked_33 : decode cX12_isMarked 33 = .ok (.ireturn, 1) := by decide +kernel
theorem dX12_mark_0 : decode cX12_mark 0 = .ok (.aload_n 0, 1) := by decide +kernel
theorem dX12_mark_1 : decode cX12_mark 1 = .ok (.getfield 214, 3) := by decide +kernel
theorem dX12_mark_4 : decode cX12_mark 4 = .ok (.ifCond .ne 16, 3) := by decide +kernel
theorem dX12_mark_7 : decode cX12_mark 7 = .ok (.aload_n 0, 1) := by decide +kernel
theorem dX12_mark_8 : decode cX12_mark 8 = .ok (.iload_n 1, 1) := by decide +kernel
theorem dX12_mark_9 : decode cX12_mark 9 = .ok (.invokevirtual 232, 3) := by decide +kernel
theorem dX12_mark_12 : decode cX12_mark 12 = .ok (.ifCond .ne 8, 3) := by decide +kernel
theorem dX12_mark_15 : decode cX12_mark 15 = .ok (.aload_n 0, 1) := by decide +kernel
theorem dX12_mark_16 : decode cX12_mark 16 = .ok (.iconst 1, 1) := by decide +kernel
theorem dX12_mark_17 : decode cX12_mark 17 = .ok (.invokevirtual 235, 3) := by decide +kernel
theorem dX12_mark_20 : decode cX12_mark 20 = .ok (.aload_n 0, 1) := by decide +kernel
theorem dX12_mark_21 : decode cX12_mark 21 = .ok (.getfield 214, 3) := by decide +kernel
theorem dX12_mark_24 : decode cX12_mark 24 = .ok (.ifCond .ne 7, 3) := by decide +kernel
theorem dX12_mark_27 : decode cX12_mark 27 = .ok (.aload_n 0, 1) := by decide +kernel
theorem dX12_mark_28 : decode cX12_mark 28 = .ok (.invokevirtual 239, 3) := by decide +kernel
theorem dX12_mark_31 : decode cX12_mark 31 = .ok (.return_, 1) := by decide +kernel
theorem dX12_numberNow_0 : decode cX12_numberNow 0 = .ok (.aload_n 0, 1) := by decide +kernel
theorem dX12_numberNow_1 : decode cX12_numberNow 1 = .ok (.getfield 214, 3) := by decide +kernel
theorem dX12_numberNow_4 : decode cX12_numberNow 4 = .ok (.ifCond .eq 5, 3) := by decide +kernel
theorem dX12_numberNow_7 : decode cX12_numberNow 7 = .ok (.iconst 0, 1) := by decide +kernel
theorem dX12_numberNow_8 : decode cX12_numberNow 8 = .ok (.ireturn, 1) := by decide +kernel
theorem dX12_numberNow_9 : decode cX12_numberNow 9 = .ok (.aload_n 0, 1) := by decide +kernel
theorem dX12_numberNow_10 : decode cX12_numberNow 10 = .ok (.getfield 188, 3) := by decide +kernel
theorem dX12_numberNow_13 : decode cX12_numberNow 13 = .ok (.iconst 2, 1) := by decide +kernel
theorem dX12_numberNow_14 : decode cX12_numberNow 14 = .ok (.if_icmp .eq 11, 3) := by decide +kernel
theorem dX12_numberNow_17 : decode cX12_numberNow 17 = .ok (.aload_n 0, 1) := by decide +kernel
theorem dX12_numberNow_18 : decode cX12_numberNow 18 = .ok (.iconst 1, 1) := by decide +kernel
theorem dX12_numberNow_19 : decode cX12_numberNow 19 = .ok (.invokevirtual 235, 3) := by decide +kernel
theorem dX12_numberNow_22 : decode cX12_numberNow 22 = .ok (.goto 37, 3) := by decide +kernel
theorem dX12_numberNow_25 : decode cX12_numberNow 25 = .ok (.aload_n 0, 1) := by decide +kernel
theorem dX12_numberNow_26 : decode cX12_numberNow 26 = .ok (.getfield 211, 3) := by decide +kernel
theorem dX12_numberNow_29 : decode cX12_numberNow 29 = .ok (.aload_n 0, 1) := by decide +kernel
theorem dX12_numberNow_30 : decode cX12_numberNow 30 = .ok (.getfield 185, 3) := by decide +kernel
theorem dX12_numberNow_33 : decode cX12_numberNow 33 = .ok (.isub, 1) := by decide +kernel
theorem dX12_numberNow_34 : decode cX12_numberNow 34 = .ok (.iconst 4, 1) := by decide +kernel
theorem dX12_numberNow_35 : decode cX12_numberNow 35 = .ok (.if_icmp .gt 19, 3) := by decide +kernel
theorem dX12_numberNow_38 : decode cX12_numberNow 38 = .ok (.aload_n 0, 1) := by decide +kernel
theorem dX12_numberNow_39 : decode cX12_numberNow 39 = .ok (.getfield 198, 3) := by decide +kernel
theorem dX12_numberNow_42 : decode cX12_numberNow 42 = .ok (.iload_n 1, 1) := by decide +kernel
theorem dX12_numberNow_43 : decode cX12_numberNow 43 = .ok (.if_icmp .lt 11, 3) := by decide +kernel
theorem dX12_numberNow_46 : decode cX12_numberNow 46 = .ok (.aload_n 0, 1) := by decide +kernel
theorem dX12_numberNow_47 : decode cX12_numberNow 47 = .ok (.getfield 198, 3) := by decide +kernel
theorem dX12_numberNow_50 : decode cX12_numberNow 50 = .ok (.iload_n 2, 1) := by decide +kernel
theorem dX12_numberNow_51 : decode cX12_numberNow 51 = .ok (.if_icmp .le 8, 3) := by decide +kernel
theorem dX12_numberNow_54 : decode cX12_numberNow 54 = .ok (.aload_n 0, 1) := by decide +kernel
theorem dX12_numberNow_55 : decode cX12_numberNow 55 = .ok (.iconst 2, 1) := by decide +kernel
theorem dX12_numberNow_56 : decode cX12_numberNow 56 = .ok (.invokevirtual 235, 3) := by decide +kernel
theorem dX12_numberNow_59 : decode cX12_numberNow 59 = .ok (.aload_n 0, 1) := by decide +kernel
theorem dX12_numberNow_60 : decode cX12_numberNow 60 = .ok (.getfield 214, 3) := by decide +kernel
theorem dX12_numberNow_63 : decode cX12_numberNow 63 = .ok (.ifCond .ne 10, 3) := by decide +kernel
theorem dX12_numberNow_66 : decode cX12_numberNow 66 = .ok (.aload_n 0, 1) := by decide +kernel
theorem dX12_numberNow_67 : decode cX12_numberNow 67 = .ok (.getfield 198, 3) := by decide +kernel
theorem dX12_numberNow_70 : decode cX12_numberNow 70 = .ok (.goto 4, 3) := by decide +kernel
theorem dX12_numberNow_73 : decode cX12_numberNow 73 = .ok (.iconst 0, 1) := by decide +kernel
theorem dX12_numberNow_74 : decode cX12_numberNow 74 = .ok (.ireturn, 1) := by decide +kernel
theorem dX12_readNumber_0 : decode cX12_readNumber 0 = .ok (.aload_n 0, 1) := by decide +kernel
theorem dX12_readNumber_1 : decode cX12_readNumber 1 = .ok (.iload_n 1, 1) := by decide +kernel
theorem dX12_readNumber_2 : decode cX12_readNumber 2 = .ok (.iload_n 2, 1) := by decide +kernel
theorem dX12_readNumber_3 : decode cX12_readNumber 3 = .ok (.invokevirtual 242, 3) := by decide +kernel
theorem dX12_readNumber_6 : decode cX12_readNumber 6 = .ok (.istore_n 3, 1) := by decide +kernel
theorem dX12_readNumber_7 : decode cX12_readNumber 7 = .ok (.aload_n 0, 1) := by decide +kernel
theorem dX12_readNumber_8 : decode cX12_readNumber 8 = .ok (.getfield 214, 3) := by decide +kernel
theorem dX12_readNumber_11 : decode cX12_readNumber 11 = .ok (.ifCond .ne 7, 3) := by decide +kernel
theorem dX12_readNumber_14 : decode cX12_readNumber 14 = .ok (.aload_n 0, 1) := by decide +kernel
theorem dX12_readNumber_15 : decode cX12_readNumber 15 = .ok (.invokevirtual 239, 3) := by decide +kernel
theorem dX12_readNumber_18 : decode cX12_readNumber 18 = .ok (.iload_n 3, 1) := by decide +kernel
theorem dX12_readNumber_19 : decode cX12_readNumber 19 = .ok (.ireturn, 1) := by decide +kernel
theorem dX12_personNow_0 : decode cX12_personNow 0 = .ok (.aload_n 0, 1) := by decide +kernel
theorem dX12_personNow_1 : decode cX12_personNow 1 = .ok (.iconst 0, 1) := by decide +kernel
theorem dX12_personNow_2 : decode cX12_personNow 2 = .ok (.sipush 9999, 3) := by decide +kernel
theorem dX12_personNow_5 : decode cX12_personNow 5 = .ok (.invokevirtual 242, 3) := by decide +kernel
theorem dX12_personNow_8 : decode cX12_personNow 8 = .ok (.istore_n 1, 1) := by decide +kernel
theorem dX12_personNow_9 : decode cX12_personNow 9 = .ok (.aload_n 0, 1) := by decide +kernel
theorem dX12_personNow_10 : decode cX12_personNow 10 = .ok (.getfield 214, 3) := by decide +kernel
theorem dX12_personNow_13 : decode cX12_personNow 13 = .ok (.ifCond .ne 18, 3) := by decide +kernel
theorem dX12_personNow_16 : decode cX12_personNow 16 = .ok (.iload_n 1, 1) := by decide +kernel
theorem dX12_personNow_17 : decode cX12_personNow 17 = .ok (.aload_n 0, 1) := by decide +kernel
theorem dX12_personNow_18 : decode cX12_personNow 18 = .ok (.getfield 40, 3) := by decide +kernel
theorem dX12_personNow_21 : decode cX12_personNow 21 = .ok (.iconst 5, 1) := by decide +kernel
theorem dX12_personNow_22 : decode cX12_personNow 22 = .ok (.iaload, 1) := by decide +kernel
theorem dX12_personNow_23 : decode cX12_personNow 23 = .ok (.if_icmp .lt 8, 3) := by decide +kernel
theorem dX12_personNow_26 : decode cX12_personNow 26 = .ok (.aload_n 0, 1) := by decide +kernel
theorem dX12_personNow_27 : decode cX12_personNow 27 = .ok (.iconst 3, 1) := by decide +kernel
theorem dX12_personNow_28 : decode cX12_personNow 28 = .ok (.invokevirtual 235, 3) := by decide +kernel
theorem dX12_personNow_31 : decode cX12_personNow 31 = .ok (.aload_n 0, 1) := by decide +kernel
theorem dX12_personNow_32 : decode cX12_personNow 32 = .ok (.getfield 214, 3) := by decide +kernel
theorem dX12_personNow_35 : decode cX12_personNow 35 = .ok (.ifCond .ne 7, 3) := by decide +kernel
theorem dX12_personNow_38 : decode cX12_personNow 38 = .ok (.iload_n 1, 1) := by decide +kernel
theorem dX12_personNow_39 : decode cX12_personNow 39 = .ok (.goto 4, 3) := by decide +kernel
theorem dX12_personNow_42 : decode cX12_personNow 42 = .ok (.iconst 0, 1) := by decide +kernel
theorem dX12_personNow_43 : decode cX12_personNow 43 = .ok (.ireturn, 1) := by decide +kernel
theorem dX12_lay_0 : decode cX12_lay 0 = .ok (.aload_n 0, 1) := by decide +kernel
theorem dX12_lay_1 : decode cX12_lay 1 = .ok (.getfield 214, 3) := by decide +kernel
theorem dX12_lay_4 : decode cX12_lay 4 = .ok (.ifCond .eq 4, 3) := by decide +kernel
theorem dX12_lay_7 : decode cX12_lay 7 = .ok (.return_, 1) := by decide +kernel
theorem dX12_lay_8 : decode cX12_lay 8 = .ok (.aload_n 0, 1) := by decide +kernel
theorem dX12_lay_9 : decode cX12_lay 9 = .ok (.getfield 64, 3) := by decide +kernel
theorem dX12_lay_12 : decode cX12_lay 12 = .ok (.sipush 600, 3) := by decide +kernel
theorem dX12_lay_15 : decode cX12_lay 15 = .ok (.aload_n 0, 1) := by decide +kernel
theorem dX12_lay_16 : decode cX12_lay 16 = .ok (.getfield 40, 3) := by decide +kernel
theorem dX12_lay_19 : decode cX12_lay 19 = .ok (.bipush 9, 2) := by decide +kernel
theorem dX12_lay_21 : decode cX12_lay 21 = .ok (.iaload, 1) := by decide +kernel
theorem dX12_lay_22 : decode cX12_lay 22 = .ok (.iadd, 1) := by decide +kernel
theorem dX12_lay_23 : decode cX12_lay 23 = .ok (.iload_n 1, 1) := by decide +kernel
theorem dX12_lay_24 : decode cX12_lay 24 = .ok (.iastore, 1) := by decide +kernel
theorem dX12_lay_25 : decode cX12_lay 25 = .ok (.aload_n 0, 1) := by decide +kernel
theorem dX12_lay_26 : decode cX12_lay 26 = .ok (.getfield 40, 3) := by decide +kernel
theorem dX12_lay_29 : decode cX12_lay 29 = .ok (.bipush 9, 2) := by decide +kernel
theorem dX12_lay_31 : decode cX12_lay 31 = .ok (.dup2, 1) := by decide +kernel
theorem dX12_lay_32 : decode cX12_lay 32 = .ok (.iaload, 1) := by decide +kernel
theorem dX12_lay_33 : decode cX12_lay 33 = .ok (.iconst 1, 1) := by decide +kernel
theorem dX12_lay_34 : decode cX12_lay 34 = .ok (.iadd, 1) := by decide +kernel
theorem dX12_lay_35 : decode cX12_lay 35 = .ok (.iastore, 1) := by decide +kernel
theorem dX12_lay_36 : decode cX12_lay 36 = .ok (.return_, 1) := by decide +kernel
theorem dX12_readPart_0 : decode cX12_readPart 0 = .ok (.aload_n 0, 1) := by decide +kernel
theorem dX12_readPart_1 : decode cX12_readPart 1 = .ok (.getfield 214, 3) := by decide +kernel
theorem dX12_readPart_4 : decode cX12_readPart 4 = .ok (.ifCond .eq 4, 3) := by decide +kernel
theorem dX12_readPart_7 : decode cX12_readPart 7 = .ok (.return_, 1) := by decide +kernel
theorem dX12_readPart_8 : decode cX12_readPart 8 = .ok (.aload_n 0, 1) := by decide +kernel
theorem dX12_readPart_9 : decode cX12_readPart 9 = .ok (.getfield 188, 3) := by decide +kernel
theorem dX12_readPart_12 : decode cX12_readPart 12 = .ok (.iconst 2, 1) := by decide +kernel
theorem dX12_readPart_13 : decode cX12_readPart 13 = .ok (.if_icmp .ne 16, 3) := by decide +kernel
theorem dX12_readPart_16 : decode cX12_readPart 16 = .ok (.aload_n 0, 1) := by decide +kernel
theorem dX12_readPart_17 : decode cX12_readPart 17 = .ok (.aload_n 0, 1) := by decide +kernel
theorem dX12_readPart_18 : decode cX12_readPart 18 = .ok (.iconst 0, 1) := by decide +kernel
theorem dX12_readPart_19 : decode cX12_readPart 19 = .ok (.sipush 9999, 3) := by decide +kernel
theorem dX12_readPart_22 : decode cX12_readPart 22 = .ok (.invokevirtual 245, 3) := by decide +kernel
theorem dX12_readPart_25 : decode cX12_readPart 25 = .ok (.invokevirtual 248, 3) := by decide +kernel
theorem dX12_readPart_28 : decode cX12_readPart 28 = .ok (.return_, 1) := by decide +kernel
theorem dX12_readPart_29 : decode cX12_readPart 29 = .ok (.aload_n 0, 1) := by decide +kernel
theorem dX12_readPart_30 : decode cX12_readPart 30 = .ok (.getfield 188, 3) := by decide +kernel
theorem dX12_readPart_33 : decode cX12_readPart 33 = .ok (.iconst 1, 1) := by decide +kernel
theorem dX12_readPart_34 : decode cX12_readPart 34 = .ok (.if_icmp .ne 41, 3) := by decide +kernel
theorem dX12_readPart_37 : decode cX12_readPart 37 = .ok (.aload_n 0, 1) := by decide +kernel
theorem dX12_readPart_38 : decode cX12_readPart 38 = .ok (.aload_n 0, 1) := by decide +kernel
theorem dX12_readPart_39 : decode cX12_readPart 39 = .ok (.getfield 37, 3) := by decide +kernel
theorem dX12_readPart_42 : decode cX12_readPart 42 = .ok (.invokevirtual 251, 3) := by decide +kernel
theorem dX12_readPart_45 : decode cX12_readPart 45 = .ok (.istore_n 2, 1) := by decide +kernel
theorem dX12_readPart_46 : decode cX12_readPart 46 = .ok (.iload_n 2, 1) := by decide +kernel
theorem dX12_readPart_47 : decode cX12_readPart 47 = .ok (.iconst (-1), 1) := by decide +kernel
theorem dX12_readPart_48 : decode cX12_readPart 48 = .ok (.if_icmp .ne 8, 3) := by decide +kernel
theorem dX12_readPart_51 : decode cX12_readPart 51 = .ok (.aload_n 0, 1) := by decide +kernel
theorem dX12_readPart_52 : decode cX12_readPart 52 = .ok (.iconst 3, 1) := by decide +kernel
theorem dX12_readPart_53 : decode cX12_readPart 53 = .ok (.invokevirtual 235, 3) := by decide +kernel
theorem dX12_readPart_56 : decode cX12_readPart 56 = .ok (.aload_n 0, 1) := by decide +kernel
theorem dX12_readPart_57 : decode cX12_readPart 57 = .ok (.iconst (-1), 1) := by decide +kernel
theorem dX12_readPart_58 : decode cX12_readPart 58 = .ok (.iload_n 2, 1) := by decide +kernel
theorem dX12_readPart_59 : decode cX12_readPart 59 = .ok (.isub, 1) := by decide +kernel
theorem dX12_readPart_60 : decode cX12_readPart 60 = .ok (.invokevirtual 248, 3) := by decide +kernel
theorem dX12_readPart_63 : decode cX12_readPart 63 = .ok (.aload_n 0, 1) := by decide +kernel
theorem dX12_readPart_64 : decode cX12_readPart 64 = .ok (.getfield 214, 3) := by decide +kernel
theorem dX12_readPart_67 : decode cX12_readPart 67 = .ok (.ifCond .ne 7, 3) := by decide +kernel
theorem dX12_readPart_70 : decode cX12_readPart 70 = .ok (.aload_n 0, 1) := by decide +kernel
theorem dX12_readPart_71 : decode cX12_readPart 71 = .ok (.invokevirtual 239, 3) := by decide +kernel
theorem dX12_readPart_74 : decode cX12_readPart 74 = .ok (.return_, 1) := by decide +kernel
theorem dX12_readPart_75 : decode cX12_readPart 75 = .ok (.aload_n 0, 1) := by decide +kernel
theorem dX12_readPart_76 : decode cX12_readPart 76 = .ok (.bipush 40, 2) := by decide +kernel
theorem dX12_readPart_78 : decode cX12_readPart 78 = .ok (.invokevirtual 255, 3) := by decide +kernel
theorem dX12_readPart_81 : decode cX12_readPart 81 = .ok (.aload_n 0, 1) := by decide +kernel
theorem dX12_readPart_82 : decode cX12_readPart 82 = .ok (.iload_n 1, 1) := by decide +kernel
theorem dX12_readPart_83 : decode cX12_readPart 83 = .ok (.iconst 1, 1) := by decide +kernel
theorem dX12_readPart_84 : decode cX12_readPart 84 = .ok (.iadd, 1) := by decide +kernel
theorem dX12_readPart_85 : decode cX12_readPart 85 = .ok (.invokevirtual 258, 3) := by decide +kernel
theorem dX12_readPart_88 : decode cX12_readPart 88 = .ok (.aload_n 0, 1) := by decide +kernel
theorem dX12_readPart_89 : decode cX12_readPart 89 = .ok (.bipush 41, 2) := by decide +kernel
theorem dX12_readPart_91 : decode cX12_readPart 91 = .ok (.invokevirtual 255, 3) := by decide +kernel
theorem dX12_readPart_94 : decode cX12_readPart 94 = .ok (.return_, 1) := by decide +kernel
theorem dX12_readProduct_0 : decode cX12_readProduct 0 = .ok (.aload_n 0, 1) := by decide +kernel
theorem dX12_readProduct_1 : decode cX12_readProduct 1 = .ok (.iload_n 1, 1) := by decide +kernel
theorem dX12_readProduct_2 : decode cX12_readProduct 2 = .ok (.invokevirtual 261, 3) := by decide +kernel
theorem dX12_readProduct_5 : decode cX12_readProduct 5 = .ok (.aload_n 0, 1) := by decide +kernel
theorem dX12_readProduct_6 : decode cX12_readProduct 6 = .ok (.bipush 42, 2) := by decide +kernel
theorem dX12_readProduct_8 : decode cX12_readProduct 8 = .ok (.invokevirtual 232, 3) := by decide +kernel
theorem dX12_readProduct_11 : decode cX12_readProduct 11 = .ok (.ifCond .ne 12, 3) := by decide +kernel
theorem dX12_readProduct_14 : decode cX12_readProduct 14 = .ok (.aload_n 0, 1) := by decide +kernel
theorem dX12_readProduct_15 : decode cX12_readProduct 15 = .ok (.bipush 47, 2) := by decide +kernel
theorem dX12_readProduct_17 : decode cX12_readProduct 17 = .ok (.invokevirtual 232, 3) := by decide +kernel
theorem dX12_readProduct_20 : decode cX12_readProduct 20 = .ok (.ifCond .eq 37, 3) := by decide +kernel
theorem dX12_readProduct_23 : decode cX12_readProduct 23 = .ok (.aload_n 0, 1) := by decide +kernel
theorem dX12_readProduct_24 : decode cX12_readProduct 24 = .ok (.bipush 42, 2) := by decide +kernel
theorem dX12_readProduct_26 : decode cX12_readProduct 26 = .ok (.invokevirtual 232, 3) := by decide +kernel
theorem dX12_readProduct_29 : decode cX12_readProduct 29 = .ok (.ifCond .eq 8, 3) := by decide +kernel
theorem dX12_readProduct_32 : decode cX12_readProduct 32 = .ok (.bipush (-22), 2) := by decide +kernel
theorem dX12_readProduct_34 : decode cX12_readProduct 34 = .ok (.goto 5, 3) := by decide +kernel
theorem dX12_readProduct_37 : decode cX12_readProduct 37 = .ok (.bipush (-23), 2) := by decide +kernel
theorem dX12_readProduct_39 : decode cX12_readProduct 39 = .ok (.istore_n 2, 1) := by decide +kernel
theorem dX12_readProduct_40 : decode cX12_readProduct 40 = .ok (.aload_n 0, 1) := by decide +kernel
theorem dX12_readProduct_41 : decode cX12_readProduct 41 = .ok (.invokevirtual 239, 3) := by decide +kernel
theorem dX12_readProduct_44 : decode cX12_readProduct 44 = .ok (.aload_n 0, 1) := by decide +kernel
theorem dX12_readProduct_45 : decode cX12_readProduct 45 = .ok (.iload_n 1, 1) := by decide +kernel
theorem dX12_readProduct_46 : decode cX12_readProduct 46 = .ok (.invokevirtual 261, 3) := by decide +kernel
theorem dX12_readProduct_49 : decode cX12_readProduct 49 = .ok (.aload_n 0, 1) := by decide +kernel
theorem dX12_readProduct_50 : decode cX12_readProduct 50 = .ok (.iload_n 2, 1) := by decide +kernel
theorem dX12_readProduct_51 : decode cX12_readProduct 51 = .ok (.invokevirtual 248, 3) := by decide +kernel
theorem dX12_readProduct_54 : decode cX12_readProduct 54 = .ok (.goto (-49), 3) := by decide +kernel
theorem dX12_readProduct_57 : decode cX12_readProduct 57 = .ok (.return_, 1) := by decide +kernel
theorem dX12_readSum_0 : decode cX12_readSum 0 = .ok (.aload_n 0, 1) := by decide +kernel
theorem dX12_readSum_1 : decode cX12_readSum 1 = .ok (.iload_n 1, 1) := by decide +kernel
theorem dX12_readSum_2 : decode cX12_readSum 2 = .ok (.invokevirtual 264, 3) := by decide +kernel
theorem dX12_readSum_5 : decode cX12_readSum 5 = .ok (.aload_n 0, 1) := by decide +kernel
theorem dX12_readSum_6 : decode cX12_readSum 6 = .ok (.bipush 43, 2) := by decide +kernel
theorem dX12_readSum_8 : decode cX12_readSum 8 = .ok (.invokevirtual 232, 3) := by decide +kernel
theorem dX12_readSum_11 : decode cX12_readSum 11 = .ok (.ifCond .ne 12, 3) := by decide +kernel
theorem dX12_readSum_14 : decode cX12_readSum 14 = .ok (.aload_n 0, 1) := by decide +kernel
theorem dX12_readSum_15 : decode cX12_readSum 15 = .ok (.bipush 45, 2) := by decide +kernel
theorem dX12_readSum_17 : decode cX12_readSum 17 = .ok (.invokevirtual 232, 3) := by decide +kernel
theorem dX12_readSum_20 : decode cX12_readSum 20 = .ok (.ifCond .eq 37, 3) := by decide +kernel
theorem dX12_readSum_23 : decode cX12_readSum 23 = .ok (.aload_n 0, 1) := by decide +kernel
theorem dX12_readSum_24 : decode cX12_readSum 24 = .ok (.bipush 43, 2) := by decide +kernel
theorem dX12_readSum_26 : decode cX12_readSum 26 = .ok (.invokevirtual 232, 3) := by decide +kernel
theorem dX12_readSum_29 : decode cX12_readSum 29 = .ok (.ifCond .eq 8, 3) := by decide +kernel
theorem dX12_readSum_32 : decode cX12_readSum 32 = .ok (.bipush (-20), 2) := by decide +kernel
theorem dX12_readSum_34 : decode cX12_readSum 34 = .ok (.goto 5, 3) := by decide +kernel
theorem dX12_readSum_37 : decode cX12_readSum 37 = .ok (.bipush (-21), 2) := by decide +kernel
theorem dX12_readSum_39 : decode cX12_readSum 39 = .ok (.istore_n 2, 1) := by decide +kernel
theorem dX12_readSum_40 : decode cX12_readSum 40 = .ok (.aload_n 0, 1) := by decide +kernel
theorem dX12_readSum_41 : decode cX12_readSum 41 = .ok (.invokevirtual 239, 3) := by decide +kernel
theorem dX12_readSum_44 : decode cX12_readSum 44 = .ok (.aload_n 0, 1) := by decide +kernel
theorem dX12_readSum_45 : decode cX12_readSum 45 = .ok (.iload_n 1, 1) := by decide +kernel
theorem dX12_readSum_46 : decode cX12_readSum 46 = .ok (.invokevirtual 264, 3) := by decide +kernel
theorem dX12_readSum_49 : decode cX12_readSum 49 = .ok (.aload_n 0, 1) := by decide +kernel
theorem dX12_readSum_50 : decode cX12_readSum 50 = .ok (.iload_n 2, 1) := by decide +kernel
theorem dX12_readSum_51 : decode cX12_readSum 51 = .ok (.invokevirtual 248, 3) := by decide +kernel
theorem dX12_readSum_54 : decode cX12_readSum 54 = .ok (.goto (-49), 3) := by decide +kernel
theorem dX12_readSum_57 : decode cX12_readSum 57 = .ok (.return_, 1) := by decide +kernel
theorem dX12_readNot_0 : decode cX12_readNot 0 = .ok (.iconst 0, 1) := by decide +kernel
theorem dX12_readNot_1 : decode cX12_readNot 1 = .ok (.istore_n 2, 1) := by decide +kernel
theorem dX12_readNot_2 : decode cX12_readNot 2 = .ok (.aload_n 0, 1) := by decide +kernel
theorem dX12_readNot_3 : decode cX12_readNot 3 = .ok (.ldc_w 267, 3) := by decide +kernel
theorem dX12_readNot_6 : decode cX12_readNot 6 = .ok (.invokevirtual 228, 3) := by decide +kernel
theorem dX12_readNot_9 : decode cX12_readNot 9 = .ok (.ifCond .eq 31, 3) := by decide +kernel
theorem dX12_readNot_12 : decode cX12_readNot 12 = .ok (.iload_n 2, 1) := by decide +kernel
theorem dX12_readNot_13 : decode cX12_readNot 13 = .ok (.bipush 6, 2) := by decide +kernel
theorem dX12_readNot_15 : decode cX12_readNot 15 = .ok (.if_icmp .ne 8, 3) := by decide +kernel
theorem dX12_readNot_18 : decode cX12_readNot 18 = .ok (.aload_n 0, 1) := by decide +kernel
theorem dX12_readNot_19 : decode cX12_readNot 19 = .ok (.iconst 2, 1) := by decide +kernel
theorem dX12_readNot_20 : decode cX12_readNot 20 = .ok (.invokevirtual 235, 3) := by decide +kernel
theorem dX12_readNot_23 : decode cX12_readNot 23 = .ok (.iinc 2 1, 3) := by decide +kernel
theorem dX12_readNot_26 : decode cX12_readNot 26 = .ok (.aload_n 0, 1) := by decide +kernel
theorem dX12_readNot_27 : decode cX12_readNot 27 = .ok (.getfield 214, 3) := by decide +kernel
theorem dX12_readNot_30 : decode cX12_readNot 30 = .ok (.ifCond .ne (-28), 3) := by decide +kernel
theorem dX12_readNot_33 : decode cX12_readNot 33 = .ok (.aload_n 0, 1) := by decide +kernel
theorem dX12_readNot_34 : decode cX12_readNot 34 = .ok (.invokevirtual 239, 3) := by decide +kernel
theorem dX12_readNot_37 : decode cX12_readNot 37 = .ok (.goto (-35), 3) := by decide +kernel
theorem dX12_readNot_40 : decode cX12_readNot 40 = .ok (.aload_n 0, 1) := by decide +kernel
theorem dX12_readNot_41 : decode cX12_readNot 41 = .ok (.iload_n 1, 1) := by decide +kernel
theorem dX12_readNot_42 : decode cX12_readNot 42 = .ok (.invokevirtual 269, 3) := by decide +kernel
theorem dX12_readNot_45 : decode cX12_readNot 45 = .ok (.aload_n 0, 1) := by decide +kernel
theorem dX12_readNot_46 : decode cX12_readNot 46 = .ok (.bipush 60, 2) := by decide +kernel
theorem dX12_readNot_48 : decode cX12_readNot 48 = .ok (.invokevirtual 232, 3) := by decide +kernel
theorem dX12_readNot_51 : decode cX12_readNot 51 = .ok (.ifCond .ne 12, 3) := by decide +kernel
theorem dX12_readNot_54 : decode cX12_readNot 54 = .ok (.aload_n 0, 1) := by decide +kernel
theorem dX12_readNot_55 : decode cX12_readNot 55 = .ok (.bipush 61, 2) := by decide +kernel
theorem dX12_readNot_57 : decode cX12_readNot 57 = .ok (.invokevirtual 232, 3) := by decide +kernel
theorem dX12_readNot_60 : decode cX12_readNot 60 = .ok (.ifCond .eq 34, 3) := by decide +kernel
theorem dX12_readNot_63 : decode cX12_readNot 63 = .ok (.aload_n 0, 1) := by decide +kernel
theorem dX12_readNot_64 : decode cX12_readNot 64 = .ok (.bipush 60, 2) := by decide +kernel
theorem dX12_readNot_66 : decode cX12_readNot 66 = .ok (.invokevirtual 232, 3) := by decide +kernel
theorem dX12_readNot_69 : decode cX12_readNot 69 = .ok (.ifCond .eq 8, 3) := by decide +kernel
theorem dX12_readNot_72 : decode cX12_readNot 72 = .ok (.bipush (-24), 2) := by decide +kernel
theorem dX12_readNot_74 : decode cX12_readNot 74 = .ok (.goto 5, 3) := by decide +kernel
theorem dX12_readNot_77 : decode cX12_readNot 77 = .ok (.bipush (-25), 2) := by decide +kernel
theorem dX12_readNot_79 : decode cX12_readNot 79 = .ok (.istore_n 3, 1) := by decide +kernel
theorem dX12_readNot_80 : decode cX12_readNot 80 = .ok (.aload_n 0, 1) := by decide +kernel
theorem dX12_readNot_81 : decode cX12_readNot 81 = .ok (.invokevirtual 239, 3) := by decide +kernel
theorem dX12_readNot_84 : decode cX12_readNot 84 = .ok (.aload_n 0, 1) := by decide +kernel
theorem dX12_readNot_85 : decode cX12_readNot 85 = .ok (.iload_n 1, 1) := by decide +kernel
theorem dX12_readNot_86 : decode cX12_readNot 86 = .ok (.invokevirtual 269, 3) := by decide +kernel
theorem dX12_readNot_89 : decode cX12_readNot 89 = .ok (.aload_n 0, 1) := by decide +kernel
theorem dX12_readNot_90 : decode cX12_readNot 90 = .ok (.iload_n 3, 1) := by decide +kernel
theorem dX12_readNot_91 : decode cX12_readNot 91 = .ok (.invokevirtual 248, 3) := by decide +kernel
theorem dX12_readNot_94 : decode cX12_readNot 94 = .ok (.iconst 0, 1) := by decide +kernel
theorem dX12_readNot_95 : decode cX12_readNot 95 = .ok (.istore_n 3, 1) := by decide +kernel
theorem dX12_readNot_96 : decode cX12_readNot 96 = .ok (.iload_n 3, 1) := by decide +kernel
theorem dX12_readNot_97 : decode cX12_readNot 97 = .ok (.iload_n 2, 1) := by decide +kernel
theorem dX12_readNot_98 : decode cX12_readNot 98 = .ok (.if_icmp .ge 15, 3) := by decide +kernel
theorem dX12_readNot_101 : decode cX12_readNot 101 = .ok (.aload_n 0, 1) := by decide +kernel
theorem dX12_readNot_102 : decode cX12_readNot 102 = .ok (.bipush (-28), 2) := by decide +kernel
theorem dX12_readNot_104 : decode cX12_readNot 104 = .ok (.invokevirtual 248, 3) := by decide +kernel
theorem dX12_readNot_107 : decode cX12_readNot 107 = .ok (.iinc 3 1, 3) := by decide +kernel
theorem dX12_readNot_110 : decode cX12_readNot 110 = .ok (.goto (-14), 3) := by decide +kernel
theorem dX12_readNot_113 : decode cX12_readNot 113 = .ok (.return_, 1) := by decide +kernel
theorem dX12_readAnd_0 : decode cX12_readAnd 0 = .ok (.aload_n 0, 1) := by decide +kernel
theorem dX12_readAnd_1 : decode cX12_readAnd 1 = .ok (.iload_n 1, 1) := by decide +kernel
theorem dX12_readAnd_2 : decode cX12_readAnd 2 = .ok (.invokevirtual 272, 3) := by decide +kernel
theorem dX12_readAnd_5 : decode cX12_readAnd 5 = .ok (.aload_n 0, 1) := by decide +kernel
theorem dX12_readAnd_6 : decode cX12_readAnd 6 = .ok (.ldc_w 275, 3) := by decide +kernel
theorem dX12_readAnd_9 : decode cX12_readAnd 9 = .ok (.invokevirtual 228, 3) := by decide +kernel
theorem dX12_readAnd_12 : decode cX12_readAnd 12 = .ok (.ifCond .eq 21, 3) := by decide +kernel
theorem dX12_readAnd_15 : decode cX12_readAnd 15 = .ok (.aload_n 0, 1) := by decide +kernel
theorem dX12_readAnd_16 : decode cX12_readAnd 16 = .ok (.invokevirtual 239, 3) := by decide +kernel
theorem dX12_readAnd_19 : decode cX12_readAnd 19 = .ok (.aload_n 0, 1) := by decide +kernel
theorem dX12_readAnd_20 : decode cX12_readAnd 20 = .ok (.iload_n 1, 1) := by decide +kernel
theorem dX12_readAnd_21 : decode cX12_readAnd 21 = .ok (.invokevirtual 272, 3) := by decide +kernel
theorem dX12_readAnd_24 : decode cX12_readAnd 24 = .ok (.aload_n 0, 1) := by decide +kernel
theorem dX12_readAnd_25 : decode cX12_readAnd 25 = .ok (.bipush (-26), 2) := by decide +kernel
theorem dX12_readAnd_27 : decode cX12_readAnd 27 = .ok (.invokevirtual 248, 3) := by decide +kernel
theorem dX12_readAnd_30 : decode cX12_readAnd 30 = .ok (.goto (-25), 3) := by decide +kernel
theorem dX12_readAnd_33 : decode cX12_readAnd 33 = .ok (.return_, 1) := by decide +kernel
theorem dX12_readExpression_0 : decode cX12_readExpression 0 = .ok (.aload_n 0, 1) := by decide +kernel
theorem dX12_readExpression_1 : decode cX12_readExpression 1 = .ok (.getfield 214, 3) := by decide +kernel
theorem dX12_readExpression_4 : decode cX12_readExpression 4 = .ok (.ifCond .eq 4, 3) := by decide +kernel
theorem dX12_readExpression_7 : decode cX12_readExpression 7 = .ok (.return_, 1) := by decide +kernel
theorem dX12_readExpression_8 : decode cX12_readExpression 8 = .ok (.aload_n 0, 1) := by decide +kernel
theorem dX12_readExpression_9 : decode cX12_readExpression 9 = .ok (.getfield 188, 3) := by decide +kernel
theorem dX12_readExpression_12 : decode cX12_readExpression 12 = .ok (.iconst 2, 1) := by decide +kernel
theorem dX12_readExpression_13 : decode cX12_readExpression 13 = .ok (.if_icmp .eq 20, 3) := by decide +kernel
theorem dX12_readExpression_16 : decode cX12_readExpression 16 = .ok (.aload_n 0, 1) := by decide +kernel
theorem dX12_readExpression_17 : decode cX12_readExpression 17 = .ok (.getfield 188, 3) := by decide +kernel
theorem dX12_readExpression_20 : decode cX12_readExpression 20 = .ok (.iconst 1, 1) := by decide +kernel
theorem dX12_readExpression_21 : decode cX12_readExpression 21 = .ok (.if_icmp .eq 12, 3) := by decide +kernel
theorem dX12_readExpression_24 : decode cX12_readExpression 24 = .ok (.aload_n 0, 1) := by decide +kernel
theorem dX12_readExpression_25 : decode cX12_readExpression 25 = .ok (.bipush 40, 2) := by decide +kernel
theorem dX12_readExpression_27 : decode cX12_readExpression 27 = .ok (.invokevirtual 232, 3) := by decide +kernel
theorem dX12_readExpression_30 : decode cX12_readExpression 30 = .ok (.ifCond .eq 7, 3) := by decide +kernel
theorem dX12_readExpression_33 : decode cX12_readExpression 33 = .ok (.iconst 1, 1) := by decide +kernel
theorem dX12_readExpression_34 : decode cX12_readExpression 34 = .ok (.goto 4, 3) := by decide +kernel
theorem dX12_readExpression_37 : decode cX12_readExpression 37 = .ok (.iconst 0, 1) := by decide +kernel
theorem dX12_readExpression_38 : decode cX12_readExpression 38 = .ok (.istore_n 2, 1) := by decide +kernel
theorem dX12_readExpression_39 : decode cX12_readExpression 39 = .ok (.iload_n 2, 1) := by decide +kernel
theorem dX12_readExpression_40 : decode cX12_readExpression 40 = .ok (.ifCond .ne 11, 3) := by decide +kernel
theorem dX12_readExpression_43 : decode cX12_readExpression 43 = .ok (.aload_n 0, 1) := by decide +kernel
theorem dX12_readExpression_44 : decode cX12_readExpression 44 = .ok (.iconst 1, 1) := by decide +kernel
theorem dX12_readExpression_45 : decode cX12_readExpression 45 = .ok (.invokevirtual 235, 3) := by decide +kernel
theorem dX12_readExpression_48 : decode cX12_readExpression 48 = .ok (.goto 14, 3) := by decide +kernel
theorem dX12_readExpression_51 : decode cX12_readExpression 51 = .ok (.iload_n 1, 1) := by decide +kernel
theorem dX12_readExpression_52 : decode cX12_readExpression 52 = .ok (.bipush 6, 2) := by decide +kernel
theorem dX12_readExpression_54 : decode cX12_readExpression 54 = .ok (.if_icmp .ne 8, 3) := by decide +kernel
theorem dX12_readExpression_57 : decode cX12_readExpression 57 = .ok (.aload_n 0, 1) := by decide +kernel
theorem dX12_readExpression_58 : decode cX12_readExpression 58 = .ok (.iconst 2, 1) := by decide +kernel
theorem dX12_readExpression_59 : decode cX12_readExpression 59 = .ok (.invokevirtual 235, 3) := by decide +kernel
theorem dX12_readExpression_62 : decode cX12_readExpression 62 = .ok (.aload_n 0, 1) := by decide +kernel
theorem dX12_readExpression_63 : decode cX12_readExpression 63 = .ok (.iload_n 1, 1) := by decide +kernel
theorem dX12_readExpression_64 : decode cX12_readExpression 64 = .ok (.invokevirtual 277, 3) := by decide +kernel
theorem dX12_readExpression_67 : decode cX12_readExpression 67 = .ok (.aload_n 0, 1) := by decide +kernel
theorem dX12_readExpression_68 : decode cX12_readExpression 68 = .ok (.ldc_w 280, 3) := by decide +kernel
theorem dX12_readExpression_71 : decode cX12_readExpression 71 = .ok (.invokevirtual 228, 3) := by decide +kernel
theorem dX12_readExpression_74 : decode cX12_readExpression 74 = .ok (.ifCond .eq 21, 3) := by decide +kernel
theorem dX12_readExpression_77 : decode cX12_readExpression 77 = .ok (.aload_n 0, 1) := by decide +kernel
theorem dX12_readExpression_78 : decode cX12_readExpression 78 = .ok (.invokevirtual 239, 3) := by decide +kernel
theorem dX12_readExpression_81 : decode cX12_readExpression 81 = .ok (.aload_n 0, 1) := by decide +kernel
theorem dX12_readExpression_82 : decode cX12_readExpression 82 = .ok (.iload_n 1, 1) := by decide +kernel
theorem dX12_readExpression_83 : decode cX12_readExpression 83 = .ok (.invokevirtual 277, 3) := by decide +kernel
theorem dX12_readExpression_86 : decode cX12_readExpression 86 = .ok (.aload_n 0, 1) := by decide +kernel
theorem dX12_readExpression_87 : decode cX12_readExpression 87 = .ok (.bipush (-27), 2) := by decide +kernel
theorem dX12_readExpression_89 : decode cX12_readExpression 89 = .ok (.invokevirtual 248, 3) := by decide +kernel
theorem dX12_readExpression_92 : decode cX12_readExpression 92 = .ok (.goto (-25), 3) := by decide +kernel
theorem dX12_readExpression_95 : decode cX12_readExpression 95 = .ok (.return_, 1) := by decide +kernel
theorem dX12_another_0 : decode cX12_another 0 = .ok (.aload_n 0, 1) := by decide +kernel
theorem dX12_another_1 : decode cX12_another 1 = .ok (.getfield 40, 3) := by decide +kernel
theorem dX12_another_4 : decode cX12_another 4 = .ok (.iconst 5, 1) := by decide +kernel
theorem dX12_another_5 : decode cX12_another 5 = .ok (.iload_n 1, 1) := by decide +kernel
theorem dX12_another_6 : decode cX12_another 6 = .ok (.iadd, 1) := by decide +kernel
theorem dX12_another_7 : decode cX12_another 7 = .ok (.iaload, 1) := by decide +kernel
theorem dX12_another_8 : decode cX12_another 8 = .ok (.iload_n 2, 1) := by decide +kernel
theorem dX12_another_9 : decode cX12_another 9 = .ok (.if_icmp .ne 8, 3) := by decide +kernel
theorem dX12_another_12 : decode cX12_another 12 = .ok (.aload_n 0, 1) := by decide +kernel
theorem dX12_another_13 : decode cX12_another 13 = .ok (.iconst 2, 1) := by decide +kernel
theorem dX12_another_14 : decode cX12_another 14 = .ok (.invokevirtual 235, 3) := by decide +kernel
theorem dX12_another_17 : decode cX12_another 17 = .ok (.aload_n 0, 1) := by decide +kernel
theorem dX12_another_18 : decode cX12_another 18 = .ok (.getfield 214, 3) := by decide +kernel
theorem dX12_another_21 : decode cX12_another 21 = .ok (.ifCond .eq 5, 3) := by decide +kernel
theorem dX12_another_24 : decode cX12_another 24 = .ok (.iconst 0, 1) := by decide +kernel
theorem dX12_another_25 : decode cX12_another 25 = .ok (.ireturn, 1) := by decide +kernel
theorem dX12_another_26 : decode cX12_another 26 = .ok (.aload_n 0, 1) := by decide +kernel
theorem dX12_another_27 : decode cX12_another 27 = .ok (.invokevirtual 239, 3) := by decide +kernel
theorem dX12_another_30 : decode cX12_another 30 = .ok (.iconst 1, 1) := by decide +kernel
theorem dX12_another_31 : decode cX12_another 31 = .ok (.ireturn, 1) := by decide +kernel
theorem dX12_sayPerson_0 : decode cX12_sayPerson 0 = .ok (.aload_n 0, 1) := by decide +kernel
theorem dX12_sayPerson_1 : decode cX12_sayPerson 1 = .ok (.iconst 0, 1) := by decide +kernel
theorem dX12_sayPerson_2 : decode cX12_sayPerson 2 = .ok (.bipush 8, 2) := by decide +kernel
theorem dX12_sayPerson_4 : decode cX12_sayPerson 4 = .ok (.invokevirtual 282, 3) := by decide +kernel
theorem dX12_sayPerson_7 : decode cX12_sayPerson 7 = .ok (.ifCond .ne 4, 3) := by decide +kernel
theorem dX12_sayPerson_10 : decode cX12_sayPerson 10 = .ok (.return_, 1) := by decide +kernel
theorem dX12_sayPerson_11 : decode cX12_sayPerson 11 = .ok (.bipush 8, 2) := by decide +kernel
theorem dX12_sayPerson_13 : decode cX12_sayPerson 13 = .ok (.aload_n 0, 1) := by decide +kernel
theorem dX12_sayPerson_14 : decode cX12_sayPerson 14 = .ok (.getfield 40, 3) := by decide +kernel
theorem dX12_sayPerson_17 : decode cX12_sayPerson 17 = .ok (.iconst 5, 1) := by decide +kernel
theorem dX12_sayPerson_18 : decode cX12_sayPerson 18 = .ok (.iaload, 1) := by decide +kernel
theorem dX12_sayPerson_19 : decode cX12_sayPerson 19 = .ok (.iadd, 1) := by decide +kernel
theorem dX12_sayPerson_20 : decode cX12_sayPerson 20 = .ok (.istore_n 2, 1) := by decide +kernel
theorem dX12_sayPerson_21 : decode cX12_sayPerson 21 = .ok (.aload_n 0, 1) := by decide +kernel
theorem dX12_sayPerson_22 : decode cX12_sayPerson 22 = .ok (.getfield 44, 3) := by decide +kernel
theorem dX12_sayPerson_25 : decode cX12_sayPerson 25 = .ok (.iload_n 2, 1) := by decide +kernel
theorem dX12_sayPerson_26 : decode cX12_sayPerson 26 = .ok (.iload_n 1, 1) := by decide +kernel
theorem dX12_sayPerson_27 : decode cX12_sayPerson 27 = .ok (.iastore, 1) := by decide +kernel
theorem dX12_sayPerson_28 : decode cX12_sayPerson 28 = .ok (.aload_n 0, 1) := by decide +kernel
theorem dX12_sayPerson_29 : decode cX12_sayPerson 29 = .ok (.getfield 46, 3) := by decide +kernel
theorem dX12_sayPerson_32 : decode cX12_sayPerson 32 = .ok (.iload_n 2, 1) := by decide +kernel
theorem dX12_sayPerson_33 : decode cX12_sayPerson 33 = .ok (.aload_n 0, 1) := by decide +kernel
theorem dX12_sayPerson_34 : decode cX12_sayPerson 34 = .ok (.iconst 0, 1) := by decide +kernel
theorem dX12_sayPerson_35 : decode cX12_sayPerson 35 = .ok (.iconst 3, 1) := by decide +kernel
theorem dX12_sayPerson_36 : decode cX12_sayPerson 36 = .ok (.invokevirtual 245, 3) := by decide +kernel
theorem dX12_sayPerson_39 : decode cX12_sayPerson 39 = .ok (.iastore, 1) := by decide +kernel
theorem dX12_sayPerson_40 : decode cX12_sayPerson 40 = .ok (.aload_n 0, 1) := by decide +kernel
theorem dX12_sayPerson_41 : decode cX12_sayPerson 41 = .ok (.iconst 1, 1) := by decide +kernel
theorem dX12_sayPerson_42 : decode cX12_sayPerson 42 = .ok (.sipush 365, 3) := by decide +kernel
theorem dX12_sayPerson_45 : decode cX12_sayPerson 45 = .ok (.invokevirtual 242, 3) := by decide +kernel
theorem dX12_sayPerson_48 : decode cX12_sayPerson 48 = .ok (.istore_n 3, 1) := by decide +kernel
theorem dX12_sayPerson_49 : decode cX12_sayPerson 49 = .ok (.bipush 8, 2) := by decide +kernel
theorem dX12_sayPerson_51 : decode cX12_sayPerson 51 = .ok (.istore 4, 2) := by decide +kernel
theorem dX12_sayPerson_53 : decode cX12_sayPerson 53 = .ok (.aload_n 0, 1) := by decide +kernel
theorem dX12_sayPerson_54 : decode cX12_sayPerson 54 = .ok (.getfield 214, 3) := by decide +kernel
theorem dX12_sayPerson_57 : decode cX12_sayPerson 57 = .ok (.ifCond .ne 31, 3) := by decide +kernel
theorem dX12_sayPerson_60 : decode cX12_sayPerson 60 = .ok (.iload 4, 2) := by decide +kernel
theorem dX12_sayPerson_62 : decode cX12_sayPerson 62 = .ok (.iload_n 2, 1) := by decide +kernel
theorem dX12_sayPerson_63 : decode cX12_sayPerson 63 = .ok (.if_icmp .ge 25, 3) := by decide +kernel
theorem dX12_sayPerson_66 : decode cX12_sayPerson 66 = .ok (.aload_n 0, 1) := by decide +kernel
theorem dX12_sayPerson_67 : decode cX12_sayPerson 67 = .ok (.getfield 49, 3) := by decide +kernel
theorem dX12_sayPerson_70 : decode cX12_sayPerson 70 = .ok (.iload 4, 2) := by decide +kernel
theorem dX12_sayPerson_72 : decode cX12_sayPerson 72 = .ok (.iaload, 1) := by decide +kernel
theorem dX12_sayPerson_73 : decode cX12_sayPerson 73 = .ok (.iload_n 3, 1) := by decide +kernel
theorem dX12_sayPerson_74 : decode cX12_sayPerson 74 = .ok (.if_icmp .ne 8, 3) := by decide +kernel
theorem dX12_sayPerson_77 : decode cX12_sayPerson 77 = .ok (.aload_n 0, 1) := by decide +kernel
theorem dX12_sayPerson_78 : decode cX12_sayPerson 78 = .ok (.iconst 4, 1) := by decide +kernel
theorem dX12_sayPerson_79 : decode cX12_sayPerson 79 = .ok (.invokevirtual 235, 3) := by decide +kernel
theorem dX12_sayPerson_82 : decode cX12_sayPerson 82 = .ok (.iinc 4 1, 3) := by decide +kernel
theorem dX12_sayPerson_85 : decode cX12_sayPerson 85 = .ok (.goto (-32), 3) := by decide +kernel
theorem dX12_sayPerson_88 : decode cX12_sayPerson 88 = .ok (.aload_n 0, 1) := by decide +kernel
theorem dX12_sayPerson_89 : decode cX12_sayPerson 89 = .ok (.getfield 214, 3) := by decide +kernel
theorem dX12_sayPerson_92 : decode cX12_sayPerson 92 = .ok (.ifCond .ne 7, 3) := by decide +kernel
theorem dX12_sayPerson_95 : decode cX12_sayPerson 95 = .ok (.aload_n 0, 1) := by decide +kernel
theorem dX12_sayPerson_96 : decode cX12_sayPerson 96 = .ok (.invokevirtual 239, 3) := by decide +kernel
theorem dX12_sayPerson_99 : decode cX12_sayPerson 99 = .ok (.aload_n 0, 1) := by decide +kernel
theorem dX12_sayPerson_100 : decode cX12_sayPerson 100 = .ok (.getfield 49, 3) := by decide +kernel
theorem dX12_sayPerson_103 : decode cX12_sayPerson 103 = .ok (.iload_n 2, 1) := by decide +kernel
theorem dX12_sayPerson_104 : decode cX12_sayPerson 104 = .ok (.iload_n 3, 1) := by decide +kernel
theorem dX12_sayPerson_105 : decode cX12_sayPerson 105 = .ok (.iastore, 1) := by decide +kernel
theorem dX12_sayPerson_106 : decode cX12_sayPerson 106 = .ok (.aload_n 0, 1) := by decide +kernel
theorem dX12_sayPerson_107 : decode cX12_sayPerson 107 = .ok (.getfield 52, 3) := by decide +kernel
theorem dX12_sayPerson_110 : decode cX12_sayPerson 110 = .ok (.iload_n 2, 1) := by decide +kernel
theorem dX12_sayPerson_111 : decode cX12_sayPerson 111 = .ok (.aload_n 0, 1) := by decide +kernel
theorem dX12_sayPerson_112 : decode cX12_sayPerson 112 = .ok (.iconst 0, 1) := by decide +kernel
theorem dX12_sayPerson_113 : decode cX12_sayPerson 113 = .ok (.bipush 11, 2) := by decide +kernel
theorem dX12_sayPerson_115 : decode cX12_sayPerson 115 = .ok (.invokevirtual 245, 3) := by decide +kernel
theorem dX12_sayPerson_118 : decode cX12_sayPerson 118 = .ok (.iastore, 1) := by decide +kernel
theorem dX12_sayPerson_119 : decode cX12_sayPerson 119 = .ok (.aload_n 0, 1) := by decide +kernel
theorem dX12_sayPerson_120 : decode cX12_sayPerson 120 = .ok (.getfield 40, 3) := by decide +kernel
theorem dX12_sayPerson_123 : decode cX12_sayPerson 123 = .ok (.iconst 5, 1) := by decide +kernel
theorem dX12_sayPerson_124 : decode cX12_sayPerson 124 = .ok (.dup2, 1) := by decide +kernel
theorem dX12_sayPerson_125 : decode cX12_sayPerson 125 = .ok (.iaload, 1) := by decide +kernel
theorem dX12_sayPerson_126 : decode cX12_sayPerson 126 = .ok (.iconst 1, 1) := by decide +kernel
theorem dX12_sayPerson_127 : decode cX12_sayPerson 127 = .ok (.iadd, 1) := by decide +kernel
theorem dX12_sayPerson_128 : decode cX12_sayPerson 128 = .ok (.iastore, 1) := by decide +kernel
theorem dX12_sayPerson_129 : decode cX12_sayPerson 129 = .ok (.return_, 1) := by decide +kernel
theorem dX12_sayFeud_0 : decode cX12_sayFeud 0 = .ok (.aload_n 0, 1) := by decide +kernel
theorem dX12_sayFeud_1 : decode cX12_sayFeud 1 = .ok (.iconst 1, 1) := by decide +kernel
theorem dX12_sayFeud_2 : decode cX12_sayFeud 2 = .ok (.bipush 6, 2) := by decide +kernel
theorem dX12_sayFeud_4 : decode cX12_sayFeud 4 = .ok (.invokevirtual 282, 3) := by decide +kernel
theorem dX12_sayFeud_7 : decode cX12_sayFeud 7 = .ok (.ifCond .ne 4, 3) := by decide +kernel
theorem dX12_sayFeud_10 : decode cX12_sayFeud 10 = .ok (.return_, 1) := by decide +kernel
theorem dX12_sayFeud_11 : decode cX12_sayFeud 11 = .ok (.aload_n 0, 1) := by decide +kernel
theorem dX12_sayFeud_12 : decode cX12_sayFeud 12 = .ok (.invokevirtual 286, 3) := by decide +kernel
theorem dX12_sayFeud_15 : decode cX12_sayFeud 15 = .ok (.istore_n 1, 1) := by decide +kernel
theorem dX12_sayFeud_16 : decode cX12_sayFeud 16 = .ok (.aload_n 0, 1) := by decide +kernel
theorem dX12_sayFeud_17 : decode cX12_sayFeud 17 = .ok (.getfield 214, 3) := by decide +kernel
theorem dX12_sayFeud_20 : decode cX12_sayFeud 20 = .ok (.ifCond .ne 7, 3) := by decide +kernel
theorem dX12_sayFeud_23 : decode cX12_sayFeud 23 = .ok (.aload_n 0, 1) := by decide +kernel
theorem dX12_sayFeud_24 : decode cX12_sayFeud 24 = .ok (.invokevirtual 239, 3) := by decide +kernel
theorem dX12_sayFeud_27 : decode cX12_sayFeud 27 = .ok (.aload_n 0, 1) := by decide +kernel
theorem dX12_sayFeud_28 : decode cX12_sayFeud 28 = .ok (.invokevirtual 286, 3) := by decide +kernel
theorem dX12_sayFeud_31 : decode cX12_sayFeud 31 = .ok (.istore_n 2, 1) := by decide +kernel
theorem dX12_sayFeud_32 : decode cX12_sayFeud 32 = .ok (.iload_n 1, 1) := by decide +kernel
theorem dX12_sayFeud_33 : decode cX12_sayFeud 33 = .ok (.iload_n 2, 1) := by decide +kernel
theorem dX12_sayFeud_34 : decode cX12_sayFeud 34 = .ok (.if_icmp .ne 7, 3) := by decide +kernel
theorem dX12_sayFeud_37 : decode cX12_sayFeud 37 = .ok (.iconst 1, 1) := by decide +kernel
theorem dX12_sayFeud_38 : decode cX12_sayFeud 38 = .ok (.goto 4, 3) := by decide +kernel
theorem dX12_sayFeud_41 : decode cX12_sayFeud 41 = .ok (.iconst 0, 1) := by decide +kernel
theorem dX12_sayFeud_42 : decode cX12_sayFeud 42 = .ok (.istore_n 3, 1) := by decide +kernel
theorem dX12_sayFeud_43 : decode cX12_sayFeud 43 = .ok (.bipush 6, 2) := by decide +kernel
theorem dX12_sayFeud_45 : decode cX12_sayFeud 45 = .ok (.istore 4, 2) := by decide +kernel
theorem dX12_sayFeud_47 : decode cX12_sayFeud 47 = .ok (.iload 4, 2) := by decide +kernel
theorem dX12_sayFeud_49 : decode cX12_sayFeud 49 = .ok (.bipush 6, 2) := by decide +kernel
theorem dX12_sayFeud_51 : decode cX12_sayFeud 51 = .ok (.aload_n 0, 1) := by decide +kernel
theorem dX12_sayFeud_52 : decode cX12_sayFeud 52 = .ok (.getfield 40, 3) := by decide +kernel
theorem dX12_sayFeud_55 : decode cX12_sayFeud 55 = .ok (.bipush 6, 2) := by decide +kernel
theorem dX12_sayFeud_57 : decode cX12_sayFeud 57 = .ok (.iaload, 1) := by decide +kernel
theorem dX12_sayFeud_58 : decode cX12_sayFeud 58 = .ok (.iadd, 1) := by decide +kernel
theorem dX12_sayFeud_59 : decode cX12_sayFeud 59 = .ok (.if_icmp .ge 63, 3) := by decide +kernel
theorem dX12_sayFeud_62 : decode cX12_sayFeud 62 = .ok (.iload_n 3, 1) := by decide +kernel
theorem dX12_sayFeud_63 : decode cX12_sayFeud 63 = .ok (.ifCond .ne 47, 3) := by decide +kernel
theorem dX12_sayFeud_66 : decode cX12_sayFeud 66 = .ok (.aload_n 0, 1) := by decide +kernel
theorem dX12_sayFeud_67 : decode cX12_sayFeud 67 = .ok (.getfield 55, 3) := by decide +kernel
theorem dX12_sayFeud_70 : decode cX12_sayFeud 70 = .ok (.iload 4, 2) := by decide +kernel
theorem dX12_sayFeud_72 : decode cX12_sayFeud 72 = .ok (.iaload, 1) := by decide +kernel
theorem dX12_sayFeud_73 : decode cX12_sayFeud 73 = .ok (.iload_n 1, 1) := by decide +kernel
theorem dX12_sayFeud_74 : decode cX12_sayFeud 74 = .ok (.if_icmp .ne 14, 3) := by decide +kernel
theorem dX12_sayFeud_77 : decode cX12_sayFeud 77 = .ok (.aload_n 0, 1) := by decide +kernel
theorem dX12_sayFeud_78 : decode cX12_sayFeud 78 = .ok (.getfield 58, 3) := by decide +kernel
theorem dX12_sayFeud_81 : decode cX12_sayFeud 81 = .ok (.iload 4, 2) := by decide +kernel
theorem dX12_sayFeud_83 : decode cX12_sayFeud 83 = .ok (.iaload, 1) := by decide +kernel
theorem dX12_sayFeud_84 : decode cX12_sayFeud 84 = .ok (.iload_n 2, 1) := by decide +kernel
theorem dX12_sayFeud_85 : decode cX12_sayFeud 85 = .ok (.if_icmp .eq 25, 3) := by decide +kernel
theorem dX12_sayFeud_88 : decode cX12_sayFeud 88 = .ok (.aload_n 0, 1) := by decide +kernel
theorem dX12_sayFeud_89 : decode cX12_sayFeud 89 = .ok (.getfield 55, 3) := by decide +kernel
theorem dX12_sayFeud_92 : decode cX12_sayFeud 92 = .ok (.iload 4, 2) := by decide +kernel
theorem dX12_sayFeud_94 : decode cX12_sayFeud 94 = .ok (.iaload, 1) := by decide +kernel
theorem dX12_sayFeud_95 : decode cX12_sayFeud 95 = .ok (.iload_n 2, 1) := by decide +kernel
theorem dX12_sayFeud_96 : decode cX12_sayFeud 96 = .ok (.if_icmp .ne 18, 3) := by decide +kernel
theorem dX12_sayFeud_99 : decode cX12_sayFeud 99 = .ok (.aload_n 0, 1) := by decide +kernel
theorem dX12_sayFeud_100 : decode cX12_sayFeud 100 = .ok (.getfield 58, 3) := by decide +kernel
theorem dX12_sayFeud_103 : decode cX12_sayFeud 103 = .ok (.iload 4, 2) := by decide +kernel
theorem dX12_sayFeud_105 : decode cX12_sayFeud 105 = .ok (.iaload, 1) := by decide +kernel
theorem dX12_sayFeud_106 : decode cX12_sayFeud 106 = .ok (.iload_n 1, 1) := by decide +kernel
theorem dX12_sayFeud_107 : decode cX12_sayFeud 107 = .ok (.if_icmp .ne 7, 3) := by decide +kernel
theorem dX12_sayFeud_110 : decode cX12_sayFeud 110 = .ok (.iconst 1, 1) := by decide +kernel
theorem dX12_sayFeud_111 : decode cX12_sayFeud 111 = .ok (.goto 4, 3) := by decide +kernel
theorem dX12_sayFeud_114 : decode cX12_sayFeud 114 = .ok (.iconst 0, 1) := by decide +kernel
theorem dX12_sayFeud_115 : decode cX12_sayFeud 115 = .ok (.istore_n 3, 1) := by decide +kernel
theorem dX12_sayFeud_116 : decode cX12_sayFeud 116 = .ok (.iinc 4 1, 3) := by decide +kernel
theorem dX12_sayFeud_119 : decode cX12_sayFeud 119 = .ok (.goto (-72), 3) := by decide +kernel
theorem dX12_sayFeud_122 : decode cX12_sayFeud 122 = .ok (.aload_n 0, 1) := by decide +kernel
theorem dX12_sayFeud_123 : decode cX12_sayFeud 123 = .ok (.getfield 214, 3) := by decide +kernel
theorem dX12_sayFeud_126 : decode cX12_sayFeud 126 = .ok (.ifCond .ne 12, 3) := by decide +kernel
theorem dX12_sayFeud_129 : decode cX12_sayFeud 129 = .ok (.iload_n 3, 1) := by decide +kernel
theorem dX12_sayFeud_130 : decode cX12_sayFeud 130 = .ok (.ifCond .eq 8, 3) := by decide +kernel
theorem dX12_sayFeud_133 : decode cX12_sayFeud 133 = .ok (.aload_n 0, 1) := by decide +kernel
theorem dX12_sayFeud_134 : decode cX12_sayFeud 134 = .ok (.iconst 4, 1) := by decide +kernel
theorem dX12_sayFeud_135 : decode cX12_sayFeud 135 = .ok (.invokevirtual 235, 3) := by decide +kernel
theorem dX12_sayFeud_138 : decode cX12_sayFeud 138 = .ok (.aload_n 0, 1) := by decide +kernel
theorem dX12_sayFeud_139 : decode cX12_sayFeud 139 = .ok (.getfield 214, 3) := by decide +kernel
theorem dX12_sayFeud_142 : decode cX12_sayFeud 142 = .ok (.ifCond .ne 7, 3) := by decide +kernel
theorem dX12_sayFeud_145 : decode cX12_sayFeud 145 = .ok (.aload_n 0, 1) := by decide +kernel
theorem dX12_sayFeud_146 : decode cX12_sayFeud 146 = .ok (.invokevirtual 239, 3) := by decide +kernel
theorem dX12_sayFeud_149 : decode cX12_sayFeud 149 = .ok (.aload_n 0, 1) := by decide +kernel
theorem dX12_sayFeud_150 : decode cX12_sayFeud 150 = .ok (.getfield 55, 3) := by decide +kernel
theorem dX12_sayFeud_153 : decode cX12_sayFeud 153 = .ok (.bipush 6, 2) := by decide +kernel
theorem dX12_sayFeud_155 : decode cX12_sayFeud 155 = .ok (.aload_n 0, 1) := by decide +kernel
theorem dX12_sayFeud_156 : decode cX12_sayFeud 156 = .ok (.getfield 40, 3) := by decide +kernel
theorem dX12_sayFeud_159 : decode cX12_sayFeud 159 = .ok (.bipush 6, 2) := by decide +kernel
theorem dX12_sayFeud_161 : decode cX12_sayFeud 161 = .ok (.iaload, 1) := by decide +kernel
theorem dX12_sayFeud_162 : decode cX12_sayFeud 162 = .ok (.iadd, 1) := by decide +kernel
theorem dX12_sayFeud_163 : decode cX12_sayFeud 163 = .ok (.iload_n 1, 1) := by decide +kernel
theorem dX12_sayFeud_164 : decode cX12_sayFeud 164 = .ok (.iastore, 1) := by decide +kernel
theorem dX12_sayFeud_165 : decode cX12_sayFeud 165 = .ok (.aload_n 0, 1) := by decide +kernel
theorem dX12_sayFeud_166 : decode cX12_sayFeud 166 = .ok (.getfield 58, 3) := by decide +kernel
theorem dX12_sayFeud_169 : decode cX12_sayFeud 169 = .ok (.bipush 6, 2) := by decide +kernel
theorem dX12_sayFeud_171 : decode cX12_sayFeud 171 = .ok (.aload_n 0, 1) := by decide +kernel
theorem dX12_sayFeud_172 : decode cX12_sayFeud 172 = .ok (.getfield 40, 3) := by decide +kernel
theorem dX12_sayFeud_175 : decode cX12_sayFeud 175 = .ok (.bipush 6, 2) := by decide +kernel
theorem dX12_sayFeud_177 : decode cX12_sayFeud 177 = .ok (.iaload, 1) := by decide +kernel
theorem dX12_sayFeud_178 : decode cX12_sayFeud 178 = .ok (.iadd, 1) := by decide +kernel
theorem dX12_sayFeud_179 : decode cX12_sayFeud 179 = .ok (.iload_n 2, 1) := by decide +kernel
theorem dX12_sayFeud_180 : decode cX12_sayFeud 180 = .ok (.iastore, 1) := by decide +kernel
theorem dX12_sayFeud_181 : decode cX12_sayFeud 181 = .ok (.aload_n 0, 1) := by decide +kernel
theorem dX12_sayFeud_182 : decode cX12_sayFeud 182 = .ok (.getfield 40, 3) := by decide +kernel
theorem dX12_sayFeud_185 : decode cX12_sayFeud 185 = .ok (.bipush 6, 2) := by decide +kernel
theorem dX12_sayFeud_187 : decode cX12_sayFeud 187 = .ok (.dup2, 1) := by decide +kernel
theorem dX12_sayFeud_188 : decode cX12_sayFeud 188 = .ok (.iaload, 1) := by decide +kernel
theorem dX12_sayFeud_189 : decode cX12_sayFeud 189 = .ok (.iconst 1, 1) := by decide +kernel
theorem dX12_sayFeud_190 : decode cX12_sayFeud 190 = .ok (.iadd, 1) := by decide +kernel
theorem dX12_sayFeud_191 : decode cX12_sayFeud 191 = .ok (.iastore, 1) := by decide +kernel
theorem dX12_sayFeud_192 : decode cX12_sayFeud 192 = .ok (.return_, 1) := by decide +kernel
theorem dX12_sayOther_0 : decode cX12_sayOther 0 = .ok (.iconst 1, 1) := by decide +kernel
theorem dX12_sayOther_1 : decode cX12_sayOther 1 = .ok (.istore_n 1, 1) := by decide +kernel
theorem dX12_sayOther_2 : decode cX12_sayOther 2 = .ok (.aload_n 0, 1) := by decide +kernel
theorem dX12_sayOther_3 : decode cX12_sayOther 3 = .ok (.getfield 214, 3) := by decide +kernel
theorem dX12_sayOther_6 : decode cX12_sayOther 6 = .ok (.ifCond .ne 92, 3) := by decide +kernel
theorem dX12_sayOther_9 : decode cX12_sayOther 9 = .ok (.iload_n 1, 1) := by decide +kernel
theorem dX12_sayOther_10 : decode cX12_sayOther 10 = .ok (.ifCond .ne 11, 3) := by decide +kernel
theorem dX12_sayOther_13 : decode cX12_sayOther 13 = .ok (.aload_n 0, 1) := by decide +kernel
theorem dX12_sayOther_14 : decode cX12_sayOther 14 = .ok (.getfield 188, 3) := by decide +kernel
theorem dX12_sayOther_17 : decode cX12_sayOther 17 = .ok (.iconst 2, 1) := by decide +kernel
theorem dX12_sayOther_18 : decode cX12_sayOther 18 = .ok (.if_icmp .ne 80, 3) := by decide +kernel
theorem dX12_sayOther_21 : decode cX12_sayOther 21 = .ok (.iconst 0, 1) := by decide +kernel
theorem dX12_sayOther_22 : decode cX12_sayOther 22 = .ok (.istore_n 1, 1) := by decide +kernel
theorem dX12_sayOther_23 : decode cX12_sayOther 23 = .ok (.aload_n 0, 1) := by decide +kernel
theorem dX12_sayOther_24 : decode cX12_sayOther 24 = .ok (.getfield 188, 3) := by decide +kernel
theorem dX12_sayOther_27 : decode cX12_sayOther 27 = .ok (.iconst 2, 1) := by decide +kernel
theorem dX12_sayOther_28 : decode cX12_sayOther 28 = .ok (.if_icmp .ne 20, 3) := by decide +kernel
theorem dX12_sayOther_31 : decode cX12_sayOther 31 = .ok (.aload_n 0, 1) := by decide +kernel
theorem dX12_sayOther_32 : decode cX12_sayOther 32 = .ok (.getfield 40, 3) := by decide +kernel
theorem dX12_sayOther_35 : decode cX12_sayOther 35 = .ok (.bipush 7, 2) := by decide +kernel
theorem dX12_sayOther_37 : decode cX12_sayOther 37 = .ok (.iaload, 1) := by decide +kernel
theorem dX12_sayOther_38 : decode cX12_sayOther 38 = .ok (.bipush 24, 2) := by decide +kernel
theorem dX12_sayOther_40 : decode cX12_sayOther 40 = .ok (.if_icmp .ne 8, 3) := by decide +kernel
theorem dX12_sayOther_43 : decode cX12_sayOther 43 = .ok (.aload_n 0, 1) := by decide +kernel
theorem dX12_sayOther_44 : decode cX12_sayOther 44 = .ok (.iconst 2, 1) := by decide +kernel
theorem dX12_sayOther_45 : decode cX12_sayOther 45 = .ok (.invokevirtual 235, 3) := by decide +kernel
theorem dX12_sayOther_48 : decode cX12_sayOther 48 = .ok (.aload_n 0, 1) := by decide +kernel
theorem dX12_sayOther_49 : decode cX12_sayOther 49 = .ok (.iconst 0, 1) := by decide +kernel
theorem dX12_sayOther_50 : decode cX12_sayOther 50 = .ok (.bipush 12, 2) := by decide +kernel
theorem dX12_sayOther_52 : decode cX12_sayOther 52 = .ok (.invokevirtual 242, 3) := by decide +kernel
theorem dX12_sayOther_55 : decode cX12_sayOther 55 = .ok (.istore_n 2, 1) := by decide +kernel
theorem dX12_sayOther_56 : decode cX12_sayOther 56 = .ok (.aload_n 0, 1) := by decide +kernel
theorem dX12_sayOther_57 : decode cX12_sayOther 57 = .ok (.getfield 214, 3) := by decide +kernel
theorem dX12_sayOther_60 : decode cX12_sayOther 60 = .ok (.ifCond .eq 4, 3) := by decide +kernel
theorem dX12_sayOther_63 : decode cX12_sayOther 63 = .ok (.return_, 1) := by decide +kernel
theorem dX12_sayOther_64 : decode cX12_sayOther 64 = .ok (.aload_n 0, 1) := by decide +kernel
theorem dX12_sayOther_65 : decode cX12_sayOther 65 = .ok (.invokevirtual 239, 3) := by decide +kernel
theorem dX12_sayOther_68 : decode cX12_sayOther 68 = .ok (.aload_n 0, 1) := by decide +kernel
theorem dX12_sayOther_69 : decode cX12_sayOther 69 = .ok (.getfield 61, 3) := by decide +kernel
theorem dX12_sayOther_72 : decode cX12_sayOther 72 = .ok (.bipush 24, 2) := by decide +kernel
theorem dX12_sayOther_74 : decode cX12_sayOther 74 = .ok (.aload_n 0, 1) := by decide +kernel
theorem dX12_sayOther_75 : decode cX12_sayOther 75 = .ok (.getfield 40, 3) := by decide +kernel
theorem dX12_sayOther_78 : decode cX12_sayOther 78 = .ok (.bipush 7, 2) := by decide +kernel
theorem dX12_sayOther_80 : decode cX12_sayOther 80 = .ok (.iaload, 1) := by decide +kernel
theorem dX12_sayOther_81 : decode cX12_sayOther 81 = .ok (.iadd, 1) := by decide +kernel
theorem dX12_sayOther_82 : decode cX12_sayOther 82 = .ok (.iload_n 2, 1) := by decide +kernel
theorem dX12_sayOther_83 : decode cX12_sayOther 83 = .ok (.iastore, 1) := by decide +kernel
theorem dX12_sayOther_84 : decode cX12_sayOther 84 = .ok (.aload_n 0, 1) := by decide +kernel
theorem dX12_sayOther_85 : decode cX12_sayOther 85 = .ok (.getfield 40, 3) := by decide +kernel
theorem dX12_sayOther_88 : decode cX12_sayOther 88 = .ok (.bipush 7, 2) := by decide +kernel
theorem dX12_sayOther_90 : decode cX12_sayOther 90 = .ok (.dup2, 1) := by decide +kernel
theorem dX12_sayOther_91 : decode cX12_sayOther 91 = .ok (.iaload, 1) := by decide +kernel
theorem dX12_sayOther_92 : decode cX12_sayOther 92 = .ok (.iconst 1, 1) := by decide +kernel
theorem dX12_sayOther_93 : decode cX12_sayOther 93 = .ok (.iadd, 1) := by decide +kernel
theorem dX12_sayOther_94 : decode cX12_sayOther 94 = .ok (.iastore, 1) := by decide +kernel
theorem dX12_sayOther_95 : decode cX12_sayOther 95 = .ok (.goto (-93), 3) := by decide +kernel
theorem dX12_sayOther_98 : decode cX12_sayOther 98 = .ok (.return_, 1) := by decide +kernel
theorem dX12_readLine_0 : decode cX12_readLine 0 = .ok (.aload_n 0, 1) := by decide +kernel
theorem dX12_readLine_1 : decode cX12_readLine 1 = .ok (.ldc 29, 2) := by decide +kernel
theorem dX12_readLine_3 : decode cX12_readLine 3 = .ok (.invokevirtual 228, 3) := by decide +kernel
theorem dX12_readLine_6 : decode cX12_readLine 6 = .ok (.ifCond .eq 7, 3) := by decide +kernel
theorem dX12_readLine_9 : decode cX12_readLine 9 = .ok (.iconst 1, 1) := by decide +kernel
theorem dX12_readLine_10 : decode cX12_readLine 10 = .ok (.goto 32, 3) := by decide +kernel
theorem dX12_readLine_13 : decode cX12_readLine 13 = .ok (.aload_n 0, 1) := by decide +kernel
theorem dX12_readLine_14 : decode cX12_readLine 14 = .ok (.ldc_w 289, 3) := by decide +kernel
theorem dX12_readLine_17 : decode cX12_readLine 17 = .ok (.invokevirtual 228, 3) := by decide +kernel
theorem dX12_readLine_20 : decode cX12_readLine 20 = .ok (.ifCond .eq 7, 3) := by decide +kernel
theorem dX12_readLine_23 : decode cX12_readLine 23 = .ok (.iconst 2, 1) := by decide +kernel
theorem dX12_readLine_24 : decode cX12_readLine 24 = .ok (.goto 18, 3) := by decide +kernel
theorem dX12_readLine_27 : decode cX12_readLine 27 = .ok (.aload_n 0, 1) := by decide +kernel
theorem dX12_readLine_28 : decode cX12_readLine 28 = .ok (.ldc_w 290, 3) := by decide +kernel
theorem dX12_readLine_31 : decode cX12_readLine 31 = .ok (.invokevirtual 228, 3) := by decide +kernel
theorem dX12_readLine_34 : decode cX12_readLine 34 = .ok (.ifCond .eq 7, 3) := by decide +kernel
theorem dX12_readLine_37 : decode cX12_readLine 37 = .ok (.iconst 4, 1) := by decide +kernel
theorem dX12_readLine_38 : decode cX12_readLine 38 = .ok (.goto 4, 3) := by decide +kernel
theorem dX12_readLine_41 : decode cX12_readLine 41 = .ok (.iconst 0, 1) := by decide +kernel
theorem dX12_readLine_42 : decode cX12_readLine 42 = .ok (.istore_n 2, 1) := by decide +kernel
theorem dX12_readLine_43 : decode cX12_readLine 43 = .ok (.aload_n 0, 1) := by decide +kernel
theorem dX12_readLine_44 : decode cX12_readLine 44 = .ok (.aload_n 0, 1) := by decide +kernel
theorem dX12_readLine_45 : decode cX12_readLine 45 = .ok (.getfield 19, 3) := by decide +kernel
theorem dX12_readLine_48 : decode cX12_readLine 48 = .ok (.invokevirtual 251, 3) := by decide +kernel
theorem dX12_readLine_51 : decode cX12_readLine 51 = .ok (.istore_n 3, 1) := by decide +kernel
theorem dX12_readLine_52 : decode cX12_readLine 52 = .ok (.iload_n 2, 1) := by decide +kernel
theorem dX12_readLine_53 : decode cX12_readLine 53 = .ok (.iload_n 1, 1) := by decide +kernel
theorem dX12_readLine_54 : decode cX12_readLine 54 = .ok (.iand, 1) := by decide +kernel
theorem dX12_readLine_55 : decode cX12_readLine 55 = .ok (.ifCond .eq 8, 3) := by decide +kernel
theorem dX12_readLine_58 : decode cX12_readLine 58 = .ok (.aload_n 0, 1) := by decide +kernel
theorem dX12_readLine_59 : decode cX12_readLine 59 = .ok (.iconst 5, 1) := by decide +kernel
theorem dX12_readLine_60 : decode cX12_readLine 60 = .ok (.invokevirtual 235, 3) := by decide +kernel
theorem dX12_readLine_63 : decode cX12_readLine 63 = .ok (.iload_n 2, 1) := by decide +kernel
theorem dX12_readLine_64 : decode cX12_readLine 64 = .ok (.ifCond .le 56, 3) := by decide +kernel
theorem dX12_readLine_67 : decode cX12_readLine 67 = .ok (.aload_n 0, 1) := by decide +kernel
theorem dX12_readLine_68 : decode cX12_readLine 68 = .ok (.getfield 214, 3) := by decide +kernel
theorem dX12_readLine_71 : decode cX12_readLine 71 = .ok (.ifCond .ne 7, 3) := by decide +kernel
theorem dX12_readLine_74 : decode cX12_readLine 74 = .ok (.aload_n 0, 1) := by decide +kernel
theorem dX12_readLine_75 : decode cX12_readLine 75 = .ok (.invokevirtual 239, 3) := by decide +kernel
theorem dX12_readLine_78 : decode cX12_readLine 78 = .ok (.iload_n 2, 1) := by decide +kernel
theorem dX12_readLine_79 : decode cX12_readLine 79 = .ok (.iconst 1, 1) := by decide +kernel
theorem dX12_readLine_80 : decode cX12_readLine 80 = .ok (.if_icmp .ne 20, 3) := by decide +kernel
theorem dX12_readLine_83 : decode cX12_readLine 83 = .ok (.aload_n 0, 1) := by decide +kernel
theorem dX12_readLine_84 : decode cX12_readLine 84 = .ok (.getfield 40, 3) := by decide +kernel
theorem dX12_readLine_87 : decode cX12_readLine 87 = .ok (.bipush 8, 2) := by decide +kernel
theorem dX12_readLine_89 : decode cX12_readLine 89 = .ok (.aload_n 0, 1) := by decide +kernel
theorem dX12_readLine_90 : decode cX12_readLine 90 = .ok (.iconst 0, 1) := by decide +kernel
theorem dX12_readLine_91 : decode cX12_readLine 91 = .ok (.bipush 11, 2) := by decide +kernel
theorem dX12_readLine_93 : decode cX12_readLine 93 = .ok (.invokevirtual 245, 3) := by decide +kernel
theorem dX12_readLine_96 : decode cX12_readLine 96 = .ok (.iastore, 1) := by decide +kernel
theorem dX12_readLine_97 : decode cX12_readLine 97 = .ok (.goto 58, 3) := by decide +kernel
theorem dX12_readLine_100 : decode cX12_readLine 100 = .ok (.iload_n 2, 1) := by decide +kernel
theorem dX12_readLine_101 : decode cX12_readLine 101 = .ok (.iconst 2, 1) := by decide +kernel
theorem dX12_readLine_102 : decode cX12_readLine 102 = .ok (.if_icmp .ne 10, 3) := by decide +kernel
theorem dX12_readLine_105 : decode cX12_readLine 105 = .ok (.aload_n 0, 1) := by decide +kernel
theorem dX12_readLine_106 : decode cX12_readLine 106 = .ok (.invokevirtual 292, 3) := by decide +kernel
theorem dX12_readLine_109 : decode cX12_readLine 109 = .ok (.goto 46, 3) := by decide +kernel
theorem dX12_readLine_112 : decode cX12_readLine 112 = .ok (.aload_n 0, 1) := by decide +kernel
theorem dX12_readLine_113 : decode cX12_readLine 113 = .ok (.iconst 0, 1) := by decide +kernel
theorem dX12_readLine_114 : decode cX12_readLine 114 = .ok (.invokevirtual 258, 3) := by decide +kernel
theorem dX12_readLine_117 : decode cX12_readLine 117 = .ok (.goto 38, 3) := by decide +kernel
theorem dX12_readLine_120 : decode cX12_readLine 120 = .ok (.iload_n 3, 1) := by decide +kernel
theorem dX12_readLine_121 : decode cX12_readLine 121 = .ok (.iconst (-1), 1) := by decide +kernel
theorem dX12_readLine_122 : decode cX12_readLine 122 = .ok (.if_icmp .eq 11, 3) := by decide +kernel
theorem dX12_readLine_125 : decode cX12_readLine 125 = .ok (.aload_n 0, 1) := by decide +kernel
theorem dX12_readLine_126 : decode cX12_readLine 126 = .ok (.iload_n 3, 1) := by decide +kernel
theorem dX12_readLine_127 : decode cX12_readLine 127 = .ok (.invokevirtual 295, 3) := by decide +kernel
theorem dX12_readLine_130 : decode cX12_readLine 130 = .ok (.goto 25, 3) := by decide +kernel
theorem dX12_readLine_133 : decode cX12_readLine 133 = .ok (.aload_n 0, 1) := by decide +kernel
theorem dX12_readLine_134 : decode cX12_readLine 134 = .ok (.ldc_w 298, 3) := by decide +kernel
theorem dX12_readLine_137 : decode cX12_readLine 137 = .ok (.invokevirtual 228, 3) := by decide +kernel
theorem dX12_readLine_140 : decode cX12_readLine 140 = .ok (.ifCond .eq 10, 3) := by decide +kernel
theorem dX12_readLine_143 : decode cX12_readLine 143 = .ok (.aload_n 0, 1) := by decide +kernel
theorem dX12_readLine_144 : decode cX12_readLine 144 = .ok (.invokevirtual 300, 3) := by decide +kernel
theorem dX12_readLine_147 : decode cX12_readLine 147 = .ok (.goto 8, 3) := by decide +kernel
theorem dX12_readLine_150 : decode cX12_readLine 150 = .ok (.aload_n 0, 1) := by decide +kernel
theorem dX12_readLine_151 : decode cX12_readLine 151 = .ok (.iconst 1, 1) := by decide +kernel
theorem dX12_readLine_152 : decode cX12_readLine 152 = .ok (.invokevirtual 235, 3) := by decide +kernel
theorem dX12_readLine_155 : decode cX12_readLine 155 = .ok (.aload_n 0, 1) := by decide +kernel
theorem dX12_readLine_156 : decode cX12_readLine 156 = .ok (.bipush 59, 2) := by decide +kernel
theorem dX12_readLine_158 : decode cX12_readLine 158 = .ok (.invokevirtual 255, 3) := by decide +kernel
theorem dX12_readLine_161 : decode cX12_readLine 161 = .ok (.iload_n 1, 1) := by decide +kernel
theorem dX12_readLine_162 : decode cX12_readLine 162 = .ok (.iload_n 2, 1) := by decide +kernel
theorem dX12_readLine_163 : decode cX12_readLine 163 = .ok (.ior, 1) := by decide +kernel
theorem dX12_readLine_164 : decode cX12_readLine 164 = .ok (.ireturn, 1) := by decide +kernel
theorem dX12_town_0 : decode cX12_town 0 = .ok (.aload_n 0, 1) := by decide +kernel
theorem dX12_town_1 : decode cX12_town 1 = .ok (.iconst 0, 1) := by decide +kernel
theorem dX12_town_2 : decode cX12_town 2 = .ok (.putfield 165, 3) := by decide +kernel
theorem dX12_town_5 : decode cX12_town 5 = .ok (.iload_n 1, 1) := by decide +kernel
theorem dX12_town_6 : decode cX12_town 6 = .ok (.ifCond .lt 11, 3) := by decide +kernel
theorem dX12_town_9 : decode cX12_town 9 = .ok (.iload_n 1, 1) := by decide +kernel
theorem dX12_town_10 : decode cX12_town 10 = .ok (.aload_n 0, 1) := by decide +kernel
theorem dX12_town_11 : decode cX12_town 11 = .ok (.getfield 172, 3) := by decide +kernel
theorem dX12_town_14 : decode cX12_town 14 = .ok (.if_icmp .le 9, 3) := by decide +kernel
theorem dX12_town_17 : decode cX12_town 17 = .ok (.aload_n 0, 1) := by decide +kernel
theorem dX12_town_18 : decode cX12_town 18 = .ok (.iconst 1, 1) := by decide +kernel
theorem dX12_town_19 : decode cX12_town 19 = .ok (.invokevirtual 303, 3) := by decide +kernel
theorem dX12_town_22 : decode cX12_town 22 = .ok (.ireturn, 1) := by decide +kernel
theorem dX12_town_23 : decode cX12_town 23 = .ok (.aload_n 0, 1) := by decide +kernel
theorem dX12_town_24 : decode cX12_town 24 = .ok (.iconst 0, 1) := by decide +kernel
theorem dX12_town_25 : decode cX12_town 25 = .ok (.putfield 172, 3) := by decide +kernel
theorem dX12_town_28 : decode cX12_town 28 = .ok (.aload_n 0, 1) := by decide +kernel
theorem dX12_town_29 : decode cX12_town 29 = .ok (.iload_n 1, 1) := by decide +kernel
theorem dX12_town_30 : decode cX12_town 30 = .ok (.putfield 175, 3) := by decide +kernel
theorem dX12_town_33 : decode cX12_town 33 = .ok (.aload_n 0, 1) := by decide +kernel
theorem dX12_town_34 : decode cX12_town 34 = .ok (.iconst 0, 1) := by decide +kernel
theorem dX12_town_35 : decode cX12_town 35 = .ok (.putfield 178, 3) := by decide +kernel
theorem dX12_town_38 : decode cX12_town 38 = .ok (.aload_n 0, 1) := by decide +kernel
theorem dX12_town_39 : decode cX12_town 39 = .ok (.iconst 0, 1) := by decide +kernel
theorem dX12_town_40 : decode cX12_town 40 = .ok (.putfield 214, 3) := by decide +kernel
theorem dX12_town_43 : decode cX12_town 43 = .ok (.aload_n 0, 1) := by decide +kernel
theorem dX12_town_44 : decode cX12_town 44 = .ok (.iconst (-1), 1) := by decide +kernel
theorem dX12_town_45 : decode cX12_town 45 = .ok (.putfield 76, 3) := by decide +kernel
theorem dX12_town_48 : decode cX12_town 48 = .ok (.iconst 0, 1) := by decide +kernel
theorem dX12_town_49 : decode cX12_town 49 = .ok (.istore_n 2, 1) := by decide +kernel
theorem dX12_town_50 : decode cX12_town 50 = .ok (.iload_n 2, 1) := by decide +kernel
theorem dX12_town_51 : decode cX12_town 51 = .ok (.iconst 5, 1) := by decide +kernel
theorem dX12_town_52 : decode cX12_town 52 = .ok (.if_icmp .ge 18, 3) := by decide +kernel
theorem dX12_town_55 : decode cX12_town 55 = .ok (.aload_n 0, 1) := by decide +kernel
theorem dX12_town_56 : decode cX12_town 56 = .ok (.getfield 40, 3) := by decide +kernel
theorem dX12_town_59 : decode cX12_town 59 = .ok (.iconst 5, 1) := by decide +kernel
theorem dX12_town_60 : decode cX12_town 60 = .ok (.iload_n 2, 1) := by decide +kernel
theorem dX12_town_61 : decode cX12_town 61 = .ok (.iadd, 1) := by decide +kernel
theorem dX12_town_62 : decode cX12_town 62 = .ok (.iconst 0, 1) := by decide +kernel
theorem dX12_town_63 : decode cX12_town 63 = .ok (.iastore, 1) := by decide +kernel
theorem dX12_town_64 : decode cX12_town 64 = .ok (.iinc 2 1, 3) := by decide +kernel
theorem dX12_town_67 : decode cX12_town 67 = .ok (.goto (-17), 3) := by decide +kernel
theorem dX12_town_70 : decode cX12_town 70 = .ok (.aload_n 0, 1) := by decide +kernel
theorem dX12_town_71 : decode cX12_town 71 = .ok (.invokevirtual 239, 3) := by decide +kernel
theorem dX12_town_74 : decode cX12_town 74 = .ok (.iconst 0, 1) := by decide +kernel
theorem dX12_town_75 : decode cX12_town 75 = .ok (.istore_n 2, 1) := by decide +kernel
theorem dX12_town_76 : decode cX12_town 76 = .ok (.aload_n 0, 1) := by decide +kernel
theorem dX12_town_77 : decode cX12_town 77 = .ok (.getfield 214, 3) := by decide +kernel
theorem dX12_town_80 : decode cX12_town 80 = .ok (.ifCond .ne 19, 3) := by decide +kernel
theorem dX12_town_83 : decode cX12_town 83 = .ok (.aload_n 0, 1) := by decide +kernel
theorem dX12_town_84 : decode cX12_town 84 = .ok (.getfield 188, 3) := by decide +kernel
theorem dX12_town_87 : decode cX12_town 87 = .ok (.ifCond .eq 12, 3) := by decide +kernel
theorem dX12_town_90 : decode cX12_town 90 = .ok (.aload_n 0, 1) := by decide +kernel
theorem dX12_town_91 : decode cX12_town 91 = .ok (.iload_n 2, 1) := by decide +kernel
theorem dX12_town_92 : decode cX12_town 92 = .ok (.invokevirtual 306, 3) := by decide +kernel
theorem dX12_town_95 : decode cX12_town 95 = .ok (.istore_n 2, 1) := by decide +kernel
theorem dX12_town_96 : decode cX12_town 96 = .ok (.goto (-20), 3) := by decide +kernel
theorem dX12_town_99 : decode cX12_town 99 = .ok (.aload_n 0, 1) := by decide +kernel
theorem dX12_town_100 : decode cX12_town 100 = .ok (.getfield 214, 3) := by decide +kernel
theorem dX12_town_103 : decode cX12_town 103 = .ok (.ifCond .eq 26, 3) := by decide +kernel
theorem dX12_town_106 : decode cX12_town 106 = .ok (.aload_n 0, 1) := by decide +kernel
theorem dX12_town_107 : decode cX12_town 107 = .ok (.aload_n 0, 1) := by decide +kernel
theorem dX12_town_108 : decode cX12_town 108 = .ok (.getfield 217, 3) := by decide +kernel
theorem dX12_town_111 : decode cX12_town 111 = .ok (.putfield 76, 3) := by decide +kernel
theorem dX12_town_114 : decode cX12_town 114 = .ok (.aload_n 0, 1) := by decide +kernel
theorem dX12_town_115 : decode cX12_town 115 = .ok (.getfield 67, 3) := by decide +kernel
theorem dX12_town_118 : decode cX12_town 118 = .ok (.iconst 0, 1) := by decide +kernel
theorem dX12_town_119 : decode cX12_town 119 = .ok (.dup2, 1) := by decide +kernel
theorem dX12_town_120 : decode cX12_town 120 = .ok (.iaload, 1) := by decide +kernel
theorem dX12_town_121 : decode cX12_town 121 = .ok (.iconst 1, 1) := by decide +kernel
theorem dX12_town_122 : decode cX12_town 122 = .ok (.iadd, 1) := by decide +kernel
theorem dX12_town_123 : decode cX12_town 123 = .ok (.iastore, 1) := by decide +kernel
theorem dX12_town_124 : decode cX12_town 124 = .ok (.aload_n 0, 1) := by decide +kernel
theorem dX12_town_125 : decode cX12_town 125 = .ok (.getfield 214, 3) := by decide +kernel
theorem dX12_town_128 : decode cX12_town 128 = .ok (.ireturn, 1) := by decide +kernel
theorem dX12_town_129 : decode cX12_town 129 = .ok (.aload_n 0, 1) := by decide +kernel
theorem dX12_town_130 : decode cX12_town 130 = .ok (.invokevirtual 309, 3) := by decide +kernel
theorem dX12_town_133 : decode cX12_town 133 = .ok (.iconst 0, 1) := by decide +kernel
theorem dX12_town_134 : decode cX12_town 134 = .ok (.ireturn, 1) := by decide +kernel
theorem dX12_takeHalf_0 : decode cX12_takeHalf 0 = .ok (.iconst 0, 1) := by decide +kernel
theorem dX12_takeHalf_1 : decode cX12_takeHalf 1 = .ok (.istore_n 1, 1) := by decide +kernel
theorem dX12_takeHalf_2 : decode cX12_takeHalf 2 = .ok (.iload_n 1, 1) := by decide +kernel
theorem dX12_takeHalf_3 : decode cX12_takeHalf 3 = .ok (.aload_n 0, 1) := by decide +kernel
theorem dX12_takeHalf_4 : decode cX12_takeHalf 4 = .ok (.arraylength, 1) := by decide +kernel
theorem dX12_takeHalf_5 : decode cX12_takeHalf 5 = .ok (.iconst 2, 1) := by decide +kernel
theorem dX12_takeHalf_6 : decode cX12_takeHalf 6 = .ok (.idiv, 1) := by decide +kernel
theorem dX12_takeHalf_7 : decode cX12_takeHalf 7 = .ok (.if_icmp .ge 20, 3) := by decide +kernel
theorem dX12_takeHalf_10 : decode cX12_takeHalf 10 = .ok (.aload_n 0, 1) := by decide +kernel
theorem dX12_takeHalf_11 : decode cX12_takeHalf 11 = .ok (.iload_n 1, 1) := by decide +kernel
theorem dX12_takeHalf_12 : decode cX12_takeHalf 12 = .ok (.aload_n 0, 1) := by decide +kernel
theorem dX12_takeHalf_13 : decode cX12_takeHalf 13 = .ok (.aload_n 0, 1) := by decide +kernel
theorem dX12_takeHalf_14 : decode cX12_takeHalf 14 = .ok (.arraylength, 1) := by decide +kernel
theorem dX12_takeHalf_15 : decode cX12_takeHalf 15 = .ok (.iconst 2, 1) := by decide +kernel
theorem dX12_takeHalf_16 : decode cX12_takeHalf 16 = .ok (.idiv, 1) := by decide +kernel
theorem dX12_takeHalf_17 : decode cX12_takeHalf 17 = .ok (.iload_n 1, 1) := by decide +kernel
theorem dX12_takeHalf_18 : decode cX12_takeHalf 18 = .ok (.iadd, 1) := by decide +kernel
theorem dX12_takeHalf_19 : decode cX12_takeHalf 19 = .ok (.iaload, 1) := by decide +kernel
theorem dX12_takeHalf_20 : decode cX12_takeHalf 20 = .ok (.iastore, 1) := by decide +kernel
theorem dX12_takeHalf_21 : decode cX12_takeHalf 21 = .ok (.iinc 1 1, 3) := by decide +kernel
theorem dX12_takeHalf_24 : decode cX12_takeHalf 24 = .ok (.goto (-22), 3) := by decide +kernel
theorem dX12_takeHalf_27 : decode cX12_takeHalf 27 = .ok (.return_, 1) := by decide +kernel
theorem dX12_takeOver_0 : decode cX12_takeOver 0 = .ok (.aload_n 0, 1) := by decide +kernel
theorem dX12_takeOver_1 : decode cX12_takeOver 1 = .ok (.getfield 40, 3) := by decide +kernel
theorem dX12_takeOver_4 : decode cX12_takeOver 4 = .ok (.invokestatic 312, 3) := by decide +kernel
theorem dX12_takeOver_7 : decode cX12_takeOver 7 = .ok (.aload_n 0, 1) := by decide +kernel
theorem dX12_takeOver_8 : decode cX12_takeOver 8 = .ok (.getfield 44, 3) := by decide +kernel
theorem dX12_takeOver_11 : decode cX12_takeOver 11 = .ok (.invokestatic 312, 3) := by decide +kernel
theorem dX12_takeOver_14 : decode cX12_takeOver 14 = .ok (.aload_n 0, 1) := by decide +kernel
theorem dX12_takeOver_15 : decode cX12_takeOver 15 = .ok (.getfield 46, 3) := by decide +kernel
theorem dX12_takeOver_18 : decode cX12_takeOver 18 = .ok (.invokestatic 312, 3) := by decide +kernel
theorem dX12_takeOver_21 : decode cX12_takeOver 21 = .ok (.aload_n 0, 1) := by decide +kernel
theorem dX12_takeOver_22 : decode cX12_takeOver 22 = .ok (.getfield 49, 3) := by decide +kernel
theorem dX12_takeOver_25 : decode cX12_takeOver 25 = .ok (.invokestatic 312, 3) := by decide +kernel
theorem dX12_takeOver_28 : decode cX12_takeOver 28 = .ok (.aload_n 0, 1) := by decide +kernel
theorem dX12_takeOver_29 : decode cX12_takeOver 29 = .ok (.getfield 52, 3) := by decide +kernel
theorem dX12_takeOver_32 : decode cX12_takeOver 32 = .ok (.invokestatic 312, 3) := by decide +kernel
theorem dX12_takeOver_35 : decode cX12_takeOver 35 = .ok (.aload_n 0, 1) := by decide +kernel
theorem dX12_takeOver_36 : decode cX12_takeOver 36 = .ok (.getfield 55, 3) := by decide +kernel
theorem dX12_takeOver_39 : decode cX12_takeOver 39 = .ok (.invokestatic 312, 3) := by decide +kernel
theorem dX12_takeOver_42 : decode cX12_takeOver 42 = .ok (.aload_n 0, 1) := by decide +kernel
theorem dX12_takeOver_43 : decode cX12_takeOver 43 = .ok (.getfield 58, 3) := by decide +kernel
theorem dX12_takeOver_46 : decode cX12_takeOver 46 = .ok (.invokestatic 312, 3) := by decide +kernel
theorem dX12_takeOver_49 : decode cX12_takeOver 49 = .ok (.aload_n 0, 1) := by decide +kernel
theorem dX12_takeOver_50 : decode cX12_takeOver 50 = .ok (.getfield 61, 3) := by decide +kernel
theorem dX12_takeOver_53 : decode cX12_takeOver 53 = .ok (.invokestatic 312, 3) := by decide +kernel
theorem dX12_takeOver_56 : decode cX12_takeOver 56 = .ok (.aload_n 0, 1) := by decide +kernel
theorem dX12_takeOver_57 : decode cX12_takeOver 57 = .ok (.getfield 64, 3) := by decide +kernel
theorem dX12_takeOver_60 : decode cX12_takeOver 60 = .ok (.invokestatic 312, 3) := by decide +kernel
theorem dX12_takeOver_63 : decode cX12_takeOver 63 = .ok (.aload_n 0, 1) := by decide +kernel
theorem dX12_takeOver_64 : decode cX12_takeOver 64 = .ok (.iconst 0, 1) := by decide +kernel
theorem dX12_takeOver_65 : decode cX12_takeOver 65 = .ok (.putfield 316, 3) := by decide +kernel
theorem dX12_takeOver_68 : decode cX12_takeOver 68 = .ok (.aload_n 0, 1) := by decide +kernel
theorem dX12_takeOver_69 : decode cX12_takeOver 69 = .ok (.aload_n 0, 1) := by decide +kernel
theorem dX12_takeOver_70 : decode cX12_takeOver 70 = .ok (.getfield 40, 3) := by decide +kernel
theorem dX12_takeOver_73 : decode cX12_takeOver 73 = .ok (.iconst 3, 1) := by decide +kernel
theorem dX12_takeOver_74 : decode cX12_takeOver 74 = .ok (.iaload, 1) := by decide +kernel
theorem dX12_takeOver_75 : decode cX12_takeOver 75 = .ok (.putfield 318, 3) := by decide +kernel
theorem dX12_takeOver_78 : decode cX12_takeOver 78 = .ok (.aload_n 0, 1) := by decide +kernel
theorem dX12_takeOver_79 : decode cX12_takeOver 79 = .ok (.iconst 0, 1) := by decide +kernel
theorem dX12_takeOver_80 : decode cX12_takeOver 80 = .ok (.putfield 320, 3) := by decide +kernel
theorem dX12_takeOver_83 : decode cX12_takeOver 83 = .ok (.aload_n 0, 1) := by decide +kernel
theorem dX12_takeOver_84 : decode cX12_takeOver 84 = .ok (.iconst 0, 1) := by decide +kernel
theorem dX12_takeOver_85 : decode cX12_takeOver 85 = .ok (.putfield 323, 3) := by decide +kernel
theorem dX12_takeOver_88 : decode cX12_takeOver 88 = .ok (.aload_n 0, 1) := by decide +kernel
theorem dX12_takeOver_89 : decode cX12_takeOver 89 = .ok (.iconst 0, 1) := by decide +kernel
theorem dX12_takeOver_90 : decode cX12_takeOver 90 = .ok (.putfield 326, 3) := by decide +kernel
theorem dX12_takeOver_93 : decode cX12_takeOver 93 = .ok (.aload_n 0, 1) := by decide +kernel
theorem dX12_takeOver_94 : decode cX12_takeOver 94 = .ok (.iconst 0, 1) := by decide +kernel
theorem dX12_takeOver_95 : decode cX12_takeOver 95 = .ok (.putfield 329, 3) := by decide +kernel
theorem dX12_takeOver_98 : decode cX12_takeOver 98 = .ok (.aload_n 0, 1) := by decide +kernel
theorem dX12_takeOver_99 : decode cX12_takeOver 99 = .ok (.aload_n 0, 1) := by decide +kernel
theorem dX12_takeOver_100 : decode cX12_takeOver 100 = .ok (.getfield 40, 3) := by decide +kernel
theorem dX12_takeOver_103 : decode cX12_takeOver 103 = .ok (.iconst 1, 1) := by decide +kernel
theorem dX12_takeOver_104 : decode cX12_takeOver 104 = .ok (.iaload, 1) := by decide +kernel
theorem dX12_takeOver_105 : decode cX12_takeOver 105 = .ok (.putfield 332, 3) := by decide +kernel
theorem dX12_takeOver_108 : decode cX12_takeOver 108 = .ok (.iconst 0, 1) := by decide +kernel
theorem dX12_takeOver_109 : decode cX12_takeOver 109 = .ok (.istore_n 1, 1) := by decide +kernel
theorem dX12_takeOver_110 : decode cX12_takeOver 110 = .ok (.iload_n 1, 1) := by decide +kernel
theorem dX12_takeOver_111 : decode cX12_takeOver 111 = .ok (.bipush 8, 2) := by decide +kernel
theorem dX12_takeOver_113 : decode cX12_takeOver 113 = .ok (.if_icmp .ge 61, 3) := by decide +kernel
theorem dX12_takeOver_116 : decode cX12_takeOver 116 = .ok (.aload_n 0, 1) := by decide +kernel
theorem dX12_takeOver_117 : decode cX12_takeOver 117 = .ok (.getfield 80, 3) := by decide +kernel
theorem dX12_takeOver_120 : decode cX12_takeOver 120 = .ok (.iload_n 1, 1) := by decide +kernel
theorem dX12_takeOver_121 : decode cX12_takeOver 121 = .ok (.iload_n 1, 1) := by decide +kernel
theorem dX12_takeOver_122 : decode cX12_takeOver 122 = .ok (.aload_n 0, 1) := by decide +kernel
theorem dX12_takeOver_123 : decode cX12_takeOver 123 = .ok (.getfield 40, 3) := by decide +kernel
theorem dX12_takeOver_126 : decode cX12_takeOver 126 = .ok (.iconst 0, 1) := by decide +kernel
theorem dX12_takeOver_127 : decode cX12_takeOver 127 = .ok (.iaload, 1) := by decide +kernel
theorem dX12_takeOver_128 : decode cX12_takeOver 128 = .ok (.if_icmp .ge 12, 3) := by decide +kernel
theorem dX12_takeOver_131 : decode cX12_takeOver 131 = .ok (.aload_n 0, 1) := by decide +kernel
theorem dX12_takeOver_132 : decode cX12_takeOver 132 = .ok (.getfield 46, 3) := by decide +kernel
theorem dX12_takeOver_135 : decode cX12_takeOver 135 = .ok (.iload_n 1, 1) := by decide +kernel
theorem dX12_takeOver_136 : decode cX12_takeOver 136 = .ok (.iaload, 1) := by decide +kernel
theorem dX12_takeOver_137 : decode cX12_takeOver 137 = .ok (.goto 4, 3) := by decide +kernel
theorem dX12_takeOver_140 : decode cX12_takeOver 140 = .ok (.iconst 0, 1) := by decide +kernel
theorem dX12_takeOver_141 : decode cX12_takeOver 141 = .ok (.iastore, 1) := by decide +kernel
theorem dX12_takeOver_142 : decode cX12_takeOver 142 = .ok (.aload_n 0, 1) := by decide +kernel
theorem dX12_takeOver_143 : decode cX12_takeOver 143 = .ok (.getfield 82, 3) := by decide +kernel
theorem dX12_takeOver_146 : decode cX12_takeOver 146 = .ok (.iload_n 1, 1) := by decide +kernel
theorem dX12_takeOver_147 : decode cX12_takeOver 147 = .ok (.iload_n 1, 1) := by decide +kernel
theorem dX12_takeOver_148 : decode cX12_takeOver 148 = .ok (.aload_n 0, 1) := by decide +kernel
theorem dX12_takeOver_149 : decode cX12_takeOver 149 = .ok (.getfield 40, 3) := by decide +kernel
theorem dX12_takeOver_152 : decode cX12_takeOver 152 = .ok (.iconst 0, 1) := by decide +kernel
theorem dX12_takeOver_153 : decode cX12_takeOver 153 = .ok (.iaload, 1) := by decide +kernel
theorem dX12_takeOver_154 : decode cX12_takeOver 154 = .ok (.if_icmp .ge 12, 3) := by decide +kernel
theorem dX12_takeOver_157 : decode cX12_takeOver 157 = .ok (.aload_n 0, 1) := by decide +kernel
theorem dX12_takeOver_158 : decode cX12_takeOver 158 = .ok (.getfield 52, 3) := by decide +kernel
theorem dX12_takeOver_161 : decode cX12_takeOver 161 = .ok (.iload_n 1, 1) := by decide +kernel
theorem dX12_takeOver_162 : decode cX12_takeOver 162 = .ok (.iaload, 1) := by decide +kernel
theorem dX12_takeOver_163 : decode cX12_takeOver 163 = .ok (.goto 4, 3) := by decide +kernel
theorem dX12_takeOver_166 : decode cX12_takeOver 166 = .ok (.iconst 0, 1) := by decide +kernel
theorem dX12_takeOver_167 : decode cX12_takeOver 167 = .ok (.iastore, 1) := by decide +kernel
theorem dX12_takeOver_168 : decode cX12_takeOver 168 = .ok (.iinc 1 1, 3) := by decide +kernel
theorem dX12_takeOver_171 : decode cX12_takeOver 171 = .ok (.goto (-61), 3) := by decide +kernel
theorem dX12_takeOver_174 : decode cX12_takeOver 174 = .ok (.iconst 0, 1) := by decide +kernel
theorem dX12_takeOver_175 : decode cX12_takeOver 175 = .ok (.istore_n 1, 1) := by decide +kernel
theorem dX12_takeOver_176 : decode cX12_takeOver 176 = .ok (.iload_n 1, 1) := by decide +kernel
theorem dX12_takeOver_177 : decode cX12_takeOver 177 = .ok (.bipush 6, 2) := by decide +kernel
theorem dX12_takeOver_179 : decode cX12_takeOver 179 = .ok (.if_icmp .ge 33, 3) := by decide +kernel
theorem dX12_takeOver_182 : decode cX12_takeOver 182 = .ok (.aload_n 0, 1) := by decide +kernel
theorem dX12_takeOver_183 : decode cX12_takeOver 183 = .ok (.getfield 84, 3) := by decide +kernel
theorem dX12_takeOver_186 : decode cX12_takeOver 186 = .ok (.iload_n 1, 1) := by decide +kernel
theorem dX12_takeOver_187 : decode cX12_takeOver 187 = .ok (.aload_n 0, 1) := by decide +kernel
theorem dX12_takeOver_188 : decode cX12_takeOver 188 = .ok (.getfield 55, 3) := by decide +kernel
theorem dX12_takeOver_191 : decode cX12_takeOver 191 = .ok (.iload_n 1, 1) := by decide +kernel
theorem dX12_takeOver_192 : decode cX12_takeOver 192 = .ok (.iaload, 1) := by decide +kernel
theorem dX12_takeOver_193 : decode cX12_takeOver 193 = .ok (.iastore, 1) := by decide +kernel
theorem dX12_takeOver_194 : decode cX12_takeOver 194 = .ok (.aload_n 0, 1) := by decide +kernel
theorem dX12_takeOver_195 : decode cX12_takeOver 195 = .ok (.getfield 87, 3) := by decide +kernel
theorem dX12_takeOver_198 : decode cX12_takeOver 198 = .ok (.iload_n 1, 1) := by decide +kernel
theorem dX12_takeOver_199 : decode cX12_takeOver 199 = .ok (.aload_n 0, 1) := by decide +kernel
theorem dX12_takeOver_200 : decode cX12_takeOver 200 = .ok (.getfield 58, 3) := by decide +kernel
theorem dX12_takeOver_203 : decode cX12_takeOver 203 = .ok (.iload_n 1, 1) := by decide +kernel
theorem dX12_takeOver_204 : decode cX12_takeOver 204 = .ok (.iaload, 1) := by decide +kernel
theorem dX12_takeOver_205 : decode cX12_takeOver 205 = .ok (.iastore, 1) := by decide +kernel
theorem dX12_takeOver_206 : decode cX12_takeOver 206 = .ok (.iinc 1 1, 3) := by decide +kernel
theorem dX12_takeOver_209 : decode cX12_takeOver 209 = .ok (.goto (-33), 3) := by decide +kernel
theorem dX12_takeOver_212 : decode cX12_takeOver 212 = .ok (.iconst 0, 1) := by decide +kernel
theorem dX12_takeOver_213 : decode cX12_takeOver 213 = .ok (.istore_n 1, 1) := by decide +kernel
theorem dX12_takeOver_214 : decode cX12_takeOver 214 = .ok (.iload_n 1, 1) := by decide +kernel
theorem dX12_takeOver_215 : decode cX12_takeOver 215 = .ok (.aload_n 0, 1) := by decide +kernel
theorem dX12_takeOver_216 : decode cX12_takeOver 216 = .ok (.getfield 40, 3) := by decide +kernel
theorem dX12_takeOver_219 : decode cX12_takeOver 219 = .ok (.iconst 0, 1) := by decide +kernel
theorem dX12_takeOver_220 : decode cX12_takeOver 220 = .ok (.iaload, 1) := by decide +kernel
theorem dX12_takeOver_221 : decode cX12_takeOver 221 = .ok (.if_icmp .ge 20, 3) := by decide +kernel
theorem dX12_takeOver_224 : decode cX12_takeOver 224 = .ok (.aload_n 0, 1) := by decide +kernel
theorem dX12_takeOver_225 : decode cX12_takeOver 225 = .ok (.getfield 70, 3) := by decide +kernel
theorem dX12_takeOver_228 : decode cX12_takeOver 228 = .ok (.aload_n 0, 1) := by decide +kernel
theorem dX12_takeOver_229 : decode cX12_takeOver 229 = .ok (.iload_n 1, 1) := by decide +kernel
theorem dX12_takeOver_230 : decode cX12_takeOver 230 = .ok (.invokevirtual 335, 3) := by decide +kernel
theorem dX12_takeOver_233 : decode cX12_takeOver 233 = .ok (.iload_n 1, 1) := by decide +kernel
theorem dX12_takeOver_234 : decode cX12_takeOver 234 = .ok (.iastore, 1) := by decide +kernel
theorem dX12_takeOver_235 : decode cX12_takeOver 235 = .ok (.iinc 1 1, 3) := by decide +kernel
theorem dX12_takeOver_238 : decode cX12_takeOver 238 = .ok (.goto (-24), 3) := by decide +kernel
theorem dX12_takeOver_241 : decode cX12_takeOver 241 = .ok (.aload_n 0, 1) := by decide +kernel
theorem dX12_takeOver_242 : decode cX12_takeOver 242 = .ok (.iconst 0, 1) := by decide +kernel
theorem dX12_takeOver_243 : decode cX12_takeOver 243 = .ok (.putfield 338, 3) := by decide +kernel
theorem dX12_takeOver_246 : decode cX12_takeOver 246 = .ok (.aload_n 0, 1) := by decide +kernel
theorem dX12_takeOver_247 : decode cX12_takeOver 247 = .ok (.iconst 0, 1) := by decide +kernel
theorem dX12_takeOver_248 : decode cX12_takeOver 248 = .ok (.putfield 341, 3) := by decide +kernel
theorem dX12_takeOver_251 : decode cX12_takeOver 251 = .ok (.aload_n 0, 1) := by decide +kernel
theorem dX12_takeOver_252 : decode cX12_takeOver 252 = .ok (.iconst 0, 1) := by decide +kernel
theorem dX12_takeOver_253 : decode cX12_takeOver 253 = .ok (.putfield 344, 3) := by decide +kernel
theorem dX12_takeOver_256 : decode cX12_takeOver 256 = .ok (.return_, 1) := by decide +kernel
theorem dX12_placeOf_0 : decode cX12_placeOf 0 = .ok (.iconst 0, 1) := by decide +kernel
theorem dX12_placeOf_1 : decode cX12_placeOf 1 = .ok (.istore_n 2, 1) := by decide +kernel
theorem dX12_placeOf_2 : decode cX12_placeOf 2 = .ok (.iconst 0, 1) := by decide +kernel
theorem dX12_placeOf_3 : decode cX12_placeOf 3 = .ok (.istore_n 3, 1) := by decide +kernel
theorem dX12_placeOf_4 : decode cX12_placeOf 4 = .ok (.iload_n 3, 1) := by decide +kernel
theorem dX12_placeOf_5 : decode cX12_placeOf 5 = .ok (.aload_n 0, 1) := by decide +kernel
theorem dX12_placeOf_6 : decode cX12_placeOf 6 = .ok (.getfield 40, 3) := by decide +kernel
theorem dX12_placeOf_9 : decode cX12_placeOf 9 = .ok (.iconst 0, 1) := by decide +kernel
theorem dX12_placeOf_10 : decode cX12_placeOf 10 = .ok (.iaload, 1) := by decide +kernel
theorem dX12_placeOf_11 : decode cX12_placeOf 11 = .ok (.if_icmp .ge 32, 3) := by decide +kernel
theorem dX12_placeOf_14 : decode cX12_placeOf 14 = .ok (.iload_n 2, 1) := by decide +kernel
theorem dX12_placeOf_15 : decode cX12_placeOf 15 = .ok (.aload_n 0, 1) := by decide +kernel
theorem dX12_placeOf_16 : decode cX12_placeOf 16 = .ok (.getfield 49, 3) := by decide +kernel
theorem dX12_placeOf_19 : decode cX12_placeOf 19 = .ok (.iload_n 3, 1) := by decide +kernel
theorem dX12_placeOf_20 : decode cX12_placeOf 20 = .ok (.iaload, 1) := by decide +kernel
theorem dX12_placeOf_21 : decode cX12_placeOf 21 = .ok (.aload_n 0, 1) := by decide +kernel
theorem dX12_placeOf_22 : decode cX12_placeOf 22 = .ok (.getfield 49, 3) := by decide +kernel
theorem dX12_placeOf_25 : decode cX12_placeOf 25 = .ok (.iload_n 1, 1) := by decide +kernel
theorem dX12_placeOf_26 : decode cX12_placeOf 26 = .ok (.iaload, 1) := by decide +kernel
theorem dX12_placeOf_27 : decode cX12_placeOf 27 = .ok (.if_icmp .ge 7, 3) := by decide +kernel
theorem dX12_placeOf_30 : decode cX12_placeOf 30 = .ok (.iconst 1, 1) := by decide +kernel
theorem dX12_placeOf_31 : decode cX12_placeOf 31 = .ok (.goto 4, 3) := by decide +kernel
theorem dX12_placeOf_34 : decode cX12_placeOf 34 = .ok (.iconst 0, 1) := by decide +kernel
theorem dX12_placeOf_35 : decode cX12_placeOf 35 = .ok (.iadd, 1) := by decide +kernel
theorem dX12_placeOf_36 : decode cX12_placeOf 36 = .ok (.istore_n 2, 1) := by decide +kernel
theorem dX12_placeOf_37 : decode cX12_placeOf 37 = .ok (.iinc 3 1, 3) := by decide +kernel
theorem dX12_placeOf_40 : decode cX12_placeOf 40 = .ok (.goto (-36), 3) := by decide +kernel
theorem dX12_placeOf_43 : decode cX12_placeOf 43 = .ok (.iload_n 2, 1) := by decide +kernel
theorem dX12_placeOf_44 : decode cX12_placeOf 44 = .ok (.ireturn, 1) := by decide +kernel
theorem dX12_fault_0 : decode cX12_fault 0 = .ok (.aload_n 0, 1) := by decide +kernel
theorem dX12_fault_1 : decode cX12_fault 1 = .ok (.iconst 0, 1) := by decide +kernel
theorem dX12_fault_2 : decode cX12_fault 2 = .ok (.putfield 165, 3) := by decide +kernel
theorem dX12_fault_5 : decode cX12_fault 5 = .ok (.aload_n 0, 1) := by decide +kernel
theorem dX12_fault_6 : decode cX12_fault 6 = .ok (.getfield 76, 3) := by decide +kernel
theorem dX12_fault_9 : decode cX12_fault 9 = .ok (.ireturn, 1) := by decide +kernel
theorem dX12_pack_0 : decode cX12_pack 0 = .ok (.aload_n 1, 1) := by decide +kernel
theorem dX12_pack_1 : decode cX12_pack 1 = .ok (.iload_n 2, 1) := by decide +kernel
theorem dX12_pack_2 : decode cX12_pack 2 = .ok (.aload_n 0, 1) := by decide +kernel
theorem dX12_pack_3 : decode cX12_pack 3 = .ok (.getfield 316, 3) := by decide +kernel
theorem dX12_pack_6 : decode cX12_pack 6 = .ok (.iastore, 1) := by decide +kernel
theorem dX12_pack_7 : decode cX12_pack 7 = .ok (.aload_n 1, 1) := by decide +kernel
theorem dX12_pack_8 : decode cX12_pack 8 = .ok (.iload_n 2, 1) := by decide +kernel
theorem dX12_pack_9 : decode cX12_pack 9 = .ok (.iconst 1, 1) := by decide +kernel
theorem dX12_pack_10 : decode cX12_pack 10 = .ok (.iadd, 1) := by decide +kernel
theorem dX12_pack_11 : decode cX12_pack 11 = .ok (.aload_n 0, 1) := by decide +kernel
theorem dX12_pack_12 : decode cX12_pack 12 = .ok (.getfield 318, 3) := by decide +kernel
theorem dX12_pack_15 : decode cX12_pack 15 = .ok (.iastore, 1) := by decide +kernel
theorem dX12_pack_16 : decode cX12_pack 16 = .ok (.aload_n 1, 1) := by decide +kernel
theorem dX12_pack_17 : decode cX12_pack 17 = .ok (.iload_n 2, 1) := by decide +kernel
theorem dX12_pack_18 : decode cX12_pack 18 = .ok (.iconst 2, 1) := by decide +kernel
theorem dX12_pack_19 : decode cX12_pack 19 = .ok (.iadd, 1) := by decide +kernel
theorem dX12_pack_20 : decode cX12_pack 20 = .ok (.aload_n 0, 1) := by decide +kernel
theorem dX12_pack_21 : decode cX12_pack 21 = .ok (.getfield 320, 3) := by decide +kernel
theorem dX12_pack_24 : decode cX12_pack 24 = .ok (.iastore, 1) := by decide +kernel
theorem dX12_pack_25 : decode cX12_pack 25 = .ok (.aload_n 1, 1) := by decide +kernel
theorem dX12_pack_26 : decode cX12_pack 26 = .ok (.iload_n 2, 1) := by decide +kernel
theorem dX12_pack_27 : decode cX12_pack 27 = .ok (.iconst 3, 1) := by decide +kernel
theorem dX12_pack_28 : decode cX12_pack 28 = .ok (.iadd, 1) := by decide +kernel
theorem dX12_pack_29 : decode cX12_pack 29 = .ok (.aload_n 0, 1) := by decide +kernel
theorem dX12_pack_30 : decode cX12_pack 30 = .ok (.getfield 323, 3) := by decide +kernel
theorem dX12_pack_33 : decode cX12_pack 33 = .ok (.iastore, 1) := by decide +kernel
theorem dX12_pack_34 : decode cX12_pack 34 = .ok (.aload_n 1, 1) := by decide +kernel
theorem dX12_pack_35 : decode cX12_pack 35 = .ok (.iload_n 2, 1) := by decide +kernel
theorem dX12_pack_36 : decode cX12_pack 36 = .ok (.iconst 4, 1) := by decide +kernel
theorem dX12_pack_37 : decode cX12_pack 37 = .ok (.iadd, 1) := by decide +kernel
theorem dX12_pack_38 : decode cX12_pack 38 = .ok (.aload_n 0, 1) := by decide +kernel
theorem dX12_pack_39 : decode cX12_pack 39 = .ok (.getfield 326, 3) := by decide +kernel
theorem dX12_pack_42 : decode cX12_pack 42 = .ok (.iastore, 1) := by decide +kernel
theorem dX12_pack_43 : decode cX12_pack 43 = .ok (.aload_n 1, 1) := by decide +kernel
theorem dX12_pack_44 : decode cX12_pack 44 = .ok (.iload_n 2, 1) := by decide +kernel
theorem dX12_pack_45 : decode cX12_pack 45 = .ok (.iconst 5, 1) := by decide +kernel
theorem dX12_pack_46 : decode cX12_pack 46 = .ok (.iadd, 1) := by decide +kernel
theorem dX12_pack_47 : decode cX12_pack 47 = .ok (.aload_n 0, 1) := by decide +kernel
theorem dX12_pack_48 : decode cX12_pack 48 = .ok (.getfield 329, 3) := by decide +kernel
theorem dX12_pack_51 : decode cX12_pack 51 = .ok (.iastore, 1) := by decide +kernel
theorem dX12_pack_52 : decode cX12_pack 52 = .ok (.aload_n 1, 1) := by decide +kernel
theorem dX12_pack_53 : decode cX12_pack 53 = .ok (.iload_n 2, 1) := by decide +kernel
theorem dX12_pack_54 : decode cX12_pack 54 = .ok (.bipush 6, 2) := by decide +kernel
theorem dX12_pack_56 : decode cX12_pack 56 = .ok (.iadd, 1) := by decide +kernel
theorem dX12_pack_57 : decode cX12_pack 57 = .ok (.aload_n 0, 1) := by decide +kernel
theorem dX12_pack_58 : decode cX12_pack 58 = .ok (.getfield 332, 3) := by decide +kernel
theorem dX12_pack_61 : decode cX12_pack 61 = .ok (.iastore, 1) := by decide +kernel
theorem dX12_pack_62 : decode cX12_pack 62 = .ok (.iconst 0, 1) := by decide +kernel
theorem dX12_pack_63 : decode cX12_pack 63 = .ok (.istore_n 3, 1) := by decide +kernel
theorem dX12_pack_64 : decode cX12_pack 64 = .ok (.iload_n 3, 1) := by decide +kernel
theorem dX12_pack_65 : decode cX12_pack 65 = .ok (.bipush 8, 2) := by decide +kernel
theorem dX12_pack_67 : decode cX12_pack 67 = .ok (.if_icmp .ge 40, 3) := by decide +kernel
theorem dX12_pack_70 : decode cX12_pack 70 = .ok (.aload_n 1, 1) := by decide +kernel
theorem dX12_pack_71 : decode cX12_pack 71 = .ok (.iload_n 2, 1) := by decide +kernel
theorem dX12_pack_72 : decode cX12_pack 72 = .ok (.bipush 7, 2) := by decide +kernel
theorem dX12_pack_74 : decode cX12_pack 74 = .ok (.iadd, 1) := by decide +kernel
theorem dX12_pack_75 : decode cX12_pack 75 = .ok (.iload_n 3, 1) := by decide +kernel
theorem dX12_pack_76 : decode cX12_pack 76 = .ok (.iadd, 1) := by decide +kernel
theorem dX12_pack_77 : decode cX12_pack 77 = .ok (.aload_n 0, 1) := by decide +kernel
theorem dX12_pack_78 : decode cX12_pack 78 = .ok (.getfield 80, 3) := by decide +kernel
theorem dX12_pack_81 : decode cX12_pack 81 = .ok (.iload_n 3, 1) := by decide +kernel
theorem dX12_pack_82 : decode cX12_pack 82 = .ok (.iaload, 1) := by decide +kernel
theorem dX12_pack_83 : decode cX12_pack 83 = .ok (.iastore, 1) := by decide +kernel
theorem dX12_pack_84 : decode cX12_pack 84 = .ok (.aload_n 1, 1) := by decide +kernel
theorem dX12_pack_85 : decode cX12_pack 85 = .ok (.iload_n 2, 1) := by decide +kernel
theorem dX12_pack_86 : decode cX12_pack 86 = .ok (.bipush 7, 2) := by decide +kernel
theorem dX12_pack_88 : decode cX12_pack 88 = .ok (.iadd, 1) := by decide +kernel
theorem dX12_pack_89 : decode cX12_pack 89 = .ok (.bipush 8, 2) := by decide +kernel
theorem dX12_pack_91 : decode cX12_pack 91 = .ok (.iadd, 1) := by decide +kernel
theorem dX12_pack_92 : decode cX12_pack 92 = .ok (.iload_n 3, 1) := by decide +kernel
theorem dX12_pack_93 : decode cX12_pack 93 = .ok (.iadd, 1) := by decide +kernel
theorem dX12_pack_94 : decode cX12_pack 94 = .ok (.aload_n 0, 1) := by decide +kernel
theorem dX12_pack_95 : decode cX12_pack 95 = .ok (.getfield 82, 3) := by decide +kernel
theorem dX12_pack_98 : decode cX12_pack 98 = .ok (.iload_n 3, 1) := by decide +kernel
theorem dX12_pack_99 : decode cX12_pack 99 = .ok (.iaload, 1) := by decide +kernel
theorem dX12_pack_100 : decode cX12_pack 100 = .ok (.iastore, 1) := by decide +kernel
theorem dX12_pack_101 : decode cX12_pack 101 = .ok (.iinc 3 1, 3) := by decide +kernel
theorem dX12_pack_104 : decode cX12_pack 104 = .ok (.goto (-40), 3) := by decide +kernel
theorem dX12_pack_107 : decode cX12_pack 107 = .ok (.iconst 0, 1) := by decide +kernel
theorem dX12_pack_108 : decode cX12_pack 108 = .ok (.istore_n 3, 1) := by decide +kernel
theorem dX12_pack_109 : decode cX12_pack 109 = .ok (.iload_n 3, 1) := by decide +kernel
theorem dX12_pack_110 : decode cX12_pack 110 = .ok (.bipush 6, 2) := by decide +kernel
theorem dX12_pack_112 : decode cX12_pack 112 = .ok (.if_icmp .ge 46, 3) := by decide +kernel
theorem dX12_pack_115 : decode cX12_pack 115 = .ok (.aload_n 1, 1) := by decide +kernel
theorem dX12_pack_116 : decode cX12_pack 116 = .ok (.iload_n 2, 1) := by decide +kernel
theorem dX12_pack_117 : decode cX12_pack 117 = .ok (.bipush 7, 2) := by decide +kernel
theorem dX12_pack_119 : decode cX12_pack 119 = .ok (.iadd, 1) := by decide +kernel
theorem dX12_pack_120 : decode cX12_pack 120 = .ok (.bipush 16, 2) := by decide +kernel
theorem dX12_pack_122 : decode cX12_pack 122 = .ok (.iadd, 1) := by decide +kernel
theorem dX12_pack_123 : decode cX12_pack 123 = .ok (.iload_n 3, 1) := by decide +kernel
theorem dX12_pack_124 : decode cX12_pack 124 = .ok (.iadd, 1) := by decide +kernel
theorem dX12_pack_125 : decode cX12_pack 125 = .ok (.aload_n 0, 1) := by decide +kernel
theorem dX12_pack_126 : decode cX12_pack 126 = .ok (.getfield 84, 3) := by decide +kernel
theorem dX12_pack_129 : decode cX12_pack 129 = .ok (.iload_n 3, 1) := by decide +kernel
theorem dX12_pack_130 : decode cX12_pack 130 = .ok (.iaload, 1) := by decide +kernel
theorem dX12_pack_131 : decode cX12_pack 131 = .ok (.iastore, 1) := by decide +kernel
theorem dX12_pack_132 : decode cX12_pack 132 = .ok (.aload_n 1, 1) := by decide +kernel
theorem dX12_pack_133 : decode cX12_pack 133 = .ok (.iload_n 2, 1) := by decide +kernel
theorem dX12_pack_134 : decode cX12_pack 134 = .ok (.bipush 7, 2) := by decide +kernel
theorem dX12_pack_136 : decode cX12_pack 136 = .ok (.iadd, 1) := by decide +kernel
theorem dX12_pack_137 : decode cX12_pack 137 = .ok (.bipush 16, 2) := by decide +kernel
theorem dX12_pack_139 : decode cX12_pack 139 = .ok (.iadd, 1) := by decide +kernel
theorem dX12_pack_140 : decode cX12_pack 140 = .ok (.bipush 6, 2) := by decide +kernel
theorem dX12_pack_142 : decode cX12_pack 142 = .ok (.iadd, 1) := by decide +kernel
theorem dX12_pack_143 : decode cX12_pack 143 = .ok (.iload_n 3, 1) := by decide +kernel
theorem dX12_pack_144 : decode cX12_pack 144 = .ok (.iadd, 1) := by decide +kernel
theorem dX12_pack_145 : decode cX12_pack 145 = .ok (.aload_n 0, 1) := by decide +kernel
theorem dX12_pack_146 : decode cX12_pack 146 = .ok (.getfield 87, 3) := by decide +kernel
theorem dX12_pack_149 : decode cX12_pack 149 = .ok (.iload_n 3, 1) := by decide +kernel
theorem dX12_pack_150 : decode cX12_pack 150 = .ok (.iaload, 1) := by decide +kernel
theorem dX12_pack_151 : decode cX12_pack 151 = .ok (.iastore, 1) := by decide +kernel
theorem dX12_pack_152 : decode cX12_pack 152 = .ok (.iinc 3 1, 3) := by decide +kernel
theorem dX12_pack_155 : decode cX12_pack 155 = .ok (.goto (-46), 3) := by decide +kernel
theorem dX12_pack_158 : decode cX12_pack 158 = .ok (.return_, 1) := by decide +kernel
theorem dX12_unpack_0 : decode cX12_unpack 0 = .ok (.aload_n 0, 1) := by decide +kernel
theorem dX12_unpack_1 : decode cX12_unpack 1 = .ok (.aload_n 1, 1) := by decide +kernel
theorem dX12_unpack_2 : decode cX12_unpack 2 = .ok (.iload_n 2, 1) := by decide +kernel
theorem dX12_unpack_3 : decode cX12_unpack 3 = .ok (.iaload, 1) := by decide +kernel
theorem dX12_unpack_4 : decode cX12_unpack 4 = .ok (.putfield 316, 3) := by decide +kernel
theorem dX12_unpack_7 : decode cX12_unpack 7 = .ok (.aload_n 0, 1) := by decide +kernel
theorem dX12_unpack_8 : decode cX12_unpack 8 = .ok (.aload_n 1, 1) := by decide +kernel
theorem dX12_unpack_9 : decode cX12_unpack 9 = .ok (.iload_n 2, 1) := by decide +kernel
theorem dX12_unpack_10 : decode cX12_unpack 10 = .ok (.iconst 1, 1) := by decide +kernel
theorem dX12_unpack_11 : decode cX12_unpack 11 = .ok (.iadd, 1) := by decide +kernel
theorem dX12_unpack_12 : decode cX12_unpack 12 = .ok (.iaload, 1) := by decide +kernel
theorem dX12_unpack_13 : decode cX12_unpack 13 = .ok (.putfield 318, 3) := by decide +kernel
theorem dX12_unpack_16 : decode cX12_unpack 16 = .ok (.aload_n 0, 1) := by decide +kernel
theorem dX12_unpack_17 : decode cX12_unpack 17 = .ok (.aload_n 1, 1) := by decide +kernel
theorem dX12_unpack_18 : decode cX12_unpack 18 = .ok (.iload_n 2, 1) := by decide +kernel
theorem dX12_unpack_19 : decode cX12_unpack 19 = .ok (.iconst 2, 1) := by decide +kernel
theorem dX12_unpack_20 : decode cX12_unpack 20 = .ok (.iadd, 1) := by decide +kernel
theorem dX12_unpack_21 : decode cX12_unpack 21 = .ok (.iaload, 1) := by decide +kernel
theorem dX12_unpack_22 : decode cX12_unpack 22 = .ok (.putfield 320, 3) := by decide +kernel
theorem dX12_unpack_25 : decode cX12_unpack 25 = .ok (.aload_n 0, 1) := by decide +kernel
theorem dX12_unpack_26 : decode cX12_unpack 26 = .ok (.aload_n 1, 1) := by decide +kernel
theorem dX12_unpack_27 : decode cX12_unpack 27 = .ok (.iload_n 2, 1) := by decide +kernel
theorem dX12_unpack_28 : decode cX12_unpack 28 = .ok (.iconst 3, 1) := by decide +kernel
theorem dX12_unpack_29 : decode cX12_unpack 29 = .ok (.iadd, 1) := by decide +kernel
theorem dX12_unpack_30 : decode cX12_unpack 30 = .ok (.iaload, 1) := by decide +kernel
theorem dX12_unpack_31 : decode cX12_unpack 31 = .ok (.putfield 323, 3) := by decide +kernel
theorem dX12_unpack_34 : decode cX12_unpack 34 = .ok (.aload_n 0, 1) := by decide +kernel
theorem dX12_unpack_35 : decode cX12_unpack 35 = .ok (.aload_n 1, 1) := by decide +kernel
theorem dX12_unpack_36 : decode cX12_unpack 36 = .ok (.iload_n 2, 1) := by decide +kernel
theorem dX12_unpack_37 : decode cX12_unpack 37 = .ok (.iconst 4, 1) := by decide +kernel
theorem dX12_unpack_38 : decode cX12_unpack 38 = .ok (.iadd, 1) := by decide +kernel
theorem dX12_unpack_39 : decode cX12_unpack 39 = .ok (.iaload, 1) := by decide +kernel
theorem dX12_unpack_40 : decode cX12_unpack 40 = .ok (.putfield 326, 3) := by decide +kernel
theorem dX12_unpack_43 : decode cX12_unpack 43 = .ok (.aload_n 0, 1) := by decide +kernel
theorem dX12_unpack_44 : decode cX12_unpack 44 = .ok (.aload_n 1, 1) := by decide +kernel
theorem dX12_unpack_45 : decode cX12_unpack 45 = .ok (.iload_n 2, 1) := by decide +kernel
theorem dX12_unpack_46 : decode cX12_unpack 46 = .ok (.iconst 5, 1) := by decide +kernel
theorem dX12_unpack_47 : decode cX12_unpack 47 = .ok (.iadd, 1) := by decide +kernel
theorem dX12_unpack_48 : decode cX12_unpack 48 = .ok (.iaload, 1) := by decide +kernel
theorem dX12_unpack_49 : decode cX12_unpack 49 = .ok (.putfield 329, 3) := by decide +kernel
theorem dX12_unpack_52 : decode cX12_unpack 52 = .ok (.aload_n 0, 1) := by decide +kernel
theorem dX12_unpack_53 : decode cX12_unpack 53 = .ok (.aload_n 1, 1) := by decide +kernel
theorem dX12_unpack_54 : decode cX12_unpack 54 = .ok (.iload_n 2, 1) := by decide +kernel
theorem dX12_unpack_55 : decode cX12_unpack 55 = .ok (.bipush 6, 2) := by decide +kernel
theorem dX12_unpack_57 : decode cX12_unpack 57 = .ok (.iadd, 1) := by decide +kernel
theorem dX12_unpack_58 : decode cX12_unpack 58 = .ok (.iaload, 1) := by decide +kernel
theorem dX12_unpack_59 : decode cX12_unpack 59 = .ok (.putfield 332, 3) := by decide +kernel
theorem dX12_unpack_62 : decode cX12_unpack 62 = .ok (.iconst 0, 1) := by decide +kernel
theorem dX12_unpack_63 : decode cX12_unpack 63 = .ok (.istore_n 3, 1) := by decide +kernel
theorem dX12_unpack_64 : decode cX12_unpack 64 = .ok (.iload_n 3, 1) := by decide +kernel
theorem dX12_unpack_65 : decode cX12_unpack 65 = .ok (.bipush 8, 2) := by decide +kernel
theorem dX12_unpack_67 : decode cX12_unpack 67 = .ok (.if_icmp .ge 40, 3) := by decide +kernel
theorem dX12_unpack_70 : decode cX12_unpack 70 = .ok (.aload_n 0, 1) := by decide +kernel
theorem dX12_unpack_71 : decode cX12_unpack 71 = .ok (.getfield 80, 3) := by decide +kernel
theorem dX12_unpack_74 : decode cX12_unpack 74 = .ok (.iload_n 3, 1) := by decide +kernel
theorem dX12_unpack_75 : decode cX12_unpack 75 = .ok (.aload_n 1, 1) := by decide +kernel
theorem dX12_unpack_76 : decode cX12_unpack 76 = .ok (.iload_n 2, 1) := by decide +kernel
theorem dX12_unpack_77 : decode cX12_unpack 77 = .ok (.bipush 7, 2) := by decide +kernel
theorem dX12_unpack_79 : decode cX12_unpack 79 = .ok (.iadd, 1) := by decide +kernel
theorem dX12_unpack_80 : decode cX12_unpack 80 = .ok (.iload_n 3, 1) := by decide +kernel
theorem dX12_unpack_81 : decode cX12_unpack 81 = .ok (.iadd, 1) := by decide +kernel
theorem dX12_unpack_82 : decode cX12_unpack 82 = .ok (.iaload, 1) := by decide +kernel
theorem dX12_unpack_83 : decode cX12_unpack 83 = .ok (.iastore, 1) := by decide +kernel
theorem dX12_unpack_84 : decode cX12_unpack 84 = .ok (.aload_n 0, 1) := by decide +kernel
theorem dX12_unpack_85 : decode cX12_unpack 85 = .ok (.getfield 82, 3) := by decide +kernel
theorem dX12_unpack_88 : decode cX12_unpack 88 = .ok (.iload_n 3, 1) := by decide +kernel
theorem dX12_unpack_89 : decode cX12_unpack 89 = .ok (.aload_n 1, 1) := by decide +kernel
theorem dX12_unpack_90 : decode cX12_unpack 90 = .ok (.iload_n 2, 1) := by decide +kernel
theorem dX12_unpack_91 : decode cX12_unpack 91 = .ok (.bipush 7, 2) := by decide +kernel
theorem dX12_unpack_93 : decode cX12_unpack 93 = .ok (.iadd, 1) := by decide +kernel
theorem dX12_unpack_94 : decode cX12_unpack 94 = .ok (.bipush 8, 2) := by decide +kernel
theorem dX12_unpack_96 : decode cX12_unpack 96 = .ok (.iadd, 1) := by decide +kernel
theorem dX12_unpack_97 : decode cX12_unpack 97 = .ok (.iload_n 3, 1) := by decide +kernel
theorem dX12_unpack_98 : decode cX12_unpack 98 = .ok (.iadd, 1) := by decide +kernel
theorem dX12_unpack_99 : decode cX12_unpack 99 = .ok (.iaload, 1) := by decide +kernel
theorem dX12_unpack_100 : decode cX12_unpack 100 = .ok (.iastore, 1) := by decide +kernel
theorem dX12_unpack_101 : decode cX12_unpack 101 = .ok (.iinc 3 1, 3) := by decide +kernel
theorem dX12_unpack_104 : decode cX12_unpack 104 = .ok (.goto (-40), 3) := by decide +kernel
theorem dX12_unpack_107 : decode cX12_unpack 107 = .ok (.iconst 0, 1) := by decide +kernel
theorem dX12_unpack_108 : decode cX12_unpack 108 = .ok (.istore_n 3, 1) := by decide +kernel
theorem dX12_unpack_109 : decode cX12_unpack 109 = .ok (.iload_n 3, 1) := by decide +kernel
theorem dX12_unpack_110 : decode cX12_unpack 110 = .ok (.bipush 6, 2) := by decide +kernel
theorem dX12_unpack_112 : decode cX12_unpack 112 = .ok (.if_icmp .ge 46, 3) := by decide +kernel
theorem dX12_unpack_115 : decode cX12_unpack 115 = .ok (.aload_n 0, 1) := by decide +kernel
theorem dX12_unpack_116 : decode cX12_unpack 116 = .ok (.getfield 84, 3) := by decide +kernel
theorem dX12_unpack_119 : decode cX12_unpack 119 = .ok (.iload_n 3, 1) := by decide +kernel
theorem dX12_unpack_120 : decode cX12_unpack 120 = .ok (.aload_n 1, 1) := by decide +kernel
theorem dX12_unpack_121 : decode cX12_unpack 121 = .ok (.iload_n 2, 1) := by decide +kernel
theorem dX12_unpack_122 : decode cX12_unpack 122 = .ok (.bipush 7, 2) := by decide +kernel
theorem dX12_unpack_124 : decode cX12_unpack 124 = .ok (.iadd, 1) := by decide +kernel
theorem dX12_unpack_125 : decode cX12_unpack 125 = .ok (.bipush 16, 2) := by decide +kernel
theorem dX12_unpack_127 : decode cX12_unpack 127 = .ok (.iadd, 1) := by decide +kernel
theorem dX12_unpack_128 : decode cX12_unpack 128 = .ok (.iload_n 3, 1) := by decide +kernel
theorem dX12_unpack_129 : decode cX12_unpack 129 = .ok (.iadd, 1) := by decide +kernel
theorem dX12_unpack_130 : decode cX12_unpack 130 = .ok (.iaload, 1) := by decide +kernel
theorem dX12_unpack_131 : decode cX12_unpack 131 = .ok (.iastore, 1) := by decide +kernel
theorem dX12_unpack_132 : decode cX12_unpack 132 = .ok (.aload_n 0, 1) := by decide +kernel
theorem dX12_unpack_133 : decode cX12_unpack 133 = .ok (.getfield 87, 3) := by decide +kernel
theorem dX12_unpack_136 : decode cX12_unpack 136 = .ok (.iload_n 3, 1) := by decide +kernel
theorem dX12_unpack_137 : decode cX12_unpack 137 = .ok (.aload_n 1, 1) := by decide +kernel
theorem dX12_unpack_138 : decode cX12_unpack 138 = .ok (.iload_n 2, 1) := by decide +kernel
theorem dX12_unpack_139 : decode cX12_unpack 139 = .ok (.bipush 7, 2) := by decide +kernel
theorem dX12_unpack_141 : decode cX12_unpack 141 = .ok (.iadd, 1) := by decide +kernel
theorem dX12_unpack_142 : decode cX12_unpack 142 = .ok (.bipush 16, 2) := by decide +kernel
theorem dX12_unpack_144 : decode cX12_unpack 144 = .ok (.iadd, 1) := by decide +kernel
theorem dX12_unpack_145 : decode cX12_unpack 145 = .ok (.bipush 6, 2) := by decide +kernel
theorem dX12_unpack_147 : decode cX12_unpack 147 = .ok (.iadd, 1) := by decide +kernel
theorem dX12_unpack_148 : decode cX12_unpack 148 = .ok (.iload_n 3, 1) := by decide +kernel
theorem dX12_unpack_149 : decode cX12_unpack 149 = .ok (.iadd, 1) := by decide +kernel
theorem dX12_unpack_150 : decode cX12_unpack 150 = .ok (.iaload, 1) := by decide +kernel
theorem dX12_unpack_151 : decode cX12_unpack 151 = .ok (.iastore, 1) := by decide +kernel
theorem dX12_unpack_152 : decode cX12_unpack 152 = .ok (.iinc 3 1, 3) := by decide +kernel
theorem dX12_unpack_155 : decode cX12_unpack 155 = .ok (.goto (-46), 3) := by decide +kernel
theorem dX12_unpack_158 : decode cX12_unpack 158 = .ok (.return_, 1) := by decide +kernel
theorem dX12_reckon_0 : decode cX12_reckon 0 = .ok (.iload_n 0, 1) := by decide +kernel
theorem dX12_reckon_1 : decode cX12_reckon 1 = .ok (.tableswitch 103 (-26) (-20) #[89, 78, 67, 55, 51, 47, 43], 43) := by decide +kernel
theorem dX12_reckon_44 : decode cX12_reckon 44 = .ok (.iload_n 1, 1) := by decide +kernel
theorem dX12_reckon_45 : decode cX12_reckon 45 = .ok (.iload_n 2, 1) := by decide +kernel
theorem dX12_reckon_46 : decode cX12_reckon 46 = .ok (.iadd, 1) := by decide +kernel
theorem dX12_reckon_47 : decode cX12_reckon 47 = .ok (.ireturn, 1) := by decide +kernel
theorem dX12_reckon_48 : decode cX12_reckon 48 = .ok (.iload_n 1, 1) := by decide +kernel
theorem dX12_reckon_49 : decode cX12_reckon 49 = .ok (.iload_n 2, 1) := by decide +kernel
theorem dX12_reckon_50 : decode cX12_reckon 50 = .ok (.isub, 1) := by decide +kernel
theorem dX12_reckon_51 : decode cX12_reckon 51 = .ok (.ireturn, 1) := by decide +kernel
theorem dX12_reckon_52 : decode cX12_reckon 52 = .ok (.iload_n 1, 1) := by decide +kernel
theorem dX12_reckon_53 : decode cX12_reckon 53 = .ok (.iload_n 2, 1) := by decide +kernel
theorem dX12_reckon_54 : decode cX12_reckon 54 = .ok (.imul, 1) := by decide +kernel
theorem dX12_reckon_55 : decode cX12_reckon 55 = .ok (.ireturn, 1) := by decide +kernel
theorem dX12_reckon_56 : decode cX12_reckon 56 = .ok (.iload_n 2, 1) := by decide +kernel
theorem dX12_reckon_57 : decode cX12_reckon 57 = .ok (.ifCond .ne 7, 3) := by decide +kernel
theorem dX12_reckon_60 : decode cX12_reckon 60 = .ok (.iconst 0, 1) := by decide +kernel
theorem dX12_reckon_61 : decode cX12_reckon 61 = .ok (.goto 6, 3) := by decide +kernel
theorem dX12_reckon_64 : decode cX12_reckon 64 = .ok (.iload_n 1, 1) := by decide +kernel
theorem dX12_reckon_65 : decode cX12_reckon 65 = .ok (.iload_n 2, 1) := by decide +kernel
theorem dX12_reckon_66 : decode cX12_reckon 66 = .ok (.idiv, 1) := by decide +kernel
theorem dX12_reckon_67 : decode cX12_reckon 67 = .ok (.ireturn, 1) := by decide +kernel
theorem dX12_reckon_68 : decode cX12_reckon 68 = .ok (.iload_n 1, 1) := by decide +kernel
theorem dX12_reckon_69 : decode cX12_reckon 69 = .ok (.iload_n 2, 1) := by decide +kernel
theorem dX12_reckon_70 : decode cX12_reckon 70 = .ok (.if_icmp .ge 7, 3) := by decide +kernel
theorem dX12_reckon_73 : decode cX12_reckon 73 = .ok (.iconst 1, 1) := by decide +kernel
theorem dX12_reckon_74 : decode cX12_reckon 74 = .ok (.goto 4, 3) := by decide +kernel
theorem dX12_reckon_77 : decode cX12_reckon 77 = .ok (.iconst 0, 1) := by decide +kernel
theorem dX12_reckon_78 : decode cX12_reckon 78 = .ok (.ireturn, 1) := by decide +kernel
theorem dX12_reckon_79 : decode cX12_reckon 79 = .ok (.iload_n 1, 1) := by decide +kernel
theorem dX12_reckon_80 : decode cX12_reckon 80 = .ok (.iload_n 2, 1) := by decide +kernel
theorem dX12_reckon_81 : decode cX12_reckon 81 = .ok (.if_icmp .ne 7, 3) := by decide +kernel
theorem dX12_reckon_84 : decode cX12_reckon 84 = .ok (.iconst 1, 1) := by decide +kernel
theorem dX12_reckon_85 : decode cX12_reckon 85 = .ok (.goto 4, 3) := by decide +kernel
theorem dX12_reckon_88 : decode cX12_reckon 88 = .ok (.iconst 0, 1) := by decide +kernel
theorem dX12_reckon_89 : decode cX12_reckon 89 = .ok (.ireturn, 1) := by decide +kernel
theorem dX12_reckon_90 : decode cX12_reckon 90 = .ok (.iload_n 1, 1) := by decide +kernel
theorem dX12_reckon_91 : decode cX12_reckon 91 = .ok (.ifCond .eq 11, 3) := by decide +kernel
theorem dX12_reckon_94 : decode cX12_reckon 94 = .ok (.iload_n 2, 1) := by decide +kernel
theorem dX12_reckon_95 : decode cX12_reckon 95 = .ok (.ifCond .eq 7, 3) := by decide +kernel
theorem dX12_reckon_98 : decode cX12_reckon 98 = .ok (.iconst 1, 1) := by decide +kernel
theorem dX12_reckon_99 : decode cX12_reckon 99 = .ok (.goto 4, 3) := by decide +kernel
theorem dX12_reckon_102 : decode cX12_reckon 102 = .ok (.iconst 0, 1) := by decide +kernel
theorem dX12_reckon_103 : decode cX12_reckon 103 = .ok (.ireturn, 1) := by decide +kernel
theorem dX12_reckon_104 : decode cX12_reckon 104 = .ok (.iload_n 1, 1) := by decide +kernel
theorem dX12_reckon_105 : decode cX12_reckon 105 = .ok (.ifCond .ne 7, 3) := by decide +kernel
theorem dX12_reckon_108 : decode cX12_reckon 108 = .ok (.iload_n 2, 1) := by decide +kernel
theorem dX12_reckon_109 : decode cX12_reckon 109 = .ok (.ifCond .eq 7, 3) := by decide +kernel
theorem dX12_reckon_112 : decode cX12_reckon 112 = .ok (.iconst 1, 1) := by decide +kernel
theorem dX12_reckon_113 : decode cX12_reckon 113 = .ok (.goto 4, 3) := by decide +kernel
theorem dX12_reckon_116 : decode cX12_reckon 116 = .ok (.iconst 0, 1) := by decide +kernel
theorem dX12_reckon_117 : decode cX12_reckon 117 = .ok (.ireturn, 1) := by decide +kernel
theorem dX12_valueNow_0 : decode cX12_valueNow 0 = .ok (.iconst 0, 1) := by decide +kernel
theorem dX12_valueNow_1 : decode cX12_valueNow 1 = .ok (.istore_n 1, 1) := by decide +kernel
theorem dX12_valueNow_2 : decode cX12_valueNow 2 = .ok (.iconst 0, 1) := by decide +kernel
theorem dX12_valueNow_3 : decode cX12_valueNow 3 = .ok (.istore_n 2, 1) := by decide +kernel
theorem dX12_valueNow_4 : decode cX12_valueNow 4 = .ok (.iload_n 2, 1) := by decide +kernel
theorem dX12_valueNow_5 : decode cX12_valueNow 5 = .ok (.aload_n 0, 1) := by decide +kernel
theorem dX12_valueNow_6 : decode cX12_valueNow 6 = .ok (.getfield 40, 3) := by decide +kernel
theorem dX12_valueNow_9 : decode cX12_valueNow 9 = .ok (.iconst 4, 1) := by decide +kernel
theorem dX12_valueNow_10 : decode cX12_valueNow 10 = .ok (.iaload, 1) := by decide +kernel
theorem dX12_valueNow_11 : decode cX12_valueNow 11 = .ok (.if_icmp .ge 112, 3) := by decide +kernel
theorem dX12_valueNow_14 : decode cX12_valueNow 14 = .ok (.aload_n 0, 1) := by decide +kernel
theorem dX12_valueNow_15 : decode cX12_valueNow 15 = .ok (.getfield 64, 3) := by decide +kernel
theorem dX12_valueNow_18 : decode cX12_valueNow 18 = .ok (.iload_n 2, 1) := by decide +kernel
theorem dX12_valueNow_19 : decode cX12_valueNow 19 = .ok (.iaload, 1) := by decide +kernel
theorem dX12_valueNow_20 : decode cX12_valueNow 20 = .ok (.istore_n 3, 1) := by decide +kernel
theorem dX12_valueNow_21 : decode cX12_valueNow 21 = .ok (.iload_n 3, 1) := by decide +kernel
theorem dX12_valueNow_22 : decode cX12_valueNow 22 = .ok (.bipush (-20), 2) := by decide +kernel
theorem dX12_valueNow_24 : decode cX12_valueNow 24 = .ok (.if_icmp .le 31, 3) := by decide +kernel
theorem dX12_valueNow_27 : decode cX12_valueNow 27 = .ok (.aload_n 0, 1) := by decide +kernel
theorem dX12_valueNow_28 : decode cX12_valueNow 28 = .ok (.getfield 105, 3) := by decide +kernel
theorem dX12_valueNow_31 : decode cX12_valueNow 31 = .ok (.iload_n 1, 1) := by decide +kernel
theorem dX12_valueNow_32 : decode cX12_valueNow 32 = .ok (.iload_n 3, 1) := by decide +kernel
theorem dX12_valueNow_33 : decode cX12_valueNow 33 = .ok (.ifCond .lt 7, 3) := by decide +kernel
theorem dX12_valueNow_36 : decode cX12_valueNow 36 = .ok (.iload_n 3, 1) := by decide +kernel
theorem dX12_valueNow_37 : decode cX12_valueNow 37 = .ok (.goto 11, 3) := by decide +kernel
theorem dX12_valueNow_40 : decode cX12_valueNow 40 = .ok (.aload_n 0, 1) := by decide +kernel
theorem dX12_valueNow_41 : decode cX12_valueNow 41 = .ok (.getfield 102, 3) := by decide +kernel
theorem dX12_valueNow_44 : decode cX12_valueNow 44 = .ok (.iconst (-1), 1) := by decide +kernel
theorem dX12_valueNow_45 : decode cX12_valueNow 45 = .ok (.iload_n 3, 1) := by decide +kernel
theorem dX12_valueNow_46 : decode cX12_valueNow 46 = .ok (.isub, 1) := by decide +kernel
theorem dX12_valueNow_47 : decode cX12_valueNow 47 = .ok (.iaload, 1) := by decide +kernel
theorem dX12_valueNow_48 : decode cX12_valueNow 48 = .ok (.iastore, 1) := by decide +kernel
theorem dX12_valueNow_49 : decode cX12_valueNow 49 = .ok (.iinc 1 1, 3) := by decide +kernel
theorem dX12_valueNow_52 : decode cX12_valueNow 52 = .ok (.goto 65, 3) := by decide +kernel
theorem dX12_valueNow_55 : decode cX12_valueNow 55 = .ok (.iload_n 3, 1) := by decide +kernel
theorem dX12_valueNow_56 : decode cX12_valueNow 56 = .ok (.bipush (-28), 2) := by decide +kernel
theorem dX12_valueNow_58 : decode cX12_valueNow 58 = .ok (.if_icmp .ne 30, 3) := by decide +kernel
theorem dX12_valueNow_61 : decode cX12_valueNow 61 = .ok (.aload_n 0, 1) := by decide +kernel
theorem dX12_valueNow_62 : decode cX12_valueNow 62 = .ok (.getfield 105, 3) := by decide +kernel
theorem dX12_valueNow_65 : decode cX12_valueNow 65 = .ok (.iload_n 1, 1) := by decide +kernel
theorem dX12_valueNow_66 : decode cX12_valueNow 66 = .ok (.iconst 1, 1) := by decide +kernel
theorem dX12_valueNow_67 : decode cX12_valueNow 67 = .ok (.isub, 1) := by decide +kernel
theorem dX12_valueNow_68 : decode cX12_valueNow 68 = .ok (.aload_n 0, 1) := by decide +kernel
theorem dX12_valueNow_69 : decode cX12_valueNow 69 = .ok (.getfield 105, 3) := by decide +kernel
theorem dX12_valueNow_72 : decode cX12_valueNow 72 = .ok (.iload_n 1, 1) := by decide +kernel
theorem dX12_valueNow_73 : decode cX12_valueNow 73 = .ok (.iconst 1, 1) := by decide +kernel
theorem dX12_valueNow_74 : decode cX12_valueNow 74 = .ok (.isub, 1) := by decide +kernel
theorem dX12_valueNow_75 : decode cX12_valueNow 75 = .ok (.iaload, 1) := by decide +kernel
theorem dX12_valueNow_76 : decode cX12_valueNow 76 = .ok (.ifCond .eq 7, 3) := by decide +kernel
theorem dX12_valueNow_79 : decode cX12_valueNow 79 = .ok (.iconst 0, 1) := by decide +kernel
theorem dX12_valueNow_80 : decode cX12_valueNow 80 = .ok (.goto 4, 3) := by decide +kernel
theorem dX12_valueNow_83 : decode cX12_valueNow 83 = .ok (.iconst 1, 1) := by decide +kernel
theorem dX12_valueNow_84 : decode cX12_valueNow 84 = .ok (.iastore, 1) := by decide +kernel
theorem dX12_valueNow_85 : decode cX12_valueNow 85 = .ok (.goto 32, 3) := by decide +kernel
theorem dX12_valueNow_88 : decode cX12_valueNow 88 = .ok (.iinc 1 (-1), 3) := by decide +kernel
theorem dX12_valueNow_91 : decode cX12_valueNow 91 = .ok (.aload_n 0, 1) := by decide +kernel
theorem dX12_valueNow_92 : decode cX12_valueNow 92 = .ok (.getfield 105, 3) := by decide +kernel
theorem dX12_valueNow_95 : decode cX12_valueNow 95 = .ok (.iload_n 1, 1) := by decide +kernel
theorem dX12_valueNow_96 : decode cX12_valueNow 96 = .ok (.iconst 1, 1) := by decide +kernel
theorem dX12_valueNow_97 : decode cX12_valueNow 97 = .ok (.isub, 1) := by decide +kernel
theorem dX12_valueNow_98 : decode cX12_valueNow 98 = .ok (.iload_n 3, 1) := by decide +kernel
theorem dX12_valueNow_99 : decode cX12_valueNow 99 = .ok (.aload_n 0, 1) := by decide +kernel
theorem dX12_valueNow_100 : decode cX12_valueNow 100 = .ok (.getfield 105, 3) := by decide +kernel
theorem dX12_valueNow_103 : decode cX12_valueNow 103 = .ok (.iload_n 1, 1) := by decide +kernel
theorem dX12_valueNow_104 : decode cX12_valueNow 104 = .ok (.iconst 1, 1) := by decide +kernel
theorem dX12_valueNow_105 : decode cX12_valueNow 105 = .ok (.isub, 1) := by decide +kernel
theorem dX12_valueNow_106 : decode cX12_valueNow 106 = .ok (.iaload, 1) := by decide +kernel
theorem dX12_valueNow_107 : decode cX12_valueNow 107 = .ok (.aload_n 0, 1) := by decide +kernel
theorem dX12_valueNow_108 : decode cX12_valueNow 108 = .ok (.getfield 105, 3) := by decide +kernel
theorem dX12_valueNow_111 : decode cX12_valueNow 111 = .ok (.iload_n 1, 1) := by decide +kernel
theorem dX12_valueNow_112 : decode cX12_valueNow 112 = .ok (.iaload, 1) := by decide +kernel
theorem dX12_valueNow_113 : decode cX12_valueNow 113 = .ok (.invokestatic 348, 3) := by decide +kernel
theorem dX12_valueNow_116 : decode cX12_valueNow 116 = .ok (.iastore, 1) := by decide +kernel
theorem dX12_valueNow_117 : decode cX12_valueNow 117 = .ok (.iinc 2 1, 3) := by decide +kernel
theorem dX12_valueNow_120 : decode cX12_valueNow 120 = .ok (.goto (-116), 3) := by decide +kernel
theorem dX12_valueNow_123 : decode cX12_valueNow 123 = .ok (.aload_n 0, 1) := by decide +kernel
theorem dX12_valueNow_124 : decode cX12_valueNow 124 = .ok (.getfield 105, 3) := by decide +kernel
theorem dX12_valueNow_127 : decode cX12_valueNow 127 = .ok (.iconst 0, 1) := by decide +kernel
theorem dX12_valueNow_128 : decode cX12_valueNow 128 = .ok (.iaload, 1) := by decide +kernel
theorem dX12_valueNow_129 : decode cX12_valueNow 129 = .ok (.ireturn, 1) := by decide +kernel
theorem dX12_lastNote_0 : decode cX12_lastNote 0 = .ok (.aload_n 0, 1) := by decide +kernel
theorem dX12_lastNote_1 : decode cX12_lastNote 1 = .ok (.getfield 320, 3) := by decide +kernel
theorem dX12_lastNote_4 : decode cX12_lastNote 4 = .ok (.iconst 1, 1) := by decide +kernel
theorem dX12_lastNote_5 : decode cX12_lastNote 5 = .ok (.isub, 1) := by decide +kernel
theorem dX12_lastNote_6 : decode cX12_lastNote 6 = .ok (.istore_n 1, 1) := by decide +kernel
theorem dX12_lastNote_7 : decode cX12_lastNote 7 = .ok (.iload_n 1, 1) := by decide +kernel
theorem dX12_lastNote_8 : decode cX12_lastNote 8 = .ok (.ifCond .lt 27, 3) := by decide +kernel
theorem dX12_lastNote_11 : decode cX12_lastNote 11 = .ok (.aload_n 0, 1) := by decide +kernel
theorem dX12_lastNote_12 : decode cX12_lastNote 12 = .ok (.getfield 93, 3) := by decide +kernel
theorem dX12_lastNote_15 : decode cX12_lastNote 15 = .ok (.iload_n 1, 1) := by decide +kernel
theorem dX12_lastNote_16 : decode cX12_lastNote 16 = .ok (.iaload, 1) := by decide +kernel
theorem dX12_lastNote_17 : decode cX12_lastNote 17 = .ok (.bipush 12, 2) := by decide +kernel
theorem dX12_lastNote_19 : decode cX12_lastNote 19 = .ok (.if_icmp .eq 10, 3) := by decide +kernel
theorem dX12_lastNote_22 : decode cX12_lastNote 22 = .ok (.aload_n 0, 1) := by decide +kernel
theorem dX12_lastNote_23 : decode cX12_lastNote 23 = .ok (.getfield 93, 3) := by decide +kernel
theorem dX12_lastNote_26 : decode cX12_lastNote 26 = .ok (.iload_n 1, 1) := by decide +kernel
theorem dX12_lastNote_27 : decode cX12_lastNote 27 = .ok (.iaload, 1) := by decide +kernel
theorem dX12_lastNote_28 : decode cX12_lastNote 28 = .ok (.ireturn, 1) := by decide +kernel
theorem dX12_lastNote_29 : decode cX12_lastNote 29 = .ok (.iinc 1 (-1), 3) := by decide +kernel
theorem dX12_lastNote_32 : decode cX12_lastNote 32 = .ok (.goto (-25), 3) := by decide +kernel
theorem dX12_lastNote_35 : decode cX12_lastNote 35 = .ok (.aload_n 0, 1) := by decide +kernel
theorem dX12_lastNote_36 : decode cX12_lastNote 36 = .ok (.getfield 318, 3) := by decide +kernel
theorem dX12_lastNote_39 : decode cX12_lastNote 39 = .ok (.ireturn, 1) := by decide +kernel
theorem dX12_signsOf_0 : decode cX12_signsOf 0 = .ok (.iconst 0, 1) := by decide +kernel
theorem dX12_signsOf_1 : decode cX12_signsOf 1 = .ok (.istore_n 2, 1) := by decide +kernel
theorem dX12_signsOf_2 : decode cX12_signsOf 2 = .ok (.iconst 0, 1) := by decide +kernel
theorem dX12_signsOf_3 : decode cX12_signsOf 3 = .ok (.istore_n 3, 1) := by decide +kernel
theorem dX12_signsOf_4 : decode cX12_signsOf 4 = .ok (.iload_n 3, 1) := by decide +kernel
theorem dX12_signsOf_5 : decode cX12_signsOf 5 = .ok (.aload_n 0, 1) := by decide +kernel
theorem dX12_signsOf_6 : decode cX12_signsOf 6 = .ok (.getfield 320, 3) := by decide +kernel
theorem dX12_signsOf_9 : decode cX12_signsOf 9 = .ok (.if_icmp .ge 27, 3) := by decide +kernel
theorem dX12_signsOf_12 : decode cX12_signsOf 12 = .ok (.iload_n 2, 1) := by decide +kernel
theorem dX12_signsOf_13 : decode cX12_signsOf 13 = .ok (.aload_n 0, 1) := by decide +kernel
theorem dX12_signsOf_14 : decode cX12_signsOf 14 = .ok (.getfield 96, 3) := by decide +kernel
theorem dX12_signsOf_17 : decode cX12_signsOf 17 = .ok (.iload_n 3, 1) := by decide +kernel
theorem dX12_signsOf_18 : decode cX12_signsOf 18 = .ok (.iaload, 1) := by decide +kernel
theorem dX12_signsOf_19 : decode cX12_signsOf 19 = .ok (.iload_n 1, 1) := by decide +kernel
theorem dX12_signsOf_20 : decode cX12_signsOf 20 = .ok (.if_icmp .ne 7, 3) := by decide +kernel
theorem dX12_signsOf_23 : decode cX12_signsOf 23 = .ok (.iconst 1, 1) := by decide +kernel
theorem dX12_signsOf_24 : decode cX12_signsOf 24 = .ok (.goto 4, 3) := by decide +kernel
theorem dX12_signsOf_27 : decode cX12_signsOf 27 = .ok (.iconst 0, 1) := by decide +kernel
theorem dX12_signsOf_28 : decode cX12_signsOf 28 = .ok (.iadd, 1) := by decide +kernel
theorem dX12_signsOf_29 : decode cX12_signsOf 29 = .ok (.istore_n 2, 1) := by decide +kernel
theorem dX12_signsOf_30 : decode cX12_signsOf 30 = .ok (.iinc 3 1, 3) := by decide +kernel
theorem dX12_signsOf_33 : decode cX12_signsOf 33 = .ok (.goto (-29), 3) := by decide +kernel
theorem dX12_signsOf_36 : decode cX12_signsOf 36 = .ok (.iload_n 2, 1) := by decide +kernel
theorem dX12_signsOf_37 : decode cX12_signsOf 37 = .ok (.ireturn, 1) := by decide +kernel
theorem dX12_byRule_0 : decode cX12_byRule 0 = .ok (.aload_n 0, 1) := by decide +kernel
theorem dX12_byRule_1 : decode cX12_byRule 1 = .ok (.getfield 40, 3) := by decide +kernel
theorem dX12_byRule_4 : decode cX12_byRule 4 = .ok (.iconst 4, 1) := by decide +kernel
theorem dX12_byRule_5 : decode cX12_byRule 5 = .ok (.iaload, 1) := by decide +kernel
theorem dX12_byRule_6 : decode cX12_byRule 6 = .ok (.ifCond .ne 15, 3) := by decide +kernel
theorem dX12_byRule_9 : decode cX12_byRule 9 = .ok (.aload_n 0, 1) := by decide +kernel
theorem dX12_byRule_10 : decode cX12_byRule 10 = .ok (.getfield 82, 3) := by decide +kernel
theorem dX12_byRule_13 : decode cX12_byRule 13 = .ok (.iload_n 1, 1) := by decide +kernel
theorem dX12_byRule_14 : decode cX12_byRule 14 = .ok (.iaload, 1) := by decide +kernel
theorem dX12_byRule_15 : decode cX12_byRule 15 = .ok (.aload_n 0, 1) := by decide +kernel
theorem dX12_byRule_16 : decode cX12_byRule 16 = .ok (.getfield 318, 3) := by decide +kernel
theorem dX12_byRule_19 : decode cX12_byRule 19 = .ok (.iadd, 1) := by decide +kernel
theorem dX12_byRule_20 : decode cX12_byRule 20 = .ok (.ireturn, 1) := by decide +kernel
theorem dX12_byRule_21 : decode cX12_byRule 21 = .ok (.aload_n 0, 1) := by decide +kernel
theorem dX12_byRule_22 : decode cX12_byRule 22 = .ok (.getfield 102, 3) := by decide +kernel
theorem dX12_byRule_25 : decode cX12_byRule 25 = .ok (.iconst 0, 1) := by decide +kernel
theorem dX12_byRule_26 : decode cX12_byRule 26 = .ok (.aload_n 0, 1) := by decide +kernel
theorem dX12_byRule_27 : decode cX12_byRule 27 = .ok (.getfield 316, 3) := by decide +kernel
theorem dX12_byRule_30 : decode cX12_byRule 30 = .ok (.iastore, 1) := by decide +kernel
theorem dX12_byRule_31 : decode cX12_byRule 31 = .ok (.aload_n 0, 1) := by decide +kernel
theorem dX12_byRule_32 : decode cX12_byRule 32 = .ok (.getfield 102, 3) := by decide +kernel
theorem dX12_byRule_35 : decode cX12_byRule 35 = .ok (.iconst 1, 1) := by decide +kernel
theorem dX12_byRule_36 : decode cX12_byRule 36 = .ok (.aload_n 0, 1) := by decide +kernel
theorem dX12_byRule_37 : decode cX12_byRule 37 = .ok (.getfield 82, 3) := by decide +kernel
theorem dX12_byRule_40 : decode cX12_byRule 40 = .ok (.iload_n 1, 1) := by decide +kernel
theorem dX12_byRule_41 : decode cX12_byRule 41 = .ok (.iaload, 1) := by decide +kernel
theorem dX12_byRule_42 : decode cX12_byRule 42 = .ok (.iastore, 1) := by decide +kernel
theorem dX12_byRule_43 : decode cX12_byRule 43 = .ok (.aload_n 0, 1) := by decide +kernel
theorem dX12_byRule_44 : decode cX12_byRule 44 = .ok (.getfield 102, 3) := by decide +kernel
theorem dX12_byRule_47 : decode cX12_byRule 47 = .ok (.iconst 2, 1) := by decide +kernel
theorem dX12_byRule_48 : decode cX12_byRule 48 = .ok (.aload_n 0, 1) := by decide +kernel
theorem dX12_byRule_49 : decode cX12_byRule 49 = .ok (.invokevirtual 352, 3) := by decide +kernel
theorem dX12_byRule_52 : decode cX12_byRule 52 = .ok (.iastore, 1) := by decide +kernel
theorem dX12_byRule_53 : decode cX12_byRule 53 = .ok (.aload_n 0, 1) := by decide +kernel
theorem dX12_byRule_54 : decode cX12_byRule 54 = .ok (.getfield 102, 3) := by decide +kernel
theorem dX12_byRule_57 : decode cX12_byRule 57 = .ok (.iconst 3, 1) := by decide +kernel
theorem dX12_byRule_58 : decode cX12_byRule 58 = .ok (.aload_n 0, 1) := by decide +kernel
theorem dX12_byRule_59 : decode cX12_byRule 59 = .ok (.getfield 318, 3) := by decide +kernel
theorem dX12_byRule_62 : decode cX12_byRule 62 = .ok (.iastore, 1) := by decide +kernel
theorem dX12_byRule_63 : decode cX12_byRule 63 = .ok (.aload_n 0, 1) := by decide +kernel
theorem dX12_byRule_64 : decode cX12_byRule 64 = .ok (.getfield 102, 3) := by decide +kernel
theorem dX12_byRule_67 : decode cX12_byRule 67 = .ok (.iconst 4, 1) := by decide +kernel
theorem dX12_byRule_68 : decode cX12_byRule 68 = .ok (.aload_n 0, 1) := by decide +kernel
theorem dX12_byRule_69 : decode cX12_byRule 69 = .ok (.getfield 80, 3) := by decide +kernel
theorem dX12_byRule_72 : decode cX12_byRule 72 = .ok (.iload_n 1, 1) := by decide +kernel
theorem dX12_byRule_73 : decode cX12_byRule 73 = .ok (.iaload, 1) := by decide +kernel
theorem dX12_byRule_74 : decode cX12_byRule 74 = .ok (.iastore, 1) := by decide +kernel
theorem dX12_byRule_75 : decode cX12_byRule 75 = .ok (.aload_n 0, 1) := by decide +kernel
theorem dX12_byRule_76 : decode cX12_byRule 76 = .ok (.getfield 102, 3) := by decide +kernel
theorem dX12_byRule_79 : decode cX12_byRule 79 = .ok (.iconst 5, 1) := by decide +kernel
theorem dX12_byRule_80 : decode cX12_byRule 80 = .ok (.aload_n 0, 1) := by decide +kernel
theorem dX12_byRule_81 : decode cX12_byRule 81 = .ok (.getfield 44, 3) := by decide +kernel
theorem dX12_byRule_84 : decode cX12_byRule 84 = .ok (.iload_n 1, 1) := by decide +kernel
theorem dX12_byRule_85 : decode cX12_byRule 85 = .ok (.iaload, 1) := by decide +kernel
theorem dX12_byRule_86 : decode cX12_byRule 86 = .ok (.iastore, 1) := by decide +kernel
theorem dX12_byRule_87 : decode cX12_byRule 87 = .ok (.aload_n 0, 1) := by decide +kernel
theorem dX12_byRule_88 : decode cX12_byRule 88 = .ok (.getfield 102, 3) := by decide +kernel
theorem dX12_byRule_91 : decode cX12_byRule 91 = .ok (.bipush 6, 2) := by decide +kernel
theorem dX12_byRule_93 : decode cX12_byRule 93 = .ok (.aload_n 0, 1) := by decide +kernel
theorem dX12_byRule_94 : decode cX12_byRule 94 = .ok (.iload_n 1, 1) := by decide +kernel
theorem dX12_byRule_95 : decode cX12_byRule 95 = .ok (.invokevirtual 355, 3) := by decide +kernel
theorem dX12_byRule_98 : decode cX12_byRule 98 = .ok (.iastore, 1) := by decide +kernel
theorem dX12_byRule_99 : decode cX12_byRule 99 = .ok (.aload_n 0, 1) := by decide +kernel
theorem dX12_byRule_100 : decode cX12_byRule 100 = .ok (.invokevirtual 358, 3) := by decide +kernel
theorem dX12_byRule_103 : decode cX12_byRule 103 = .ok (.ireturn, 1) := by decide +kernel
theorem dX12_isFeud_0 : decode cX12_isFeud 0 = .ok (.iconst 0, 1) := by decide +kernel
theorem dX12_isFeud_1 : decode cX12_isFeud 1 = .ok (.istore_n 3, 1) := by decide +kernel
theorem dX12_isFeud_2 : decode cX12_isFeud 2 = .ok (.iload_n 3, 1) := by decide +kernel
theorem dX12_isFeud_3 : decode cX12_isFeud 3 = .ok (.aload_n 0, 1) := by decide +kernel
theorem dX12_isFeud_4 : decode cX12_isFeud 4 = .ok (.getfield 332, 3) := by decide +kernel
theorem dX12_isFeud_7 : decode cX12_isFeud 7 = .ok (.if_icmp .ge 51, 3) := by decide +kernel
theorem dX12_isFeud_10 : decode cX12_isFeud 10 = .ok (.aload_n 0, 1) := by decide +kernel
theorem dX12_isFeud_11 : decode cX12_isFeud 11 = .ok (.getfield 84, 3) := by decide +kernel
theorem dX12_isFeud_14 : decode cX12_isFeud 14 = .ok (.iload_n 3, 1) := by decide +kernel
theorem dX12_isFeud_15 : decode cX12_isFeud 15 = .ok (.iaload, 1) := by decide +kernel
theorem dX12_isFeud_16 : decode cX12_isFeud 16 = .ok (.iload_n 1, 1) := by decide +kernel
theorem dX12_isFeud_17 : decode cX12_isFeud 17 = .ok (.if_icmp .ne 13, 3) := by decide +kernel
theorem dX12_isFeud_20 : decode cX12_isFeud 20 = .ok (.aload_n 0, 1) := by decide +kernel
theorem dX12_isFeud_21 : decode cX12_isFeud 21 = .ok (.getfield 87, 3) := by decide +kernel
theorem dX12_isFeud_24 : decode cX12_isFeud 24 = .ok (.iload_n 3, 1) := by decide +kernel
theorem dX12_isFeud_25 : decode cX12_isFeud 25 = .ok (.iaload, 1) := by decide +kernel
theorem dX12_isFeud_26 : decode cX12_isFeud 26 = .ok (.iload_n 2, 1) := by decide +kernel
theorem dX12_isFeud_27 : decode cX12_isFeud 27 = .ok (.if_icmp .eq 23, 3) := by decide +kernel
theorem dX12_isFeud_30 : decode cX12_isFeud 30 = .ok (.aload_n 0, 1) := by decide +kernel
theorem dX12_isFeud_31 : decode cX12_isFeud 31 = .ok (.getfield 84, 3) := by decide +kernel
theorem dX12_isFeud_34 : decode cX12_isFeud 34 = .ok (.iload_n 3, 1) := by decide +kernel
theorem dX12_isFeud_35 : decode cX12_isFeud 35 = .ok (.iaload, 1) := by decide +kernel
theorem dX12_isFeud_36 : decode cX12_isFeud 36 = .ok (.iload_n 2, 1) := by decide +kernel
theorem dX12_isFeud_37 : decode cX12_isFeud 37 = .ok (.if_icmp .ne 15, 3) := by decide +kernel
theorem dX12_isFeud_40 : decode cX12_isFeud 40 = .ok (.aload_n 0, 1) := by decide +kernel
theorem dX12_isFeud_41 : decode cX12_isFeud 41 = .ok (.getfield 87, 3) := by decide +kernel
theorem dX12_isFeud_44 : decode cX12_isFeud 44 = .ok (.iload_n 3, 1) := by decide +kernel
theorem dX12_isFeud_45 : decode cX12_isFeud 45 = .ok (.iaload, 1) := by decide +kernel
theorem dX12_isFeud_46 : decode cX12_isFeud 46 = .ok (.iload_n 1, 1) := by decide +kernel
theorem dX12_isFeud_47 : decode cX12_isFeud 47 = .ok (.if_icmp .ne 5, 3) := by decide +kernel
theorem dX12_isFeud_50 : decode cX12_isFeud 50 = .ok (.iconst 1, 1) := by decide +kernel
theorem dX12_isFeud_51 : decode cX12_isFeud 51 = .ok (.ireturn, 1) := by decide +kernel
theorem dX12_isFeud_52 : decode cX12_isFeud 52 = .ok (.iinc 3 1, 3) := by decide +kernel
theorem dX12_isFeud_55 : decode cX12_isFeud 55 = .ok (.goto (-53), 3) := by decide +kernel
theorem dX12_isFeud_58 : decode cX12_isFeud 58 = .ok (.iconst 0, 1) := by decide +kernel
theorem dX12_isFeud_59 : decode cX12_isFeud 59 = .ok (.ireturn, 1) := by decide +kernel
theorem dX12_noteOf_0 : decode cX12_noteOf 0 = .ok (.aload_n 0, 1) := by decide +kernel
theorem dX12_noteOf_1 : decode cX12_noteOf 1 = .ok (.getfield 44, 3) := by decide +kernel
theorem dX12_noteOf_4 : decode cX12_noteOf 4 = .ok (.iload_n 1, 1) := by decide +kernel
theorem dX12_noteOf_5 : decode cX12_noteOf 5 = .ok (.iaload, 1) := by decide +kernel
theorem dX12_noteOf_6 : decode cX12_noteOf 6 = .ok (.iconst 2, 1) := by decide +kernel
theorem dX12_noteOf_7 : decode cX12_noteOf 7 = .ok (.if_icmp .ne 12, 3) := by decide +kernel
theorem dX12_noteOf_10 : decode cX12_noteOf 10 = .ok (.aload_n 0, 1) := by decide +kernel
theorem dX12_noteOf_11 : decode cX12_noteOf 11 = .ok (.getfield 82, 3) := by decide +kernel
theorem dX12_noteOf_14 : decode cX12_noteOf 14 = .ok (.iload_n 1, 1) := by decide +kernel
theorem dX12_noteOf_15 : decode cX12_noteOf 15 = .ok (.iaload, 1) := by decide +kernel
theorem dX12_noteOf_16 : decode cX12_noteOf 16 = .ok (.goto 11, 3) := by decide +kernel
theorem dX12_noteOf_19 : decode cX12_noteOf 19 = .ok (.aload_n 0, 1) := by decide +kernel
theorem dX12_noteOf_20 : decode cX12_noteOf 20 = .ok (.iload_n 1, 1) := by decide +kernel
theorem dX12_noteOf_21 : decode cX12_noteOf 21 = .ok (.invokevirtual 361, 3) := by decide +kernel
theorem dX12_noteOf_24 : decode cX12_noteOf 24 = .ok (.invokestatic 364, 3) := by decide +kernel
theorem dX12_noteOf_27 : decode cX12_noteOf 27 = .ok (.istore_n 2, 1) := by decide +kernel
theorem dX12_noteOf_28 : decode cX12_noteOf 28 = .ok (.aload_n 0, 1) := by decide +kernel
theorem dX12_noteOf_29 : decode cX12_noteOf 29 = .ok (.getfield 44, 3) := by decide +kernel
theorem dX12_noteOf_32 : decode cX12_noteOf 32 = .ok (.iload_n 1, 1) := by decide +kernel
theorem dX12_noteOf_33 : decode cX12_noteOf 33 = .ok (.iaload, 1) := by decide +kernel
theorem dX12_noteOf_34 : decode cX12_noteOf 34 = .ok (.iconst 1, 1) := by decide +kernel
theorem dX12_noteOf_35 : decode cX12_noteOf 35 = .ok (.if_icmp .ne 6, 3) := by decide +kernel
theorem dX12_noteOf_38 : decode cX12_noteOf 38 = .ok (.iinc 2 7, 3) := by decide +kernel
theorem dX12_noteOf_41 : decode cX12_noteOf 41 = .ok (.aload_n 0, 1) := by decide +kernel
theorem dX12_noteOf_42 : decode cX12_noteOf 42 = .ok (.getfield 44, 3) := by decide +kernel
theorem dX12_noteOf_45 : decode cX12_noteOf 45 = .ok (.iload_n 1, 1) := by decide +kernel
theorem dX12_noteOf_46 : decode cX12_noteOf 46 = .ok (.iaload, 1) := by decide +kernel
theorem dX12_noteOf_47 : decode cX12_noteOf 47 = .ok (.iconst 3, 1) := by decide +kernel
theorem dX12_noteOf_48 : decode cX12_noteOf 48 = .ok (.if_icmp .ne 7, 3) := by decide +kernel
theorem dX12_noteOf_51 : decode cX12_noteOf 51 = .ok (.iconst 1, 1) := by decide +kernel
theorem dX12_noteOf_52 : decode cX12_noteOf 52 = .ok (.goto 4, 3) := by decide +kernel
theorem dX12_noteOf_55 : decode cX12_noteOf 55 = .ok (.iconst 0, 1) := by decide +kernel
theorem dX12_noteOf_56 : decode cX12_noteOf 56 = .ok (.aload_n 0, 1) := by decide +kernel
theorem dX12_noteOf_57 : decode cX12_noteOf 57 = .ok (.getfield 108, 3) := by decide +kernel
theorem dX12_noteOf_60 : decode cX12_noteOf 60 = .ok (.iload_n 1, 1) := by decide +kernel
theorem dX12_noteOf_61 : decode cX12_noteOf 61 = .ok (.if_icmp .ne 7, 3) := by decide +kernel
theorem dX12_noteOf_64 : decode cX12_noteOf 64 = .ok (.iconst 1, 1) := by decide +kernel
theorem dX12_noteOf_65 : decode cX12_noteOf 65 = .ok (.goto 4, 3) := by decide +kernel
theorem dX12_noteOf_68 : decode cX12_noteOf 68 = .ok (.iconst 0, 1) := by decide +kernel
theorem dX12_noteOf_69 : decode cX12_noteOf 69 = .ok (.if_icmp .eq 6, 3) := by decide +kernel
theorem dX12_noteOf_72 : decode cX12_noteOf 72 = .ok (.iinc 2 11, 3) := by decide +kernel
theorem dX12_noteOf_75 : decode cX12_noteOf 75 = .ok (.aload_n 0, 1) := by decide +kernel
theorem dX12_noteOf_76 : decode cX12_noteOf 76 = .ok (.getfield 320, 3) := by decide +kernel
theorem dX12_noteOf_79 : decode cX12_noteOf 79 = .ok (.ifCond .le 53, 3) := by decide +kernel
theorem dX12_noteOf_82 : decode cX12_noteOf 82 = .ok (.aload_n 0, 1) := by decide +kernel
theorem dX12_noteOf_83 : decode cX12_noteOf 83 = .ok (.getfield 93, 3) := by decide +kernel
theorem dX12_noteOf_86 : decode cX12_noteOf 86 = .ok (.aload_n 0, 1) := by decide +kernel
theorem dX12_noteOf_87 : decode cX12_noteOf 87 = .ok (.getfield 320, 3) := by decide +kernel
theorem dX12_noteOf_90 : decode cX12_noteOf 90 = .ok (.iconst 1, 1) := by decide +kernel
theorem dX12_noteOf_91 : decode cX12_noteOf 91 = .ok (.isub, 1) := by decide +kernel
theorem dX12_noteOf_92 : decode cX12_noteOf 92 = .ok (.iaload, 1) := by decide +kernel
theorem dX12_noteOf_93 : decode cX12_noteOf 93 = .ok (.bipush 12, 2) := by decide +kernel
theorem dX12_noteOf_95 : decode cX12_noteOf 95 = .ok (.if_icmp .eq 37, 3) := by decide +kernel
theorem dX12_noteOf_98 : decode cX12_noteOf 98 = .ok (.aload_n 0, 1) := by decide +kernel
theorem dX12_noteOf_99 : decode cX12_noteOf 99 = .ok (.iload_n 1, 1) := by decide +kernel
theorem dX12_noteOf_100 : decode cX12_noteOf 100 = .ok (.aload_n 0, 1) := by decide +kernel
theorem dX12_noteOf_101 : decode cX12_noteOf 101 = .ok (.getfield 96, 3) := by decide +kernel
theorem dX12_noteOf_104 : decode cX12_noteOf 104 = .ok (.aload_n 0, 1) := by decide +kernel
theorem dX12_noteOf_105 : decode cX12_noteOf 105 = .ok (.getfield 320, 3) := by decide +kernel
theorem dX12_noteOf_108 : decode cX12_noteOf 108 = .ok (.iconst 1, 1) := by decide +kernel
theorem dX12_noteOf_109 : decode cX12_noteOf 109 = .ok (.isub, 1) := by decide +kernel
theorem dX12_noteOf_110 : decode cX12_noteOf 110 = .ok (.iaload, 1) := by decide +kernel
theorem dX12_noteOf_111 : decode cX12_noteOf 111 = .ok (.invokevirtual 367, 3) := by decide +kernel
theorem dX12_noteOf_114 : decode cX12_noteOf 114 = .ok (.ifCond .eq 18, 3) := by decide +kernel
theorem dX12_noteOf_117 : decode cX12_noteOf 117 = .ok (.aload_n 0, 1) := by decide +kernel
theorem dX12_noteOf_118 : decode cX12_noteOf 118 = .ok (.getfield 93, 3) := by decide +kernel
theorem dX12_noteOf_121 : decode cX12_noteOf 121 = .ok (.aload_n 0, 1) := by decide +kernel
theorem dX12_noteOf_122 : decode cX12_noteOf 122 = .ok (.getfield 320, 3) := by decide +kernel
theorem dX12_noteOf_125 : decode cX12_noteOf 125 = .ok (.iconst 1, 1) := by decide +kernel
theorem dX12_noteOf_126 : decode cX12_noteOf 126 = .ok (.isub, 1) := by decide +kernel
theorem dX12_noteOf_127 : decode cX12_noteOf 127 = .ok (.iaload, 1) := by decide +kernel
theorem dX12_noteOf_128 : decode cX12_noteOf 128 = .ok (.bipush 6, 2) := by decide +kernel
theorem dX12_noteOf_130 : decode cX12_noteOf 130 = .ok (.iadd, 1) := by decide +kernel
theorem dX12_noteOf_131 : decode cX12_noteOf 131 = .ok (.istore_n 2, 1) := by decide +kernel
theorem dX12_noteOf_132 : decode cX12_noteOf 132 = .ok (.iload_n 2, 1) := by decide +kernel
theorem dX12_noteOf_133 : decode cX12_noteOf 133 = .ok (.bipush 12, 2) := by decide +kernel
theorem dX12_noteOf_135 : decode cX12_noteOf 135 = .ok (.irem, 1) := by decide +kernel
theorem dX12_noteOf_136 : decode cX12_noteOf 136 = .ok (.ireturn, 1) := by decide +kernel
theorem dX12_aYear_0 : decode cX12_aYear 0 = .ok (.iconst 0, 1) := by decide +kernel
theorem dX12_aYear_1 : decode cX12_aYear 1 = .ok (.istore_n 1, 1) := by decide +kernel
theorem dX12_aYear_2 : decode cX12_aYear 2 = .ok (.iload_n 1, 1) := by decide +kernel
theorem dX12_aYear_3 : decode cX12_aYear 3 = .ok (.aload_n 0, 1) := by decide +kernel
theorem dX12_aYear_4 : decode cX12_aYear 4 = .ok (.getfield 40, 3) := by decide +kernel
theorem dX12_aYear_7 : decode cX12_aYear 7 = .ok (.iconst 0, 1) := by decide +kernel
theorem dX12_aYear_8 : decode cX12_aYear 8 = .ok (.iaload, 1) := by decide +kernel
theorem dX12_aYear_9 : decode cX12_aYear 9 = .ok (.if_icmp .ge 105, 3) := by decide +kernel
theorem dX12_aYear_12 : decode cX12_aYear 12 = .ok (.aload_n 0, 1) := by decide +kernel
theorem dX12_aYear_13 : decode cX12_aYear 13 = .ok (.getfield 70, 3) := by decide +kernel
theorem dX12_aYear_16 : decode cX12_aYear 16 = .ok (.iload_n 1, 1) := by decide +kernel
theorem dX12_aYear_17 : decode cX12_aYear 17 = .ok (.iaload, 1) := by decide +kernel
theorem dX12_aYear_18 : decode cX12_aYear 18 = .ok (.istore_n 2, 1) := by decide +kernel
theorem dX12_aYear_19 : decode cX12_aYear 19 = .ok (.aload_n 0, 1) := by decide +kernel
theorem dX12_aYear_20 : decode cX12_aYear 20 = .ok (.getfield 326, 3) := by decide +kernel
theorem dX12_aYear_23 : decode cX12_aYear 23 = .ok (.iload_n 2, 1) := by decide +kernel
theorem dX12_aYear_24 : decode cX12_aYear 24 = .ok (.invokestatic 370, 3) := by decide +kernel
theorem dX12_aYear_27 : decode cX12_aYear 27 = .ok (.ifCond .ne 81, 3) := by decide +kernel
theorem dX12_aYear_30 : decode cX12_aYear 30 = .ok (.aload_n 0, 1) := by decide +kernel
theorem dX12_aYear_31 : decode cX12_aYear 31 = .ok (.getfield 320, 3) := by decide +kernel
theorem dX12_aYear_34 : decode cX12_aYear 34 = .ok (.sipush 400, 3) := by decide +kernel
theorem dX12_aYear_37 : decode cX12_aYear 37 = .ok (.if_icmp .ne 6, 3) := by decide +kernel
theorem dX12_aYear_40 : decode cX12_aYear 40 = .ok (.goto 68, 3) := by decide +kernel
theorem dX12_aYear_43 : decode cX12_aYear 43 = .ok (.aload_n 0, 1) := by decide +kernel
theorem dX12_aYear_44 : decode cX12_aYear 44 = .ok (.getfield 323, 3) := by decide +kernel
theorem dX12_aYear_47 : decode cX12_aYear 47 = .ok (.iload_n 2, 1) := by decide +kernel
theorem dX12_aYear_48 : decode cX12_aYear 48 = .ok (.invokestatic 370, 3) := by decide +kernel
theorem dX12_aYear_51 : decode cX12_aYear 51 = .ok (.ifCond .eq 8, 3) := by decide +kernel
theorem dX12_aYear_54 : decode cX12_aYear 54 = .ok (.bipush 12, 2) := by decide +kernel
theorem dX12_aYear_56 : decode cX12_aYear 56 = .ok (.goto 8, 3) := by decide +kernel
theorem dX12_aYear_59 : decode cX12_aYear 59 = .ok (.aload_n 0, 1) := by decide +kernel
theorem dX12_aYear_60 : decode cX12_aYear 60 = .ok (.iload_n 2, 1) := by decide +kernel
theorem dX12_aYear_61 : decode cX12_aYear 61 = .ok (.invokevirtual 373, 3) := by decide +kernel
theorem dX12_aYear_64 : decode cX12_aYear 64 = .ok (.istore_n 3, 1) := by decide +kernel
theorem dX12_aYear_65 : decode cX12_aYear 65 = .ok (.aload_n 0, 1) := by decide +kernel
theorem dX12_aYear_66 : decode cX12_aYear 66 = .ok (.getfield 93, 3) := by decide +kernel
theorem dX12_aYear_69 : decode cX12_aYear 69 = .ok (.aload_n 0, 1) := by decide +kernel
theorem dX12_aYear_70 : decode cX12_aYear 70 = .ok (.getfield 320, 3) := by decide +kernel
theorem dX12_aYear_73 : decode cX12_aYear 73 = .ok (.iload_n 3, 1) := by decide +kernel
theorem dX12_aYear_74 : decode cX12_aYear 74 = .ok (.iastore, 1) := by decide +kernel
theorem dX12_aYear_75 : decode cX12_aYear 75 = .ok (.aload_n 0, 1) := by decide +kernel
theorem dX12_aYear_76 : decode cX12_aYear 76 = .ok (.getfield 96, 3) := by decide +kernel
theorem dX12_aYear_79 : decode cX12_aYear 79 = .ok (.aload_n 0, 1) := by decide +kernel
theorem dX12_aYear_80 : decode cX12_aYear 80 = .ok (.getfield 320, 3) := by decide +kernel
theorem dX12_aYear_83 : decode cX12_aYear 83 = .ok (.iload_n 2, 1) := by decide +kernel
theorem dX12_aYear_84 : decode cX12_aYear 84 = .ok (.iastore, 1) := by decide +kernel
theorem dX12_aYear_85 : decode cX12_aYear 85 = .ok (.aload_n 0, 1) := by decide +kernel
theorem dX12_aYear_86 : decode cX12_aYear 86 = .ok (.getfield 99, 3) := by decide +kernel
theorem dX12_aYear_89 : decode cX12_aYear 89 = .ok (.aload_n 0, 1) := by decide +kernel
theorem dX12_aYear_90 : decode cX12_aYear 90 = .ok (.getfield 320, 3) := by decide +kernel
theorem dX12_aYear_93 : decode cX12_aYear 93 = .ok (.aload_n 0, 1) := by decide +kernel
theorem dX12_aYear_94 : decode cX12_aYear 94 = .ok (.getfield 316, 3) := by decide +kernel
theorem dX12_aYear_97 : decode cX12_aYear 97 = .ok (.iastore, 1) := by decide +kernel
theorem dX12_aYear_98 : decode cX12_aYear 98 = .ok (.aload_n 0, 1) := by decide +kernel
theorem dX12_aYear_99 : decode cX12_aYear 99 = .ok (.dup, 1) := by decide +kernel
theorem dX12_aYear_100 : decode cX12_aYear 100 = .ok (.getfield 320, 3) := by decide +kernel
theorem dX12_aYear_103 : decode cX12_aYear 103 = .ok (.iconst 1, 1) := by decide +kernel
theorem dX12_aYear_104 : decode cX12_aYear 104 = .ok (.iadd, 1) := by decide +kernel
theorem dX12_aYear_105 : decode cX12_aYear 105 = .ok (.putfield 320, 3) := by decide +kernel
theorem dX12_aYear_108 : decode cX12_aYear 108 = .ok (.iinc 1 1, 3) := by decide +kernel
theorem dX12_aYear_111 : decode cX12_aYear 111 = .ok (.goto (-109), 3) := by decide +kernel
theorem dX12_aYear_114 : decode cX12_aYear 114 = .ok (.aload_n 0, 1) := by decide +kernel
theorem dX12_aYear_115 : decode cX12_aYear 115 = .ok (.dup, 1) := by decide +kernel
theorem dX12_aYear_116 : decode cX12_aYear 116 = .ok (.getfield 316, 3) := by decide +kernel
theorem dX12_aYear_119 : decode cX12_aYear 119 = .ok (.iconst 1, 1) := by decide +kernel
theorem dX12_aYear_120 : decode cX12_aYear 120 = .ok (.iadd, 1) := by decide +kernel
theorem dX12_aYear_121 : decode cX12_aYear 121 = .ok (.putfield 316, 3) := by decide +kernel
theorem dX12_aYear_124 : decode cX12_aYear 124 = .ok (.return_, 1) := by decide +kernel
theorem dX12_goOn_0 : decode cX12_goOn 0 = .ok (.iconst 0, 1) := by decide +kernel
theorem dX12_goOn_1 : decode cX12_goOn 1 = .ok (.istore_n 2, 1) := by decide +kernel
theorem dX12_goOn_2 : decode cX12_goOn 2 = .ok (.iload_n 2, 1) := by decide +kernel
theorem dX12_goOn_3 : decode cX12_goOn 3 = .ok (.iload_n 1, 1) := by decide +kernel
theorem dX12_goOn_4 : decode cX12_goOn 4 = .ok (.if_icmp .ge 13, 3) := by decide +kernel
theorem dX12_goOn_7 : decode cX12_goOn 7 = .ok (.aload_n 0, 1) := by decide +kernel
theorem dX12_goOn_8 : decode cX12_goOn 8 = .ok (.invokevirtual 376, 3) := by decide +kernel
theorem dX12_goOn_11 : decode cX12_goOn 11 = .ok (.iinc 2 1, 3) := by decide +kernel
theorem dX12_goOn_14 : decode cX12_goOn 14 = .ok (.goto (-12), 3) := by decide +kernel
theorem dX12_goOn_17 : decode cX12_goOn 17 = .ok (.return_, 1) := by decide +kernel
theorem dX12_rests_0 : decode cX12_rests 0 = .ok (.iconst 0, 1) := by decide +kernel
theorem dX12_rests_1 : decode cX12_rests 1 = .ok (.istore_n 1, 1) := by decide +kernel
theorem dX12_rests_2 : decode cX12_rests 2 = .ok (.iconst 0, 1) := by decide +kernel
theorem dX12_rests_3 : decode cX12_rests 3 = .ok (.istore_n 2, 1) := by decide +kernel
theorem dX12_rests_4 : decode cX12_rests 4 = .ok (.iload_n 2, 1) := by decide +kernel
theorem dX12_rests_5 : decode cX12_rests 5 = .ok (.aload_n 0, 1) := by decide +kernel
theorem dX12_rests_6 : decode cX12_rests 6 = .ok (.getfield 320, 3) := by decide +kernel
theorem dX12_rests_9 : decode cX12_rests 9 = .ok (.if_icmp .ge 28, 3) := by decide +kernel
theorem dX12_rests_12 : decode cX12_rests 12 = .ok (.iload_n 1, 1) := by decide +kernel
theorem dX12_rests_13 : decode cX12_rests 13 = .ok (.aload_n 0, 1) := by decide +kernel
theorem dX12_rests_14 : decode cX12_rests 14 = .ok (.getfield 93, 3) := by decide +kernel
theorem dX12_rests_17 : decode cX12_rests 17 = .ok (.iload_n 2, 1) := by decide +kernel
theorem dX12_rests_18 : decode cX12_rests 18 = .ok (.iaload, 1) := by decide +kernel
theorem dX12_rests_19 : decode cX12_rests 19 = .ok (.bipush 12, 2) := by decide +kernel
theorem dX12_rests_21 : decode cX12_rests 21 = .ok (.if_icmp .ne 7, 3) := by decide +kernel
theorem dX12_rests_24 : decode cX12_rests 24 = .ok (.iconst 1, 1) := by decide +kernel
theorem dX12_rests_25 : decode cX12_rests 25 = .ok (.goto 4, 3) := by decide +kernel
theorem dX12_rests_28 : decode cX12_rests 28 = .ok (.iconst 0, 1) := by decide +kernel
theorem dX12_rests_29 : decode cX12_rests 29 = .ok (.iadd, 1) := by decide +kernel
theorem dX12_rests_30 : decode cX12_rests 30 = .ok (.istore_n 1, 1) := by decide +kernel
theorem dX12_rests_31 : decode cX12_rests 31 = .ok (.iinc 2 1, 3) := by decide +kernel
theorem dX12_rests_34 : decode cX12_rests 34 = .ok (.goto (-30), 3) := by decide +kernel
theorem dX12_rests_37 : decode cX12_rests 37 = .ok (.iload_n 1, 1) := by decide +kernel
theorem dX12_rests_38 : decode cX12_rests 38 = .ok (.ireturn, 1) := by decide +kernel
theorem dX12_count_0 : decode cX12_count 0 = .ok (.aload_n 0, 1) := by decide +kernel
theorem dX12_count_1 : decode cX12_count 1 = .ok (.iconst 0, 1) := by decide +kernel
theorem dX12_count_2 : decode cX12_count 2 = .ok (.putfield 165, 3) := by decide +kernel
theorem dX12_count_5 : decode cX12_count 5 = .ok (.iload_n 1, 1) := by decide +kernel
theorem dX12_count_6 : decode cX12_count 6 = .ok (.tableswitch 157 0 15 #[78, 85, 90, 95, 100, 105, 112, 117, 122, 127, 132, 137, 142, 147, 147, 147], 78) := by decide +kernel
theorem dX12_count_84 : decode cX12_count 84 = .ok (.aload_n 0, 1) := by decide +kernel
theorem dX12_count_85 : decode cX12_count 85 = .ok (.getfield 40, 3) := by decide +kernel
theorem dX12_count_88 : decode cX12_count 88 = .ok (.iconst 0, 1) := by decide +kernel
theorem dX12_count_89 : decode cX12_count 89 = .ok (.iaload, 1) := by decide +kernel
theorem dX12_count_90 : decode cX12_count 90 = .ok (.ireturn, 1) := by decide +kernel
theorem dX12_count_91 : decode cX12_count 91 = .ok (.aload_n 0, 1) := by decide +kernel
theorem dX12_count_92 : decode cX12_count 92 = .ok (.getfield 332, 3) := by decide +kernel
theorem dX12_count_95 : decode cX12_count 95 = .ok (.ireturn, 1) := by decide +kernel
theorem dX12_count_96 : decode cX12_count 96 = .ok (.aload_n 0, 1) := by decide +kernel
theorem dX12_count_97 : decode cX12_count 97 = .ok (.getfield 318, 3) := by decide +kernel
theorem dX12_count_100 : decode cX12_count 100 = .ok (.ireturn, 1) := by decide +kernel
theorem dX12_count_101 : decode cX12_count 101 = .ok (.aload_n 0, 1) := by decide +kernel
theorem dX12_count_102 : decode cX12_count 102 = .ok (.getfield 316, 3) := by decide +kernel
theorem dX12_count_105 : decode cX12_count 105 = .ok (.ireturn, 1) := by decide +kernel
theorem dX12_count_106 : decode cX12_count 106 = .ok (.aload_n 0, 1) := by decide +kernel
theorem dX12_count_107 : decode cX12_count 107 = .ok (.getfield 320, 3) := by decide +kernel
theorem dX12_count_110 : decode cX12_count 110 = .ok (.ireturn, 1) := by decide +kernel
theorem dX12_count_111 : decode cX12_count 111 = .ok (.aload_n 0, 1) := by decide +kernel
theorem dX12_count_112 : decode cX12_count 112 = .ok (.getfield 40, 3) := by decide +kernel
theorem dX12_count_115 : decode cX12_count 115 = .ok (.iconst 2, 1) := by decide +kernel
theorem dX12_count_116 : decode cX12_count 116 = .ok (.iaload, 1) := by decide +kernel
theorem dX12_count_117 : decode cX12_count 117 = .ok (.ireturn, 1) := by decide +kernel
theorem dX12_count_118 : decode cX12_count 118 = .ok (.aload_n 0, 1) := by decide +kernel
theorem dX12_count_119 : decode cX12_count 119 = .ok (.invokevirtual 379, 3) := by decide +kernel
theorem dX12_count_122 : decode cX12_count 122 = .ok (.ireturn, 1) := by decide +kernel
theorem dX12_count_123 : decode cX12_count 123 = .ok (.aload_n 0, 1) := by decide +kernel
theorem dX12_count_124 : decode cX12_count 124 = .ok (.getfield 323, 3) := by decide +kernel
theorem dX12_count_127 : decode cX12_count 127 = .ok (.ireturn, 1) := by decide +kernel
theorem dX12_count_128 : decode cX12_count 128 = .ok (.aload_n 0, 1) := by decide +kernel
theorem dX12_count_129 : decode cX12_count 129 = .ok (.getfield 326, 3) := by decide +kernel
theorem dX12_count_132 : decode cX12_count 132 = .ok (.ireturn, 1) := by decide +kernel
theorem dX12_count_133 : decode cX12_count 133 = .ok (.aload_n 0, 1) := by decide +kernel
theorem dX12_count_134 : decode cX12_count 134 = .ok (.getfield 329, 3) := by decide +kernel
theorem dX12_count_137 : decode cX12_count 137 = .ok (.ireturn, 1) := by decide +kernel
theorem dX12_count_138 : decode cX12_count 138 = .ok (.aload_n 0, 1) := by decide +kernel
theorem dX12_count_139 : decode cX12_count 139 = .ok (.getfield 338, 3) := by decide +kernel
theorem dX12_count_142 : decode cX12_count 142 = .ok (.ireturn, 1) := by decide +kernel
theorem dX12_count_143 : decode cX12_count 143 = .ok (.aload_n 0, 1) := by decide +kernel
theorem dX12_count_144 : decode cX12_count 144 = .ok (.getfield 341, 3) := by decide +kernel
theorem dX12_count_147 : decode cX12_count 147 = .ok (.ireturn, 1) := by decide +kernel
theorem dX12_count_148 : decode cX12_count 148 = .ok (.aload_n 0, 1) := by decide +kernel
theorem dX12_count_149 : decode cX12_count 149 = .ok (.getfield 172, 3) := by decide +kernel
theorem dX12_count_152 : decode cX12_count 152 = .ok (.ireturn, 1) := by decide +kernel
theorem dX12_count_153 : decode cX12_count 153 = .ok (.aload_n 0, 1) := by decide +kernel
theorem dX12_count_154 : decode cX12_count 154 = .ok (.getfield 67, 3) := by decide +kernel
theorem dX12_count_157 : decode cX12_count 157 = .ok (.iload_n 1, 1) := by decide +kernel
theorem dX12_count_158 : decode cX12_count 158 = .ok (.bipush 13, 2) := by decide +kernel
theorem dX12_count_160 : decode cX12_count 160 = .ok (.isub, 1) := by decide +kernel
theorem dX12_count_161 : decode cX12_count 161 = .ok (.iaload, 1) := by decide +kernel
theorem dX12_count_162 : decode cX12_count 162 = .ok (.ireturn, 1) := by decide +kernel
theorem dX12_count_163 : decode cX12_count 163 = .ok (.aload_n 0, 1) := by decide +kernel
theorem dX12_count_164 : decode cX12_count 164 = .ok (.iconst 1, 1) := by decide +kernel
theorem dX12_count_165 : decode cX12_count 165 = .ok (.invokevirtual 303, 3) := by decide +kernel
theorem dX12_count_168 : decode cX12_count 168 = .ok (.ireturn, 1) := by decide +kernel
theorem dX12_person_0 : decode cX12_person 0 = .ok (.aload_n 0, 1) := by decide +kernel
theorem dX12_person_1 : decode cX12_person 1 = .ok (.iconst 0, 1) := by decide +kernel
theorem dX12_person_2 : decode cX12_person 2 = .ok (.putfield 165, 3) := by decide +kernel
theorem dX12_person_5 : decode cX12_person 5 = .ok (.aload_n 0, 1) := by decide +kernel
theorem dX12_person_6 : decode cX12_person 6 = .ok (.iload_n 1, 1) := by decide +kernel
theorem dX12_person_7 : decode cX12_person 7 = .ok (.invokevirtual 382, 3) := by decide +kernel
theorem dX12_person_10 : decode cX12_person 10 = .ok (.ifCond .ne 9, 3) := by decide +kernel
theorem dX12_person_13 : decode cX12_person 13 = .ok (.aload_n 0, 1) := by decide +kernel
theorem dX12_person_14 : decode cX12_person 14 = .ok (.iconst 1, 1) := by decide +kernel
theorem dX12_person_15 : decode cX12_person 15 = .ok (.invokevirtual 303, 3) := by decide +kernel
theorem dX12_person_18 : decode cX12_person 18 = .ok (.ireturn, 1) := by decide +kernel
theorem dX12_person_19 : decode cX12_person 19 = .ok (.iconst 0, 1) := by decide +kernel
theorem dX12_person_20 : decode cX12_person 20 = .ok (.istore_n 3, 1) := by decide +kernel
theorem dX12_person_21 : decode cX12_person 21 = .ok (.iload_n 2, 1) := by decide +kernel
theorem dX12_person_22 : decode cX12_person 22 = .ok (.tableswitch 132 0 6 #[42, 49, 56, 63, 70, 76, 82], 42) := by decide +kernel
theorem dX12_person_64 : decode cX12_person 64 = .ok (.aload_n 0, 1) := by decide +kernel
theorem dX12_person_65 : decode cX12_person 65 = .ok (.getfield 44, 3) := by decide +kernel
theorem dX12_person_68 : decode cX12_person 68 = .ok (.iload_n 1, 1) := by decide +kernel
theorem dX12_person_69 : decode cX12_person 69 = .ok (.iaload, 1) := by decide +kernel
theorem dX12_person_70 : decode cX12_person 70 = .ok (.ireturn, 1) := by decide +kernel
theorem dX12_person_71 : decode cX12_person 71 = .ok (.aload_n 0, 1) := by decide +kernel
theorem dX12_person_72 : decode cX12_person 72 = .ok (.getfield 80, 3) := by decide +kernel
theorem dX12_person_75 : decode cX12_person 75 = .ok (.iload_n 1, 1) := by decide +kernel
theorem dX12_person_76 : decode cX12_person 76 = .ok (.iaload, 1) := by decide +kernel
theorem dX12_person_77 : decode cX12_person 77 = .ok (.ireturn, 1) := by decide +kernel
theorem dX12_person_78 : decode cX12_person 78 = .ok (.aload_n 0, 1) := by decide +kernel
theorem dX12_person_79 : decode cX12_person 79 = .ok (.getfield 49, 3) := by decide +kernel
theorem dX12_person_82 : decode cX12_person 82 = .ok (.iload_n 1, 1) := by decide +kernel
theorem dX12_person_83 : decode cX12_person 83 = .ok (.iaload, 1) := by decide +kernel
theorem dX12_person_84 : decode cX12_person 84 = .ok (.ireturn, 1) := by decide +kernel
theorem dX12_person_85 : decode cX12_person 85 = .ok (.aload_n 0, 1) := by decide +kernel
theorem dX12_person_86 : decode cX12_person 86 = .ok (.getfield 82, 3) := by decide +kernel
theorem dX12_person_89 : decode cX12_person 89 = .ok (.iload_n 1, 1) := by decide +kernel
theorem dX12_person_90 : decode cX12_person 90 = .ok (.iaload, 1) := by decide +kernel
theorem dX12_person_91 : decode cX12_person 91 = .ok (.ireturn, 1) := by decide +kernel
theorem dX12_person_92 : decode cX12_person 92 = .ok (.aload_n 0, 1) := by decide +kernel
theorem dX12_person_93 : decode cX12_person 93 = .ok (.iload_n 1, 1) := by decide +kernel
theorem dX12_person_94 : decode cX12_person 94 = .ok (.invokevirtual 355, 3) := by decide +kernel
theorem dX12_person_97 : decode cX12_person 97 = .ok (.ireturn, 1) := by decide +kernel
theorem dX12_person_98 : decode cX12_person 98 = .ok (.aload_n 0, 1) := by decide +kernel
theorem dX12_person_99 : decode cX12_person 99 = .ok (.iload_n 1, 1) := by decide +kernel
theorem dX12_person_100 : decode cX12_person 100 = .ok (.invokevirtual 335, 3) := by decide +kernel
theorem dX12_person_103 : decode cX12_person 103 = .ok (.ireturn, 1) := by decide +kernel
theorem dX12_person_104 : decode cX12_person 104 = .ok (.iconst 0, 1) := by decide +kernel
theorem dX12_person_105 : decode cX12_person 105 = .ok (.istore 4, 2) := by decide +kernel
theorem dX12_person_107 : decode cX12_person 107 = .ok (.iload 4, 2) := by decide +kernel
theorem dX12_person_109 : decode cX12_person 109 = .ok (.aload_n 0, 1) := by decide +kernel
theorem dX12_person_110 : decode cX12_person 110 = .ok (.getfield 332, 3) := by decide +kernel
theorem dX12_person_113 : decode cX12_person 113 = .ok (.if_icmp .ge 39, 3) := by decide +kernel
theorem dX12_person_116 : decode cX12_person 116 = .ok (.iload_n 3, 1) := by decide +kernel
theorem dX12_person_117 : decode cX12_person 117 = .ok (.aload_n 0, 1) := by decide +kernel
theorem dX12_person_118 : decode cX12_person 118 = .ok (.getfield 84, 3) := by decide +kernel
theorem dX12_person_121 : decode cX12_person 121 = .ok (.iload 4, 2) := by decide +kernel
theorem dX12_person_123 : decode cX12_person 123 = .ok (.iaload, 1) := by decide +kernel
theorem dX12_person_124 : decode cX12_person 124 = .ok (.iload_n 1, 1) := by decide +kernel
theorem dX12_person_125 : decode cX12_person 125 = .ok (.if_icmp .eq 14, 3) := by decide +kernel
theorem dX12_person_128 : decode cX12_person 128 = .ok (.aload_n 0, 1) := by decide +kernel
theorem dX12_person_129 : decode cX12_person 129 = .ok (.getfield 87, 3) := by decide +kernel
theorem dX12_person_132 : decode cX12_person 132 = .ok (.iload 4, 2) := by decide +kernel
theorem dX12_person_134 : decode cX12_person 134 = .ok (.iaload, 1) := by decide +kernel
theorem dX12_person_135 : decode cX12_person 135 = .ok (.iload_n 1, 1) := by decide +kernel
theorem dX12_person_136 : decode cX12_person 136 = .ok (.if_icmp .ne 7, 3) := by decide +kernel
theorem dX12_person_139 : decode cX12_person 139 = .ok (.iconst 1, 1) := by decide +kernel
theorem dX12_person_140 : decode cX12_person 140 = .ok (.goto 4, 3) := by decide +kernel
theorem dX12_person_143 : decode cX12_person 143 = .ok (.iconst 0, 1) := by decide +kernel
theorem dX12_person_144 : decode cX12_person 144 = .ok (.iadd, 1) := by decide +kernel
theorem dX12_person_145 : decode cX12_person 145 = .ok (.istore_n 3, 1) := by decide +kernel
theorem dX12_person_146 : decode cX12_person 146 = .ok (.iinc 4 1, 3) := by decide +kernel
theorem dX12_person_149 : decode cX12_person 149 = .ok (.goto (-42), 3) := by decide +kernel
theorem dX12_person_152 : decode cX12_person 152 = .ok (.iload_n 3, 1) := by decide +kernel
theorem dX12_person_153 : decode cX12_person 153 = .ok (.ireturn, 1) := by decide +kernel
theorem dX12_person_154 : decode cX12_person 154 = .ok (.aload_n 0, 1) := by decide +kernel
theorem dX12_person_155 : decode cX12_person 155 = .ok (.iconst 1, 1) := by decide +kernel
theorem dX12_person_156 : decode cX12_person 156 = .ok (.invokevirtual 303, 3) := by decide +kernel
theorem dX12_person_159 : decode cX12_person 159 = .ok (.ireturn, 1) := by decide +kernel
theorem dX12_feud_0 : decode cX12_feud 0 = .ok (.aload_n 0, 1) := by decide +kernel
theorem dX12_feud_1 : decode cX12_feud 1 = .ok (.iconst 0, 1) := by decide +kernel
theorem dX12_feud_2 : decode cX12_feud 2 = .ok (.putfield 165, 3) := by decide +kernel
theorem dX12_feud_5 : decode cX12_feud 5 = .ok (.iload_n 1, 1) := by decide +kernel
theorem dX12_feud_6 : decode cX12_feud 6 = .ok (.i2l, 1) := by decide +kernel
theorem dX12_feud_7 : decode cX12_feud 7 = .ok (.lconst 0, 1) := by decide +kernel
theorem dX12_feud_8 : decode cX12_feud 8 = .ok (.aload_n 0, 1) := by decide +kernel
theorem dX12_feud_9 : decode cX12_feud 9 = .ok (.getfield 332, 3) := by decide +kernel
theorem dX12_feud_12 : decode cX12_feud 12 = .ok (.iconst 1, 1) := by decide +kernel
theorem dX12_feud_13 : decode cX12_feud 13 = .ok (.isub, 1) := by decide +kernel
theorem dX12_feud_14 : decode cX12_feud 14 = .ok (.i2l, 1) := by decide +kernel
theorem dX12_feud_15 : decode cX12_feud 15 = .ok (.invokestatic 168, 3) := by decide +kernel
theorem dX12_feud_18 : decode cX12_feud 18 = .ok (.ifCond .eq 12, 3) := by decide +kernel
theorem dX12_feud_21 : decode cX12_feud 21 = .ok (.iload_n 2, 1) := by decide +kernel
theorem dX12_feud_22 : decode cX12_feud 22 = .ok (.ifCond .lt 8, 3) := by decide +kernel
theorem dX12_feud_25 : decode cX12_feud 25 = .ok (.iload_n 2, 1) := by decide +kernel
theorem dX12_feud_26 : decode cX12_feud 26 = .ok (.iconst 1, 1) := by decide +kernel
theorem dX12_feud_27 : decode cX12_feud 27 = .ok (.if_icmp .le 9, 3) := by decide +kernel
theorem dX12_feud_30 : decode cX12_feud 30 = .ok (.aload_n 0, 1) := by decide +kernel
theorem dX12_feud_31 : decode cX12_feud 31 = .ok (.iconst 1, 1) := by decide +kernel
theorem dX12_feud_32 : decode cX12_feud 32 = .ok (.invokevirtual 303, 3) := by decide +kernel
theorem dX12_feud_35 : decode cX12_feud 35 = .ok (.ireturn, 1) := by decide +kernel
theorem dX12_feud_36 : decode cX12_feud 36 = .ok (.iload_n 2, 1) := by decide +kernel
theorem dX12_feud_37 : decode cX12_feud 37 = .ok (.ifCond .ne 12, 3) := by decide +kernel
theorem dX12_feud_40 : decode cX12_feud 40 = .ok (.aload_n 0, 1) := by decide +kernel
theorem dX12_feud_41 : decode cX12_feud 41 = .ok (.getfield 84, 3) := by decide +kernel
theorem dX12_feud_44 : decode cX12_feud 44 = .ok (.iload_n 1, 1) := by decide +kernel
theorem dX12_feud_45 : decode cX12_feud 45 = .ok (.iaload, 1) := by decide +kernel
theorem dX12_feud_46 : decode cX12_feud 46 = .ok (.goto 9, 3) := by decide +kernel
theorem dX12_feud_49 : decode cX12_feud 49 = .ok (.aload_n 0, 1) := by decide +kernel
theorem dX12_feud_50 : decode cX12_feud 50 = .ok (.getfield 87, 3) := by decide +kernel
theorem dX12_feud_53 : decode cX12_feud 53 = .ok (.iload_n 1, 1) := by decide +kernel
theorem dX12_feud_54 : decode cX12_feud 54 = .ok (.iaload, 1) := by decide +kernel
theorem dX12_feud_55 : decode cX12_feud 55 = .ok (.ireturn, 1) := by decide +kernel
theorem dX12_sign_0 : decode cX12_sign 0 = .ok (.aload_n 0, 1) := by decide +kernel
theorem dX12_sign_1 : decode cX12_sign 1 = .ok (.iconst 0, 1) := by decide +kernel
theorem dX12_sign_2 : decode cX12_sign 2 = .ok (.putfield 165, 3) := by decide +kernel
theorem dX12_sign_5 : decode cX12_sign 5 = .ok (.iload_n 1, 1) := by decide +kernel
theorem dX12_sign_6 : decode cX12_sign 6 = .ok (.i2l, 1) := by decide +kernel
theorem dX12_sign_7 : decode cX12_sign 7 = .ok (.lconst 0, 1) := by decide +kernel
theorem dX12_sign_8 : decode cX12_sign 8 = .ok (.aload_n 0, 1) := by decide +kernel
theorem dX12_sign_9 : decode cX12_sign 9 = .ok (.getfield 320, 3) := by decide +kernel
theorem dX12_sign_12 : decode cX12_sign 12 = .ok (.iconst 1, 1) := by decide +kernel
theorem dX12_sign_13 : decode cX12_sign 13 = .ok (.isub, 1) := by decide +kernel
theorem dX12_sign_14 : decode cX12_sign 14 = .ok (.i2l, 1) := by decide +kernel
theorem dX12_sign_15 : decode cX12_sign 15 = .ok (.invokestatic 168, 3) := by decide +kernel
theorem dX12_sign_18 : decode cX12_sign 18 = .ok (.ifCond .eq 15, 3) := by decide +kernel
theorem dX12_sign_21 : decode cX12_sign 21 = .ok (.iload_n 2, 1) := by decide +kernel
theorem dX12_sign_22 : decode cX12_sign 22 = .ok (.i2l, 1) := by decide +kernel
theorem dX12_sign_23 : decode cX12_sign 23 = .ok (.lconst 0, 1) := by decide +kernel
theorem dX12_sign_24 : decode cX12_sign 24 = .ok (.ldc2_w 385, 3) := by decide +kernel
theorem dX12_sign_27 : decode cX12_sign 27 = .ok (.invokestatic 168, 3) := by decide +kernel
theorem dX12_sign_30 : decode cX12_sign 30 = .ok (.ifCond .ne 9, 3) := by decide +kernel
theorem dX12_sign_33 : decode cX12_sign 33 = .ok (.aload_n 0, 1) := by decide +kernel
theorem dX12_sign_34 : decode cX12_sign 34 = .ok (.iconst 1, 1) := by decide +kernel
theorem dX12_sign_35 : decode cX12_sign 35 = .ok (.invokevirtual 303, 3) := by decide +kernel
theorem dX12_sign_38 : decode cX12_sign 38 = .ok (.ireturn, 1) := by decide +kernel
theorem dX12_sign_39 : decode cX12_sign 39 = .ok (.iload_n 2, 1) := by decide +kernel
theorem dX12_sign_40 : decode cX12_sign 40 = .ok (.ifCond .ne 12, 3) := by decide +kernel
theorem dX12_sign_43 : decode cX12_sign 43 = .ok (.aload_n 0, 1) := by decide +kernel
theorem dX12_sign_44 : decode cX12_sign 44 = .ok (.getfield 93, 3) := by decide +kernel
theorem dX12_sign_47 : decode cX12_sign 47 = .ok (.iload_n 1, 1) := by decide +kernel
theorem dX12_sign_48 : decode cX12_sign 48 = .ok (.iaload, 1) := by decide +kernel
theorem dX12_sign_49 : decode cX12_sign 49 = .ok (.goto 23, 3) := by decide +kernel
theorem dX12_sign_52 : decode cX12_sign 52 = .ok (.iload_n 2, 1) := by decide +kernel
theorem dX12_sign_53 : decode cX12_sign 53 = .ok (.iconst 1, 1) := by decide +kernel
theorem dX12_sign_54 : decode cX12_sign 54 = .ok (.if_icmp .ne 12, 3) := by decide +kernel
theorem dX12_sign_57 : decode cX12_sign 57 = .ok (.aload_n 0, 1) := by decide +kernel
theorem dX12_sign_58 : decode cX12_sign 58 = .ok (.getfield 96, 3) := by decide +kernel
theorem dX12_sign_61 : decode cX12_sign 61 = .ok (.iload_n 1, 1) := by decide +kernel
theorem dX12_sign_62 : decode cX12_sign 62 = .ok (.iaload, 1) := by decide +kernel
theorem dX12_sign_63 : decode cX12_sign 63 = .ok (.goto 9, 3) := by decide +kernel
theorem dX12_sign_66 : decode cX12_sign 66 = .ok (.aload_n 0, 1) := by decide +kernel
theorem dX12_sign_67 : decode cX12_sign 67 = .ok (.getfield 99, 3) := by decide +kernel
theorem dX12_sign_70 : decode cX12_sign 70 = .ok (.iload_n 1, 1) := by decide +kernel
theorem dX12_sign_71 : decode cX12_sign 71 = .ok (.iaload, 1) := by decide +kernel
theorem dX12_sign_72 : decode cX12_sign 72 = .ok (.ireturn, 1) := by decide +kernel
theorem dX12_other_0 : decode cX12_other 0 = .ok (.aload_n 0, 1) := by decide +kernel
theorem dX12_other_1 : decode cX12_other 1 = .ok (.iconst 0, 1) := by decide +kernel
theorem dX12_other_2 : decode cX12_other 2 = .ok (.putfield 165, 3) := by decide +kernel
theorem dX12_other_5 : decode cX12_other 5 = .ok (.iload_n 1, 1) := by decide +kernel
theorem dX12_other_6 : decode cX12_other 6 = .ok (.i2l, 1) := by decide +kernel
theorem dX12_other_7 : decode cX12_other 7 = .ok (.lconst 0, 1) := by decide +kernel
theorem dX12_other_8 : decode cX12_other 8 = .ok (.aload_n 0, 1) := by decide +kernel
theorem dX12_other_9 : decode cX12_other 9 = .ok (.getfield 40, 3) := by decide +kernel
theorem dX12_other_12 : decode cX12_other 12 = .ok (.iconst 2, 1) := by decide +kernel
theorem dX12_other_13 : decode cX12_other 13 = .ok (.iaload, 1) := by decide +kernel
theorem dX12_other_14 : decode cX12_other 14 = .ok (.iconst 1, 1) := by decide +kernel
theorem dX12_other_15 : decode cX12_other 15 = .ok (.isub, 1) := by decide +kernel
theorem dX12_other_16 : decode cX12_other 16 = .ok (.i2l, 1) := by decide +kernel
theorem dX12_other_17 : decode cX12_other 17 = .ok (.invokestatic 168, 3) := by decide +kernel
theorem dX12_other_20 : decode cX12_other 20 = .ok (.ifCond .eq 12, 3) := by decide +kernel
theorem dX12_other_23 : decode cX12_other 23 = .ok (.aload_n 0, 1) := by decide +kernel
theorem dX12_other_24 : decode cX12_other 24 = .ok (.getfield 61, 3) := by decide +kernel
theorem dX12_other_27 : decode cX12_other 27 = .ok (.iload_n 1, 1) := by decide +kernel
theorem dX12_other_28 : decode cX12_other 28 = .ok (.iaload, 1) := by decide +kernel
theorem dX12_other_29 : decode cX12_other 29 = .ok (.goto 8, 3) := by decide +kernel
theorem dX12_other_32 : decode cX12_other 32 = .ok (.aload_n 0, 1) := by decide +kernel
theorem dX12_other_33 : decode cX12_other 33 = .ok (.iconst 1, 1) := by decide +kernel
theorem dX12_other_34 : decode cX12_other 34 = .ok (.invokevirtual 303, 3) := by decide +kernel
theorem dX12_other_37 : decode cX12_other 37 = .ok (.ireturn, 1) := by decide +kernel
theorem dX12_refuse_0 : decode cX12_refuse 0 = .ok (.aload_n 0, 1) := by decide +kernel
theorem dX12_refuse_1 : decode cX12_refuse 1 = .ok (.getfield 67, 3) := by decide +kernel
theorem dX12_refuse_4 : decode cX12_refuse 4 = .ok (.iload_n 1, 1) := by decide +kernel
theorem dX12_refuse_5 : decode cX12_refuse 5 = .ok (.dup2, 1) := by decide +kernel
theorem dX12_refuse_6 : decode cX12_refuse 6 = .ok (.iaload, 1) := by decide +kernel
theorem dX12_refuse_7 : decode cX12_refuse 7 = .ok (.iconst 1, 1) := by decide +kernel
theorem dX12_refuse_8 : decode cX12_refuse 8 = .ok (.iadd, 1) := by decide +kernel
theorem dX12_refuse_9 : decode cX12_refuse 9 = .ok (.iastore, 1) := by decide +kernel
theorem dX12_refuse_10 : decode cX12_refuse 10 = .ok (.iconst (-1), 1) := by decide +kernel
theorem dX12_refuse_11 : decode cX12_refuse 11 = .ok (.ireturn, 1) := by decide +kernel
theorem dX12_refuses_0 : decode cX12_refuses 0 = .ok (.aload_n 0, 1) := by decide +kernel
theorem dX12_refuses_1 : decode cX12_refuses 1 = .ok (.getfield 67, 3) := by decide +kernel
theorem dX12_refuses_4 : decode cX12_refuses 4 = .ok (.iconst 1, 1) := by decide +kernel
theorem dX12_refuses_5 : decode cX12_refuses 5 = .ok (.dup2, 1) := by decide +kernel
theorem dX12_refuses_6 : decode cX12_refuses 6 = .ok (.iaload, 1) := by decide +kernel
theorem dX12_refuses_7 : decode cX12_refuses 7 = .ok (.iconst 1, 1) := by decide +kernel
theorem dX12_refuses_8 : decode cX12_refuses 8 = .ok (.iadd, 1) := by decide +kernel
theorem dX12_refuses_9 : decode cX12_refuses 9 = .ok (.iastore, 1) := by decide +kernel
theorem dX12_refuses_10 : decode cX12_refuses 10 = .ok (.iconst 0, 1) := by decide +kernel
theorem dX12_refuses_11 : decode cX12_refuses 11 = .ok (.ireturn, 1) := by decide +kernel
theorem dX12_keep_0 : decode cX12_keep 0 = .ok (.aload_n 0, 1) := by decide +kernel
theorem dX12_keep_1 : decode cX12_keep 1 = .ok (.getfield 338, 3) := by decide +kernel
theorem dX12_keep_4 : decode cX12_keep 4 = .ok (.bipush 40, 2) := by decide +kernel
theorem dX12_keep_6 : decode cX12_keep 6 = .ok (.if_icmp .ne 46, 3) := by decide +kernel
theorem dX12_keep_9 : decode cX12_keep 9 = .ok (.bipush 35, 2) := by decide +kernel
theorem dX12_keep_11 : decode cX12_keep 11 = .ok (.istore_n 1, 1) := by decide +kernel
theorem dX12_keep_12 : decode cX12_keep 12 = .ok (.iload_n 1, 1) := by decide +kernel
theorem dX12_keep_13 : decode cX12_keep 13 = .ok (.aload_n 0, 1) := by decide +kernel
theorem dX12_keep_14 : decode cX12_keep 14 = .ok (.getfield 90, 3) := by decide +kernel
theorem dX12_keep_17 : decode cX12_keep 17 = .ok (.arraylength, 1) := by decide +kernel
theorem dX12_keep_18 : decode cX12_keep 18 = .ok (.if_icmp .ge 24, 3) := by decide +kernel
theorem dX12_keep_21 : decode cX12_keep 21 = .ok (.aload_n 0, 1) := by decide +kernel
theorem dX12_keep_22 : decode cX12_keep 22 = .ok (.getfield 90, 3) := by decide +kernel
theorem dX12_keep_25 : decode cX12_keep 25 = .ok (.iload_n 1, 1) := by decide +kernel
theorem dX12_keep_26 : decode cX12_keep 26 = .ok (.bipush 35, 2) := by decide +kernel
theorem dX12_keep_28 : decode cX12_keep 28 = .ok (.isub, 1) := by decide +kernel
theorem dX12_keep_29 : decode cX12_keep 29 = .ok (.aload_n 0, 1) := by decide +kernel
theorem dX12_keep_30 : decode cX12_keep 30 = .ok (.getfield 90, 3) := by decide +kernel
theorem dX12_keep_33 : decode cX12_keep 33 = .ok (.iload_n 1, 1) := by decide +kernel
theorem dX12_keep_34 : decode cX12_keep 34 = .ok (.iaload, 1) := by decide +kernel
theorem dX12_keep_35 : decode cX12_keep 35 = .ok (.iastore, 1) := by decide +kernel
theorem dX12_keep_36 : decode cX12_keep 36 = .ok (.iinc 1 1, 3) := by decide +kernel
theorem dX12_keep_39 : decode cX12_keep 39 = .ok (.goto (-27), 3) := by decide +kernel
theorem dX12_keep_42 : decode cX12_keep 42 = .ok (.aload_n 0, 1) := by decide +kernel
theorem dX12_keep_43 : decode cX12_keep 43 = .ok (.dup, 1) := by decide +kernel
theorem dX12_keep_44 : decode cX12_keep 44 = .ok (.getfield 338, 3) := by decide +kernel
theorem dX12_keep_47 : decode cX12_keep 47 = .ok (.iconst 1, 1) := by decide +kernel
theorem dX12_keep_48 : decode cX12_keep 48 = .ok (.isub, 1) := by decide +kernel
theorem dX12_keep_49 : decode cX12_keep 49 = .ok (.putfield 338, 3) := by decide +kernel
theorem dX12_keep_52 : decode cX12_keep 52 = .ok (.aload_n 0, 1) := by decide +kernel
theorem dX12_keep_53 : decode cX12_keep 53 = .ok (.aload_n 0, 1) := by decide +kernel
theorem dX12_keep_54 : decode cX12_keep 54 = .ok (.getfield 90, 3) := by decide +kernel
theorem dX12_keep_57 : decode cX12_keep 57 = .ok (.bipush 35, 2) := by decide +kernel
theorem dX12_keep_59 : decode cX12_keep 59 = .ok (.aload_n 0, 1) := by decide +kernel
theorem dX12_keep_60 : decode cX12_keep 60 = .ok (.getfield 338, 3) := by decide +kernel
theorem dX12_keep_63 : decode cX12_keep 63 = .ok (.imul, 1) := by decide +kernel
theorem dX12_keep_64 : decode cX12_keep 64 = .ok (.invokevirtual 387, 3) := by decide +kernel
theorem dX12_keep_67 : decode cX12_keep 67 = .ok (.aload_n 0, 1) := by decide +kernel
theorem dX12_keep_68 : decode cX12_keep 68 = .ok (.dup, 1) := by decide +kernel
theorem dX12_keep_69 : decode cX12_keep 69 = .ok (.getfield 338, 3) := by decide +kernel
theorem dX12_keep_72 : decode cX12_keep 72 = .ok (.iconst 1, 1) := by decide +kernel
theorem dX12_keep_73 : decode cX12_keep 73 = .ok (.iadd, 1) := by decide +kernel
theorem dX12_keep_74 : decode cX12_keep 74 = .ok (.putfield 338, 3) := by decide +kernel
theorem dX12_keep_77 : decode cX12_keep 77 = .ok (.return_, 1) := by decide +kernel
theorem dX12_years_0 : decode cX12_years 0 = .ok (.aload_n 0, 1) := by decide +kernel
theorem dX12_years_1 : decode cX12_years 1 = .ok (.iconst 0, 1) := by decide +kernel
theorem dX12_years_2 : decode cX12_years 2 = .ok (.putfield 165, 3) := by decide +kernel
theorem dX12_years_5 : decode cX12_years 5 = .ok (.iload_n 1, 1) := by decide +kernel
theorem dX12_years_6 : decode cX12_years 6 = .ok (.i2l, 1) := by decide +kernel
theorem dX12_years_7 : decode cX12_years 7 = .ok (.lconst 1, 1) := by decide +kernel
theorem dX12_years_8 : decode cX12_years 8 = .ok (.ldc2_w 391, 3) := by decide +kernel
theorem dX12_years_11 : decode cX12_years 11 = .ok (.invokestatic 168, 3) := by decide +kernel
theorem dX12_years_14 : decode cX12_years 14 = .ok (.ifCond .eq 15, 3) := by decide +kernel
theorem dX12_years_17 : decode cX12_years 17 = .ok (.aload_n 0, 1) := by decide +kernel
theorem dX12_years_18 : decode cX12_years 18 = .ok (.getfield 316, 3) := by decide +kernel
theorem dX12_years_21 : decode cX12_years 21 = .ok (.iload_n 1, 1) := by decide +kernel
theorem dX12_years_22 : decode cX12_years 22 = .ok (.iadd, 1) := by decide +kernel
theorem dX12_years_23 : decode cX12_years 23 = .ok (.sipush 999, 3) := by decide +kernel
theorem dX12_years_26 : decode cX12_years 26 = .ok (.if_icmp .le 9, 3) := by decide +kernel
theorem dX12_years_29 : decode cX12_years 29 = .ok (.aload_n 0, 1) := by decide +kernel
theorem dX12_years_30 : decode cX12_years 30 = .ok (.iconst 1, 1) := by decide +kernel
theorem dX12_years_31 : decode cX12_years 31 = .ok (.invokevirtual 393, 3) := by decide +kernel
theorem dX12_years_34 : decode cX12_years 34 = .ok (.ireturn, 1) := by decide +kernel
theorem dX12_years_35 : decode cX12_years 35 = .ok (.aload_n 0, 1) := by decide +kernel
theorem dX12_years_36 : decode cX12_years 36 = .ok (.invokevirtual 396, 3) := by decide +kernel
theorem dX12_years_39 : decode cX12_years 39 = .ok (.aload_n 0, 1) := by decide +kernel
theorem dX12_years_40 : decode cX12_years 40 = .ok (.iload_n 1, 1) := by decide +kernel
theorem dX12_years_41 : decode cX12_years 41 = .ok (.invokevirtual 399, 3) := by decide +kernel
theorem dX12_years_44 : decode cX12_years 44 = .ok (.aload_n 0, 1) := by decide +kernel
theorem dX12_years_45 : decode cX12_years 45 = .ok (.getfield 316, 3) := by decide +kernel
theorem dX12_years_48 : decode cX12_years 48 = .ok (.ireturn, 1) := by decide +kernel
theorem dX12_away_0 : decode cX12_away 0 = .ok (.aload_n 0, 1) := by decide +kernel
theorem dX12_away_1 : decode cX12_away 1 = .ok (.iconst 0, 1) := by decide +kernel
theorem dX12_away_2 : decode cX12_away 2 = .ok (.putfield 165, 3) := by decide +kernel
theorem dX12_away_5 : decode cX12_away 5 = .ok (.aload_n 0, 1) := by decide +kernel
theorem dX12_away_6 : decode cX12_away 6 = .ok (.iload_n 1, 1) := by decide +kernel
theorem dX12_away_7 : decode cX12_away 7 = .ok (.invokevirtual 382, 3) := by decide +kernel
theorem dX12_away_10 : decode cX12_away 10 = .ok (.ifCond .ne 9, 3) := by decide +kernel
theorem dX12_away_13 : decode cX12_away 13 = .ok (.aload_n 0, 1) := by decide +kernel
theorem dX12_away_14 : decode cX12_away 14 = .ok (.iconst 1, 1) := by decide +kernel
theorem dX12_away_15 : decode cX12_away 15 = .ok (.invokevirtual 402, 3) := by decide +kernel
theorem dX12_away_18 : decode cX12_away 18 = .ok (.ireturn, 1) := by decide +kernel
theorem dX12_away_19 : decode cX12_away 19 = .ok (.aload_n 0, 1) := by decide +kernel
theorem dX12_away_20 : decode cX12_away 20 = .ok (.getfield 323, 3) := by decide +kernel
theorem dX12_away_23 : decode cX12_away 23 = .ok (.iload_n 1, 1) := by decide +kernel
theorem dX12_away_24 : decode cX12_away 24 = .ok (.invokestatic 370, 3) := by decide +kernel
theorem dX12_away_27 : decode cX12_away 27 = .ok (.iload_n 2, 1) := by decide +kernel
theorem dX12_away_28 : decode cX12_away 28 = .ok (.if_icmp .eq 14, 3) := by decide +kernel
theorem dX12_away_31 : decode cX12_away 31 = .ok (.aload_n 0, 1) := by decide +kernel
theorem dX12_away_32 : decode cX12_away 32 = .ok (.getfield 326, 3) := by decide +kernel
theorem dX12_away_35 : decode cX12_away 35 = .ok (.iload_n 1, 1) := by decide +kernel
theorem dX12_away_36 : decode cX12_away 36 = .ok (.invokestatic 370, 3) := by decide +kernel
theorem dX12_away_39 : decode cX12_away 39 = .ok (.ifCond .eq 8, 3) := by decide +kernel
theorem dX12_away_42 : decode cX12_away 42 = .ok (.aload_n 0, 1) := by decide +kernel
theorem dX12_away_43 : decode cX12_away 43 = .ok (.invokevirtual 405, 3) := by decide +kernel
theorem dX12_away_46 : decode cX12_away 46 = .ok (.ireturn, 1) := by decide +kernel
theorem dX12_away_47 : decode cX12_away 47 = .ok (.aload_n 0, 1) := by decide +kernel
theorem dX12_away_48 : decode cX12_away 48 = .ok (.invokevirtual 396, 3) := by decide +kernel
theorem dX12_away_51 : decode cX12_away 51 = .ok (.aload_n 0, 1) := by decide +kernel
theorem dX12_away_52 : decode cX12_away 52 = .ok (.dup, 1) := by decide +kernel
theorem dX12_away_53 : decode cX12_away 53 = .ok (.getfield 323, 3) := by decide +kernel
theorem dX12_away_56 : decode cX12_away 56 = .ok (.iconst 1, 1) := by decide +kernel
theorem dX12_away_57 : decode cX12_away 57 = .ok (.iload_n 1, 1) := by decide +kernel
theorem dX12_away_58 : decode cX12_away 58 = .ok (.ishl, 1) := by decide +kernel
theorem dX12_away_59 : decode cX12_away 59 = .ok (.ixor, 1) := by decide +kernel
theorem dX12_away_60 : decode cX12_away 60 = .ok (.putfield 323, 3) := by decide +kernel
theorem dX12_away_63 : decode cX12_away 63 = .ok (.iconst 1, 1) := by decide +kernel
theorem dX12_away_64 : decode cX12_away 64 = .ok (.ireturn, 1) := by decide +kernel
theorem dX12_dies_0 : decode cX12_dies 0 = .ok (.aload_n 0, 1) := by decide +kernel
theorem dX12_dies_1 : decode cX12_dies 1 = .ok (.iconst 0, 1) := by decide +kernel
theorem dX12_dies_2 : decode cX12_dies 2 = .ok (.putfield 165, 3) := by decide +kernel
theorem dX12_dies_5 : decode cX12_dies 5 = .ok (.aload_n 0, 1) := by decide +kernel
theorem dX12_dies_6 : decode cX12_dies 6 = .ok (.iload_n 1, 1) := by decide +kernel
theorem dX12_dies_7 : decode cX12_dies 7 = .ok (.invokevirtual 382, 3) := by decide +kernel
theorem dX12_dies_10 : decode cX12_dies 10 = .ok (.ifCond .ne 9, 3) := by decide +kernel
theorem dX12_dies_13 : decode cX12_dies 13 = .ok (.aload_n 0, 1) := by decide +kernel
theorem dX12_dies_14 : decode cX12_dies 14 = .ok (.iconst 1, 1) := by decide +kernel
theorem dX12_dies_15 : decode cX12_dies 15 = .ok (.invokevirtual 402, 3) := by decide +kernel
theorem dX12_dies_18 : decode cX12_dies 18 = .ok (.ireturn, 1) := by decide +kernel
theorem dX12_dies_19 : decode cX12_dies 19 = .ok (.aload_n 0, 1) := by decide +kernel
theorem dX12_dies_20 : decode cX12_dies 20 = .ok (.getfield 326, 3) := by decide +kernel
theorem dX12_dies_23 : decode cX12_dies 23 = .ok (.iload_n 1, 1) := by decide +kernel
theorem dX12_dies_24 : decode cX12_dies 24 = .ok (.invokestatic 370, 3) := by decide +kernel
theorem dX12_dies_27 : decode cX12_dies 27 = .ok (.ifCond .eq 8, 3) := by decide +kernel
theorem dX12_dies_30 : decode cX12_dies 30 = .ok (.aload_n 0, 1) := by decide +kernel
theorem dX12_dies_31 : decode cX12_dies 31 = .ok (.invokevirtual 405, 3) := by decide +kernel
theorem dX12_dies_34 : decode cX12_dies 34 = .ok (.ireturn, 1) := by decide +kernel
theorem dX12_dies_35 : decode cX12_dies 35 = .ok (.aload_n 0, 1) := by decide +kernel
theorem dX12_dies_36 : decode cX12_dies 36 = .ok (.invokevirtual 396, 3) := by decide +kernel
theorem dX12_dies_39 : decode cX12_dies 39 = .ok (.aload_n 0, 1) := by decide +kernel
theorem dX12_dies_40 : decode cX12_dies 40 = .ok (.dup, 1) := by decide +kernel
theorem dX12_dies_41 : decode cX12_dies 41 = .ok (.getfield 326, 3) := by decide +kernel
theorem dX12_dies_44 : decode cX12_dies 44 = .ok (.iconst 1, 1) := by decide +kernel
theorem dX12_dies_45 : decode cX12_dies 45 = .ok (.iload_n 1, 1) := by decide +kernel
theorem dX12_dies_46 : decode cX12_dies 46 = .ok (.ishl, 1) := by decide +kernel
theorem dX12_dies_47 : decode cX12_dies 47 = .ok (.ior, 1) := by decide +kernel
theorem dX12_dies_48 : decode cX12_dies 48 = .ok (.putfield 326, 3) := by decide +kernel
theorem dX12_dies_51 : decode cX12_dies 51 = .ok (.iconst 1, 1) := by decide +kernel
theorem dX12_dies_52 : decode cX12_dies 52 = .ok (.ireturn, 1) := by decide +kernel
theorem dX12_canMarry_0 : decode cX12_canMarry 0 = .ok (.iload_n 1, 1) := by decide +kernel
theorem dX12_canMarry_1 : decode cX12_canMarry 1 = .ok (.iload_n 2, 1) := by decide +kernel
theorem dX12_canMarry_2 : decode cX12_canMarry 2 = .ok (.if_icmp .eq 64, 3) := by decide +kernel
theorem dX12_canMarry_5 : decode cX12_canMarry 5 = .ok (.aload_n 0, 1) := by decide +kernel
theorem dX12_canMarry_6 : decode cX12_canMarry 6 = .ok (.getfield 323, 3) := by decide +kernel
theorem dX12_canMarry_9 : decode cX12_canMarry 9 = .ok (.aload_n 0, 1) := by decide +kernel
theorem dX12_canMarry_10 : decode cX12_canMarry 10 = .ok (.getfield 326, 3) := by decide +kernel
theorem dX12_canMarry_13 : decode cX12_canMarry 13 = .ok (.ior, 1) := by decide +kernel
theorem dX12_canMarry_14 : decode cX12_canMarry 14 = .ok (.aload_n 0, 1) := by decide +kernel
theorem dX12_canMarry_15 : decode cX12_canMarry 15 = .ok (.getfield 329, 3) := by decide +kernel
theorem dX12_canMarry_18 : decode cX12_canMarry 18 = .ok (.ior, 1) := by decide +kernel
theorem dX12_canMarry_19 : decode cX12_canMarry 19 = .ok (.iload_n 1, 1) := by decide +kernel
theorem dX12_canMarry_20 : decode cX12_canMarry 20 = .ok (.invokestatic 370, 3) := by decide +kernel
theorem dX12_canMarry_23 : decode cX12_canMarry 23 = .ok (.ifCond .ne 43, 3) := by decide +kernel
theorem dX12_canMarry_26 : decode cX12_canMarry 26 = .ok (.aload_n 0, 1) := by decide +kernel
theorem dX12_canMarry_27 : decode cX12_canMarry 27 = .ok (.getfield 323, 3) := by decide +kernel
theorem dX12_canMarry_30 : decode cX12_canMarry 30 = .ok (.aload_n 0, 1) := by decide +kernel
theorem dX12_canMarry_31 : decode cX12_canMarry 31 = .ok (.getfield 326, 3) := by decide +kernel
theorem dX12_canMarry_34 : decode cX12_canMarry 34 = .ok (.ior, 1) := by decide +kernel
theorem dX12_canMarry_35 : decode cX12_canMarry 35 = .ok (.aload_n 0, 1) := by decide +kernel
theorem dX12_canMarry_36 : decode cX12_canMarry 36 = .ok (.getfield 329, 3) := by decide +kernel
theorem dX12_canMarry_39 : decode cX12_canMarry 39 = .ok (.ior, 1) := by decide +kernel
theorem dX12_canMarry_40 : decode cX12_canMarry 40 = .ok (.iload_n 2, 1) := by decide +kernel
theorem dX12_canMarry_41 : decode cX12_canMarry 41 = .ok (.invokestatic 370, 3) := by decide +kernel
theorem dX12_canMarry_44 : decode cX12_canMarry 44 = .ok (.ifCond .ne 22, 3) := by decide +kernel
theorem dX12_canMarry_47 : decode cX12_canMarry 47 = .ok (.aload_n 0, 1) := by decide +kernel
theorem dX12_canMarry_48 : decode cX12_canMarry 48 = .ok (.getfield 80, 3) := by decide +kernel
theorem dX12_canMarry_51 : decode cX12_canMarry 51 = .ok (.iload_n 1, 1) := by decide +kernel
theorem dX12_canMarry_52 : decode cX12_canMarry 52 = .ok (.iaload, 1) := by decide +kernel
theorem dX12_canMarry_53 : decode cX12_canMarry 53 = .ok (.aload_n 0, 1) := by decide +kernel
theorem dX12_canMarry_54 : decode cX12_canMarry 54 = .ok (.getfield 80, 3) := by decide +kernel
theorem dX12_canMarry_57 : decode cX12_canMarry 57 = .ok (.iload_n 2, 1) := by decide +kernel
theorem dX12_canMarry_58 : decode cX12_canMarry 58 = .ok (.iaload, 1) := by decide +kernel
theorem dX12_canMarry_59 : decode cX12_canMarry 59 = .ok (.if_icmp .eq 7, 3) := by decide +kernel
theorem dX12_canMarry_62 : decode cX12_canMarry 62 = .ok (.iconst 1, 1) := by decide +kernel
theorem dX12_canMarry_63 : decode cX12_canMarry 63 = .ok (.goto 4, 3) := by decide +kernel
theorem dX12_canMarry_66 : decode cX12_canMarry 66 = .ok (.iconst 0, 1) := by decide +kernel
theorem dX12_canMarry_67 : decode cX12_canMarry 67 = .ok (.ireturn, 1) := by decide +kernel
theorem dX12_wed_0 : decode cX12_wed 0 = .ok (.aload_n 0, 1) := by decide +kernel
theorem dX12_wed_1 : decode cX12_wed 1 = .ok (.aload_n 0, 1) := by decide +kernel
theorem dX12_wed_2 : decode cX12_wed 2 = .ok (.getfield 318, 3) := by decide +kernel
theorem dX12_wed_5 : decode cX12_wed 5 = .ok (.bipush 7, 2) := by decide +kernel
theorem dX12_wed_7 : decode cX12_wed 7 = .ok (.iadd, 1) := by decide +kernel
theorem dX12_wed_8 : decode cX12_wed 8 = .ok (.invokestatic 364, 3) := by decide +kernel
theorem dX12_wed_11 : decode cX12_wed 11 = .ok (.putfield 318, 3) := by decide +kernel
theorem dX12_wed_14 : decode cX12_wed 14 = .ok (.aload_n 0, 1) := by decide +kernel
theorem dX12_wed_15 : decode cX12_wed 15 = .ok (.getfield 80, 3) := by decide +kernel
theorem dX12_wed_18 : decode cX12_wed 18 = .ok (.iload_n 2, 1) := by decide +kernel
theorem dX12_wed_19 : decode cX12_wed 19 = .ok (.aload_n 0, 1) := by decide +kernel
theorem dX12_wed_20 : decode cX12_wed 20 = .ok (.getfield 80, 3) := by decide +kernel
theorem dX12_wed_23 : decode cX12_wed 23 = .ok (.iload_n 1, 1) := by decide +kernel
theorem dX12_wed_24 : decode cX12_wed 24 = .ok (.iaload, 1) := by decide +kernel
theorem dX12_wed_25 : decode cX12_wed 25 = .ok (.iastore, 1) := by decide +kernel
theorem dX12_wed_26 : decode cX12_wed 26 = .ok (.aload_n 0, 1) := by decide +kernel
theorem dX12_wed_27 : decode cX12_wed 27 = .ok (.dup, 1) := by decide +kernel
theorem dX12_wed_28 : decode cX12_wed 28 = .ok (.getfield 329, 3) := by decide +kernel
theorem dX12_wed_31 : decode cX12_wed 31 = .ok (.iconst 1, 1) := by decide +kernel
theorem dX12_wed_32 : decode cX12_wed 32 = .ok (.iload_n 1, 1) := by decide +kernel
theorem dX12_wed_33 : decode cX12_wed 33 = .ok (.ishl, 1) := by decide +kernel
theorem dX12_wed_34 : decode cX12_wed 34 = .ok (.iconst 1, 1) := by decide +kernel
theorem dX12_wed_35 : decode cX12_wed 35 = .ok (.iload_n 2, 1) := by decide +kernel
theorem dX12_wed_36 : decode cX12_wed 36 = .ok (.ishl, 1) := by decide +kernel
theorem dX12_wed_37 : decode cX12_wed 37 = .ok (.ior, 1) := by decide +kernel
theorem dX12_wed_38 : decode cX12_wed 38 = .ok (.ior, 1) := by decide +kernel
theorem dX12_wed_39 : decode cX12_wed 39 = .ok (.putfield 329, 3) := by decide +kernel
theorem dX12_wed_42 : decode cX12_wed 42 = .ok (.return_, 1) := by decide +kernel
theorem dX12_marry_0 : decode cX12_marry 0 = .ok (.aload_n 0, 1) := by decide +kernel
theorem dX12_marry_1 : decode cX12_marry 1 = .ok (.iconst 0, 1) := by decide +kernel
theorem dX12_marry_2 : decode cX12_marry 2 = .ok (.putfield 165, 3) := by decide +kernel
theorem dX12_marry_5 : decode cX12_marry 5 = .ok (.aload_n 0, 1) := by decide +kernel
theorem dX12_marry_6 : decode cX12_marry 6 = .ok (.iload_n 1, 1) := by decide +kernel
theorem dX12_marry_7 : decode cX12_marry 7 = .ok (.invokevirtual 382, 3) := by decide +kernel
theorem dX12_marry_10 : decode cX12_marry 10 = .ok (.ifCond .eq 11, 3) := by decide +kernel
theorem dX12_marry_13 : decode cX12_marry 13 = .ok (.aload_n 0, 1) := by decide +kernel
theorem dX12_marry_14 : decode cX12_marry 14 = .ok (.iload_n 2, 1) := by decide +kernel
theorem dX12_marry_15 : decode cX12_marry 15 = .ok (.invokevirtual 382, 3) := by decide +kernel
theorem dX12_marry_18 : decode cX12_marry 18 = .ok (.ifCond .ne 9, 3) := by decide +kernel
theorem dX12_marry_21 : decode cX12_marry 21 = .ok (.aload_n 0, 1) := by decide +kernel
theorem dX12_marry_22 : decode cX12_marry 22 = .ok (.iconst 1, 1) := by decide +kernel
theorem dX12_marry_23 : decode cX12_marry 23 = .ok (.invokevirtual 303, 3) := by decide +kernel
theorem dX12_marry_26 : decode cX12_marry 26 = .ok (.ireturn, 1) := by decide +kernel
theorem dX12_marry_27 : decode cX12_marry 27 = .ok (.aload_n 0, 1) := by decide +kernel
theorem dX12_marry_28 : decode cX12_marry 28 = .ok (.iload_n 1, 1) := by decide +kernel
theorem dX12_marry_29 : decode cX12_marry 29 = .ok (.iload_n 2, 1) := by decide +kernel
theorem dX12_marry_30 : decode cX12_marry 30 = .ok (.invokevirtual 409, 3) := by decide +kernel
theorem dX12_marry_33 : decode cX12_marry 33 = .ok (.ifCond .ne 9, 3) := by decide +kernel
theorem dX12_marry_36 : decode cX12_marry 36 = .ok (.aload_n 0, 1) := by decide +kernel
theorem dX12_marry_37 : decode cX12_marry 37 = .ok (.iconst 1, 1) := by decide +kernel
theorem dX12_marry_38 : decode cX12_marry 38 = .ok (.invokevirtual 393, 3) := by decide +kernel
theorem dX12_marry_41 : decode cX12_marry 41 = .ok (.ireturn, 1) := by decide +kernel
theorem dX12_marry_42 : decode cX12_marry 42 = .ok (.aload_n 0, 1) := by decide +kernel
theorem dX12_marry_43 : decode cX12_marry 43 = .ok (.invokevirtual 396, 3) := by decide +kernel
theorem dX12_marry_46 : decode cX12_marry 46 = .ok (.aload_n 0, 1) := by decide +kernel
theorem dX12_marry_47 : decode cX12_marry 47 = .ok (.iload_n 1, 1) := by decide +kernel
theorem dX12_marry_48 : decode cX12_marry 48 = .ok (.iload_n 2, 1) := by decide +kernel
theorem dX12_marry_49 : decode cX12_marry 49 = .ok (.invokevirtual 412, 3) := by decide +kernel
theorem dX12_marry_52 : decode cX12_marry 52 = .ok (.aload_n 0, 1) := by decide +kernel
theorem dX12_marry_53 : decode cX12_marry 53 = .ok (.getfield 318, 3) := by decide +kernel
theorem dX12_marry_56 : decode cX12_marry 56 = .ok (.ireturn, 1) := by decide +kernel
theorem dX12_quarrel_0 : decode cX12_quarrel 0 = .ok (.aload_n 0, 1) := by decide +kernel
theorem dX12_quarrel_1 : decode cX12_quarrel 1 = .ok (.iconst 0, 1) := by decide +kernel
theorem dX12_quarrel_2 : decode cX12_quarrel 2 = .ok (.putfield 165, 3) := by decide +kernel
theorem dX12_quarrel_5 : decode cX12_quarrel 5 = .ok (.aload_n 0, 1) := by decide +kernel
theorem dX12_quarrel_6 : decode cX12_quarrel 6 = .ok (.iload_n 1, 1) := by decide +kernel
theorem dX12_quarrel_7 : decode cX12_quarrel 7 = .ok (.invokevirtual 382, 3) := by decide +kernel
theorem dX12_quarrel_10 : decode cX12_quarrel 10 = .ok (.ifCond .eq 11, 3) := by decide +kernel
theorem dX12_quarrel_13 : decode cX12_quarrel 13 = .ok (.aload_n 0, 1) := by decide +kernel
theorem dX12_quarrel_14 : decode cX12_quarrel 14 = .ok (.iload_n 2, 1) := by decide +kernel
theorem dX12_quarrel_15 : decode cX12_quarrel 15 = .ok (.invokevirtual 382, 3) := by decide +kernel
theorem dX12_quarrel_18 : decode cX12_quarrel 18 = .ok (.ifCond .ne 9, 3) := by decide +kernel
theorem dX12_quarrel_21 : decode cX12_quarrel 21 = .ok (.aload_n 0, 1) := by decide +kernel
theorem dX12_quarrel_22 : decode cX12_quarrel 22 = .ok (.iconst 1, 1) := by decide +kernel
theorem dX12_quarrel_23 : decode cX12_quarrel 23 = .ok (.invokevirtual 303, 3) := by decide +kernel
theorem dX12_quarrel_26 : decode cX12_quarrel 26 = .ok (.ireturn, 1) := by decide +kernel
theorem dX12_quarrel_27 : decode cX12_quarrel 27 = .ok (.iload_n 1, 1) := by decide +kernel
theorem dX12_quarrel_28 : decode cX12_quarrel 28 = .ok (.iload_n 2, 1) := by decide +kernel
theorem dX12_quarrel_29 : decode cX12_quarrel 29 = .ok (.if_icmp .eq 21, 3) := by decide +kernel
theorem dX12_quarrel_32 : decode cX12_quarrel 32 = .ok (.aload_n 0, 1) := by decide +kernel
theorem dX12_quarrel_33 : decode cX12_quarrel 33 = .ok (.iload_n 1, 1) := by decide +kernel
theorem dX12_quarrel_34 : decode cX12_quarrel 34 = .ok (.iload_n 2, 1) := by decide +kernel
theorem dX12_quarrel_35 : decode cX12_quarrel 35 = .ok (.invokevirtual 367, 3) := by decide +kernel
theorem dX12_quarrel_38 : decode cX12_quarrel 38 = .ok (.ifCond .ne 12, 3) := by decide +kernel
theorem dX12_quarrel_41 : decode cX12_quarrel 41 = .ok (.aload_n 0, 1) := by decide +kernel
theorem dX12_quarrel_42 : decode cX12_quarrel 42 = .ok (.getfield 332, 3) := by decide +kernel
theorem dX12_quarrel_45 : decode cX12_quarrel 45 = .ok (.bipush 6, 2) := by decide +kernel
theorem dX12_quarrel_47 : decode cX12_quarrel 47 = .ok (.if_icmp .ne 9, 3) := by decide +kernel
theorem dX12_quarrel_50 : decode cX12_quarrel 50 = .ok (.aload_n 0, 1) := by decide +kernel
theorem dX12_quarrel_51 : decode cX12_quarrel 51 = .ok (.iconst 1, 1) := by decide +kernel
theorem dX12_quarrel_52 : decode cX12_quarrel 52 = .ok (.invokevirtual 393, 3) := by decide +kernel
theorem dX12_quarrel_55 : decode cX12_quarrel 55 = .ok (.ireturn, 1) := by decide +kernel
theorem dX12_quarrel_56 : decode cX12_quarrel 56 = .ok (.aload_n 0, 1) := by decide +kernel
theorem dX12_quarrel_57 : decode cX12_quarrel 57 = .ok (.invokevirtual 396, 3) := by decide +kernel
theorem dX12_quarrel_60 : decode cX12_quarrel 60 = .ok (.aload_n 0, 1) := by decide +kernel
theorem dX12_quarrel_61 : decode cX12_quarrel 61 = .ok (.getfield 84, 3) := by decide +kernel
theorem dX12_quarrel_64 : decode cX12_quarrel 64 = .ok (.aload_n 0, 1) := by decide +kernel
theorem dX12_quarrel_65 : decode cX12_quarrel 65 = .ok (.getfield 332, 3) := by decide +kernel
theorem dX12_quarrel_68 : decode cX12_quarrel 68 = .ok (.iload_n 1, 1) := by decide +kernel
theorem dX12_quarrel_69 : decode cX12_quarrel 69 = .ok (.iastore, 1) := by decide +kernel
theorem dX12_quarrel_70 : decode cX12_quarrel 70 = .ok (.aload_n 0, 1) := by decide +kernel
theorem dX12_quarrel_71 : decode cX12_quarrel 71 = .ok (.getfield 87, 3) := by decide +kernel
theorem dX12_quarrel_74 : decode cX12_quarrel 74 = .ok (.aload_n 0, 1) := by decide +kernel
theorem dX12_quarrel_75 : decode cX12_quarrel 75 = .ok (.getfield 332, 3) := by decide +kernel
theorem dX12_quarrel_78 : decode cX12_quarrel 78 = .ok (.iload_n 2, 1) := by decide +kernel
theorem dX12_quarrel_79 : decode cX12_quarrel 79 = .ok (.iastore, 1) := by decide +kernel
theorem dX12_quarrel_80 : decode cX12_quarrel 80 = .ok (.aload_n 0, 1) := by decide +kernel
theorem dX12_quarrel_81 : decode cX12_quarrel 81 = .ok (.dup, 1) := by decide +kernel
theorem dX12_quarrel_82 : decode cX12_quarrel 82 = .ok (.getfield 332, 3) := by decide +kernel
theorem dX12_quarrel_85 : decode cX12_quarrel 85 = .ok (.iconst 1, 1) := by decide +kernel
theorem dX12_quarrel_86 : decode cX12_quarrel 86 = .ok (.iadd, 1) := by decide +kernel
theorem dX12_quarrel_87 : decode cX12_quarrel 87 = .ok (.putfield 332, 3) := by decide +kernel
theorem dX12_quarrel_90 : decode cX12_quarrel 90 = .ok (.aload_n 0, 1) := by decide +kernel
theorem dX12_quarrel_91 : decode cX12_quarrel 91 = .ok (.getfield 332, 3) := by decide +kernel
theorem dX12_quarrel_94 : decode cX12_quarrel 94 = .ok (.iconst 1, 1) := by decide +kernel
theorem dX12_quarrel_95 : decode cX12_quarrel 95 = .ok (.isub, 1) := by decide +kernel
theorem dX12_quarrel_96 : decode cX12_quarrel 96 = .ok (.ireturn, 1) := by decide +kernel
theorem dX12_peace_0 : decode cX12_peace 0 = .ok (.aload_n 0, 1) := by decide +kernel
theorem dX12_peace_1 : decode cX12_peace 1 = .ok (.iconst 0, 1) := by decide +kernel
theorem dX12_peace_2 : decode cX12_peace 2 = .ok (.putfield 165, 3) := by decide +kernel
theorem dX12_peace_5 : decode cX12_peace 5 = .ok (.iload_n 1, 1) := by decide +kernel
theorem dX12_peace_6 : decode cX12_peace 6 = .ok (.i2l, 1) := by decide +kernel
theorem dX12_peace_7 : decode cX12_peace 7 = .ok (.lconst 0, 1) := by decide +kernel
theorem dX12_peace_8 : decode cX12_peace 8 = .ok (.aload_n 0, 1) := by decide +kernel
theorem dX12_peace_9 : decode cX12_peace 9 = .ok (.getfield 332, 3) := by decide +kernel
theorem dX12_peace_12 : decode cX12_peace 12 = .ok (.iconst 1, 1) := by decide +kernel
theorem dX12_peace_13 : decode cX12_peace 13 = .ok (.isub, 1) := by decide +kernel
theorem dX12_peace_14 : decode cX12_peace 14 = .ok (.i2l, 1) := by decide +kernel
theorem dX12_peace_15 : decode cX12_peace 15 = .ok (.invokestatic 168, 3) := by decide +kernel
theorem dX12_peace_18 : decode cX12_peace 18 = .ok (.ifCond .ne 8, 3) := by decide +kernel
theorem dX12_peace_21 : decode cX12_peace 21 = .ok (.aload_n 0, 1) := by decide +kernel
theorem dX12_peace_22 : decode cX12_peace 22 = .ok (.invokevirtual 405, 3) := by decide +kernel
theorem dX12_peace_25 : decode cX12_peace 25 = .ok (.ireturn, 1) := by decide +kernel
theorem dX12_peace_26 : decode cX12_peace 26 = .ok (.aload_n 0, 1) := by decide +kernel
theorem dX12_peace_27 : decode cX12_peace 27 = .ok (.invokevirtual 396, 3) := by decide +kernel
theorem dX12_peace_30 : decode cX12_peace 30 = .ok (.aload_n 0, 1) := by decide +kernel
theorem dX12_peace_31 : decode cX12_peace 31 = .ok (.dup, 1) := by decide +kernel
theorem dX12_peace_32 : decode cX12_peace 32 = .ok (.getfield 332, 3) := by decide +kernel
theorem dX12_peace_35 : decode cX12_peace 35 = .ok (.iconst 1, 1) := by decide +kernel
theorem dX12_peace_36 : decode cX12_peace 36 = .ok (.isub, 1) := by decide +kernel
theorem dX12_peace_37 : decode cX12_peace 37 = .ok (.putfield 332, 3) := by decide +kernel
theorem dX12_peace_40 : decode cX12_peace 40 = .ok (.iload_n 1, 1) := by decide +kernel
theorem dX12_peace_41 : decode cX12_peace 41 = .ok (.istore_n 2, 1) := by decide +kernel
theorem dX12_peace_42 : decode cX12_peace 42 = .ok (.iload_n 2, 1) := by decide +kernel
theorem dX12_peace_43 : decode cX12_peace 43 = .ok (.aload_n 0, 1) := by decide +kernel
theorem dX12_peace_44 : decode cX12_peace 44 = .ok (.getfield 332, 3) := by decide +kernel
theorem dX12_peace_47 : decode cX12_peace 47 = .ok (.if_icmp .ge 37, 3) := by decide +kernel
theorem dX12_peace_50 : decode cX12_peace 50 = .ok (.aload_n 0, 1) := by decide +kernel
theorem dX12_peace_51 : decode cX12_peace 51 = .ok (.getfield 84, 3) := by decide +kernel
theorem dX12_peace_54 : decode cX12_peace 54 = .ok (.iload_n 2, 1) := by decide +kernel
theorem dX12_peace_55 : decode cX12_peace 55 = .ok (.aload_n 0, 1) := by decide +kernel
theorem dX12_peace_56 : decode cX12_peace 56 = .ok (.getfield 84, 3) := by decide +kernel
theorem dX12_peace_59 : decode cX12_peace 59 = .ok (.iload_n 2, 1) := by decide +kernel
theorem dX12_peace_60 : decode cX12_peace 60 = .ok (.iconst 1, 1) := by decide +kernel
theorem dX12_peace_61 : decode cX12_peace 61 = .ok (.iadd, 1) := by decide +kernel
theorem dX12_peace_62 : decode cX12_peace 62 = .ok (.iaload, 1) := by decide +kernel
theorem dX12_peace_63 : decode cX12_peace 63 = .ok (.iastore, 1) := by decide +kernel
theorem dX12_peace_64 : decode cX12_peace 64 = .ok (.aload_n 0, 1) := by decide +kernel
theorem dX12_peace_65 : decode cX12_peace 65 = .ok (.getfield 87, 3) := by decide +kernel
theorem dX12_peace_68 : decode cX12_peace 68 = .ok (.iload_n 2, 1) := by decide +kernel
theorem dX12_peace_69 : decode cX12_peace 69 = .ok (.aload_n 0, 1) := by decide +kernel
theorem dX12_peace_70 : decode cX12_peace 70 = .ok (.getfield 87, 3) := by decide +kernel
theorem dX12_peace_73 : decode cX12_peace 73 = .ok (.iload_n 2, 1) := by decide +kernel
theorem dX12_peace_74 : decode cX12_peace 74 = .ok (.iconst 1, 1) := by decide +kernel
theorem dX12_peace_75 : decode cX12_peace 75 = .ok (.iadd, 1) := by decide +kernel
theorem dX12_peace_76 : decode cX12_peace 76 = .ok (.iaload, 1) := by decide +kernel
theorem dX12_peace_77 : decode cX12_peace 77 = .ok (.iastore, 1) := by decide +kernel
theorem dX12_peace_78 : decode cX12_peace 78 = .ok (.iinc 2 1, 3) := by decide +kernel
theorem dX12_peace_81 : decode cX12_peace 81 = .ok (.goto (-39), 3) := by decide +kernel
theorem dX12_peace_84 : decode cX12_peace 84 = .ok (.iconst 1, 1) := by decide +kernel
theorem dX12_peace_85 : decode cX12_peace 85 = .ok (.ireturn, 1) := by decide +kernel
theorem dX12_undo_0 : decode cX12_undo 0 = .ok (.aload_n 0, 1) := by decide +kernel
theorem dX12_undo_1 : decode cX12_undo 1 = .ok (.iconst 0, 1) := by decide +kernel
theorem dX12_undo_2 : decode cX12_undo 2 = .ok (.putfield 165, 3) := by decide +kernel
theorem dX12_undo_5 : decode cX12_undo 5 = .ok (.aload_n 0, 1) := by decide +kernel
theorem dX12_undo_6 : decode cX12_undo 6 = .ok (.getfield 338, 3) := by decide +kernel
theorem dX12_undo_9 : decode cX12_undo 9 = .ok (.ifCond .ne 5, 3) := by decide +kernel
theorem dX12_undo_12 : decode cX12_undo 12 = .ok (.iconst (-1), 1) := by decide +kernel
theorem dX12_undo_13 : decode cX12_undo 13 = .ok (.ireturn, 1) := by decide +kernel
theorem dX12_undo_14 : decode cX12_undo 14 = .ok (.aload_n 0, 1) := by decide +kernel
theorem dX12_undo_15 : decode cX12_undo 15 = .ok (.dup, 1) := by decide +kernel
theorem dX12_undo_16 : decode cX12_undo 16 = .ok (.getfield 338, 3) := by decide +kernel
theorem dX12_undo_19 : decode cX12_undo 19 = .ok (.iconst 1, 1) := by decide +kernel
theorem dX12_undo_20 : decode cX12_undo 20 = .ok (.isub, 1) := by decide +kernel
theorem dX12_undo_21 : decode cX12_undo 21 = .ok (.putfield 338, 3) := by decide +kernel
theorem dX12_undo_24 : decode cX12_undo 24 = .ok (.aload_n 0, 1) := by decide +kernel
theorem dX12_undo_25 : decode cX12_undo 25 = .ok (.aload_n 0, 1) := by decide +kernel
theorem dX12_undo_26 : decode cX12_undo 26 = .ok (.getfield 90, 3) := by decide +kernel
theorem dX12_undo_29 : decode cX12_undo 29 = .ok (.bipush 35, 2) := by decide +kernel
theorem dX12_undo_31 : decode cX12_undo 31 = .ok (.aload_n 0, 1) := by decide +kernel
theorem dX12_undo_32 : decode cX12_undo 32 = .ok (.getfield 338, 3) := by decide +kernel
theorem dX12_undo_35 : decode cX12_undo 35 = .ok (.imul, 1) := by decide +kernel
theorem dX12_undo_36 : decode cX12_undo 36 = .ok (.invokevirtual 416, 3) := by decide +kernel
theorem dX12_undo_39 : decode cX12_undo 39 = .ok (.aload_n 0, 1) := by decide +kernel
theorem dX12_undo_40 : decode cX12_undo 40 = .ok (.getfield 338, 3) := by decide +kernel
theorem dX12_undo_43 : decode cX12_undo 43 = .ok (.ireturn, 1) := by decide +kernel
theorem dX12_tellPhrase_0 : decode cX12_tellPhrase 0 = .ok (.iload_n 2, 1) := by decide +kernel
theorem dX12_tellPhrase_1 : decode cX12_tellPhrase 1 = .ok (.i2l, 1) := by decide +kernel
theorem dX12_tellPhrase_2 : decode cX12_tellPhrase 2 = .ok (.lconst 1, 1) := by decide +kernel
theorem dX12_tellPhrase_3 : decode cX12_tellPhrase 3 = .ok (.ldc2_w 419, 3) := by decide +kernel
theorem dX12_tellPhrase_6 : decode cX12_tellPhrase 6 = .ok (.invokestatic 168, 3) := by decide +kernel
theorem dX12_tellPhrase_9 : decode cX12_tellPhrase 9 = .ok (.ifCond .eq 7, 3) := by decide +kernel
theorem dX12_tellPhrase_12 : decode cX12_tellPhrase 12 = .ok (.iload_n 1, 1) := by decide +kernel
theorem dX12_tellPhrase_13 : decode cX12_tellPhrase 13 = .ok (.ifCond .ge 5, 3) := by decide +kernel
theorem dX12_tellPhrase_16 : decode cX12_tellPhrase 16 = .ok (.iconst 0, 1) := by decide +kernel
theorem dX12_tellPhrase_17 : decode cX12_tellPhrase 17 = .ok (.ireturn, 1) := by decide +kernel
theorem dX12_tellPhrase_18 : decode cX12_tellPhrase 18 = .ok (.iload_n 1, 1) := by decide +kernel
theorem dX12_tellPhrase_19 : decode cX12_tellPhrase 19 = .ok (.istore_n 3, 1) := by decide +kernel
theorem dX12_tellPhrase_20 : decode cX12_tellPhrase 20 = .ok (.iload_n 2, 1) := by decide +kernel
theorem dX12_tellPhrase_21 : decode cX12_tellPhrase 21 = .ok (.iconst 1, 1) := by decide +kernel
theorem dX12_tellPhrase_22 : decode cX12_tellPhrase 22 = .ok (.isub, 1) := by decide +kernel
theorem dX12_tellPhrase_23 : decode cX12_tellPhrase 23 = .ok (.istore 4, 2) := by decide +kernel
theorem dX12_tellPhrase_25 : decode cX12_tellPhrase 25 = .ok (.iload 4, 2) := by decide +kernel
theorem dX12_tellPhrase_27 : decode cX12_tellPhrase 27 = .ok (.ifCond .lt 25, 3) := by decide +kernel
theorem dX12_tellPhrase_30 : decode cX12_tellPhrase 30 = .ok (.aload_n 0, 1) := by decide +kernel
theorem dX12_tellPhrase_31 : decode cX12_tellPhrase 31 = .ok (.getfield 111, 3) := by decide +kernel
theorem dX12_tellPhrase_34 : decode cX12_tellPhrase 34 = .ok (.iload 4, 2) := by decide +kernel
theorem dX12_tellPhrase_36 : decode cX12_tellPhrase 36 = .ok (.iload_n 3, 1) := by decide +kernel
theorem dX12_tellPhrase_37 : decode cX12_tellPhrase 37 = .ok (.bipush 13, 2) := by decide +kernel
theorem dX12_tellPhrase_39 : decode cX12_tellPhrase 39 = .ok (.irem, 1) := by decide +kernel
theorem dX12_tellPhrase_40 : decode cX12_tellPhrase 40 = .ok (.iastore, 1) := by decide +kernel
theorem dX12_tellPhrase_41 : decode cX12_tellPhrase 41 = .ok (.iload_n 3, 1) := by decide +kernel
theorem dX12_tellPhrase_42 : decode cX12_tellPhrase 42 = .ok (.bipush 13, 2) := by decide +kernel
theorem dX12_tellPhrase_44 : decode cX12_tellPhrase 44 = .ok (.idiv, 1) := by decide +kernel
theorem dX12_tellPhrase_45 : decode cX12_tellPhrase 45 = .ok (.istore_n 3, 1) := by decide +kernel
theorem dX12_tellPhrase_46 : decode cX12_tellPhrase 46 = .ok (.iinc 4 (-1), 3) := by decide +kernel
theorem dX12_tellPhrase_49 : decode cX12_tellPhrase 49 = .ok (.goto (-24), 3) := by decide +kernel
theorem dX12_tellPhrase_52 : decode cX12_tellPhrase 52 = .ok (.iload_n 3, 1) := by decide +kernel
theorem dX12_tellPhrase_53 : decode cX12_tellPhrase 53 = .ok (.ifCond .ne 7, 3) := by decide +kernel
theorem dX12_tellPhrase_56 : decode cX12_tellPhrase 56 = .ok (.iconst 1, 1) := by decide +kernel
theorem dX12_tellPhrase_57 : decode cX12_tellPhrase 57 = .ok (.goto 4, 3) := by decide +kernel
theorem dX12_tellPhrase_60 : decode cX12_tellPhrase 60 = .ok (.iconst 0, 1) := by decide +kernel
theorem dX12_tellPhrase_61 : decode cX12_tellPhrase 61 = .ok (.ireturn, 1) := by decide +kernel
theorem dX12_isAt_0 : decode cX12_isAt 0 = .ok (.iload_n 1, 1) := by decide +kernel
theorem dX12_isAt_1 : decode cX12_isAt 1 = .ok (.iload_n 2, 1) := by decide +kernel
theorem dX12_isAt_2 : decode cX12_isAt 2 = .ok (.iadd, 1) := by decide +kernel
theorem dX12_isAt_3 : decode cX12_isAt 3 = .ok (.aload_n 0, 1) := by decide +kernel
theorem dX12_isAt_4 : decode cX12_isAt 4 = .ok (.getfield 320, 3) := by decide +kernel
theorem dX12_isAt_7 : decode cX12_isAt 7 = .ok (.if_icmp .le 5, 3) := by decide +kernel
theorem dX12_isAt_10 : decode cX12_isAt 10 = .ok (.iconst 0, 1) := by decide +kernel
theorem dX12_isAt_11 : decode cX12_isAt 11 = .ok (.ireturn, 1) := by decide +kernel
theorem dX12_isAt_12 : decode cX12_isAt 12 = .ok (.iconst 0, 1) := by decide +kernel
theorem dX12_isAt_13 : decode cX12_isAt 13 = .ok (.istore_n 3, 1) := by decide +kernel
theorem dX12_isAt_14 : decode cX12_isAt 14 = .ok (.iload_n 3, 1) := by decide +kernel
theorem dX12_isAt_15 : decode cX12_isAt 15 = .ok (.iload_n 2, 1) := by decide +kernel
theorem dX12_isAt_16 : decode cX12_isAt 16 = .ok (.if_icmp .ge 28, 3) := by decide +kernel
theorem dX12_isAt_19 : decode cX12_isAt 19 = .ok (.aload_n 0, 1) := by decide +kernel
theorem dX12_isAt_20 : decode cX12_isAt 20 = .ok (.getfield 93, 3) := by decide +kernel
theorem dX12_isAt_23 : decode cX12_isAt 23 = .ok (.iload_n 1, 1) := by decide +kernel
theorem dX12_isAt_24 : decode cX12_isAt 24 = .ok (.iload_n 3, 1) := by decide +kernel
theorem dX12_isAt_25 : decode cX12_isAt 25 = .ok (.iadd, 1) := by decide +kernel
theorem dX12_isAt_26 : decode cX12_isAt 26 = .ok (.iaload, 1) := by decide +kernel
theorem dX12_isAt_27 : decode cX12_isAt 27 = .ok (.aload_n 0, 1) := by decide +kernel
theorem dX12_isAt_28 : decode cX12_isAt 28 = .ok (.getfield 111, 3) := by decide +kernel
theorem dX12_isAt_31 : decode cX12_isAt 31 = .ok (.iload_n 3, 1) := by decide +kernel
theorem dX12_isAt_32 : decode cX12_isAt 32 = .ok (.iaload, 1) := by decide +kernel
theorem dX12_isAt_33 : decode cX12_isAt 33 = .ok (.if_icmp .eq 5, 3) := by decide +kernel
theorem dX12_isAt_36 : decode cX12_isAt 36 = .ok (.iconst 0, 1) := by decide +kernel
theorem dX12_isAt_37 : decode cX12_isAt 37 = .ok (.ireturn, 1) := by decide +kernel
theorem dX12_isAt_38 : decode cX12_isAt 38 = .ok (.iinc 3 1, 3) := by decide +kernel
theorem dX12_isAt_41 : decode cX12_isAt 41 = .ok (.goto (-27), 3) := by decide +kernel
theorem dX12_isAt_44 : decode cX12_isAt 44 = .ok (.iconst 1, 1) := by decide +kernel
theorem dX12_isAt_45 : decode cX12_isAt 45 = .ok (.ireturn, 1) := by decide +kernel
theorem dX12_firstFrom_0 : decode cX12_firstFrom 0 = .ok (.iload_n 1, 1) := by decide +kernel
theorem dX12_firstFrom_1 : decode cX12_firstFrom 1 = .ok (.istore_n 3, 1) := by decide +kernel
theorem dX12_firstFrom_2 : decode cX12_firstFrom 2 = .ok (.iload_n 3, 1) := by decide +kernel
theorem dX12_firstFrom_3 : decode cX12_firstFrom 3 = .ok (.aload_n 0, 1) := by decide +kernel
theorem dX12_firstFrom_4 : decode cX12_firstFrom 4 = .ok (.getfield 320, 3) := by decide +kernel
theorem dX12_firstFrom_7 : decode cX12_firstFrom 7 = .ok (.if_icmp .ge 20, 3) := by decide +kernel
theorem dX12_firstFrom_10 : decode cX12_firstFrom 10 = .ok (.aload_n 0, 1) := by decide +kernel
theorem dX12_firstFrom_11 : decode cX12_firstFrom 11 = .ok (.iload_n 3, 1) := by decide +kernel
theorem dX12_firstFrom_12 : decode cX12_firstFrom 12 = .ok (.iload_n 2, 1) := by decide +kernel
theorem dX12_firstFrom_13 : decode cX12_firstFrom 13 = .ok (.invokevirtual 421, 3) := by decide +kernel
theorem dX12_firstFrom_16 : decode cX12_firstFrom 16 = .ok (.ifCond .eq 5, 3) := by decide +kernel
theorem dX12_firstFrom_19 : decode cX12_firstFrom 19 = .ok (.iload_n 3, 1) := by decide +kernel
theorem dX12_firstFrom_20 : decode cX12_firstFrom 20 = .ok (.ireturn, 1) := by decide +kernel
theorem dX12_firstFrom_21 : decode cX12_firstFrom 21 = .ok (.iinc 3 1, 3) := by decide +kernel
theorem dX12_firstFrom_24 : decode cX12_firstFrom 24 = .ok (.goto (-22), 3) := by decide +kernel
theorem dX12_firstFrom_27 : decode cX12_firstFrom 27 = .ok (.iconst (-1), 1) := by decide +kernel
theorem dX12_firstFrom_28 : decode cX12_firstFrom 28 = .ok (.ireturn, 1) := by decide +kernel
theorem dX12_found_0 : decode cX12_found 0 = .ok (.aload_n 0, 1) := by decide +kernel
theorem dX12_found_1 : decode cX12_found 1 = .ok (.iconst 0, 1) := by decide +kernel
theorem dX12_found_2 : decode cX12_found 2 = .ok (.putfield 165, 3) := by decide +kernel
theorem dX12_found_5 : decode cX12_found 5 = .ok (.iload_n 3, 1) := by decide +kernel
theorem dX12_found_6 : decode cX12_found 6 = .ok (.ifCond .lt 8, 3) := by decide +kernel
theorem dX12_found_9 : decode cX12_found 9 = .ok (.iload_n 3, 1) := by decide +kernel
theorem dX12_found_10 : decode cX12_found 10 = .ok (.iconst 1, 1) := by decide +kernel
theorem dX12_found_11 : decode cX12_found 11 = .ok (.if_icmp .le 9, 3) := by decide +kernel
theorem dX12_found_14 : decode cX12_found 14 = .ok (.aload_n 0, 1) := by decide +kernel
theorem dX12_found_15 : decode cX12_found 15 = .ok (.iconst 1, 1) := by decide +kernel
theorem dX12_found_16 : decode cX12_found 16 = .ok (.invokevirtual 303, 3) := by decide +kernel
theorem dX12_found_19 : decode cX12_found 19 = .ok (.ireturn, 1) := by decide +kernel
theorem dX12_found_20 : decode cX12_found 20 = .ok (.aload_n 0, 1) := by decide +kernel
theorem dX12_found_21 : decode cX12_found 21 = .ok (.iload_n 1, 1) := by decide +kernel
theorem dX12_found_22 : decode cX12_found 22 = .ok (.iload_n 2, 1) := by decide +kernel
theorem dX12_found_23 : decode cX12_found 23 = .ok (.invokevirtual 424, 3) := by decide +kernel
theorem dX12_found_26 : decode cX12_found 26 = .ok (.ifCond .ne 9, 3) := by decide +kernel
theorem dX12_found_29 : decode cX12_found 29 = .ok (.aload_n 0, 1) := by decide +kernel
theorem dX12_found_30 : decode cX12_found 30 = .ok (.iconst 2, 1) := by decide +kernel
theorem dX12_found_31 : decode cX12_found 31 = .ok (.invokevirtual 303, 3) := by decide +kernel
theorem dX12_found_34 : decode cX12_found 34 = .ok (.ireturn, 1) := by decide +kernel
theorem dX12_found_35 : decode cX12_found 35 = .ok (.iconst 0, 1) := by decide +kernel
theorem dX12_found_36 : decode cX12_found 36 = .ok (.istore 4, 2) := by decide +kernel
theorem dX12_found_38 : decode cX12_found 38 = .ok (.iconst 0, 1) := by decide +kernel
theorem dX12_found_39 : decode cX12_found 39 = .ok (.istore 5, 2) := by decide +kernel
theorem dX12_found_41 : decode cX12_found 41 = .ok (.iload 5, 2) := by decide +kernel
theorem dX12_found_43 : decode cX12_found 43 = .ok (.aload_n 0, 1) := by decide +kernel
theorem dX12_found_44 : decode cX12_found 44 = .ok (.getfield 320, 3) := by decide +kernel
theorem dX12_found_47 : decode cX12_found 47 = .ok (.if_icmp .ge 29, 3) := by decide +kernel
theorem dX12_found_50 : decode cX12_found 50 = .ok (.iload 4, 2) := by decide +kernel
theorem dX12_found_52 : decode cX12_found 52 = .ok (.aload_n 0, 1) := by decide +kernel
theorem dX12_found_53 : decode cX12_found 53 = .ok (.iload 5, 2) := by decide +kernel
theorem dX12_found_55 : decode cX12_found 55 = .ok (.iload_n 2, 1) := by decide +kernel
theorem dX12_found_56 : decode cX12_found 56 = .ok (.invokevirtual 421, 3) := by decide +kernel
theorem dX12_found_59 : decode cX12_found 59 = .ok (.ifCond .eq 7, 3) := by decide +kernel
theorem dX12_found_62 : decode cX12_found 62 = .ok (.iconst 1, 1) := by decide +kernel
theorem dX12_found_63 : decode cX12_found 63 = .ok (.goto 4, 3) := by decide +kernel
theorem dX12_found_66 : decode cX12_found 66 = .ok (.iconst 0, 1) := by decide +kernel
theorem dX12_found_67 : decode cX12_found 67 = .ok (.iadd, 1) := by decide +kernel
theorem dX12_found_68 : decode cX12_found 68 = .ok (.istore 4, 2) := by decide +kernel
theorem dX12_found_70 : decode cX12_found 70 = .ok (.iinc 5 1, 3) := by decide +kernel
theorem dX12_found_73 : decode cX12_found 73 = .ok (.goto (-32), 3) := by decide +kernel
theorem dX12_found_76 : decode cX12_found 76 = .ok (.iload_n 3, 1) := by decide +kernel
theorem dX12_found_77 : decode cX12_found 77 = .ok (.ifCond .ne 8, 3) := by decide +kernel
theorem dX12_found_80 : decode cX12_found 80 = .ok (.iload 4, 2) := by decide +kernel
theorem dX12_found_82 : decode cX12_found 82 = .ok (.goto 9, 3) := by decide +kernel
theorem dX12_found_85 : decode cX12_found 85 = .ok (.aload_n 0, 1) := by decide +kernel
theorem dX12_found_86 : decode cX12_found 86 = .ok (.iconst 0, 1) := by decide +kernel
theorem dX12_found_87 : decode cX12_found 87 = .ok (.iload_n 2, 1) := by decide +kernel
theorem dX12_found_88 : decode cX12_found 88 = .ok (.invokevirtual 427, 3) := by decide +kernel
theorem dX12_found_91 : decode cX12_found 91 = .ok (.ireturn, 1) := by decide +kernel
theorem dX12_tellAgain_0 : decode cX12_tellAgain 0 = .ok (.aload_n 0, 1) := by decide +kernel
theorem dX12_tellAgain_1 : decode cX12_tellAgain 1 = .ok (.iconst 0, 1) := by decide +kernel
theorem dX12_tellAgain_2 : decode cX12_tellAgain 2 = .ok (.putfield 430, 3) := by decide +kernel
theorem dX12_tellAgain_5 : decode cX12_tellAgain 5 = .ok (.aload_n 0, 1) := by decide +kernel
theorem dX12_tellAgain_6 : decode cX12_tellAgain 6 = .ok (.iconst (-1), 1) := by decide +kernel
theorem dX12_tellAgain_7 : decode cX12_tellAgain 7 = .ok (.putfield 433, 3) := by decide +kernel
theorem dX12_tellAgain_10 : decode cX12_tellAgain 10 = .ok (.iconst 1, 1) := by decide +kernel
theorem dX12_tellAgain_11 : decode cX12_tellAgain 11 = .ok (.istore_n 1, 1) := by decide +kernel
theorem dX12_tellAgain_12 : decode cX12_tellAgain 12 = .ok (.iload_n 1, 1) := by decide +kernel
theorem dX12_tellAgain_13 : decode cX12_tellAgain 13 = .ok (.aload_n 0, 1) := by decide +kernel
theorem dX12_tellAgain_14 : decode cX12_tellAgain 14 = .ok (.getfield 320, 3) := by decide +kernel
theorem dX12_tellAgain_17 : decode cX12_tellAgain 17 = .ok (.if_icmp .ge 93, 3) := by decide +kernel
theorem dX12_tellAgain_20 : decode cX12_tellAgain 20 = .ok (.iconst 0, 1) := by decide +kernel
theorem dX12_tellAgain_21 : decode cX12_tellAgain 21 = .ok (.istore_n 2, 1) := by decide +kernel
theorem dX12_tellAgain_22 : decode cX12_tellAgain 22 = .ok (.aload_n 0, 1) := by decide +kernel
theorem dX12_tellAgain_23 : decode cX12_tellAgain 23 = .ok (.getfield 320, 3) := by decide +kernel
theorem dX12_tellAgain_26 : decode cX12_tellAgain 26 = .ok (.iconst 1, 1) := by decide +kernel
theorem dX12_tellAgain_27 : decode cX12_tellAgain 27 = .ok (.isub, 1) := by decide +kernel
theorem dX12_tellAgain_28 : decode cX12_tellAgain 28 = .ok (.iload_n 1, 1) := by decide +kernel
theorem dX12_tellAgain_29 : decode cX12_tellAgain 29 = .ok (.isub, 1) := by decide +kernel
theorem dX12_tellAgain_30 : decode cX12_tellAgain 30 = .ok (.istore_n 3, 1) := by decide +kernel
theorem dX12_tellAgain_31 : decode cX12_tellAgain 31 = .ok (.iload_n 3, 1) := by decide +kernel
theorem dX12_tellAgain_32 : decode cX12_tellAgain 32 = .ok (.ifCond .lt 72, 3) := by decide +kernel
theorem dX12_tellAgain_35 : decode cX12_tellAgain 35 = .ok (.aload_n 0, 1) := by decide +kernel
theorem dX12_tellAgain_36 : decode cX12_tellAgain 36 = .ok (.getfield 93, 3) := by decide +kernel
theorem dX12_tellAgain_39 : decode cX12_tellAgain 39 = .ok (.iload_n 3, 1) := by decide +kernel
theorem dX12_tellAgain_40 : decode cX12_tellAgain 40 = .ok (.iaload, 1) := by decide +kernel
theorem dX12_tellAgain_41 : decode cX12_tellAgain 41 = .ok (.aload_n 0, 1) := by decide +kernel
theorem dX12_tellAgain_42 : decode cX12_tellAgain 42 = .ok (.getfield 93, 3) := by decide +kernel
theorem dX12_tellAgain_45 : decode cX12_tellAgain 45 = .ok (.iload_n 3, 1) := by decide +kernel
theorem dX12_tellAgain_46 : decode cX12_tellAgain 46 = .ok (.iload_n 1, 1) := by decide +kernel
theorem dX12_tellAgain_47 : decode cX12_tellAgain 47 = .ok (.iadd, 1) := by decide +kernel
theorem dX12_tellAgain_48 : decode cX12_tellAgain 48 = .ok (.iaload, 1) := by decide +kernel
theorem dX12_tellAgain_49 : decode cX12_tellAgain 49 = .ok (.if_icmp .ne 9, 3) := by decide +kernel
theorem dX12_tellAgain_52 : decode cX12_tellAgain 52 = .ok (.iload_n 2, 1) := by decide +kernel
theorem dX12_tellAgain_53 : decode cX12_tellAgain 53 = .ok (.iconst 1, 1) := by decide +kernel
theorem dX12_tellAgain_54 : decode cX12_tellAgain 54 = .ok (.iadd, 1) := by decide +kernel
theorem dX12_tellAgain_55 : decode cX12_tellAgain 55 = .ok (.goto 4, 3) := by decide +kernel
theorem dX12_tellAgain_58 : decode cX12_tellAgain 58 = .ok (.iconst 0, 1) := by decide +kernel
theorem dX12_tellAgain_59 : decode cX12_tellAgain 59 = .ok (.istore_n 2, 1) := by decide +kernel
theorem dX12_tellAgain_60 : decode cX12_tellAgain 60 = .ok (.iload_n 2, 1) := by decide +kernel
theorem dX12_tellAgain_61 : decode cX12_tellAgain 61 = .ok (.aload_n 0, 1) := by decide +kernel
theorem dX12_tellAgain_62 : decode cX12_tellAgain 62 = .ok (.getfield 430, 3) := by decide +kernel
theorem dX12_tellAgain_65 : decode cX12_tellAgain 65 = .ok (.if_icmp .gt 23, 3) := by decide +kernel
theorem dX12_tellAgain_68 : decode cX12_tellAgain 68 = .ok (.iload_n 2, 1) := by decide +kernel
theorem dX12_tellAgain_69 : decode cX12_tellAgain 69 = .ok (.aload_n 0, 1) := by decide +kernel
theorem dX12_tellAgain_70 : decode cX12_tellAgain 70 = .ok (.getfield 430, 3) := by decide +kernel
theorem dX12_tellAgain_73 : decode cX12_tellAgain 73 = .ok (.if_icmp .ne 25, 3) := by decide +kernel
theorem dX12_tellAgain_76 : decode cX12_tellAgain 76 = .ok (.iload_n 2, 1) := by decide +kernel
theorem dX12_tellAgain_77 : decode cX12_tellAgain 77 = .ok (.ifCond .le 21, 3) := by decide +kernel
theorem dX12_tellAgain_80 : decode cX12_tellAgain 80 = .ok (.iload_n 3, 1) := by decide +kernel
theorem dX12_tellAgain_81 : decode cX12_tellAgain 81 = .ok (.aload_n 0, 1) := by decide +kernel
theorem dX12_tellAgain_82 : decode cX12_tellAgain 82 = .ok (.getfield 433, 3) := by decide +kernel
theorem dX12_tellAgain_85 : decode cX12_tellAgain 85 = .ok (.if_icmp .ge 13, 3) := by decide +kernel
theorem dX12_tellAgain_88 : decode cX12_tellAgain 88 = .ok (.aload_n 0, 1) := by decide +kernel
theorem dX12_tellAgain_89 : decode cX12_tellAgain 89 = .ok (.iload_n 2, 1) := by decide +kernel
theorem dX12_tellAgain_90 : decode cX12_tellAgain 90 = .ok (.putfield 430, 3) := by decide +kernel
theorem dX12_tellAgain_93 : decode cX12_tellAgain 93 = .ok (.aload_n 0, 1) := by decide +kernel
theorem dX12_tellAgain_94 : decode cX12_tellAgain 94 = .ok (.iload_n 3, 1) := by decide +kernel
theorem dX12_tellAgain_95 : decode cX12_tellAgain 95 = .ok (.putfield 433, 3) := by decide +kernel
theorem dX12_tellAgain_98 : decode cX12_tellAgain 98 = .ok (.iinc 3 (-1), 3) := by decide +kernel
theorem dX12_tellAgain_101 : decode cX12_tellAgain 101 = .ok (.goto (-70), 3) := by decide +kernel
theorem dX12_tellAgain_104 : decode cX12_tellAgain 104 = .ok (.iinc 1 1, 3) := by decide +kernel
theorem dX12_tellAgain_107 : decode cX12_tellAgain 107 = .ok (.goto (-95), 3) := by decide +kernel
theorem dX12_tellAgain_110 : decode cX12_tellAgain 110 = .ok (.return_, 1) := by decide +kernel
theorem dX12_again_0 : decode cX12_again 0 = .ok (.aload_n 0, 1) := by decide +kernel
theorem dX12_again_1 : decode cX12_again 1 = .ok (.iconst 0, 1) := by decide +kernel
theorem dX12_again_2 : decode cX12_again 2 = .ok (.putfield 165, 3) := by decide +kernel
theorem dX12_again_5 : decode cX12_again 5 = .ok (.iload_n 1, 1) := by decide +kernel
theorem dX12_again_6 : decode cX12_again 6 = .ok (.ifCond .lt 8, 3) := by decide +kernel
theorem dX12_again_9 : decode cX12_again 9 = .ok (.iload_n 1, 1) := by decide +kernel
theorem dX12_again_10 : decode cX12_again 10 = .ok (.iconst 1, 1) := by decide +kernel
theorem dX12_again_11 : decode cX12_again 11 = .ok (.if_icmp .le 9, 3) := by decide +kernel
theorem dX12_again_14 : decode cX12_again 14 = .ok (.aload_n 0, 1) := by decide +kernel
theorem dX12_again_15 : decode cX12_again 15 = .ok (.iconst 1, 1) := by decide +kernel
theorem dX12_again_16 : decode cX12_again 16 = .ok (.invokevirtual 303, 3) := by decide +kernel
theorem dX12_again_19 : decode cX12_again 19 = .ok (.ireturn, 1) := by decide +kernel
theorem dX12_again_20 : decode cX12_again 20 = .ok (.aload_n 0, 1) := by decide +kernel
theorem dX12_again_21 : decode cX12_again 21 = .ok (.invokevirtual 436, 3) := by decide +kernel
theorem dX12_again_24 : decode cX12_again 24 = .ok (.iload_n 1, 1) := by decide +kernel
theorem dX12_again_25 : decode cX12_again 25 = .ok (.ifCond .ne 10, 3) := by decide +kernel
theorem dX12_again_28 : decode cX12_again 28 = .ok (.aload_n 0, 1) := by decide +kernel
theorem dX12_again_29 : decode cX12_again 29 = .ok (.getfield 430, 3) := by decide +kernel
theorem dX12_again_32 : decode cX12_again 32 = .ok (.goto 7, 3) := by decide +kernel
theorem dX12_again_35 : decode cX12_again 35 = .ok (.aload_n 0, 1) := by decide +kernel
theorem dX12_again_36 : decode cX12_again 36 = .ok (.getfield 433, 3) := by decide +kernel
theorem dX12_again_39 : decode cX12_again 39 = .ok (.ireturn, 1) := by decide +kernel
theorem dX12_isTritone_0 : decode cX12_isTritone 0 = .ok (.iload_n 1, 1) := by decide +kernel
theorem dX12_isTritone_1 : decode cX12_isTritone 1 = .ok (.ifCond .le 54, 3) := by decide +kernel
theorem dX12_isTritone_4 : decode cX12_isTritone 4 = .ok (.aload_n 0, 1) := by decide +kernel
theorem dX12_isTritone_5 : decode cX12_isTritone 5 = .ok (.getfield 93, 3) := by decide +kernel
theorem dX12_isTritone_8 : decode cX12_isTritone 8 = .ok (.iload_n 1, 1) := by decide +kernel
theorem dX12_isTritone_9 : decode cX12_isTritone 9 = .ok (.iaload, 1) := by decide +kernel
theorem dX12_isTritone_10 : decode cX12_isTritone 10 = .ok (.bipush 12, 2) := by decide +kernel
theorem dX12_isTritone_12 : decode cX12_isTritone 12 = .ok (.if_icmp .eq 43, 3) := by decide +kernel
theorem dX12_isTritone_15 : decode cX12_isTritone 15 = .ok (.aload_n 0, 1) := by decide +kernel
theorem dX12_isTritone_16 : decode cX12_isTritone 16 = .ok (.getfield 93, 3) := by decide +kernel
theorem dX12_isTritone_19 : decode cX12_isTritone 19 = .ok (.iload_n 1, 1) := by decide +kernel
theorem dX12_isTritone_20 : decode cX12_isTritone 20 = .ok (.iconst 1, 1) := by decide +kernel
theorem dX12_isTritone_21 : decode cX12_isTritone 21 = .ok (.isub, 1) := by decide +kernel
theorem dX12_isTritone_22 : decode cX12_isTritone 22 = .ok (.iaload, 1) := by decide +kernel
theorem dX12_isTritone_23 : decode cX12_isTritone 23 = .ok (.bipush 12, 2) := by decide +kernel
theorem dX12_isTritone_25 : decode cX12_isTritone 25 = .ok (.if_icmp .eq 30, 3) := by decide +kernel
theorem dX12_isTritone_28 : decode cX12_isTritone 28 = .ok (.aload_n 0, 1) := by decide +kernel
theorem dX12_isTritone_29 : decode cX12_isTritone 29 = .ok (.getfield 93, 3) := by decide +kernel
theorem dX12_isTritone_32 : decode cX12_isTritone 32 = .ok (.iload_n 1, 1) := by decide +kernel
theorem dX12_isTritone_33 : decode cX12_isTritone 33 = .ok (.iaload, 1) := by decide +kernel
theorem dX12_isTritone_34 : decode cX12_isTritone 34 = .ok (.aload_n 0, 1) := by decide +kernel
theorem dX12_isTritone_35 : decode cX12_isTritone 35 = .ok (.getfield 93, 3) := by decide +kernel
theorem dX12_isTritone_38 : decode cX12_isTritone 38 = .ok (.iload_n 1, 1) := by decide +kernel
theorem dX12_isTritone_39 : decode cX12_isTritone 39 = .ok (.iconst 1, 1) := by decide +kernel
theorem dX12_isTritone_40 : decode cX12_isTritone 40 = .ok (.isub, 1) := by decide +kernel
theorem dX12_isTritone_41 : decode cX12_isTritone 41 = .ok (.iaload, 1) := by decide +kernel
theorem dX12_isTritone_42 : decode cX12_isTritone 42 = .ok (.isub, 1) := by decide +kernel
theorem dX12_isTritone_43 : decode cX12_isTritone 43 = .ok (.invokestatic 439, 3) := by decide +kernel
theorem dX12_isTritone_46 : decode cX12_isTritone 46 = .ok (.bipush 6, 2) := by decide +kernel
theorem dX12_isTritone_48 : decode cX12_isTritone 48 = .ok (.if_icmp .ne 7, 3) := by decide +kernel
theorem dX12_isTritone_51 : decode cX12_isTritone 51 = .ok (.iconst 1, 1) := by decide +kernel
theorem dX12_isTritone_52 : decode cX12_isTritone 52 = .ok (.goto 4, 3) := by decide +kernel
theorem dX12_isTritone_55 : decode cX12_isTritone 55 = .ok (.iconst 0, 1) := by decide +kernel
theorem dX12_isTritone_56 : decode cX12_isTritone 56 = .ok (.ireturn, 1) := by decide +kernel
theorem dX12_tritonesFrom_0 : decode cX12_tritonesFrom 0 = .ok (.iconst 0, 1) := by decide +kernel
theorem dX12_tritonesFrom_1 : decode cX12_tritonesFrom 1 = .ok (.istore_n 2, 1) := by decide +kernel
theorem dX12_tritonesFrom_2 : decode cX12_tritonesFrom 2 = .ok (.iload_n 1, 1) := by decide +kernel
theorem dX12_tritonesFrom_3 : decode cX12_tritonesFrom 3 = .ok (.istore_n 3, 1) := by decide +kernel
theorem dX12_tritonesFrom_4 : decode cX12_tritonesFrom 4 = .ok (.iload_n 3, 1) := by decide +kernel
theorem dX12_tritonesFrom_5 : decode cX12_tritonesFrom 5 = .ok (.aload_n 0, 1) := by decide +kernel
theorem dX12_tritonesFrom_6 : decode cX12_tritonesFrom 6 = .ok (.getfield 320, 3) := by decide +kernel
theorem dX12_tritonesFrom_9 : decode cX12_tritonesFrom 9 = .ok (.if_icmp .ge 25, 3) := by decide +kernel
theorem dX12_tritonesFrom_12 : decode cX12_tritonesFrom 12 = .ok (.iload_n 2, 1) := by decide +kernel
theorem dX12_tritonesFrom_13 : decode cX12_tritonesFrom 13 = .ok (.aload_n 0, 1) := by decide +kernel
theorem dX12_tritonesFrom_14 : decode cX12_tritonesFrom 14 = .ok (.iload_n 3, 1) := by decide +kernel
theorem dX12_tritonesFrom_15 : decode cX12_tritonesFrom 15 = .ok (.invokevirtual 442, 3) := by decide +kernel
theorem dX12_tritonesFrom_18 : decode cX12_tritonesFrom 18 = .ok (.ifCond .eq 7, 3) := by decide +kernel
theorem dX12_tritonesFrom_21 : decode cX12_tritonesFrom 21 = .ok (.iconst 1, 1) := by decide +kernel
theorem dX12_tritonesFrom_22 : decode cX12_tritonesFrom 22 = .ok (.goto 4, 3) := by decide +kernel
theorem dX12_tritonesFrom_25 : decode cX12_tritonesFrom 25 = .ok (.iconst 0, 1) := by decide +kernel
theorem dX12_tritonesFrom_26 : decode cX12_tritonesFrom 26 = .ok (.iadd, 1) := by decide +kernel
theorem dX12_tritonesFrom_27 : decode cX12_tritonesFrom 27 = .ok (.istore_n 2, 1) := by decide +kernel
theorem dX12_tritonesFrom_28 : decode cX12_tritonesFrom 28 = .ok (.iinc 3 1, 3) := by decide +kernel
theorem dX12_tritonesFrom_31 : decode cX12_tritonesFrom 31 = .ok (.goto (-27), 3) := by decide +kernel
theorem dX12_tritonesFrom_34 : decode cX12_tritonesFrom 34 = .ok (.iload_n 2, 1) := by decide +kernel
theorem dX12_tritonesFrom_35 : decode cX12_tritonesFrom 35 = .ok (.ireturn, 1) := by decide +kernel
theorem dX12_tritones_0 : decode cX12_tritones 0 = .ok (.aload_n 0, 1) := by decide +kernel
theorem dX12_tritones_1 : decode cX12_tritones 1 = .ok (.iconst 0, 1) := by decide +kernel
theorem dX12_tritones_2 : decode cX12_tritones 2 = .ok (.putfield 165, 3) := by decide +kernel
theorem dX12_tritones_5 : decode cX12_tritones 5 = .ok (.aload_n 0, 1) := by decide +kernel
theorem dX12_tritones_6 : decode cX12_tritones 6 = .ok (.iconst 0, 1) := by decide +kernel
theorem dX12_tritones_7 : decode cX12_tritones 7 = .ok (.invokevirtual 445, 3) := by decide +kernel
theorem dX12_tritones_10 : decode cX12_tritones 10 = .ok (.ireturn, 1) := by decide +kernel
theorem dX12_interval_0 : decode cX12_interval 0 = .ok (.aload_n 0, 1) := by decide +kernel
theorem dX12_interval_1 : decode cX12_interval 1 = .ok (.iconst 0, 1) := by decide +kernel
theorem dX12_interval_2 : decode cX12_interval 2 = .ok (.putfield 165, 3) := by decide +kernel
theorem dX12_interval_5 : decode cX12_interval 5 = .ok (.iload_n 1, 1) := by decide +kernel
theorem dX12_interval_6 : decode cX12_interval 6 = .ok (.i2l, 1) := by decide +kernel
theorem dX12_interval_7 : decode cX12_interval 7 = .ok (.lconst 0, 1) := by decide +kernel
theorem dX12_interval_8 : decode cX12_interval 8 = .ok (.ldc2_w 448, 3) := by decide +kernel
theorem dX12_interval_11 : decode cX12_interval 11 = .ok (.invokestatic 168, 3) := by decide +kernel
theorem dX12_interval_14 : decode cX12_interval 14 = .ok (.ifCond .ne 9, 3) := by decide +kernel
theorem dX12_interval_17 : decode cX12_interval 17 = .ok (.aload_n 0, 1) := by decide +kernel
theorem dX12_interval_18 : decode cX12_interval 18 = .ok (.iconst 1, 1) := by decide +kernel
theorem dX12_interval_19 : decode cX12_interval 19 = .ok (.invokevirtual 303, 3) := by decide +kernel
theorem dX12_interval_22 : decode cX12_interval 22 = .ok (.ireturn, 1) := by decide +kernel
theorem dX12_interval_23 : decode cX12_interval 23 = .ok (.iconst 0, 1) := by decide +kernel
theorem dX12_interval_24 : decode cX12_interval 24 = .ok (.istore_n 2, 1) := by decide +kernel
theorem dX12_interval_25 : decode cX12_interval 25 = .ok (.iconst 1, 1) := by decide +kernel
theorem dX12_interval_26 : decode cX12_interval 26 = .ok (.istore_n 3, 1) := by decide +kernel
theorem dX12_interval_27 : decode cX12_interval 27 = .ok (.iload_n 3, 1) := by decide +kernel
theorem dX12_interval_28 : decode cX12_interval 28 = .ok (.aload_n 0, 1) := by decide +kernel
theorem dX12_interval_29 : decode cX12_interval 29 = .ok (.getfield 320, 3) := by decide +kernel
theorem dX12_interval_32 : decode cX12_interval 32 = .ok (.if_icmp .ge 63, 3) := by decide +kernel
theorem dX12_interval_35 : decode cX12_interval 35 = .ok (.iload_n 2, 1) := by decide +kernel
theorem dX12_interval_36 : decode cX12_interval 36 = .ok (.aload_n 0, 1) := by decide +kernel
theorem dX12_interval_37 : decode cX12_interval 37 = .ok (.getfield 93, 3) := by decide +kernel
theorem dX12_interval_40 : decode cX12_interval 40 = .ok (.iload_n 3, 1) := by decide +kernel
theorem dX12_interval_41 : decode cX12_interval 41 = .ok (.iaload, 1) := by decide +kernel
theorem dX12_interval_42 : decode cX12_interval 42 = .ok (.bipush 12, 2) := by decide +kernel
theorem dX12_interval_44 : decode cX12_interval 44 = .ok (.if_icmp .eq 42, 3) := by decide +kernel
theorem dX12_interval_47 : decode cX12_interval 47 = .ok (.aload_n 0, 1) := by decide +kernel
theorem dX12_interval_48 : decode cX12_interval 48 = .ok (.getfield 93, 3) := by decide +kernel
theorem dX12_interval_51 : decode cX12_interval 51 = .ok (.iload_n 3, 1) := by decide +kernel
theorem dX12_interval_52 : decode cX12_interval 52 = .ok (.iconst 1, 1) := by decide +kernel
theorem dX12_interval_53 : decode cX12_interval 53 = .ok (.isub, 1) := by decide +kernel
theorem dX12_interval_54 : decode cX12_interval 54 = .ok (.iaload, 1) := by decide +kernel
theorem dX12_interval_55 : decode cX12_interval 55 = .ok (.bipush 12, 2) := by decide +kernel
theorem dX12_interval_57 : decode cX12_interval 57 = .ok (.if_icmp .eq 29, 3) := by decide +kernel
theorem dX12_interval_60 : decode cX12_interval 60 = .ok (.aload_n 0, 1) := by decide +kernel
theorem dX12_interval_61 : decode cX12_interval 61 = .ok (.getfield 93, 3) := by decide +kernel
theorem dX12_interval_64 : decode cX12_interval 64 = .ok (.iload_n 3, 1) := by decide +kernel
theorem dX12_interval_65 : decode cX12_interval 65 = .ok (.iaload, 1) := by decide +kernel
theorem dX12_interval_66 : decode cX12_interval 66 = .ok (.aload_n 0, 1) := by decide +kernel
theorem dX12_interval_67 : decode cX12_interval 67 = .ok (.getfield 93, 3) := by decide +kernel
theorem dX12_interval_70 : decode cX12_interval 70 = .ok (.iload_n 3, 1) := by decide +kernel
theorem dX12_interval_71 : decode cX12_interval 71 = .ok (.iconst 1, 1) := by decide +kernel
theorem dX12_interval_72 : decode cX12_interval 72 = .ok (.isub, 1) := by decide +kernel
theorem dX12_interval_73 : decode cX12_interval 73 = .ok (.iaload, 1) := by decide +kernel
theorem dX12_interval_74 : decode cX12_interval 74 = .ok (.isub, 1) := by decide +kernel
theorem dX12_interval_75 : decode cX12_interval 75 = .ok (.invokestatic 364, 3) := by decide +kernel
theorem dX12_interval_78 : decode cX12_interval 78 = .ok (.iload_n 1, 1) := by decide +kernel
theorem dX12_interval_79 : decode cX12_interval 79 = .ok (.if_icmp .ne 7, 3) := by decide +kernel
theorem dX12_interval_82 : decode cX12_interval 82 = .ok (.iconst 1, 1) := by decide +kernel
theorem dX12_interval_83 : decode cX12_interval 83 = .ok (.goto 4, 3) := by decide +kernel
theorem dX12_interval_86 : decode cX12_interval 86 = .ok (.iconst 0, 1) := by decide +kernel
theorem dX12_interval_87 : decode cX12_interval 87 = .ok (.iadd, 1) := by decide +kernel
theorem dX12_interval_88 : decode cX12_interval 88 = .ok (.istore_n 2, 1) := by decide +kernel
theorem dX12_interval_89 : decode cX12_interval 89 = .ok (.iinc 3 1, 3) := by decide +kernel
theorem dX12_interval_92 : decode cX12_interval 92 = .ok (.goto (-65), 3) := by decide +kernel
theorem dX12_interval_95 : decode cX12_interval 95 = .ok (.iload_n 2, 1) := by decide +kernel
theorem dX12_interval_96 : decode cX12_interval 96 = .ok (.ireturn, 1) := by decide +kernel
theorem dX12_own_0 : decode cX12_own 0 = .ok (.aload_n 0, 1) := by decide +kernel
theorem dX12_own_1 : decode cX12_own 1 = .ok (.iconst 0, 1) := by decide +kernel
theorem dX12_own_2 : decode cX12_own 2 = .ok (.putfield 165, 3) := by decide +kernel
theorem dX12_own_5 : decode cX12_own 5 = .ok (.aload_n 0, 1) := by decide +kernel
theorem dX12_own_6 : decode cX12_own 6 = .ok (.iload_n 1, 1) := by decide +kernel
theorem dX12_own_7 : decode cX12_own 7 = .ok (.invokevirtual 382, 3) := by decide +kernel
theorem dX12_own_10 : decode cX12_own 10 = .ok (.ifCond .eq 20, 3) := by decide +kernel
theorem dX12_own_13 : decode cX12_own 13 = .ok (.iload_n 2, 1) := by decide +kernel
theorem dX12_own_14 : decode cX12_own 14 = .ok (.i2l, 1) := by decide +kernel
theorem dX12_own_15 : decode cX12_own 15 = .ok (.lconst 0, 1) := by decide +kernel
theorem dX12_own_16 : decode cX12_own 16 = .ok (.aload_n 0, 1) := by decide +kernel
theorem dX12_own_17 : decode cX12_own 17 = .ok (.iload_n 1, 1) := by decide +kernel
theorem dX12_own_18 : decode cX12_own 18 = .ok (.invokevirtual 355, 3) := by decide +kernel
theorem dX12_own_21 : decode cX12_own 21 = .ok (.iconst 1, 1) := by decide +kernel
theorem dX12_own_22 : decode cX12_own 22 = .ok (.isub, 1) := by decide +kernel
theorem dX12_own_23 : decode cX12_own 23 = .ok (.i2l, 1) := by decide +kernel
theorem dX12_own_24 : decode cX12_own 24 = .ok (.invokestatic 168, 3) := by decide +kernel
theorem dX12_own_27 : decode cX12_own 27 = .ok (.ifCond .ne 9, 3) := by decide +kernel
theorem dX12_own_30 : decode cX12_own 30 = .ok (.aload_n 0, 1) := by decide +kernel
theorem dX12_own_31 : decode cX12_own 31 = .ok (.iconst 1, 1) := by decide +kernel
theorem dX12_own_32 : decode cX12_own 32 = .ok (.invokevirtual 303, 3) := by decide +kernel
theorem dX12_own_35 : decode cX12_own 35 = .ok (.ireturn, 1) := by decide +kernel
theorem dX12_own_36 : decode cX12_own 36 = .ok (.iload_n 2, 1) := by decide +kernel
theorem dX12_own_37 : decode cX12_own 37 = .ok (.istore_n 3, 1) := by decide +kernel
theorem dX12_own_38 : decode cX12_own 38 = .ok (.iconst 0, 1) := by decide +kernel
theorem dX12_own_39 : decode cX12_own 39 = .ok (.istore 4, 2) := by decide +kernel
theorem dX12_own_41 : decode cX12_own 41 = .ok (.aload_n 0, 1) := by decide +kernel
theorem dX12_own_42 : decode cX12_own 42 = .ok (.getfield 96, 3) := by decide +kernel
theorem dX12_own_45 : decode cX12_own 45 = .ok (.iload 4, 2) := by decide +kernel
theorem dX12_own_47 : decode cX12_own 47 = .ok (.iaload, 1) := by decide +kernel
theorem dX12_own_48 : decode cX12_own 48 = .ok (.iload_n 1, 1) := by decide +kernel
theorem dX12_own_49 : decode cX12_own 49 = .ok (.if_icmp .ne 7, 3) := by decide +kernel
theorem dX12_own_52 : decode cX12_own 52 = .ok (.iload_n 3, 1) := by decide +kernel
theorem dX12_own_53 : decode cX12_own 53 = .ok (.ifCond .le 28, 3) := by decide +kernel
theorem dX12_own_56 : decode cX12_own 56 = .ok (.iload_n 3, 1) := by decide +kernel
theorem dX12_own_57 : decode cX12_own 57 = .ok (.aload_n 0, 1) := by decide +kernel
theorem dX12_own_58 : decode cX12_own 58 = .ok (.getfield 96, 3) := by decide +kernel
theorem dX12_own_61 : decode cX12_own 61 = .ok (.iload 4, 2) := by decide +kernel
theorem dX12_own_63 : decode cX12_own 63 = .ok (.iaload, 1) := by decide +kernel
theorem dX12_own_64 : decode cX12_own 64 = .ok (.iload_n 1, 1) := by decide +kernel
theorem dX12_own_65 : decode cX12_own 65 = .ok (.if_icmp .ne 7, 3) := by decide +kernel
theorem dX12_own_68 : decode cX12_own 68 = .ok (.iconst 1, 1) := by decide +kernel
theorem dX12_own_69 : decode cX12_own 69 = .ok (.goto 4, 3) := by decide +kernel
theorem dX12_own_72 : decode cX12_own 72 = .ok (.iconst 0, 1) := by decide +kernel
theorem dX12_own_73 : decode cX12_own 73 = .ok (.isub, 1) := by decide +kernel
theorem dX12_own_74 : decode cX12_own 74 = .ok (.istore_n 3, 1) := by decide +kernel
theorem dX12_own_75 : decode cX12_own 75 = .ok (.iinc 4 1, 3) := by decide +kernel
theorem dX12_own_78 : decode cX12_own 78 = .ok (.goto (-37), 3) := by decide +kernel
theorem dX12_own_81 : decode cX12_own 81 = .ok (.aload_n 0, 1) := by decide +kernel
theorem dX12_own_82 : decode cX12_own 82 = .ok (.getfield 93, 3) := by decide +kernel
theorem dX12_own_85 : decode cX12_own 85 = .ok (.iload 4, 2) := by decide +kernel
theorem dX12_own_87 : decode cX12_own 87 = .ok (.iaload, 1) := by decide +kernel
theorem dX12_own_88 : decode cX12_own 88 = .ok (.ireturn, 1) := by decide +kernel
theorem dX12_breath_0 : decode cX12_breath 0 = .ok (.aload_n 0, 1) := by decide +kernel
theorem dX12_breath_1 : decode cX12_breath 1 = .ok (.iconst 0, 1) := by decide +kernel
theorem dX12_breath_2 : decode cX12_breath 2 = .ok (.putfield 165, 3) := by decide +kernel
theorem dX12_breath_5 : decode cX12_breath 5 = .ok (.iload_n 1, 1) := by decide +kernel
theorem dX12_breath_6 : decode cX12_breath 6 = .ok (.ifCond .lt 8, 3) := by decide +kernel
theorem dX12_breath_9 : decode cX12_breath 9 = .ok (.iload_n 1, 1) := by decide +kernel
theorem dX12_breath_10 : decode cX12_breath 10 = .ok (.iconst 1, 1) := by decide +kernel
theorem dX12_breath_11 : decode cX12_breath 11 = .ok (.if_icmp .le 9, 3) := by decide +kernel
theorem dX12_breath_14 : decode cX12_breath 14 = .ok (.aload_n 0, 1) := by decide +kernel
theorem dX12_breath_15 : decode cX12_breath 15 = .ok (.iconst 1, 1) := by decide +kernel
theorem dX12_breath_16 : decode cX12_breath 16 = .ok (.invokevirtual 303, 3) := by decide +kernel
theorem dX12_breath_19 : decode cX12_breath 19 = .ok (.ireturn, 1) := by decide +kernel
theorem dX12_breath_20 : decode cX12_breath 20 = .ok (.iconst 0, 1) := by decide +kernel
theorem dX12_breath_21 : decode cX12_breath 21 = .ok (.istore_n 2, 1) := by decide +kernel
theorem dX12_breath_22 : decode cX12_breath 22 = .ok (.iconst (-1), 1) := by decide +kernel
theorem dX12_breath_23 : decode cX12_breath 23 = .ok (.istore_n 3, 1) := by decide +kernel
theorem dX12_breath_24 : decode cX12_breath 24 = .ok (.iconst 0, 1) := by decide +kernel
theorem dX12_breath_25 : decode cX12_breath 25 = .ok (.istore 4, 2) := by decide +kernel
theorem dX12_breath_27 : decode cX12_breath 27 = .ok (.iconst 0, 1) := by decide +kernel
theorem dX12_breath_28 : decode cX12_breath 28 = .ok (.istore 5, 2) := by decide +kernel
theorem dX12_breath_30 : decode cX12_breath 30 = .ok (.iload 5, 2) := by decide +kernel
theorem dX12_breath_32 : decode cX12_breath 32 = .ok (.aload_n 0, 1) := by decide +kernel
theorem dX12_breath_33 : decode cX12_breath 33 = .ok (.getfield 320, 3) := by decide +kernel
theorem dX12_breath_36 : decode cX12_breath 36 = .ok (.if_icmp .ge 51, 3) := by decide +kernel
theorem dX12_breath_39 : decode cX12_breath 39 = .ok (.aload_n 0, 1) := by decide +kernel
theorem dX12_breath_40 : decode cX12_breath 40 = .ok (.getfield 93, 3) := by decide +kernel
theorem dX12_breath_43 : decode cX12_breath 43 = .ok (.iload 5, 2) := by decide +kernel
theorem dX12_breath_45 : decode cX12_breath 45 = .ok (.iaload, 1) := by decide +kernel
theorem dX12_breath_46 : decode cX12_breath 46 = .ok (.bipush 12, 2) := by decide +kernel
theorem dX12_breath_48 : decode cX12_breath 48 = .ok (.if_icmp .ne 7, 3) := by decide +kernel
theorem dX12_breath_51 : decode cX12_breath 51 = .ok (.iconst 0, 1) := by decide +kernel
theorem dX12_breath_52 : decode cX12_breath 52 = .ok (.goto 7, 3) := by decide +kernel
theorem dX12_breath_55 : decode cX12_breath 55 = .ok (.iload 4, 2) := by decide +kernel
theorem dX12_breath_57 : decode cX12_breath 57 = .ok (.iconst 1, 1) := by decide +kernel
theorem dX12_breath_58 : decode cX12_breath 58 = .ok (.iadd, 1) := by decide +kernel
theorem dX12_breath_59 : decode cX12_breath 59 = .ok (.istore 4, 2) := by decide +kernel
theorem dX12_breath_61 : decode cX12_breath 61 = .ok (.iload 4, 2) := by decide +kernel
theorem dX12_breath_63 : decode cX12_breath 63 = .ok (.iload_n 2, 1) := by decide +kernel
theorem dX12_breath_64 : decode cX12_breath 64 = .ok (.if_icmp .gt 6, 3) := by decide +kernel
theorem dX12_breath_67 : decode cX12_breath 67 = .ok (.goto 14, 3) := by decide +kernel
theorem dX12_breath_70 : decode cX12_breath 70 = .ok (.iload 4, 2) := by decide +kernel
theorem dX12_breath_72 : decode cX12_breath 72 = .ok (.istore_n 2, 1) := by decide +kernel
theorem dX12_breath_73 : decode cX12_breath 73 = .ok (.iload 5, 2) := by decide +kernel
theorem dX12_breath_75 : decode cX12_breath 75 = .ok (.iload 4, 2) := by decide +kernel
theorem dX12_breath_77 : decode cX12_breath 77 = .ok (.isub, 1) := by decide +kernel
theorem dX12_breath_78 : decode cX12_breath 78 = .ok (.iconst 1, 1) := by decide +kernel
theorem dX12_breath_79 : decode cX12_breath 79 = .ok (.iadd, 1) := by decide +kernel
theorem dX12_breath_80 : decode cX12_breath 80 = .ok (.istore_n 3, 1) := by decide +kernel
theorem dX12_breath_81 : decode cX12_breath 81 = .ok (.iinc 5 1, 3) := by decide +kernel
theorem dX12_breath_84 : decode cX12_breath 84 = .ok (.goto (-54), 3) := by decide +kernel
theorem dX12_breath_87 : decode cX12_breath 87 = .ok (.iload_n 1, 1) := by decide +kernel
theorem dX12_breath_88 : decode cX12_breath 88 = .ok (.ifCond .ne 7, 3) := by decide +kernel
theorem dX12_breath_91 : decode cX12_breath 91 = .ok (.iload_n 2, 1) := by decide +kernel
theorem dX12_breath_92 : decode cX12_breath 92 = .ok (.goto 4, 3) := by decide +kernel
theorem dX12_breath_95 : decode cX12_breath 95 = .ok (.iload_n 3, 1) := by decide +kernel
theorem dX12_breath_96 : decode cX12_breath 96 = .ok (.ireturn, 1) := by decide +kernel
theorem dX12_roundAbout_0 : decode cX12_roundAbout 0 = .ok (.iload_n 1, 1) := by decide +kernel
theorem dX12_roundAbout_1 : decode cX12_roundAbout 1 = .ok (.istore_n 3, 1) := by decide +kernel
theorem dX12_roundAbout_2 : decode cX12_roundAbout 2 = .ok (.iload_n 2, 1) := by decide +kernel
theorem dX12_roundAbout_3 : decode cX12_roundAbout 3 = .ok (.istore 4, 2) := by decide +kernel
theorem dX12_roundAbout_5 : decode cX12_roundAbout 5 = .ok (.iload_n 3, 1) := by decide +kernel
theorem dX12_roundAbout_6 : decode cX12_roundAbout 6 = .ok (.ifCond .lt 37, 3) := by decide +kernel
theorem dX12_roundAbout_9 : decode cX12_roundAbout 9 = .ok (.iload 4, 2) := by decide +kernel
theorem dX12_roundAbout_11 : decode cX12_roundAbout 11 = .ok (.aload_n 0, 1) := by decide +kernel
theorem dX12_roundAbout_12 : decode cX12_roundAbout 12 = .ok (.getfield 320, 3) := by decide +kernel
theorem dX12_roundAbout_15 : decode cX12_roundAbout 15 = .ok (.if_icmp .ge 28, 3) := by decide +kernel
theorem dX12_roundAbout_18 : decode cX12_roundAbout 18 = .ok (.aload_n 0, 1) := by decide +kernel
theorem dX12_roundAbout_19 : decode cX12_roundAbout 19 = .ok (.getfield 93, 3) := by decide +kernel
theorem dX12_roundAbout_22 : decode cX12_roundAbout 22 = .ok (.iload_n 3, 1) := by decide +kernel
theorem dX12_roundAbout_23 : decode cX12_roundAbout 23 = .ok (.iaload, 1) := by decide +kernel
theorem dX12_roundAbout_24 : decode cX12_roundAbout 24 = .ok (.aload_n 0, 1) := by decide +kernel
theorem dX12_roundAbout_25 : decode cX12_roundAbout 25 = .ok (.getfield 93, 3) := by decide +kernel
theorem dX12_roundAbout_28 : decode cX12_roundAbout 28 = .ok (.iload 4, 2) := by decide +kernel
theorem dX12_roundAbout_30 : decode cX12_roundAbout 30 = .ok (.iaload, 1) := by decide +kernel
theorem dX12_roundAbout_31 : decode cX12_roundAbout 31 = .ok (.if_icmp .ne 12, 3) := by decide +kernel
theorem dX12_roundAbout_34 : decode cX12_roundAbout 34 = .ok (.iinc 3 (-1), 3) := by decide +kernel
theorem dX12_roundAbout_37 : decode cX12_roundAbout 37 = .ok (.iinc 4 1, 3) := by decide +kernel
theorem dX12_roundAbout_40 : decode cX12_roundAbout 40 = .ok (.goto (-35), 3) := by decide +kernel
theorem dX12_roundAbout_43 : decode cX12_roundAbout 43 = .ok (.iload 4, 2) := by decide +kernel
theorem dX12_roundAbout_45 : decode cX12_roundAbout 45 = .ok (.iload_n 3, 1) := by decide +kernel
theorem dX12_roundAbout_46 : decode cX12_roundAbout 46 = .ok (.isub, 1) := by decide +kernel
theorem dX12_roundAbout_47 : decode cX12_roundAbout 47 = .ok (.iconst 1, 1) := by decide +kernel
theorem dX12_roundAbout_48 : decode cX12_roundAbout 48 = .ok (.isub, 1) := by decide +kernel
theorem dX12_roundAbout_49 : decode cX12_roundAbout 49 = .ok (.ireturn, 1) := by decide +kernel
theorem dX12_palindrome_0 : decode cX12_palindrome 0 = .ok (.aload_n 0, 1) := by decide +kernel
theorem dX12_palindrome_1 : decode cX12_palindrome 1 = .ok (.iconst 0, 1) := by decide +kernel
theorem dX12_palindrome_2 : decode cX12_palindrome 2 = .ok (.putfield 165, 3) := by decide +kernel
theorem dX12_palindrome_5 : decode cX12_palindrome 5 = .ok (.iconst 0, 1) := by decide +kernel
theorem dX12_palindrome_6 : decode cX12_palindrome 6 = .ok (.istore_n 1, 1) := by decide +kernel
theorem dX12_palindrome_7 : decode cX12_palindrome 7 = .ok (.iconst 0, 1) := by decide +kernel
theorem dX12_palindrome_8 : decode cX12_palindrome 8 = .ok (.istore_n 2, 1) := by decide +kernel
theorem dX12_palindrome_9 : decode cX12_palindrome 9 = .ok (.iload_n 2, 1) := by decide +kernel
theorem dX12_palindrome_10 : decode cX12_palindrome 10 = .ok (.aload_n 0, 1) := by decide +kernel
theorem dX12_palindrome_11 : decode cX12_palindrome 11 = .ok (.getfield 320, 3) := by decide +kernel
theorem dX12_palindrome_14 : decode cX12_palindrome 14 = .ok (.if_icmp .ge 31, 3) := by decide +kernel
theorem dX12_palindrome_17 : decode cX12_palindrome 17 = .ok (.iload_n 1, 1) := by decide +kernel
theorem dX12_palindrome_18 : decode cX12_palindrome 18 = .ok (.aload_n 0, 1) := by decide +kernel
theorem dX12_palindrome_19 : decode cX12_palindrome 19 = .ok (.iload_n 2, 1) := by decide +kernel
theorem dX12_palindrome_20 : decode cX12_palindrome 20 = .ok (.iload_n 2, 1) := by decide +kernel
theorem dX12_palindrome_21 : decode cX12_palindrome 21 = .ok (.invokevirtual 450, 3) := by decide +kernel
theorem dX12_palindrome_24 : decode cX12_palindrome 24 = .ok (.aload_n 0, 1) := by decide +kernel
theorem dX12_palindrome_25 : decode cX12_palindrome 25 = .ok (.iload_n 2, 1) := by decide +kernel
theorem dX12_palindrome_26 : decode cX12_palindrome 26 = .ok (.iload_n 2, 1) := by decide +kernel
theorem dX12_palindrome_27 : decode cX12_palindrome 27 = .ok (.iconst 1, 1) := by decide +kernel
theorem dX12_palindrome_28 : decode cX12_palindrome 28 = .ok (.iadd, 1) := by decide +kernel
theorem dX12_palindrome_29 : decode cX12_palindrome 29 = .ok (.invokevirtual 450, 3) := by decide +kernel
theorem dX12_palindrome_32 : decode cX12_palindrome 32 = .ok (.invokestatic 453, 3) := by decide +kernel
theorem dX12_palindrome_35 : decode cX12_palindrome 35 = .ok (.invokestatic 453, 3) := by decide +kernel
theorem dX12_palindrome_38 : decode cX12_palindrome 38 = .ok (.istore_n 1, 1) := by decide +kernel
theorem dX12_palindrome_39 : decode cX12_palindrome 39 = .ok (.iinc 2 1, 3) := by decide +kernel
theorem dX12_palindrome_42 : decode cX12_palindrome 42 = .ok (.goto (-33), 3) := by decide +kernel
theorem dX12_palindrome_45 : decode cX12_palindrome 45 = .ok (.iload_n 1, 1) := by decide +kernel
theorem dX12_palindrome_46 : decode cX12_palindrome 46 = .ok (.ireturn, 1) := by decide +kernel
theorem dX12_timesOf_0 : decode cX12_timesOf 0 = .ok (.iconst 0, 1) := by decide +kernel
theorem dX12_timesOf_1 : decode cX12_timesOf 1 = .ok (.istore_n 2, 1) := by decide +kernel
theorem dX12_timesOf_2 : decode cX12_timesOf 2 = .ok (.iconst 0, 1) := by decide +kernel
theorem dX12_timesOf_3 : decode cX12_timesOf 3 = .ok (.istore_n 3, 1) := by decide +kernel
theorem dX12_timesOf_4 : decode cX12_timesOf 4 = .ok (.iload_n 3, 1) := by decide +kernel
theorem dX12_timesOf_5 : decode cX12_timesOf 5 = .ok (.aload_n 0, 1) := by decide +kernel
theorem dX12_timesOf_6 : decode cX12_timesOf 6 = .ok (.getfield 320, 3) := by decide +kernel
theorem dX12_timesOf_9 : decode cX12_timesOf 9 = .ok (.if_icmp .ge 27, 3) := by decide +kernel
theorem dX12_timesOf_12 : decode cX12_timesOf 12 = .ok (.iload_n 2, 1) := by decide +kernel
theorem dX12_timesOf_13 : decode cX12_timesOf 13 = .ok (.aload_n 0, 1) := by decide +kernel
theorem dX12_timesOf_14 : decode cX12_timesOf 14 = .ok (.getfield 93, 3) := by decide +kernel
theorem dX12_timesOf_17 : decode cX12_timesOf 17 = .ok (.iload_n 3, 1) := by decide +kernel
theorem dX12_timesOf_18 : decode cX12_timesOf 18 = .ok (.iaload, 1) := by decide +kernel
theorem dX12_timesOf_19 : decode cX12_timesOf 19 = .ok (.iload_n 1, 1) := by decide +kernel
theorem dX12_timesOf_20 : decode cX12_timesOf 20 = .ok (.if_icmp .ne 7, 3) := by decide +kernel
theorem dX12_timesOf_23 : decode cX12_timesOf 23 = .ok (.iconst 1, 1) := by decide +kernel
theorem dX12_timesOf_24 : decode cX12_timesOf 24 = .ok (.goto 4, 3) := by decide +kernel
theorem dX12_timesOf_27 : decode cX12_timesOf 27 = .ok (.iconst 0, 1) := by decide +kernel
theorem dX12_timesOf_28 : decode cX12_timesOf 28 = .ok (.iadd, 1) := by decide +kernel
theorem dX12_timesOf_29 : decode cX12_timesOf 29 = .ok (.istore_n 2, 1) := by decide +kernel
theorem dX12_timesOf_30 : decode cX12_timesOf 30 = .ok (.iinc 3 1, 3) := by decide +kernel
theorem dX12_timesOf_33 : decode cX12_timesOf 33 = .ok (.goto (-29), 3) := by decide +kernel
theorem dX12_timesOf_36 : decode cX12_timesOf 36 = .ok (.iload_n 2, 1) := by decide +kernel
theorem dX12_timesOf_37 : decode cX12_timesOf 37 = .ok (.ireturn, 1) := by decide +kernel
theorem dX12_tonic_0 : decode cX12_tonic 0 = .ok (.aload_n 0, 1) := by decide +kernel
theorem dX12_tonic_1 : decode cX12_tonic 1 = .ok (.iconst 0, 1) := by decide +kernel
theorem dX12_tonic_2 : decode cX12_tonic 2 = .ok (.putfield 165, 3) := by decide +kernel
theorem dX12_tonic_5 : decode cX12_tonic 5 = .ok (.iconst (-1), 1) := by decide +kernel
theorem dX12_tonic_6 : decode cX12_tonic 6 = .ok (.istore_n 1, 1) := by decide +kernel
theorem dX12_tonic_7 : decode cX12_tonic 7 = .ok (.iconst 0, 1) := by decide +kernel
theorem dX12_tonic_8 : decode cX12_tonic 8 = .ok (.istore_n 2, 1) := by decide +kernel
theorem dX12_tonic_9 : decode cX12_tonic 9 = .ok (.iconst 0, 1) := by decide +kernel
theorem dX12_tonic_10 : decode cX12_tonic 10 = .ok (.istore_n 3, 1) := by decide +kernel
theorem dX12_tonic_11 : decode cX12_tonic 11 = .ok (.iload_n 3, 1) := by decide +kernel
theorem dX12_tonic_12 : decode cX12_tonic 12 = .ok (.bipush 12, 2) := by decide +kernel
theorem dX12_tonic_14 : decode cX12_tonic 14 = .ok (.if_icmp .ge 29, 3) := by decide +kernel
theorem dX12_tonic_17 : decode cX12_tonic 17 = .ok (.aload_n 0, 1) := by decide +kernel
theorem dX12_tonic_18 : decode cX12_tonic 18 = .ok (.iload_n 3, 1) := by decide +kernel
theorem dX12_tonic_19 : decode cX12_tonic 19 = .ok (.invokevirtual 456, 3) := by decide +kernel
theorem dX12_tonic_22 : decode cX12_tonic 22 = .ok (.iload_n 2, 1) := by decide +kernel
theorem dX12_tonic_23 : decode cX12_tonic 23 = .ok (.if_icmp .gt 6, 3) := by decide +kernel
theorem dX12_tonic_26 : decode cX12_tonic 26 = .ok (.goto 11, 3) := by decide +kernel
theorem dX12_tonic_29 : decode cX12_tonic 29 = .ok (.iload_n 3, 1) := by decide +kernel
theorem dX12_tonic_30 : decode cX12_tonic 30 = .ok (.istore_n 1, 1) := by decide +kernel
theorem dX12_tonic_31 : decode cX12_tonic 31 = .ok (.aload_n 0, 1) := by decide +kernel
theorem dX12_tonic_32 : decode cX12_tonic 32 = .ok (.iload_n 3, 1) := by decide +kernel
theorem dX12_tonic_33 : decode cX12_tonic 33 = .ok (.invokevirtual 456, 3) := by decide +kernel
theorem dX12_tonic_36 : decode cX12_tonic 36 = .ok (.istore_n 2, 1) := by decide +kernel
theorem dX12_tonic_37 : decode cX12_tonic 37 = .ok (.iinc 3 1, 3) := by decide +kernel
theorem dX12_tonic_40 : decode cX12_tonic 40 = .ok (.goto (-29), 3) := by decide +kernel
theorem dX12_tonic_43 : decode cX12_tonic 43 = .ok (.iload_n 1, 1) := by decide +kernel
theorem dX12_tonic_44 : decode cX12_tonic 44 = .ok (.ireturn, 1) := by decide +kernel
theorem dX12_likeNow_0 : decode cX12_likeNow 0 = .ok (.iconst 0, 1) := by decide +kernel
theorem dX12_likeNow_1 : decode cX12_likeNow 1 = .ok (.istore_n 1, 1) := by decide +kernel
theorem dX12_likeNow_2 : decode cX12_likeNow 2 = .ok (.iload_n 1, 1) := by decide +kernel
theorem dX12_likeNow_3 : decode cX12_likeNow 3 = .ok (.bipush 24, 2) := by decide +kernel
theorem dX12_likeNow_5 : decode cX12_likeNow 5 = .ok (.if_icmp .gt 16, 3) := by decide +kernel
theorem dX12_likeNow_8 : decode cX12_likeNow 8 = .ok (.aload_n 0, 1) := by decide +kernel
theorem dX12_likeNow_9 : decode cX12_likeNow 9 = .ok (.getfield 114, 3) := by decide +kernel
theorem dX12_likeNow_12 : decode cX12_likeNow 12 = .ok (.iload_n 1, 1) := by decide +kernel
theorem dX12_likeNow_13 : decode cX12_likeNow 13 = .ok (.iconst 0, 1) := by decide +kernel
theorem dX12_likeNow_14 : decode cX12_likeNow 14 = .ok (.iastore, 1) := by decide +kernel
theorem dX12_likeNow_15 : decode cX12_likeNow 15 = .ok (.iinc 1 1, 3) := by decide +kernel
theorem dX12_likeNow_18 : decode cX12_likeNow 18 = .ok (.goto (-16), 3) := by decide +kernel
theorem dX12_likeNow_21 : decode cX12_likeNow 21 = .ok (.iconst 0, 1) := by decide +kernel
theorem dX12_likeNow_22 : decode cX12_likeNow 22 = .ok (.istore_n 1, 1) := by decide +kernel
theorem dX12_likeNow_23 : decode cX12_likeNow 23 = .ok (.iload_n 1, 1) := by decide +kernel
theorem dX12_likeNow_24 : decode cX12_likeNow 24 = .ok (.aload_n 0, 1) := by decide +kernel
theorem dX12_likeNow_25 : decode cX12_likeNow 25 = .ok (.getfield 320, 3) := by decide +kernel
theorem dX12_likeNow_28 : decode cX12_likeNow 28 = .ok (.if_icmp .ge 117, 3) := by decide +kernel
theorem dX12_likeNow_31 : decode cX12_likeNow 31 = .ok (.aload_n 0, 1) := by decide +kernel
theorem dX12_likeNow_32 : decode cX12_likeNow 32 = .ok (.getfield 117, 3) := by decide +kernel
theorem dX12_likeNow_35 : decode cX12_likeNow 35 = .ok (.iconst 0, 1) := by decide +kernel
theorem dX12_likeNow_36 : decode cX12_likeNow 36 = .ok (.iconst 0, 1) := by decide +kernel
theorem dX12_likeNow_37 : decode cX12_likeNow 37 = .ok (.iastore, 1) := by decide +kernel
theorem dX12_likeNow_38 : decode cX12_likeNow 38 = .ok (.iconst 1, 1) := by decide +kernel
theorem dX12_likeNow_39 : decode cX12_likeNow 39 = .ok (.istore_n 2, 1) := by decide +kernel
theorem dX12_likeNow_40 : decode cX12_likeNow 40 = .ok (.iload_n 2, 1) := by decide +kernel
theorem dX12_likeNow_41 : decode cX12_likeNow 41 = .ok (.aload_n 0, 1) := by decide +kernel
theorem dX12_likeNow_42 : decode cX12_likeNow 42 = .ok (.getfield 40, 3) := by decide +kernel
theorem dX12_likeNow_45 : decode cX12_likeNow 45 = .ok (.iconst 2, 1) := by decide +kernel
theorem dX12_likeNow_46 : decode cX12_likeNow 46 = .ok (.iaload, 1) := by decide +kernel
theorem dX12_likeNow_47 : decode cX12_likeNow 47 = .ok (.if_icmp .gt 62, 3) := by decide +kernel
theorem dX12_likeNow_50 : decode cX12_likeNow 50 = .ok (.aload_n 0, 1) := by decide +kernel
theorem dX12_likeNow_51 : decode cX12_likeNow 51 = .ok (.getfield 117, 3) := by decide +kernel
theorem dX12_likeNow_54 : decode cX12_likeNow 54 = .ok (.iload_n 2, 1) := by decide +kernel
theorem dX12_likeNow_55 : decode cX12_likeNow 55 = .ok (.aload_n 0, 1) := by decide +kernel
theorem dX12_likeNow_56 : decode cX12_likeNow 56 = .ok (.getfield 93, 3) := by decide +kernel
theorem dX12_likeNow_59 : decode cX12_likeNow 59 = .ok (.iload_n 1, 1) := by decide +kernel
theorem dX12_likeNow_60 : decode cX12_likeNow 60 = .ok (.iaload, 1) := by decide +kernel
theorem dX12_likeNow_61 : decode cX12_likeNow 61 = .ok (.aload_n 0, 1) := by decide +kernel
theorem dX12_likeNow_62 : decode cX12_likeNow 62 = .ok (.getfield 61, 3) := by decide +kernel
theorem dX12_likeNow_65 : decode cX12_likeNow 65 = .ok (.iload_n 2, 1) := by decide +kernel
theorem dX12_likeNow_66 : decode cX12_likeNow 66 = .ok (.iconst 1, 1) := by decide +kernel
theorem dX12_likeNow_67 : decode cX12_likeNow 67 = .ok (.isub, 1) := by decide +kernel
theorem dX12_likeNow_68 : decode cX12_likeNow 68 = .ok (.iaload, 1) := by decide +kernel
theorem dX12_likeNow_69 : decode cX12_likeNow 69 = .ok (.if_icmp .ne 16, 3) := by decide +kernel
theorem dX12_likeNow_72 : decode cX12_likeNow 72 = .ok (.aload_n 0, 1) := by decide +kernel
theorem dX12_likeNow_73 : decode cX12_likeNow 73 = .ok (.getfield 114, 3) := by decide +kernel
theorem dX12_likeNow_76 : decode cX12_likeNow 76 = .ok (.iload_n 2, 1) := by decide +kernel
theorem dX12_likeNow_77 : decode cX12_likeNow 77 = .ok (.iconst 1, 1) := by decide +kernel
theorem dX12_likeNow_78 : decode cX12_likeNow 78 = .ok (.isub, 1) := by decide +kernel
theorem dX12_likeNow_79 : decode cX12_likeNow 79 = .ok (.iaload, 1) := by decide +kernel
theorem dX12_likeNow_80 : decode cX12_likeNow 80 = .ok (.iconst 1, 1) := by decide +kernel
theorem dX12_likeNow_81 : decode cX12_likeNow 81 = .ok (.iadd, 1) := by decide +kernel
theorem dX12_likeNow_82 : decode cX12_likeNow 82 = .ok (.goto 20, 3) := by decide +kernel
theorem dX12_likeNow_85 : decode cX12_likeNow 85 = .ok (.aload_n 0, 1) := by decide +kernel
theorem dX12_likeNow_86 : decode cX12_likeNow 86 = .ok (.getfield 114, 3) := by decide +kernel
theorem dX12_likeNow_89 : decode cX12_likeNow 89 = .ok (.iload_n 2, 1) := by decide +kernel
theorem dX12_likeNow_90 : decode cX12_likeNow 90 = .ok (.iaload, 1) := by decide +kernel
theorem dX12_likeNow_91 : decode cX12_likeNow 91 = .ok (.aload_n 0, 1) := by decide +kernel
theorem dX12_likeNow_92 : decode cX12_likeNow 92 = .ok (.getfield 117, 3) := by decide +kernel
theorem dX12_likeNow_95 : decode cX12_likeNow 95 = .ok (.iload_n 2, 1) := by decide +kernel
theorem dX12_likeNow_96 : decode cX12_likeNow 96 = .ok (.iconst 1, 1) := by decide +kernel
theorem dX12_likeNow_97 : decode cX12_likeNow 97 = .ok (.isub, 1) := by decide +kernel
theorem dX12_likeNow_98 : decode cX12_likeNow 98 = .ok (.iaload, 1) := by decide +kernel
theorem dX12_likeNow_99 : decode cX12_likeNow 99 = .ok (.invokestatic 453, 3) := by decide +kernel
theorem dX12_likeNow_102 : decode cX12_likeNow 102 = .ok (.iastore, 1) := by decide +kernel
theorem dX12_likeNow_103 : decode cX12_likeNow 103 = .ok (.iinc 2 1, 3) := by decide +kernel
theorem dX12_likeNow_106 : decode cX12_likeNow 106 = .ok (.goto (-66), 3) := by decide +kernel
theorem dX12_likeNow_109 : decode cX12_likeNow 109 = .ok (.iconst 0, 1) := by decide +kernel
theorem dX12_likeNow_110 : decode cX12_likeNow 110 = .ok (.istore_n 2, 1) := by decide +kernel
theorem dX12_likeNow_111 : decode cX12_likeNow 111 = .ok (.iload_n 2, 1) := by decide +kernel
theorem dX12_likeNow_112 : decode cX12_likeNow 112 = .ok (.aload_n 0, 1) := by decide +kernel
theorem dX12_likeNow_113 : decode cX12_likeNow 113 = .ok (.getfield 40, 3) := by decide +kernel
theorem dX12_likeNow_116 : decode cX12_likeNow 116 = .ok (.iconst 2, 1) := by decide +kernel
theorem dX12_likeNow_117 : decode cX12_likeNow 117 = .ok (.iaload, 1) := by decide +kernel
theorem dX12_likeNow_118 : decode cX12_likeNow 118 = .ok (.if_icmp .gt 21, 3) := by decide +kernel
theorem dX12_likeNow_121 : decode cX12_likeNow 121 = .ok (.aload_n 0, 1) := by decide +kernel
theorem dX12_likeNow_122 : decode cX12_likeNow 122 = .ok (.getfield 114, 3) := by decide +kernel
theorem dX12_likeNow_125 : decode cX12_likeNow 125 = .ok (.iload_n 2, 1) := by decide +kernel
theorem dX12_likeNow_126 : decode cX12_likeNow 126 = .ok (.aload_n 0, 1) := by decide +kernel
theorem dX12_likeNow_127 : decode cX12_likeNow 127 = .ok (.getfield 117, 3) := by decide +kernel
theorem dX12_likeNow_130 : decode cX12_likeNow 130 = .ok (.iload_n 2, 1) := by decide +kernel
theorem dX12_likeNow_131 : decode cX12_likeNow 131 = .ok (.iaload, 1) := by decide +kernel
theorem dX12_likeNow_132 : decode cX12_likeNow 132 = .ok (.iastore, 1) := by decide +kernel
theorem dX12_likeNow_133 : decode cX12_likeNow 133 = .ok (.iinc 2 1, 3) := by decide +kernel
theorem dX12_likeNow_136 : decode cX12_likeNow 136 = .ok (.goto (-25), 3) := by decide +kernel
theorem dX12_likeNow_139 : decode cX12_likeNow 139 = .ok (.iinc 1 1, 3) := by decide +kernel
theorem dX12_likeNow_142 : decode cX12_likeNow 142 = .ok (.goto (-119), 3) := by decide +kernel
theorem dX12_likeNow_145 : decode cX12_likeNow 145 = .ok (.aload_n 0, 1) := by decide +kernel
theorem dX12_likeNow_146 : decode cX12_likeNow 146 = .ok (.getfield 114, 3) := by decide +kernel
theorem dX12_likeNow_149 : decode cX12_likeNow 149 = .ok (.aload_n 0, 1) := by decide +kernel
theorem dX12_likeNow_150 : decode cX12_likeNow 150 = .ok (.getfield 40, 3) := by decide +kernel
theorem dX12_likeNow_153 : decode cX12_likeNow 153 = .ok (.iconst 2, 1) := by decide +kernel
theorem dX12_likeNow_154 : decode cX12_likeNow 154 = .ok (.iaload, 1) := by decide +kernel
theorem dX12_likeNow_155 : decode cX12_likeNow 155 = .ok (.iaload, 1) := by decide +kernel
theorem dX12_likeNow_156 : decode cX12_likeNow 156 = .ok (.ireturn, 1) := by decide +kernel
theorem dX12_apartNow_0 : decode cX12_apartNow 0 = .ok (.iconst 0, 1) := by decide +kernel
theorem dX12_apartNow_1 : decode cX12_apartNow 1 = .ok (.aload_n 0, 1) := by decide +kernel
theorem dX12_apartNow_2 : decode cX12_apartNow 2 = .ok (.getfield 320, 3) := by decide +kernel
theorem dX12_apartNow_5 : decode cX12_apartNow 5 = .ok (.aload_n 0, 1) := by decide +kernel
theorem dX12_apartNow_6 : decode cX12_apartNow 6 = .ok (.getfield 40, 3) := by decide +kernel
theorem dX12_apartNow_9 : decode cX12_apartNow 9 = .ok (.iconst 2, 1) := by decide +kernel
theorem dX12_apartNow_10 : decode cX12_apartNow 10 = .ok (.iaload, 1) := by decide +kernel
theorem dX12_apartNow_11 : decode cX12_apartNow 11 = .ok (.isub, 1) := by decide +kernel
theorem dX12_apartNow_12 : decode cX12_apartNow 12 = .ok (.invokestatic 453, 3) := by decide +kernel
theorem dX12_apartNow_15 : decode cX12_apartNow 15 = .ok (.istore_n 1, 1) := by decide +kernel
theorem dX12_apartNow_16 : decode cX12_apartNow 16 = .ok (.iconst 0, 1) := by decide +kernel
theorem dX12_apartNow_17 : decode cX12_apartNow 17 = .ok (.istore_n 2, 1) := by decide +kernel
theorem dX12_apartNow_18 : decode cX12_apartNow 18 = .ok (.iload_n 2, 1) := by decide +kernel
theorem dX12_apartNow_19 : decode cX12_apartNow 19 = .ok (.bipush 24, 2) := by decide +kernel
theorem dX12_apartNow_21 : decode cX12_apartNow 21 = .ok (.if_icmp .gt 16, 3) := by decide +kernel
theorem dX12_apartNow_24 : decode cX12_apartNow 24 = .ok (.aload_n 0, 1) := by decide +kernel
theorem dX12_apartNow_25 : decode cX12_apartNow 25 = .ok (.getfield 114, 3) := by decide +kernel
theorem dX12_apartNow_28 : decode cX12_apartNow 28 = .ok (.iload_n 2, 1) := by decide +kernel
theorem dX12_apartNow_29 : decode cX12_apartNow 29 = .ok (.iload_n 2, 1) := by decide +kernel
theorem dX12_apartNow_30 : decode cX12_apartNow 30 = .ok (.iastore, 1) := by decide +kernel
theorem dX12_apartNow_31 : decode cX12_apartNow 31 = .ok (.iinc 2 1, 3) := by decide +kernel
theorem dX12_apartNow_34 : decode cX12_apartNow 34 = .ok (.goto (-16), 3) := by decide +kernel
theorem dX12_apartNow_37 : decode cX12_apartNow 37 = .ok (.iload_n 1, 1) := by decide +kernel
theorem dX12_apartNow_38 : decode cX12_apartNow 38 = .ok (.istore_n 2, 1) := by decide +kernel
theorem dX12_apartNow_39 : decode cX12_apartNow 39 = .ok (.iload_n 2, 1) := by decide +kernel
theorem dX12_apartNow_40 : decode cX12_apartNow 40 = .ok (.aload_n 0, 1) := by decide +kernel
theorem dX12_apartNow_41 : decode cX12_apartNow 41 = .ok (.getfield 320, 3) := by decide +kernel
theorem dX12_apartNow_44 : decode cX12_apartNow 44 = .ok (.if_icmp .ge 131, 3) := by decide +kernel
theorem dX12_apartNow_47 : decode cX12_apartNow 47 = .ok (.aload_n 0, 1) := by decide +kernel
theorem dX12_apartNow_48 : decode cX12_apartNow 48 = .ok (.getfield 117, 3) := by decide +kernel
theorem dX12_apartNow_51 : decode cX12_apartNow 51 = .ok (.iconst 0, 1) := by decide +kernel
theorem dX12_apartNow_52 : decode cX12_apartNow 52 = .ok (.iload_n 2, 1) := by decide +kernel
theorem dX12_apartNow_53 : decode cX12_apartNow 53 = .ok (.iload_n 1, 1) := by decide +kernel
theorem dX12_apartNow_54 : decode cX12_apartNow 54 = .ok (.isub, 1) := by decide +kernel
theorem dX12_apartNow_55 : decode cX12_apartNow 55 = .ok (.iconst 1, 1) := by decide +kernel
theorem dX12_apartNow_56 : decode cX12_apartNow 56 = .ok (.iadd, 1) := by decide +kernel
theorem dX12_apartNow_57 : decode cX12_apartNow 57 = .ok (.iastore, 1) := by decide +kernel
theorem dX12_apartNow_58 : decode cX12_apartNow 58 = .ok (.iconst 1, 1) := by decide +kernel
theorem dX12_apartNow_59 : decode cX12_apartNow 59 = .ok (.istore_n 3, 1) := by decide +kernel
theorem dX12_apartNow_60 : decode cX12_apartNow 60 = .ok (.iload_n 3, 1) := by decide +kernel
theorem dX12_apartNow_61 : decode cX12_apartNow 61 = .ok (.aload_n 0, 1) := by decide +kernel
theorem dX12_apartNow_62 : decode cX12_apartNow 62 = .ok (.getfield 40, 3) := by decide +kernel
theorem dX12_apartNow_65 : decode cX12_apartNow 65 = .ok (.iconst 2, 1) := by decide +kernel
theorem dX12_apartNow_66 : decode cX12_apartNow 66 = .ok (.iaload, 1) := by decide +kernel
theorem dX12_apartNow_67 : decode cX12_apartNow 67 = .ok (.if_icmp .gt 72, 3) := by decide +kernel
theorem dX12_apartNow_70 : decode cX12_apartNow 70 = .ok (.aload_n 0, 1) := by decide +kernel
theorem dX12_apartNow_71 : decode cX12_apartNow 71 = .ok (.getfield 114, 3) := by decide +kernel
theorem dX12_apartNow_74 : decode cX12_apartNow 74 = .ok (.iload_n 3, 1) := by decide +kernel
theorem dX12_apartNow_75 : decode cX12_apartNow 75 = .ok (.iconst 1, 1) := by decide +kernel
theorem dX12_apartNow_76 : decode cX12_apartNow 76 = .ok (.isub, 1) := by decide +kernel
theorem dX12_apartNow_77 : decode cX12_apartNow 77 = .ok (.iaload, 1) := by decide +kernel
theorem dX12_apartNow_78 : decode cX12_apartNow 78 = .ok (.aload_n 0, 1) := by decide +kernel
theorem dX12_apartNow_79 : decode cX12_apartNow 79 = .ok (.getfield 93, 3) := by decide +kernel
theorem dX12_apartNow_82 : decode cX12_apartNow 82 = .ok (.iload_n 2, 1) := by decide +kernel
theorem dX12_apartNow_83 : decode cX12_apartNow 83 = .ok (.iaload, 1) := by decide +kernel
theorem dX12_apartNow_84 : decode cX12_apartNow 84 = .ok (.aload_n 0, 1) := by decide +kernel
theorem dX12_apartNow_85 : decode cX12_apartNow 85 = .ok (.getfield 61, 3) := by decide +kernel
theorem dX12_apartNow_88 : decode cX12_apartNow 88 = .ok (.iload_n 3, 1) := by decide +kernel
theorem dX12_apartNow_89 : decode cX12_apartNow 89 = .ok (.iconst 1, 1) := by decide +kernel
theorem dX12_apartNow_90 : decode cX12_apartNow 90 = .ok (.isub, 1) := by decide +kernel
theorem dX12_apartNow_91 : decode cX12_apartNow 91 = .ok (.iaload, 1) := by decide +kernel
theorem dX12_apartNow_92 : decode cX12_apartNow 92 = .ok (.if_icmp .ne 7, 3) := by decide +kernel
theorem dX12_apartNow_95 : decode cX12_apartNow 95 = .ok (.iconst 0, 1) := by decide +kernel
theorem dX12_apartNow_96 : decode cX12_apartNow 96 = .ok (.goto 4, 3) := by decide +kernel
theorem dX12_apartNow_99 : decode cX12_apartNow 99 = .ok (.iconst 1, 1) := by decide +kernel
theorem dX12_apartNow_100 : decode cX12_apartNow 100 = .ok (.iadd, 1) := by decide +kernel
theorem dX12_apartNow_101 : decode cX12_apartNow 101 = .ok (.istore 4, 2) := by decide +kernel
theorem dX12_apartNow_103 : decode cX12_apartNow 103 = .ok (.aload_n 0, 1) := by decide +kernel
theorem dX12_apartNow_104 : decode cX12_apartNow 104 = .ok (.getfield 117, 3) := by decide +kernel
theorem dX12_apartNow_107 : decode cX12_apartNow 107 = .ok (.iload_n 3, 1) := by decide +kernel
theorem dX12_apartNow_108 : decode cX12_apartNow 108 = .ok (.iload 4, 2) := by decide +kernel
theorem dX12_apartNow_110 : decode cX12_apartNow 110 = .ok (.aload_n 0, 1) := by decide +kernel
theorem dX12_apartNow_111 : decode cX12_apartNow 111 = .ok (.getfield 114, 3) := by decide +kernel
theorem dX12_apartNow_114 : decode cX12_apartNow 114 = .ok (.iload_n 3, 1) := by decide +kernel
theorem dX12_apartNow_115 : decode cX12_apartNow 115 = .ok (.iaload, 1) := by decide +kernel
theorem dX12_apartNow_116 : decode cX12_apartNow 116 = .ok (.aload_n 0, 1) := by decide +kernel
theorem dX12_apartNow_117 : decode cX12_apartNow 117 = .ok (.getfield 117, 3) := by decide +kernel
theorem dX12_apartNow_120 : decode cX12_apartNow 120 = .ok (.iload_n 3, 1) := by decide +kernel
theorem dX12_apartNow_121 : decode cX12_apartNow 121 = .ok (.iconst 1, 1) := by decide +kernel
theorem dX12_apartNow_122 : decode cX12_apartNow 122 = .ok (.isub, 1) := by decide +kernel
theorem dX12_apartNow_123 : decode cX12_apartNow 123 = .ok (.iaload, 1) := by decide +kernel
theorem dX12_apartNow_124 : decode cX12_apartNow 124 = .ok (.invokestatic 202, 3) := by decide +kernel
theorem dX12_apartNow_127 : decode cX12_apartNow 127 = .ok (.iconst 1, 1) := by decide +kernel
theorem dX12_apartNow_128 : decode cX12_apartNow 128 = .ok (.iadd, 1) := by decide +kernel
theorem dX12_apartNow_129 : decode cX12_apartNow 129 = .ok (.invokestatic 202, 3) := by decide +kernel
theorem dX12_apartNow_132 : decode cX12_apartNow 132 = .ok (.iastore, 1) := by decide +kernel
theorem dX12_apartNow_133 : decode cX12_apartNow 133 = .ok (.iinc 3 1, 3) := by decide +kernel
theorem dX12_apartNow_136 : decode cX12_apartNow 136 = .ok (.goto (-76), 3) := by decide +kernel
theorem dX12_apartNow_139 : decode cX12_apartNow 139 = .ok (.iconst 0, 1) := by decide +kernel
theorem dX12_apartNow_140 : decode cX12_apartNow 140 = .ok (.istore_n 3, 1) := by decide +kernel
theorem dX12_apartNow_141 : decode cX12_apartNow 141 = .ok (.iload_n 3, 1) := by decide +kernel
theorem dX12_apartNow_142 : decode cX12_apartNow 142 = .ok (.aload_n 0, 1) := by decide +kernel
theorem dX12_apartNow_143 : decode cX12_apartNow 143 = .ok (.getfield 40, 3) := by decide +kernel
theorem dX12_apartNow_146 : decode cX12_apartNow 146 = .ok (.iconst 2, 1) := by decide +kernel
theorem dX12_apartNow_147 : decode cX12_apartNow 147 = .ok (.iaload, 1) := by decide +kernel
theorem dX12_apartNow_148 : decode cX12_apartNow 148 = .ok (.if_icmp .gt 21, 3) := by decide +kernel
theorem dX12_apartNow_151 : decode cX12_apartNow 151 = .ok (.aload_n 0, 1) := by decide +kernel
theorem dX12_apartNow_152 : decode cX12_apartNow 152 = .ok (.getfield 114, 3) := by decide +kernel
theorem dX12_apartNow_155 : decode cX12_apartNow 155 = .ok (.iload_n 3, 1) := by decide +kernel
theorem dX12_apartNow_156 : decode cX12_apartNow 156 = .ok (.aload_n 0, 1) := by decide +kernel
theorem dX12_apartNow_157 : decode cX12_apartNow 157 = .ok (.getfield 117, 3) := by decide +kernel
theorem dX12_apartNow_160 : decode cX12_apartNow 160 = .ok (.iload_n 3, 1) := by decide +kernel
theorem dX12_apartNow_161 : decode cX12_apartNow 161 = .ok (.iaload, 1) := by decide +kernel
theorem dX12_apartNow_162 : decode cX12_apartNow 162 = .ok (.iastore, 1) := by decide +kernel
theorem dX12_apartNow_163 : decode cX12_apartNow 163 = .ok (.iinc 3 1, 3) := by decide +kernel
theorem dX12_apartNow_166 : decode cX12_apartNow 166 = .ok (.goto (-25), 3) := by decide +kernel
theorem dX12_apartNow_169 : decode cX12_apartNow 169 = .ok (.iinc 2 1, 3) := by decide +kernel
theorem dX12_apartNow_172 : decode cX12_apartNow 172 = .ok (.goto (-133), 3) := by decide +kernel
theorem dX12_apartNow_175 : decode cX12_apartNow 175 = .ok (.aload_n 0, 1) := by decide +kernel
theorem dX12_apartNow_176 : decode cX12_apartNow 176 = .ok (.getfield 114, 3) := by decide +kernel
theorem dX12_apartNow_179 : decode cX12_apartNow 179 = .ok (.aload_n 0, 1) := by decide +kernel
theorem dX12_apartNow_180 : decode cX12_apartNow 180 = .ok (.getfield 40, 3) := by decide +kernel
theorem dX12_apartNow_183 : decode cX12_apartNow 183 = .ok (.iconst 2, 1) := by decide +kernel
theorem dX12_apartNow_184 : decode cX12_apartNow 184 = .ok (.iaload, 1) := by decide +kernel
theorem dX12_apartNow_185 : decode cX12_apartNow 185 = .ok (.iaload, 1) := by decide +kernel
theorem dX12_apartNow_186 : decode cX12_apartNow 186 = .ok (.ireturn, 1) := by decide +kernel
theorem dX12_like_0 : decode cX12_like 0 = .ok (.aload_n 0, 1) := by decide +kernel
theorem dX12_like_1 : decode cX12_like 1 = .ok (.iconst 0, 1) := by decide +kernel
theorem dX12_like_2 : decode cX12_like 2 = .ok (.putfield 165, 3) := by decide +kernel
theorem dX12_like_5 : decode cX12_like 5 = .ok (.iload_n 1, 1) := by decide +kernel
theorem dX12_like_6 : decode cX12_like 6 = .ok (.ifCond .lt 8, 3) := by decide +kernel
theorem dX12_like_9 : decode cX12_like 9 = .ok (.iload_n 1, 1) := by decide +kernel
theorem dX12_like_10 : decode cX12_like 10 = .ok (.iconst 1, 1) := by decide +kernel
theorem dX12_like_11 : decode cX12_like 11 = .ok (.if_icmp .le 9, 3) := by decide +kernel
theorem dX12_like_14 : decode cX12_like 14 = .ok (.aload_n 0, 1) := by decide +kernel
theorem dX12_like_15 : decode cX12_like 15 = .ok (.iconst 1, 1) := by decide +kernel
theorem dX12_like_16 : decode cX12_like 16 = .ok (.invokevirtual 303, 3) := by decide +kernel
theorem dX12_like_19 : decode cX12_like 19 = .ok (.ireturn, 1) := by decide +kernel
theorem dX12_like_20 : decode cX12_like 20 = .ok (.iload_n 1, 1) := by decide +kernel
theorem dX12_like_21 : decode cX12_like 21 = .ok (.ifCond .ne 10, 3) := by decide +kernel
theorem dX12_like_24 : decode cX12_like 24 = .ok (.aload_n 0, 1) := by decide +kernel
theorem dX12_like_25 : decode cX12_like 25 = .ok (.invokevirtual 459, 3) := by decide +kernel
theorem dX12_like_28 : decode cX12_like 28 = .ok (.goto 7, 3) := by decide +kernel
theorem dX12_like_31 : decode cX12_like 31 = .ok (.aload_n 0, 1) := by decide +kernel
theorem dX12_like_32 : decode cX12_like 32 = .ok (.invokevirtual 462, 3) := by decide +kernel
theorem dX12_like_35 : decode cX12_like 35 = .ok (.ireturn, 1) := by decide +kernel
theorem dX12_then_0 : decode cX12_then 0 = .ok (.aload_n 0, 1) := by decide +kernel
theorem dX12_then_1 : decode cX12_then 1 = .ok (.iconst 0, 1) := by decide +kernel
theorem dX12_then_2 : decode cX12_then 2 = .ok (.putfield 165, 3) := by decide +kernel
theorem dX12_then_5 : decode cX12_then 5 = .ok (.iload_n 1, 1) := by decide +kernel
theorem dX12_then_6 : decode cX12_then 6 = .ok (.i2l, 1) := by decide +kernel
theorem dX12_then_7 : decode cX12_then 7 = .ok (.lconst 0, 1) := by decide +kernel
theorem dX12_then_8 : decode cX12_then 8 = .ok (.ldc2_w 465, 3) := by decide +kernel
theorem dX12_then_11 : decode cX12_then 11 = .ok (.invokestatic 168, 3) := by decide +kernel
theorem dX12_then_14 : decode cX12_then 14 = .ok (.ifCond .ne 9, 3) := by decide +kernel
theorem dX12_then_17 : decode cX12_then 17 = .ok (.aload_n 0, 1) := by decide +kernel
theorem dX12_then_18 : decode cX12_then 18 = .ok (.iconst 1, 1) := by decide +kernel
theorem dX12_then_19 : decode cX12_then 19 = .ok (.invokevirtual 303, 3) := by decide +kernel
theorem dX12_then_22 : decode cX12_then 22 = .ok (.ireturn, 1) := by decide +kernel
theorem dX12_then_23 : decode cX12_then 23 = .ok (.aload_n 0, 1) := by decide +kernel
theorem dX12_then_24 : decode cX12_then 24 = .ok (.aload_n 0, 1) := by decide +kernel
theorem dX12_then_25 : decode cX12_then 25 = .ok (.getfield 120, 3) := by decide +kernel
theorem dX12_then_28 : decode cX12_then 28 = .ok (.iconst 0, 1) := by decide +kernel
theorem dX12_then_29 : decode cX12_then 29 = .ok (.invokevirtual 387, 3) := by decide +kernel
theorem dX12_then_32 : decode cX12_then 32 = .ok (.iconst 0, 1) := by decide +kernel
theorem dX12_then_33 : decode cX12_then 33 = .ok (.istore_n 2, 1) := by decide +kernel
theorem dX12_then_34 : decode cX12_then 34 = .ok (.iload_n 2, 1) := by decide +kernel
theorem dX12_then_35 : decode cX12_then 35 = .ok (.bipush 20, 2) := by decide +kernel
theorem dX12_then_37 : decode cX12_then 37 = .ok (.if_icmp .ge 21, 3) := by decide +kernel
theorem dX12_then_40 : decode cX12_then 40 = .ok (.aload_n 0, 1) := by decide +kernel
theorem dX12_then_41 : decode cX12_then 41 = .ok (.getfield 320, 3) := by decide +kernel
theorem dX12_then_44 : decode cX12_then 44 = .ok (.iload_n 1, 1) := by decide +kernel
theorem dX12_then_45 : decode cX12_then 45 = .ok (.if_icmp .gt 13, 3) := by decide +kernel
theorem dX12_then_48 : decode cX12_then 48 = .ok (.aload_n 0, 1) := by decide +kernel
theorem dX12_then_49 : decode cX12_then 49 = .ok (.invokevirtual 376, 3) := by decide +kernel
theorem dX12_then_52 : decode cX12_then 52 = .ok (.iinc 2 1, 3) := by decide +kernel
theorem dX12_then_55 : decode cX12_then 55 = .ok (.goto (-21), 3) := by decide +kernel
theorem dX12_then_58 : decode cX12_then 58 = .ok (.iload_n 1, 1) := by decide +kernel
theorem dX12_then_59 : decode cX12_then 59 = .ok (.aload_n 0, 1) := by decide +kernel
theorem dX12_then_60 : decode cX12_then 60 = .ok (.getfield 320, 3) := by decide +kernel
theorem dX12_then_63 : decode cX12_then 63 = .ok (.if_icmp .ge 12, 3) := by decide +kernel
theorem dX12_then_66 : decode cX12_then 66 = .ok (.aload_n 0, 1) := by decide +kernel
theorem dX12_then_67 : decode cX12_then 67 = .ok (.getfield 93, 3) := by decide +kernel
theorem dX12_then_70 : decode cX12_then 70 = .ok (.iload_n 1, 1) := by decide +kernel
theorem dX12_then_71 : decode cX12_then 71 = .ok (.iaload, 1) := by decide +kernel
theorem dX12_then_72 : decode cX12_then 72 = .ok (.goto 4, 3) := by decide +kernel
theorem dX12_then_75 : decode cX12_then 75 = .ok (.iconst (-1), 1) := by decide +kernel
theorem dX12_then_76 : decode cX12_then 76 = .ok (.istore_n 2, 1) := by decide +kernel
theorem dX12_then_77 : decode cX12_then 77 = .ok (.aload_n 0, 1) := by decide +kernel
theorem dX12_then_78 : decode cX12_then 78 = .ok (.aload_n 0, 1) := by decide +kernel
theorem dX12_then_79 : decode cX12_then 79 = .ok (.getfield 120, 3) := by decide +kernel
theorem dX12_then_82 : decode cX12_then 82 = .ok (.iconst 0, 1) := by decide +kernel
theorem dX12_then_83 : decode cX12_then 83 = .ok (.invokevirtual 416, 3) := by decide +kernel
theorem dX12_then_86 : decode cX12_then 86 = .ok (.iload_n 2, 1) := by decide +kernel
theorem dX12_then_87 : decode cX12_then 87 = .ok (.ireturn, 1) := by decide +kernel
theorem dX12_when_0 : decode cX12_when 0 = .ok (.aload_n 0, 1) := by decide +kernel
theorem dX12_when_1 : decode cX12_when 1 = .ok (.iconst 0, 1) := by decide +kernel
theorem dX12_when_2 : decode cX12_when 2 = .ok (.putfield 165, 3) := by decide +kernel
theorem dX12_when_5 : decode cX12_when 5 = .ok (.aload_n 0, 1) := by decide +kernel
theorem dX12_when_6 : decode cX12_when 6 = .ok (.iload_n 1, 1) := by decide +kernel
theorem dX12_when_7 : decode cX12_when 7 = .ok (.iload_n 2, 1) := by decide +kernel
theorem dX12_when_8 : decode cX12_when 8 = .ok (.invokevirtual 424, 3) := by decide +kernel
theorem dX12_when_11 : decode cX12_when 11 = .ok (.ifCond .ne 9, 3) := by decide +kernel
theorem dX12_when_14 : decode cX12_when 14 = .ok (.aload_n 0, 1) := by decide +kernel
theorem dX12_when_15 : decode cX12_when 15 = .ok (.iconst 1, 1) := by decide +kernel
theorem dX12_when_16 : decode cX12_when 16 = .ok (.invokevirtual 303, 3) := by decide +kernel
theorem dX12_when_19 : decode cX12_when 19 = .ok (.ireturn, 1) := by decide +kernel
theorem dX12_when_20 : decode cX12_when 20 = .ok (.aload_n 0, 1) := by decide +kernel
theorem dX12_when_21 : decode cX12_when 21 = .ok (.aload_n 0, 1) := by decide +kernel
theorem dX12_when_22 : decode cX12_when 22 = .ok (.getfield 120, 3) := by decide +kernel
theorem dX12_when_25 : decode cX12_when 25 = .ok (.iconst 0, 1) := by decide +kernel
theorem dX12_when_26 : decode cX12_when 26 = .ok (.invokevirtual 387, 3) := by decide +kernel
theorem dX12_when_29 : decode cX12_when 29 = .ok (.iconst (-1), 1) := by decide +kernel
theorem dX12_when_30 : decode cX12_when 30 = .ok (.istore_n 3, 1) := by decide +kernel
theorem dX12_when_31 : decode cX12_when 31 = .ok (.iconst 0, 1) := by decide +kernel
theorem dX12_when_32 : decode cX12_when 32 = .ok (.istore 4, 2) := by decide +kernel
theorem dX12_when_34 : decode cX12_when 34 = .ok (.iload 4, 2) := by decide +kernel
theorem dX12_when_36 : decode cX12_when 36 = .ok (.bipush 20, 2) := by decide +kernel
theorem dX12_when_38 : decode cX12_when 38 = .ok (.if_icmp .gt 31, 3) := by decide +kernel
theorem dX12_when_41 : decode cX12_when 41 = .ok (.iload_n 3, 1) := by decide +kernel
theorem dX12_when_42 : decode cX12_when 42 = .ok (.iconst (-1), 1) := by decide +kernel
theorem dX12_when_43 : decode cX12_when 43 = .ok (.if_icmp .ne 26, 3) := by decide +kernel
theorem dX12_when_46 : decode cX12_when 46 = .ok (.aload_n 0, 1) := by decide +kernel
theorem dX12_when_47 : decode cX12_when 47 = .ok (.iconst 0, 1) := by decide +kernel
theorem dX12_when_48 : decode cX12_when 48 = .ok (.iload_n 2, 1) := by decide +kernel
theorem dX12_when_49 : decode cX12_when 49 = .ok (.invokevirtual 427, 3) := by decide +kernel
theorem dX12_when_52 : decode cX12_when 52 = .ok (.iconst (-1), 1) := by decide +kernel
theorem dX12_when_53 : decode cX12_when 53 = .ok (.if_icmp .eq 6, 3) := by decide +kernel
theorem dX12_when_56 : decode cX12_when 56 = .ok (.iload 4, 2) := by decide +kernel
theorem dX12_when_58 : decode cX12_when 58 = .ok (.istore_n 3, 1) := by decide +kernel
theorem dX12_when_59 : decode cX12_when 59 = .ok (.aload_n 0, 1) := by decide +kernel
theorem dX12_when_60 : decode cX12_when 60 = .ok (.invokevirtual 376, 3) := by decide +kernel
theorem dX12_when_63 : decode cX12_when 63 = .ok (.iinc 4 1, 3) := by decide +kernel
theorem dX12_when_66 : decode cX12_when 66 = .ok (.goto (-32), 3) := by decide +kernel
theorem dX12_when_69 : decode cX12_when 69 = .ok (.aload_n 0, 1) := by decide +kernel
theorem dX12_when_70 : decode cX12_when 70 = .ok (.aload_n 0, 1) := by decide +kernel
theorem dX12_when_71 : decode cX12_when 71 = .ok (.getfield 120, 3) := by decide +kernel
theorem dX12_when_74 : decode cX12_when 74 = .ok (.iconst 0, 1) := by decide +kernel
theorem dX12_when_75 : decode cX12_when 75 = .ok (.invokevirtual 416, 3) := by decide +kernel
theorem dX12_when_78 : decode cX12_when 78 = .ok (.iload_n 3, 1) := by decide +kernel
theorem dX12_when_79 : decode cX12_when 79 = .ok (.ireturn, 1) := by decide +kernel
theorem dX12_bitsOf_0 : decode cX12_bitsOf 0 = .ok (.iconst 0, 1) := by decide +kernel
theorem dX12_bitsOf_1 : decode cX12_bitsOf 1 = .ok (.istore_n 1, 1) := by decide +kernel
theorem dX12_bitsOf_2 : decode cX12_bitsOf 2 = .ok (.iload_n 0, 1) := by decide +kernel
theorem dX12_bitsOf_3 : decode cX12_bitsOf 3 = .ok (.istore_n 2, 1) := by decide +kernel
theorem dX12_bitsOf_4 : decode cX12_bitsOf 4 = .ok (.iload_n 2, 1) := by decide +kernel
theorem dX12_bitsOf_5 : decode cX12_bitsOf 5 = .ok (.ifCond .eq 15, 3) := by decide +kernel
theorem dX12_bitsOf_8 : decode cX12_bitsOf 8 = .ok (.iinc 1 1, 3) := by decide +kernel
theorem dX12_bitsOf_11 : decode cX12_bitsOf 11 = .ok (.iload_n 2, 1) := by decide +kernel
theorem dX12_bitsOf_12 : decode cX12_bitsOf 12 = .ok (.iload_n 2, 1) := by decide +kernel
theorem dX12_bitsOf_13 : decode cX12_bitsOf 13 = .ok (.iconst 1, 1) := by decide +kernel
theorem dX12_bitsOf_14 : decode cX12_bitsOf 14 = .ok (.isub, 1) := by decide +kernel
theorem dX12_bitsOf_15 : decode cX12_bitsOf 15 = .ok (.iand, 1) := by decide +kernel
theorem dX12_bitsOf_16 : decode cX12_bitsOf 16 = .ok (.istore_n 2, 1) := by decide +kernel
theorem dX12_bitsOf_17 : decode cX12_bitsOf 17 = .ok (.goto (-13), 3) := by decide +kernel
theorem dX12_bitsOf_20 : decode cX12_bitsOf 20 = .ok (.iload_n 1, 1) := by decide +kernel
theorem dX12_bitsOf_21 : decode cX12_bitsOf 21 = .ok (.ireturn, 1) := by decide +kernel
theorem dX12_quiet_0 : decode cX12_quiet 0 = .ok (.aload_n 0, 1) := by decide +kernel
theorem dX12_quiet_1 : decode cX12_quiet 1 = .ok (.iconst 0, 1) := by decide +kernel
theorem dX12_quiet_2 : decode cX12_quiet 2 = .ok (.putfield 165, 3) := by decide +kernel
theorem dX12_quiet_5 : decode cX12_quiet 5 = .ok (.iload_n 1, 1) := by decide +kernel
theorem dX12_quiet_6 : decode cX12_quiet 6 = .ok (.i2l, 1) := by decide +kernel
theorem dX12_quiet_7 : decode cX12_quiet 7 = .ok (.lconst 1, 1) := by decide +kernel
theorem dX12_quiet_8 : decode cX12_quiet 8 = .ok (.ldc2_w 467, 3) := by decide +kernel
theorem dX12_quiet_11 : decode cX12_quiet 11 = .ok (.invokestatic 168, 3) := by decide +kernel
theorem dX12_quiet_14 : decode cX12_quiet 14 = .ok (.ifCond .ne 9, 3) := by decide +kernel
theorem dX12_quiet_17 : decode cX12_quiet 17 = .ok (.aload_n 0, 1) := by decide +kernel
theorem dX12_quiet_18 : decode cX12_quiet 18 = .ok (.iconst 1, 1) := by decide +kernel
theorem dX12_quiet_19 : decode cX12_quiet 19 = .ok (.invokevirtual 303, 3) := by decide +kernel
theorem dX12_quiet_22 : decode cX12_quiet 22 = .ok (.ireturn, 1) := by decide +kernel
theorem dX12_quiet_23 : decode cX12_quiet 23 = .ok (.iconst 1, 1) := by decide +kernel
theorem dX12_quiet_24 : decode cX12_quiet 24 = .ok (.aload_n 0, 1) := by decide +kernel
theorem dX12_quiet_25 : decode cX12_quiet 25 = .ok (.getfield 40, 3) := by decide +kernel
theorem dX12_quiet_28 : decode cX12_quiet 28 = .ok (.iconst 0, 1) := by decide +kernel
theorem dX12_quiet_29 : decode cX12_quiet 29 = .ok (.iaload, 1) := by decide +kernel
theorem dX12_quiet_30 : decode cX12_quiet 30 = .ok (.ishl, 1) := by decide +kernel
theorem dX12_quiet_31 : decode cX12_quiet 31 = .ok (.iconst 1, 1) := by decide +kernel
theorem dX12_quiet_32 : decode cX12_quiet 32 = .ok (.isub, 1) := by decide +kernel
theorem dX12_quiet_33 : decode cX12_quiet 33 = .ok (.aload_n 0, 1) := by decide +kernel
theorem dX12_quiet_34 : decode cX12_quiet 34 = .ok (.getfield 323, 3) := by decide +kernel
theorem dX12_quiet_37 : decode cX12_quiet 37 = .ok (.iconst (-1), 1) := by decide +kernel
theorem dX12_quiet_38 : decode cX12_quiet 38 = .ok (.ixor, 1) := by decide +kernel
theorem dX12_quiet_39 : decode cX12_quiet 39 = .ok (.iand, 1) := by decide +kernel
theorem dX12_quiet_40 : decode cX12_quiet 40 = .ok (.aload_n 0, 1) := by decide +kernel
theorem dX12_quiet_41 : decode cX12_quiet 41 = .ok (.getfield 326, 3) := by decide +kernel
theorem dX12_quiet_44 : decode cX12_quiet 44 = .ok (.iconst (-1), 1) := by decide +kernel
theorem dX12_quiet_45 : decode cX12_quiet 45 = .ok (.ixor, 1) := by decide +kernel
theorem dX12_quiet_46 : decode cX12_quiet 46 = .ok (.iand, 1) := by decide +kernel
theorem dX12_quiet_47 : decode cX12_quiet 47 = .ok (.istore_n 2, 1) := by decide +kernel
theorem dX12_quiet_48 : decode cX12_quiet 48 = .ok (.iconst (-1), 1) := by decide +kernel
theorem dX12_quiet_49 : decode cX12_quiet 49 = .ok (.istore_n 3, 1) := by decide +kernel
theorem dX12_quiet_50 : decode cX12_quiet 50 = .ok (.aload_n 0, 1) := by decide +kernel
theorem dX12_quiet_51 : decode cX12_quiet 51 = .ok (.aload_n 0, 1) := by decide +kernel
theorem dX12_quiet_52 : decode cX12_quiet 52 = .ok (.getfield 120, 3) := by decide +kernel
theorem dX12_quiet_55 : decode cX12_quiet 55 = .ok (.iconst 0, 1) := by decide +kernel
theorem dX12_quiet_56 : decode cX12_quiet 56 = .ok (.invokevirtual 387, 3) := by decide +kernel
theorem dX12_quiet_59 : decode cX12_quiet 59 = .ok (.iconst 0, 1) := by decide +kernel
theorem dX12_quiet_60 : decode cX12_quiet 60 = .ok (.istore 4, 2) := by decide +kernel
theorem dX12_quiet_62 : decode cX12_quiet 62 = .ok (.iload 4, 2) := by decide +kernel
theorem dX12_quiet_64 : decode cX12_quiet 64 = .ok (.iconst 1, 1) := by decide +kernel
theorem dX12_quiet_65 : decode cX12_quiet 65 = .ok (.aload_n 0, 1) := by decide +kernel
theorem dX12_quiet_66 : decode cX12_quiet 66 = .ok (.getfield 40, 3) := by decide +kernel
theorem dX12_quiet_69 : decode cX12_quiet 69 = .ok (.iconst 0, 1) := by decide +kernel
theorem dX12_quiet_70 : decode cX12_quiet 70 = .ok (.iaload, 1) := by decide +kernel
theorem dX12_quiet_71 : decode cX12_quiet 71 = .ok (.ishl, 1) := by decide +kernel
theorem dX12_quiet_72 : decode cX12_quiet 72 = .ok (.if_icmp .ge 81, 3) := by decide +kernel
theorem dX12_quiet_75 : decode cX12_quiet 75 = .ok (.iload 4, 2) := by decide +kernel
theorem dX12_quiet_77 : decode cX12_quiet 77 = .ok (.iload_n 2, 1) := by decide +kernel
theorem dX12_quiet_78 : decode cX12_quiet 78 = .ok (.iconst (-1), 1) := by decide +kernel
theorem dX12_quiet_79 : decode cX12_quiet 79 = .ok (.ixor, 1) := by decide +kernel
theorem dX12_quiet_80 : decode cX12_quiet 80 = .ok (.iand, 1) := by decide +kernel
theorem dX12_quiet_81 : decode cX12_quiet 81 = .ok (.ifCond .ne 66, 3) := by decide +kernel
theorem dX12_quiet_84 : decode cX12_quiet 84 = .ok (.iload_n 3, 1) := by decide +kernel
theorem dX12_quiet_85 : decode cX12_quiet 85 = .ok (.iconst (-1), 1) := by decide +kernel
theorem dX12_quiet_86 : decode cX12_quiet 86 = .ok (.if_icmp .eq 18, 3) := by decide +kernel
theorem dX12_quiet_89 : decode cX12_quiet 89 = .ok (.iload 4, 2) := by decide +kernel
theorem dX12_quiet_91 : decode cX12_quiet 91 = .ok (.invokestatic 469, 3) := by decide +kernel
theorem dX12_quiet_94 : decode cX12_quiet 94 = .ok (.iload_n 3, 1) := by decide +kernel
theorem dX12_quiet_95 : decode cX12_quiet 95 = .ok (.invokestatic 469, 3) := by decide +kernel
theorem dX12_quiet_98 : decode cX12_quiet 98 = .ok (.if_icmp .lt 6, 3) := by decide +kernel
theorem dX12_quiet_101 : decode cX12_quiet 101 = .ok (.goto 46, 3) := by decide +kernel
theorem dX12_quiet_104 : decode cX12_quiet 104 = .ok (.aload_n 0, 1) := by decide +kernel
theorem dX12_quiet_105 : decode cX12_quiet 105 = .ok (.getfield 320, 3) := by decide +kernel
theorem dX12_quiet_108 : decode cX12_quiet 108 = .ok (.istore 5, 2) := by decide +kernel
theorem dX12_quiet_110 : decode cX12_quiet 110 = .ok (.aload_n 0, 1) := by decide +kernel
theorem dX12_quiet_111 : decode cX12_quiet 111 = .ok (.dup, 1) := by decide +kernel
theorem dX12_quiet_112 : decode cX12_quiet 112 = .ok (.getfield 323, 3) := by decide +kernel
theorem dX12_quiet_115 : decode cX12_quiet 115 = .ok (.iload 4, 2) := by decide +kernel
theorem dX12_quiet_117 : decode cX12_quiet 117 = .ok (.ior, 1) := by decide +kernel
theorem dX12_quiet_118 : decode cX12_quiet 118 = .ok (.putfield 323, 3) := by decide +kernel
theorem dX12_quiet_121 : decode cX12_quiet 121 = .ok (.aload_n 0, 1) := by decide +kernel
theorem dX12_quiet_122 : decode cX12_quiet 122 = .ok (.iload_n 1, 1) := by decide +kernel
theorem dX12_quiet_123 : decode cX12_quiet 123 = .ok (.invokevirtual 399, 3) := by decide +kernel
theorem dX12_quiet_126 : decode cX12_quiet 126 = .ok (.aload_n 0, 1) := by decide +kernel
theorem dX12_quiet_127 : decode cX12_quiet 127 = .ok (.iload 5, 2) := by decide +kernel
theorem dX12_quiet_129 : decode cX12_quiet 129 = .ok (.invokevirtual 445, 3) := by decide +kernel
theorem dX12_quiet_132 : decode cX12_quiet 132 = .ok (.ifCond .ne 6, 3) := by decide +kernel
theorem dX12_quiet_135 : decode cX12_quiet 135 = .ok (.iload 4, 2) := by decide +kernel
theorem dX12_quiet_137 : decode cX12_quiet 137 = .ok (.istore_n 3, 1) := by decide +kernel
theorem dX12_quiet_138 : decode cX12_quiet 138 = .ok (.aload_n 0, 1) := by decide +kernel
theorem dX12_quiet_139 : decode cX12_quiet 139 = .ok (.aload_n 0, 1) := by decide +kernel
theorem dX12_quiet_140 : decode cX12_quiet 140 = .ok (.getfield 120, 3) := by decide +kernel
theorem dX12_quiet_143 : decode cX12_quiet 143 = .ok (.iconst 0, 1) := by decide +kernel
theorem dX12_quiet_144 : decode cX12_quiet 144 = .ok (.invokevirtual 416, 3) := by decide +kernel
theorem dX12_quiet_147 : decode cX12_quiet 147 = .ok (.iinc 4 1, 3) := by decide +kernel
theorem dX12_quiet_150 : decode cX12_quiet 150 = .ok (.goto (-88), 3) := by decide +kernel
theorem dX12_quiet_153 : decode cX12_quiet 153 = .ok (.iload_n 3, 1) := by decide +kernel
theorem dX12_quiet_154 : decode cX12_quiet 154 = .ok (.ireturn, 1) := by decide +kernel
theorem dX12_likeIn_0 : decode cX12_likeIn 0 = .ok (.aload_n 0, 1) := by decide +kernel
theorem dX12_likeIn_1 : decode cX12_likeIn 1 = .ok (.iload_n 1, 1) := by decide +kernel
theorem dX12_likeIn_2 : decode cX12_likeIn 2 = .ok (.invokevirtual 399, 3) := by decide +kernel
theorem dX12_likeIn_5 : decode cX12_likeIn 5 = .ok (.aload_n 0, 1) := by decide +kernel
theorem dX12_likeIn_6 : decode cX12_likeIn 6 = .ok (.invokevirtual 459, 3) := by decide +kernel
theorem dX12_likeIn_9 : decode cX12_likeIn 9 = .ok (.ireturn, 1) := by decide +kernel
theorem dX12_match_0 : decode cX12_match 0 = .ok (.aload_n 0, 1) := by decide +kernel
theorem dX12_match_1 : decode cX12_match 1 = .ok (.iconst 0, 1) := by decide +kernel
theorem dX12_match_2 : decode cX12_match 2 = .ok (.putfield 165, 3) := by decide +kernel
theorem dX12_match_5 : decode cX12_match 5 = .ok (.aload_n 0, 1) := by decide +kernel
theorem dX12_match_6 : decode cX12_match 6 = .ok (.aload_n 0, 1) := by decide +kernel
theorem dX12_match_7 : decode cX12_match 7 = .ok (.getfield 120, 3) := by decide +kernel
theorem dX12_match_10 : decode cX12_match 10 = .ok (.iconst 0, 1) := by decide +kernel
theorem dX12_match_11 : decode cX12_match 11 = .ok (.invokevirtual 387, 3) := by decide +kernel
theorem dX12_match_14 : decode cX12_match 14 = .ok (.aload_n 0, 1) := by decide +kernel
theorem dX12_match_15 : decode cX12_match 15 = .ok (.iconst 5, 1) := by decide +kernel
theorem dX12_match_16 : decode cX12_match 16 = .ok (.invokevirtual 472, 3) := by decide +kernel
theorem dX12_match_19 : decode cX12_match 19 = .ok (.istore_n 1, 1) := by decide +kernel
theorem dX12_match_20 : decode cX12_match 20 = .ok (.aload_n 0, 1) := by decide +kernel
theorem dX12_match_21 : decode cX12_match 21 = .ok (.aload_n 0, 1) := by decide +kernel
theorem dX12_match_22 : decode cX12_match 22 = .ok (.getfield 120, 3) := by decide +kernel
theorem dX12_match_25 : decode cX12_match 25 = .ok (.iconst 0, 1) := by decide +kernel
theorem dX12_match_26 : decode cX12_match 26 = .ok (.invokevirtual 416, 3) := by decide +kernel
theorem dX12_match_29 : decode cX12_match 29 = .ok (.iconst (-1), 1) := by decide +kernel
theorem dX12_match_30 : decode cX12_match 30 = .ok (.istore_n 2, 1) := by decide +kernel
theorem dX12_match_31 : decode cX12_match 31 = .ok (.iconst 0, 1) := by decide +kernel
theorem dX12_match_32 : decode cX12_match 32 = .ok (.istore_n 3, 1) := by decide +kernel
theorem dX12_match_33 : decode cX12_match 33 = .ok (.iload_n 3, 1) := by decide +kernel
theorem dX12_match_34 : decode cX12_match 34 = .ok (.aload_n 0, 1) := by decide +kernel
theorem dX12_match_35 : decode cX12_match 35 = .ok (.getfield 40, 3) := by decide +kernel
theorem dX12_match_38 : decode cX12_match 38 = .ok (.iconst 0, 1) := by decide +kernel
theorem dX12_match_39 : decode cX12_match 39 = .ok (.iaload, 1) := by decide +kernel
theorem dX12_match_40 : decode cX12_match 40 = .ok (.if_icmp .ge 85, 3) := by decide +kernel
theorem dX12_match_43 : decode cX12_match 43 = .ok (.iconst 0, 1) := by decide +kernel
theorem dX12_match_44 : decode cX12_match 44 = .ok (.istore 4, 2) := by decide +kernel
theorem dX12_match_46 : decode cX12_match 46 = .ok (.iload 4, 2) := by decide +kernel
theorem dX12_match_48 : decode cX12_match 48 = .ok (.aload_n 0, 1) := by decide +kernel
theorem dX12_match_49 : decode cX12_match 49 = .ok (.getfield 40, 3) := by decide +kernel
theorem dX12_match_52 : decode cX12_match 52 = .ok (.iconst 0, 1) := by decide +kernel
theorem dX12_match_53 : decode cX12_match 53 = .ok (.iaload, 1) := by decide +kernel
theorem dX12_match_54 : decode cX12_match 54 = .ok (.if_icmp .ge 65, 3) := by decide +kernel
theorem dX12_match_57 : decode cX12_match 57 = .ok (.aload_n 0, 1) := by decide +kernel
theorem dX12_match_58 : decode cX12_match 58 = .ok (.iload_n 3, 1) := by decide +kernel
theorem dX12_match_59 : decode cX12_match 59 = .ok (.iload 4, 2) := by decide +kernel
theorem dX12_match_61 : decode cX12_match 61 = .ok (.invokevirtual 409, 3) := by decide +kernel
theorem dX12_match_64 : decode cX12_match 64 = .ok (.ifCond .ne 6, 3) := by decide +kernel
theorem dX12_match_67 : decode cX12_match 67 = .ok (.goto 46, 3) := by decide +kernel
theorem dX12_match_70 : decode cX12_match 70 = .ok (.aload_n 0, 1) := by decide +kernel
theorem dX12_match_71 : decode cX12_match 71 = .ok (.iload_n 3, 1) := by decide +kernel
theorem dX12_match_72 : decode cX12_match 72 = .ok (.iload 4, 2) := by decide +kernel
theorem dX12_match_74 : decode cX12_match 74 = .ok (.invokevirtual 412, 3) := by decide +kernel
theorem dX12_match_77 : decode cX12_match 77 = .ok (.aload_n 0, 1) := by decide +kernel
theorem dX12_match_78 : decode cX12_match 78 = .ok (.iconst 5, 1) := by decide +kernel
theorem dX12_match_79 : decode cX12_match 79 = .ok (.invokevirtual 472, 3) := by decide +kernel
theorem dX12_match_82 : decode cX12_match 82 = .ok (.istore 5, 2) := by decide +kernel
theorem dX12_match_84 : decode cX12_match 84 = .ok (.aload_n 0, 1) := by decide +kernel
theorem dX12_match_85 : decode cX12_match 85 = .ok (.aload_n 0, 1) := by decide +kernel
theorem dX12_match_86 : decode cX12_match 86 = .ok (.getfield 120, 3) := by decide +kernel
theorem dX12_match_89 : decode cX12_match 89 = .ok (.iconst 0, 1) := by decide +kernel
theorem dX12_match_90 : decode cX12_match 90 = .ok (.invokevirtual 416, 3) := by decide +kernel
theorem dX12_match_93 : decode cX12_match 93 = .ok (.iload 5, 2) := by decide +kernel
theorem dX12_match_95 : decode cX12_match 95 = .ok (.iload_n 1, 1) := by decide +kernel
theorem dX12_match_96 : decode cX12_match 96 = .ok (.if_icmp .gt 6, 3) := by decide +kernel
theorem dX12_match_99 : decode cX12_match 99 = .ok (.goto 14, 3) := by decide +kernel
theorem dX12_match_102 : decode cX12_match 102 = .ok (.bipush 10, 2) := by decide +kernel
theorem dX12_match_104 : decode cX12_match 104 = .ok (.iload_n 3, 1) := by decide +kernel
theorem dX12_match_105 : decode cX12_match 105 = .ok (.imul, 1) := by decide +kernel
theorem dX12_match_106 : decode cX12_match 106 = .ok (.iload 4, 2) := by decide +kernel
theorem dX12_match_108 : decode cX12_match 108 = .ok (.iadd, 1) := by decide +kernel
theorem dX12_match_109 : decode cX12_match 109 = .ok (.istore_n 2, 1) := by decide +kernel
theorem dX12_match_110 : decode cX12_match 110 = .ok (.iload 5, 2) := by decide +kernel
theorem dX12_match_112 : decode cX12_match 112 = .ok (.istore_n 1, 1) := by decide +kernel
theorem dX12_match_113 : decode cX12_match 113 = .ok (.iinc 4 1, 3) := by decide +kernel
theorem dX12_match_116 : decode cX12_match 116 = .ok (.goto (-70), 3) := by decide +kernel
theorem dX12_match_119 : decode cX12_match 119 = .ok (.iinc 3 1, 3) := by decide +kernel
theorem dX12_match_122 : decode cX12_match 122 = .ok (.goto (-89), 3) := by decide +kernel
theorem dX12_match_125 : decode cX12_match 125 = .ok (.iload_n 2, 1) := by decide +kernel
theorem dX12_match_126 : decode cX12_match 126 = .ok (.ireturn, 1) := by decide +kernel
theorem dX12_hear_0 : decode cX12_hear 0 = .ok (.aload_n 0, 1) := by decide +kernel
theorem dX12_hear_1 : decode cX12_hear 1 = .ok (.iconst 0, 1) := by decide +kernel
theorem dX12_hear_2 : decode cX12_hear 2 = .ok (.putfield 165, 3) := by decide +kernel
theorem dX12_hear_5 : decode cX12_hear 5 = .ok (.aload_n 0, 1) := by decide +kernel
theorem dX12_hear_6 : decode cX12_hear 6 = .ok (.getfield 341, 3) := by decide +kernel
theorem dX12_hear_9 : decode cX12_hear 9 = .ok (.bipush 8, 2) := by decide +kernel
theorem dX12_hear_11 : decode cX12_hear 11 = .ok (.if_icmp .eq 27, 3) := by decide +kernel
theorem dX12_hear_14 : decode cX12_hear 14 = .ok (.iload_n 1, 1) := by decide +kernel
theorem dX12_hear_15 : decode cX12_hear 15 = .ok (.i2l, 1) := by decide +kernel
theorem dX12_hear_16 : decode cX12_hear 16 = .ok (.lconst 0, 1) := by decide +kernel
theorem dX12_hear_17 : decode cX12_hear 17 = .ok (.ldc2_w 465, 3) := by decide +kernel
theorem dX12_hear_20 : decode cX12_hear 20 = .ok (.invokestatic 168, 3) := by decide +kernel
theorem dX12_hear_23 : decode cX12_hear 23 = .ok (.ifCond .eq 15, 3) := by decide +kernel
theorem dX12_hear_26 : decode cX12_hear 26 = .ok (.iload_n 2, 1) := by decide +kernel
theorem dX12_hear_27 : decode cX12_hear 27 = .ok (.i2l, 1) := by decide +kernel
theorem dX12_hear_28 : decode cX12_hear 28 = .ok (.lconst 0, 1) := by decide +kernel
theorem dX12_hear_29 : decode cX12_hear 29 = .ok (.ldc2_w 475, 3) := by decide +kernel
theorem dX12_hear_32 : decode cX12_hear 32 = .ok (.invokestatic 168, 3) := by decide +kernel
theorem dX12_hear_35 : decode cX12_hear 35 = .ok (.ifCond .ne 9, 3) := by decide +kernel
theorem dX12_hear_38 : decode cX12_hear 38 = .ok (.aload_n 0, 1) := by decide +kernel
theorem dX12_hear_39 : decode cX12_hear 39 = .ok (.iconst 2, 1) := by decide +kernel
theorem dX12_hear_40 : decode cX12_hear 40 = .ok (.invokevirtual 393, 3) := by decide +kernel
theorem dX12_hear_43 : decode cX12_hear 43 = .ok (.ireturn, 1) := by decide +kernel
theorem dX12_hear_44 : decode cX12_hear 44 = .ok (.aload_n 0, 1) := by decide +kernel
theorem dX12_hear_45 : decode cX12_hear 45 = .ok (.getfield 123, 3) := by decide +kernel
theorem dX12_hear_48 : decode cX12_hear 48 = .ok (.aload_n 0, 1) := by decide +kernel
theorem dX12_hear_49 : decode cX12_hear 49 = .ok (.getfield 341, 3) := by decide +kernel
theorem dX12_hear_52 : decode cX12_hear 52 = .ok (.iload_n 1, 1) := by decide +kernel
theorem dX12_hear_53 : decode cX12_hear 53 = .ok (.iastore, 1) := by decide +kernel
theorem dX12_hear_54 : decode cX12_hear 54 = .ok (.aload_n 0, 1) := by decide +kernel
theorem dX12_hear_55 : decode cX12_hear 55 = .ok (.getfield 126, 3) := by decide +kernel
theorem dX12_hear_58 : decode cX12_hear 58 = .ok (.aload_n 0, 1) := by decide +kernel
theorem dX12_hear_59 : decode cX12_hear 59 = .ok (.getfield 341, 3) := by decide +kernel
theorem dX12_hear_62 : decode cX12_hear 62 = .ok (.iload_n 2, 1) := by decide +kernel
theorem dX12_hear_63 : decode cX12_hear 63 = .ok (.iastore, 1) := by decide +kernel
theorem dX12_hear_64 : decode cX12_hear 64 = .ok (.aload_n 0, 1) := by decide +kernel
theorem dX12_hear_65 : decode cX12_hear 65 = .ok (.dup, 1) := by decide +kernel
theorem dX12_hear_66 : decode cX12_hear 66 = .ok (.getfield 341, 3) := by decide +kernel
theorem dX12_hear_69 : decode cX12_hear 69 = .ok (.iconst 1, 1) := by decide +kernel
theorem dX12_hear_70 : decode cX12_hear 70 = .ok (.iadd, 1) := by decide +kernel
theorem dX12_hear_71 : decode cX12_hear 71 = .ok (.putfield 341, 3) := by decide +kernel
theorem dX12_hear_74 : decode cX12_hear 74 = .ok (.aload_n 0, 1) := by decide +kernel
theorem dX12_hear_75 : decode cX12_hear 75 = .ok (.getfield 341, 3) := by decide +kernel
theorem dX12_hear_78 : decode cX12_hear 78 = .ok (.ireturn, 1) := by decide +kernel
theorem dX12_isAsHeard_0 : decode cX12_isAsHeard 0 = .ok (.aload_n 0, 1) := by decide +kernel
theorem dX12_isAsHeard_1 : decode cX12_isAsHeard 1 = .ok (.aload_n 0, 1) := by decide +kernel
theorem dX12_isAsHeard_2 : decode cX12_isAsHeard 2 = .ok (.getfield 129, 3) := by decide +kernel
theorem dX12_isAsHeard_5 : decode cX12_isAsHeard 5 = .ok (.iconst 0, 1) := by decide +kernel
theorem dX12_isAsHeard_6 : decode cX12_isAsHeard 6 = .ok (.invokevirtual 387, 3) := by decide +kernel
theorem dX12_isAsHeard_9 : decode cX12_isAsHeard 9 = .ok (.aload_n 0, 1) := by decide +kernel
theorem dX12_isAsHeard_10 : decode cX12_isAsHeard 10 = .ok (.bipush 20, 2) := by decide +kernel
theorem dX12_isAsHeard_12 : decode cX12_isAsHeard 12 = .ok (.invokevirtual 399, 3) := by decide +kernel
theorem dX12_isAsHeard_15 : decode cX12_isAsHeard 15 = .ok (.iconst 1, 1) := by decide +kernel
theorem dX12_isAsHeard_16 : decode cX12_isAsHeard 16 = .ok (.istore_n 1, 1) := by decide +kernel
theorem dX12_isAsHeard_17 : decode cX12_isAsHeard 17 = .ok (.iconst 0, 1) := by decide +kernel
theorem dX12_isAsHeard_18 : decode cX12_isAsHeard 18 = .ok (.istore_n 2, 1) := by decide +kernel
theorem dX12_isAsHeard_19 : decode cX12_isAsHeard 19 = .ok (.iload_n 2, 1) := by decide +kernel
theorem dX12_isAsHeard_20 : decode cX12_isAsHeard 20 = .ok (.aload_n 0, 1) := by decide +kernel
theorem dX12_isAsHeard_21 : decode cX12_isAsHeard 21 = .ok (.getfield 341, 3) := by decide +kernel
theorem dX12_isAsHeard_24 : decode cX12_isAsHeard 24 = .ok (.if_icmp .ge 52, 3) := by decide +kernel
theorem dX12_isAsHeard_27 : decode cX12_isAsHeard 27 = .ok (.iload_n 1, 1) := by decide +kernel
theorem dX12_isAsHeard_28 : decode cX12_isAsHeard 28 = .ok (.ifCond .eq 48, 3) := by decide +kernel
theorem dX12_isAsHeard_31 : decode cX12_isAsHeard 31 = .ok (.aload_n 0, 1) := by decide +kernel
theorem dX12_isAsHeard_32 : decode cX12_isAsHeard 32 = .ok (.getfield 123, 3) := by decide +kernel
theorem dX12_isAsHeard_35 : decode cX12_isAsHeard 35 = .ok (.iload_n 2, 1) := by decide +kernel
theorem dX12_isAsHeard_36 : decode cX12_isAsHeard 36 = .ok (.iaload, 1) := by decide +kernel
theorem dX12_isAsHeard_37 : decode cX12_isAsHeard 37 = .ok (.aload_n 0, 1) := by decide +kernel
theorem dX12_isAsHeard_38 : decode cX12_isAsHeard 38 = .ok (.getfield 320, 3) := by decide +kernel
theorem dX12_isAsHeard_41 : decode cX12_isAsHeard 41 = .ok (.if_icmp .ge 27, 3) := by decide +kernel
theorem dX12_isAsHeard_44 : decode cX12_isAsHeard 44 = .ok (.aload_n 0, 1) := by decide +kernel
theorem dX12_isAsHeard_45 : decode cX12_isAsHeard 45 = .ok (.getfield 93, 3) := by decide +kernel
theorem dX12_isAsHeard_48 : decode cX12_isAsHeard 48 = .ok (.aload_n 0, 1) := by decide +kernel
theorem dX12_isAsHeard_49 : decode cX12_isAsHeard 49 = .ok (.getfield 123, 3) := by decide +kernel
theorem dX12_isAsHeard_52 : decode cX12_isAsHeard 52 = .ok (.iload_n 2, 1) := by decide +kernel
theorem dX12_isAsHeard_53 : decode cX12_isAsHeard 53 = .ok (.iaload, 1) := by decide +kernel
theorem dX12_isAsHeard_54 : decode cX12_isAsHeard 54 = .ok (.iaload, 1) := by decide +kernel
theorem dX12_isAsHeard_55 : decode cX12_isAsHeard 55 = .ok (.aload_n 0, 1) := by decide +kernel
theorem dX12_isAsHeard_56 : decode cX12_isAsHeard 56 = .ok (.getfield 126, 3) := by decide +kernel
theorem dX12_isAsHeard_59 : decode cX12_isAsHeard 59 = .ok (.iload_n 2, 1) := by decide +kernel
theorem dX12_isAsHeard_60 : decode cX12_isAsHeard 60 = .ok (.iaload, 1) := by decide +kernel
theorem dX12_isAsHeard_61 : decode cX12_isAsHeard 61 = .ok (.if_icmp .ne 7, 3) := by decide +kernel
theorem dX12_isAsHeard_64 : decode cX12_isAsHeard 64 = .ok (.iconst 1, 1) := by decide +kernel
theorem dX12_isAsHeard_65 : decode cX12_isAsHeard 65 = .ok (.goto 4, 3) := by decide +kernel
theorem dX12_isAsHeard_68 : decode cX12_isAsHeard 68 = .ok (.iconst 0, 1) := by decide +kernel
theorem dX12_isAsHeard_69 : decode cX12_isAsHeard 69 = .ok (.istore_n 1, 1) := by decide +kernel
theorem dX12_isAsHeard_70 : decode cX12_isAsHeard 70 = .ok (.iinc 2 1, 3) := by decide +kernel
theorem dX12_isAsHeard_73 : decode cX12_isAsHeard 73 = .ok (.goto (-54), 3) := by decide +kernel
theorem dX12_isAsHeard_76 : decode cX12_isAsHeard 76 = .ok (.aload_n 0, 1) := by decide +kernel
theorem dX12_isAsHeard_77 : decode cX12_isAsHeard 77 = .ok (.aload_n 0, 1) := by decide +kernel
theorem dX12_isAsHeard_78 : decode cX12_isAsHeard 78 = .ok (.getfield 129, 3) := by decide +kernel
theorem dX12_isAsHeard_81 : decode cX12_isAsHeard 81 = .ok (.iconst 0, 1) := by decide +kernel
theorem dX12_isAsHeard_82 : decode cX12_isAsHeard 82 = .ok (.invokevirtual 416, 3) := by decide +kernel
theorem dX12_isAsHeard_85 : decode cX12_isAsHeard 85 = .ok (.iload_n 1, 1) := by decide +kernel
theorem dX12_isAsHeard_86 : decode cX12_isAsHeard 86 = .ok (.ireturn, 1) := by decide +kernel
theorem dX12_spies_0 : decode cX12_spies 0 = .ok (.iconst 0, 1) := by decide +kernel
theorem dX12_spies_1 : decode cX12_spies 1 = .ok (.istore_n 1, 1) := by decide +kernel
theorem dX12_spies_2 : decode cX12_spies 2 = .ok (.iconst 0, 1) := by decide +kernel
theorem dX12_spies_3 : decode cX12_spies 3 = .ok (.istore_n 2, 1) := by decide +kernel
theorem dX12_spies_4 : decode cX12_spies 4 = .ok (.iload_n 2, 1) := by decide +kernel
theorem dX12_spies_5 : decode cX12_spies 5 = .ok (.aload_n 0, 1) := by decide +kernel
theorem dX12_spies_6 : decode cX12_spies 6 = .ok (.getfield 40, 3) := by decide +kernel
theorem dX12_spies_9 : decode cX12_spies 9 = .ok (.iconst 0, 1) := by decide +kernel
theorem dX12_spies_10 : decode cX12_spies 10 = .ok (.iaload, 1) := by decide +kernel
theorem dX12_spies_11 : decode cX12_spies 11 = .ok (.if_icmp .ge 31, 3) := by decide +kernel
theorem dX12_spies_14 : decode cX12_spies 14 = .ok (.aload_n 0, 1) := by decide +kernel
theorem dX12_spies_15 : decode cX12_spies 15 = .ok (.iload_n 2, 1) := by decide +kernel
theorem dX12_spies_16 : decode cX12_spies 16 = .ok (.putfield 108, 3) := by decide +kernel
theorem dX12_spies_19 : decode cX12_spies 19 = .ok (.iload_n 1, 1) := by decide +kernel
theorem dX12_spies_20 : decode cX12_spies 20 = .ok (.aload_n 0, 1) := by decide +kernel
theorem dX12_spies_21 : decode cX12_spies 21 = .ok (.invokevirtual 477, 3) := by decide +kernel
theorem dX12_spies_24 : decode cX12_spies 24 = .ok (.ifCond .eq 9, 3) := by decide +kernel
theorem dX12_spies_27 : decode cX12_spies 27 = .ok (.iconst 1, 1) := by decide +kernel
theorem dX12_spies_28 : decode cX12_spies 28 = .ok (.iload_n 2, 1) := by decide +kernel
theorem dX12_spies_29 : decode cX12_spies 29 = .ok (.ishl, 1) := by decide +kernel
theorem dX12_spies_30 : decode cX12_spies 30 = .ok (.goto 4, 3) := by decide +kernel
theorem dX12_spies_33 : decode cX12_spies 33 = .ok (.iconst 0, 1) := by decide +kernel
theorem dX12_spies_34 : decode cX12_spies 34 = .ok (.ior, 1) := by decide +kernel
theorem dX12_spies_35 : decode cX12_spies 35 = .ok (.istore_n 1, 1) := by decide +kernel
theorem dX12_spies_36 : decode cX12_spies 36 = .ok (.iinc 2 1, 3) := by decide +kernel
theorem dX12_spies_39 : decode cX12_spies 39 = .ok (.goto (-35), 3) := by decide +kernel
theorem dX12_spies_42 : decode cX12_spies 42 = .ok (.aload_n 0, 1) := by decide +kernel
theorem dX12_spies_43 : decode cX12_spies 43 = .ok (.iconst (-1), 1) := by decide +kernel
theorem dX12_spies_44 : decode cX12_spies 44 = .ok (.putfield 108, 3) := by decide +kernel
theorem dX12_spies_47 : decode cX12_spies 47 = .ok (.iload_n 1, 1) := by decide +kernel
theorem dX12_spies_48 : decode cX12_spies 48 = .ok (.ireturn, 1) := by decide +kernel
theorem dX12_spy_0 : decode cX12_spy 0 = .ok (.aload_n 0, 1) := by decide +kernel
theorem dX12_spy_1 : decode cX12_spy 1 = .ok (.iconst 0, 1) := by decide +kernel
theorem dX12_spy_2 : decode cX12_spy 2 = .ok (.putfield 165, 3) := by decide +kernel
theorem dX12_spy_5 : decode cX12_spy 5 = .ok (.iload_n 1, 1) := by decide +kernel
theorem dX12_spy_6 : decode cX12_spy 6 = .ok (.i2l, 1) := by decide +kernel
theorem dX12_spy_7 : decode cX12_spy 7 = .ok (.lconst 0, 1) := by decide +kernel
theorem dX12_spy_8 : decode cX12_spy 8 = .ok (.ldc2_w 385, 3) := by decide +kernel
theorem dX12_spy_11 : decode cX12_spy 11 = .ok (.invokestatic 168, 3) := by decide +kernel
theorem dX12_spy_14 : decode cX12_spy 14 = .ok (.ifCond .ne 9, 3) := by decide +kernel
theorem dX12_spy_17 : decode cX12_spy 17 = .ok (.aload_n 0, 1) := by decide +kernel
theorem dX12_spy_18 : decode cX12_spy 18 = .ok (.iconst 1, 1) := by decide +kernel
theorem dX12_spy_19 : decode cX12_spy 19 = .ok (.invokevirtual 303, 3) := by decide +kernel
theorem dX12_spy_22 : decode cX12_spy 22 = .ok (.ireturn, 1) := by decide +kernel
theorem dX12_spy_23 : decode cX12_spy 23 = .ok (.iload_n 1, 1) := by decide +kernel
theorem dX12_spy_24 : decode cX12_spy 24 = .ok (.iconst 2, 1) := by decide +kernel
theorem dX12_spy_25 : decode cX12_spy 25 = .ok (.if_icmp .ne 16, 3) := by decide +kernel
theorem dX12_spy_28 : decode cX12_spy 28 = .ok (.aload_n 0, 1) := by decide +kernel
theorem dX12_spy_29 : decode cX12_spy 29 = .ok (.invokevirtual 477, 3) := by decide +kernel
theorem dX12_spy_32 : decode cX12_spy 32 = .ok (.ifCond .eq 7, 3) := by decide +kernel
theorem dX12_spy_35 : decode cX12_spy 35 = .ok (.iconst 1, 1) := by decide +kernel
theorem dX12_spy_36 : decode cX12_spy 36 = .ok (.goto 4, 3) := by decide +kernel
theorem dX12_spy_39 : decode cX12_spy 39 = .ok (.iconst 0, 1) := by decide +kernel
theorem dX12_spy_40 : decode cX12_spy 40 = .ok (.ireturn, 1) := by decide +kernel
theorem dX12_spy_41 : decode cX12_spy 41 = .ok (.aload_n 0, 1) := by decide +kernel
theorem dX12_spy_42 : decode cX12_spy 42 = .ok (.invokevirtual 480, 3) := by decide +kernel
theorem dX12_spy_45 : decode cX12_spy 45 = .ok (.istore_n 2, 1) := by decide +kernel
theorem dX12_spy_46 : decode cX12_spy 46 = .ok (.iconst 0, 1) := by decide +kernel
theorem dX12_spy_47 : decode cX12_spy 47 = .ok (.istore_n 3, 1) := by decide +kernel
theorem dX12_spy_48 : decode cX12_spy 48 = .ok (.iload_n 3, 1) := by decide +kernel
theorem dX12_spy_49 : decode cX12_spy 49 = .ok (.bipush 8, 2) := by decide +kernel
theorem dX12_spy_51 : decode cX12_spy 51 = .ok (.if_icmp .ge 17, 3) := by decide +kernel
theorem dX12_spy_54 : decode cX12_spy 54 = .ok (.iload_n 2, 1) := by decide +kernel
theorem dX12_spy_55 : decode cX12_spy 55 = .ok (.iload_n 3, 1) := by decide +kernel
theorem dX12_spy_56 : decode cX12_spy 56 = .ok (.invokestatic 370, 3) := by decide +kernel
theorem dX12_spy_59 : decode cX12_spy 59 = .ok (.ifCond .ne 9, 3) := by decide +kernel
theorem dX12_spy_62 : decode cX12_spy 62 = .ok (.iinc 3 1, 3) := by decide +kernel
theorem dX12_spy_65 : decode cX12_spy 65 = .ok (.goto (-17), 3) := by decide +kernel
theorem dX12_spy_68 : decode cX12_spy 68 = .ok (.iload_n 1, 1) := by decide +kernel
theorem dX12_spy_69 : decode cX12_spy 69 = .ok (.ifCond .ne 10, 3) := by decide +kernel
theorem dX12_spy_72 : decode cX12_spy 72 = .ok (.iload_n 2, 1) := by decide +kernel
theorem dX12_spy_73 : decode cX12_spy 73 = .ok (.invokestatic 469, 3) := by decide +kernel
theorem dX12_spy_76 : decode cX12_spy 76 = .ok (.goto 12, 3) := by decide +kernel
theorem dX12_spy_79 : decode cX12_spy 79 = .ok (.iload_n 2, 1) := by decide +kernel
theorem dX12_spy_80 : decode cX12_spy 80 = .ok (.ifCond .ne 7, 3) := by decide +kernel
theorem dX12_spy_83 : decode cX12_spy 83 = .ok (.iconst (-1), 1) := by decide +kernel
theorem dX12_spy_84 : decode cX12_spy 84 = .ok (.goto 4, 3) := by decide +kernel
theorem dX12_spy_87 : decode cX12_spy 87 = .ok (.iload_n 3, 1) := by decide +kernel
theorem dX12_spy_88 : decode cX12_spy 88 = .ok (.ireturn, 1) := by decide +kernel
theorem dX12_tellUnlike_0 : decode cX12_tellUnlike 0 = .ok (.aload_n 0, 1) := by decide +kernel
theorem dX12_tellUnlike_1 : decode cX12_tellUnlike 1 = .ok (.getfield 320, 3) := by decide +kernel
theorem dX12_tellUnlike_4 : decode cX12_tellUnlike 4 = .ok (.istore_n 2, 1) := by decide +kernel
theorem dX12_tellUnlike_5 : decode cX12_tellUnlike 5 = .ok (.iconst 0, 1) := by decide +kernel
theorem dX12_tellUnlike_6 : decode cX12_tellUnlike 6 = .ok (.istore_n 3, 1) := by decide +kernel
theorem dX12_tellUnlike_7 : decode cX12_tellUnlike 7 = .ok (.iload_n 3, 1) := by decide +kernel
theorem dX12_tellUnlike_8 : decode cX12_tellUnlike 8 = .ok (.bipush 60, 2) := by decide +kernel
theorem dX12_tellUnlike_10 : decode cX12_tellUnlike 10 = .ok (.if_icmp .ge 16, 3) := by decide +kernel
theorem dX12_tellUnlike_13 : decode cX12_tellUnlike 13 = .ok (.aload_n 0, 1) := by decide +kernel
theorem dX12_tellUnlike_14 : decode cX12_tellUnlike 14 = .ok (.getfield 132, 3) := by decide +kernel
theorem dX12_tellUnlike_17 : decode cX12_tellUnlike 17 = .ok (.iload_n 3, 1) := by decide +kernel
theorem dX12_tellUnlike_18 : decode cX12_tellUnlike 18 = .ok (.iconst 0, 1) := by decide +kernel
theorem dX12_tellUnlike_19 : decode cX12_tellUnlike 19 = .ok (.iastore, 1) := by decide +kernel
theorem dX12_tellUnlike_20 : decode cX12_tellUnlike 20 = .ok (.iinc 3 1, 3) := by decide +kernel
theorem dX12_tellUnlike_23 : decode cX12_tellUnlike 23 = .ok (.goto (-16), 3) := by decide +kernel
theorem dX12_tellUnlike_26 : decode cX12_tellUnlike 26 = .ok (.iconst 0, 1) := by decide +kernel
theorem dX12_tellUnlike_27 : decode cX12_tellUnlike 27 = .ok (.istore_n 3, 1) := by decide +kernel
theorem dX12_tellUnlike_28 : decode cX12_tellUnlike 28 = .ok (.iload_n 3, 1) := by decide +kernel
theorem dX12_tellUnlike_29 : decode cX12_tellUnlike 29 = .ok (.aload_n 0, 1) := by decide +kernel
theorem dX12_tellUnlike_30 : decode cX12_tellUnlike 30 = .ok (.getfield 40, 3) := by decide +kernel
theorem dX12_tellUnlike_33 : decode cX12_tellUnlike 33 = .ok (.iconst 0, 1) := by decide +kernel
theorem dX12_tellUnlike_34 : decode cX12_tellUnlike 34 = .ok (.iaload, 1) := by decide +kernel
theorem dX12_tellUnlike_35 : decode cX12_tellUnlike 35 = .ok (.if_icmp .ge 108, 3) := by decide +kernel
theorem dX12_tellUnlike_38 : decode cX12_tellUnlike 38 = .ok (.iload_n 1, 1) := by decide +kernel
theorem dX12_tellUnlike_39 : decode cX12_tellUnlike 39 = .ok (.iload_n 3, 1) := by decide +kernel
theorem dX12_tellUnlike_40 : decode cX12_tellUnlike 40 = .ok (.invokestatic 370, 3) := by decide +kernel
theorem dX12_tellUnlike_43 : decode cX12_tellUnlike 43 = .ok (.ifCond .ne 6, 3) := by decide +kernel
theorem dX12_tellUnlike_46 : decode cX12_tellUnlike 46 = .ok (.goto 91, 3) := by decide +kernel
theorem dX12_tellUnlike_49 : decode cX12_tellUnlike 49 = .ok (.aload_n 0, 1) := by decide +kernel
theorem dX12_tellUnlike_50 : decode cX12_tellUnlike 50 = .ok (.aload_n 0, 1) := by decide +kernel
theorem dX12_tellUnlike_51 : decode cX12_tellUnlike 51 = .ok (.getfield 120, 3) := by decide +kernel
theorem dX12_tellUnlike_54 : decode cX12_tellUnlike 54 = .ok (.iconst 0, 1) := by decide +kernel
theorem dX12_tellUnlike_55 : decode cX12_tellUnlike 55 = .ok (.invokevirtual 387, 3) := by decide +kernel
theorem dX12_tellUnlike_58 : decode cX12_tellUnlike 58 = .ok (.aload_n 0, 1) := by decide +kernel
theorem dX12_tellUnlike_59 : decode cX12_tellUnlike 59 = .ok (.iload_n 3, 1) := by decide +kernel
theorem dX12_tellUnlike_60 : decode cX12_tellUnlike 60 = .ok (.putfield 108, 3) := by decide +kernel
theorem dX12_tellUnlike_63 : decode cX12_tellUnlike 63 = .ok (.aload_n 0, 1) := by decide +kernel
theorem dX12_tellUnlike_64 : decode cX12_tellUnlike 64 = .ok (.bipush 20, 2) := by decide +kernel
theorem dX12_tellUnlike_66 : decode cX12_tellUnlike 66 = .ok (.invokevirtual 399, 3) := by decide +kernel
theorem dX12_tellUnlike_69 : decode cX12_tellUnlike 69 = .ok (.iconst 0, 1) := by decide +kernel
theorem dX12_tellUnlike_70 : decode cX12_tellUnlike 70 = .ok (.istore 4, 2) := by decide +kernel
theorem dX12_tellUnlike_72 : decode cX12_tellUnlike 72 = .ok (.iload 4, 2) := by decide +kernel
theorem dX12_tellUnlike_74 : decode cX12_tellUnlike 74 = .ok (.bipush 60, 2) := by decide +kernel
theorem dX12_tellUnlike_76 : decode cX12_tellUnlike 76 = .ok (.if_icmp .ge 47, 3) := by decide +kernel
theorem dX12_tellUnlike_79 : decode cX12_tellUnlike 79 = .ok (.aload_n 0, 1) := by decide +kernel
theorem dX12_tellUnlike_80 : decode cX12_tellUnlike 80 = .ok (.getfield 132, 3) := by decide +kernel
theorem dX12_tellUnlike_83 : decode cX12_tellUnlike 83 = .ok (.iload 4, 2) := by decide +kernel
theorem dX12_tellUnlike_85 : decode cX12_tellUnlike 85 = .ok (.dup2, 1) := by decide +kernel
theorem dX12_tellUnlike_86 : decode cX12_tellUnlike 86 = .ok (.iaload, 1) := by decide +kernel
theorem dX12_tellUnlike_87 : decode cX12_tellUnlike 87 = .ok (.iload_n 2, 1) := by decide +kernel
theorem dX12_tellUnlike_88 : decode cX12_tellUnlike 88 = .ok (.iload 4, 2) := by decide +kernel
theorem dX12_tellUnlike_90 : decode cX12_tellUnlike 90 = .ok (.iadd, 1) := by decide +kernel
theorem dX12_tellUnlike_91 : decode cX12_tellUnlike 91 = .ok (.aload_n 0, 1) := by decide +kernel
theorem dX12_tellUnlike_92 : decode cX12_tellUnlike 92 = .ok (.getfield 320, 3) := by decide +kernel
theorem dX12_tellUnlike_95 : decode cX12_tellUnlike 95 = .ok (.if_icmp .ge 17, 3) := by decide +kernel
theorem dX12_tellUnlike_98 : decode cX12_tellUnlike 98 = .ok (.iconst 1, 1) := by decide +kernel
theorem dX12_tellUnlike_99 : decode cX12_tellUnlike 99 = .ok (.aload_n 0, 1) := by decide +kernel
theorem dX12_tellUnlike_100 : decode cX12_tellUnlike 100 = .ok (.getfield 93, 3) := by decide +kernel
theorem dX12_tellUnlike_103 : decode cX12_tellUnlike 103 = .ok (.iload_n 2, 1) := by decide +kernel
theorem dX12_tellUnlike_104 : decode cX12_tellUnlike 104 = .ok (.iload 4, 2) := by decide +kernel
theorem dX12_tellUnlike_106 : decode cX12_tellUnlike 106 = .ok (.iadd, 1) := by decide +kernel
theorem dX12_tellUnlike_107 : decode cX12_tellUnlike 107 = .ok (.iaload, 1) := by decide +kernel
theorem dX12_tellUnlike_108 : decode cX12_tellUnlike 108 = .ok (.ishl, 1) := by decide +kernel
theorem dX12_tellUnlike_109 : decode cX12_tellUnlike 109 = .ok (.goto 6, 3) := by decide +kernel
theorem dX12_tellUnlike_112 : decode cX12_tellUnlike 112 = .ok (.sipush 8192, 3) := by decide +kernel
theorem dX12_tellUnlike_115 : decode cX12_tellUnlike 115 = .ok (.ior, 1) := by decide +kernel
theorem dX12_tellUnlike_116 : decode cX12_tellUnlike 116 = .ok (.iastore, 1) := by decide +kernel
theorem dX12_tellUnlike_117 : decode cX12_tellUnlike 117 = .ok (.iinc 4 1, 3) := by decide +kernel
theorem dX12_tellUnlike_120 : decode cX12_tellUnlike 120 = .ok (.goto (-48), 3) := by decide +kernel
theorem dX12_tellUnlike_123 : decode cX12_tellUnlike 123 = .ok (.aload_n 0, 1) := by decide +kernel
theorem dX12_tellUnlike_124 : decode cX12_tellUnlike 124 = .ok (.iconst (-1), 1) := by decide +kernel
theorem dX12_tellUnlike_125 : decode cX12_tellUnlike 125 = .ok (.putfield 108, 3) := by decide +kernel
theorem dX12_tellUnlike_128 : decode cX12_tellUnlike 128 = .ok (.aload_n 0, 1) := by decide +kernel
theorem dX12_tellUnlike_129 : decode cX12_tellUnlike 129 = .ok (.aload_n 0, 1) := by decide +kernel
theorem dX12_tellUnlike_130 : decode cX12_tellUnlike 130 = .ok (.getfield 120, 3) := by decide +kernel
theorem dX12_tellUnlike_133 : decode cX12_tellUnlike 133 = .ok (.iconst 0, 1) := by decide +kernel
theorem dX12_tellUnlike_134 : decode cX12_tellUnlike 134 = .ok (.invokevirtual 416, 3) := by decide +kernel
theorem dX12_tellUnlike_137 : decode cX12_tellUnlike 137 = .ok (.iinc 3 1, 3) := by decide +kernel
theorem dX12_tellUnlike_140 : decode cX12_tellUnlike 140 = .ok (.goto (-112), 3) := by decide +kernel
theorem dX12_tellUnlike_143 : decode cX12_tellUnlike 143 = .ok (.return_, 1) := by decide +kernel
theorem dX12_listen_0 : decode cX12_listen 0 = .ok (.aload_n 0, 1) := by decide +kernel
theorem dX12_listen_1 : decode cX12_listen 1 = .ok (.iconst 0, 1) := by decide +kernel
theorem dX12_listen_2 : decode cX12_listen 2 = .ok (.putfield 165, 3) := by decide +kernel
theorem dX12_listen_5 : decode cX12_listen 5 = .ok (.iload_n 1, 1) := by decide +kernel
theorem dX12_listen_6 : decode cX12_listen 6 = .ok (.ifCond .lt 8, 3) := by decide +kernel
theorem dX12_listen_9 : decode cX12_listen 9 = .ok (.iload_n 1, 1) := by decide +kernel
theorem dX12_listen_10 : decode cX12_listen 10 = .ok (.iconst 1, 1) := by decide +kernel
theorem dX12_listen_11 : decode cX12_listen 11 = .ok (.if_icmp .le 9, 3) := by decide +kernel
theorem dX12_listen_14 : decode cX12_listen 14 = .ok (.aload_n 0, 1) := by decide +kernel
theorem dX12_listen_15 : decode cX12_listen 15 = .ok (.iconst 1, 1) := by decide +kernel
theorem dX12_listen_16 : decode cX12_listen 16 = .ok (.invokevirtual 303, 3) := by decide +kernel
theorem dX12_listen_19 : decode cX12_listen 19 = .ok (.ireturn, 1) := by decide +kernel
theorem dX12_listen_20 : decode cX12_listen 20 = .ok (.aload_n 0, 1) := by decide +kernel
theorem dX12_listen_21 : decode cX12_listen 21 = .ok (.aload_n 0, 1) := by decide +kernel
theorem dX12_listen_22 : decode cX12_listen 22 = .ok (.invokevirtual 480, 3) := by decide +kernel
theorem dX12_listen_25 : decode cX12_listen 25 = .ok (.invokevirtual 483, 3) := by decide +kernel
theorem dX12_listen_28 : decode cX12_listen 28 = .ok (.iconst (-1), 1) := by decide +kernel
theorem dX12_listen_29 : decode cX12_listen 29 = .ok (.istore_n 2, 1) := by decide +kernel
theorem dX12_listen_30 : decode cX12_listen 30 = .ok (.iconst 0, 1) := by decide +kernel
theorem dX12_listen_31 : decode cX12_listen 31 = .ok (.istore_n 3, 1) := by decide +kernel
theorem dX12_listen_32 : decode cX12_listen 32 = .ok (.iconst 0, 1) := by decide +kernel
theorem dX12_listen_33 : decode cX12_listen 33 = .ok (.istore 4, 2) := by decide +kernel
theorem dX12_listen_35 : decode cX12_listen 35 = .ok (.iload 4, 2) := by decide +kernel
theorem dX12_listen_37 : decode cX12_listen 37 = .ok (.bipush 60, 2) := by decide +kernel
theorem dX12_listen_39 : decode cX12_listen 39 = .ok (.if_icmp .ge 58, 3) := by decide +kernel
theorem dX12_listen_42 : decode cX12_listen 42 = .ok (.aload_n 0, 1) := by decide +kernel
theorem dX12_listen_43 : decode cX12_listen 43 = .ok (.getfield 320, 3) := by decide +kernel
theorem dX12_listen_46 : decode cX12_listen 46 = .ok (.iload 4, 2) := by decide +kernel
theorem dX12_listen_48 : decode cX12_listen 48 = .ok (.iadd, 1) := by decide +kernel
theorem dX12_listen_49 : decode cX12_listen 49 = .ok (.sipush 400, 3) := by decide +kernel
theorem dX12_listen_52 : decode cX12_listen 52 = .ok (.if_icmp .ge 45, 3) := by decide +kernel
theorem dX12_listen_55 : decode cX12_listen 55 = .ok (.aload_n 0, 1) := by decide +kernel
theorem dX12_listen_56 : decode cX12_listen 56 = .ok (.getfield 132, 3) := by decide +kernel
theorem dX12_listen_59 : decode cX12_listen 59 = .ok (.iload 4, 2) := by decide +kernel
theorem dX12_listen_61 : decode cX12_listen 61 = .ok (.iaload, 1) := by decide +kernel
theorem dX12_listen_62 : decode cX12_listen 62 = .ok (.invokestatic 469, 3) := by decide +kernel
theorem dX12_listen_65 : decode cX12_listen 65 = .ok (.iload_n 3, 1) := by decide +kernel
theorem dX12_listen_66 : decode cX12_listen 66 = .ok (.if_icmp .gt 6, 3) := by decide +kernel
theorem dX12_listen_69 : decode cX12_listen 69 = .ok (.goto 22, 3) := by decide +kernel
theorem dX12_listen_72 : decode cX12_listen 72 = .ok (.aload_n 0, 1) := by decide +kernel
theorem dX12_listen_73 : decode cX12_listen 73 = .ok (.getfield 320, 3) := by decide +kernel
theorem dX12_listen_76 : decode cX12_listen 76 = .ok (.iload 4, 2) := by decide +kernel
theorem dX12_listen_78 : decode cX12_listen 78 = .ok (.iadd, 1) := by decide +kernel
theorem dX12_listen_79 : decode cX12_listen 79 = .ok (.istore_n 2, 1) := by decide +kernel
theorem dX12_listen_80 : decode cX12_listen 80 = .ok (.aload_n 0, 1) := by decide +kernel
theorem dX12_listen_81 : decode cX12_listen 81 = .ok (.getfield 132, 3) := by decide +kernel
theorem dX12_listen_84 : decode cX12_listen 84 = .ok (.iload 4, 2) := by decide +kernel
theorem dX12_listen_86 : decode cX12_listen 86 = .ok (.iaload, 1) := by decide +kernel
theorem dX12_listen_87 : decode cX12_listen 87 = .ok (.invokestatic 469, 3) := by decide +kernel
theorem dX12_listen_90 : decode cX12_listen 90 = .ok (.istore_n 3, 1) := by decide +kernel
theorem dX12_listen_91 : decode cX12_listen 91 = .ok (.iinc 4 1, 3) := by decide +kernel
theorem dX12_listen_94 : decode cX12_listen 94 = .ok (.goto (-59), 3) := by decide +kernel
theorem dX12_listen_97 : decode cX12_listen 97 = .ok (.iload_n 1, 1) := by decide +kernel
theorem dX12_listen_98 : decode cX12_listen 98 = .ok (.ifCond .ne 7, 3) := by decide +kernel
theorem dX12_listen_101 : decode cX12_listen 101 = .ok (.iload_n 2, 1) := by decide +kernel
theorem dX12_listen_102 : decode cX12_listen 102 = .ok (.goto 4, 3) := by decide +kernel
theorem dX12_listen_105 : decode cX12_listen 105 = .ok (.iload_n 3, 1) := by decide +kernel
theorem dX12_listen_106 : decode cX12_listen 106 = .ok (.ireturn, 1) := by decide +kernel
theorem dX12_forget_0 : decode cX12_forget 0 = .ok (.aload_n 0, 1) := by decide +kernel
theorem dX12_forget_1 : decode cX12_forget 1 = .ok (.iconst 0, 1) := by decide +kernel
theorem dX12_forget_2 : decode cX12_forget 2 = .ok (.putfield 165, 3) := by decide +kernel
theorem dX12_forget_5 : decode cX12_forget 5 = .ok (.aload_n 0, 1) := by decide +kernel
theorem dX12_forget_6 : decode cX12_forget 6 = .ok (.iconst 0, 1) := by decide +kernel
theorem dX12_forget_7 : decode cX12_forget 7 = .ok (.putfield 341, 3) := by decide +kernel
theorem dX12_forget_10 : decode cX12_forget 10 = .ok (.return_, 1) := by decide +kernel
theorem dX12_isFor_0 : decode cX12_isFor 0 = .ok (.iconst 1, 1) := by decide +kernel
theorem dX12_isFor_1 : decode cX12_isFor 1 = .ok (.aload_n 0, 1) := by decide +kernel
theorem dX12_isFor_2 : decode cX12_isFor 2 = .ok (.getfield 40, 3) := by decide +kernel
theorem dX12_isFor_5 : decode cX12_isFor 5 = .ok (.iconst 0, 1) := by decide +kernel
theorem dX12_isFor_6 : decode cX12_isFor 6 = .ok (.iaload, 1) := by decide +kernel
theorem dX12_isFor_7 : decode cX12_isFor 7 = .ok (.ishl, 1) := by decide +kernel
theorem dX12_isFor_8 : decode cX12_isFor 8 = .ok (.iconst 1, 1) := by decide +kernel
theorem dX12_isFor_9 : decode cX12_isFor 9 = .ok (.isub, 1) := by decide +kernel
theorem dX12_isFor_10 : decode cX12_isFor 10 = .ok (.aload_n 0, 1) := by decide +kernel
theorem dX12_isFor_11 : decode cX12_isFor 11 = .ok (.getfield 326, 3) := by decide +kernel
theorem dX12_isFor_14 : decode cX12_isFor 14 = .ok (.iconst (-1), 1) := by decide +kernel
theorem dX12_isFor_15 : decode cX12_isFor 15 = .ok (.ixor, 1) := by decide +kernel
theorem dX12_isFor_16 : decode cX12_isFor 16 = .ok (.iand, 1) := by decide +kernel
theorem dX12_isFor_17 : decode cX12_isFor 17 = .ok (.invokestatic 469, 3) := by decide +kernel
theorem dX12_isFor_20 : decode cX12_isFor 20 = .ok (.istore_n 2, 1) := by decide +kernel
theorem dX12_isFor_21 : decode cX12_isFor 21 = .ok (.iconst 0, 1) := by decide +kernel
theorem dX12_isFor_22 : decode cX12_isFor 22 = .ok (.istore_n 3, 1) := by decide +kernel
theorem dX12_isFor_23 : decode cX12_isFor 23 = .ok (.iconst 0, 1) := by decide +kernel
theorem dX12_isFor_24 : decode cX12_isFor 24 = .ok (.aload_n 0, 1) := by decide +kernel
theorem dX12_isFor_25 : decode cX12_isFor 25 = .ok (.getfield 320, 3) := by decide +kernel
theorem dX12_isFor_28 : decode cX12_isFor 28 = .ok (.iload_n 2, 1) := by decide +kernel
theorem dX12_isFor_29 : decode cX12_isFor 29 = .ok (.isub, 1) := by decide +kernel
theorem dX12_isFor_30 : decode cX12_isFor 30 = .ok (.invokestatic 453, 3) := by decide +kernel
theorem dX12_isFor_33 : decode cX12_isFor 33 = .ok (.istore 4, 2) := by decide +kernel
theorem dX12_isFor_35 : decode cX12_isFor 35 = .ok (.iload 4, 2) := by decide +kernel
theorem dX12_isFor_37 : decode cX12_isFor 37 = .ok (.aload_n 0, 1) := by decide +kernel
theorem dX12_isFor_38 : decode cX12_isFor 38 = .ok (.getfield 320, 3) := by decide +kernel
theorem dX12_isFor_41 : decode cX12_isFor 41 = .ok (.if_icmp .ge 59, 3) := by decide +kernel
theorem dX12_isFor_44 : decode cX12_isFor 44 = .ok (.iload_n 3, 1) := by decide +kernel
theorem dX12_isFor_45 : decode cX12_isFor 45 = .ok (.aload_n 0, 1) := by decide +kernel
theorem dX12_isFor_46 : decode cX12_isFor 46 = .ok (.getfield 93, 3) := by decide +kernel
theorem dX12_isFor_49 : decode cX12_isFor 49 = .ok (.iload 4, 2) := by decide +kernel
theorem dX12_isFor_51 : decode cX12_isFor 51 = .ok (.iaload, 1) := by decide +kernel
theorem dX12_isFor_52 : decode cX12_isFor 52 = .ok (.aload_n 0, 1) := by decide +kernel
theorem dX12_isFor_53 : decode cX12_isFor 53 = .ok (.getfield 82, 3) := by decide +kernel
theorem dX12_isFor_56 : decode cX12_isFor 56 = .ok (.iload_n 1, 1) := by decide +kernel
theorem dX12_isFor_57 : decode cX12_isFor 57 = .ok (.iaload, 1) := by decide +kernel
theorem dX12_isFor_58 : decode cX12_isFor 58 = .ok (.if_icmp .ne 7, 3) := by decide +kernel
theorem dX12_isFor_61 : decode cX12_isFor 61 = .ok (.iconst 1, 1) := by decide +kernel
theorem dX12_isFor_62 : decode cX12_isFor 62 = .ok (.goto 30, 3) := by decide +kernel
theorem dX12_isFor_65 : decode cX12_isFor 65 = .ok (.aload_n 0, 1) := by decide +kernel
theorem dX12_isFor_66 : decode cX12_isFor 66 = .ok (.getfield 93, 3) := by decide +kernel
theorem dX12_isFor_69 : decode cX12_isFor 69 = .ok (.iload 4, 2) := by decide +kernel
theorem dX12_isFor_71 : decode cX12_isFor 71 = .ok (.iaload, 1) := by decide +kernel
theorem dX12_isFor_72 : decode cX12_isFor 72 = .ok (.aload_n 0, 1) := by decide +kernel
theorem dX12_isFor_73 : decode cX12_isFor 73 = .ok (.getfield 82, 3) := by decide +kernel
theorem dX12_isFor_76 : decode cX12_isFor 76 = .ok (.iload_n 1, 1) := by decide +kernel
theorem dX12_isFor_77 : decode cX12_isFor 77 = .ok (.iaload, 1) := by decide +kernel
theorem dX12_isFor_78 : decode cX12_isFor 78 = .ok (.bipush 6, 2) := by decide +kernel
theorem dX12_isFor_80 : decode cX12_isFor 80 = .ok (.iadd, 1) := by decide +kernel
theorem dX12_isFor_81 : decode cX12_isFor 81 = .ok (.invokestatic 364, 3) := by decide +kernel
theorem dX12_isFor_84 : decode cX12_isFor 84 = .ok (.if_icmp .ne 7, 3) := by decide +kernel
theorem dX12_isFor_87 : decode cX12_isFor 87 = .ok (.iconst (-1), 1) := by decide +kernel
theorem dX12_isFor_88 : decode cX12_isFor 88 = .ok (.goto 4, 3) := by decide +kernel
theorem dX12_isFor_91 : decode cX12_isFor 91 = .ok (.iconst 0, 1) := by decide +kernel
theorem dX12_isFor_92 : decode cX12_isFor 92 = .ok (.iadd, 1) := by decide +kernel
theorem dX12_isFor_93 : decode cX12_isFor 93 = .ok (.istore_n 3, 1) := by decide +kernel
theorem dX12_isFor_94 : decode cX12_isFor 94 = .ok (.iinc 4 1, 3) := by decide +kernel
theorem dX12_isFor_97 : decode cX12_isFor 97 = .ok (.goto (-62), 3) := by decide +kernel
theorem dX12_isFor_100 : decode cX12_isFor 100 = .ok (.iload_n 3, 1) := by decide +kernel
theorem dX12_isFor_101 : decode cX12_isFor 101 = .ok (.ifCond .le 7, 3) := by decide +kernel
theorem dX12_isFor_104 : decode cX12_isFor 104 = .ok (.iconst 1, 1) := by decide +kernel
theorem dX12_isFor_105 : decode cX12_isFor 105 = .ok (.goto 4, 3) := by decide +kernel
theorem dX12_isFor_108 : decode cX12_isFor 108 = .ok (.iconst 0, 1) := by decide +kernel
theorem dX12_isFor_109 : decode cX12_isFor 109 = .ok (.ireturn, 1) := by decide +kernel
theorem dX12_vote_0 : decode cX12_vote 0 = .ok (.aload_n 0, 1) := by decide +kernel
theorem dX12_vote_1 : decode cX12_vote 1 = .ok (.iconst 0, 1) := by decide +kernel
theorem dX12_vote_2 : decode cX12_vote 2 = .ok (.putfield 165, 3) := by decide +kernel
theorem dX12_vote_5 : decode cX12_vote 5 = .ok (.iconst 0, 1) := by decide +kernel
theorem dX12_vote_6 : decode cX12_vote 6 = .ok (.istore_n 1, 1) := by decide +kernel
theorem dX12_vote_7 : decode cX12_vote 7 = .ok (.iconst 0, 1) := by decide +kernel
theorem dX12_vote_8 : decode cX12_vote 8 = .ok (.istore_n 2, 1) := by decide +kernel
theorem dX12_vote_9 : decode cX12_vote 9 = .ok (.iload_n 2, 1) := by decide +kernel
theorem dX12_vote_10 : decode cX12_vote 10 = .ok (.aload_n 0, 1) := by decide +kernel
theorem dX12_vote_11 : decode cX12_vote 11 = .ok (.getfield 40, 3) := by decide +kernel
theorem dX12_vote_14 : decode cX12_vote 14 = .ok (.iconst 0, 1) := by decide +kernel
theorem dX12_vote_15 : decode cX12_vote 15 = .ok (.iaload, 1) := by decide +kernel
theorem dX12_vote_16 : decode cX12_vote 16 = .ok (.if_icmp .ge 51, 3) := by decide +kernel
theorem dX12_vote_19 : decode cX12_vote 19 = .ok (.aload_n 0, 1) := by decide +kernel
theorem dX12_vote_20 : decode cX12_vote 20 = .ok (.getfield 44, 3) := by decide +kernel
theorem dX12_vote_23 : decode cX12_vote 23 = .ok (.iload_n 2, 1) := by decide +kernel
theorem dX12_vote_24 : decode cX12_vote 24 = .ok (.iaload, 1) := by decide +kernel
theorem dX12_vote_25 : decode cX12_vote 25 = .ok (.iconst 2, 1) := by decide +kernel
theorem dX12_vote_26 : decode cX12_vote 26 = .ok (.if_icmp .ne 35, 3) := by decide +kernel
theorem dX12_vote_29 : decode cX12_vote 29 = .ok (.aload_n 0, 1) := by decide +kernel
theorem dX12_vote_30 : decode cX12_vote 30 = .ok (.getfield 323, 3) := by decide +kernel
theorem dX12_vote_33 : decode cX12_vote 33 = .ok (.aload_n 0, 1) := by decide +kernel
theorem dX12_vote_34 : decode cX12_vote 34 = .ok (.getfield 326, 3) := by decide +kernel
theorem dX12_vote_37 : decode cX12_vote 37 = .ok (.ior, 1) := by decide +kernel
theorem dX12_vote_38 : decode cX12_vote 38 = .ok (.iload_n 2, 1) := by decide +kernel
theorem dX12_vote_39 : decode cX12_vote 39 = .ok (.invokestatic 370, 3) := by decide +kernel
theorem dX12_vote_42 : decode cX12_vote 42 = .ok (.ifCond .ne 19, 3) := by decide +kernel
theorem dX12_vote_45 : decode cX12_vote 45 = .ok (.iload_n 1, 1) := by decide +kernel
theorem dX12_vote_46 : decode cX12_vote 46 = .ok (.aload_n 0, 1) := by decide +kernel
theorem dX12_vote_47 : decode cX12_vote 47 = .ok (.iload_n 2, 1) := by decide +kernel
theorem dX12_vote_48 : decode cX12_vote 48 = .ok (.invokevirtual 486, 3) := by decide +kernel
theorem dX12_vote_51 : decode cX12_vote 51 = .ok (.ifCond .eq 7, 3) := by decide +kernel
theorem dX12_vote_54 : decode cX12_vote 54 = .ok (.iconst 1, 1) := by decide +kernel
theorem dX12_vote_55 : decode cX12_vote 55 = .ok (.goto 4, 3) := by decide +kernel
theorem dX12_vote_58 : decode cX12_vote 58 = .ok (.iconst (-1), 1) := by decide +kernel
theorem dX12_vote_59 : decode cX12_vote 59 = .ok (.iadd, 1) := by decide +kernel
theorem dX12_vote_60 : decode cX12_vote 60 = .ok (.istore_n 1, 1) := by decide +kernel
theorem dX12_vote_61 : decode cX12_vote 61 = .ok (.iinc 2 1, 3) := by decide +kernel
theorem dX12_vote_64 : decode cX12_vote 64 = .ok (.goto (-55), 3) := by decide +kernel
theorem dX12_vote_67 : decode cX12_vote 67 = .ok (.iload_n 1, 1) := by decide +kernel
theorem dX12_vote_68 : decode cX12_vote 68 = .ok (.ireturn, 1) := by decide +kernel
theorem dX12_canSend_0 : decode cX12_canSend 0 = .ok (.iload_n 2, 1) := by decide +kernel
theorem dX12_canSend_1 : decode cX12_canSend 1 = .ok (.iconst (-1), 1) := by decide +kernel
theorem dX12_canSend_2 : decode cX12_canSend 2 = .ok (.if_icmp .eq 29, 3) := by decide +kernel
theorem dX12_canSend_5 : decode cX12_canSend 5 = .ok (.aload_n 0, 1) := by decide +kernel
theorem dX12_canSend_6 : decode cX12_canSend 6 = .ok (.getfield 80, 3) := by decide +kernel
theorem dX12_canSend_9 : decode cX12_canSend 9 = .ok (.iload_n 2, 1) := by decide +kernel
theorem dX12_canSend_10 : decode cX12_canSend 10 = .ok (.iaload, 1) := by decide +kernel
theorem dX12_canSend_11 : decode cX12_canSend 11 = .ok (.iload_n 1, 1) := by decide +kernel
theorem dX12_canSend_12 : decode cX12_canSend 12 = .ok (.if_icmp .ne 23, 3) := by decide +kernel
theorem dX12_canSend_15 : decode cX12_canSend 15 = .ok (.aload_n 0, 1) := by decide +kernel
theorem dX12_canSend_16 : decode cX12_canSend 16 = .ok (.getfield 323, 3) := by decide +kernel
theorem dX12_canSend_19 : decode cX12_canSend 19 = .ok (.aload_n 0, 1) := by decide +kernel
theorem dX12_canSend_20 : decode cX12_canSend 20 = .ok (.getfield 326, 3) := by decide +kernel
theorem dX12_canSend_23 : decode cX12_canSend 23 = .ok (.ior, 1) := by decide +kernel
theorem dX12_canSend_24 : decode cX12_canSend 24 = .ok (.iload_n 2, 1) := by decide +kernel
theorem dX12_canSend_25 : decode cX12_canSend 25 = .ok (.invokestatic 370, 3) := by decide +kernel
theorem dX12_canSend_28 : decode cX12_canSend 28 = .ok (.ifCond .ne 7, 3) := by decide +kernel
theorem dX12_canSend_31 : decode cX12_canSend 31 = .ok (.iconst 1, 1) := by decide +kernel
theorem dX12_canSend_32 : decode cX12_canSend 32 = .ok (.goto 4, 3) := by decide +kernel
theorem dX12_canSend_35 : decode cX12_canSend 35 = .ok (.iconst 0, 1) := by decide +kernel
theorem dX12_canSend_36 : decode cX12_canSend 36 = .ok (.ireturn, 1) := by decide +kernel
theorem dX12_tellGains_0 : decode cX12_tellGains 0 = .ok (.aload_n 0, 1) := by decide +kernel
theorem dX12_tellGains_1 : decode cX12_tellGains 1 = .ok (.aload_n 0, 1) := by decide +kernel
theorem dX12_tellGains_2 : decode cX12_tellGains 2 = .ok (.getfield 120, 3) := by decide +kernel
theorem dX12_tellGains_5 : decode cX12_tellGains 5 = .ok (.iconst 0, 1) := by decide +kernel
theorem dX12_tellGains_6 : decode cX12_tellGains 6 = .ok (.invokevirtual 387, 3) := by decide +kernel
theorem dX12_tellGains_9 : decode cX12_tellGains 9 = .ok (.iconst 0, 1) := by decide +kernel
theorem dX12_tellGains_10 : decode cX12_tellGains 10 = .ok (.istore_n 1, 1) := by decide +kernel
theorem dX12_tellGains_11 : decode cX12_tellGains 11 = .ok (.iload_n 1, 1) := by decide +kernel
theorem dX12_tellGains_12 : decode cX12_tellGains 12 = .ok (.bipush 81, 2) := by decide +kernel
theorem dX12_tellGains_14 : decode cX12_tellGains 14 = .ok (.if_icmp .ge 187, 3) := by decide +kernel
theorem dX12_tellGains_17 : decode cX12_tellGains 17 = .ok (.iload_n 1, 1) := by decide +kernel
theorem dX12_tellGains_18 : decode cX12_tellGains 18 = .ok (.bipush 9, 2) := by decide +kernel
theorem dX12_tellGains_20 : decode cX12_tellGains 20 = .ok (.idiv, 1) := by decide +kernel
theorem dX12_tellGains_21 : decode cX12_tellGains 21 = .ok (.iconst 1, 1) := by decide +kernel
theorem dX12_tellGains_22 : decode cX12_tellGains 22 = .ok (.isub, 1) := by decide +kernel
theorem dX12_tellGains_23 : decode cX12_tellGains 23 = .ok (.istore_n 2, 1) := by decide +kernel
theorem dX12_tellGains_24 : decode cX12_tellGains 24 = .ok (.iload_n 1, 1) := by decide +kernel
theorem dX12_tellGains_25 : decode cX12_tellGains 25 = .ok (.bipush 9, 2) := by decide +kernel
theorem dX12_tellGains_27 : decode cX12_tellGains 27 = .ok (.irem, 1) := by decide +kernel
theorem dX12_tellGains_28 : decode cX12_tellGains 28 = .ok (.iconst 1, 1) := by decide +kernel
theorem dX12_tellGains_29 : decode cX12_tellGains 29 = .ok (.isub, 1) := by decide +kernel
theorem dX12_tellGains_30 : decode cX12_tellGains 30 = .ok (.istore_n 3, 1) := by decide +kernel
theorem dX12_tellGains_31 : decode cX12_tellGains 31 = .ok (.iload_n 2, 1) := by decide +kernel
theorem dX12_tellGains_32 : decode cX12_tellGains 32 = .ok (.aload_n 0, 1) := by decide +kernel
theorem dX12_tellGains_33 : decode cX12_tellGains 33 = .ok (.getfield 40, 3) := by decide +kernel
theorem dX12_tellGains_36 : decode cX12_tellGains 36 = .ok (.iconst 0, 1) := by decide +kernel
theorem dX12_tellGains_37 : decode cX12_tellGains 37 = .ok (.iaload, 1) := by decide +kernel
theorem dX12_tellGains_38 : decode cX12_tellGains 38 = .ok (.if_icmp .ge 157, 3) := by decide +kernel
theorem dX12_tellGains_41 : decode cX12_tellGains 41 = .ok (.iload_n 3, 1) := by decide +kernel
theorem dX12_tellGains_42 : decode cX12_tellGains 42 = .ok (.aload_n 0, 1) := by decide +kernel
theorem dX12_tellGains_43 : decode cX12_tellGains 43 = .ok (.getfield 40, 3) := by decide +kernel
theorem dX12_tellGains_46 : decode cX12_tellGains 46 = .ok (.iconst 0, 1) := by decide +kernel
theorem dX12_tellGains_47 : decode cX12_tellGains 47 = .ok (.iaload, 1) := by decide +kernel
theorem dX12_tellGains_48 : decode cX12_tellGains 48 = .ok (.if_icmp .lt 6, 3) := by decide +kernel
theorem dX12_tellGains_51 : decode cX12_tellGains 51 = .ok (.goto 144, 3) := by decide +kernel
theorem dX12_tellGains_54 : decode cX12_tellGains 54 = .ok (.aload_n 0, 1) := by decide +kernel
theorem dX12_tellGains_55 : decode cX12_tellGains 55 = .ok (.getfield 320, 3) := by decide +kernel
theorem dX12_tellGains_58 : decode cX12_tellGains 58 = .ok (.istore 4, 2) := by decide +kernel
theorem dX12_tellGains_60 : decode cX12_tellGains 60 = .ok (.aload_n 0, 1) := by decide +kernel
theorem dX12_tellGains_61 : decode cX12_tellGains 61 = .ok (.getfield 318, 3) := by decide +kernel
theorem dX12_tellGains_64 : decode cX12_tellGains 64 = .ok (.istore 5, 2) := by decide +kernel
theorem dX12_tellGains_66 : decode cX12_tellGains 66 = .ok (.aload_n 0, 1) := by decide +kernel
theorem dX12_tellGains_67 : decode cX12_tellGains 67 = .ok (.dup, 1) := by decide +kernel
theorem dX12_tellGains_68 : decode cX12_tellGains 68 = .ok (.getfield 323, 3) := by decide +kernel
theorem dX12_tellGains_71 : decode cX12_tellGains 71 = .ok (.iload_n 2, 1) := by decide +kernel
theorem dX12_tellGains_72 : decode cX12_tellGains 72 = .ok (.iconst (-1), 1) := by decide +kernel
theorem dX12_tellGains_73 : decode cX12_tellGains 73 = .ok (.if_icmp .ne 7, 3) := by decide +kernel
theorem dX12_tellGains_76 : decode cX12_tellGains 76 = .ok (.iconst 0, 1) := by decide +kernel
theorem dX12_tellGains_77 : decode cX12_tellGains 77 = .ok (.goto 6, 3) := by decide +kernel
theorem dX12_tellGains_80 : decode cX12_tellGains 80 = .ok (.iconst 1, 1) := by decide +kernel
theorem dX12_tellGains_81 : decode cX12_tellGains 81 = .ok (.iload_n 2, 1) := by decide +kernel
theorem dX12_tellGains_82 : decode cX12_tellGains 82 = .ok (.ishl, 1) := by decide +kernel
theorem dX12_tellGains_83 : decode cX12_tellGains 83 = .ok (.iload_n 3, 1) := by decide +kernel
theorem dX12_tellGains_84 : decode cX12_tellGains 84 = .ok (.iconst (-1), 1) := by decide +kernel
theorem dX12_tellGains_85 : decode cX12_tellGains 85 = .ok (.if_icmp .ne 7, 3) := by decide +kernel
theorem dX12_tellGains_88 : decode cX12_tellGains 88 = .ok (.iconst 0, 1) := by decide +kernel
theorem dX12_tellGains_89 : decode cX12_tellGains 89 = .ok (.goto 6, 3) := by decide +kernel
theorem dX12_tellGains_92 : decode cX12_tellGains 92 = .ok (.iconst 1, 1) := by decide +kernel
theorem dX12_tellGains_93 : decode cX12_tellGains 93 = .ok (.iload_n 3, 1) := by decide +kernel
theorem dX12_tellGains_94 : decode cX12_tellGains 94 = .ok (.ishl, 1) := by decide +kernel
theorem dX12_tellGains_95 : decode cX12_tellGains 95 = .ok (.ior, 1) := by decide +kernel
theorem dX12_tellGains_96 : decode cX12_tellGains 96 = .ok (.ior, 1) := by decide +kernel
theorem dX12_tellGains_97 : decode cX12_tellGains 97 = .ok (.putfield 323, 3) := by decide +kernel
theorem dX12_tellGains_100 : decode cX12_tellGains 100 = .ok (.aload_n 0, 1) := by decide +kernel
theorem dX12_tellGains_101 : decode cX12_tellGains 101 = .ok (.invokevirtual 376, 3) := by decide +kernel
theorem dX12_tellGains_104 : decode cX12_tellGains 104 = .ok (.aload_n 0, 1) := by decide +kernel
theorem dX12_tellGains_105 : decode cX12_tellGains 105 = .ok (.getfield 135, 3) := by decide +kernel
theorem dX12_tellGains_108 : decode cX12_tellGains 108 = .ok (.iload_n 1, 1) := by decide +kernel
theorem dX12_tellGains_109 : decode cX12_tellGains 109 = .ok (.iconst 0, 1) := by decide +kernel
theorem dX12_tellGains_110 : decode cX12_tellGains 110 = .ok (.iastore, 1) := by decide +kernel
theorem dX12_tellGains_111 : decode cX12_tellGains 111 = .ok (.iload 4, 2) := by decide +kernel
theorem dX12_tellGains_113 : decode cX12_tellGains 113 = .ok (.istore 6, 2) := by decide +kernel
theorem dX12_tellGains_115 : decode cX12_tellGains 115 = .ok (.iload 6, 2) := by decide +kernel
theorem dX12_tellGains_117 : decode cX12_tellGains 117 = .ok (.aload_n 0, 1) := by decide +kernel
theorem dX12_tellGains_118 : decode cX12_tellGains 118 = .ok (.getfield 320, 3) := by decide +kernel
theorem dX12_tellGains_121 : decode cX12_tellGains 121 = .ok (.if_icmp .ge 53, 3) := by decide +kernel
theorem dX12_tellGains_124 : decode cX12_tellGains 124 = .ok (.aload_n 0, 1) := by decide +kernel
theorem dX12_tellGains_125 : decode cX12_tellGains 125 = .ok (.getfield 135, 3) := by decide +kernel
theorem dX12_tellGains_128 : decode cX12_tellGains 128 = .ok (.iload_n 1, 1) := by decide +kernel
theorem dX12_tellGains_129 : decode cX12_tellGains 129 = .ok (.dup2, 1) := by decide +kernel
theorem dX12_tellGains_130 : decode cX12_tellGains 130 = .ok (.iaload, 1) := by decide +kernel
theorem dX12_tellGains_131 : decode cX12_tellGains 131 = .ok (.aload_n 0, 1) := by decide +kernel
theorem dX12_tellGains_132 : decode cX12_tellGains 132 = .ok (.getfield 93, 3) := by decide +kernel
theorem dX12_tellGains_135 : decode cX12_tellGains 135 = .ok (.iload 6, 2) := by decide +kernel
theorem dX12_tellGains_137 : decode cX12_tellGains 137 = .ok (.iaload, 1) := by decide +kernel
theorem dX12_tellGains_138 : decode cX12_tellGains 138 = .ok (.iload 5, 2) := by decide +kernel
theorem dX12_tellGains_140 : decode cX12_tellGains 140 = .ok (.if_icmp .eq 21, 3) := by decide +kernel
theorem dX12_tellGains_143 : decode cX12_tellGains 143 = .ok (.aload_n 0, 1) := by decide +kernel
theorem dX12_tellGains_144 : decode cX12_tellGains 144 = .ok (.getfield 93, 3) := by decide +kernel
theorem dX12_tellGains_147 : decode cX12_tellGains 147 = .ok (.iload 6, 2) := by decide +kernel
theorem dX12_tellGains_149 : decode cX12_tellGains 149 = .ok (.iaload, 1) := by decide +kernel
theorem dX12_tellGains_150 : decode cX12_tellGains 150 = .ok (.iload 5, 2) := by decide +kernel
theorem dX12_tellGains_152 : decode cX12_tellGains 152 = .ok (.bipush 7, 2) := by decide +kernel
theorem dX12_tellGains_154 : decode cX12_tellGains 154 = .ok (.iadd, 1) := by decide +kernel
theorem dX12_tellGains_155 : decode cX12_tellGains 155 = .ok (.invokestatic 364, 3) := by decide +kernel
theorem dX12_tellGains_158 : decode cX12_tellGains 158 = .ok (.if_icmp .ne 7, 3) := by decide +kernel
theorem dX12_tellGains_161 : decode cX12_tellGains 161 = .ok (.iconst 1, 1) := by decide +kernel
theorem dX12_tellGains_162 : decode cX12_tellGains 162 = .ok (.goto 4, 3) := by decide +kernel
theorem dX12_tellGains_165 : decode cX12_tellGains 165 = .ok (.iconst 0, 1) := by decide +kernel
theorem dX12_tellGains_166 : decode cX12_tellGains 166 = .ok (.iadd, 1) := by decide +kernel
theorem dX12_tellGains_167 : decode cX12_tellGains 167 = .ok (.iastore, 1) := by decide +kernel
theorem dX12_tellGains_168 : decode cX12_tellGains 168 = .ok (.iinc 6 1, 3) := by decide +kernel
theorem dX12_tellGains_171 : decode cX12_tellGains 171 = .ok (.goto (-56), 3) := by decide +kernel
theorem dX12_tellGains_174 : decode cX12_tellGains 174 = .ok (.aload_n 0, 1) := by decide +kernel
theorem dX12_tellGains_175 : decode cX12_tellGains 175 = .ok (.getfield 138, 3) := by decide +kernel
theorem dX12_tellGains_178 : decode cX12_tellGains 178 = .ok (.iload_n 1, 1) := by decide +kernel
theorem dX12_tellGains_179 : decode cX12_tellGains 179 = .ok (.aload_n 0, 1) := by decide +kernel
theorem dX12_tellGains_180 : decode cX12_tellGains 180 = .ok (.iload 4, 2) := by decide +kernel
theorem dX12_tellGains_182 : decode cX12_tellGains 182 = .ok (.invokevirtual 445, 3) := by decide +kernel
theorem dX12_tellGains_185 : decode cX12_tellGains 185 = .ok (.iastore, 1) := by decide +kernel
theorem dX12_tellGains_186 : decode cX12_tellGains 186 = .ok (.aload_n 0, 1) := by decide +kernel
theorem dX12_tellGains_187 : decode cX12_tellGains 187 = .ok (.aload_n 0, 1) := by decide +kernel
theorem dX12_tellGains_188 : decode cX12_tellGains 188 = .ok (.getfield 120, 3) := by decide +kernel
theorem dX12_tellGains_191 : decode cX12_tellGains 191 = .ok (.iconst 0, 1) := by decide +kernel
theorem dX12_tellGains_192 : decode cX12_tellGains 192 = .ok (.invokevirtual 416, 3) := by decide +kernel
theorem dX12_tellGains_195 : decode cX12_tellGains 195 = .ok (.iinc 1 1, 3) := by decide +kernel
theorem dX12_tellGains_198 : decode cX12_tellGains 198 = .ok (.goto (-187), 3) := by decide +kernel
theorem dX12_tellGains_201 : decode cX12_tellGains 201 = .ok (.return_, 1) := by decide +kernel
theorem dX12_stays_0 : decode cX12_stays 0 = .ok (.iconst (-1), 1) := by decide +kernel
theorem dX12_stays_1 : decode cX12_stays 1 = .ok (.istore 5, 2) := by decide +kernel
theorem dX12_stays_3 : decode cX12_stays 3 = .ok (.iload 5, 2) := by decide +kernel
theorem dX12_stays_5 : decode cX12_stays 5 = .ok (.aload_n 0, 1) := by decide +kernel
theorem dX12_stays_6 : decode cX12_stays 6 = .ok (.getfield 40, 3) := by decide +kernel
theorem dX12_stays_9 : decode cX12_stays 9 = .ok (.iconst 0, 1) := by decide +kernel
theorem dX12_stays_10 : decode cX12_stays 10 = .ok (.iaload, 1) := by decide +kernel
theorem dX12_stays_11 : decode cX12_stays 11 = .ok (.if_icmp .ge 104, 3) := by decide +kernel
theorem dX12_stays_14 : decode cX12_stays 14 = .ok (.aload_n 0, 1) := by decide +kernel
theorem dX12_stays_15 : decode cX12_stays 15 = .ok (.iload_n 1, 1) := by decide +kernel
theorem dX12_stays_16 : decode cX12_stays 16 = .ok (.iload 5, 2) := by decide +kernel
theorem dX12_stays_18 : decode cX12_stays 18 = .ok (.invokevirtual 489, 3) := by decide +kernel
theorem dX12_stays_21 : decode cX12_stays 21 = .ok (.ifCond .eq 41, 3) := by decide +kernel
theorem dX12_stays_24 : decode cX12_stays 24 = .ok (.aload_n 0, 1) := by decide +kernel
theorem dX12_stays_25 : decode cX12_stays 25 = .ok (.getfield 135, 3) := by decide +kernel
theorem dX12_stays_28 : decode cX12_stays 28 = .ok (.bipush 9, 2) := by decide +kernel
theorem dX12_stays_30 : decode cX12_stays 30 = .ok (.iload 5, 2) := by decide +kernel
theorem dX12_stays_32 : decode cX12_stays 32 = .ok (.iconst 1, 1) := by decide +kernel
theorem dX12_stays_33 : decode cX12_stays 33 = .ok (.iadd, 1) := by decide +kernel
theorem dX12_stays_34 : decode cX12_stays 34 = .ok (.imul, 1) := by decide +kernel
theorem dX12_stays_35 : decode cX12_stays 35 = .ok (.iload 4, 2) := by decide +kernel
theorem dX12_stays_37 : decode cX12_stays 37 = .ok (.iadd, 1) := by decide +kernel
theorem dX12_stays_38 : decode cX12_stays 38 = .ok (.iconst 1, 1) := by decide +kernel
theorem dX12_stays_39 : decode cX12_stays 39 = .ok (.iadd, 1) := by decide +kernel
theorem dX12_stays_40 : decode cX12_stays 40 = .ok (.iaload, 1) := by decide +kernel
theorem dX12_stays_41 : decode cX12_stays 41 = .ok (.aload_n 0, 1) := by decide +kernel
theorem dX12_stays_42 : decode cX12_stays 42 = .ok (.getfield 135, 3) := by decide +kernel
theorem dX12_stays_45 : decode cX12_stays 45 = .ok (.bipush 9, 2) := by decide +kernel
theorem dX12_stays_47 : decode cX12_stays 47 = .ok (.iload_n 3, 1) := by decide +kernel
theorem dX12_stays_48 : decode cX12_stays 48 = .ok (.iconst 1, 1) := by decide +kernel
theorem dX12_stays_49 : decode cX12_stays 49 = .ok (.iadd, 1) := by decide +kernel
theorem dX12_stays_50 : decode cX12_stays 50 = .ok (.imul, 1) := by decide +kernel
theorem dX12_stays_51 : decode cX12_stays 51 = .ok (.iload 4, 2) := by decide +kernel
theorem dX12_stays_53 : decode cX12_stays 53 = .ok (.iadd, 1) := by decide +kernel
theorem dX12_stays_54 : decode cX12_stays 54 = .ok (.iconst 1, 1) := by decide +kernel
theorem dX12_stays_55 : decode cX12_stays 55 = .ok (.iadd, 1) := by decide +kernel
theorem dX12_stays_56 : decode cX12_stays 56 = .ok (.iaload, 1) := by decide +kernel
theorem dX12_stays_57 : decode cX12_stays 57 = .ok (.if_icmp .le 5, 3) := by decide +kernel
theorem dX12_stays_60 : decode cX12_stays 60 = .ok (.iconst 0, 1) := by decide +kernel
theorem dX12_stays_61 : decode cX12_stays 61 = .ok (.ireturn, 1) := by decide +kernel
theorem dX12_stays_62 : decode cX12_stays 62 = .ok (.aload_n 0, 1) := by decide +kernel
theorem dX12_stays_63 : decode cX12_stays 63 = .ok (.iload_n 2, 1) := by decide +kernel
theorem dX12_stays_64 : decode cX12_stays 64 = .ok (.iload 5, 2) := by decide +kernel
theorem dX12_stays_66 : decode cX12_stays 66 = .ok (.invokevirtual 489, 3) := by decide +kernel
theorem dX12_stays_69 : decode cX12_stays 69 = .ok (.ifCond .eq 40, 3) := by decide +kernel
theorem dX12_stays_72 : decode cX12_stays 72 = .ok (.aload_n 0, 1) := by decide +kernel
theorem dX12_stays_73 : decode cX12_stays 73 = .ok (.getfield 138, 3) := by decide +kernel
theorem dX12_stays_76 : decode cX12_stays 76 = .ok (.bipush 9, 2) := by decide +kernel
theorem dX12_stays_78 : decode cX12_stays 78 = .ok (.iload_n 3, 1) := by decide +kernel
theorem dX12_stays_79 : decode cX12_stays 79 = .ok (.iconst 1, 1) := by decide +kernel
theorem dX12_stays_80 : decode cX12_stays 80 = .ok (.iadd, 1) := by decide +kernel
theorem dX12_stays_81 : decode cX12_stays 81 = .ok (.imul, 1) := by decide +kernel
theorem dX12_stays_82 : decode cX12_stays 82 = .ok (.iload 5, 2) := by decide +kernel
theorem dX12_stays_84 : decode cX12_stays 84 = .ok (.iadd, 1) := by decide +kernel
theorem dX12_stays_85 : decode cX12_stays 85 = .ok (.iconst 1, 1) := by decide +kernel
theorem dX12_stays_86 : decode cX12_stays 86 = .ok (.iadd, 1) := by decide +kernel
theorem dX12_stays_87 : decode cX12_stays 87 = .ok (.iaload, 1) := by decide +kernel
theorem dX12_stays_88 : decode cX12_stays 88 = .ok (.aload_n 0, 1) := by decide +kernel
theorem dX12_stays_89 : decode cX12_stays 89 = .ok (.getfield 138, 3) := by decide +kernel
theorem dX12_stays_92 : decode cX12_stays 92 = .ok (.bipush 9, 2) := by decide +kernel
theorem dX12_stays_94 : decode cX12_stays 94 = .ok (.iload_n 3, 1) := by decide +kernel
theorem dX12_stays_95 : decode cX12_stays 95 = .ok (.iconst 1, 1) := by decide +kernel
theorem dX12_stays_96 : decode cX12_stays 96 = .ok (.iadd, 1) := by decide +kernel
theorem dX12_stays_97 : decode cX12_stays 97 = .ok (.imul, 1) := by decide +kernel
theorem dX12_stays_98 : decode cX12_stays 98 = .ok (.iload 4, 2) := by decide +kernel
theorem dX12_stays_100 : decode cX12_stays 100 = .ok (.iadd, 1) := by decide +kernel
theorem dX12_stays_101 : decode cX12_stays 101 = .ok (.iconst 1, 1) := by decide +kernel
theorem dX12_stays_102 : decode cX12_stays 102 = .ok (.iadd, 1) := by decide +kernel
theorem dX12_stays_103 : decode cX12_stays 103 = .ok (.iaload, 1) := by decide +kernel
theorem dX12_stays_104 : decode cX12_stays 104 = .ok (.if_icmp .le 5, 3) := by decide +kernel
theorem dX12_stays_107 : decode cX12_stays 107 = .ok (.iconst 0, 1) := by decide +kernel
theorem dX12_stays_108 : decode cX12_stays 108 = .ok (.ireturn, 1) := by decide +kernel
theorem dX12_stays_109 : decode cX12_stays 109 = .ok (.iinc 5 1, 3) := by decide +kernel
theorem dX12_stays_112 : decode cX12_stays 112 = .ok (.goto (-109), 3) := by decide +kernel
theorem dX12_stays_115 : decode cX12_stays 115 = .ok (.iconst 1, 1) := by decide +kernel
theorem dX12_stays_116 : decode cX12_stays 116 = .ok (.ireturn, 1) := by decide +kernel
theorem dX12_game_0 : decode cX12_game 0 = .ok (.aload_n 0, 1) := by decide +kernel
theorem dX12_game_1 : decode cX12_game 1 = .ok (.iconst 0, 1) := by decide +kernel
theorem dX12_game_2 : decode cX12_game 2 = .ok (.putfield 165, 3) := by decide +kernel
theorem dX12_game_5 : decode cX12_game 5 = .ok (.iload_n 3, 1) := by decide +kernel
theorem dX12_game_6 : decode cX12_game 6 = .ok (.ifCond .lt 8, 3) := by decide +kernel
theorem dX12_game_9 : decode cX12_game 9 = .ok (.iload_n 3, 1) := by decide +kernel
theorem dX12_game_10 : decode cX12_game 10 = .ok (.iconst 1, 1) := by decide +kernel
theorem dX12_game_11 : decode cX12_game 11 = .ok (.if_icmp .le 9, 3) := by decide +kernel
theorem dX12_game_14 : decode cX12_game 14 = .ok (.aload_n 0, 1) := by decide +kernel
theorem dX12_game_15 : decode cX12_game 15 = .ok (.iconst 1, 1) := by decide +kernel
theorem dX12_game_16 : decode cX12_game 16 = .ok (.invokevirtual 303, 3) := by decide +kernel
theorem dX12_game_19 : decode cX12_game 19 = .ok (.ireturn, 1) := by decide +kernel
theorem dX12_game_20 : decode cX12_game 20 = .ok (.iload_n 1, 1) := by decide +kernel
theorem dX12_game_21 : decode cX12_game 21 = .ok (.i2l, 1) := by decide +kernel
theorem dX12_game_22 : decode cX12_game 22 = .ok (.lconst 0, 1) := by decide +kernel
theorem dX12_game_23 : decode cX12_game 23 = .ok (.ldc2_w 492, 3) := by decide +kernel
theorem dX12_game_26 : decode cX12_game 26 = .ok (.invokestatic 168, 3) := by decide +kernel
theorem dX12_game_29 : decode cX12_game 29 = .ok (.ifCond .eq 20, 3) := by decide +kernel
theorem dX12_game_32 : decode cX12_game 32 = .ok (.iload_n 2, 1) := by decide +kernel
theorem dX12_game_33 : decode cX12_game 33 = .ok (.i2l, 1) := by decide +kernel
theorem dX12_game_34 : decode cX12_game 34 = .ok (.lconst 0, 1) := by decide +kernel
theorem dX12_game_35 : decode cX12_game 35 = .ok (.ldc2_w 492, 3) := by decide +kernel
theorem dX12_game_38 : decode cX12_game 38 = .ok (.invokestatic 168, 3) := by decide +kernel
theorem dX12_game_41 : decode cX12_game 41 = .ok (.ifCond .eq 8, 3) := by decide +kernel
theorem dX12_game_44 : decode cX12_game 44 = .ok (.iload_n 1, 1) := by decide +kernel
theorem dX12_game_45 : decode cX12_game 45 = .ok (.iload_n 2, 1) := by decide +kernel
theorem dX12_game_46 : decode cX12_game 46 = .ok (.if_icmp .ne 9, 3) := by decide +kernel
theorem dX12_game_49 : decode cX12_game 49 = .ok (.aload_n 0, 1) := by decide +kernel
theorem dX12_game_50 : decode cX12_game 50 = .ok (.iconst 2, 1) := by decide +kernel
theorem dX12_game_51 : decode cX12_game 51 = .ok (.invokevirtual 303, 3) := by decide +kernel
theorem dX12_game_54 : decode cX12_game 54 = .ok (.ireturn, 1) := by decide +kernel
theorem dX12_game_55 : decode cX12_game 55 = .ok (.aload_n 0, 1) := by decide +kernel
theorem dX12_game_56 : decode cX12_game 56 = .ok (.invokevirtual 494, 3) := by decide +kernel
theorem dX12_game_59 : decode cX12_game 59 = .ok (.iconst 0, 1) := by decide +kernel
theorem dX12_game_60 : decode cX12_game 60 = .ok (.istore 4, 2) := by decide +kernel
theorem dX12_game_62 : decode cX12_game 62 = .ok (.iconst (-1), 1) := by decide +kernel
theorem dX12_game_63 : decode cX12_game 63 = .ok (.istore 5, 2) := by decide +kernel
theorem dX12_game_65 : decode cX12_game 65 = .ok (.iconst (-1), 1) := by decide +kernel
theorem dX12_game_66 : decode cX12_game 66 = .ok (.istore 6, 2) := by decide +kernel
theorem dX12_game_68 : decode cX12_game 68 = .ok (.iload 6, 2) := by decide +kernel
theorem dX12_game_70 : decode cX12_game 70 = .ok (.aload_n 0, 1) := by decide +kernel
theorem dX12_game_71 : decode cX12_game 71 = .ok (.getfield 40, 3) := by decide +kernel
theorem dX12_game_74 : decode cX12_game 74 = .ok (.iconst 0, 1) := by decide +kernel
theorem dX12_game_75 : decode cX12_game 75 = .ok (.iaload, 1) := by decide +kernel
theorem dX12_game_76 : decode cX12_game 76 = .ok (.if_icmp .ge 93, 3) := by decide +kernel
theorem dX12_game_79 : decode cX12_game 79 = .ok (.iconst (-1), 1) := by decide +kernel
theorem dX12_game_80 : decode cX12_game 80 = .ok (.istore 7, 2) := by decide +kernel
theorem dX12_game_82 : decode cX12_game 82 = .ok (.iload 7, 2) := by decide +kernel
theorem dX12_game_84 : decode cX12_game 84 = .ok (.aload_n 0, 1) := by decide +kernel
theorem dX12_game_85 : decode cX12_game 85 = .ok (.getfield 40, 3) := by decide +kernel
theorem dX12_game_88 : decode cX12_game 88 = .ok (.iconst 0, 1) := by decide +kernel
theorem dX12_game_89 : decode cX12_game 89 = .ok (.iaload, 1) := by decide +kernel
theorem dX12_game_90 : decode cX12_game 90 = .ok (.if_icmp .ge 73, 3) := by decide +kernel
theorem dX12_game_93 : decode cX12_game 93 = .ok (.aload_n 0, 1) := by decide +kernel
theorem dX12_game_94 : decode cX12_game 94 = .ok (.iload_n 1, 1) := by decide +kernel
theorem dX12_game_95 : decode cX12_game 95 = .ok (.iload 6, 2) := by decide +kernel
theorem dX12_game_97 : decode cX12_game 97 = .ok (.invokevirtual 489, 3) := by decide +kernel
theorem dX12_game_100 : decode cX12_game 100 = .ok (.ifCond .eq 57, 3) := by decide +kernel
theorem dX12_game_103 : decode cX12_game 103 = .ok (.aload_n 0, 1) := by decide +kernel
theorem dX12_game_104 : decode cX12_game 104 = .ok (.iload_n 2, 1) := by decide +kernel
theorem dX12_game_105 : decode cX12_game 105 = .ok (.iload 7, 2) := by decide +kernel
theorem dX12_game_107 : decode cX12_game 107 = .ok (.invokevirtual 489, 3) := by decide +kernel
theorem dX12_game_110 : decode cX12_game 110 = .ok (.ifCond .eq 47, 3) := by decide +kernel
theorem dX12_game_113 : decode cX12_game 113 = .ok (.aload_n 0, 1) := by decide +kernel
theorem dX12_game_114 : decode cX12_game 114 = .ok (.iload_n 1, 1) := by decide +kernel
theorem dX12_game_115 : decode cX12_game 115 = .ok (.iload_n 2, 1) := by decide +kernel
theorem dX12_game_116 : decode cX12_game 116 = .ok (.iload 6, 2) := by decide +kernel
theorem dX12_game_118 : decode cX12_game 118 = .ok (.iload 7, 2) := by decide +kernel
theorem dX12_game_120 : decode cX12_game 120 = .ok (.invokevirtual 497, 3) := by decide +kernel
theorem dX12_game_123 : decode cX12_game 123 = .ok (.ifCond .ne 6, 3) := by decide +kernel
theorem dX12_game_126 : decode cX12_game 126 = .ok (.goto 31, 3) := by decide +kernel
theorem dX12_game_129 : decode cX12_game 129 = .ok (.iinc 4 1, 3) := by decide +kernel
theorem dX12_game_132 : decode cX12_game 132 = .ok (.iload 5, 2) := by decide +kernel
theorem dX12_game_134 : decode cX12_game 134 = .ok (.iconst (-1), 1) := by decide +kernel
theorem dX12_game_135 : decode cX12_game 135 = .ok (.if_icmp .ne 18, 3) := by decide +kernel
theorem dX12_game_138 : decode cX12_game 138 = .ok (.bipush 10, 2) := by decide +kernel
theorem dX12_game_140 : decode cX12_game 140 = .ok (.iload 6, 2) := by decide +kernel
theorem dX12_game_142 : decode cX12_game 142 = .ok (.iconst 1, 1) := by decide +kernel
theorem dX12_game_143 : decode cX12_game 143 = .ok (.iadd, 1) := by decide +kernel
theorem dX12_game_144 : decode cX12_game 144 = .ok (.imul, 1) := by decide +kernel
theorem dX12_game_145 : decode cX12_game 145 = .ok (.iload 7, 2) := by decide +kernel
theorem dX12_game_147 : decode cX12_game 147 = .ok (.iadd, 1) := by decide +kernel
theorem dX12_game_148 : decode cX12_game 148 = .ok (.iconst 1, 1) := by decide +kernel
theorem dX12_game_149 : decode cX12_game 149 = .ok (.iadd, 1) := by decide +kernel
theorem dX12_game_150 : decode cX12_game 150 = .ok (.goto 5, 3) := by decide +kernel
theorem dX12_game_153 : decode cX12_game 153 = .ok (.iload 5, 2) := by decide +kernel
theorem dX12_game_155 : decode cX12_game 155 = .ok (.istore 5, 2) := by decide +kernel
theorem dX12_game_157 : decode cX12_game 157 = .ok (.iinc 7 1, 3) := by decide +kernel
theorem dX12_game_160 : decode cX12_game 160 = .ok (.goto (-78), 3) := by decide +kernel
theorem dX12_game_163 : decode cX12_game 163 = .ok (.iinc 6 1, 3) := by decide +kernel
theorem dX12_game_166 : decode cX12_game 166 = .ok (.goto (-98), 3) := by decide +kernel
theorem dX12_game_169 : decode cX12_game 169 = .ok (.iload_n 3, 1) := by decide +kernel
theorem dX12_game_170 : decode cX12_game 170 = .ok (.ifCond .ne 8, 3) := by decide +kernel
theorem dX12_game_173 : decode cX12_game 173 = .ok (.iload 4, 2) := by decide +kernel
theorem dX12_game_175 : decode cX12_game 175 = .ok (.goto 5, 3) := by decide +kernel
theorem dX12_game_178 : decode cX12_game 178 = .ok (.iload 5, 2) := by decide +kernel
theorem dX12_game_180 : decode cX12_game 180 = .ok (.ireturn, 1) := by decide +kernel
theorem dX12_drawOf_0 : decode cX12_drawOf 0 = .ok (.aload_n 0, 1) := by decide +kernel
theorem dX12_drawOf_1 : decode cX12_drawOf 1 = .ok (.aload_n 0, 1) := by decide +kernel
theorem dX12_drawOf_2 : decode cX12_drawOf 2 = .ok (.getfield 501, 3) := by decide +kernel
theorem dX12_drawOf_5 : decode cX12_drawOf 5 = .ok (.ldc_w 504, 3) := by decide +kernel
theorem dX12_drawOf_8 : decode cX12_drawOf 8 = .ok (.imul, 1) := by decide +kernel
theorem dX12_drawOf_9 : decode cX12_drawOf 9 = .ok (.sipush 12345, 3) := by decide +kernel
theorem dX12_drawOf_12 : decode cX12_drawOf 12 = .ok (.iadd, 1) := by decide +kernel
theorem dX12_drawOf_13 : decode cX12_drawOf 13 = .ok (.putfield 501, 3) := by decide +kernel
theorem dX12_drawOf_16 : decode cX12_drawOf 16 = .ok (.aload_n 0, 1) := by decide +kernel
theorem dX12_drawOf_17 : decode cX12_drawOf 17 = .ok (.getfield 501, 3) := by decide +kernel
theorem dX12_drawOf_20 : decode cX12_drawOf 20 = .ok (.bipush 16, 2) := by decide +kernel
theorem dX12_drawOf_22 : decode cX12_drawOf 22 = .ok (.ishr, 1) := by decide +kernel
theorem dX12_drawOf_23 : decode cX12_drawOf 23 = .ok (.sipush 32767, 3) := by decide +kernel
theorem dX12_drawOf_26 : decode cX12_drawOf 26 = .ok (.iand, 1) := by decide +kernel
theorem dX12_drawOf_27 : decode cX12_drawOf 27 = .ok (.iload_n 1, 1) := by decide +kernel
theorem dX12_drawOf_28 : decode cX12_drawOf 28 = .ok (.irem, 1) := by decide +kernel
theorem dX12_drawOf_29 : decode cX12_drawOf 29 = .ok (.ireturn, 1) := by decide +kernel
theorem dX12_something_0 : decode cX12_something 0 = .ok (.aload_n 0, 1) := by decide +kernel
theorem dX12_something_1 : decode cX12_something 1 = .ok (.getfield 40, 3) := by decide +kernel
theorem dX12_something_4 : decode cX12_something 4 = .ok (.iconst 0, 1) := by decide +kernel
theorem dX12_something_5 : decode cX12_something 5 = .ok (.iaload, 1) := by decide +kernel
theorem dX12_something_6 : decode cX12_something 6 = .ok (.ifCond .ne 4, 3) := by decide +kernel
theorem dX12_something_9 : decode cX12_something 9 = .ok (.return_, 1) := by decide +kernel
theorem dX12_something_10 : decode cX12_something 10 = .ok (.aload_n 0, 1) := by decide +kernel
theorem dX12_something_11 : decode cX12_something 11 = .ok (.aload_n 0, 1) := by decide +kernel
theorem dX12_something_12 : decode cX12_something 12 = .ok (.getfield 40, 3) := by decide +kernel
theorem dX12_something_15 : decode cX12_something 15 = .ok (.iconst 0, 1) := by decide +kernel
theorem dX12_something_16 : decode cX12_something 16 = .ok (.iaload, 1) := by decide +kernel
theorem dX12_something_17 : decode cX12_something 17 = .ok (.invokevirtual 505, 3) := by decide +kernel
theorem dX12_something_20 : decode cX12_something 20 = .ok (.istore_n 1, 1) := by decide +kernel
theorem dX12_something_21 : decode cX12_something 21 = .ok (.aload_n 0, 1) := by decide +kernel
theorem dX12_something_22 : decode cX12_something 22 = .ok (.iconst 5, 1) := by decide +kernel
theorem dX12_something_23 : decode cX12_something 23 = .ok (.invokevirtual 505, 3) := by decide +kernel
theorem dX12_something_26 : decode cX12_something 26 = .ok (.istore_n 2, 1) := by decide +kernel
theorem dX12_something_27 : decode cX12_something 27 = .ok (.iload_n 2, 1) := by decide +kernel
theorem dX12_something_28 : decode cX12_something 28 = .ok (.ifCond .ne 26, 3) := by decide +kernel
theorem dX12_something_31 : decode cX12_something 31 = .ok (.aload_n 0, 1) := by decide +kernel
theorem dX12_something_32 : decode cX12_something 32 = .ok (.getfield 326, 3) := by decide +kernel
theorem dX12_something_35 : decode cX12_something 35 = .ok (.iload_n 1, 1) := by decide +kernel
theorem dX12_something_36 : decode cX12_something 36 = .ok (.invokestatic 370, 3) := by decide +kernel
theorem dX12_something_39 : decode cX12_something 39 = .ok (.ifCond .ne 15, 3) := by decide +kernel
theorem dX12_something_42 : decode cX12_something 42 = .ok (.aload_n 0, 1) := by decide +kernel
theorem dX12_something_43 : decode cX12_something 43 = .ok (.dup, 1) := by decide +kernel
theorem dX12_something_44 : decode cX12_something 44 = .ok (.getfield 323, 3) := by decide +kernel
theorem dX12_something_47 : decode cX12_something 47 = .ok (.iconst 1, 1) := by decide +kernel
theorem dX12_something_48 : decode cX12_something 48 = .ok (.iload_n 1, 1) := by decide +kernel
theorem dX12_something_49 : decode cX12_something 49 = .ok (.ishl, 1) := by decide +kernel
theorem dX12_something_50 : decode cX12_something 50 = .ok (.ixor, 1) := by decide +kernel
theorem dX12_something_51 : decode cX12_something 51 = .ok (.putfield 323, 3) := by decide +kernel
theorem dX12_something_54 : decode cX12_something 54 = .ok (.iload_n 2, 1) := by decide +kernel
theorem dX12_something_55 : decode cX12_something 55 = .ok (.iconst 1, 1) := by decide +kernel
theorem dX12_something_56 : decode cX12_something 56 = .ok (.if_icmp .ne 15, 3) := by decide +kernel
theorem dX12_something_59 : decode cX12_something 59 = .ok (.aload_n 0, 1) := by decide +kernel
theorem dX12_something_60 : decode cX12_something 60 = .ok (.dup, 1) := by decide +kernel
theorem dX12_something_61 : decode cX12_something 61 = .ok (.getfield 326, 3) := by decide +kernel
theorem dX12_something_64 : decode cX12_something 64 = .ok (.iconst 1, 1) := by decide +kernel
theorem dX12_something_65 : decode cX12_something 65 = .ok (.iload_n 1, 1) := by decide +kernel
theorem dX12_something_66 : decode cX12_something 66 = .ok (.ishl, 1) := by decide +kernel
theorem dX12_something_67 : decode cX12_something 67 = .ok (.ior, 1) := by decide +kernel
theorem dX12_something_68 : decode cX12_something 68 = .ok (.putfield 326, 3) := by decide +kernel
theorem dX12_something_71 : decode cX12_something 71 = .ok (.iload_n 2, 1) := by decide +kernel
theorem dX12_something_72 : decode cX12_something 72 = .ok (.iconst 2, 1) := by decide +kernel
theorem dX12_something_73 : decode cX12_something 73 = .ok (.if_icmp .ne 20, 3) := by decide +kernel
theorem dX12_something_76 : decode cX12_something 76 = .ok (.aload_n 0, 1) := by decide +kernel
theorem dX12_something_77 : decode cX12_something 77 = .ok (.getfield 82, 3) := by decide +kernel
theorem dX12_something_80 : decode cX12_something 80 = .ok (.iload_n 1, 1) := by decide +kernel
theorem dX12_something_81 : decode cX12_something 81 = .ok (.aload_n 0, 1) := by decide +kernel
theorem dX12_something_82 : decode cX12_something 82 = .ok (.getfield 82, 3) := by decide +kernel
theorem dX12_something_85 : decode cX12_something 85 = .ok (.iload_n 1, 1) := by decide +kernel
theorem dX12_something_86 : decode cX12_something 86 = .ok (.iaload, 1) := by decide +kernel
theorem dX12_something_87 : decode cX12_something 87 = .ok (.iconst 1, 1) := by decide +kernel
theorem dX12_something_88 : decode cX12_something 88 = .ok (.iadd, 1) := by decide +kernel
theorem dX12_something_89 : decode cX12_something 89 = .ok (.invokestatic 364, 3) := by decide +kernel
theorem dX12_something_92 : decode cX12_something 92 = .ok (.iastore, 1) := by decide +kernel
theorem dX12_something_93 : decode cX12_something 93 = .ok (.return_, 1) := by decide +kernel
theorem dX12_century_0 : decode cX12_century 0 = .ok (.aload_n 0, 1) := by decide +kernel
theorem dX12_century_1 : decode cX12_century 1 = .ok (.iconst 0, 1) := by decide +kernel
theorem dX12_century_2 : decode cX12_century 2 = .ok (.putfield 165, 3) := by decide +kernel
theorem dX12_century_5 : decode cX12_century 5 = .ok (.iload_n 3, 1) := by decide +kernel
theorem dX12_century_6 : decode cX12_century 6 = .ok (.i2l, 1) := by decide +kernel
theorem dX12_century_7 : decode cX12_century 7 = .ok (.lconst 0, 1) := by decide +kernel
theorem dX12_century_8 : decode cX12_century 8 = .ok (.ldc2_w 385, 3) := by decide +kernel
theorem dX12_century_11 : decode cX12_century 11 = .ok (.invokestatic 168, 3) := by decide +kernel
theorem dX12_century_14 : decode cX12_century 14 = .ok (.ifCond .ne 9, 3) := by decide +kernel
theorem dX12_century_17 : decode cX12_century 17 = .ok (.aload_n 0, 1) := by decide +kernel
theorem dX12_century_18 : decode cX12_century 18 = .ok (.iconst 1, 1) := by decide +kernel
theorem dX12_century_19 : decode cX12_century 19 = .ok (.invokevirtual 303, 3) := by decide +kernel
theorem dX12_century_22 : decode cX12_century 22 = .ok (.ireturn, 1) := by decide +kernel
theorem dX12_century_23 : decode cX12_century 23 = .ok (.iload_n 2, 1) := by decide +kernel
theorem dX12_century_24 : decode cX12_century 24 = .ok (.i2l, 1) := by decide +kernel
theorem dX12_century_25 : decode cX12_century 25 = .ok (.lconst 0, 1) := by decide +kernel
theorem dX12_century_26 : decode cX12_century 26 = .ok (.ldc2_w 391, 3) := by decide +kernel
theorem dX12_century_29 : decode cX12_century 29 = .ok (.invokestatic 168, 3) := by decide +kernel
theorem dX12_century_32 : decode cX12_century 32 = .ok (.ifCond .ne 9, 3) := by decide +kernel
theorem dX12_century_35 : decode cX12_century 35 = .ok (.aload_n 0, 1) := by decide +kernel
theorem dX12_century_36 : decode cX12_century 36 = .ok (.iconst 2, 1) := by decide +kernel
theorem dX12_century_37 : decode cX12_century 37 = .ok (.invokevirtual 303, 3) := by decide +kernel
theorem dX12_century_40 : decode cX12_century 40 = .ok (.ireturn, 1) := by decide +kernel
theorem dX12_century_41 : decode cX12_century 41 = .ok (.aload_n 0, 1) := by decide +kernel
theorem dX12_century_42 : decode cX12_century 42 = .ok (.aload_n 0, 1) := by decide +kernel
theorem dX12_century_43 : decode cX12_century 43 = .ok (.getfield 120, 3) := by decide +kernel
theorem dX12_century_46 : decode cX12_century 46 = .ok (.iconst 0, 1) := by decide +kernel
theorem dX12_century_47 : decode cX12_century 47 = .ok (.invokevirtual 387, 3) := by decide +kernel
theorem dX12_century_50 : decode cX12_century 50 = .ok (.aload_n 0, 1) := by decide +kernel
theorem dX12_century_51 : decode cX12_century 51 = .ok (.iload_n 1, 1) := by decide +kernel
theorem dX12_century_52 : decode cX12_century 52 = .ok (.putfield 501, 3) := by decide +kernel
theorem dX12_century_55 : decode cX12_century 55 = .ok (.iconst 0, 1) := by decide +kernel
theorem dX12_century_56 : decode cX12_century 56 = .ok (.istore 4, 2) := by decide +kernel
theorem dX12_century_58 : decode cX12_century 58 = .ok (.iload 4, 2) := by decide +kernel
theorem dX12_century_60 : decode cX12_century 60 = .ok (.iload_n 2, 1) := by decide +kernel
theorem dX12_century_61 : decode cX12_century 61 = .ok (.if_icmp .ge 17, 3) := by decide +kernel
theorem dX12_century_64 : decode cX12_century 64 = .ok (.aload_n 0, 1) := by decide +kernel
theorem dX12_century_65 : decode cX12_century 65 = .ok (.invokevirtual 508, 3) := by decide +kernel
theorem dX12_century_68 : decode cX12_century 68 = .ok (.aload_n 0, 1) := by decide +kernel
theorem dX12_century_69 : decode cX12_century 69 = .ok (.invokevirtual 376, 3) := by decide +kernel
theorem dX12_century_72 : decode cX12_century 72 = .ok (.iinc 4 1, 3) := by decide +kernel
theorem dX12_century_75 : decode cX12_century 75 = .ok (.goto (-17), 3) := by decide +kernel
theorem dX12_century_78 : decode cX12_century 78 = .ok (.iload_n 3, 1) := by decide +kernel
theorem dX12_century_79 : decode cX12_century 79 = .ok (.ifCond .ne 10, 3) := by decide +kernel
theorem dX12_century_82 : decode cX12_century 82 = .ok (.aload_n 0, 1) := by decide +kernel
theorem dX12_century_83 : decode cX12_century 83 = .ok (.getfield 320, 3) := by decide +kernel
theorem dX12_century_86 : decode cX12_century 86 = .ok (.goto 19, 3) := by decide +kernel
theorem dX12_century_89 : decode cX12_century 89 = .ok (.iload_n 3, 1) := by decide +kernel
theorem dX12_century_90 : decode cX12_century 90 = .ok (.iconst 1, 1) := by decide +kernel
theorem dX12_century_91 : decode cX12_century 91 = .ok (.if_icmp .ne 10, 3) := by decide +kernel
theorem dX12_century_94 : decode cX12_century 94 = .ok (.aload_n 0, 1) := by decide +kernel
theorem dX12_century_95 : decode cX12_century 95 = .ok (.invokevirtual 379, 3) := by decide +kernel
theorem dX12_century_98 : decode cX12_century 98 = .ok (.goto 7, 3) := by decide +kernel
theorem dX12_century_101 : decode cX12_century 101 = .ok (.aload_n 0, 1) := by decide +kernel
theorem dX12_century_102 : decode cX12_century 102 = .ok (.invokevirtual 459, 3) := by decide +kernel
theorem dX12_century_105 : decode cX12_century 105 = .ok (.istore 4, 2) := by decide +kernel
theorem dX12_century_107 : decode cX12_century 107 = .ok (.aload_n 0, 1) := by decide +kernel
theorem dX12_century_108 : decode cX12_century 108 = .ok (.aload_n 0, 1) := by decide +kernel
theorem dX12_century_109 : decode cX12_century 109 = .ok (.getfield 120, 3) := by decide +kernel
theorem dX12_century_112 : decode cX12_century 112 = .ok (.iconst 0, 1) := by decide +kernel
theorem dX12_century_113 : decode cX12_century 113 = .ok (.invokevirtual 416, 3) := by decide +kernel
theorem dX12_century_116 : decode cX12_century 116 = .ok (.iload 4, 2) := by decide +kernel
theorem dX12_century_118 : decode cX12_century 118 = .ok (.ireturn, 1) := by decide +kernel
theorem dX12_be_0 : decode cX12_be 0 = .ok (.iconst 0, 1) := by decide +kernel
theorem dX12_be_1 : decode cX12_be 1 = .ok (.istore_n 2, 1) := by decide +kernel
theorem dX12_be_2 : decode cX12_be 2 = .ok (.iload_n 2, 1) := by decide +kernel
theorem dX12_be_3 : decode cX12_be 3 = .ok (.aload_n 0, 1) := by decide +kernel
theorem dX12_be_4 : decode cX12_be 4 = .ok (.arraylength, 1) := by decide +kernel
theorem dX12_be_5 : decode cX12_be 5 = .ok (.if_icmp .ge 15, 3) := by decide +kernel
theorem dX12_be_8 : decode cX12_be 8 = .ok (.aload_n 0, 1) := by decide +kernel
theorem dX12_be_9 : decode cX12_be 9 = .ok (.iload_n 2, 1) := by decide +kernel
theorem dX12_be_10 : decode cX12_be 10 = .ok (.aload_n 1, 1) := by decide +kernel
theorem dX12_be_11 : decode cX12_be 11 = .ok (.iload_n 2, 1) := by decide +kernel
theorem dX12_be_12 : decode cX12_be 12 = .ok (.iaload, 1) := by decide +kernel
theorem dX12_be_13 : decode cX12_be 13 = .ok (.iastore, 1) := by decide +kernel
theorem dX12_be_14 : decode cX12_be 14 = .ok (.iinc 2 1, 3) := by decide +kernel
theorem dX12_be_17 : decode cX12_be 17 = .ok (.goto (-15), 3) := by decide +kernel
theorem dX12_be_20 : decode cX12_be 20 = .ok (.return_, 1) := by decide +kernel
theorem dX12_image_0 : decode cX12_image 0 = .ok (.aload_n 0, 1) := by decide +kernel
theorem dX12_image_1 : decode cX12_image 1 = .ok (.iconst 0, 1) := by decide +kernel
theorem dX12_image_2 : decode cX12_image 2 = .ok (.putfield 165, 3) := by decide +kernel
theorem dX12_image_5 : decode cX12_image 5 = .ok (.aload_n 0, 1) := by decide +kernel
theorem dX12_image_6 : decode cX12_image 6 = .ok (.iconst 1, 1) := by decide +kernel
theorem dX12_image_7 : decode cX12_image 7 = .ok (.putfield 344, 3) := by decide +kernel
theorem dX12_image_10 : decode cX12_image 10 = .ok (.aload_n 0, 1) := by decide +kernel
theorem dX12_image_11 : decode cX12_image 11 = .ok (.aload_n 0, 1) := by decide +kernel
theorem dX12_image_12 : decode cX12_image 12 = .ok (.getfield 338, 3) := by decide +kernel
theorem dX12_image_15 : decode cX12_image 15 = .ok (.putfield 511, 3) := by decide +kernel
theorem dX12_image_18 : decode cX12_image 18 = .ok (.aload_n 0, 1) := by decide +kernel
theorem dX12_image_19 : decode cX12_image 19 = .ok (.aload_n 0, 1) := by decide +kernel
theorem dX12_image_20 : decode cX12_image 20 = .ok (.getfield 341, 3) := by decide +kernel
theorem dX12_image_23 : decode cX12_image 23 = .ok (.putfield 514, 3) := by decide +kernel
theorem dX12_image_26 : decode cX12_image 26 = .ok (.aload_n 0, 1) := by decide +kernel
theorem dX12_image_27 : decode cX12_image 27 = .ok (.aload_n 0, 1) := by decide +kernel
theorem dX12_image_28 : decode cX12_image 28 = .ok (.getfield 141, 3) := by decide +kernel
theorem dX12_image_31 : decode cX12_image 31 = .ok (.iconst 0, 1) := by decide +kernel
theorem dX12_image_32 : decode cX12_image 32 = .ok (.invokevirtual 387, 3) := by decide +kernel
theorem dX12_image_35 : decode cX12_image 35 = .ok (.aload_n 0, 1) := by decide +kernel
theorem dX12_image_36 : decode cX12_image 36 = .ok (.getfield 144, 3) := by decide +kernel
theorem dX12_image_39 : decode cX12_image 39 = .ok (.aload_n 0, 1) := by decide +kernel
theorem dX12_image_40 : decode cX12_image 40 = .ok (.getfield 90, 3) := by decide +kernel
theorem dX12_image_43 : decode cX12_image 43 = .ok (.invokestatic 517, 3) := by decide +kernel
theorem dX12_image_46 : decode cX12_image 46 = .ok (.aload_n 0, 1) := by decide +kernel
theorem dX12_image_47 : decode cX12_image 47 = .ok (.getfield 147, 3) := by decide +kernel
theorem dX12_image_50 : decode cX12_image 50 = .ok (.aload_n 0, 1) := by decide +kernel
theorem dX12_image_51 : decode cX12_image 51 = .ok (.getfield 93, 3) := by decide +kernel
theorem dX12_image_54 : decode cX12_image 54 = .ok (.invokestatic 517, 3) := by decide +kernel
theorem dX12_image_57 : decode cX12_image 57 = .ok (.aload_n 0, 1) := by decide +kernel
theorem dX12_image_58 : decode cX12_image 58 = .ok (.getfield 150, 3) := by decide +kernel
theorem dX12_image_61 : decode cX12_image 61 = .ok (.aload_n 0, 1) := by decide +kernel
theorem dX12_image_62 : decode cX12_image 62 = .ok (.getfield 96, 3) := by decide +kernel
theorem dX12_image_65 : decode cX12_image 65 = .ok (.invokestatic 517, 3) := by decide +kernel
theorem dX12_image_68 : decode cX12_image 68 = .ok (.aload_n 0, 1) := by decide +kernel
theorem dX12_image_69 : decode cX12_image 69 = .ok (.getfield 153, 3) := by decide +kernel
theorem dX12_image_72 : decode cX12_image 72 = .ok (.aload_n 0, 1) := by decide +kernel
theorem dX12_image_73 : decode cX12_image 73 = .ok (.getfield 99, 3) := by decide +kernel
theorem dX12_image_76 : decode cX12_image 76 = .ok (.invokestatic 517, 3) := by decide +kernel
theorem dX12_image_79 : decode cX12_image 79 = .ok (.aload_n 0, 1) := by decide +kernel
theorem dX12_image_80 : decode cX12_image 80 = .ok (.getfield 156, 3) := by decide +kernel
theorem dX12_image_83 : decode cX12_image 83 = .ok (.aload_n 0, 1) := by decide +kernel
theorem dX12_image_84 : decode cX12_image 84 = .ok (.getfield 123, 3) := by decide +kernel
theorem dX12_image_87 : decode cX12_image 87 = .ok (.invokestatic 517, 3) := by decide +kernel
theorem dX12_image_90 : decode cX12_image 90 = .ok (.aload_n 0, 1) := by decide +kernel
theorem dX12_image_91 : decode cX12_image 91 = .ok (.getfield 159, 3) := by decide +kernel
theorem dX12_image_94 : decode cX12_image 94 = .ok (.aload_n 0, 1) := by decide +kernel
theorem dX12_image_95 : decode cX12_image 95 = .ok (.getfield 126, 3) := by decide +kernel
theorem dX12_image_98 : decode cX12_image 98 = .ok (.invokestatic 517, 3) := by decide +kernel
theorem dX12_image_101 : decode cX12_image 101 = .ok (.aload_n 0, 1) := by decide +kernel
theorem dX12_image_102 : decode cX12_image 102 = .ok (.getfield 162, 3) := by decide +kernel
theorem dX12_image_105 : decode cX12_image 105 = .ok (.aload_n 0, 1) := by decide +kernel
theorem dX12_image_106 : decode cX12_image 106 = .ok (.getfield 67, 3) := by decide +kernel
theorem dX12_image_109 : decode cX12_image 109 = .ok (.invokestatic 517, 3) := by decide +kernel
theorem dX12_image_112 : decode cX12_image 112 = .ok (.return_, 1) := by decide +kernel
theorem dX12_restore_0 : decode cX12_restore 0 = .ok (.aload_n 0, 1) := by decide +kernel
theorem dX12_restore_1 : decode cX12_restore 1 = .ok (.iconst 0, 1) := by decide +kernel
theorem dX12_restore_2 : decode cX12_restore 2 = .ok (.putfield 165, 3) := by decide +kernel
theorem dX12_restore_5 : decode cX12_restore 5 = .ok (.aload_n 0, 1) := by decide +kernel
theorem dX12_restore_6 : decode cX12_restore 6 = .ok (.getfield 344, 3) := by decide +kernel
theorem dX12_restore_9 : decode cX12_restore 9 = .ok (.ifCond .ne 5, 3) := by decide +kernel
theorem dX12_restore_12 : decode cX12_restore 12 = .ok (.iconst 0, 1) := by decide +kernel
theorem dX12_restore_13 : decode cX12_restore 13 = .ok (.ireturn, 1) := by decide +kernel
theorem dX12_restore_14 : decode cX12_restore 14 = .ok (.aload_n 0, 1) := by decide +kernel
theorem dX12_restore_15 : decode cX12_restore 15 = .ok (.aload_n 0, 1) := by decide +kernel
theorem dX12_restore_16 : decode cX12_restore 16 = .ok (.getfield 511, 3) := by decide +kernel
theorem dX12_restore_19 : decode cX12_restore 19 = .ok (.putfield 338, 3) := by decide +kernel
theorem dX12_restore_22 : decode cX12_restore 22 = .ok (.aload_n 0, 1) := by decide +kernel
theorem dX12_restore_23 : decode cX12_restore 23 = .ok (.aload_n 0, 1) := by decide +kernel
theorem dX12_restore_24 : decode cX12_restore 24 = .ok (.getfield 514, 3) := by decide +kernel
theorem dX12_restore_27 : decode cX12_restore 27 = .ok (.putfield 341, 3) := by decide +kernel
theorem dX12_restore_30 : decode cX12_restore 30 = .ok (.aload_n 0, 1) := by decide +kernel
theorem dX12_restore_31 : decode cX12_restore 31 = .ok (.aload_n 0, 1) := by decide +kernel
theorem dX12_restore_32 : decode cX12_restore 32 = .ok (.getfield 141, 3) := by decide +kernel
theorem dX12_restore_35 : decode cX12_restore 35 = .ok (.iconst 0, 1) := by decide +kernel
theorem dX12_restore_36 : decode cX12_restore 36 = .ok (.invokevirtual 416, 3) := by decide +kernel
theorem dX12_restore_39 : decode cX12_restore 39 = .ok (.aload_n 0, 1) := by decide +kernel
theorem dX12_restore_40 : decode cX12_restore 40 = .ok (.getfield 90, 3) := by decide +kernel
theorem dX12_restore_43 : decode cX12_restore 43 = .ok (.aload_n 0, 1) := by decide +kernel
theorem dX12_restore_44 : decode cX12_restore 44 = .ok (.getfield 144, 3) := by decide +kernel
theorem dX12_restore_47 : decode cX12_restore 47 = .ok (.invokestatic 517, 3) := by decide +kernel
theorem dX12_restore_50 : decode cX12_restore 50 = .ok (.aload_n 0, 1) := by decide +kernel
theorem dX12_restore_51 : decode cX12_restore 51 = .ok (.getfield 93, 3) := by decide +kernel
theorem dX12_restore_54 : decode cX12_restore 54 = .ok (.aload_n 0, 1) := by decide +kernel
theorem dX12_restore_55 : decode cX12_restore 55 = .ok (.getfield 147, 3) := by decide +kernel
theorem dX12_restore_58 : decode cX12_restore 58 = .ok (.invokestatic 517, 3) := by decide +kernel
theorem dX12_restore_61 : decode cX12_restore 61 = .ok (.aload_n 0, 1) := by decide +kernel
theorem dX12_restore_62 : decode cX12_restore 62 = .ok (.getfield 96, 3) := by decide +kernel
theorem dX12_restore_65 : decode cX12_restore 65 = .ok (.aload_n 0, 1) := by decide +kernel
theorem dX12_restore_66 : decode cX12_restore 66 = .ok (.getfield 150, 3) := by decide +kernel
theorem dX12_restore_69 : decode cX12_restore 69 = .ok (.invokestatic 517, 3) := by decide +kernel
theorem dX12_restore_72 : decode cX12_restore 72 = .ok (.aload_n 0, 1) := by decide +kernel
theorem dX12_restore_73 : decode cX12_restore 73 = .ok (.getfield 99, 3) := by decide +kernel
theorem dX12_restore_76 : decode cX12_restore 76 = .ok (.aload_n 0, 1) := by decide +kernel
theorem dX12_restore_77 : decode cX12_restore 77 = .ok (.getfield 153, 3) := by decide +kernel
theorem dX12_restore_80 : decode cX12_restore 80 = .ok (.invokestatic 517, 3) := by decide +kernel
theorem dX12_restore_83 : decode cX12_restore 83 = .ok (.aload_n 0, 1) := by decide +kernel
theorem dX12_restore_84 : decode cX12_restore 84 = .ok (.getfield 123, 3) := by decide +kernel
theorem dX12_restore_87 : decode cX12_restore 87 = .ok (.aload_n 0, 1) := by decide +kernel
theorem dX12_restore_88 : decode cX12_restore 88 = .ok (.getfield 156, 3) := by decide +kernel
theorem dX12_restore_91 : decode cX12_restore 91 = .ok (.invokestatic 517, 3) := by decide +kernel
theorem dX12_restore_94 : decode cX12_restore 94 = .ok (.aload_n 0, 1) := by decide +kernel
theorem dX12_restore_95 : decode cX12_restore 95 = .ok (.getfield 126, 3) := by decide +kernel
theorem dX12_restore_98 : decode cX12_restore 98 = .ok (.aload_n 0, 1) := by decide +kernel
theorem dX12_restore_99 : decode cX12_restore 99 = .ok (.getfield 159, 3) := by decide +kernel
theorem dX12_restore_102 : decode cX12_restore 102 = .ok (.invokestatic 517, 3) := by decide +kernel
theorem dX12_restore_105 : decode cX12_restore 105 = .ok (.aload_n 0, 1) := by decide +kernel
theorem dX12_restore_106 : decode cX12_restore 106 = .ok (.getfield 67, 3) := by decide +kernel
theorem dX12_restore_109 : decode cX12_restore 109 = .ok (.aload_n 0, 1) := by decide +kernel
theorem dX12_restore_110 : decode cX12_restore 110 = .ok (.getfield 162, 3) := by decide +kernel
theorem dX12_restore_113 : decode cX12_restore 113 = .ok (.invokestatic 517, 3) := by decide +kernel
theorem dX12_restore_116 : decode cX12_restore 116 = .ok (.iconst 1, 1) := by decide +kernel
theorem dX12_restore_117 : decode cX12_restore 117 = .ok (.ireturn, 1) := by decide +kernel
theorem dJ6_bitCount_0f7a4_0 : decode cJ6_bitCount_0f7a4 0 = .ok (.iload_n 0, 1) := by decide +kernel
theorem dJ6_bitCount_0f7a4_1 : decode cJ6_bitCount_0f7a4 1 = .ok (.iload_n 0, 1) := by decide +kernel
theorem dJ6_bitCount_0f7a4_2 : decode cJ6_bitCount_0f7a4 2 = .ok (.iconst 1, 1) := by decide +kernel
theorem dJ6_bitCount_0f7a4_3 : decode cJ6_bitCount_0f7a4 3 = .ok (.iushr, 1) := by decide +kernel
theorem dJ6_bitCount_0f7a4_4 : decode cJ6_bitCount_0f7a4 4 = .ok (.ldc_w 265, 3) := by decide +kernel
theorem dJ6_bitCount_0f7a4_7 : decode cJ6_bitCount_0f7a4 7 = .ok (.iand, 1) := by decide +kernel
theorem dJ6_bitCount_0f7a4_8 : decode cJ6_bitCount_0f7a4 8 = .ok (.isub, 1) := by decide +kernel
theorem dJ6_bitCount_0f7a4_9 : decode cJ6_bitCount_0f7a4 9 = .ok (.istore_n 0, 1) := by decide +kernel
theorem dJ6_bitCount_0f7a4_10 : decode cJ6_bitCount_0f7a4 10 = .ok (.iload_n 0, 1) := by decide +kernel
theorem dJ6_bitCount_0f7a4_11 : decode cJ6_bitCount_0f7a4 11 = .ok (.ldc_w 266, 3) := by decide +kernel
theorem dJ6_bitCount_0f7a4_14 : decode cJ6_bitCount_0f7a4 14 = .ok (.iand, 1) := by decide +kernel
theorem dJ6_bitCount_0f7a4_15 : decode cJ6_bitCount_0f7a4 15 = .ok (.iload_n 0, 1) := by decide +kernel
theorem dJ6_bitCount_0f7a4_16 : decode cJ6_bitCount_0f7a4 16 = .ok (.iconst 2, 1) := by decide +kernel
theorem dJ6_bitCount_0f7a4_17 : decode cJ6_bitCount_0f7a4 17 = .ok (.iushr, 1) := by decide +kernel
theorem dJ6_bitCount_0f7a4_18 : decode cJ6_bitCount_0f7a4 18 = .ok (.ldc_w 266, 3) := by decide +kernel
theorem dJ6_bitCount_0f7a4_21 : decode cJ6_bitCount_0f7a4 21 = .ok (.iand, 1) := by decide +kernel
theorem dJ6_bitCount_0f7a4_22 : decode cJ6_bitCount_0f7a4 22 = .ok (.iadd, 1) := by decide +kernel
theorem dJ6_bitCount_0f7a4_23 : decode cJ6_bitCount_0f7a4 23 = .ok (.istore_n 0, 1) := by decide +kernel
theorem dJ6_bitCount_0f7a4_24 : decode cJ6_bitCount_0f7a4 24 = .ok (.iload_n 0, 1) := by decide +kernel
theorem dJ6_bitCount_0f7a4_25 : decode cJ6_bitCount_0f7a4 25 = .ok (.iload_n 0, 1) := by decide +kernel
theorem dJ6_bitCount_0f7a4_26 : decode cJ6_bitCount_0f7a4 26 = .ok (.iconst 4, 1) := by decide +kernel
theorem dJ6_bitCount_0f7a4_27 : decode cJ6_bitCount_0f7a4 27 = .ok (.iushr, 1) := by decide +kernel
theorem dJ6_bitCount_0f7a4_28 : decode cJ6_bitCount_0f7a4 28 = .ok (.iadd, 1) := by decide +kernel
theorem dJ6_bitCount_0f7a4_29 : decode cJ6_bitCount_0f7a4 29 = .ok (.ldc_w 267, 3) := by decide +kernel
theorem dJ6_bitCount_0f7a4_32 : decode cJ6_bitCount_0f7a4 32 = .ok (.iand, 1) := by decide +kernel
theorem dJ6_bitCount_0f7a4_33 : decode cJ6_bitCount_0f7a4 33 = .ok (.istore_n 0, 1) := by decide +kernel
theorem dJ6_bitCount_0f7a4_34 : decode cJ6_bitCount_0f7a4 34 = .ok (.iload_n 0, 1) := by decide +kernel
theorem dJ6_bitCount_0f7a4_35 : decode cJ6_bitCount_0f7a4 35 = .ok (.iload_n 0, 1) := by decide +kernel
theorem dJ6_bitCount_0f7a4_36 : decode cJ6_bitCount_0f7a4 36 = .ok (.bipush 8, 2) := by decide +kernel
theorem dJ6_bitCount_0f7a4_38 : decode cJ6_bitCount_0f7a4 38 = .ok (.iushr, 1) := by decide +kernel
theorem dJ6_bitCount_0f7a4_39 : decode cJ6_bitCount_0f7a4 39 = .ok (.iadd, 1) := by decide +kernel
theorem dJ6_bitCount_0f7a4_40 : decode cJ6_bitCount_0f7a4 40 = .ok (.istore_n 0, 1) := by decide +kernel
theorem dJ6_bitCount_0f7a4_41 : decode cJ6_bitCount_0f7a4 41 = .ok (.iload_n 0, 1) := by decide +kernel
theorem dJ6_bitCount_0f7a4_42 : decode cJ6_bitCount_0f7a4 42 = .ok (.iload_n 0, 1) := by decide +kernel
theorem dJ6_bitCount_0f7a4_43 : decode cJ6_bitCount_0f7a4 43 = .ok (.bipush 16, 2) := by decide +kernel
theorem dJ6_bitCount_0f7a4_45 : decode cJ6_bitCount_0f7a4 45 = .ok (.iushr, 1) := by decide +kernel
theorem dJ6_bitCount_0f7a4_46 : decode cJ6_bitCount_0f7a4 46 = .ok (.iadd, 1) := by decide +kernel
theorem dJ6_bitCount_0f7a4_47 : decode cJ6_bitCount_0f7a4 47 = .ok (.istore_n 0, 1) := by decide +kernel
theorem dJ6_bitCount_0f7a4_48 : decode cJ6_bitCount_0f7a4 48 = .ok (.iload_n 0, 1) := by decide +kernel
theorem dJ6_bitCount_0f7a4_49 : decode cJ6_bitCount_0f7a4 49 = .ok (.bipush 63, 2) := by decide +kernel
theorem dJ6_bitCount_0f7a4_51 : decode cJ6_bitCount_0f7a4 51 = .ok (.iand, 1) := by decide +kernel
theorem dJ6_bitCount_0f7a4_52 : decode cJ6_bitCount_0f7a4 52 = .ok (.ireturn, 1) := by decide +kernel
theorem dJ9_floorMod_7cf53_0 : decode cJ9_floorMod_7cf53 0 = .ok (.iload_n 0, 1) := by decide +kernel
theorem dJ9_floorMod_7cf53_1 : decode cJ9_floorMod_7cf53 1 = .ok (.iload_n 1, 1) := by decide +kernel
theorem dJ9_floorMod_7cf53_2 : decode cJ9_floorMod_7cf53 2 = .ok (.irem, 1) := by decide +kernel
theorem dJ9_floorMod_7cf53_3 : decode cJ9_floorMod_7cf53 3 = .ok (.istore_n 2, 1) := by decide +kernel
theorem dJ9_floorMod_7cf53_4 : decode cJ9_floorMod_7cf53 4 = .ok (.iload_n 0, 1) := by decide +kernel
theorem dJ9_floorMod_7cf53_5 : decode cJ9_floorMod_7cf53 5 = .ok (.iload_n 1, 1) := by decide +kernel
theorem dJ9_floorMod_7cf53_6 : decode cJ9_floorMod_7cf53 6 = .ok (.ixor, 1) := by decide +kernel
theorem dJ9_floorMod_7cf53_7 : decode cJ9_floorMod_7cf53 7 = .ok (.ifCond .ge 11, 3) := by decide +kernel
theorem dJ9_floorMod_7cf53_10 : decode cJ9_floorMod_7cf53 10 = .ok (.iload_n 2, 1) := by decide +kernel
theorem dJ9_floorMod_7cf53_11 : decode cJ9_floorMod_7cf53 11 = .ok (.ifCond .eq 7, 3) := by decide +kernel
theorem dJ9_floorMod_7cf53_14 : decode cJ9_floorMod_7cf53 14 = .ok (.iload_n 2, 1) := by decide +kernel
theorem dJ9_floorMod_7cf53_15 : decode cJ9_floorMod_7cf53 15 = .ok (.iload_n 1, 1) := by decide +kernel
theorem dJ9_floorMod_7cf53_16 : decode cJ9_floorMod_7cf53 16 = .ok (.iadd, 1) := by decide +kernel
theorem dJ9_floorMod_7cf53_17 : decode cJ9_floorMod_7cf53 17 = .ok (.ireturn, 1) := by decide +kernel
theorem dJ9_floorMod_7cf53_18 : decode cJ9_floorMod_7cf53 18 = .ok (.iload_n 2, 1) := by decide +kernel
theorem dJ9_floorMod_7cf53_19 : decode cJ9_floorMod_7cf53 19 = .ok (.ireturn, 1) := by decide +kernel
theorem dJ9_abs_0f7a4_0 : decode cJ9_abs_0f7a4 0 = .ok (.iload_n 0, 1) := by decide +kernel
theorem dJ9_abs_0f7a4_1 : decode cJ9_abs_0f7a4 1 = .ok (.ifCond .ge 8, 3) := by decide +kernel
theorem dJ9_abs_0f7a4_4 : decode cJ9_abs_0f7a4 4 = .ok (.iload_n 0, 1) := by decide +kernel
theorem dJ9_abs_0f7a4_5 : decode cJ9_abs_0f7a4 5 = .ok (.ineg, 1) := by decide +kernel
theorem dJ9_abs_0f7a4_6 : decode cJ9_abs_0f7a4 6 = .ok (.goto 4, 3) := by decide +kernel
theorem dJ9_abs_0f7a4_9 : decode cJ9_abs_0f7a4 9 = .ok (.iload_n 0, 1) := by decide +kernel
theorem dJ9_abs_0f7a4_10 : decode cJ9_abs_0f7a4 10 = .ok (.ireturn, 1) := by decide +kernel
theorem dJ9_max_7cf53_0 : decode cJ9_max_7cf53 0 = .ok (.iload_n 0, 1) := by decide +kernel
theorem dJ9_max_7cf53_1 : decode cJ9_max_7cf53 1 = .ok (.iload_n 1, 1) := by decide +kernel
theorem dJ9_max_7cf53_2 : decode cJ9_max_7cf53 2 = .ok (.if_icmp .lt 7, 3) := by decide +kernel
theorem dJ9_max_7cf53_5 : decode cJ9_max_7cf53 5 = .ok (.iload_n 0, 1) := by decide +kernel
theorem dJ9_max_7cf53_6 : decode cJ9_max_7cf53 6 = .ok (.goto 4, 3) := by decide +kernel
theorem dJ9_max_7cf53_9 : decode cJ9_max_7cf53 9 = .ok (.iload_n 1, 1) := by decide +kernel
theorem dJ9_max_7cf53_10 : decode cJ9_max_7cf53 10 = .ok (.ireturn, 1) := by decide +kernel
theorem dJ9_min_7cf53_0 : decode cJ9_min_7cf53 0 = .ok (.iload_n 0, 1) := by decide +kernel
theorem dJ9_min_7cf53_1 : decode cJ9_min_7cf53 1 = .ok (.iload_n 1, 1) := by decide +kernel
theorem dJ9_min_7cf53_2 : decode cJ9_min_7cf53 2 = .ok (.if_icmp .gt 7, 3) := by decide +kernel
theorem dJ9_min_7cf53_5 : decode cJ9_min_7cf53 5 = .ok (.iload_n 0, 1) := by decide +kernel
theorem dJ9_min_7cf53_6 : decode cJ9_min_7cf53 6 = .ok (.goto 4, 3) := by decide +kernel
theorem dJ9_min_7cf53_9 : decode cJ9_min_7cf53 9 = .ok (.iload_n 1, 1) := by decide +kernel
theorem dJ9_min_7cf53_10 : decode cJ9_min_7cf53 10 = .ok (.ireturn, 1) := by decide +kernel
theorem dJ0_length_8abf5_0 : decode cJ0_length_8abf5 0 = .ok (.aload_n 0, 1) := by decide +kernel
theorem dJ0_length_8abf5_1 : decode cJ0_length_8abf5 1 = .ok (.getfield 9, 3) := by decide +kernel
theorem dJ0_length_8abf5_4 : decode cJ0_length_8abf5 4 = .ok (.arraylength, 1) := by decide +kernel
theorem dJ0_length_8abf5_5 : decode cJ0_length_8abf5 5 = .ok (.aload_n 0, 1) := by decide +kernel
theorem dJ0_length_8abf5_6 : decode cJ0_length_8abf5 6 = .ok (.invokevirtual 335, 3) := by decide +kernel
theorem dJ0_length_8abf5_9 : decode cJ0_length_8abf5 9 = .ok (.ishr, 1) := by decide +kernel
theorem dJ0_length_8abf5_10 : decode cJ0_length_8abf5 10 = .ok (.ireturn, 1) := by decide +kernel
theorem dJ0_charAt_5068e_0 : decode cJ0_charAt_5068e 0 = .ok (.aload_n 0, 1) := by decide +kernel
theorem dJ0_charAt_5068e_1 : decode cJ0_charAt_5068e 1 = .ok (.invokevirtual 492, 3) := by decide +kernel
theorem dJ0_charAt_5068e_4 : decode cJ0_charAt_5068e 4 = .ok (.ifCond .eq 12, 3) := by decide +kernel
theorem dJ0_charAt_5068e_7 : decode cJ0_charAt_5068e 7 = .ok (.aload_n 0, 1) := by decide +kernel
theorem dJ0_charAt_5068e_8 : decode cJ0_charAt_5068e 8 = .ok (.getfield 9, 3) := by decide +kernel
theorem dJ0_charAt_5068e_11 : decode cJ0_charAt_5068e 11 = .ok (.iload_n 1, 1) := by decide +kernel
theorem dJ0_charAt_5068e_12 : decode cJ0_charAt_5068e 12 = .ok (.invokestatic 495, 3) := by decide +kernel
theorem dJ0_charAt_5068e_15 : decode cJ0_charAt_5068e 15 = .ok (.ireturn, 1) := by decide +kernel
theorem dJ0_charAt_5068e_16 : decode cJ0_charAt_5068e 16 = .ok (.aload_n 0, 1) := by decide +kernel
theorem dJ0_charAt_5068e_17 : decode cJ0_charAt_5068e 17 = .ok (.getfield 9, 3) := by decide +kernel
theorem dJ0_charAt_5068e_20 : decode cJ0_charAt_5068e 20 = .ok (.iload_n 1, 1) := by decide +kernel
theorem dJ0_charAt_5068e_21 : decode cJ0_charAt_5068e 21 = .ok (.invokestatic 498, 3) := by decide +kernel
theorem dJ0_charAt_5068e_24 : decode cJ0_charAt_5068e 24 = .ok (.ireturn, 1) := by decide +kernel
theorem dJ0_coder_7d493_0 : decode cJ0_coder_7d493 0 = .ok (.getstatic 38, 3) := by decide +kernel
theorem dJ0_coder_7d493_3 : decode cJ0_coder_7d493 3 = .ok (.ifCond .eq 10, 3) := by decide +kernel
theorem dJ0_coder_7d493_6 : decode cJ0_coder_7d493 6 = .ok (.aload_n 0, 1) := by decide +kernel
theorem dJ0_coder_7d493_7 : decode cJ0_coder_7d493 7 = .ok (.getfield 15, 3) := by decide +kernel
theorem dJ0_coder_7d493_10 : decode cJ0_coder_7d493 10 = .ok (.goto 4, 3) := by decide +kernel
theorem dJ0_coder_7d493_13 : decode cJ0_coder_7d493 13 = .ok (.iconst 1, 1) := by decide +kernel
theorem dJ0_coder_7d493_14 : decode cJ0_coder_7d493 14 = .ok (.ireturn, 1) := by decide +kernel
theorem dJ0_isLatin1_aae02_0 : decode cJ0_isLatin1_aae02 0 = .ok (.getstatic 38, 3) := by decide +kernel
theorem dJ0_isLatin1_aae02_3 : decode cJ0_isLatin1_aae02 3 = .ok (.ifCond .eq 14, 3) := by decide +kernel
theorem dJ0_isLatin1_aae02_6 : decode cJ0_isLatin1_aae02 6 = .ok (.aload_n 0, 1) := by decide +kernel
theorem dJ0_isLatin1_aae02_7 : decode cJ0_isLatin1_aae02 7 = .ok (.getfield 15, 3) := by decide +kernel
theorem dJ0_isLatin1_aae02_10 : decode cJ0_isLatin1_aae02 10 = .ok (.ifCond .ne 7, 3) := by decide +kernel
theorem dJ0_isLatin1_aae02_13 : decode cJ0_isLatin1_aae02 13 = .ok (.iconst 1, 1) := by decide +kernel
theorem dJ0_isLatin1_aae02_14 : decode cJ0_isLatin1_aae02 14 = .ok (.goto 4, 3) := by decide +kernel
theorem dJ0_isLatin1_aae02_17 : decode cJ0_isLatin1_aae02 17 = .ok (.iconst 0, 1) := by decide +kernel
theorem dJ0_isLatin1_aae02_18 : decode cJ0_isLatin1_aae02 18 = .ok (.ireturn, 1) := by decide +kernel
theorem dJ0_checkIndex_df160_0 : decode cJ0_checkIndex_df160 0 = .ok (.iload_n 0, 1) := by decide +kernel
theorem dJ0_checkIndex_df160_1 : decode cJ0_checkIndex_df160 1 = .ok (.iload_n 1, 1) := by decide +kernel
theorem dJ0_checkIndex_df160_2 : decode cJ0_checkIndex_df160 2 = .ok (.getstatic 1053, 3) := by decide +kernel
theorem dJ0_checkIndex_df160_5 : decode cJ0_checkIndex_df160 5 = .ok (.invokestatic 1059, 3) := by decide +kernel
theorem dJ0_checkIndex_df160_8 : decode cJ0_checkIndex_df160 8 = .ok (.pop, 1) := by decide +kernel
theorem dJ0_checkIndex_df160_9 : decode cJ0_checkIndex_df160 9 = .ok (.return_, 1) := by decide +kernel
theorem dJ1_charAt_3b067_0 : decode cJ1_charAt_3b067 0 = .ok (.iload_n 1, 1) := by decide +kernel
theorem dJ1_charAt_3b067_1 : decode cJ1_charAt_3b067 1 = .ok (.aload_n 0, 1) := by decide +kernel
theorem dJ1_charAt_3b067_2 : decode cJ1_charAt_3b067 2 = .ok (.arraylength, 1) := by decide +kernel
theorem dJ1_charAt_3b067_3 : decode cJ1_charAt_3b067 3 = .ok (.invokestatic 9, 3) := by decide +kernel
theorem dJ1_charAt_3b067_6 : decode cJ1_charAt_3b067 6 = .ok (.aload_n 0, 1) := by decide +kernel
theorem dJ1_charAt_3b067_7 : decode cJ1_charAt_3b067 7 = .ok (.iload_n 1, 1) := by decide +kernel
theorem dJ1_charAt_3b067_8 : decode cJ1_charAt_3b067 8 = .ok (.baload, 1) := by decide +kernel
theorem dJ1_charAt_3b067_9 : decode cJ1_charAt_3b067 9 = .ok (.sipush 255, 3) := by decide +kernel
theorem dJ1_charAt_3b067_12 : decode cJ1_charAt_3b067 12 = .ok (.iand, 1) := by decide +kernel
theorem dJ1_charAt_3b067_13 : decode cJ1_charAt_3b067 13 = .ok (.i2c, 1) := by decide +kernel
theorem dJ1_charAt_3b067_14 : decode cJ1_charAt_3b067 14 = .ok (.ireturn, 1) := by decide +kernel
theorem dJ2_getChar_3b067_0 : decode cJ2_getChar_3b067 0 = .ok (.getstatic 44, 3) := by decide +kernel
theorem dJ2_getChar_3b067_3 : decode cJ2_getChar_3b067 3 = .ok (.ifCond .ne 25, 3) := by decide +kernel
theorem dJ2_getChar_3b067_6 : decode cJ2_getChar_3b067 6 = .ok (.iload_n 1, 1) := by decide +kernel
theorem dJ2_getChar_3b067_7 : decode cJ2_getChar_3b067 7 = .ok (.ifCond .lt 11, 3) := by decide +kernel
theorem dJ2_getChar_3b067_10 : decode cJ2_getChar_3b067 10 = .ok (.iload_n 1, 1) := by decide +kernel
theorem dJ2_getChar_3b067_11 : decode cJ2_getChar_3b067 11 = .ok (.aload_n 0, 1) := by decide +kernel
theorem dJ2_getChar_3b067_12 : decode cJ2_getChar_3b067 12 = .ok (.invokestatic 48, 3) := by decide +kernel
theorem dJ2_getChar_3b067_15 : decode cJ2_getChar_3b067 15 = .ok (.if_icmp .lt 13, 3) := by decide +kernel
theorem dJ2_getChar_3b067_18 : decode cJ2_getChar_3b067 18 = .ok (.new 52, 3) := by decide +kernel
theorem dJ2_getChar_3b067_21 : decode cJ2_getChar_3b067 21 = .ok (.dup, 1) := by decide +kernel
theorem dJ2_getChar_3b067_22 : decode cJ2_getChar_3b067 22 = .ok (.ldc 54, 2) := by decide +kernel
theorem dJ2_getChar_3b067_24 : decode cJ2_getChar_3b067 24 = .ok (.invokespecial 56, 3) := by decide +kernel
theorem dJ2_getChar_3b067_27 : decode cJ2_getChar_3b067 27 = .ok (.athrow, 1) := by decide +kernel
theorem dJ2_getChar_3b067_28 : decode cJ2_getChar_3b067 28 = .ok (.iload_n 1, 1) := by decide +kernel
theorem dJ2_getChar_3b067_29 : decode cJ2_getChar_3b067 29 = .ok (.iconst 1, 1) := by decide +kernel
theorem dJ2_getChar_3b067_30 : decode cJ2_getChar_3b067 30 = .ok (.ishl, 1) := by decide +kernel
theorem dJ2_getChar_3b067_31 : decode cJ2_getChar_3b067 31 = .ok (.istore_n 1, 1) := by decide +kernel
theorem dJ2_getChar_3b067_32 : decode cJ2_getChar_3b067 32 = .ok (.aload_n 0, 1) := by decide +kernel
theorem dJ2_getChar_3b067_33 : decode cJ2_getChar_3b067 33 = .ok (.iload_n 1, 1) := by decide +kernel
theorem dJ2_getChar_3b067_34 : decode cJ2_getChar_3b067 34 = .ok (.iinc 1 1, 3) := by decide +kernel
theorem dJ2_getChar_3b067_37 : decode cJ2_getChar_3b067 37 = .ok (.baload, 1) := by decide +kernel
theorem dJ2_getChar_3b067_38 : decode cJ2_getChar_3b067 38 = .ok (.sipush 255, 3) := by decide +kernel
theorem dJ2_getChar_3b067_41 : decode cJ2_getChar_3b067 41 = .ok (.iand, 1) := by decide +kernel
theorem dJ2_getChar_3b067_42 : decode cJ2_getChar_3b067 42 = .ok (.getstatic 59, 3) := by decide +kernel
theorem dJ2_getChar_3b067_45 : decode cJ2_getChar_3b067 45 = .ok (.ishl, 1) := by decide +kernel
theorem dJ2_getChar_3b067_46 : decode cJ2_getChar_3b067 46 = .ok (.aload_n 0, 1) := by decide +kernel
theorem dJ2_getChar_3b067_47 : decode cJ2_getChar_3b067 47 = .ok (.iload_n 1, 1) := by decide +kernel
theorem dJ2_getChar_3b067_48 : decode cJ2_getChar_3b067 48 = .ok (.baload, 1) := by decide +kernel
theorem dJ2_getChar_3b067_49 : decode cJ2_getChar_3b067 49 = .ok (.sipush 255, 3) := by decide +kernel
theorem dJ2_getChar_3b067_52 : decode cJ2_getChar_3b067 52 = .ok (.iand, 1) := by decide +kernel
theorem dJ2_getChar_3b067_53 : decode cJ2_getChar_3b067 53 = .ok (.getstatic 63, 3) := by decide +kernel
theorem dJ2_getChar_3b067_56 : decode cJ2_getChar_3b067 56 = .ok (.ishl, 1) := by decide +kernel
theorem dJ2_getChar_3b067_57 : decode cJ2_getChar_3b067 57 = .ok (.ior, 1) := by decide +kernel
theorem dJ2_getChar_3b067_58 : decode cJ2_getChar_3b067 58 = .ok (.i2c, 1) := by decide +kernel
theorem dJ2_getChar_3b067_59 : decode cJ2_getChar_3b067 59 = .ok (.ireturn, 1) := by decide +kernel
theorem dJ2_length_9d52b_0 : decode cJ2_length_9d52b 0 = .ok (.aload_n 0, 1) := by decide +kernel
theorem dJ2_length_9d52b_1 : decode cJ2_length_9d52b 1 = .ok (.arraylength, 1) := by decide +kernel
theorem dJ2_length_9d52b_2 : decode cJ2_length_9d52b 2 = .ok (.iconst 1, 1) := by decide +kernel
theorem dJ2_length_9d52b_3 : decode cJ2_length_9d52b 3 = .ok (.ishr, 1) := by decide +kernel
theorem dJ2_length_9d52b_4 : decode cJ2_length_9d52b 4 = .ok (.ireturn, 1) := by decide +kernel
theorem dJ2_charAt_3b067_0 : decode cJ2_charAt_3b067 0 = .ok (.iload_n 1, 1) := by decide +kernel
theorem dJ2_charAt_3b067_1 : decode cJ2_charAt_3b067 1 = .ok (.aload_n 0, 1) := by decide +kernel
theorem dJ2_charAt_3b067_2 : decode cJ2_charAt_3b067 2 = .ok (.invokestatic 67, 3) := by decide +kernel
theorem dJ2_charAt_3b067_5 : decode cJ2_charAt_3b067 5 = .ok (.aload_n 0, 1) := by decide +kernel
theorem dJ2_charAt_3b067_6 : decode cJ2_charAt_3b067 6 = .ok (.iload_n 1, 1) := by decide +kernel
theorem dJ2_charAt_3b067_7 : decode cJ2_charAt_3b067 7 = .ok (.invokestatic 71, 3) := by decide +kernel
theorem dJ2_charAt_3b067_10 : decode cJ2_charAt_3b067 10 = .ok (.ireturn, 1) := by decide +kernel
theorem dJ2_checkIndex_2214a_0 : decode cJ2_checkIndex_2214a 0 = .ok (.iload_n 0, 1) := by decide +kernel
theorem dJ2_checkIndex_2214a_1 : decode cJ2_checkIndex_2214a 1 = .ok (.aload_n 1, 1) := by decide +kernel
theorem dJ2_checkIndex_2214a_2 : decode cJ2_checkIndex_2214a 2 = .ok (.invokestatic 48, 3) := by decide +kernel
theorem dJ2_checkIndex_2214a_5 : decode cJ2_checkIndex_2214a 5 = .ok (.invokestatic 414, 3) := by decide +kernel
theorem dJ2_checkIndex_2214a_8 : decode cJ2_checkIndex_2214a 8 = .ok (.return_, 1) := by decide +kernel
theorem dJ3_checkIndex_8e157_0 : decode cJ3_checkIndex_8e157 0 = .ok (.iload_n 0, 1) := by decide +kernel
theorem dJ3_checkIndex_8e157_1 : decode cJ3_checkIndex_8e157 1 = .ok (.ifCond .lt 8, 3) := by decide +kernel
theorem dJ3_checkIndex_8e157_4 : decode cJ3_checkIndex_8e157 4 = .ok (.iload_n 0, 1) := by decide +kernel
theorem dJ3_checkIndex_8e157_5 : decode cJ3_checkIndex_8e157 5 = .ok (.iload_n 1, 1) := by decide +kernel
theorem dJ3_checkIndex_8e157_6 : decode cJ3_checkIndex_8e157 6 = .ok (.if_icmp .lt 10, 3) := by decide +kernel
theorem dJ3_checkIndex_8e157_9 : decode cJ3_checkIndex_8e157 9 = .ok (.aload_n 2, 1) := by decide +kernel
theorem dJ3_checkIndex_8e157_10 : decode cJ3_checkIndex_8e157 10 = .ok (.iload_n 0, 1) := by decide +kernel
theorem dJ3_checkIndex_8e157_11 : decode cJ3_checkIndex_8e157 11 = .ok (.iload_n 1, 1) := by decide +kernel
theorem dJ3_checkIndex_8e157_12 : decode cJ3_checkIndex_8e157 12 = .ok (.invokestatic 95, 3) := by decide +kernel
theorem dJ3_checkIndex_8e157_15 : decode cJ3_checkIndex_8e157 15 = .ok (.athrow, 1) := by decide +kernel
theorem dJ3_checkIndex_8e157_16 : decode cJ3_checkIndex_8e157 16 = .ok (.iload_n 0, 1) := by decide +kernel
theorem dJ3_checkIndex_8e157_17 : decode cJ3_checkIndex_8e157 17 = .ok (.ireturn, 1) := by decide +kernel
