theorem d_M_init_0 : decode b_M_init 0 = .ok (.aload_n 0, 1) := by decide +kernel
theorem d_M_init_1 : decode b_M_init 1 = .ok (.invokespecial 1, 3) := by decide +kernel
theorem d_M_init_4 : decode b_M_init 4 = .ok (.aload_n 0, 1) := by decide +kernel
theorem d_M_init_5 : decode b_M_init 5 = .ok (.bipush 50, 2) := by decide +kernel
theorem d_M_init_7 : decode b_M_init 7 = .ok (.newarray .int, 2) := by decide +kernel
theorem d_M_init_9 : decode b_M_init 9 = .ok (.putfield 7, 3) := by decide +kernel
theorem d_M_init_12 : decode b_M_init 12 = .ok (.aload_n 0, 1) := by decide +kernel
theorem d_M_init_13 : decode b_M_init 13 = .ok (.iconst 5, 1) := by decide +kernel
theorem d_M_init_14 : decode b_M_init 14 = .ok (.newarray .int, 2) := by decide +kernel
theorem d_M_init_16 : decode b_M_init 16 = .ok (.putfield 13, 3) := by decide +kernel
theorem d_M_init_19 : decode b_M_init 19 = .ok (.aload_n 0, 1) := by decide +kernel
theorem d_M_init_20 : decode b_M_init 20 = .ok (.iconst 5, 1) := by decide +kernel
theorem d_M_init_21 : decode b_M_init 21 = .ok (.newarray .int, 2) := by decide +kernel
theorem d_M_init_23 : decode b_M_init 23 = .ok (.putfield 16, 3) := by decide +kernel
theorem d_M_init_26 : decode b_M_init 26 = .ok (.aload_n 0, 1) := by decide +kernel
theorem d_M_init_27 : decode b_M_init 27 = .ok (.iconst 5, 1) := by decide +kernel
theorem d_M_init_28 : decode b_M_init 28 = .ok (.newarray .int, 2) := by decide +kernel
theorem d_M_init_30 : decode b_M_init 30 = .ok (.putfield 19, 3) := by decide +kernel
theorem d_M_init_33 : decode b_M_init 33 = .ok (.aload_n 0, 1) := by decide +kernel
theorem d_M_init_34 : decode b_M_init 34 = .ok (.iconst 5, 1) := by decide +kernel
theorem d_M_init_35 : decode b_M_init 35 = .ok (.newarray .int, 2) := by decide +kernel
theorem d_M_init_37 : decode b_M_init 37 = .ok (.putfield 22, 3) := by decide +kernel
theorem d_M_init_40 : decode b_M_init 40 = .ok (.aload_n 0, 1) := by decide +kernel
theorem d_M_init_41 : decode b_M_init 41 = .ok (.iconst 5, 1) := by decide +kernel
theorem d_M_init_42 : decode b_M_init 42 = .ok (.newarray .int, 2) := by decide +kernel
theorem d_M_init_44 : decode b_M_init 44 = .ok (.putfield 25, 3) := by decide +kernel
theorem d_M_init_47 : decode b_M_init 47 = .ok (.aload_n 0, 1) := by decide +kernel
theorem d_M_init_48 : decode b_M_init 48 = .ok (.iconst 5, 1) := by decide +kernel
theorem d_M_init_49 : decode b_M_init 49 = .ok (.newarray .int, 2) := by decide +kernel
theorem d_M_init_51 : decode b_M_init 51 = .ok (.putfield 28, 3) := by decide +kernel
theorem d_M_init_54 : decode b_M_init 54 = .ok (.aload_n 0, 1) := by decide +kernel
theorem d_M_init_55 : decode b_M_init 55 = .ok (.iconst 5, 1) := by decide +kernel
theorem d_M_init_56 : decode b_M_init 56 = .ok (.newarray .int, 2) := by decide +kernel
theorem d_M_init_58 : decode b_M_init 58 = .ok (.putfield 31, 3) := by decide +kernel
theorem d_M_init_61 : decode b_M_init 61 = .ok (.aload_n 0, 1) := by decide +kernel
theorem d_M_init_62 : decode b_M_init 62 = .ok (.bipush 15, 2) := by decide +kernel
theorem d_M_init_64 : decode b_M_init 64 = .ok (.newarray .int, 2) := by decide +kernel
theorem d_M_init_66 : decode b_M_init 66 = .ok (.putfield 34, 3) := by decide +kernel
theorem d_M_init_69 : decode b_M_init 69 = .ok (.aload_n 0, 1) := by decide +kernel
theorem d_M_init_70 : decode b_M_init 70 = .ok (.bipush 25, 2) := by decide +kernel
theorem d_M_init_72 : decode b_M_init 72 = .ok (.newarray .boolean, 2) := by decide +kernel
theorem d_M_init_74 : decode b_M_init 74 = .ok (.putfield 37, 3) := by decide +kernel
theorem d_M_init_77 : decode b_M_init 77 = .ok (.aload_n 0, 1) := by decide +kernel
theorem d_M_init_78 : decode b_M_init 78 = .ok (.bipush 25, 2) := by decide +kernel
theorem d_M_init_80 : decode b_M_init 80 = .ok (.newarray .int, 2) := by decide +kernel
theorem d_M_init_82 : decode b_M_init 82 = .ok (.putfield 41, 3) := by decide +kernel
theorem d_M_init_85 : decode b_M_init 85 = .ok (.aload_n 0, 1) := by decide +kernel
theorem d_M_init_86 : decode b_M_init 86 = .ok (.bipush 25, 2) := by decide +kernel
theorem d_M_init_88 : decode b_M_init 88 = .ok (.newarray .int, 2) := by decide +kernel
theorem d_M_init_90 : decode b_M_init 90 = .ok (.putfield 44, 3) := by decide +kernel
theorem d_M_init_93 : decode b_M_init 93 = .ok (.aload_n 0, 1) := by decide +kernel
theorem d_M_init_94 : decode b_M_init 94 = .ok (.bipush 25, 2) := by decide +kernel
theorem d_M_init_96 : decode b_M_init 96 = .ok (.newarray .int, 2) := by decide +kernel
theorem d_M_init_98 : decode b_M_init 98 = .ok (.putfield 47, 3) := by decide +kernel
theorem d_M_init_101 : decode b_M_init 101 = .ok (.aload_n 0, 1) := by decide +kernel
theorem d_M_init_102 : decode b_M_init 102 = .ok (.bipush 25, 2) := by decide +kernel
theorem d_M_init_104 : decode b_M_init 104 = .ok (.newarray .int, 2) := by decide +kernel
theorem d_M_init_106 : decode b_M_init 106 = .ok (.putfield 50, 3) := by decide +kernel
theorem d_M_init_109 : decode b_M_init 109 = .ok (.aload_n 0, 1) := by decide +kernel
theorem d_M_init_110 : decode b_M_init 110 = .ok (.bipush 25, 2) := by decide +kernel
theorem d_M_init_112 : decode b_M_init 112 = .ok (.newarray .int, 2) := by decide +kernel
theorem d_M_init_114 : decode b_M_init 114 = .ok (.putfield 53, 3) := by decide +kernel
theorem d_M_init_117 : decode b_M_init 117 = .ok (.aload_n 0, 1) := by decide +kernel
theorem d_M_init_118 : decode b_M_init 118 = .ok (.bipush 25, 2) := by decide +kernel
theorem d_M_init_120 : decode b_M_init 120 = .ok (.newarray .int, 2) := by decide +kernel
theorem d_M_init_122 : decode b_M_init 122 = .ok (.putfield 56, 3) := by decide +kernel
theorem d_M_init_125 : decode b_M_init 125 = .ok (.aload_n 0, 1) := by decide +kernel
theorem d_M_init_126 : decode b_M_init 126 = .ok (.bipush 25, 2) := by decide +kernel
theorem d_M_init_128 : decode b_M_init 128 = .ok (.newarray .int, 2) := by decide +kernel
theorem d_M_init_130 : decode b_M_init 130 = .ok (.putfield 59, 3) := by decide +kernel
theorem d_M_init_133 : decode b_M_init 133 = .ok (.aload_n 0, 1) := by decide +kernel
theorem d_M_init_134 : decode b_M_init 134 = .ok (.bipush 25, 2) := by decide +kernel
theorem d_M_init_136 : decode b_M_init 136 = .ok (.newarray .int, 2) := by decide +kernel
theorem d_M_init_138 : decode b_M_init 138 = .ok (.putfield 62, 3) := by decide +kernel
theorem d_M_init_141 : decode b_M_init 141 = .ok (.aload_n 0, 1) := by decide +kernel
theorem d_M_init_142 : decode b_M_init 142 = .ok (.bipush 25, 2) := by decide +kernel
theorem d_M_init_144 : decode b_M_init 144 = .ok (.newarray .int, 2) := by decide +kernel
theorem d_M_init_146 : decode b_M_init 146 = .ok (.putfield 65, 3) := by decide +kernel
theorem d_M_init_149 : decode b_M_init 149 = .ok (.aload_n 0, 1) := by decide +kernel
theorem d_M_init_150 : decode b_M_init 150 = .ok (.bipush 25, 2) := by decide +kernel
theorem d_M_init_152 : decode b_M_init 152 = .ok (.newarray .int, 2) := by decide +kernel
theorem d_M_init_154 : decode b_M_init 154 = .ok (.putfield 68, 3) := by decide +kernel
theorem d_M_init_157 : decode b_M_init 157 = .ok (.aload_n 0, 1) := by decide +kernel
theorem d_M_init_158 : decode b_M_init 158 = .ok (.bipush 25, 2) := by decide +kernel
theorem d_M_init_160 : decode b_M_init 160 = .ok (.newarray .int, 2) := by decide +kernel
theorem d_M_init_162 : decode b_M_init 162 = .ok (.putfield 71, 3) := by decide +kernel
theorem d_M_init_165 : decode b_M_init 165 = .ok (.aload_n 0, 1) := by decide +kernel
theorem d_M_init_166 : decode b_M_init 166 = .ok (.bipush 25, 2) := by decide +kernel
theorem d_M_init_168 : decode b_M_init 168 = .ok (.newarray .int, 2) := by decide +kernel
theorem d_M_init_170 : decode b_M_init 170 = .ok (.putfield 74, 3) := by decide +kernel
theorem d_M_init_173 : decode b_M_init 173 = .ok (.aload_n 0, 1) := by decide +kernel
theorem d_M_init_174 : decode b_M_init 174 = .ok (.bipush 25, 2) := by decide +kernel
theorem d_M_init_176 : decode b_M_init 176 = .ok (.newarray .boolean, 2) := by decide +kernel
theorem d_M_init_178 : decode b_M_init 178 = .ok (.putfield 77, 3) := by decide +kernel
theorem d_M_init_181 : decode b_M_init 181 = .ok (.aload_n 0, 1) := by decide +kernel
theorem d_M_init_182 : decode b_M_init 182 = .ok (.bipush 25, 2) := by decide +kernel
theorem d_M_init_184 : decode b_M_init 184 = .ok (.newarray .int, 2) := by decide +kernel
theorem d_M_init_186 : decode b_M_init 186 = .ok (.putfield 80, 3) := by decide +kernel
theorem d_M_init_189 : decode b_M_init 189 = .ok (.aload_n 0, 1) := by decide +kernel
theorem d_M_init_190 : decode b_M_init 190 = .ok (.bipush 25, 2) := by decide +kernel
theorem d_M_init_192 : decode b_M_init 192 = .ok (.newarray .int, 2) := by decide +kernel
theorem d_M_init_194 : decode b_M_init 194 = .ok (.putfield 83, 3) := by decide +kernel
theorem d_M_init_197 : decode b_M_init 197 = .ok (.aload_n 0, 1) := by decide +kernel
theorem d_M_init_198 : decode b_M_init 198 = .ok (.bipush 25, 2) := by decide +kernel
theorem d_M_init_200 : decode b_M_init 200 = .ok (.newarray .int, 2) := by decide +kernel
theorem d_M_init_202 : decode b_M_init 202 = .ok (.putfield 86, 3) := by decide +kernel
theorem d_M_init_205 : decode b_M_init 205 = .ok (.aload_n 0, 1) := by decide +kernel
theorem d_M_init_206 : decode b_M_init 206 = .ok (.bipush 60, 2) := by decide +kernel
theorem d_M_init_208 : decode b_M_init 208 = .ok (.newarray .int, 2) := by decide +kernel
theorem d_M_init_210 : decode b_M_init 210 = .ok (.putfield 89, 3) := by decide +kernel
theorem d_M_init_213 : decode b_M_init 213 = .ok (.aload_n 0, 1) := by decide +kernel
theorem d_M_init_214 : decode b_M_init 214 = .ok (.bipush 60, 2) := by decide +kernel
theorem d_M_init_216 : decode b_M_init 216 = .ok (.newarray .int, 2) := by decide +kernel
theorem d_M_init_218 : decode b_M_init 218 = .ok (.putfield 92, 3) := by decide +kernel
theorem d_M_init_221 : decode b_M_init 221 = .ok (.aload_n 0, 1) := by decide +kernel
theorem d_M_init_222 : decode b_M_init 222 = .ok (.bipush 60, 2) := by decide +kernel
theorem d_M_init_224 : decode b_M_init 224 = .ok (.newarray .int, 2) := by decide +kernel
theorem d_M_init_226 : decode b_M_init 226 = .ok (.putfield 95, 3) := by decide +kernel
theorem d_M_init_229 : decode b_M_init 229 = .ok (.aload_n 0, 1) := by decide +kernel
theorem d_M_init_230 : decode b_M_init 230 = .ok (.bipush 60, 2) := by decide +kernel
theorem d_M_init_232 : decode b_M_init 232 = .ok (.newarray .int, 2) := by decide +kernel
theorem d_M_init_234 : decode b_M_init 234 = .ok (.putfield 98, 3) := by decide +kernel
theorem d_M_init_237 : decode b_M_init 237 = .ok (.aload_n 0, 1) := by decide +kernel
theorem d_M_init_238 : decode b_M_init 238 = .ok (.bipush 60, 2) := by decide +kernel
theorem d_M_init_240 : decode b_M_init 240 = .ok (.newarray .int, 2) := by decide +kernel
theorem d_M_init_242 : decode b_M_init 242 = .ok (.putfield 101, 3) := by decide +kernel
theorem d_M_init_245 : decode b_M_init 245 = .ok (.aload_n 0, 1) := by decide +kernel
theorem d_M_init_246 : decode b_M_init 246 = .ok (.bipush 60, 2) := by decide +kernel
theorem d_M_init_248 : decode b_M_init 248 = .ok (.newarray .int, 2) := by decide +kernel
theorem d_M_init_250 : decode b_M_init 250 = .ok (.putfield 104, 3) := by decide +kernel
theorem d_M_init_253 : decode b_M_init 253 = .ok (.aload_n 0, 1) := by decide +kernel
theorem d_M_init_254 : decode b_M_init 254 = .ok (.bipush 60, 2) := by decide +kernel
theorem d_M_init_256 : decode b_M_init 256 = .ok (.newarray .int, 2) := by decide +kernel
theorem d_M_init_258 : decode b_M_init 258 = .ok (.putfield 107, 3) := by decide +kernel
theorem d_M_init_261 : decode b_M_init 261 = .ok (.aload_n 0, 1) := by decide +kernel
theorem d_M_init_262 : decode b_M_init 262 = .ok (.sipush 2400, 3) := by decide +kernel
theorem d_M_init_265 : decode b_M_init 265 = .ok (.newarray .int, 2) := by decide +kernel
theorem d_M_init_267 : decode b_M_init 267 = .ok (.putfield 110, 3) := by decide +kernel
theorem d_M_init_270 : decode b_M_init 270 = .ok (.aload_n 0, 1) := by decide +kernel
theorem d_M_init_271 : decode b_M_init 271 = .ok (.bipush 40, 2) := by decide +kernel
theorem d_M_init_273 : decode b_M_init 273 = .ok (.newarray .int, 2) := by decide +kernel
theorem d_M_init_275 : decode b_M_init 275 = .ok (.putfield 113, 3) := by decide +kernel
theorem d_M_init_278 : decode b_M_init 278 = .ok (.aload_n 0, 1) := by decide +kernel
theorem d_M_init_279 : decode b_M_init 279 = .ok (.bipush 40, 2) := by decide +kernel
theorem d_M_init_281 : decode b_M_init 281 = .ok (.newarray .int, 2) := by decide +kernel
theorem d_M_init_283 : decode b_M_init 283 = .ok (.putfield 116, 3) := by decide +kernel
theorem d_M_init_286 : decode b_M_init 286 = .ok (.aload_n 0, 1) := by decide +kernel
theorem d_M_init_287 : decode b_M_init 287 = .ok (.bipush 40, 2) := by decide +kernel
theorem d_M_init_289 : decode b_M_init 289 = .ok (.newarray .int, 2) := by decide +kernel
theorem d_M_init_291 : decode b_M_init 291 = .ok (.putfield 119, 3) := by decide +kernel
theorem d_M_init_294 : decode b_M_init 294 = .ok (.iconst 0, 1) := by decide +kernel
theorem d_M_init_295 : decode b_M_init 295 = .ok (.istore_n 1, 1) := by decide +kernel
theorem d_M_init_296 : decode b_M_init 296 = .ok (.iload_n 1, 1) := by decide +kernel
theorem d_M_init_297 : decode b_M_init 297 = .ok (.iconst 5, 1) := by decide +kernel
theorem d_M_init_298 : decode b_M_init 298 = .ok (.if_icmp .ge 98, 3) := by decide +kernel
theorem d_M_init_301 : decode b_M_init 301 = .ok (.aload_n 0, 1) := by decide +kernel
theorem d_M_init_302 : decode b_M_init 302 = .ok (.getfield 7, 3) := by decide +kernel
theorem d_M_init_305 : decode b_M_init 305 = .ok (.bipush 10, 2) := by decide +kernel
theorem d_M_init_307 : decode b_M_init 307 = .ok (.iload_n 1, 1) := by decide +kernel
theorem d_M_init_308 : decode b_M_init 308 = .ok (.imul, 1) := by decide +kernel
theorem d_M_init_309 : decode b_M_init 309 = .ok (.bipush 100, 2) := by decide +kernel
theorem d_M_init_311 : decode b_M_init 311 = .ok (.iastore, 1) := by decide +kernel
theorem d_M_init_312 : decode b_M_init 312 = .ok (.aload_n 0, 1) := by decide +kernel
theorem d_M_init_313 : decode b_M_init 313 = .ok (.getfield 7, 3) := by decide +kernel
theorem d_M_init_316 : decode b_M_init 316 = .ok (.bipush 10, 2) := by decide +kernel
theorem d_M_init_318 : decode b_M_init 318 = .ok (.iload_n 1, 1) := by decide +kernel
theorem d_M_init_319 : decode b_M_init 319 = .ok (.imul, 1) := by decide +kernel
theorem d_M_init_320 : decode b_M_init 320 = .ok (.iconst 1, 1) := by decide +kernel
theorem d_M_init_321 : decode b_M_init 321 = .ok (.iadd, 1) := by decide +kernel
theorem d_M_init_322 : decode b_M_init 322 = .ok (.bipush 100, 2) := by decide +kernel
theorem d_M_init_324 : decode b_M_init 324 = .ok (.iastore, 1) := by decide +kernel
theorem d_M_init_325 : decode b_M_init 325 = .ok (.aload_n 0, 1) := by decide +kernel
theorem d_M_init_326 : decode b_M_init 326 = .ok (.getfield 7, 3) := by decide +kernel
theorem d_M_init_329 : decode b_M_init 329 = .ok (.bipush 10, 2) := by decide +kernel
theorem d_M_init_331 : decode b_M_init 331 = .ok (.iload_n 1, 1) := by decide +kernel
theorem d_M_init_332 : decode b_M_init 332 = .ok (.imul, 1) := by decide +kernel
theorem d_M_init_333 : decode b_M_init 333 = .ok (.iconst 2, 1) := by decide +kernel
theorem d_M_init_334 : decode b_M_init 334 = .ok (.iadd, 1) := by decide +kernel
theorem d_M_init_335 : decode b_M_init 335 = .ok (.iconst 1, 1) := by decide +kernel
theorem d_M_init_336 : decode b_M_init 336 = .ok (.iastore, 1) := by decide +kernel
theorem d_M_init_337 : decode b_M_init 337 = .ok (.aload_n 0, 1) := by decide +kernel
theorem d_M_init_338 : decode b_M_init 338 = .ok (.getfield 7, 3) := by decide +kernel
theorem d_M_init_341 : decode b_M_init 341 = .ok (.bipush 10, 2) := by decide +kernel
theorem d_M_init_343 : decode b_M_init 343 = .ok (.iload_n 1, 1) := by decide +kernel
theorem d_M_init_344 : decode b_M_init 344 = .ok (.imul, 1) := by decide +kernel
theorem d_M_init_345 : decode b_M_init 345 = .ok (.iconst 3, 1) := by decide +kernel
theorem d_M_init_346 : decode b_M_init 346 = .ok (.iadd, 1) := by decide +kernel
theorem d_M_init_347 : decode b_M_init 347 = .ok (.iconst 1, 1) := by decide +kernel
theorem d_M_init_348 : decode b_M_init 348 = .ok (.iastore, 1) := by decide +kernel
theorem d_M_init_349 : decode b_M_init 349 = .ok (.aload_n 0, 1) := by decide +kernel
theorem d_M_init_350 : decode b_M_init 350 = .ok (.getfield 7, 3) := by decide +kernel
theorem d_M_init_353 : decode b_M_init 353 = .ok (.bipush 10, 2) := by decide +kernel
theorem d_M_init_355 : decode b_M_init 355 = .ok (.iload_n 1, 1) := by decide +kernel
theorem d_M_init_356 : decode b_M_init 356 = .ok (.imul, 1) := by decide +kernel
theorem d_M_init_357 : decode b_M_init 357 = .ok (.iconst 4, 1) := by decide +kernel
theorem d_M_init_358 : decode b_M_init 358 = .ok (.iadd, 1) := by decide +kernel
theorem d_M_init_359 : decode b_M_init 359 = .ok (.ldc 122, 2) := by decide +kernel
theorem d_M_init_361 : decode b_M_init 361 = .ok (.iload_n 1, 1) := by decide +kernel
theorem d_M_init_362 : decode b_M_init 362 = .ok (.iadd, 1) := by decide +kernel
theorem d_M_init_363 : decode b_M_init 363 = .ok (.iastore, 1) := by decide +kernel
theorem d_M_init_364 : decode b_M_init 364 = .ok (.aload_n 0, 1) := by decide +kernel
theorem d_M_init_365 : decode b_M_init 365 = .ok (.getfield 7, 3) := by decide +kernel
theorem d_M_init_368 : decode b_M_init 368 = .ok (.bipush 10, 2) := by decide +kernel
theorem d_M_init_370 : decode b_M_init 370 = .ok (.iload_n 1, 1) := by decide +kernel
theorem d_M_init_371 : decode b_M_init 371 = .ok (.imul, 1) := by decide +kernel
theorem d_M_init_372 : decode b_M_init 372 = .ok (.iconst 5, 1) := by decide +kernel
theorem d_M_init_373 : decode b_M_init 373 = .ok (.iadd, 1) := by decide +kernel
theorem d_M_init_374 : decode b_M_init 374 = .ok (.ldc 123, 2) := by decide +kernel
theorem d_M_init_376 : decode b_M_init 376 = .ok (.iastore, 1) := by decide +kernel
theorem d_M_init_377 : decode b_M_init 377 = .ok (.aload_n 0, 1) := by decide +kernel
theorem d_M_init_378 : decode b_M_init 378 = .ok (.getfield 7, 3) := by decide +kernel
theorem d_M_init_381 : decode b_M_init 381 = .ok (.bipush 10, 2) := by decide +kernel
theorem d_M_init_383 : decode b_M_init 383 = .ok (.iload_n 1, 1) := by decide +kernel
theorem d_M_init_384 : decode b_M_init 384 = .ok (.imul, 1) := by decide +kernel
theorem d_M_init_385 : decode b_M_init 385 = .ok (.bipush 6, 2) := by decide +kernel
theorem d_M_init_387 : decode b_M_init 387 = .ok (.iadd, 1) := by decide +kernel
theorem d_M_init_388 : decode b_M_init 388 = .ok (.iconst 1, 1) := by decide +kernel
theorem d_M_init_389 : decode b_M_init 389 = .ok (.iastore, 1) := by decide +kernel
theorem d_M_init_390 : decode b_M_init 390 = .ok (.iinc 1 1, 3) := by decide +kernel
theorem d_M_init_393 : decode b_M_init 393 = .ok (.goto (-97), 3) := by decide +kernel
theorem d_M_init_396 : decode b_M_init 396 = .ok (.iconst 0, 1) := by decide +kernel
theorem d_M_init_397 : decode b_M_init 397 = .ok (.istore_n 1, 1) := by decide +kernel
theorem d_M_init_398 : decode b_M_init 398 = .ok (.iload_n 1, 1) := by decide +kernel
theorem d_M_init_399 : decode b_M_init 399 = .ok (.bipush 15, 2) := by decide +kernel
theorem d_M_init_401 : decode b_M_init 401 = .ok (.if_icmp .ge 16, 3) := by decide +kernel
theorem d_M_init_404 : decode b_M_init 404 = .ok (.aload_n 0, 1) := by decide +kernel
theorem d_M_init_405 : decode b_M_init 405 = .ok (.getfield 34, 3) := by decide +kernel
theorem d_M_init_408 : decode b_M_init 408 = .ok (.iload_n 1, 1) := by decide +kernel
theorem d_M_init_409 : decode b_M_init 409 = .ok (.iconst (-1), 1) := by decide +kernel
theorem d_M_init_410 : decode b_M_init 410 = .ok (.iastore, 1) := by decide +kernel
theorem d_M_init_411 : decode b_M_init 411 = .ok (.iinc 1 1, 3) := by decide +kernel
theorem d_M_init_414 : decode b_M_init 414 = .ok (.goto (-16), 3) := by decide +kernel
theorem d_M_init_417 : decode b_M_init 417 = .ok (.return_, 1) := by decide +kernel
theorem d_M_raise_0 : decode b_M_raise 0 = .ok (.aload_n 0, 1) := by decide +kernel
theorem d_M_raise_1 : decode b_M_raise 1 = .ok (.iload_n 1, 1) := by decide +kernel
theorem d_M_raise_2 : decode b_M_raise 2 = .ok (.putfield 124, 3) := by decide +kernel
theorem d_M_raise_5 : decode b_M_raise 5 = .ok (.iconst 0, 1) := by decide +kernel
theorem d_M_raise_6 : decode b_M_raise 6 = .ok (.ireturn, 1) := by decide +kernel
theorem d_M_isRouter_0 : decode b_M_isRouter 0 = .ok (.iload_n 0, 1) := by decide +kernel
theorem d_M_isRouter_1 : decode b_M_isRouter 1 = .ok (.ifCond .lt 12, 3) := by decide +kernel
theorem d_M_isRouter_4 : decode b_M_isRouter 4 = .ok (.iload_n 0, 1) := by decide +kernel
theorem d_M_isRouter_5 : decode b_M_isRouter 5 = .ok (.iconst 5, 1) := by decide +kernel
theorem d_M_isRouter_6 : decode b_M_isRouter 6 = .ok (.if_icmp .ge 7, 3) := by decide +kernel
theorem d_M_isRouter_9 : decode b_M_isRouter 9 = .ok (.iconst 1, 1) := by decide +kernel
theorem d_M_isRouter_10 : decode b_M_isRouter 10 = .ok (.goto 4, 3) := by decide +kernel
theorem d_M_isRouter_13 : decode b_M_isRouter 13 = .ok (.iconst 0, 1) := by decide +kernel
theorem d_M_isRouter_14 : decode b_M_isRouter 14 = .ok (.ireturn, 1) := by decide +kernel
theorem d_M_is_0 : decode b_M_is 0 = .ok (.aload_n 0, 1) := by decide +kernel
theorem d_M_is_1 : decode b_M_is 1 = .ok (.getfield 7, 3) := by decide +kernel
theorem d_M_is_4 : decode b_M_is 4 = .ok (.bipush 10, 2) := by decide +kernel
theorem d_M_is_6 : decode b_M_is 6 = .ok (.iload_n 1, 1) := by decide +kernel
theorem d_M_is_7 : decode b_M_is 7 = .ok (.imul, 1) := by decide +kernel
theorem d_M_is_8 : decode b_M_is 8 = .ok (.iload_n 2, 1) := by decide +kernel
theorem d_M_is_9 : decode b_M_is 9 = .ok (.iadd, 1) := by decide +kernel
theorem d_M_is_10 : decode b_M_is 10 = .ok (.iaload, 1) := by decide +kernel
theorem d_M_is_11 : decode b_M_is 11 = .ok (.ireturn, 1) := by decide +kernel
theorem d_M_fits_0 : decode b_M_fits 0 = .ok (.iload_n 0, 1) := by decide +kernel
theorem d_M_fits_1 : decode b_M_fits 1 = .ok (.tableswitch 189 0 9 #[55, 73, 91, 106, 189, 189, 124, 141, 156, 173], 55) := by decide +kernel
theorem d_M_fits_56 : decode b_M_fits 56 = .ok (.iload_n 1, 1) := by decide +kernel
theorem d_M_fits_57 : decode b_M_fits 57 = .ok (.iconst 1, 1) := by decide +kernel
theorem d_M_fits_58 : decode b_M_fits 58 = .ok (.if_icmp .lt 14, 3) := by decide +kernel
theorem d_M_fits_61 : decode b_M_fits 61 = .ok (.iload_n 1, 1) := by decide +kernel
theorem d_M_fits_62 : decode b_M_fits 62 = .ok (.sipush 255, 3) := by decide +kernel
theorem d_M_fits_65 : decode b_M_fits 65 = .ok (.if_icmp .gt 7, 3) := by decide +kernel
theorem d_M_fits_68 : decode b_M_fits 68 = .ok (.iconst 1, 1) := by decide +kernel
theorem d_M_fits_69 : decode b_M_fits 69 = .ok (.goto 4, 3) := by decide +kernel
theorem d_M_fits_72 : decode b_M_fits 72 = .ok (.iconst 0, 1) := by decide +kernel
theorem d_M_fits_73 : decode b_M_fits 73 = .ok (.ireturn, 1) := by decide +kernel
theorem d_M_fits_74 : decode b_M_fits 74 = .ok (.iload_n 1, 1) := by decide +kernel
theorem d_M_fits_75 : decode b_M_fits 75 = .ok (.iconst 1, 1) := by decide +kernel
theorem d_M_fits_76 : decode b_M_fits 76 = .ok (.if_icmp .lt 14, 3) := by decide +kernel
theorem d_M_fits_79 : decode b_M_fits 79 = .ok (.iload_n 1, 1) := by decide +kernel
theorem d_M_fits_80 : decode b_M_fits 80 = .ok (.sipush 4095, 3) := by decide +kernel
theorem d_M_fits_83 : decode b_M_fits 83 = .ok (.if_icmp .gt 7, 3) := by decide +kernel
theorem d_M_fits_86 : decode b_M_fits 86 = .ok (.iconst 1, 1) := by decide +kernel
theorem d_M_fits_87 : decode b_M_fits 87 = .ok (.goto 4, 3) := by decide +kernel
theorem d_M_fits_90 : decode b_M_fits 90 = .ok (.iconst 0, 1) := by decide +kernel
theorem d_M_fits_91 : decode b_M_fits 91 = .ok (.ireturn, 1) := by decide +kernel
theorem d_M_fits_92 : decode b_M_fits 92 = .ok (.iload_n 1, 1) := by decide +kernel
theorem d_M_fits_93 : decode b_M_fits 93 = .ok (.ifCond .eq 8, 3) := by decide +kernel
theorem d_M_fits_96 : decode b_M_fits 96 = .ok (.iload_n 1, 1) := by decide +kernel
theorem d_M_fits_97 : decode b_M_fits 97 = .ok (.iconst 1, 1) := by decide +kernel
theorem d_M_fits_98 : decode b_M_fits 98 = .ok (.if_icmp .ne 7, 3) := by decide +kernel
theorem d_M_fits_101 : decode b_M_fits 101 = .ok (.iconst 1, 1) := by decide +kernel
theorem d_M_fits_102 : decode b_M_fits 102 = .ok (.goto 4, 3) := by decide +kernel
theorem d_M_fits_105 : decode b_M_fits 105 = .ok (.iconst 0, 1) := by decide +kernel
theorem d_M_fits_106 : decode b_M_fits 106 = .ok (.ireturn, 1) := by decide +kernel
theorem d_M_fits_107 : decode b_M_fits 107 = .ok (.iload_n 1, 1) := by decide +kernel
theorem d_M_fits_108 : decode b_M_fits 108 = .ok (.iconst 1, 1) := by decide +kernel
theorem d_M_fits_109 : decode b_M_fits 109 = .ok (.if_icmp .lt 14, 3) := by decide +kernel
theorem d_M_fits_112 : decode b_M_fits 112 = .ok (.iload_n 1, 1) := by decide +kernel
theorem d_M_fits_113 : decode b_M_fits 113 = .ok (.sipush 255, 3) := by decide +kernel
theorem d_M_fits_116 : decode b_M_fits 116 = .ok (.if_icmp .gt 7, 3) := by decide +kernel
theorem d_M_fits_119 : decode b_M_fits 119 = .ok (.iconst 1, 1) := by decide +kernel
theorem d_M_fits_120 : decode b_M_fits 120 = .ok (.goto 4, 3) := by decide +kernel
theorem d_M_fits_123 : decode b_M_fits 123 = .ok (.iconst 0, 1) := by decide +kernel
theorem d_M_fits_124 : decode b_M_fits 124 = .ok (.ireturn, 1) := by decide +kernel
theorem d_M_fits_125 : decode b_M_fits 125 = .ok (.iload_n 1, 1) := by decide +kernel
theorem d_M_fits_126 : decode b_M_fits 126 = .ok (.iconst 1, 1) := by decide +kernel
theorem d_M_fits_127 : decode b_M_fits 127 = .ok (.if_icmp .lt 13, 3) := by decide +kernel
theorem d_M_fits_130 : decode b_M_fits 130 = .ok (.iload_n 1, 1) := by decide +kernel
theorem d_M_fits_131 : decode b_M_fits 131 = .ok (.bipush 50, 2) := by decide +kernel
theorem d_M_fits_133 : decode b_M_fits 133 = .ok (.if_icmp .gt 7, 3) := by decide +kernel
theorem d_M_fits_136 : decode b_M_fits 136 = .ok (.iconst 1, 1) := by decide +kernel
theorem d_M_fits_137 : decode b_M_fits 137 = .ok (.goto 4, 3) := by decide +kernel
theorem d_M_fits_140 : decode b_M_fits 140 = .ok (.iconst 0, 1) := by decide +kernel
theorem d_M_fits_141 : decode b_M_fits 141 = .ok (.ireturn, 1) := by decide +kernel
theorem d_M_fits_142 : decode b_M_fits 142 = .ok (.iload_n 1, 1) := by decide +kernel
theorem d_M_fits_143 : decode b_M_fits 143 = .ok (.ifCond .lt 12, 3) := by decide +kernel
theorem d_M_fits_146 : decode b_M_fits 146 = .ok (.iload_n 1, 1) := by decide +kernel
theorem d_M_fits_147 : decode b_M_fits 147 = .ok (.iconst 3, 1) := by decide +kernel
theorem d_M_fits_148 : decode b_M_fits 148 = .ok (.if_icmp .gt 7, 3) := by decide +kernel
theorem d_M_fits_151 : decode b_M_fits 151 = .ok (.iconst 1, 1) := by decide +kernel
theorem d_M_fits_152 : decode b_M_fits 152 = .ok (.goto 4, 3) := by decide +kernel
theorem d_M_fits_155 : decode b_M_fits 155 = .ok (.iconst 0, 1) := by decide +kernel
theorem d_M_fits_156 : decode b_M_fits 156 = .ok (.ireturn, 1) := by decide +kernel
theorem d_M_fits_157 : decode b_M_fits 157 = .ok (.iload_n 1, 1) := by decide +kernel
theorem d_M_fits_158 : decode b_M_fits 158 = .ok (.ifCond .lt 14, 3) := by decide +kernel
theorem d_M_fits_161 : decode b_M_fits 161 = .ok (.iload_n 1, 1) := by decide +kernel
theorem d_M_fits_162 : decode b_M_fits 162 = .ok (.sipush 254, 3) := by decide +kernel
theorem d_M_fits_165 : decode b_M_fits 165 = .ok (.if_icmp .gt 7, 3) := by decide +kernel
theorem d_M_fits_168 : decode b_M_fits 168 = .ok (.iconst 1, 1) := by decide +kernel
theorem d_M_fits_169 : decode b_M_fits 169 = .ok (.goto 4, 3) := by decide +kernel
theorem d_M_fits_172 : decode b_M_fits 172 = .ok (.iconst 0, 1) := by decide +kernel
theorem d_M_fits_173 : decode b_M_fits 173 = .ok (.ireturn, 1) := by decide +kernel
theorem d_M_fits_174 : decode b_M_fits 174 = .ok (.iload_n 1, 1) := by decide +kernel
theorem d_M_fits_175 : decode b_M_fits 175 = .ok (.ifCond .lt 13, 3) := by decide +kernel
theorem d_M_fits_178 : decode b_M_fits 178 = .ok (.iload_n 1, 1) := by decide +kernel
theorem d_M_fits_179 : decode b_M_fits 179 = .ok (.bipush 31, 2) := by decide +kernel
theorem d_M_fits_181 : decode b_M_fits 181 = .ok (.if_icmp .gt 7, 3) := by decide +kernel
theorem d_M_fits_184 : decode b_M_fits 184 = .ok (.iconst 1, 1) := by decide +kernel
theorem d_M_fits_185 : decode b_M_fits 185 = .ok (.goto 4, 3) := by decide +kernel
theorem d_M_fits_188 : decode b_M_fits 188 = .ok (.iconst 0, 1) := by decide +kernel
theorem d_M_fits_189 : decode b_M_fits 189 = .ok (.ireturn, 1) := by decide +kernel
theorem d_M_fits_190 : decode b_M_fits 190 = .ok (.iconst 1, 1) := by decide +kernel
theorem d_M_fits_191 : decode b_M_fits 191 = .ok (.ireturn, 1) := by decide +kernel
theorem d_M_set_0 : decode b_M_set 0 = .ok (.aload_n 0, 1) := by decide +kernel
theorem d_M_set_1 : decode b_M_set 1 = .ok (.iload_n 1, 1) := by decide +kernel
theorem d_M_set_2 : decode b_M_set 2 = .ok (.invokestatic 128, 3) := by decide +kernel
theorem d_M_set_5 : decode b_M_set 5 = .ok (.ifCond .eq 13, 3) := by decide +kernel
theorem d_M_set_8 : decode b_M_set 8 = .ok (.iload_n 2, 1) := by decide +kernel
theorem d_M_set_9 : decode b_M_set 9 = .ok (.ifCond .lt 9, 3) := by decide +kernel
theorem d_M_set_12 : decode b_M_set 12 = .ok (.iload_n 2, 1) := by decide +kernel
theorem d_M_set_13 : decode b_M_set 13 = .ok (.bipush 9, 2) := by decide +kernel
theorem d_M_set_15 : decode b_M_set 15 = .ok (.if_icmp .le 7, 3) := by decide +kernel
theorem d_M_set_18 : decode b_M_set 18 = .ok (.iconst 1, 1) := by decide +kernel
theorem d_M_set_19 : decode b_M_set 19 = .ok (.goto 16, 3) := by decide +kernel
theorem d_M_set_22 : decode b_M_set 22 = .ok (.iload_n 2, 1) := by decide +kernel
theorem d_M_set_23 : decode b_M_set 23 = .ok (.iload_n 3, 1) := by decide +kernel
theorem d_M_set_24 : decode b_M_set 24 = .ok (.invokestatic 132, 3) := by decide +kernel
theorem d_M_set_27 : decode b_M_set 27 = .ok (.ifCond .ne 7, 3) := by decide +kernel
theorem d_M_set_30 : decode b_M_set 30 = .ok (.iconst 2, 1) := by decide +kernel
theorem d_M_set_31 : decode b_M_set 31 = .ok (.goto 4, 3) := by decide +kernel
theorem d_M_set_34 : decode b_M_set 34 = .ok (.iconst 0, 1) := by decide +kernel
theorem d_M_set_35 : decode b_M_set 35 = .ok (.putfield 124, 3) := by decide +kernel
theorem d_M_set_38 : decode b_M_set 38 = .ok (.aload_n 0, 1) := by decide +kernel
theorem d_M_set_39 : decode b_M_set 39 = .ok (.getfield 124, 3) := by decide +kernel
theorem d_M_set_42 : decode b_M_set 42 = .ok (.ifCond .ne 15, 3) := by decide +kernel
theorem d_M_set_45 : decode b_M_set 45 = .ok (.aload_n 0, 1) := by decide +kernel
theorem d_M_set_46 : decode b_M_set 46 = .ok (.getfield 7, 3) := by decide +kernel
theorem d_M_set_49 : decode b_M_set 49 = .ok (.bipush 10, 2) := by decide +kernel
theorem d_M_set_51 : decode b_M_set 51 = .ok (.iload_n 1, 1) := by decide +kernel
theorem d_M_set_52 : decode b_M_set 52 = .ok (.imul, 1) := by decide +kernel
theorem d_M_set_53 : decode b_M_set 53 = .ok (.iload_n 2, 1) := by decide +kernel
theorem d_M_set_54 : decode b_M_set 54 = .ok (.iadd, 1) := by decide +kernel
theorem d_M_set_55 : decode b_M_set 55 = .ok (.iload_n 3, 1) := by decide +kernel
theorem d_M_set_56 : decode b_M_set 56 = .ok (.iastore, 1) := by decide +kernel
theorem d_M_set_57 : decode b_M_set 57 = .ok (.return_, 1) := by decide +kernel
theorem d_M_put_0 : decode b_M_put 0 = .ok (.aload_n 0, 1) := by decide +kernel
theorem d_M_put_1 : decode b_M_put 1 = .ok (.getfield 113, 3) := by decide +kernel
theorem d_M_put_4 : decode b_M_put 4 = .ok (.aload_n 0, 1) := by decide +kernel
theorem d_M_put_5 : decode b_M_put 5 = .ok (.getfield 136, 3) := by decide +kernel
theorem d_M_put_8 : decode b_M_put 8 = .ok (.iload_n 1, 1) := by decide +kernel
theorem d_M_put_9 : decode b_M_put 9 = .ok (.sipush 255, 3) := by decide +kernel
theorem d_M_put_12 : decode b_M_put 12 = .ok (.iand, 1) := by decide +kernel
theorem d_M_put_13 : decode b_M_put 13 = .ok (.iastore, 1) := by decide +kernel
theorem d_M_put_14 : decode b_M_put 14 = .ok (.aload_n 0, 1) := by decide +kernel
theorem d_M_put_15 : decode b_M_put 15 = .ok (.dup, 1) := by decide +kernel
theorem d_M_put_16 : decode b_M_put 16 = .ok (.getfield 136, 3) := by decide +kernel
theorem d_M_put_19 : decode b_M_put 19 = .ok (.iconst 1, 1) := by decide +kernel
theorem d_M_put_20 : decode b_M_put 20 = .ok (.iadd, 1) := by decide +kernel
theorem d_M_put_21 : decode b_M_put 21 = .ok (.putfield 136, 3) := by decide +kernel
theorem d_M_put_24 : decode b_M_put 24 = .ok (.return_, 1) := by decide +kernel
theorem d_M_putMany_0 : decode b_M_putMany 0 = .ok (.iload_n 2, 1) := by decide +kernel
theorem d_M_putMany_1 : decode b_M_putMany 1 = .ok (.iconst 1, 1) := by decide +kernel
theorem d_M_putMany_2 : decode b_M_putMany 2 = .ok (.isub, 1) := by decide +kernel
theorem d_M_putMany_3 : decode b_M_putMany 3 = .ok (.istore_n 3, 1) := by decide +kernel
theorem d_M_putMany_4 : decode b_M_putMany 4 = .ok (.iload_n 3, 1) := by decide +kernel
theorem d_M_putMany_5 : decode b_M_putMany 5 = .ok (.ifCond .lt 19, 3) := by decide +kernel
theorem d_M_putMany_8 : decode b_M_putMany 8 = .ok (.aload_n 0, 1) := by decide +kernel
theorem d_M_putMany_9 : decode b_M_putMany 9 = .ok (.iload_n 1, 1) := by decide +kernel
theorem d_M_putMany_10 : decode b_M_putMany 10 = .ok (.bipush 8, 2) := by decide +kernel
theorem d_M_putMany_12 : decode b_M_putMany 12 = .ok (.iload_n 3, 1) := by decide +kernel
theorem d_M_putMany_13 : decode b_M_putMany 13 = .ok (.imul, 1) := by decide +kernel
theorem d_M_putMany_14 : decode b_M_putMany 14 = .ok (.iushr, 1) := by decide +kernel
theorem d_M_putMany_15 : decode b_M_putMany 15 = .ok (.invokevirtual 139, 3) := by decide +kernel
theorem d_M_putMany_18 : decode b_M_putMany 18 = .ok (.iinc 3 (-1), 3) := by decide +kernel
theorem d_M_putMany_21 : decode b_M_putMany 21 = .ok (.goto (-17), 3) := by decide +kernel
theorem d_M_putMany_24 : decode b_M_putMany 24 = .ok (.return_, 1) := by decide +kernel
theorem d_M_send_0 : decode b_M_send 0 = .ok (.aload_n 0, 1) := by decide +kernel
theorem d_M_send_1 : decode b_M_send 1 = .ok (.getfield 28, 3) := by decide +kernel
theorem d_M_send_4 : decode b_M_send 4 = .ok (.iload_n 1, 1) := by decide +kernel
theorem d_M_send_5 : decode b_M_send 5 = .ok (.dup2, 1) := by decide +kernel
theorem d_M_send_6 : decode b_M_send 6 = .ok (.iaload, 1) := by decide +kernel
theorem d_M_send_7 : decode b_M_send 7 = .ok (.iconst 1, 1) := by decide +kernel
theorem d_M_send_8 : decode b_M_send 8 = .ok (.iadd, 1) := by decide +kernel
theorem d_M_send_9 : decode b_M_send 9 = .ok (.iastore, 1) := by decide +kernel
theorem d_M_send_10 : decode b_M_send 10 = .ok (.aload_n 0, 1) := by decide +kernel
theorem d_M_send_11 : decode b_M_send 11 = .ok (.iload_n 1, 1) := by decide +kernel
theorem d_M_send_12 : decode b_M_send 12 = .ok (.bipush 7, 2) := by decide +kernel
theorem d_M_send_14 : decode b_M_send 14 = .ok (.invokevirtual 143, 3) := by decide +kernel
theorem d_M_send_17 : decode b_M_send 17 = .ok (.iconst 1, 1) := by decide +kernel
theorem d_M_send_18 : decode b_M_send 18 = .ok (.iand, 1) := by decide +kernel
theorem d_M_send_19 : decode b_M_send 19 = .ok (.ifCond .eq 4, 3) := by decide +kernel
theorem d_M_send_22 : decode b_M_send 22 = .ok (.return_, 1) := by decide +kernel
theorem d_M_send_23 : decode b_M_send 23 = .ok (.aload_n 0, 1) := by decide +kernel
theorem d_M_send_24 : decode b_M_send 24 = .ok (.getfield 34, 3) := by decide +kernel
theorem d_M_send_27 : decode b_M_send 27 = .ok (.iload_n 3, 1) := by decide +kernel
theorem d_M_send_28 : decode b_M_send 28 = .ok (.iload_n 1, 1) := by decide +kernel
theorem d_M_send_29 : decode b_M_send 29 = .ok (.iastore, 1) := by decide +kernel
theorem d_M_send_30 : decode b_M_send 30 = .ok (.iload 4, 2) := by decide +kernel
theorem d_M_send_32 : decode b_M_send 32 = .ok (.bipush 15, 2) := by decide +kernel
theorem d_M_send_34 : decode b_M_send 34 = .ok (.if_icmp .eq 14, 3) := by decide +kernel
theorem d_M_send_37 : decode b_M_send 37 = .ok (.aload_n 0, 1) := by decide +kernel
theorem d_M_send_38 : decode b_M_send 38 = .ok (.getfield 34, 3) := by decide +kernel
theorem d_M_send_41 : decode b_M_send 41 = .ok (.iload 4, 2) := by decide +kernel
theorem d_M_send_43 : decode b_M_send 43 = .ok (.iaload, 1) := by decide +kernel
theorem d_M_send_44 : decode b_M_send 44 = .ok (.iconst (-1), 1) := by decide +kernel
theorem d_M_send_45 : decode b_M_send 45 = .ok (.if_icmp .ne 14, 3) := by decide +kernel
theorem d_M_send_48 : decode b_M_send 48 = .ok (.bipush 31, 2) := by decide +kernel
theorem d_M_send_50 : decode b_M_send 50 = .ok (.iconst 1, 1) := by decide +kernel
theorem d_M_send_51 : decode b_M_send 51 = .ok (.iload_n 1, 1) := by decide +kernel
theorem d_M_send_52 : decode b_M_send 52 = .ok (.ishl, 1) := by decide +kernel
theorem d_M_send_53 : decode b_M_send 53 = .ok (.iconst (-1), 1) := by decide +kernel
theorem d_M_send_54 : decode b_M_send 54 = .ok (.ixor, 1) := by decide +kernel
theorem d_M_send_55 : decode b_M_send 55 = .ok (.iand, 1) := by decide +kernel
theorem d_M_send_56 : decode b_M_send 56 = .ok (.goto 27, 3) := by decide +kernel
theorem d_M_send_59 : decode b_M_send 59 = .ok (.aload_n 0, 1) := by decide +kernel
theorem d_M_send_60 : decode b_M_send 60 = .ok (.getfield 34, 3) := by decide +kernel
theorem d_M_send_63 : decode b_M_send 63 = .ok (.iload 4, 2) := by decide +kernel
theorem d_M_send_65 : decode b_M_send 65 = .ok (.iaload, 1) := by decide +kernel
theorem d_M_send_66 : decode b_M_send 66 = .ok (.iload_n 1, 1) := by decide +kernel
theorem d_M_send_67 : decode b_M_send 67 = .ok (.if_icmp .ne 7, 3) := by decide +kernel
theorem d_M_send_70 : decode b_M_send 70 = .ok (.iconst 0, 1) := by decide +kernel
theorem d_M_send_71 : decode b_M_send 71 = .ok (.goto 12, 3) := by decide +kernel
theorem d_M_send_74 : decode b_M_send 74 = .ok (.iconst 1, 1) := by decide +kernel
theorem d_M_send_75 : decode b_M_send 75 = .ok (.aload_n 0, 1) := by decide +kernel
theorem d_M_send_76 : decode b_M_send 76 = .ok (.getfield 34, 3) := by decide +kernel
theorem d_M_send_79 : decode b_M_send 79 = .ok (.iload 4, 2) := by decide +kernel
theorem d_M_send_81 : decode b_M_send 81 = .ok (.iaload, 1) := by decide +kernel
theorem d_M_send_82 : decode b_M_send 82 = .ok (.ishl, 1) := by decide +kernel
theorem d_M_send_83 : decode b_M_send 83 = .ok (.istore 5, 2) := by decide +kernel
theorem d_M_send_85 : decode b_M_send 85 = .ok (.iload 5, 2) := by decide +kernel
theorem d_M_send_87 : decode b_M_send 87 = .ok (.ifCond .eq 12, 3) := by decide +kernel
theorem d_M_send_90 : decode b_M_send 90 = .ok (.aload_n 0, 1) := by decide +kernel
theorem d_M_send_91 : decode b_M_send 91 = .ok (.getfield 147, 3) := by decide +kernel
theorem d_M_send_94 : decode b_M_send 94 = .ok (.bipush 60, 2) := by decide +kernel
theorem d_M_send_96 : decode b_M_send 96 = .ok (.if_icmp .ne 4, 3) := by decide +kernel
theorem d_M_send_99 : decode b_M_send 99 = .ok (.return_, 1) := by decide +kernel
theorem d_M_send_100 : decode b_M_send 100 = .ok (.aload_n 0, 1) := by decide +kernel
theorem d_M_send_101 : decode b_M_send 101 = .ok (.getfield 147, 3) := by decide +kernel
theorem d_M_send_104 : decode b_M_send 104 = .ok (.istore 6, 2) := by decide +kernel
theorem d_M_send_106 : decode b_M_send 106 = .ok (.aload_n 0, 1) := by decide +kernel
theorem d_M_send_107 : decode b_M_send 107 = .ok (.dup, 1) := by decide +kernel
theorem d_M_send_108 : decode b_M_send 108 = .ok (.getfield 147, 3) := by decide +kernel
theorem d_M_send_111 : decode b_M_send 111 = .ok (.iconst 1, 1) := by decide +kernel
theorem d_M_send_112 : decode b_M_send 112 = .ok (.iadd, 1) := by decide +kernel
theorem d_M_send_113 : decode b_M_send 113 = .ok (.putfield 147, 3) := by decide +kernel
theorem d_M_send_116 : decode b_M_send 116 = .ok (.aload_n 0, 1) := by decide +kernel
theorem d_M_send_117 : decode b_M_send 117 = .ok (.getfield 89, 3) := by decide +kernel
theorem d_M_send_120 : decode b_M_send 120 = .ok (.iload 6, 2) := by decide +kernel
theorem d_M_send_122 : decode b_M_send 122 = .ok (.aload_n 0, 1) := by decide +kernel
theorem d_M_send_123 : decode b_M_send 123 = .ok (.getfield 150, 3) := by decide +kernel
theorem d_M_send_126 : decode b_M_send 126 = .ok (.aload_n 0, 1) := by decide +kernel
theorem d_M_send_127 : decode b_M_send 127 = .ok (.iload_n 1, 1) := by decide +kernel
theorem d_M_send_128 : decode b_M_send 128 = .ok (.bipush 6, 2) := by decide +kernel
theorem d_M_send_130 : decode b_M_send 130 = .ok (.invokevirtual 143, 3) := by decide +kernel
theorem d_M_send_133 : decode b_M_send 133 = .ok (.iadd, 1) := by decide +kernel
theorem d_M_send_134 : decode b_M_send 134 = .ok (.iastore, 1) := by decide +kernel
theorem d_M_send_135 : decode b_M_send 135 = .ok (.aload_n 0, 1) := by decide +kernel
theorem d_M_send_136 : decode b_M_send 136 = .ok (.getfield 92, 3) := by decide +kernel
theorem d_M_send_139 : decode b_M_send 139 = .ok (.iload 6, 2) := by decide +kernel
theorem d_M_send_141 : decode b_M_send 141 = .ok (.iload_n 2, 1) := by decide +kernel
theorem d_M_send_142 : decode b_M_send 142 = .ok (.iastore, 1) := by decide +kernel
theorem d_M_send_143 : decode b_M_send 143 = .ok (.aload_n 0, 1) := by decide +kernel
theorem d_M_send_144 : decode b_M_send 144 = .ok (.getfield 95, 3) := by decide +kernel
theorem d_M_send_147 : decode b_M_send 147 = .ok (.iload 6, 2) := by decide +kernel
theorem d_M_send_149 : decode b_M_send 149 = .ok (.iload_n 3, 1) := by decide +kernel
theorem d_M_send_150 : decode b_M_send 150 = .ok (.iastore, 1) := by decide +kernel
theorem d_M_send_151 : decode b_M_send 151 = .ok (.aload_n 0, 1) := by decide +kernel
theorem d_M_send_152 : decode b_M_send 152 = .ok (.getfield 98, 3) := by decide +kernel
theorem d_M_send_155 : decode b_M_send 155 = .ok (.iload 6, 2) := by decide +kernel
theorem d_M_send_157 : decode b_M_send 157 = .ok (.iload 4, 2) := by decide +kernel
theorem d_M_send_159 : decode b_M_send 159 = .ok (.iastore, 1) := by decide +kernel
theorem d_M_send_160 : decode b_M_send 160 = .ok (.aload_n 0, 1) := by decide +kernel
theorem d_M_send_161 : decode b_M_send 161 = .ok (.getfield 101, 3) := by decide +kernel
theorem d_M_send_164 : decode b_M_send 164 = .ok (.iload 6, 2) := by decide +kernel
theorem d_M_send_166 : decode b_M_send 166 = .ok (.aload_n 0, 1) := by decide +kernel
theorem d_M_send_167 : decode b_M_send 167 = .ok (.iload_n 1, 1) := by decide +kernel
theorem d_M_send_168 : decode b_M_send 168 = .ok (.iconst 4, 1) := by decide +kernel
theorem d_M_send_169 : decode b_M_send 169 = .ok (.invokevirtual 143, 3) := by decide +kernel
theorem d_M_send_172 : decode b_M_send 172 = .ok (.iastore, 1) := by decide +kernel
theorem d_M_send_173 : decode b_M_send 173 = .ok (.aload_n 0, 1) := by decide +kernel
theorem d_M_send_174 : decode b_M_send 174 = .ok (.getfield 104, 3) := by decide +kernel
theorem d_M_send_177 : decode b_M_send 177 = .ok (.iload 6, 2) := by decide +kernel
theorem d_M_send_179 : decode b_M_send 179 = .ok (.iload 5, 2) := by decide +kernel
theorem d_M_send_181 : decode b_M_send 181 = .ok (.iastore, 1) := by decide +kernel
theorem d_M_send_182 : decode b_M_send 182 = .ok (.aload_n 0, 1) := by decide +kernel
theorem d_M_send_183 : decode b_M_send 183 = .ok (.getfield 107, 3) := by decide +kernel
theorem d_M_send_186 : decode b_M_send 186 = .ok (.iload 6, 2) := by decide +kernel
theorem d_M_send_188 : decode b_M_send 188 = .ok (.aload_n 0, 1) := by decide +kernel
theorem d_M_send_189 : decode b_M_send 189 = .ok (.getfield 136, 3) := by decide +kernel
theorem d_M_send_192 : decode b_M_send 192 = .ok (.iastore, 1) := by decide +kernel
theorem d_M_send_193 : decode b_M_send 193 = .ok (.iconst 0, 1) := by decide +kernel
theorem d_M_send_194 : decode b_M_send 194 = .ok (.istore 7, 2) := by decide +kernel
theorem d_M_send_196 : decode b_M_send 196 = .ok (.iload 7, 2) := by decide +kernel
theorem d_M_send_198 : decode b_M_send 198 = .ok (.aload_n 0, 1) := by decide +kernel
theorem d_M_send_199 : decode b_M_send 199 = .ok (.getfield 136, 3) := by decide +kernel
theorem d_M_send_202 : decode b_M_send 202 = .ok (.if_icmp .ge 29, 3) := by decide +kernel
theorem d_M_send_205 : decode b_M_send 205 = .ok (.aload_n 0, 1) := by decide +kernel
theorem d_M_send_206 : decode b_M_send 206 = .ok (.getfield 110, 3) := by decide +kernel
theorem d_M_send_209 : decode b_M_send 209 = .ok (.bipush 40, 2) := by decide +kernel
theorem d_M_send_211 : decode b_M_send 211 = .ok (.iload 6, 2) := by decide +kernel
theorem d_M_send_213 : decode b_M_send 213 = .ok (.imul, 1) := by decide +kernel
theorem d_M_send_214 : decode b_M_send 214 = .ok (.iload 7, 2) := by decide +kernel
theorem d_M_send_216 : decode b_M_send 216 = .ok (.iadd, 1) := by decide +kernel
theorem d_M_send_217 : decode b_M_send 217 = .ok (.aload_n 0, 1) := by decide +kernel
theorem d_M_send_218 : decode b_M_send 218 = .ok (.getfield 113, 3) := by decide +kernel
theorem d_M_send_221 : decode b_M_send 221 = .ok (.iload 7, 2) := by decide +kernel
theorem d_M_send_223 : decode b_M_send 223 = .ok (.iaload, 1) := by decide +kernel
theorem d_M_send_224 : decode b_M_send 224 = .ok (.iastore, 1) := by decide +kernel
theorem d_M_send_225 : decode b_M_send 225 = .ok (.iinc 7 1, 3) := by decide +kernel
theorem d_M_send_228 : decode b_M_send 228 = .ok (.goto (-32), 3) := by decide +kernel
theorem d_M_send_231 : decode b_M_send 231 = .ok (.return_, 1) := by decide +kernel
theorem d_M_forget_0 : decode b_M_forget 0 = .ok (.iload_n 1, 1) := by decide +kernel
theorem d_M_forget_1 : decode b_M_forget 1 = .ok (.istore_n 2, 1) := by decide +kernel
theorem d_M_forget_2 : decode b_M_forget 2 = .ok (.iload_n 2, 1) := by decide +kernel
theorem d_M_forget_3 : decode b_M_forget 3 = .ok (.iconst 1, 1) := by decide +kernel
theorem d_M_forget_4 : decode b_M_forget 4 = .ok (.iadd, 1) := by decide +kernel
theorem d_M_forget_5 : decode b_M_forget 5 = .ok (.aload_n 0, 1) := by decide +kernel
theorem d_M_forget_6 : decode b_M_forget 6 = .ok (.getfield 147, 3) := by decide +kernel
theorem d_M_forget_9 : decode b_M_forget 9 = .ok (.if_icmp .ge 145, 3) := by decide +kernel
theorem d_M_forget_12 : decode b_M_forget 12 = .ok (.aload_n 0, 1) := by decide +kernel
theorem d_M_forget_13 : decode b_M_forget 13 = .ok (.getfield 89, 3) := by decide +kernel
theorem d_M_forget_16 : decode b_M_forget 16 = .ok (.iload_n 2, 1) := by decide +kernel
theorem d_M_forget_17 : decode b_M_forget 17 = .ok (.aload_n 0, 1) := by decide +kernel
theorem d_M_forget_18 : decode b_M_forget 18 = .ok (.getfield 89, 3) := by decide +kernel
theorem d_M_forget_21 : decode b_M_forget 21 = .ok (.iload_n 2, 1) := by decide +kernel
theorem d_M_forget_22 : decode b_M_forget 22 = .ok (.iconst 1, 1) := by decide +kernel
theorem d_M_forget_23 : decode b_M_forget 23 = .ok (.iadd, 1) := by decide +kernel
theorem d_M_forget_24 : decode b_M_forget 24 = .ok (.iaload, 1) := by decide +kernel
theorem d_M_forget_25 : decode b_M_forget 25 = .ok (.iastore, 1) := by decide +kernel
theorem d_M_forget_26 : decode b_M_forget 26 = .ok (.aload_n 0, 1) := by decide +kernel
theorem d_M_forget_27 : decode b_M_forget 27 = .ok (.getfield 92, 3) := by decide +kernel
theorem d_M_forget_30 : decode b_M_forget 30 = .ok (.iload_n 2, 1) := by decide +kernel
theorem d_M_forget_31 : decode b_M_forget 31 = .ok (.aload_n 0, 1) := by decide +kernel
theorem d_M_forget_32 : decode b_M_forget 32 = .ok (.getfield 92, 3) := by decide +kernel
theorem d_M_forget_35 : decode b_M_forget 35 = .ok (.iload_n 2, 1) := by decide +kernel
theorem d_M_forget_36 : decode b_M_forget 36 = .ok (.iconst 1, 1) := by decide +kernel
theorem d_M_forget_37 : decode b_M_forget 37 = .ok (.iadd, 1) := by decide +kernel
theorem d_M_forget_38 : decode b_M_forget 38 = .ok (.iaload, 1) := by decide +kernel
theorem d_M_forget_39 : decode b_M_forget 39 = .ok (.iastore, 1) := by decide +kernel
theorem d_M_forget_40 : decode b_M_forget 40 = .ok (.aload_n 0, 1) := by decide +kernel
theorem d_M_forget_41 : decode b_M_forget 41 = .ok (.getfield 95, 3) := by decide +kernel
theorem d_M_forget_44 : decode b_M_forget 44 = .ok (.iload_n 2, 1) := by decide +kernel
theorem d_M_forget_45 : decode b_M_forget 45 = .ok (.aload_n 0, 1) := by decide +kernel
theorem d_M_forget_46 : decode b_M_forget 46 = .ok (.getfield 95, 3) := by decide +kernel
theorem d_M_forget_49 : decode b_M_forget 49 = .ok (.iload_n 2, 1) := by decide +kernel
theorem d_M_forget_50 : decode b_M_forget 50 = .ok (.iconst 1, 1) := by decide +kernel
theorem d_M_forget_51 : decode b_M_forget 51 = .ok (.iadd, 1) := by decide +kernel
theorem d_M_forget_52 : decode b_M_forget 52 = .ok (.iaload, 1) := by decide +kernel
theorem d_M_forget_53 : decode b_M_forget 53 = .ok (.iastore, 1) := by decide +kernel
theorem d_M_forget_54 : decode b_M_forget 54 = .ok (.aload_n 0, 1) := by decide +kernel
theorem d_M_forget_55 : decode b_M_forget 55 = .ok (.getfield 98, 3) := by decide +kernel
theorem d_M_forget_58 : decode b_M_forget 58 = .ok (.iload_n 2, 1) := by decide +kernel
theorem d_M_forget_59 : decode b_M_forget 59 = .ok (.aload_n 0, 1) := by decide +kernel
theorem d_M_forget_60 : decode b_M_forget 60 = .ok (.getfield 98, 3) := by decide +kernel
theorem d_M_forget_63 : decode b_M_forget 63 = .ok (.iload_n 2, 1) := by decide +kernel
theorem d_M_forget_64 : decode b_M_forget 64 = .ok (.iconst 1, 1) := by decide +kernel
theorem d_M_forget_65 : decode b_M_forget 65 = .ok (.iadd, 1) := by decide +kernel
theorem d_M_forget_66 : decode b_M_forget 66 = .ok (.iaload, 1) := by decide +kernel
theorem d_M_forget_67 : decode b_M_forget 67 = .ok (.iastore, 1) := by decide +kernel
theorem d_M_forget_68 : decode b_M_forget 68 = .ok (.aload_n 0, 1) := by decide +kernel
theorem d_M_forget_69 : decode b_M_forget 69 = .ok (.getfield 101, 3) := by decide +kernel
theorem d_M_forget_72 : decode b_M_forget 72 = .ok (.iload_n 2, 1) := by decide +kernel
theorem d_M_forget_73 : decode b_M_forget 73 = .ok (.aload_n 0, 1) := by decide +kernel
theorem d_M_forget_74 : decode b_M_forget 74 = .ok (.getfield 101, 3) := by decide +kernel
theorem d_M_forget_77 : decode b_M_forget 77 = .ok (.iload_n 2, 1) := by decide +kernel
theorem d_M_forget_78 : decode b_M_forget 78 = .ok (.iconst 1, 1) := by decide +kernel
theorem d_M_forget_79 : decode b_M_forget 79 = .ok (.iadd, 1) := by decide +kernel
theorem d_M_forget_80 : decode b_M_forget 80 = .ok (.iaload, 1) := by decide +kernel
theorem d_M_forget_81 : decode b_M_forget 81 = .ok (.iastore, 1) := by decide +kernel
theorem d_M_forget_82 : decode b_M_forget 82 = .ok (.aload_n 0, 1) := by decide +kernel
theorem d_M_forget_83 : decode b_M_forget 83 = .ok (.getfield 104, 3) := by decide +kernel
theorem d_M_forget_86 : decode b_M_forget 86 = .ok (.iload_n 2, 1) := by decide +kernel
theorem d_M_forget_87 : decode b_M_forget 87 = .ok (.aload_n 0, 1) := by decide +kernel
theorem d_M_forget_88 : decode b_M_forget 88 = .ok (.getfield 104, 3) := by decide +kernel
theorem d_M_forget_91 : decode b_M_forget 91 = .ok (.iload_n 2, 1) := by decide +kernel
theorem d_M_forget_92 : decode b_M_forget 92 = .ok (.iconst 1, 1) := by decide +kernel
theorem d_M_forget_93 : decode b_M_forget 93 = .ok (.iadd, 1) := by decide +kernel
theorem d_M_forget_94 : decode b_M_forget 94 = .ok (.iaload, 1) := by decide +kernel
theorem d_M_forget_95 : decode b_M_forget 95 = .ok (.iastore, 1) := by decide +kernel
theorem d_M_forget_96 : decode b_M_forget 96 = .ok (.aload_n 0, 1) := by decide +kernel
theorem d_M_forget_97 : decode b_M_forget 97 = .ok (.getfield 107, 3) := by decide +kernel
theorem d_M_forget_100 : decode b_M_forget 100 = .ok (.iload_n 2, 1) := by decide +kernel
theorem d_M_forget_101 : decode b_M_forget 101 = .ok (.aload_n 0, 1) := by decide +kernel
theorem d_M_forget_102 : decode b_M_forget 102 = .ok (.getfield 107, 3) := by decide +kernel
theorem d_M_forget_105 : decode b_M_forget 105 = .ok (.iload_n 2, 1) := by decide +kernel
theorem d_M_forget_106 : decode b_M_forget 106 = .ok (.iconst 1, 1) := by decide +kernel
theorem d_M_forget_107 : decode b_M_forget 107 = .ok (.iadd, 1) := by decide +kernel
theorem d_M_forget_108 : decode b_M_forget 108 = .ok (.iaload, 1) := by decide +kernel
theorem d_M_forget_109 : decode b_M_forget 109 = .ok (.iastore, 1) := by decide +kernel
theorem d_M_forget_110 : decode b_M_forget 110 = .ok (.iconst 0, 1) := by decide +kernel
theorem d_M_forget_111 : decode b_M_forget 111 = .ok (.istore_n 3, 1) := by decide +kernel
theorem d_M_forget_112 : decode b_M_forget 112 = .ok (.iload_n 3, 1) := by decide +kernel
theorem d_M_forget_113 : decode b_M_forget 113 = .ok (.bipush 40, 2) := by decide +kernel
theorem d_M_forget_115 : decode b_M_forget 115 = .ok (.if_icmp .ge 33, 3) := by decide +kernel
theorem d_M_forget_118 : decode b_M_forget 118 = .ok (.aload_n 0, 1) := by decide +kernel
theorem d_M_forget_119 : decode b_M_forget 119 = .ok (.getfield 110, 3) := by decide +kernel
theorem d_M_forget_122 : decode b_M_forget 122 = .ok (.bipush 40, 2) := by decide +kernel
theorem d_M_forget_124 : decode b_M_forget 124 = .ok (.iload_n 2, 1) := by decide +kernel
theorem d_M_forget_125 : decode b_M_forget 125 = .ok (.imul, 1) := by decide +kernel
theorem d_M_forget_126 : decode b_M_forget 126 = .ok (.iload_n 3, 1) := by decide +kernel
theorem d_M_forget_127 : decode b_M_forget 127 = .ok (.iadd, 1) := by decide +kernel
theorem d_M_forget_128 : decode b_M_forget 128 = .ok (.aload_n 0, 1) := by decide +kernel
theorem d_M_forget_129 : decode b_M_forget 129 = .ok (.getfield 110, 3) := by decide +kernel
theorem d_M_forget_132 : decode b_M_forget 132 = .ok (.bipush 40, 2) := by decide +kernel
theorem d_M_forget_134 : decode b_M_forget 134 = .ok (.iload_n 2, 1) := by decide +kernel
theorem d_M_forget_135 : decode b_M_forget 135 = .ok (.iconst 1, 1) := by decide +kernel
theorem d_M_forget_136 : decode b_M_forget 136 = .ok (.iadd, 1) := by decide +kernel
theorem d_M_forget_137 : decode b_M_forget 137 = .ok (.imul, 1) := by decide +kernel
theorem d_M_forget_138 : decode b_M_forget 138 = .ok (.iload_n 3, 1) := by decide +kernel
theorem d_M_forget_139 : decode b_M_forget 139 = .ok (.iadd, 1) := by decide +kernel
theorem d_M_forget_140 : decode b_M_forget 140 = .ok (.iaload, 1) := by decide +kernel
theorem d_M_forget_141 : decode b_M_forget 141 = .ok (.iastore, 1) := by decide +kernel
theorem d_M_forget_142 : decode b_M_forget 142 = .ok (.iinc 3 1, 3) := by decide +kernel
theorem d_M_forget_145 : decode b_M_forget 145 = .ok (.goto (-33), 3) := by decide +kernel
theorem d_M_forget_148 : decode b_M_forget 148 = .ok (.iinc 2 1, 3) := by decide +kernel
theorem d_M_forget_151 : decode b_M_forget 151 = .ok (.goto (-149), 3) := by decide +kernel
theorem d_M_forget_154 : decode b_M_forget 154 = .ok (.aload_n 0, 1) := by decide +kernel
theorem d_M_forget_155 : decode b_M_forget 155 = .ok (.dup, 1) := by decide +kernel
theorem d_M_forget_156 : decode b_M_forget 156 = .ok (.getfield 147, 3) := by decide +kernel
theorem d_M_forget_159 : decode b_M_forget 159 = .ok (.iconst 1, 1) := by decide +kernel
theorem d_M_forget_160 : decode b_M_forget 160 = .ok (.isub, 1) := by decide +kernel
theorem d_M_forget_161 : decode b_M_forget 161 = .ok (.putfield 147, 3) := by decide +kernel
theorem d_M_forget_164 : decode b_M_forget 164 = .ok (.return_, 1) := by decide +kernel
theorem d_M_weighed_0 : decode b_M_weighed 0 = .ok (.aload_n 0, 1) := by decide +kernel
theorem d_M_weighed_1 : decode b_M_weighed 1 = .ok (.iload_n 1, 1) := by decide +kernel
theorem d_M_weighed_2 : decode b_M_weighed 2 = .ok (.iconst 0, 1) := by decide +kernel
theorem d_M_weighed_3 : decode b_M_weighed 3 = .ok (.invokevirtual 143, 3) := by decide +kernel
theorem d_M_weighed_6 : decode b_M_weighed 6 = .ok (.istore_n 2, 1) := by decide +kernel
theorem d_M_weighed_7 : decode b_M_weighed 7 = .ok (.iload_n 2, 1) := by decide +kernel
theorem d_M_weighed_8 : decode b_M_weighed 8 = .ok (.sipush 255, 3) := by decide +kernel
theorem d_M_weighed_11 : decode b_M_weighed 11 = .ok (.if_icmp .ne 7, 3) := by decide +kernel
theorem d_M_weighed_14 : decode b_M_weighed 14 = .ok (.sipush 255, 3) := by decide +kernel
theorem d_M_weighed_17 : decode b_M_weighed 17 = .ok (.ireturn, 1) := by decide +kernel
theorem d_M_weighed_18 : decode b_M_weighed 18 = .ok (.iconst 0, 1) := by decide +kernel
theorem d_M_weighed_19 : decode b_M_weighed 19 = .ok (.istore_n 3, 1) := by decide +kernel
theorem d_M_weighed_20 : decode b_M_weighed 20 = .ok (.iload_n 3, 1) := by decide +kernel
theorem d_M_weighed_21 : decode b_M_weighed 21 = .ok (.iconst 5, 1) := by decide +kernel
theorem d_M_weighed_22 : decode b_M_weighed 22 = .ok (.if_icmp .ge 77, 3) := by decide +kernel
theorem d_M_weighed_25 : decode b_M_weighed 25 = .ok (.aload_n 0, 1) := by decide +kernel
theorem d_M_weighed_26 : decode b_M_weighed 26 = .ok (.iload_n 1, 1) := by decide +kernel
theorem d_M_weighed_27 : decode b_M_weighed 27 = .ok (.bipush 9, 2) := by decide +kernel
theorem d_M_weighed_29 : decode b_M_weighed 29 = .ok (.invokevirtual 143, 3) := by decide +kernel
theorem d_M_weighed_32 : decode b_M_weighed 32 = .ok (.iload_n 3, 1) := by decide +kernel
theorem d_M_weighed_33 : decode b_M_weighed 33 = .ok (.ishr, 1) := by decide +kernel
theorem d_M_weighed_34 : decode b_M_weighed 34 = .ok (.iconst 1, 1) := by decide +kernel
theorem d_M_weighed_35 : decode b_M_weighed 35 = .ok (.iand, 1) := by decide +kernel
theorem d_M_weighed_36 : decode b_M_weighed 36 = .ok (.iconst 1, 1) := by decide +kernel
theorem d_M_weighed_37 : decode b_M_weighed 37 = .ok (.if_icmp .ne 34, 3) := by decide +kernel
theorem d_M_weighed_40 : decode b_M_weighed 40 = .ok (.aload_n 0, 1) := by decide +kernel
theorem d_M_weighed_41 : decode b_M_weighed 41 = .ok (.getfield 37, 3) := by decide +kernel
theorem d_M_weighed_44 : decode b_M_weighed 44 = .ok (.iconst 5, 1) := by decide +kernel
theorem d_M_weighed_45 : decode b_M_weighed 45 = .ok (.iload_n 1, 1) := by decide +kernel
theorem d_M_weighed_46 : decode b_M_weighed 46 = .ok (.imul, 1) := by decide +kernel
theorem d_M_weighed_47 : decode b_M_weighed 47 = .ok (.iload_n 3, 1) := by decide +kernel
theorem d_M_weighed_48 : decode b_M_weighed 48 = .ok (.iadd, 1) := by decide +kernel
theorem d_M_weighed_49 : decode b_M_weighed 49 = .ok (.baload, 1) := by decide +kernel
theorem d_M_weighed_50 : decode b_M_weighed 50 = .ok (.ifCond .eq 21, 3) := by decide +kernel
theorem d_M_weighed_53 : decode b_M_weighed 53 = .ok (.aload_n 0, 1) := by decide +kernel
theorem d_M_weighed_54 : decode b_M_weighed 54 = .ok (.getfield 41, 3) := by decide +kernel
theorem d_M_weighed_57 : decode b_M_weighed 57 = .ok (.iconst 5, 1) := by decide +kernel
theorem d_M_weighed_58 : decode b_M_weighed 58 = .ok (.iload_n 1, 1) := by decide +kernel
theorem d_M_weighed_59 : decode b_M_weighed 59 = .ok (.imul, 1) := by decide +kernel
theorem d_M_weighed_60 : decode b_M_weighed 60 = .ok (.iload_n 3, 1) := by decide +kernel
theorem d_M_weighed_61 : decode b_M_weighed 61 = .ok (.iadd, 1) := by decide +kernel
theorem d_M_weighed_62 : decode b_M_weighed 62 = .ok (.iaload, 1) := by decide +kernel
theorem d_M_weighed_63 : decode b_M_weighed 63 = .ok (.iconst 3, 1) := by decide +kernel
theorem d_M_weighed_64 : decode b_M_weighed 64 = .ok (.if_icmp .eq 7, 3) := by decide +kernel
theorem d_M_weighed_67 : decode b_M_weighed 67 = .ok (.iconst 1, 1) := by decide +kernel
theorem d_M_weighed_68 : decode b_M_weighed 68 = .ok (.goto 4, 3) := by decide +kernel
theorem d_M_weighed_71 : decode b_M_weighed 71 = .ok (.iconst 0, 1) := by decide +kernel
theorem d_M_weighed_72 : decode b_M_weighed 72 = .ok (.istore 4, 2) := by decide +kernel
theorem d_M_weighed_74 : decode b_M_weighed 74 = .ok (.iload_n 2, 1) := by decide +kernel
theorem d_M_weighed_75 : decode b_M_weighed 75 = .ok (.iload 4, 2) := by decide +kernel
theorem d_M_weighed_77 : decode b_M_weighed 77 = .ok (.ifCond .eq 13, 3) := by decide +kernel
theorem d_M_weighed_80 : decode b_M_weighed 80 = .ok (.aload_n 0, 1) := by decide +kernel
theorem d_M_weighed_81 : decode b_M_weighed 81 = .ok (.iload_n 1, 1) := by decide +kernel
theorem d_M_weighed_82 : decode b_M_weighed 82 = .ok (.bipush 8, 2) := by decide +kernel
theorem d_M_weighed_84 : decode b_M_weighed 84 = .ok (.invokevirtual 143, 3) := by decide +kernel
theorem d_M_weighed_87 : decode b_M_weighed 87 = .ok (.goto 4, 3) := by decide +kernel
theorem d_M_weighed_90 : decode b_M_weighed 90 = .ok (.iconst 0, 1) := by decide +kernel
theorem d_M_weighed_91 : decode b_M_weighed 91 = .ok (.isub, 1) := by decide +kernel
theorem d_M_weighed_92 : decode b_M_weighed 92 = .ok (.istore_n 2, 1) := by decide +kernel
theorem d_M_weighed_93 : decode b_M_weighed 93 = .ok (.iinc 3 1, 3) := by decide +kernel
theorem d_M_weighed_96 : decode b_M_weighed 96 = .ok (.goto (-76), 3) := by decide +kernel
theorem d_M_weighed_99 : decode b_M_weighed 99 = .ok (.iconst 1, 1) := by decide +kernel
theorem d_M_weighed_100 : decode b_M_weighed 100 = .ok (.iload_n 2, 1) := by decide +kernel
theorem d_M_weighed_101 : decode b_M_weighed 101 = .ok (.invokestatic 153, 3) := by decide +kernel
theorem d_M_weighed_104 : decode b_M_weighed 104 = .ok (.ireturn, 1) := by decide +kernel
theorem d_M_max_0 : decode b_M_max 0 = .ok (.iload_n 0, 1) := by decide +kernel
theorem d_M_max_1 : decode b_M_max 1 = .ok (.iload_n 1, 1) := by decide +kernel
theorem d_M_max_2 : decode b_M_max 2 = .ok (.if_icmp .le 7, 3) := by decide +kernel
theorem d_M_max_5 : decode b_M_max 5 = .ok (.iload_n 0, 1) := by decide +kernel
theorem d_M_max_6 : decode b_M_max 6 = .ok (.goto 4, 3) := by decide +kernel
theorem d_M_max_9 : decode b_M_max 9 = .ok (.iload_n 1, 1) := by decide +kernel
theorem d_M_max_10 : decode b_M_max 10 = .ok (.ireturn, 1) := by decide +kernel
theorem d_M_atLeastOne_0 : decode b_M_atLeastOne 0 = .ok (.iconst 1, 1) := by decide +kernel
theorem d_M_atLeastOne_1 : decode b_M_atLeastOne 1 = .ok (.iload_n 0, 1) := by decide +kernel
theorem d_M_atLeastOne_2 : decode b_M_atLeastOne 2 = .ok (.invokestatic 153, 3) := by decide +kernel
theorem d_M_atLeastOne_5 : decode b_M_atLeastOne 5 = .ok (.ireturn, 1) := by decide +kernel
theorem d_M_skew_0 : decode b_M_skew 0 = .ok (.sipush 256, 3) := by decide +kernel
theorem d_M_skew_3 : decode b_M_skew 3 = .ok (.aload_n 0, 1) := by decide +kernel
theorem d_M_skew_4 : decode b_M_skew 4 = .ok (.iload_n 1, 1) := by decide +kernel
theorem d_M_skew_5 : decode b_M_skew 5 = .ok (.invokevirtual 156, 3) := by decide +kernel
theorem d_M_skew_8 : decode b_M_skew 8 = .ok (.isub, 1) := by decide +kernel
theorem d_M_skew_9 : decode b_M_skew 9 = .ok (.aload_n 0, 1) := by decide +kernel
theorem d_M_skew_10 : decode b_M_skew 10 = .ok (.getfield 19, 3) := by decide +kernel
theorem d_M_skew_13 : decode b_M_skew 13 = .ok (.iload_n 1, 1) := by decide +kernel
theorem d_M_skew_14 : decode b_M_skew 14 = .ok (.iaload, 1) := by decide +kernel
theorem d_M_skew_15 : decode b_M_skew 15 = .ok (.imul, 1) := by decide +kernel
theorem d_M_skew_16 : decode b_M_skew 16 = .ok (.sipush 256, 3) := by decide +kernel
theorem d_M_skew_19 : decode b_M_skew 19 = .ok (.idiv, 1) := by decide +kernel
theorem d_M_skew_20 : decode b_M_skew 20 = .ok (.ireturn, 1) := by decide +kernel
theorem d_M_fold_0 : decode b_M_fold 0 = .ok (.iload_n 0, 1) := by decide +kernel
theorem d_M_fold_1 : decode b_M_fold 1 = .ok (.istore_n 1, 1) := by decide +kernel
theorem d_M_fold_2 : decode b_M_fold 2 = .ok (.iload_n 1, 1) := by decide +kernel
theorem d_M_fold_3 : decode b_M_fold 3 = .ok (.ldc 160, 2) := by decide +kernel
theorem d_M_fold_5 : decode b_M_fold 5 = .ok (.if_icmp .le 16, 3) := by decide +kernel
theorem d_M_fold_8 : decode b_M_fold 8 = .ok (.iload_n 1, 1) := by decide +kernel
theorem d_M_fold_9 : decode b_M_fold 9 = .ok (.bipush 16, 2) := by decide +kernel
theorem d_M_fold_11 : decode b_M_fold 11 = .ok (.iushr, 1) := by decide +kernel
theorem d_M_fold_12 : decode b_M_fold 12 = .ok (.iload_n 1, 1) := by decide +kernel
theorem d_M_fold_13 : decode b_M_fold 13 = .ok (.ldc 160, 2) := by decide +kernel
theorem d_M_fold_15 : decode b_M_fold 15 = .ok (.iand, 1) := by decide +kernel
theorem d_M_fold_16 : decode b_M_fold 16 = .ok (.iadd, 1) := by decide +kernel
theorem d_M_fold_17 : decode b_M_fold 17 = .ok (.istore_n 1, 1) := by decide +kernel
theorem d_M_fold_18 : decode b_M_fold 18 = .ok (.goto (-16), 3) := by decide +kernel
theorem d_M_fold_21 : decode b_M_fold 21 = .ok (.iload_n 1, 1) := by decide +kernel
theorem d_M_fold_22 : decode b_M_fold 22 = .ok (.ireturn, 1) := by decide +kernel
theorem d_M_sum_0 : decode b_M_sum 0 = .ok (.iload_n 1, 1) := by decide +kernel
theorem d_M_sum_1 : decode b_M_sum 1 = .ok (.bipush 16, 2) := by decide +kernel
theorem d_M_sum_3 : decode b_M_sum 3 = .ok (.iushr, 1) := by decide +kernel
theorem d_M_sum_4 : decode b_M_sum 4 = .ok (.iload_n 1, 1) := by decide +kernel
theorem d_M_sum_5 : decode b_M_sum 5 = .ok (.ldc 160, 2) := by decide +kernel
theorem d_M_sum_7 : decode b_M_sum 7 = .ok (.iand, 1) := by decide +kernel
theorem d_M_sum_8 : decode b_M_sum 8 = .ok (.iadd, 1) := by decide +kernel
theorem d_M_sum_9 : decode b_M_sum 9 = .ok (.ldc 161, 2) := by decide +kernel
theorem d_M_sum_11 : decode b_M_sum 11 = .ok (.iadd, 1) := by decide +kernel
theorem d_M_sum_12 : decode b_M_sum 12 = .ok (.bipush 18, 2) := by decide +kernel
theorem d_M_sum_14 : decode b_M_sum 14 = .ok (.iadd, 1) := by decide +kernel
theorem d_M_sum_15 : decode b_M_sum 15 = .ok (.bipush 112, 2) := by decide +kernel
theorem d_M_sum_17 : decode b_M_sum 17 = .ok (.iadd, 1) := by decide +kernel
theorem d_M_sum_18 : decode b_M_sum 18 = .ok (.bipush 12, 2) := by decide +kernel
theorem d_M_sum_20 : decode b_M_sum 20 = .ok (.iadd, 1) := by decide +kernel
theorem d_M_sum_21 : decode b_M_sum 21 = .ok (.istore_n 2, 1) := by decide +kernel
theorem d_M_sum_22 : decode b_M_sum 22 = .ok (.iconst 0, 1) := by decide +kernel
theorem d_M_sum_23 : decode b_M_sum 23 = .ok (.istore_n 3, 1) := by decide +kernel
theorem d_M_sum_24 : decode b_M_sum 24 = .ok (.iload_n 3, 1) := by decide +kernel
theorem d_M_sum_25 : decode b_M_sum 25 = .ok (.bipush 12, 2) := by decide +kernel
theorem d_M_sum_27 : decode b_M_sum 27 = .ok (.if_icmp .ge 24, 3) := by decide +kernel
theorem d_M_sum_30 : decode b_M_sum 30 = .ok (.iload_n 2, 1) := by decide +kernel
theorem d_M_sum_31 : decode b_M_sum 31 = .ok (.aload_n 0, 1) := by decide +kernel
theorem d_M_sum_32 : decode b_M_sum 32 = .ok (.iload_n 3, 1) := by decide +kernel
theorem d_M_sum_33 : decode b_M_sum 33 = .ok (.iaload, 1) := by decide +kernel
theorem d_M_sum_34 : decode b_M_sum 34 = .ok (.bipush 8, 2) := by decide +kernel
theorem d_M_sum_36 : decode b_M_sum 36 = .ok (.ishl, 1) := by decide +kernel
theorem d_M_sum_37 : decode b_M_sum 37 = .ok (.aload_n 0, 1) := by decide +kernel
theorem d_M_sum_38 : decode b_M_sum 38 = .ok (.iload_n 3, 1) := by decide +kernel
theorem d_M_sum_39 : decode b_M_sum 39 = .ok (.iconst 1, 1) := by decide +kernel
theorem d_M_sum_40 : decode b_M_sum 40 = .ok (.iadd, 1) := by decide +kernel
theorem d_M_sum_41 : decode b_M_sum 41 = .ok (.iaload, 1) := by decide +kernel
theorem d_M_sum_42 : decode b_M_sum 42 = .ok (.ior, 1) := by decide +kernel
theorem d_M_sum_43 : decode b_M_sum 43 = .ok (.iadd, 1) := by decide +kernel
theorem d_M_sum_44 : decode b_M_sum 44 = .ok (.istore_n 2, 1) := by decide +kernel
theorem d_M_sum_45 : decode b_M_sum 45 = .ok (.iinc 3 2, 3) := by decide +kernel
theorem d_M_sum_48 : decode b_M_sum 48 = .ok (.goto (-24), 3) := by decide +kernel
theorem d_M_sum_51 : decode b_M_sum 51 = .ok (.iload_n 2, 1) := by decide +kernel
theorem d_M_sum_52 : decode b_M_sum 52 = .ok (.invokestatic 162, 3) := by decide +kernel
theorem d_M_sum_55 : decode b_M_sum 55 = .ok (.ireturn, 1) := by decide +kernel
theorem d_M_advertise_0 : decode b_M_advertise 0 = .ok (.aload_n 0, 1) := by decide +kernel
theorem d_M_advertise_1 : decode b_M_advertise 1 = .ok (.iconst 0, 1) := by decide +kernel
theorem d_M_advertise_2 : decode b_M_advertise 2 = .ok (.putfield 136, 3) := by decide +kernel
theorem d_M_advertise_5 : decode b_M_advertise 5 = .ok (.aload_n 0, 1) := by decide +kernel
theorem d_M_advertise_6 : decode b_M_advertise 6 = .ok (.bipush 49, 2) := by decide +kernel
theorem d_M_advertise_8 : decode b_M_advertise 8 = .ok (.invokevirtual 139, 3) := by decide +kernel
theorem d_M_advertise_11 : decode b_M_advertise 11 = .ok (.aload_n 0, 1) := by decide +kernel
theorem d_M_advertise_12 : decode b_M_advertise 12 = .ok (.aload_n 0, 1) := by decide +kernel
theorem d_M_advertise_13 : decode b_M_advertise 13 = .ok (.iload_n 1, 1) := by decide +kernel
theorem d_M_advertise_14 : decode b_M_advertise 14 = .ok (.iconst 3, 1) := by decide +kernel
theorem d_M_advertise_15 : decode b_M_advertise 15 = .ok (.invokevirtual 143, 3) := by decide +kernel
theorem d_M_advertise_18 : decode b_M_advertise 18 = .ok (.invokevirtual 139, 3) := by decide +kernel
theorem d_M_advertise_21 : decode b_M_advertise 21 = .ok (.aload_n 0, 1) := by decide +kernel
theorem d_M_advertise_22 : decode b_M_advertise 22 = .ok (.iload_n 2, 1) := by decide +kernel
theorem d_M_advertise_23 : decode b_M_advertise 23 = .ok (.invokevirtual 139, 3) := by decide +kernel
theorem d_M_advertise_26 : decode b_M_advertise 26 = .ok (.aload_n 0, 1) := by decide +kernel
theorem d_M_advertise_27 : decode b_M_advertise 27 = .ok (.iconst 1, 1) := by decide +kernel
theorem d_M_advertise_28 : decode b_M_advertise 28 = .ok (.invokevirtual 139, 3) := by decide +kernel
theorem d_M_advertise_31 : decode b_M_advertise 31 = .ok (.aload_n 0, 1) := by decide +kernel
theorem d_M_advertise_32 : decode b_M_advertise 32 = .ok (.aload_n 0, 1) := by decide +kernel
theorem d_M_advertise_33 : decode b_M_advertise 33 = .ok (.iload_n 1, 1) := by decide +kernel
theorem d_M_advertise_34 : decode b_M_advertise 34 = .ok (.iconst 1, 1) := by decide +kernel
theorem d_M_advertise_35 : decode b_M_advertise 35 = .ok (.invokevirtual 143, 3) := by decide +kernel
theorem d_M_advertise_38 : decode b_M_advertise 38 = .ok (.iconst 2, 1) := by decide +kernel
theorem d_M_advertise_39 : decode b_M_advertise 39 = .ok (.invokevirtual 165, 3) := by decide +kernel
theorem d_M_advertise_42 : decode b_M_advertise 42 = .ok (.aload_n 0, 1) := by decide +kernel
theorem d_M_advertise_43 : decode b_M_advertise 43 = .ok (.iconst 0, 1) := by decide +kernel
theorem d_M_advertise_44 : decode b_M_advertise 44 = .ok (.iconst 2, 1) := by decide +kernel
theorem d_M_advertise_45 : decode b_M_advertise 45 = .ok (.invokevirtual 165, 3) := by decide +kernel
theorem d_M_advertise_48 : decode b_M_advertise 48 = .ok (.aload_n 0, 1) := by decide +kernel
theorem d_M_advertise_49 : decode b_M_advertise 49 = .ok (.aload_n 0, 1) := by decide +kernel
theorem d_M_advertise_50 : decode b_M_advertise 50 = .ok (.iload_n 1, 1) := by decide +kernel
theorem d_M_advertise_51 : decode b_M_advertise 51 = .ok (.iconst 5, 1) := by decide +kernel
theorem d_M_advertise_52 : decode b_M_advertise 52 = .ok (.invokevirtual 143, 3) := by decide +kernel
theorem d_M_advertise_55 : decode b_M_advertise 55 = .ok (.iconst 4, 1) := by decide +kernel
theorem d_M_advertise_56 : decode b_M_advertise 56 = .ok (.invokevirtual 165, 3) := by decide +kernel
theorem d_M_advertise_59 : decode b_M_advertise 59 = .ok (.ldc 160, 2) := by decide +kernel
theorem d_M_advertise_61 : decode b_M_advertise 61 = .ok (.aload_n 0, 1) := by decide +kernel
theorem d_M_advertise_62 : decode b_M_advertise 62 = .ok (.getfield 113, 3) := by decide +kernel
theorem d_M_advertise_65 : decode b_M_advertise 65 = .ok (.aload_n 0, 1) := by decide +kernel
theorem d_M_advertise_66 : decode b_M_advertise 66 = .ok (.iload_n 1, 1) := by decide +kernel
theorem d_M_advertise_67 : decode b_M_advertise 67 = .ok (.iconst 4, 1) := by decide +kernel
theorem d_M_advertise_68 : decode b_M_advertise 68 = .ok (.invokevirtual 143, 3) := by decide +kernel
theorem d_M_advertise_71 : decode b_M_advertise 71 = .ok (.invokestatic 169, 3) := by decide +kernel
theorem d_M_advertise_74 : decode b_M_advertise 74 = .ok (.isub, 1) := by decide +kernel
theorem d_M_advertise_75 : decode b_M_advertise 75 = .ok (.istore_n 3, 1) := by decide +kernel
theorem d_M_advertise_76 : decode b_M_advertise 76 = .ok (.aload_n 0, 1) := by decide +kernel
theorem d_M_advertise_77 : decode b_M_advertise 77 = .ok (.getfield 113, 3) := by decide +kernel
theorem d_M_advertise_80 : decode b_M_advertise 80 = .ok (.bipush 6, 2) := by decide +kernel
theorem d_M_advertise_82 : decode b_M_advertise 82 = .ok (.iload_n 3, 1) := by decide +kernel
theorem d_M_advertise_83 : decode b_M_advertise 83 = .ok (.bipush 8, 2) := by decide +kernel
theorem d_M_advertise_85 : decode b_M_advertise 85 = .ok (.ishr, 1) := by decide +kernel
theorem d_M_advertise_86 : decode b_M_advertise 86 = .ok (.iastore, 1) := by decide +kernel
theorem d_M_advertise_87 : decode b_M_advertise 87 = .ok (.aload_n 0, 1) := by decide +kernel
theorem d_M_advertise_88 : decode b_M_advertise 88 = .ok (.getfield 113, 3) := by decide +kernel
theorem d_M_advertise_91 : decode b_M_advertise 91 = .ok (.bipush 7, 2) := by decide +kernel
theorem d_M_advertise_93 : decode b_M_advertise 93 = .ok (.iload_n 3, 1) := by decide +kernel
theorem d_M_advertise_94 : decode b_M_advertise 94 = .ok (.sipush 255, 3) := by decide +kernel
theorem d_M_advertise_97 : decode b_M_advertise 97 = .ok (.iand, 1) := by decide +kernel
theorem d_M_advertise_98 : decode b_M_advertise 98 = .ok (.iastore, 1) := by decide +kernel
theorem d_M_advertise_99 : decode b_M_advertise 99 = .ok (.aload_n 0, 1) := by decide +kernel
theorem d_M_advertise_100 : decode b_M_advertise 100 = .ok (.iload_n 1, 1) := by decide +kernel
theorem d_M_advertise_101 : decode b_M_advertise 101 = .ok (.iconst 1, 1) := by decide +kernel
theorem d_M_advertise_102 : decode b_M_advertise 102 = .ok (.bipush 9, 2) := by decide +kernel
theorem d_M_advertise_104 : decode b_M_advertise 104 = .ok (.bipush 15, 2) := by decide +kernel
theorem d_M_advertise_106 : decode b_M_advertise 106 = .ok (.invokevirtual 173, 3) := by decide +kernel
theorem d_M_advertise_109 : decode b_M_advertise 109 = .ok (.return_, 1) := by decide +kernel
theorem d_M_beActive_0 : decode b_M_beActive 0 = .ok (.aload_n 0, 1) := by decide +kernel
theorem d_M_beActive_1 : decode b_M_beActive 1 = .ok (.iload_n 1, 1) := by decide +kernel
theorem d_M_beActive_2 : decode b_M_beActive 2 = .ok (.aload_n 0, 1) := by decide +kernel
theorem d_M_beActive_3 : decode b_M_beActive 3 = .ok (.iload_n 1, 1) := by decide +kernel
theorem d_M_beActive_4 : decode b_M_beActive 4 = .ok (.invokevirtual 156, 3) := by decide +kernel
theorem d_M_beActive_7 : decode b_M_beActive 7 = .ok (.invokevirtual 177, 3) := by decide +kernel
theorem d_M_beActive_10 : decode b_M_beActive 10 = .ok (.aload_n 0, 1) := by decide +kernel
theorem d_M_beActive_11 : decode b_M_beActive 11 = .ok (.iconst 0, 1) := by decide +kernel
theorem d_M_beActive_12 : decode b_M_beActive 12 = .ok (.putfield 136, 3) := by decide +kernel
theorem d_M_beActive_15 : decode b_M_beActive 15 = .ok (.aload_n 0, 1) := by decide +kernel
theorem d_M_beActive_16 : decode b_M_beActive 16 = .ok (.iload_n 1, 1) := by decide +kernel
theorem d_M_beActive_17 : decode b_M_beActive 17 = .ok (.iconst 3, 1) := by decide +kernel
theorem d_M_beActive_18 : decode b_M_beActive 18 = .ok (.bipush 9, 2) := by decide +kernel
theorem d_M_beActive_20 : decode b_M_beActive 20 = .ok (.bipush 15, 2) := by decide +kernel
theorem d_M_beActive_22 : decode b_M_beActive 22 = .ok (.invokevirtual 173, 3) := by decide +kernel
theorem d_M_beActive_25 : decode b_M_beActive 25 = .ok (.aload_n 0, 1) := by decide +kernel
theorem d_M_beActive_26 : decode b_M_beActive 26 = .ok (.getfield 16, 3) := by decide +kernel
theorem d_M_beActive_29 : decode b_M_beActive 29 = .ok (.iload_n 1, 1) := by decide +kernel
theorem d_M_beActive_30 : decode b_M_beActive 30 = .ok (.aload_n 0, 1) := by decide +kernel
theorem d_M_beActive_31 : decode b_M_beActive 31 = .ok (.iload_n 1, 1) := by decide +kernel
theorem d_M_beActive_32 : decode b_M_beActive 32 = .ok (.iconst 1, 1) := by decide +kernel
theorem d_M_beActive_33 : decode b_M_beActive 33 = .ok (.invokevirtual 143, 3) := by decide +kernel
theorem d_M_beActive_36 : decode b_M_beActive 36 = .ok (.iastore, 1) := by decide +kernel
theorem d_M_beActive_37 : decode b_M_beActive 37 = .ok (.aload_n 0, 1) := by decide +kernel
theorem d_M_beActive_38 : decode b_M_beActive 38 = .ok (.getfield 13, 3) := by decide +kernel
theorem d_M_beActive_41 : decode b_M_beActive 41 = .ok (.iload_n 1, 1) := by decide +kernel
theorem d_M_beActive_42 : decode b_M_beActive 42 = .ok (.iconst 2, 1) := by decide +kernel
theorem d_M_beActive_43 : decode b_M_beActive 43 = .ok (.iastore, 1) := by decide +kernel
theorem d_M_beActive_44 : decode b_M_beActive 44 = .ok (.aload_n 0, 1) := by decide +kernel
theorem d_M_beActive_45 : decode b_M_beActive 45 = .ok (.getfield 22, 3) := by decide +kernel
theorem d_M_beActive_48 : decode b_M_beActive 48 = .ok (.iload_n 1, 1) := by decide +kernel
theorem d_M_beActive_49 : decode b_M_beActive 49 = .ok (.dup2, 1) := by decide +kernel
theorem d_M_beActive_50 : decode b_M_beActive 50 = .ok (.iaload, 1) := by decide +kernel
theorem d_M_beActive_51 : decode b_M_beActive 51 = .ok (.iconst 1, 1) := by decide +kernel
theorem d_M_beActive_52 : decode b_M_beActive 52 = .ok (.iadd, 1) := by decide +kernel
theorem d_M_beActive_53 : decode b_M_beActive 53 = .ok (.iastore, 1) := by decide +kernel
theorem d_M_beActive_54 : decode b_M_beActive 54 = .ok (.return_, 1) := by decide +kernel
theorem d_M_beBackup_0 : decode b_M_beBackup 0 = .ok (.aload_n 0, 1) := by decide +kernel
theorem d_M_beBackup_1 : decode b_M_beBackup 1 = .ok (.getfield 16, 3) := by decide +kernel
theorem d_M_beBackup_4 : decode b_M_beBackup 4 = .ok (.iload_n 1, 1) := by decide +kernel
theorem d_M_beBackup_5 : decode b_M_beBackup 5 = .ok (.iconst 3, 1) := by decide +kernel
theorem d_M_beBackup_6 : decode b_M_beBackup 6 = .ok (.aload_n 0, 1) := by decide +kernel
theorem d_M_beBackup_7 : decode b_M_beBackup 7 = .ok (.getfield 19, 3) := by decide +kernel
theorem d_M_beBackup_10 : decode b_M_beBackup 10 = .ok (.iload_n 1, 1) := by decide +kernel
theorem d_M_beBackup_11 : decode b_M_beBackup 11 = .ok (.iaload, 1) := by decide +kernel
theorem d_M_beBackup_12 : decode b_M_beBackup 12 = .ok (.imul, 1) := by decide +kernel
theorem d_M_beBackup_13 : decode b_M_beBackup 13 = .ok (.aload_n 0, 1) := by decide +kernel
theorem d_M_beBackup_14 : decode b_M_beBackup 14 = .ok (.iload_n 1, 1) := by decide +kernel
theorem d_M_beBackup_15 : decode b_M_beBackup 15 = .ok (.invokevirtual 180, 3) := by decide +kernel
theorem d_M_beBackup_18 : decode b_M_beBackup 18 = .ok (.iadd, 1) := by decide +kernel
theorem d_M_beBackup_19 : decode b_M_beBackup 19 = .ok (.invokestatic 183, 3) := by decide +kernel
theorem d_M_beBackup_22 : decode b_M_beBackup 22 = .ok (.iastore, 1) := by decide +kernel
theorem d_M_beBackup_23 : decode b_M_beBackup 23 = .ok (.aload_n 0, 1) := by decide +kernel
theorem d_M_beBackup_24 : decode b_M_beBackup 24 = .ok (.getfield 13, 3) := by decide +kernel
theorem d_M_beBackup_27 : decode b_M_beBackup 27 = .ok (.iload_n 1, 1) := by decide +kernel
theorem d_M_beBackup_28 : decode b_M_beBackup 28 = .ok (.iconst 1, 1) := by decide +kernel
theorem d_M_beBackup_29 : decode b_M_beBackup 29 = .ok (.iastore, 1) := by decide +kernel
theorem d_M_beBackup_30 : decode b_M_beBackup 30 = .ok (.return_, 1) := by decide +kernel
theorem d_M_start_0 : decode b_M_start 0 = .ok (.aload_n 0, 1) := by decide +kernel
theorem d_M_start_1 : decode b_M_start 1 = .ok (.iload_n 1, 1) := by decide +kernel
theorem d_M_start_2 : decode b_M_start 2 = .ok (.invokestatic 128, 3) := by decide +kernel
theorem d_M_start_5 : decode b_M_start 5 = .ok (.ifCond .ne 7, 3) := by decide +kernel
theorem d_M_start_8 : decode b_M_start 8 = .ok (.iconst 1, 1) := by decide +kernel
theorem d_M_start_9 : decode b_M_start 9 = .ok (.goto 17, 3) := by decide +kernel
theorem d_M_start_12 : decode b_M_start 12 = .ok (.aload_n 0, 1) := by decide +kernel
theorem d_M_start_13 : decode b_M_start 13 = .ok (.getfield 13, 3) := by decide +kernel
theorem d_M_start_16 : decode b_M_start 16 = .ok (.iload_n 1, 1) := by decide +kernel
theorem d_M_start_17 : decode b_M_start 17 = .ok (.iaload, 1) := by decide +kernel
theorem d_M_start_18 : decode b_M_start 18 = .ok (.ifCond .eq 7, 3) := by decide +kernel
theorem d_M_start_21 : decode b_M_start 21 = .ok (.iconst 2, 1) := by decide +kernel
theorem d_M_start_22 : decode b_M_start 22 = .ok (.goto 4, 3) := by decide +kernel
theorem d_M_start_25 : decode b_M_start 25 = .ok (.iconst 0, 1) := by decide +kernel
theorem d_M_start_26 : decode b_M_start 26 = .ok (.putfield 124, 3) := by decide +kernel
theorem d_M_start_29 : decode b_M_start 29 = .ok (.aload_n 0, 1) := by decide +kernel
theorem d_M_start_30 : decode b_M_start 30 = .ok (.getfield 124, 3) := by decide +kernel
theorem d_M_start_33 : decode b_M_start 33 = .ok (.ifCond .eq 4, 3) := by decide +kernel
theorem d_M_start_36 : decode b_M_start 36 = .ok (.return_, 1) := by decide +kernel
theorem d_M_start_37 : decode b_M_start 37 = .ok (.aload_n 0, 1) := by decide +kernel
theorem d_M_start_38 : decode b_M_start 38 = .ok (.getfield 19, 3) := by decide +kernel
theorem d_M_start_41 : decode b_M_start 41 = .ok (.iload_n 1, 1) := by decide +kernel
theorem d_M_start_42 : decode b_M_start 42 = .ok (.aload_n 0, 1) := by decide +kernel
theorem d_M_start_43 : decode b_M_start 43 = .ok (.iload_n 1, 1) := by decide +kernel
theorem d_M_start_44 : decode b_M_start 44 = .ok (.iconst 1, 1) := by decide +kernel
theorem d_M_start_45 : decode b_M_start 45 = .ok (.invokevirtual 143, 3) := by decide +kernel
theorem d_M_start_48 : decode b_M_start 48 = .ok (.iastore, 1) := by decide +kernel
theorem d_M_start_49 : decode b_M_start 49 = .ok (.aload_n 0, 1) := by decide +kernel
theorem d_M_start_50 : decode b_M_start 50 = .ok (.iload_n 1, 1) := by decide +kernel
theorem d_M_start_51 : decode b_M_start 51 = .ok (.invokevirtual 156, 3) := by decide +kernel
theorem d_M_start_54 : decode b_M_start 54 = .ok (.sipush 255, 3) := by decide +kernel
theorem d_M_start_57 : decode b_M_start 57 = .ok (.if_icmp .ne 11, 3) := by decide +kernel
theorem d_M_start_60 : decode b_M_start 60 = .ok (.aload_n 0, 1) := by decide +kernel
theorem d_M_start_61 : decode b_M_start 61 = .ok (.iload_n 1, 1) := by decide +kernel
theorem d_M_start_62 : decode b_M_start 62 = .ok (.invokevirtual 186, 3) := by decide +kernel
theorem d_M_start_65 : decode b_M_start 65 = .ok (.goto 8, 3) := by decide +kernel
theorem d_M_start_68 : decode b_M_start 68 = .ok (.aload_n 0, 1) := by decide +kernel
theorem d_M_start_69 : decode b_M_start 69 = .ok (.iload_n 1, 1) := by decide +kernel
theorem d_M_start_70 : decode b_M_start 70 = .ok (.invokevirtual 189, 3) := by decide +kernel
theorem d_M_start_73 : decode b_M_start 73 = .ok (.return_, 1) := by decide +kernel
theorem d_M_stop_0 : decode b_M_stop 0 = .ok (.aload_n 0, 1) := by decide +kernel
theorem d_M_stop_1 : decode b_M_stop 1 = .ok (.iload_n 1, 1) := by decide +kernel
theorem d_M_stop_2 : decode b_M_stop 2 = .ok (.invokestatic 128, 3) := by decide +kernel
theorem d_M_stop_5 : decode b_M_stop 5 = .ok (.ifCond .ne 7, 3) := by decide +kernel
theorem d_M_stop_8 : decode b_M_stop 8 = .ok (.iconst 1, 1) := by decide +kernel
theorem d_M_stop_9 : decode b_M_stop 9 = .ok (.goto 17, 3) := by decide +kernel
theorem d_M_stop_12 : decode b_M_stop 12 = .ok (.aload_n 0, 1) := by decide +kernel
theorem d_M_stop_13 : decode b_M_stop 13 = .ok (.getfield 13, 3) := by decide +kernel
theorem d_M_stop_16 : decode b_M_stop 16 = .ok (.iload_n 1, 1) := by decide +kernel
theorem d_M_stop_17 : decode b_M_stop 17 = .ok (.iaload, 1) := by decide +kernel
theorem d_M_stop_18 : decode b_M_stop 18 = .ok (.ifCond .ne 7, 3) := by decide +kernel
theorem d_M_stop_21 : decode b_M_stop 21 = .ok (.iconst 2, 1) := by decide +kernel
theorem d_M_stop_22 : decode b_M_stop 22 = .ok (.goto 4, 3) := by decide +kernel
theorem d_M_stop_25 : decode b_M_stop 25 = .ok (.iconst 0, 1) := by decide +kernel
theorem d_M_stop_26 : decode b_M_stop 26 = .ok (.putfield 124, 3) := by decide +kernel
theorem d_M_stop_29 : decode b_M_stop 29 = .ok (.aload_n 0, 1) := by decide +kernel
theorem d_M_stop_30 : decode b_M_stop 30 = .ok (.getfield 124, 3) := by decide +kernel
theorem d_M_stop_33 : decode b_M_stop 33 = .ok (.ifCond .eq 4, 3) := by decide +kernel
theorem d_M_stop_36 : decode b_M_stop 36 = .ok (.return_, 1) := by decide +kernel
theorem d_M_stop_37 : decode b_M_stop 37 = .ok (.aload_n 0, 1) := by decide +kernel
theorem d_M_stop_38 : decode b_M_stop 38 = .ok (.getfield 13, 3) := by decide +kernel
theorem d_M_stop_41 : decode b_M_stop 41 = .ok (.iload_n 1, 1) := by decide +kernel
theorem d_M_stop_42 : decode b_M_stop 42 = .ok (.iaload, 1) := by decide +kernel
theorem d_M_stop_43 : decode b_M_stop 43 = .ok (.iconst 2, 1) := by decide +kernel
theorem d_M_stop_44 : decode b_M_stop 44 = .ok (.if_icmp .ne 13, 3) := by decide +kernel
theorem d_M_stop_47 : decode b_M_stop 47 = .ok (.iload_n 2, 1) := by decide +kernel
theorem d_M_stop_48 : decode b_M_stop 48 = .ok (.ifCond .ne 9, 3) := by decide +kernel
theorem d_M_stop_51 : decode b_M_stop 51 = .ok (.aload_n 0, 1) := by decide +kernel
theorem d_M_stop_52 : decode b_M_stop 52 = .ok (.iload_n 1, 1) := by decide +kernel
theorem d_M_stop_53 : decode b_M_stop 53 = .ok (.iconst 0, 1) := by decide +kernel
theorem d_M_stop_54 : decode b_M_stop 54 = .ok (.invokevirtual 177, 3) := by decide +kernel
theorem d_M_stop_57 : decode b_M_stop 57 = .ok (.aload_n 0, 1) := by decide +kernel
theorem d_M_stop_58 : decode b_M_stop 58 = .ok (.getfield 13, 3) := by decide +kernel
theorem d_M_stop_61 : decode b_M_stop 61 = .ok (.iload_n 1, 1) := by decide +kernel
theorem d_M_stop_62 : decode b_M_stop 62 = .ok (.iconst 0, 1) := by decide +kernel
theorem d_M_stop_63 : decode b_M_stop 63 = .ok (.iastore, 1) := by decide +kernel
theorem d_M_stop_64 : decode b_M_stop 64 = .ok (.aload_n 0, 1) := by decide +kernel
theorem d_M_stop_65 : decode b_M_stop 65 = .ok (.getfield 16, 3) := by decide +kernel
theorem d_M_stop_68 : decode b_M_stop 68 = .ok (.iload_n 1, 1) := by decide +kernel
theorem d_M_stop_69 : decode b_M_stop 69 = .ok (.iconst 0, 1) := by decide +kernel
theorem d_M_stop_70 : decode b_M_stop 70 = .ok (.iastore, 1) := by decide +kernel
theorem d_M_stop_71 : decode b_M_stop 71 = .ok (.aload_n 0, 1) := by decide +kernel
theorem d_M_stop_72 : decode b_M_stop 72 = .ok (.getfield 19, 3) := by decide +kernel
theorem d_M_stop_75 : decode b_M_stop 75 = .ok (.iload_n 1, 1) := by decide +kernel
theorem d_M_stop_76 : decode b_M_stop 76 = .ok (.iconst 0, 1) := by decide +kernel
theorem d_M_stop_77 : decode b_M_stop 77 = .ok (.iastore, 1) := by decide +kernel
theorem d_M_stop_78 : decode b_M_stop 78 = .ok (.iconst 0, 1) := by decide +kernel
theorem d_M_stop_79 : decode b_M_stop 79 = .ok (.istore_n 3, 1) := by decide +kernel
theorem d_M_stop_80 : decode b_M_stop 80 = .ok (.iload_n 3, 1) := by decide +kernel
theorem d_M_stop_81 : decode b_M_stop 81 = .ok (.iconst 5, 1) := by decide +kernel
theorem d_M_stop_82 : decode b_M_stop 82 = .ok (.if_icmp .ge 20, 3) := by decide +kernel
theorem d_M_stop_85 : decode b_M_stop 85 = .ok (.aload_n 0, 1) := by decide +kernel
theorem d_M_stop_86 : decode b_M_stop 86 = .ok (.getfield 37, 3) := by decide +kernel
theorem d_M_stop_89 : decode b_M_stop 89 = .ok (.iconst 5, 1) := by decide +kernel
theorem d_M_stop_90 : decode b_M_stop 90 = .ok (.iload_n 1, 1) := by decide +kernel
theorem d_M_stop_91 : decode b_M_stop 91 = .ok (.imul, 1) := by decide +kernel
theorem d_M_stop_92 : decode b_M_stop 92 = .ok (.iload_n 3, 1) := by decide +kernel
theorem d_M_stop_93 : decode b_M_stop 93 = .ok (.iadd, 1) := by decide +kernel
theorem d_M_stop_94 : decode b_M_stop 94 = .ok (.iconst 0, 1) := by decide +kernel
theorem d_M_stop_95 : decode b_M_stop 95 = .ok (.bastore, 1) := by decide +kernel
theorem d_M_stop_96 : decode b_M_stop 96 = .ok (.iinc 3 1, 3) := by decide +kernel
theorem d_M_stop_99 : decode b_M_stop 99 = .ok (.goto (-19), 3) := by decide +kernel
theorem d_M_stop_102 : decode b_M_stop 102 = .ok (.return_, 1) := by decide +kernel
theorem d_M_timerFires_0 : decode b_M_timerFires 0 = .ok (.aload_n 0, 1) := by decide +kernel
theorem d_M_timerFires_1 : decode b_M_timerFires 1 = .ok (.getfield 13, 3) := by decide +kernel
theorem d_M_timerFires_4 : decode b_M_timerFires 4 = .ok (.iload_n 1, 1) := by decide +kernel
theorem d_M_timerFires_5 : decode b_M_timerFires 5 = .ok (.iaload, 1) := by decide +kernel
theorem d_M_timerFires_6 : decode b_M_timerFires 6 = .ok (.iconst 1, 1) := by decide +kernel
theorem d_M_timerFires_7 : decode b_M_timerFires 7 = .ok (.if_icmp .ne 9, 3) := by decide +kernel
theorem d_M_timerFires_10 : decode b_M_timerFires 10 = .ok (.aload_n 0, 1) := by decide +kernel
theorem d_M_timerFires_11 : decode b_M_timerFires 11 = .ok (.iload_n 1, 1) := by decide +kernel
theorem d_M_timerFires_12 : decode b_M_timerFires 12 = .ok (.invokevirtual 186, 3) := by decide +kernel
theorem d_M_timerFires_15 : decode b_M_timerFires 15 = .ok (.return_, 1) := by decide +kernel
theorem d_M_timerFires_16 : decode b_M_timerFires 16 = .ok (.aload_n 0, 1) := by decide +kernel
theorem d_M_timerFires_17 : decode b_M_timerFires 17 = .ok (.iload_n 1, 1) := by decide +kernel
theorem d_M_timerFires_18 : decode b_M_timerFires 18 = .ok (.aload_n 0, 1) := by decide +kernel
theorem d_M_timerFires_19 : decode b_M_timerFires 19 = .ok (.iload_n 1, 1) := by decide +kernel
theorem d_M_timerFires_20 : decode b_M_timerFires 20 = .ok (.invokevirtual 156, 3) := by decide +kernel
theorem d_M_timerFires_23 : decode b_M_timerFires 23 = .ok (.invokevirtual 177, 3) := by decide +kernel
theorem d_M_timerFires_26 : decode b_M_timerFires 26 = .ok (.aload_n 0, 1) := by decide +kernel
theorem d_M_timerFires_27 : decode b_M_timerFires 27 = .ok (.getfield 16, 3) := by decide +kernel
theorem d_M_timerFires_30 : decode b_M_timerFires 30 = .ok (.iload_n 1, 1) := by decide +kernel
theorem d_M_timerFires_31 : decode b_M_timerFires 31 = .ok (.aload_n 0, 1) := by decide +kernel
theorem d_M_timerFires_32 : decode b_M_timerFires 32 = .ok (.iload_n 1, 1) := by decide +kernel
theorem d_M_timerFires_33 : decode b_M_timerFires 33 = .ok (.iconst 1, 1) := by decide +kernel
theorem d_M_timerFires_34 : decode b_M_timerFires 34 = .ok (.invokevirtual 143, 3) := by decide +kernel
theorem d_M_timerFires_37 : decode b_M_timerFires 37 = .ok (.iastore, 1) := by decide +kernel
theorem d_M_timerFires_38 : decode b_M_timerFires 38 = .ok (.return_, 1) := by decide +kernel
theorem d_M_told_0 : decode b_M_told 0 = .ok (.lconst 0, 1) := by decide +kernel
theorem d_M_told_1 : decode b_M_told 1 = .ok (.lstore_n 3, 1) := by decide +kernel
theorem d_M_told_2 : decode b_M_told 2 = .ok (.iconst 0, 1) := by decide +kernel
theorem d_M_told_3 : decode b_M_told 3 = .ok (.istore 5, 2) := by decide +kernel
theorem d_M_told_5 : decode b_M_told 5 = .ok (.iload 5, 2) := by decide +kernel
theorem d_M_told_7 : decode b_M_told 7 = .ok (.iload_n 2, 1) := by decide +kernel
theorem d_M_told_8 : decode b_M_told 8 = .ok (.if_icmp .ge 25, 3) := by decide +kernel
theorem d_M_told_11 : decode b_M_told 11 = .ok (.lload_n 3, 1) := by decide +kernel
theorem d_M_told_12 : decode b_M_told 12 = .ok (.bipush 8, 2) := by decide +kernel
theorem d_M_told_14 : decode b_M_told 14 = .ok (.lshl, 1) := by decide +kernel
theorem d_M_told_15 : decode b_M_told 15 = .ok (.aload_n 0, 1) := by decide +kernel
theorem d_M_told_16 : decode b_M_told 16 = .ok (.getfield 116, 3) := by decide +kernel
theorem d_M_told_19 : decode b_M_told 19 = .ok (.iload_n 1, 1) := by decide +kernel
theorem d_M_told_20 : decode b_M_told 20 = .ok (.iload 5, 2) := by decide +kernel
theorem d_M_told_22 : decode b_M_told 22 = .ok (.iadd, 1) := by decide +kernel
theorem d_M_told_23 : decode b_M_told 23 = .ok (.iaload, 1) := by decide +kernel
theorem d_M_told_24 : decode b_M_told 24 = .ok (.i2l, 1) := by decide +kernel
theorem d_M_told_25 : decode b_M_told 25 = .ok (.lor, 1) := by decide +kernel
theorem d_M_told_26 : decode b_M_told 26 = .ok (.lstore_n 3, 1) := by decide +kernel
theorem d_M_told_27 : decode b_M_told 27 = .ok (.iinc 5 1, 3) := by decide +kernel
theorem d_M_told_30 : decode b_M_told 30 = .ok (.goto (-25), 3) := by decide +kernel
theorem d_M_told_33 : decode b_M_told 33 = .ok (.lload_n 3, 1) := by decide +kernel
theorem d_M_told_34 : decode b_M_told 34 = .ok (.lreturn, 1) := by decide +kernel
theorem d_M_advertised_0 : decode b_M_advertised 0 = .ok (.iload_n 2, 1) := by decide +kernel
theorem d_M_advertised_1 : decode b_M_advertised 1 = .ok (.sipush 255, 3) := by decide +kernel
theorem d_M_advertised_4 : decode b_M_advertised 4 = .ok (.if_icmp .ne 55, 3) := by decide +kernel
theorem d_M_advertised_7 : decode b_M_advertised 7 = .ok (.aload_n 0, 1) := by decide +kernel
theorem d_M_advertised_8 : decode b_M_advertised 8 = .ok (.getfield 192, 3) := by decide +kernel
theorem d_M_advertised_11 : decode b_M_advertised 11 = .ok (.bipush 12, 2) := by decide +kernel
theorem d_M_advertised_13 : decode b_M_advertised 13 = .ok (.if_icmp .ne 46, 3) := by decide +kernel
theorem d_M_advertised_16 : decode b_M_advertised 16 = .ok (.aload_n 0, 1) := by decide +kernel
theorem d_M_advertised_17 : decode b_M_advertised 17 = .ok (.getfield 116, 3) := by decide +kernel
theorem d_M_advertised_20 : decode b_M_advertised 20 = .ok (.iconst 0, 1) := by decide +kernel
theorem d_M_advertised_21 : decode b_M_advertised 21 = .ok (.iaload, 1) := by decide +kernel
theorem d_M_advertised_22 : decode b_M_advertised 22 = .ok (.bipush 49, 2) := by decide +kernel
theorem d_M_advertised_24 : decode b_M_advertised 24 = .ok (.if_icmp .ne 35, 3) := by decide +kernel
theorem d_M_advertised_27 : decode b_M_advertised 27 = .ok (.aload_n 0, 1) := by decide +kernel
theorem d_M_advertised_28 : decode b_M_advertised 28 = .ok (.getfield 116, 3) := by decide +kernel
theorem d_M_advertised_31 : decode b_M_advertised 31 = .ok (.iconst 1, 1) := by decide +kernel
theorem d_M_advertised_32 : decode b_M_advertised 32 = .ok (.iaload, 1) := by decide +kernel
theorem d_M_advertised_33 : decode b_M_advertised 33 = .ok (.aload_n 0, 1) := by decide +kernel
theorem d_M_advertised_34 : decode b_M_advertised 34 = .ok (.iload_n 1, 1) := by decide +kernel
theorem d_M_advertised_35 : decode b_M_advertised 35 = .ok (.iconst 3, 1) := by decide +kernel
theorem d_M_advertised_36 : decode b_M_advertised 36 = .ok (.invokevirtual 143, 3) := by decide +kernel
theorem d_M_advertised_39 : decode b_M_advertised 39 = .ok (.if_icmp .ne 20, 3) := by decide +kernel
theorem d_M_advertised_42 : decode b_M_advertised 42 = .ok (.aload_n 0, 1) := by decide +kernel
theorem d_M_advertised_43 : decode b_M_advertised 43 = .ok (.bipush 8, 2) := by decide +kernel
theorem d_M_advertised_45 : decode b_M_advertised 45 = .ok (.iconst 4, 1) := by decide +kernel
theorem d_M_advertised_46 : decode b_M_advertised 46 = .ok (.invokevirtual 195, 3) := by decide +kernel
theorem d_M_advertised_49 : decode b_M_advertised 49 = .ok (.l2i, 1) := by decide +kernel
theorem d_M_advertised_50 : decode b_M_advertised 50 = .ok (.aload_n 0, 1) := by decide +kernel
theorem d_M_advertised_51 : decode b_M_advertised 51 = .ok (.iload_n 1, 1) := by decide +kernel
theorem d_M_advertised_52 : decode b_M_advertised 52 = .ok (.iconst 5, 1) := by decide +kernel
theorem d_M_advertised_53 : decode b_M_advertised 53 = .ok (.invokevirtual 143, 3) := by decide +kernel
theorem d_M_advertised_56 : decode b_M_advertised 56 = .ok (.if_icmp .eq 5, 3) := by decide +kernel
theorem d_M_advertised_59 : decode b_M_advertised 59 = .ok (.iconst 0, 1) := by decide +kernel
theorem d_M_advertised_60 : decode b_M_advertised 60 = .ok (.ireturn, 1) := by decide +kernel
theorem d_M_advertised_61 : decode b_M_advertised 61 = .ok (.aload_n 0, 1) := by decide +kernel
theorem d_M_advertised_62 : decode b_M_advertised 62 = .ok (.getfield 116, 3) := by decide +kernel
theorem d_M_advertised_65 : decode b_M_advertised 65 = .ok (.iconst 3, 1) := by decide +kernel
theorem d_M_advertised_66 : decode b_M_advertised 66 = .ok (.iaload, 1) := by decide +kernel
theorem d_M_advertised_67 : decode b_M_advertised 67 = .ok (.iconst 1, 1) := by decide +kernel
theorem d_M_advertised_68 : decode b_M_advertised 68 = .ok (.if_icmp .ne 28, 3) := by decide +kernel
theorem d_M_advertised_71 : decode b_M_advertised 71 = .ok (.aload_n 0, 1) := by decide +kernel
theorem d_M_advertised_72 : decode b_M_advertised 72 = .ok (.getfield 116, 3) := by decide +kernel
theorem d_M_advertised_75 : decode b_M_advertised 75 = .ok (.iload_n 3, 1) := by decide +kernel
theorem d_M_advertised_76 : decode b_M_advertised 76 = .ok (.invokestatic 169, 3) := by decide +kernel
theorem d_M_advertised_79 : decode b_M_advertised 79 = .ok (.ldc 160, 2) := by decide +kernel
theorem d_M_advertised_81 : decode b_M_advertised 81 = .ok (.if_icmp .ne 15, 3) := by decide +kernel
theorem d_M_advertised_84 : decode b_M_advertised 84 = .ok (.aload_n 0, 1) := by decide +kernel
theorem d_M_advertised_85 : decode b_M_advertised 85 = .ok (.iload_n 1, 1) := by decide +kernel
theorem d_M_advertised_86 : decode b_M_advertised 86 = .ok (.iconst 0, 1) := by decide +kernel
theorem d_M_advertised_87 : decode b_M_advertised 87 = .ok (.invokevirtual 143, 3) := by decide +kernel
theorem d_M_advertised_90 : decode b_M_advertised 90 = .ok (.sipush 255, 3) := by decide +kernel
theorem d_M_advertised_93 : decode b_M_advertised 93 = .ok (.if_icmp .ne 5, 3) := by decide +kernel
theorem d_M_advertised_96 : decode b_M_advertised 96 = .ok (.iconst 0, 1) := by decide +kernel
theorem d_M_advertised_97 : decode b_M_advertised 97 = .ok (.ireturn, 1) := by decide +kernel
theorem d_M_advertised_98 : decode b_M_advertised 98 = .ok (.aload_n 0, 1) := by decide +kernel
theorem d_M_advertised_99 : decode b_M_advertised 99 = .ok (.getfield 25, 3) := by decide +kernel
theorem d_M_advertised_102 : decode b_M_advertised 102 = .ok (.iload_n 1, 1) := by decide +kernel
theorem d_M_advertised_103 : decode b_M_advertised 103 = .ok (.dup2, 1) := by decide +kernel
theorem d_M_advertised_104 : decode b_M_advertised 104 = .ok (.iaload, 1) := by decide +kernel
theorem d_M_advertised_105 : decode b_M_advertised 105 = .ok (.iconst 1, 1) := by decide +kernel
theorem d_M_advertised_106 : decode b_M_advertised 106 = .ok (.iadd, 1) := by decide +kernel
theorem d_M_advertised_107 : decode b_M_advertised 107 = .ok (.iastore, 1) := by decide +kernel
theorem d_M_advertised_108 : decode b_M_advertised 108 = .ok (.aload_n 0, 1) := by decide +kernel
theorem d_M_advertised_109 : decode b_M_advertised 109 = .ok (.getfield 116, 3) := by decide +kernel
theorem d_M_advertised_112 : decode b_M_advertised 112 = .ok (.iconst 2, 1) := by decide +kernel
theorem d_M_advertised_113 : decode b_M_advertised 113 = .ok (.iaload, 1) := by decide +kernel
theorem d_M_advertised_114 : decode b_M_advertised 114 = .ok (.istore 4, 2) := by decide +kernel
theorem d_M_advertised_116 : decode b_M_advertised 116 = .ok (.aload_n 0, 1) := by decide +kernel
theorem d_M_advertised_117 : decode b_M_advertised 117 = .ok (.iconst 4, 1) := by decide +kernel
theorem d_M_advertised_118 : decode b_M_advertised 118 = .ok (.iconst 2, 1) := by decide +kernel
theorem d_M_advertised_119 : decode b_M_advertised 119 = .ok (.invokevirtual 195, 3) := by decide +kernel
theorem d_M_advertised_122 : decode b_M_advertised 122 = .ok (.l2i, 1) := by decide +kernel
theorem d_M_advertised_123 : decode b_M_advertised 123 = .ok (.sipush 4095, 3) := by decide +kernel
theorem d_M_advertised_126 : decode b_M_advertised 126 = .ok (.iand, 1) := by decide +kernel
theorem d_M_advertised_127 : decode b_M_advertised 127 = .ok (.invokestatic 183, 3) := by decide +kernel
theorem d_M_advertised_130 : decode b_M_advertised 130 = .ok (.istore 5, 2) := by decide +kernel
theorem d_M_advertised_132 : decode b_M_advertised 132 = .ok (.aload_n 0, 1) := by decide +kernel
theorem d_M_advertised_133 : decode b_M_advertised 133 = .ok (.getfield 13, 3) := by decide +kernel
theorem d_M_advertised_136 : decode b_M_advertised 136 = .ok (.iload_n 1, 1) := by decide +kernel
theorem d_M_advertised_137 : decode b_M_advertised 137 = .ok (.iaload, 1) := by decide +kernel
theorem d_M_advertised_138 : decode b_M_advertised 138 = .ok (.iconst 1, 1) := by decide +kernel
theorem d_M_advertised_139 : decode b_M_advertised 139 = .ok (.if_icmp .ne 77, 3) := by decide +kernel
theorem d_M_advertised_142 : decode b_M_advertised 142 = .ok (.iload 4, 2) := by decide +kernel
theorem d_M_advertised_144 : decode b_M_advertised 144 = .ok (.ifCond .ne 20, 3) := by decide +kernel
theorem d_M_advertised_147 : decode b_M_advertised 147 = .ok (.aload_n 0, 1) := by decide +kernel
theorem d_M_advertised_148 : decode b_M_advertised 148 = .ok (.getfield 16, 3) := by decide +kernel
theorem d_M_advertised_151 : decode b_M_advertised 151 = .ok (.iload_n 1, 1) := by decide +kernel
theorem d_M_advertised_152 : decode b_M_advertised 152 = .ok (.aload_n 0, 1) := by decide +kernel
theorem d_M_advertised_153 : decode b_M_advertised 153 = .ok (.iload_n 1, 1) := by decide +kernel
theorem d_M_advertised_154 : decode b_M_advertised 154 = .ok (.invokevirtual 180, 3) := by decide +kernel
theorem d_M_advertised_157 : decode b_M_advertised 157 = .ok (.invokestatic 183, 3) := by decide +kernel
theorem d_M_advertised_160 : decode b_M_advertised 160 = .ok (.iastore, 1) := by decide +kernel
theorem d_M_advertised_161 : decode b_M_advertised 161 = .ok (.goto 53, 3) := by decide +kernel
theorem d_M_advertised_164 : decode b_M_advertised 164 = .ok (.aload_n 0, 1) := by decide +kernel
theorem d_M_advertised_165 : decode b_M_advertised 165 = .ok (.iload_n 1, 1) := by decide +kernel
theorem d_M_advertised_166 : decode b_M_advertised 166 = .ok (.iconst 2, 1) := by decide +kernel
theorem d_M_advertised_167 : decode b_M_advertised 167 = .ok (.invokevirtual 143, 3) := by decide +kernel
theorem d_M_advertised_170 : decode b_M_advertised 170 = .ok (.ifCond .eq 13, 3) := by decide +kernel
theorem d_M_advertised_173 : decode b_M_advertised 173 = .ok (.iload 4, 2) := by decide +kernel
theorem d_M_advertised_175 : decode b_M_advertised 175 = .ok (.aload_n 0, 1) := by decide +kernel
theorem d_M_advertised_176 : decode b_M_advertised 176 = .ok (.iload_n 1, 1) := by decide +kernel
theorem d_M_advertised_177 : decode b_M_advertised 177 = .ok (.invokevirtual 156, 3) := by decide +kernel
theorem d_M_advertised_180 : decode b_M_advertised 180 = .ok (.if_icmp .lt 34, 3) := by decide +kernel
theorem d_M_advertised_183 : decode b_M_advertised 183 = .ok (.aload_n 0, 1) := by decide +kernel
theorem d_M_advertised_184 : decode b_M_advertised 184 = .ok (.getfield 19, 3) := by decide +kernel
theorem d_M_advertised_187 : decode b_M_advertised 187 = .ok (.iload_n 1, 1) := by decide +kernel
theorem d_M_advertised_188 : decode b_M_advertised 188 = .ok (.iload 5, 2) := by decide +kernel
theorem d_M_advertised_190 : decode b_M_advertised 190 = .ok (.iastore, 1) := by decide +kernel
theorem d_M_advertised_191 : decode b_M_advertised 191 = .ok (.aload_n 0, 1) := by decide +kernel
theorem d_M_advertised_192 : decode b_M_advertised 192 = .ok (.getfield 16, 3) := by decide +kernel
theorem d_M_advertised_195 : decode b_M_advertised 195 = .ok (.iload_n 1, 1) := by decide +kernel
theorem d_M_advertised_196 : decode b_M_advertised 196 = .ok (.iconst 3, 1) := by decide +kernel
theorem d_M_advertised_197 : decode b_M_advertised 197 = .ok (.aload_n 0, 1) := by decide +kernel
theorem d_M_advertised_198 : decode b_M_advertised 198 = .ok (.getfield 19, 3) := by decide +kernel
theorem d_M_advertised_201 : decode b_M_advertised 201 = .ok (.iload_n 1, 1) := by decide +kernel
theorem d_M_advertised_202 : decode b_M_advertised 202 = .ok (.iaload, 1) := by decide +kernel
theorem d_M_advertised_203 : decode b_M_advertised 203 = .ok (.imul, 1) := by decide +kernel
theorem d_M_advertised_204 : decode b_M_advertised 204 = .ok (.aload_n 0, 1) := by decide +kernel
theorem d_M_advertised_205 : decode b_M_advertised 205 = .ok (.iload_n 1, 1) := by decide +kernel
theorem d_M_advertised_206 : decode b_M_advertised 206 = .ok (.invokevirtual 180, 3) := by decide +kernel
theorem d_M_advertised_209 : decode b_M_advertised 209 = .ok (.iadd, 1) := by decide +kernel
theorem d_M_advertised_210 : decode b_M_advertised 210 = .ok (.invokestatic 183, 3) := by decide +kernel
theorem d_M_advertised_213 : decode b_M_advertised 213 = .ok (.iastore, 1) := by decide +kernel
theorem d_M_advertised_214 : decode b_M_advertised 214 = .ok (.iconst 1, 1) := by decide +kernel
theorem d_M_advertised_215 : decode b_M_advertised 215 = .ok (.ireturn, 1) := by decide +kernel
theorem d_M_advertised_216 : decode b_M_advertised 216 = .ok (.aload_n 0, 1) := by decide +kernel
theorem d_M_advertised_217 : decode b_M_advertised 217 = .ok (.iload_n 1, 1) := by decide +kernel
theorem d_M_advertised_218 : decode b_M_advertised 218 = .ok (.invokevirtual 156, 3) := by decide +kernel
theorem d_M_advertised_221 : decode b_M_advertised 221 = .ok (.istore 6, 2) := by decide +kernel
theorem d_M_advertised_223 : decode b_M_advertised 223 = .ok (.iload 4, 2) := by decide +kernel
theorem d_M_advertised_225 : decode b_M_advertised 225 = .ok (.iload 6, 2) := by decide +kernel
theorem d_M_advertised_227 : decode b_M_advertised 227 = .ok (.if_icmp .gt 31, 3) := by decide +kernel
theorem d_M_advertised_230 : decode b_M_advertised 230 = .ok (.iload 4, 2) := by decide +kernel
theorem d_M_advertised_232 : decode b_M_advertised 232 = .ok (.iload 6, 2) := by decide +kernel
theorem d_M_advertised_234 : decode b_M_advertised 234 = .ok (.if_icmp .ne 28, 3) := by decide +kernel
theorem d_M_advertised_237 : decode b_M_advertised 237 = .ok (.iload_n 3, 1) := by decide +kernel
theorem d_M_advertised_238 : decode b_M_advertised 238 = .ok (.i2l, 1) := by decide +kernel
theorem d_M_advertised_239 : decode b_M_advertised 239 = .ok (.ldc2_w 199, 3) := by decide +kernel
theorem d_M_advertised_242 : decode b_M_advertised 242 = .ok (.land, 1) := by decide +kernel
theorem d_M_advertised_243 : decode b_M_advertised 243 = .ok (.aload_n 0, 1) := by decide +kernel
theorem d_M_advertised_244 : decode b_M_advertised 244 = .ok (.iload_n 1, 1) := by decide +kernel
theorem d_M_advertised_245 : decode b_M_advertised 245 = .ok (.iconst 4, 1) := by decide +kernel
theorem d_M_advertised_246 : decode b_M_advertised 246 = .ok (.invokevirtual 143, 3) := by decide +kernel
theorem d_M_advertised_249 : decode b_M_advertised 249 = .ok (.i2l, 1) := by decide +kernel
theorem d_M_advertised_250 : decode b_M_advertised 250 = .ok (.ldc2_w 199, 3) := by decide +kernel
theorem d_M_advertised_253 : decode b_M_advertised 253 = .ok (.land, 1) := by decide +kernel
theorem d_M_advertised_254 : decode b_M_advertised 254 = .ok (.lcmp, 1) := by decide +kernel
theorem d_M_advertised_255 : decode b_M_advertised 255 = .ok (.ifCond .le 7, 3) := by decide +kernel
theorem d_M_advertised_258 : decode b_M_advertised 258 = .ok (.iconst 1, 1) := by decide +kernel
theorem d_M_advertised_259 : decode b_M_advertised 259 = .ok (.goto 4, 3) := by decide +kernel
theorem d_M_advertised_262 : decode b_M_advertised 262 = .ok (.iconst 0, 1) := by decide +kernel
theorem d_M_advertised_263 : decode b_M_advertised 263 = .ok (.istore 7, 2) := by decide +kernel
theorem d_M_advertised_265 : decode b_M_advertised 265 = .ok (.iload 4, 2) := by decide +kernel
theorem d_M_advertised_267 : decode b_M_advertised 267 = .ok (.ifCond .ne 25, 3) := by decide +kernel
theorem d_M_advertised_270 : decode b_M_advertised 270 = .ok (.aload_n 0, 1) := by decide +kernel
theorem d_M_advertised_271 : decode b_M_advertised 271 = .ok (.iload_n 1, 1) := by decide +kernel
theorem d_M_advertised_272 : decode b_M_advertised 272 = .ok (.iload 6, 2) := by decide +kernel
theorem d_M_advertised_274 : decode b_M_advertised 274 = .ok (.invokevirtual 177, 3) := by decide +kernel
theorem d_M_advertised_277 : decode b_M_advertised 277 = .ok (.aload_n 0, 1) := by decide +kernel
theorem d_M_advertised_278 : decode b_M_advertised 278 = .ok (.getfield 16, 3) := by decide +kernel
theorem d_M_advertised_281 : decode b_M_advertised 281 = .ok (.iload_n 1, 1) := by decide +kernel
theorem d_M_advertised_282 : decode b_M_advertised 282 = .ok (.aload_n 0, 1) := by decide +kernel
theorem d_M_advertised_283 : decode b_M_advertised 283 = .ok (.iload_n 1, 1) := by decide +kernel
theorem d_M_advertised_284 : decode b_M_advertised 284 = .ok (.iconst 1, 1) := by decide +kernel
theorem d_M_advertised_285 : decode b_M_advertised 285 = .ok (.invokevirtual 143, 3) := by decide +kernel
theorem d_M_advertised_288 : decode b_M_advertised 288 = .ok (.iastore, 1) := by decide +kernel
theorem d_M_advertised_289 : decode b_M_advertised 289 = .ok (.goto 31, 3) := by decide +kernel
theorem d_M_advertised_292 : decode b_M_advertised 292 = .ok (.iload 7, 2) := by decide +kernel
theorem d_M_advertised_294 : decode b_M_advertised 294 = .ok (.ifCond .eq 19, 3) := by decide +kernel
theorem d_M_advertised_297 : decode b_M_advertised 297 = .ok (.aload_n 0, 1) := by decide +kernel
theorem d_M_advertised_298 : decode b_M_advertised 298 = .ok (.getfield 19, 3) := by decide +kernel
theorem d_M_advertised_301 : decode b_M_advertised 301 = .ok (.iload_n 1, 1) := by decide +kernel
theorem d_M_advertised_302 : decode b_M_advertised 302 = .ok (.iload 5, 2) := by decide +kernel
theorem d_M_advertised_304 : decode b_M_advertised 304 = .ok (.iastore, 1) := by decide +kernel
theorem d_M_advertised_305 : decode b_M_advertised 305 = .ok (.aload_n 0, 1) := by decide +kernel
theorem d_M_advertised_306 : decode b_M_advertised 306 = .ok (.iload_n 1, 1) := by decide +kernel
theorem d_M_advertised_307 : decode b_M_advertised 307 = .ok (.invokevirtual 189, 3) := by decide +kernel
theorem d_M_advertised_310 : decode b_M_advertised 310 = .ok (.goto 10, 3) := by decide +kernel
theorem d_M_advertised_313 : decode b_M_advertised 313 = .ok (.aload_n 0, 1) := by decide +kernel
theorem d_M_advertised_314 : decode b_M_advertised 314 = .ok (.iload_n 1, 1) := by decide +kernel
theorem d_M_advertised_315 : decode b_M_advertised 315 = .ok (.iload 6, 2) := by decide +kernel
theorem d_M_advertised_317 : decode b_M_advertised 317 = .ok (.invokevirtual 177, 3) := by decide +kernel
theorem d_M_advertised_320 : decode b_M_advertised 320 = .ok (.iconst 1, 1) := by decide +kernel
theorem d_M_advertised_321 : decode b_M_advertised 321 = .ok (.ireturn, 1) := by decide +kernel
theorem d_M_ask_0 : decode b_M_ask 0 = .ok (.aload_n 0, 1) := by decide +kernel
theorem d_M_ask_1 : decode b_M_ask 1 = .ok (.iload_n 1, 1) := by decide +kernel
theorem d_M_ask_2 : decode b_M_ask 2 = .ok (.invokestatic 128, 3) := by decide +kernel
theorem d_M_ask_5 : decode b_M_ask 5 = .ok (.ifCond .ne 7, 3) := by decide +kernel
theorem d_M_ask_8 : decode b_M_ask 8 = .ok (.iconst 1, 1) := by decide +kernel
theorem d_M_ask_9 : decode b_M_ask 9 = .ok (.goto 17, 3) := by decide +kernel
theorem d_M_ask_12 : decode b_M_ask 12 = .ok (.aload_n 0, 1) := by decide +kernel
theorem d_M_ask_13 : decode b_M_ask 13 = .ok (.getfield 13, 3) := by decide +kernel
theorem d_M_ask_16 : decode b_M_ask 16 = .ok (.iload_n 1, 1) := by decide +kernel
theorem d_M_ask_17 : decode b_M_ask 17 = .ok (.iaload, 1) := by decide +kernel
theorem d_M_ask_18 : decode b_M_ask 18 = .ok (.ifCond .ne 7, 3) := by decide +kernel
theorem d_M_ask_21 : decode b_M_ask 21 = .ok (.iconst 2, 1) := by decide +kernel
theorem d_M_ask_22 : decode b_M_ask 22 = .ok (.goto 4, 3) := by decide +kernel
theorem d_M_ask_25 : decode b_M_ask 25 = .ok (.iconst 0, 1) := by decide +kernel
theorem d_M_ask_26 : decode b_M_ask 26 = .ok (.putfield 124, 3) := by decide +kernel
theorem d_M_ask_29 : decode b_M_ask 29 = .ok (.aload_n 0, 1) := by decide +kernel
theorem d_M_ask_30 : decode b_M_ask 30 = .ok (.getfield 124, 3) := by decide +kernel
theorem d_M_ask_33 : decode b_M_ask 33 = .ok (.ifCond .eq 4, 3) := by decide +kernel
theorem d_M_ask_36 : decode b_M_ask 36 = .ok (.return_, 1) := by decide +kernel
theorem d_M_ask_37 : decode b_M_ask 37 = .ok (.aload_n 0, 1) := by decide +kernel
theorem d_M_ask_38 : decode b_M_ask 38 = .ok (.iconst 0, 1) := by decide +kernel
theorem d_M_ask_39 : decode b_M_ask 39 = .ok (.putfield 136, 3) := by decide +kernel
theorem d_M_ask_42 : decode b_M_ask 42 = .ok (.aload_n 0, 1) := by decide +kernel
theorem d_M_ask_43 : decode b_M_ask 43 = .ok (.iload_n 1, 1) := by decide +kernel
theorem d_M_ask_44 : decode b_M_ask 44 = .ok (.iconst 3, 1) := by decide +kernel
theorem d_M_ask_45 : decode b_M_ask 45 = .ok (.iload_n 1, 1) := by decide +kernel
theorem d_M_ask_46 : decode b_M_ask 46 = .ok (.bipush 15, 2) := by decide +kernel
theorem d_M_ask_48 : decode b_M_ask 48 = .ok (.invokevirtual 173, 3) := by decide +kernel
theorem d_M_ask_51 : decode b_M_ask 51 = .ok (.return_, 1) := by decide +kernel
theorem d_M_sendTime_0 : decode b_M_sendTime 0 = .ok (.aload_n 0, 1) := by decide +kernel
theorem d_M_sendTime_1 : decode b_M_sendTime 1 = .ok (.getfield 41, 3) := by decide +kernel
theorem d_M_sendTime_4 : decode b_M_sendTime 4 = .ok (.iload_n 1, 1) := by decide +kernel
theorem d_M_sendTime_5 : decode b_M_sendTime 5 = .ok (.iaload, 1) := by decide +kernel
theorem d_M_sendTime_6 : decode b_M_sendTime 6 = .ok (.iconst 3, 1) := by decide +kernel
theorem d_M_sendTime_7 : decode b_M_sendTime 7 = .ok (.if_icmp .ne 12, 3) := by decide +kernel
theorem d_M_sendTime_10 : decode b_M_sendTime 10 = .ok (.aload_n 0, 1) := by decide +kernel
theorem d_M_sendTime_11 : decode b_M_sendTime 11 = .ok (.getfield 59, 3) := by decide +kernel
theorem d_M_sendTime_14 : decode b_M_sendTime 14 = .ok (.iload_n 1, 1) := by decide +kernel
theorem d_M_sendTime_15 : decode b_M_sendTime 15 = .ok (.iaload, 1) := by decide +kernel
theorem d_M_sendTime_16 : decode b_M_sendTime 16 = .ok (.goto 14, 3) := by decide +kernel
theorem d_M_sendTime_19 : decode b_M_sendTime 19 = .ok (.bipush 100, 2) := by decide +kernel
theorem d_M_sendTime_21 : decode b_M_sendTime 21 = .ok (.aload_n 0, 1) := by decide +kernel
theorem d_M_sendTime_22 : decode b_M_sendTime 22 = .ok (.getfield 59, 3) := by decide +kernel
theorem d_M_sendTime_25 : decode b_M_sendTime 25 = .ok (.iload_n 1, 1) := by decide +kernel
theorem d_M_sendTime_26 : decode b_M_sendTime 26 = .ok (.iaload, 1) := by decide +kernel
theorem d_M_sendTime_27 : decode b_M_sendTime 27 = .ok (.invokestatic 153, 3) := by decide +kernel
theorem d_M_sendTime_30 : decode b_M_sendTime 30 = .ok (.aload_n 0, 1) := by decide +kernel
theorem d_M_sendTime_31 : decode b_M_sendTime 31 = .ok (.getfield 68, 3) := by decide +kernel
theorem d_M_sendTime_34 : decode b_M_sendTime 34 = .ok (.iload_n 1, 1) := by decide +kernel
theorem d_M_sendTime_35 : decode b_M_sendTime 35 = .ok (.iaload, 1) := by decide +kernel
theorem d_M_sendTime_36 : decode b_M_sendTime 36 = .ok (.invokestatic 153, 3) := by decide +kernel
theorem d_M_sendTime_39 : decode b_M_sendTime 39 = .ok (.ireturn, 1) := by decide +kernel
theorem d_M_setSend_0 : decode b_M_setSend 0 = .ok (.aload_n 0, 1) := by decide +kernel
theorem d_M_setSend_1 : decode b_M_setSend 1 = .ok (.getfield 80, 3) := by decide +kernel
theorem d_M_setSend_4 : decode b_M_setSend 4 = .ok (.iload_n 1, 1) := by decide +kernel
theorem d_M_setSend_5 : decode b_M_setSend 5 = .ok (.aload_n 0, 1) := by decide +kernel
theorem d_M_setSend_6 : decode b_M_setSend 6 = .ok (.getfield 68, 3) := by decide +kernel
theorem d_M_setSend_9 : decode b_M_setSend 9 = .ok (.iload_n 1, 1) := by decide +kernel
theorem d_M_setSend_10 : decode b_M_setSend 10 = .ok (.iaload, 1) := by decide +kernel
theorem d_M_setSend_11 : decode b_M_setSend 11 = .ok (.ifCond .ne 7, 3) := by decide +kernel
theorem d_M_setSend_14 : decode b_M_setSend 14 = .ok (.iconst 0, 1) := by decide +kernel
theorem d_M_setSend_15 : decode b_M_setSend 15 = .ok (.goto 8, 3) := by decide +kernel
theorem d_M_setSend_18 : decode b_M_setSend 18 = .ok (.aload_n 0, 1) := by decide +kernel
theorem d_M_setSend_19 : decode b_M_setSend 19 = .ok (.iload_n 1, 1) := by decide +kernel
theorem d_M_setSend_20 : decode b_M_setSend 20 = .ok (.invokevirtual 201, 3) := by decide +kernel
theorem d_M_setSend_23 : decode b_M_setSend 23 = .ok (.iastore, 1) := by decide +kernel
theorem d_M_setSend_24 : decode b_M_setSend 24 = .ok (.return_, 1) := by decide +kernel
theorem d_M_hurry_0 : decode b_M_hurry 0 = .ok (.aload_n 0, 1) := by decide +kernel
theorem d_M_hurry_1 : decode b_M_hurry 1 = .ok (.getfield 68, 3) := by decide +kernel
theorem d_M_hurry_4 : decode b_M_hurry 4 = .ok (.iload_n 1, 1) := by decide +kernel
theorem d_M_hurry_5 : decode b_M_hurry 5 = .ok (.iaload, 1) := by decide +kernel
theorem d_M_hurry_6 : decode b_M_hurry 6 = .ok (.ifCond .eq 26, 3) := by decide +kernel
theorem d_M_hurry_9 : decode b_M_hurry 9 = .ok (.aload_n 0, 1) := by decide +kernel
theorem d_M_hurry_10 : decode b_M_hurry 10 = .ok (.getfield 80, 3) := by decide +kernel
theorem d_M_hurry_13 : decode b_M_hurry 13 = .ok (.iload_n 1, 1) := by decide +kernel
theorem d_M_hurry_14 : decode b_M_hurry 14 = .ok (.iaload, 1) := by decide +kernel
theorem d_M_hurry_15 : decode b_M_hurry 15 = .ok (.ifCond .eq 17, 3) := by decide +kernel
theorem d_M_hurry_18 : decode b_M_hurry 18 = .ok (.aload_n 0, 1) := by decide +kernel
theorem d_M_hurry_19 : decode b_M_hurry 19 = .ok (.getfield 80, 3) := by decide +kernel
theorem d_M_hurry_22 : decode b_M_hurry 22 = .ok (.iload_n 1, 1) := by decide +kernel
theorem d_M_hurry_23 : decode b_M_hurry 23 = .ok (.iaload, 1) := by decide +kernel
theorem d_M_hurry_24 : decode b_M_hurry 24 = .ok (.aload_n 0, 1) := by decide +kernel
theorem d_M_hurry_25 : decode b_M_hurry 25 = .ok (.iload_n 1, 1) := by decide +kernel
theorem d_M_hurry_26 : decode b_M_hurry 26 = .ok (.invokevirtual 201, 3) := by decide +kernel
theorem d_M_hurry_29 : decode b_M_hurry 29 = .ok (.if_icmp .le 8, 3) := by decide +kernel
theorem d_M_hurry_32 : decode b_M_hurry 32 = .ok (.aload_n 0, 1) := by decide +kernel
theorem d_M_hurry_33 : decode b_M_hurry 33 = .ok (.iload_n 1, 1) := by decide +kernel
theorem d_M_hurry_34 : decode b_M_hurry 34 = .ok (.invokevirtual 204, 3) := by decide +kernel
theorem d_M_hurry_37 : decode b_M_hurry 37 = .ok (.return_, 1) := by decide +kernel
theorem d_M_sendPacket_0 : decode b_M_sendPacket 0 = .ok (.iconst 5, 1) := by decide +kernel
theorem d_M_sendPacket_1 : decode b_M_sendPacket 1 = .ok (.iload_n 1, 1) := by decide +kernel
theorem d_M_sendPacket_2 : decode b_M_sendPacket 2 = .ok (.imul, 1) := by decide +kernel
theorem d_M_sendPacket_3 : decode b_M_sendPacket 3 = .ok (.iload_n 2, 1) := by decide +kernel
theorem d_M_sendPacket_4 : decode b_M_sendPacket 4 = .ok (.iadd, 1) := by decide +kernel
theorem d_M_sendPacket_5 : decode b_M_sendPacket 5 = .ok (.istore 4, 2) := by decide +kernel
theorem d_M_sendPacket_7 : decode b_M_sendPacket 7 = .ok (.aload_n 0, 1) := by decide +kernel
theorem d_M_sendPacket_8 : decode b_M_sendPacket 8 = .ok (.iconst 0, 1) := by decide +kernel
theorem d_M_sendPacket_9 : decode b_M_sendPacket 9 = .ok (.putfield 136, 3) := by decide +kernel
theorem d_M_sendPacket_12 : decode b_M_sendPacket 12 = .ok (.aload_n 0, 1) := by decide +kernel
theorem d_M_sendPacket_13 : decode b_M_sendPacket 13 = .ok (.bipush 32, 2) := by decide +kernel
theorem d_M_sendPacket_15 : decode b_M_sendPacket 15 = .ok (.aload_n 0, 1) := by decide +kernel
theorem d_M_sendPacket_16 : decode b_M_sendPacket 16 = .ok (.getfield 50, 3) := by decide +kernel
theorem d_M_sendPacket_19 : decode b_M_sendPacket 19 = .ok (.iload 4, 2) := by decide +kernel
theorem d_M_sendPacket_21 : decode b_M_sendPacket 21 = .ok (.iaload, 1) := by decide +kernel
theorem d_M_sendPacket_22 : decode b_M_sendPacket 22 = .ok (.iadd, 1) := by decide +kernel
theorem d_M_sendPacket_23 : decode b_M_sendPacket 23 = .ok (.invokevirtual 139, 3) := by decide +kernel
theorem d_M_sendPacket_26 : decode b_M_sendPacket 26 = .ok (.aload_n 0, 1) := by decide +kernel
theorem d_M_sendPacket_27 : decode b_M_sendPacket 27 = .ok (.bipush 64, 2) := by decide +kernel
theorem d_M_sendPacket_29 : decode b_M_sendPacket 29 = .ok (.aload_n 0, 1) := by decide +kernel
theorem d_M_sendPacket_30 : decode b_M_sendPacket 30 = .ok (.getfield 41, 3) := by decide +kernel
theorem d_M_sendPacket_33 : decode b_M_sendPacket 33 = .ok (.iload 4, 2) := by decide +kernel
theorem d_M_sendPacket_35 : decode b_M_sendPacket 35 = .ok (.iaload, 1) := by decide +kernel
theorem d_M_sendPacket_36 : decode b_M_sendPacket 36 = .ok (.imul, 1) := by decide +kernel
theorem d_M_sendPacket_37 : decode b_M_sendPacket 37 = .ok (.iload_n 3, 1) := by decide +kernel
theorem d_M_sendPacket_38 : decode b_M_sendPacket 38 = .ok (.iadd, 1) := by decide +kernel
theorem d_M_sendPacket_39 : decode b_M_sendPacket 39 = .ok (.invokevirtual 139, 3) := by decide +kernel
theorem d_M_sendPacket_42 : decode b_M_sendPacket 42 = .ok (.aload_n 0, 1) := by decide +kernel
theorem d_M_sendPacket_43 : decode b_M_sendPacket 43 = .ok (.aload_n 0, 1) := by decide +kernel
theorem d_M_sendPacket_44 : decode b_M_sendPacket 44 = .ok (.getfield 65, 3) := by decide +kernel
theorem d_M_sendPacket_47 : decode b_M_sendPacket 47 = .ok (.iload 4, 2) := by decide +kernel
theorem d_M_sendPacket_49 : decode b_M_sendPacket 49 = .ok (.iaload, 1) := by decide +kernel
theorem d_M_sendPacket_50 : decode b_M_sendPacket 50 = .ok (.invokevirtual 139, 3) := by decide +kernel
theorem d_M_sendPacket_53 : decode b_M_sendPacket 53 = .ok (.aload_n 0, 1) := by decide +kernel
theorem d_M_sendPacket_54 : decode b_M_sendPacket 54 = .ok (.bipush 24, 2) := by decide +kernel
theorem d_M_sendPacket_56 : decode b_M_sendPacket 56 = .ok (.invokevirtual 139, 3) := by decide +kernel
theorem d_M_sendPacket_59 : decode b_M_sendPacket 59 = .ok (.aload_n 0, 1) := by decide +kernel
theorem d_M_sendPacket_60 : decode b_M_sendPacket 60 = .ok (.bipush 16, 2) := by decide +kernel
theorem d_M_sendPacket_62 : decode b_M_sendPacket 62 = .ok (.iload_n 1, 1) := by decide +kernel
theorem d_M_sendPacket_63 : decode b_M_sendPacket 63 = .ok (.imul, 1) := by decide +kernel
theorem d_M_sendPacket_64 : decode b_M_sendPacket 64 = .ok (.iload_n 2, 1) := by decide +kernel
theorem d_M_sendPacket_65 : decode b_M_sendPacket 65 = .ok (.iadd, 1) := by decide +kernel
theorem d_M_sendPacket_66 : decode b_M_sendPacket 66 = .ok (.iconst 1, 1) := by decide +kernel
theorem d_M_sendPacket_67 : decode b_M_sendPacket 67 = .ok (.iadd, 1) := by decide +kernel
theorem d_M_sendPacket_68 : decode b_M_sendPacket 68 = .ok (.iconst 4, 1) := by decide +kernel
theorem d_M_sendPacket_69 : decode b_M_sendPacket 69 = .ok (.invokevirtual 165, 3) := by decide +kernel
theorem d_M_sendPacket_72 : decode b_M_sendPacket 72 = .ok (.aload_n 0, 1) := by decide +kernel
theorem d_M_sendPacket_73 : decode b_M_sendPacket 73 = .ok (.aload_n 0, 1) := by decide +kernel
theorem d_M_sendPacket_74 : decode b_M_sendPacket 74 = .ok (.getfield 47, 3) := by decide +kernel
theorem d_M_sendPacket_77 : decode b_M_sendPacket 77 = .ok (.iload 4, 2) := by decide +kernel
theorem d_M_sendPacket_79 : decode b_M_sendPacket 79 = .ok (.iaload, 1) := by decide +kernel
theorem d_M_sendPacket_80 : decode b_M_sendPacket 80 = .ok (.iconst 4, 1) := by decide +kernel
theorem d_M_sendPacket_81 : decode b_M_sendPacket 81 = .ok (.invokevirtual 165, 3) := by decide +kernel
theorem d_M_sendPacket_84 : decode b_M_sendPacket 84 = .ok (.aload_n 0, 1) := by decide +kernel
theorem d_M_sendPacket_85 : decode b_M_sendPacket 85 = .ok (.aload_n 0, 1) := by decide +kernel
theorem d_M_sendPacket_86 : decode b_M_sendPacket 86 = .ok (.getfield 41, 3) := by decide +kernel
theorem d_M_sendPacket_89 : decode b_M_sendPacket 89 = .ok (.iload 4, 2) := by decide +kernel
theorem d_M_sendPacket_91 : decode b_M_sendPacket 91 = .ok (.iaload, 1) := by decide +kernel
theorem d_M_sendPacket_92 : decode b_M_sendPacket 92 = .ok (.iconst 3, 1) := by decide +kernel
theorem d_M_sendPacket_93 : decode b_M_sendPacket 93 = .ok (.if_icmp .ne 13, 3) := by decide +kernel
theorem d_M_sendPacket_96 : decode b_M_sendPacket 96 = .ok (.aload_n 0, 1) := by decide +kernel
theorem d_M_sendPacket_97 : decode b_M_sendPacket 97 = .ok (.getfield 53, 3) := by decide +kernel
theorem d_M_sendPacket_100 : decode b_M_sendPacket 100 = .ok (.iload 4, 2) := by decide +kernel
theorem d_M_sendPacket_102 : decode b_M_sendPacket 102 = .ok (.iaload, 1) := by decide +kernel
theorem d_M_sendPacket_103 : decode b_M_sendPacket 103 = .ok (.goto 15, 3) := by decide +kernel
theorem d_M_sendPacket_106 : decode b_M_sendPacket 106 = .ok (.bipush 100, 2) := by decide +kernel
theorem d_M_sendPacket_108 : decode b_M_sendPacket 108 = .ok (.aload_n 0, 1) := by decide +kernel
theorem d_M_sendPacket_109 : decode b_M_sendPacket 109 = .ok (.getfield 53, 3) := by decide +kernel
theorem d_M_sendPacket_112 : decode b_M_sendPacket 112 = .ok (.iload 4, 2) := by decide +kernel
theorem d_M_sendPacket_114 : decode b_M_sendPacket 114 = .ok (.iaload, 1) := by decide +kernel
theorem d_M_sendPacket_115 : decode b_M_sendPacket 115 = .ok (.invokestatic 153, 3) := by decide +kernel
theorem d_M_sendPacket_118 : decode b_M_sendPacket 118 = .ok (.iconst 4, 1) := by decide +kernel
theorem d_M_sendPacket_119 : decode b_M_sendPacket 119 = .ok (.invokevirtual 165, 3) := by decide +kernel
theorem d_M_sendPacket_122 : decode b_M_sendPacket 122 = .ok (.aload_n 0, 1) := by decide +kernel
theorem d_M_sendPacket_123 : decode b_M_sendPacket 123 = .ok (.aload_n 0, 1) := by decide +kernel
theorem d_M_sendPacket_124 : decode b_M_sendPacket 124 = .ok (.getfield 56, 3) := by decide +kernel
theorem d_M_sendPacket_127 : decode b_M_sendPacket 127 = .ok (.iload 4, 2) := by decide +kernel
theorem d_M_sendPacket_129 : decode b_M_sendPacket 129 = .ok (.iaload, 1) := by decide +kernel
theorem d_M_sendPacket_130 : decode b_M_sendPacket 130 = .ok (.iconst 4, 1) := by decide +kernel
theorem d_M_sendPacket_131 : decode b_M_sendPacket 131 = .ok (.invokevirtual 165, 3) := by decide +kernel
theorem d_M_sendPacket_134 : decode b_M_sendPacket 134 = .ok (.aload_n 0, 1) := by decide +kernel
theorem d_M_sendPacket_135 : decode b_M_sendPacket 135 = .ok (.iconst 0, 1) := by decide +kernel
theorem d_M_sendPacket_136 : decode b_M_sendPacket 136 = .ok (.iconst 4, 1) := by decide +kernel
theorem d_M_sendPacket_137 : decode b_M_sendPacket 137 = .ok (.invokevirtual 165, 3) := by decide +kernel
theorem d_M_sendPacket_140 : decode b_M_sendPacket 140 = .ok (.aload_n 0, 1) := by decide +kernel
theorem d_M_sendPacket_141 : decode b_M_sendPacket 141 = .ok (.iload_n 1, 1) := by decide +kernel
theorem d_M_sendPacket_142 : decode b_M_sendPacket 142 = .ok (.iconst 2, 1) := by decide +kernel
theorem d_M_sendPacket_143 : decode b_M_sendPacket 143 = .ok (.iload_n 1, 1) := by decide +kernel
theorem d_M_sendPacket_144 : decode b_M_sendPacket 144 = .ok (.iload_n 2, 1) := by decide +kernel
theorem d_M_sendPacket_145 : decode b_M_sendPacket 145 = .ok (.invokevirtual 173, 3) := by decide +kernel
theorem d_M_sendPacket_148 : decode b_M_sendPacket 148 = .ok (.return_, 1) := by decide +kernel
theorem d_M_open_0 : decode b_M_open 0 = .ok (.iload_n 3, 1) := by decide +kernel
theorem d_M_open_1 : decode b_M_open 1 = .ok (.iconst 1, 1) := by decide +kernel
theorem d_M_open_2 : decode b_M_open 2 = .ok (.if_icmp .lt 42, 3) := by decide +kernel
theorem d_M_open_5 : decode b_M_open 5 = .ok (.iload_n 3, 1) := by decide +kernel
theorem d_M_open_6 : decode b_M_open 6 = .ok (.sipush 1000, 3) := by decide +kernel
theorem d_M_open_9 : decode b_M_open 9 = .ok (.if_icmp .gt 35, 3) := by decide +kernel
theorem d_M_open_12 : decode b_M_open 12 = .ok (.iload 4, 2) := by decide +kernel
theorem d_M_open_14 : decode b_M_open 14 = .ok (.iconst 1, 1) := by decide +kernel
theorem d_M_open_15 : decode b_M_open 15 = .ok (.if_icmp .lt 29, 3) := by decide +kernel
theorem d_M_open_18 : decode b_M_open 18 = .ok (.iload 4, 2) := by decide +kernel
theorem d_M_open_20 : decode b_M_open 20 = .ok (.sipush 1000, 3) := by decide +kernel
theorem d_M_open_23 : decode b_M_open 23 = .ok (.if_icmp .gt 21, 3) := by decide +kernel
theorem d_M_open_26 : decode b_M_open 26 = .ok (.iload 5, 2) := by decide +kernel
theorem d_M_open_28 : decode b_M_open 28 = .ok (.iconst 1, 1) := by decide +kernel
theorem d_M_open_29 : decode b_M_open 29 = .ok (.if_icmp .lt 15, 3) := by decide +kernel
theorem d_M_open_32 : decode b_M_open 32 = .ok (.iload 5, 2) := by decide +kernel
theorem d_M_open_34 : decode b_M_open 34 = .ok (.sipush 255, 3) := by decide +kernel
theorem d_M_open_37 : decode b_M_open 37 = .ok (.if_icmp .gt 7, 3) := by decide +kernel
theorem d_M_open_40 : decode b_M_open 40 = .ok (.iconst 1, 1) := by decide +kernel
theorem d_M_open_41 : decode b_M_open 41 = .ok (.goto 4, 3) := by decide +kernel
theorem d_M_open_44 : decode b_M_open 44 = .ok (.iconst 0, 1) := by decide +kernel
theorem d_M_open_45 : decode b_M_open 45 = .ok (.istore 6, 2) := by decide +kernel
theorem d_M_open_47 : decode b_M_open 47 = .ok (.aload_n 0, 1) := by decide +kernel
theorem d_M_open_48 : decode b_M_open 48 = .ok (.iload_n 1, 1) := by decide +kernel
theorem d_M_open_49 : decode b_M_open 49 = .ok (.invokestatic 128, 3) := by decide +kernel
theorem d_M_open_52 : decode b_M_open 52 = .ok (.ifCond .eq 15, 3) := by decide +kernel
theorem d_M_open_55 : decode b_M_open 55 = .ok (.iload_n 2, 1) := by decide +kernel
theorem d_M_open_56 : decode b_M_open 56 = .ok (.invokestatic 128, 3) := by decide +kernel
theorem d_M_open_59 : decode b_M_open 59 = .ok (.ifCond .eq 8, 3) := by decide +kernel
theorem d_M_open_62 : decode b_M_open 62 = .ok (.iload_n 1, 1) := by decide +kernel
theorem d_M_open_63 : decode b_M_open 63 = .ok (.iload_n 2, 1) := by decide +kernel
theorem d_M_open_64 : decode b_M_open 64 = .ok (.if_icmp .ne 7, 3) := by decide +kernel
theorem d_M_open_67 : decode b_M_open 67 = .ok (.iconst 1, 1) := by decide +kernel
theorem d_M_open_68 : decode b_M_open 68 = .ok (.goto 26, 3) := by decide +kernel
theorem d_M_open_71 : decode b_M_open 71 = .ok (.aload_n 0, 1) := by decide +kernel
theorem d_M_open_72 : decode b_M_open 72 = .ok (.getfield 13, 3) := by decide +kernel
theorem d_M_open_75 : decode b_M_open 75 = .ok (.iload_n 1, 1) := by decide +kernel
theorem d_M_open_76 : decode b_M_open 76 = .ok (.iaload, 1) := by decide +kernel
theorem d_M_open_77 : decode b_M_open 77 = .ok (.ifCond .ne 7, 3) := by decide +kernel
theorem d_M_open_80 : decode b_M_open 80 = .ok (.iconst 2, 1) := by decide +kernel
theorem d_M_open_81 : decode b_M_open 81 = .ok (.goto 13, 3) := by decide +kernel
theorem d_M_open_84 : decode b_M_open 84 = .ok (.iload 6, 2) := by decide +kernel
theorem d_M_open_86 : decode b_M_open 86 = .ok (.ifCond .ne 7, 3) := by decide +kernel
theorem d_M_open_89 : decode b_M_open 89 = .ok (.iconst 3, 1) := by decide +kernel
theorem d_M_open_90 : decode b_M_open 90 = .ok (.goto 4, 3) := by decide +kernel
theorem d_M_open_93 : decode b_M_open 93 = .ok (.iconst 0, 1) := by decide +kernel
theorem d_M_open_94 : decode b_M_open 94 = .ok (.putfield 124, 3) := by decide +kernel
theorem d_M_open_97 : decode b_M_open 97 = .ok (.aload_n 0, 1) := by decide +kernel
theorem d_M_open_98 : decode b_M_open 98 = .ok (.getfield 124, 3) := by decide +kernel
theorem d_M_open_101 : decode b_M_open 101 = .ok (.ifCond .eq 4, 3) := by decide +kernel
theorem d_M_open_104 : decode b_M_open 104 = .ok (.return_, 1) := by decide +kernel
theorem d_M_open_105 : decode b_M_open 105 = .ok (.iconst 5, 1) := by decide +kernel
theorem d_M_open_106 : decode b_M_open 106 = .ok (.iload_n 1, 1) := by decide +kernel
theorem d_M_open_107 : decode b_M_open 107 = .ok (.imul, 1) := by decide +kernel
theorem d_M_open_108 : decode b_M_open 108 = .ok (.iload_n 2, 1) := by decide +kernel
theorem d_M_open_109 : decode b_M_open 109 = .ok (.iadd, 1) := by decide +kernel
theorem d_M_open_110 : decode b_M_open 110 = .ok (.istore 7, 2) := by decide +kernel
theorem d_M_open_112 : decode b_M_open 112 = .ok (.aload_n 0, 1) := by decide +kernel
theorem d_M_open_113 : decode b_M_open 113 = .ok (.getfield 37, 3) := by decide +kernel
theorem d_M_open_116 : decode b_M_open 116 = .ok (.iload 7, 2) := by decide +kernel
theorem d_M_open_118 : decode b_M_open 118 = .ok (.iconst 1, 1) := by decide +kernel
theorem d_M_open_119 : decode b_M_open 119 = .ok (.bastore, 1) := by decide +kernel
theorem d_M_open_120 : decode b_M_open 120 = .ok (.aload_n 0, 1) := by decide +kernel
theorem d_M_open_121 : decode b_M_open 121 = .ok (.getfield 41, 3) := by decide +kernel
theorem d_M_open_124 : decode b_M_open 124 = .ok (.iload 7, 2) := by decide +kernel
theorem d_M_open_126 : decode b_M_open 126 = .ok (.iconst 1, 1) := by decide +kernel
theorem d_M_open_127 : decode b_M_open 127 = .ok (.iastore, 1) := by decide +kernel
theorem d_M_open_128 : decode b_M_open 128 = .ok (.aload_n 0, 1) := by decide +kernel
theorem d_M_open_129 : decode b_M_open 129 = .ok (.getfield 44, 3) := by decide +kernel
theorem d_M_open_132 : decode b_M_open 132 = .ok (.iload 7, 2) := by decide +kernel
theorem d_M_open_134 : decode b_M_open 134 = .ok (.iconst 1, 1) := by decide +kernel
theorem d_M_open_135 : decode b_M_open 135 = .ok (.iastore, 1) := by decide +kernel
theorem d_M_open_136 : decode b_M_open 136 = .ok (.aload_n 0, 1) := by decide +kernel
theorem d_M_open_137 : decode b_M_open 137 = .ok (.getfield 47, 3) := by decide +kernel
theorem d_M_open_140 : decode b_M_open 140 = .ok (.iload 7, 2) := by decide +kernel
theorem d_M_open_142 : decode b_M_open 142 = .ok (.iconst 0, 1) := by decide +kernel
theorem d_M_open_143 : decode b_M_open 143 = .ok (.iastore, 1) := by decide +kernel
theorem d_M_open_144 : decode b_M_open 144 = .ok (.aload_n 0, 1) := by decide +kernel
theorem d_M_open_145 : decode b_M_open 145 = .ok (.getfield 50, 3) := by decide +kernel
theorem d_M_open_148 : decode b_M_open 148 = .ok (.iload 7, 2) := by decide +kernel
theorem d_M_open_150 : decode b_M_open 150 = .ok (.iconst 0, 1) := by decide +kernel
theorem d_M_open_151 : decode b_M_open 151 = .ok (.iastore, 1) := by decide +kernel
theorem d_M_open_152 : decode b_M_open 152 = .ok (.aload_n 0, 1) := by decide +kernel
theorem d_M_open_153 : decode b_M_open 153 = .ok (.getfield 68, 3) := by decide +kernel
theorem d_M_open_156 : decode b_M_open 156 = .ok (.iload 7, 2) := by decide +kernel
theorem d_M_open_158 : decode b_M_open 158 = .ok (.iconst 1, 1) := by decide +kernel
theorem d_M_open_159 : decode b_M_open 159 = .ok (.iastore, 1) := by decide +kernel
theorem d_M_open_160 : decode b_M_open 160 = .ok (.aload_n 0, 1) := by decide +kernel
theorem d_M_open_161 : decode b_M_open 161 = .ok (.getfield 71, 3) := by decide +kernel
theorem d_M_open_164 : decode b_M_open 164 = .ok (.iload 7, 2) := by decide +kernel
theorem d_M_open_166 : decode b_M_open 166 = .ok (.iconst 0, 1) := by decide +kernel
theorem d_M_open_167 : decode b_M_open 167 = .ok (.iastore, 1) := by decide +kernel
theorem d_M_open_168 : decode b_M_open 168 = .ok (.aload_n 0, 1) := by decide +kernel
theorem d_M_open_169 : decode b_M_open 169 = .ok (.getfield 74, 3) := by decide +kernel
theorem d_M_open_172 : decode b_M_open 172 = .ok (.iload 7, 2) := by decide +kernel
theorem d_M_open_174 : decode b_M_open 174 = .ok (.iconst 0, 1) := by decide +kernel
theorem d_M_open_175 : decode b_M_open 175 = .ok (.iastore, 1) := by decide +kernel
theorem d_M_open_176 : decode b_M_open 176 = .ok (.aload_n 0, 1) := by decide +kernel
theorem d_M_open_177 : decode b_M_open 177 = .ok (.getfield 77, 3) := by decide +kernel
theorem d_M_open_180 : decode b_M_open 180 = .ok (.iload 7, 2) := by decide +kernel
theorem d_M_open_182 : decode b_M_open 182 = .ok (.iconst 0, 1) := by decide +kernel
theorem d_M_open_183 : decode b_M_open 183 = .ok (.bastore, 1) := by decide +kernel
theorem d_M_open_184 : decode b_M_open 184 = .ok (.aload_n 0, 1) := by decide +kernel
theorem d_M_open_185 : decode b_M_open 185 = .ok (.getfield 53, 3) := by decide +kernel
theorem d_M_open_188 : decode b_M_open 188 = .ok (.iload 7, 2) := by decide +kernel
theorem d_M_open_190 : decode b_M_open 190 = .ok (.iload_n 3, 1) := by decide +kernel
theorem d_M_open_191 : decode b_M_open 191 = .ok (.iastore, 1) := by decide +kernel
theorem d_M_open_192 : decode b_M_open 192 = .ok (.aload_n 0, 1) := by decide +kernel
theorem d_M_open_193 : decode b_M_open 193 = .ok (.getfield 56, 3) := by decide +kernel
theorem d_M_open_196 : decode b_M_open 196 = .ok (.iload 7, 2) := by decide +kernel
theorem d_M_open_198 : decode b_M_open 198 = .ok (.iload 4, 2) := by decide +kernel
theorem d_M_open_200 : decode b_M_open 200 = .ok (.iastore, 1) := by decide +kernel
theorem d_M_open_201 : decode b_M_open 201 = .ok (.aload_n 0, 1) := by decide +kernel
theorem d_M_open_202 : decode b_M_open 202 = .ok (.getfield 59, 3) := by decide +kernel
theorem d_M_open_205 : decode b_M_open 205 = .ok (.iload 7, 2) := by decide +kernel
theorem d_M_open_207 : decode b_M_open 207 = .ok (.iload_n 3, 1) := by decide +kernel
theorem d_M_open_208 : decode b_M_open 208 = .ok (.iastore, 1) := by decide +kernel
theorem d_M_open_209 : decode b_M_open 209 = .ok (.aload_n 0, 1) := by decide +kernel
theorem d_M_open_210 : decode b_M_open 210 = .ok (.getfield 62, 3) := by decide +kernel
theorem d_M_open_213 : decode b_M_open 213 = .ok (.iload 7, 2) := by decide +kernel
theorem d_M_open_215 : decode b_M_open 215 = .ok (.iload 4, 2) := by decide +kernel
theorem d_M_open_217 : decode b_M_open 217 = .ok (.iastore, 1) := by decide +kernel
theorem d_M_open_218 : decode b_M_open 218 = .ok (.aload_n 0, 1) := by decide +kernel
theorem d_M_open_219 : decode b_M_open 219 = .ok (.getfield 65, 3) := by decide +kernel
theorem d_M_open_222 : decode b_M_open 222 = .ok (.iload 7, 2) := by decide +kernel
theorem d_M_open_224 : decode b_M_open 224 = .ok (.iload 5, 2) := by decide +kernel
theorem d_M_open_226 : decode b_M_open 226 = .ok (.iastore, 1) := by decide +kernel
theorem d_M_open_227 : decode b_M_open 227 = .ok (.aload_n 0, 1) := by decide +kernel
theorem d_M_open_228 : decode b_M_open 228 = .ok (.getfield 83, 3) := by decide +kernel
theorem d_M_open_231 : decode b_M_open 231 = .ok (.iload 7, 2) := by decide +kernel
theorem d_M_open_233 : decode b_M_open 233 = .ok (.iconst 0, 1) := by decide +kernel
theorem d_M_open_234 : decode b_M_open 234 = .ok (.iastore, 1) := by decide +kernel
theorem d_M_open_235 : decode b_M_open 235 = .ok (.aload_n 0, 1) := by decide +kernel
theorem d_M_open_236 : decode b_M_open 236 = .ok (.getfield 86, 3) := by decide +kernel
theorem d_M_open_239 : decode b_M_open 239 = .ok (.iload 7, 2) := by decide +kernel
theorem d_M_open_241 : decode b_M_open 241 = .ok (.iconst 0, 1) := by decide +kernel
theorem d_M_open_242 : decode b_M_open 242 = .ok (.iastore, 1) := by decide +kernel
theorem d_M_open_243 : decode b_M_open 243 = .ok (.aload_n 0, 1) := by decide +kernel
theorem d_M_open_244 : decode b_M_open 244 = .ok (.iload 7, 2) := by decide +kernel
theorem d_M_open_246 : decode b_M_open 246 = .ok (.invokevirtual 204, 3) := by decide +kernel
theorem d_M_open_249 : decode b_M_open 249 = .ok (.return_, 1) := by decide +kernel
theorem d_M_change_0 : decode b_M_change 0 = .ok (.iload_n 3, 1) := by decide +kernel
theorem d_M_change_1 : decode b_M_change 1 = .ok (.ifCond .ne 12, 3) := by decide +kernel
theorem d_M_change_4 : decode b_M_change 4 = .ok (.iload 4, 2) := by decide +kernel
theorem d_M_change_6 : decode b_M_change 6 = .ok (.ifCond .ne 7, 3) := by decide +kernel
theorem d_M_change_9 : decode b_M_change 9 = .ok (.iconst 1, 1) := by decide +kernel
theorem d_M_change_10 : decode b_M_change 10 = .ok (.goto 4, 3) := by decide +kernel
theorem d_M_change_13 : decode b_M_change 13 = .ok (.iconst 0, 1) := by decide +kernel
theorem d_M_change_14 : decode b_M_change 14 = .ok (.istore 5, 2) := by decide +kernel
theorem d_M_change_16 : decode b_M_change 16 = .ok (.iload 5, 2) := by decide +kernel
theorem d_M_change_18 : decode b_M_change 18 = .ok (.ifCond .ne 29, 3) := by decide +kernel
theorem d_M_change_21 : decode b_M_change 21 = .ok (.iload_n 3, 1) := by decide +kernel
theorem d_M_change_22 : decode b_M_change 22 = .ok (.iconst 1, 1) := by decide +kernel
theorem d_M_change_23 : decode b_M_change 23 = .ok (.if_icmp .lt 28, 3) := by decide +kernel
theorem d_M_change_26 : decode b_M_change 26 = .ok (.iload_n 3, 1) := by decide +kernel
theorem d_M_change_27 : decode b_M_change 27 = .ok (.sipush 1000, 3) := by decide +kernel
theorem d_M_change_30 : decode b_M_change 30 = .ok (.if_icmp .gt 21, 3) := by decide +kernel
theorem d_M_change_33 : decode b_M_change 33 = .ok (.iload 4, 2) := by decide +kernel
theorem d_M_change_35 : decode b_M_change 35 = .ok (.iconst 1, 1) := by decide +kernel
theorem d_M_change_36 : decode b_M_change 36 = .ok (.if_icmp .lt 15, 3) := by decide +kernel
theorem d_M_change_39 : decode b_M_change 39 = .ok (.iload 4, 2) := by decide +kernel
theorem d_M_change_41 : decode b_M_change 41 = .ok (.sipush 1000, 3) := by decide +kernel
theorem d_M_change_44 : decode b_M_change 44 = .ok (.if_icmp .gt 7, 3) := by decide +kernel
theorem d_M_change_47 : decode b_M_change 47 = .ok (.iconst 1, 1) := by decide +kernel
theorem d_M_change_48 : decode b_M_change 48 = .ok (.goto 4, 3) := by decide +kernel
theorem d_M_change_51 : decode b_M_change 51 = .ok (.iconst 0, 1) := by decide +kernel
theorem d_M_change_52 : decode b_M_change 52 = .ok (.istore 6, 2) := by decide +kernel
theorem d_M_change_54 : decode b_M_change 54 = .ok (.aload_n 0, 1) := by decide +kernel
theorem d_M_change_55 : decode b_M_change 55 = .ok (.iload_n 1, 1) := by decide +kernel
theorem d_M_change_56 : decode b_M_change 56 = .ok (.invokestatic 128, 3) := by decide +kernel
theorem d_M_change_59 : decode b_M_change 59 = .ok (.ifCond .eq 10, 3) := by decide +kernel
theorem d_M_change_62 : decode b_M_change 62 = .ok (.iload_n 2, 1) := by decide +kernel
theorem d_M_change_63 : decode b_M_change 63 = .ok (.invokestatic 128, 3) := by decide +kernel
theorem d_M_change_66 : decode b_M_change 66 = .ok (.ifCond .ne 7, 3) := by decide +kernel
theorem d_M_change_69 : decode b_M_change 69 = .ok (.iconst 1, 1) := by decide +kernel
theorem d_M_change_70 : decode b_M_change 70 = .ok (.goto 43, 3) := by decide +kernel
theorem d_M_change_73 : decode b_M_change 73 = .ok (.aload_n 0, 1) := by decide +kernel
theorem d_M_change_74 : decode b_M_change 74 = .ok (.getfield 37, 3) := by decide +kernel
theorem d_M_change_77 : decode b_M_change 77 = .ok (.iconst 5, 1) := by decide +kernel
theorem d_M_change_78 : decode b_M_change 78 = .ok (.iload_n 1, 1) := by decide +kernel
theorem d_M_change_79 : decode b_M_change 79 = .ok (.imul, 1) := by decide +kernel
theorem d_M_change_80 : decode b_M_change 80 = .ok (.iload_n 2, 1) := by decide +kernel
theorem d_M_change_81 : decode b_M_change 81 = .ok (.iadd, 1) := by decide +kernel
theorem d_M_change_82 : decode b_M_change 82 = .ok (.baload, 1) := by decide +kernel
theorem d_M_change_83 : decode b_M_change 83 = .ok (.ifCond .eq 16, 3) := by decide +kernel
theorem d_M_change_86 : decode b_M_change 86 = .ok (.aload_n 0, 1) := by decide +kernel
theorem d_M_change_87 : decode b_M_change 87 = .ok (.getfield 41, 3) := by decide +kernel
theorem d_M_change_90 : decode b_M_change 90 = .ok (.iconst 5, 1) := by decide +kernel
theorem d_M_change_91 : decode b_M_change 91 = .ok (.iload_n 1, 1) := by decide +kernel
theorem d_M_change_92 : decode b_M_change 92 = .ok (.imul, 1) := by decide +kernel
theorem d_M_change_93 : decode b_M_change 93 = .ok (.iload_n 2, 1) := by decide +kernel
theorem d_M_change_94 : decode b_M_change 94 = .ok (.iadd, 1) := by decide +kernel
theorem d_M_change_95 : decode b_M_change 95 = .ok (.iaload, 1) := by decide +kernel
theorem d_M_change_96 : decode b_M_change 96 = .ok (.ifCond .ne 7, 3) := by decide +kernel
theorem d_M_change_99 : decode b_M_change 99 = .ok (.iconst 2, 1) := by decide +kernel
theorem d_M_change_100 : decode b_M_change 100 = .ok (.goto 13, 3) := by decide +kernel
theorem d_M_change_103 : decode b_M_change 103 = .ok (.iload 6, 2) := by decide +kernel
theorem d_M_change_105 : decode b_M_change 105 = .ok (.ifCond .ne 7, 3) := by decide +kernel
theorem d_M_change_108 : decode b_M_change 108 = .ok (.iconst 3, 1) := by decide +kernel
theorem d_M_change_109 : decode b_M_change 109 = .ok (.goto 4, 3) := by decide +kernel
theorem d_M_change_112 : decode b_M_change 112 = .ok (.iconst 0, 1) := by decide +kernel
theorem d_M_change_113 : decode b_M_change 113 = .ok (.putfield 124, 3) := by decide +kernel
theorem d_M_change_116 : decode b_M_change 116 = .ok (.aload_n 0, 1) := by decide +kernel
theorem d_M_change_117 : decode b_M_change 117 = .ok (.getfield 124, 3) := by decide +kernel
theorem d_M_change_120 : decode b_M_change 120 = .ok (.ifCond .eq 4, 3) := by decide +kernel
theorem d_M_change_123 : decode b_M_change 123 = .ok (.return_, 1) := by decide +kernel
theorem d_M_change_124 : decode b_M_change 124 = .ok (.iconst 5, 1) := by decide +kernel
theorem d_M_change_125 : decode b_M_change 125 = .ok (.iload_n 1, 1) := by decide +kernel
theorem d_M_change_126 : decode b_M_change 126 = .ok (.imul, 1) := by decide +kernel
theorem d_M_change_127 : decode b_M_change 127 = .ok (.iload_n 2, 1) := by decide +kernel
theorem d_M_change_128 : decode b_M_change 128 = .ok (.iadd, 1) := by decide +kernel
theorem d_M_change_129 : decode b_M_change 129 = .ok (.istore 7, 2) := by decide +kernel
theorem d_M_change_131 : decode b_M_change 131 = .ok (.iload 5, 2) := by decide +kernel
theorem d_M_change_133 : decode b_M_change 133 = .ok (.ifCond .eq 29, 3) := by decide +kernel
theorem d_M_change_136 : decode b_M_change 136 = .ok (.aload_n 0, 1) := by decide +kernel
theorem d_M_change_137 : decode b_M_change 137 = .ok (.getfield 41, 3) := by decide +kernel
theorem d_M_change_140 : decode b_M_change 140 = .ok (.iload 7, 2) := by decide +kernel
theorem d_M_change_142 : decode b_M_change 142 = .ok (.iconst 0, 1) := by decide +kernel
theorem d_M_change_143 : decode b_M_change 143 = .ok (.iastore, 1) := by decide +kernel
theorem d_M_change_144 : decode b_M_change 144 = .ok (.aload_n 0, 1) := by decide +kernel
theorem d_M_change_145 : decode b_M_change 145 = .ok (.getfield 50, 3) := by decide +kernel
theorem d_M_change_148 : decode b_M_change 148 = .ok (.iload 7, 2) := by decide +kernel
theorem d_M_change_150 : decode b_M_change 150 = .ok (.bipush 7, 2) := by decide +kernel
theorem d_M_change_152 : decode b_M_change 152 = .ok (.iastore, 1) := by decide +kernel
theorem d_M_change_153 : decode b_M_change 153 = .ok (.aload_n 0, 1) := by decide +kernel
theorem d_M_change_154 : decode b_M_change 154 = .ok (.getfield 77, 3) := by decide +kernel
theorem d_M_change_157 : decode b_M_change 157 = .ok (.iload 7, 2) := by decide +kernel
theorem d_M_change_159 : decode b_M_change 159 = .ok (.iconst 0, 1) := by decide +kernel
theorem d_M_change_160 : decode b_M_change 160 = .ok (.bastore, 1) := by decide +kernel
theorem d_M_change_161 : decode b_M_change 161 = .ok (.return_, 1) := by decide +kernel
theorem d_M_change_162 : decode b_M_change 162 = .ok (.aload_n 0, 1) := by decide +kernel
theorem d_M_change_163 : decode b_M_change 163 = .ok (.getfield 53, 3) := by decide +kernel
theorem d_M_change_166 : decode b_M_change 166 = .ok (.iload 7, 2) := by decide +kernel
theorem d_M_change_168 : decode b_M_change 168 = .ok (.iload_n 3, 1) := by decide +kernel
theorem d_M_change_169 : decode b_M_change 169 = .ok (.iastore, 1) := by decide +kernel
theorem d_M_change_170 : decode b_M_change 170 = .ok (.aload_n 0, 1) := by decide +kernel
theorem d_M_change_171 : decode b_M_change 171 = .ok (.getfield 56, 3) := by decide +kernel
theorem d_M_change_174 : decode b_M_change 174 = .ok (.iload 7, 2) := by decide +kernel
theorem d_M_change_176 : decode b_M_change 176 = .ok (.iload 4, 2) := by decide +kernel
theorem d_M_change_178 : decode b_M_change 178 = .ok (.iastore, 1) := by decide +kernel
theorem d_M_change_179 : decode b_M_change 179 = .ok (.aload_n 0, 1) := by decide +kernel
theorem d_M_change_180 : decode b_M_change 180 = .ok (.getfield 41, 3) := by decide +kernel
theorem d_M_change_183 : decode b_M_change 183 = .ok (.iload 7, 2) := by decide +kernel
theorem d_M_change_185 : decode b_M_change 185 = .ok (.iaload, 1) := by decide +kernel
theorem d_M_change_186 : decode b_M_change 186 = .ok (.iconst 3, 1) := by decide +kernel
theorem d_M_change_187 : decode b_M_change 187 = .ok (.if_icmp .ne 7, 3) := by decide +kernel
theorem d_M_change_190 : decode b_M_change 190 = .ok (.iconst 1, 1) := by decide +kernel
theorem d_M_change_191 : decode b_M_change 191 = .ok (.goto 4, 3) := by decide +kernel
theorem d_M_change_194 : decode b_M_change 194 = .ok (.iconst 0, 1) := by decide +kernel
theorem d_M_change_195 : decode b_M_change 195 = .ok (.istore 8, 2) := by decide +kernel
theorem d_M_change_197 : decode b_M_change 197 = .ok (.aload_n 0, 1) := by decide +kernel
theorem d_M_change_198 : decode b_M_change 198 = .ok (.getfield 77, 3) := by decide +kernel
theorem d_M_change_201 : decode b_M_change 201 = .ok (.iload 7, 2) := by decide +kernel
theorem d_M_change_203 : decode b_M_change 203 = .ok (.aload_n 0, 1) := by decide +kernel
theorem d_M_change_204 : decode b_M_change 204 = .ok (.getfield 77, 3) := by decide +kernel
theorem d_M_change_207 : decode b_M_change 207 = .ok (.iload 7, 2) := by decide +kernel
theorem d_M_change_209 : decode b_M_change 209 = .ok (.baload, 1) := by decide +kernel
theorem d_M_change_210 : decode b_M_change 210 = .ok (.ifCond .ne 8, 3) := by decide +kernel
theorem d_M_change_213 : decode b_M_change 213 = .ok (.iload 8, 2) := by decide +kernel
theorem d_M_change_215 : decode b_M_change 215 = .ok (.ifCond .eq 7, 3) := by decide +kernel
theorem d_M_change_218 : decode b_M_change 218 = .ok (.iconst 1, 1) := by decide +kernel
theorem d_M_change_219 : decode b_M_change 219 = .ok (.goto 4, 3) := by decide +kernel
theorem d_M_change_222 : decode b_M_change 222 = .ok (.iconst 0, 1) := by decide +kernel
theorem d_M_change_223 : decode b_M_change 223 = .ok (.bastore, 1) := by decide +kernel
theorem d_M_change_224 : decode b_M_change 224 = .ok (.iload 8, 2) := by decide +kernel
theorem d_M_change_226 : decode b_M_change 226 = .ok (.ifCond .eq 14, 3) := by decide +kernel
theorem d_M_change_229 : decode b_M_change 229 = .ok (.iload_n 3, 1) := by decide +kernel
theorem d_M_change_230 : decode b_M_change 230 = .ok (.aload_n 0, 1) := by decide +kernel
theorem d_M_change_231 : decode b_M_change 231 = .ok (.getfield 59, 3) := by decide +kernel
theorem d_M_change_234 : decode b_M_change 234 = .ok (.iload 7, 2) := by decide +kernel
theorem d_M_change_236 : decode b_M_change 236 = .ok (.iaload, 1) := by decide +kernel
theorem d_M_change_237 : decode b_M_change 237 = .ok (.if_icmp .gt 11, 3) := by decide +kernel
theorem d_M_change_240 : decode b_M_change 240 = .ok (.aload_n 0, 1) := by decide +kernel
theorem d_M_change_241 : decode b_M_change 241 = .ok (.getfield 59, 3) := by decide +kernel
theorem d_M_change_244 : decode b_M_change 244 = .ok (.iload 7, 2) := by decide +kernel
theorem d_M_change_246 : decode b_M_change 246 = .ok (.iload_n 3, 1) := by decide +kernel
theorem d_M_change_247 : decode b_M_change 247 = .ok (.iastore, 1) := by decide +kernel
theorem d_M_change_248 : decode b_M_change 248 = .ok (.iload 8, 2) := by decide +kernel
theorem d_M_change_250 : decode b_M_change 250 = .ok (.ifCond .eq 15, 3) := by decide +kernel
theorem d_M_change_253 : decode b_M_change 253 = .ok (.iload 4, 2) := by decide +kernel
theorem d_M_change_255 : decode b_M_change 255 = .ok (.aload_n 0, 1) := by decide +kernel
theorem d_M_change_256 : decode b_M_change 256 = .ok (.getfield 62, 3) := by decide +kernel
theorem d_M_change_259 : decode b_M_change 259 = .ok (.iload 7, 2) := by decide +kernel
theorem d_M_change_261 : decode b_M_change 261 = .ok (.iaload, 1) := by decide +kernel
theorem d_M_change_262 : decode b_M_change 262 = .ok (.if_icmp .lt 12, 3) := by decide +kernel
theorem d_M_change_265 : decode b_M_change 265 = .ok (.aload_n 0, 1) := by decide +kernel
theorem d_M_change_266 : decode b_M_change 266 = .ok (.getfield 62, 3) := by decide +kernel
theorem d_M_change_269 : decode b_M_change 269 = .ok (.iload 7, 2) := by decide +kernel
theorem d_M_change_271 : decode b_M_change 271 = .ok (.iload 4, 2) := by decide +kernel
theorem d_M_change_273 : decode b_M_change 273 = .ok (.iastore, 1) := by decide +kernel
theorem d_M_change_274 : decode b_M_change 274 = .ok (.aload_n 0, 1) := by decide +kernel
theorem d_M_change_275 : decode b_M_change 275 = .ok (.iload 7, 2) := by decide +kernel
theorem d_M_change_277 : decode b_M_change 277 = .ok (.invokevirtual 207, 3) := by decide +kernel
theorem d_M_change_280 : decode b_M_change 280 = .ok (.return_, 1) := by decide +kernel
theorem d_M_meant_0 : decode b_M_meant 0 = .ok (.aload_n 0, 1) := by decide +kernel
theorem d_M_meant_1 : decode b_M_meant 1 = .ok (.bipush 8, 2) := by decide +kernel
theorem d_M_meant_3 : decode b_M_meant 3 = .ok (.iconst 4, 1) := by decide +kernel
theorem d_M_meant_4 : decode b_M_meant 4 = .ok (.invokevirtual 195, 3) := by decide +kernel
theorem d_M_meant_7 : decode b_M_meant 7 = .ok (.lstore_n 3, 1) := by decide +kernel
theorem d_M_meant_8 : decode b_M_meant 8 = .ok (.iconst 0, 1) := by decide +kernel
theorem d_M_meant_9 : decode b_M_meant 9 = .ok (.istore 5, 2) := by decide +kernel
theorem d_M_meant_11 : decode b_M_meant 11 = .ok (.iload 5, 2) := by decide +kernel
theorem d_M_meant_13 : decode b_M_meant 13 = .ok (.iconst 5, 1) := by decide +kernel
theorem d_M_meant_14 : decode b_M_meant 14 = .ok (.if_icmp .ge 41, 3) := by decide +kernel
theorem d_M_meant_17 : decode b_M_meant 17 = .ok (.aload_n 0, 1) := by decide +kernel
theorem d_M_meant_18 : decode b_M_meant 18 = .ok (.getfield 37, 3) := by decide +kernel
theorem d_M_meant_21 : decode b_M_meant 21 = .ok (.iconst 5, 1) := by decide +kernel
theorem d_M_meant_22 : decode b_M_meant 22 = .ok (.iload_n 1, 1) := by decide +kernel
theorem d_M_meant_23 : decode b_M_meant 23 = .ok (.imul, 1) := by decide +kernel
theorem d_M_meant_24 : decode b_M_meant 24 = .ok (.iload 5, 2) := by decide +kernel
theorem d_M_meant_26 : decode b_M_meant 26 = .ok (.iadd, 1) := by decide +kernel
theorem d_M_meant_27 : decode b_M_meant 27 = .ok (.baload, 1) := by decide +kernel
theorem d_M_meant_28 : decode b_M_meant 28 = .ok (.ifCond .eq 21, 3) := by decide +kernel
theorem d_M_meant_31 : decode b_M_meant 31 = .ok (.lload_n 3, 1) := by decide +kernel
theorem d_M_meant_32 : decode b_M_meant 32 = .ok (.bipush 16, 2) := by decide +kernel
theorem d_M_meant_34 : decode b_M_meant 34 = .ok (.iload_n 1, 1) := by decide +kernel
theorem d_M_meant_35 : decode b_M_meant 35 = .ok (.imul, 1) := by decide +kernel
theorem d_M_meant_36 : decode b_M_meant 36 = .ok (.iload 5, 2) := by decide +kernel
theorem d_M_meant_38 : decode b_M_meant 38 = .ok (.iadd, 1) := by decide +kernel
theorem d_M_meant_39 : decode b_M_meant 39 = .ok (.iconst 1, 1) := by decide +kernel
theorem d_M_meant_40 : decode b_M_meant 40 = .ok (.iadd, 1) := by decide +kernel
theorem d_M_meant_41 : decode b_M_meant 41 = .ok (.i2l, 1) := by decide +kernel
theorem d_M_meant_42 : decode b_M_meant 42 = .ok (.lcmp, 1) := by decide +kernel
theorem d_M_meant_43 : decode b_M_meant 43 = .ok (.ifCond .ne 6, 3) := by decide +kernel
theorem d_M_meant_46 : decode b_M_meant 46 = .ok (.iload 5, 2) := by decide +kernel
theorem d_M_meant_48 : decode b_M_meant 48 = .ok (.ireturn, 1) := by decide +kernel
theorem d_M_meant_49 : decode b_M_meant 49 = .ok (.iinc 5 1, 3) := by decide +kernel
theorem d_M_meant_52 : decode b_M_meant 52 = .ok (.goto (-41), 3) := by decide +kernel
theorem d_M_meant_55 : decode b_M_meant 55 = .ok (.lload_n 3, 1) := by decide +kernel
theorem d_M_meant_56 : decode b_M_meant 56 = .ok (.lconst 0, 1) := by decide +kernel
theorem d_M_meant_57 : decode b_M_meant 57 = .ok (.lcmp, 1) := by decide +kernel
theorem d_M_meant_58 : decode b_M_meant 58 = .ok (.ifCond .ne 40, 3) := by decide +kernel
theorem d_M_meant_61 : decode b_M_meant 61 = .ok (.aload_n 0, 1) := by decide +kernel
theorem d_M_meant_62 : decode b_M_meant 62 = .ok (.getfield 116, 3) := by decide +kernel
theorem d_M_meant_65 : decode b_M_meant 65 = .ok (.iconst 1, 1) := by decide +kernel
theorem d_M_meant_66 : decode b_M_meant 66 = .ok (.iaload, 1) := by decide +kernel
theorem d_M_meant_67 : decode b_M_meant 67 = .ok (.bipush 6, 2) := by decide +kernel
theorem d_M_meant_69 : decode b_M_meant 69 = .ok (.ishr, 1) := by decide +kernel
theorem d_M_meant_70 : decode b_M_meant 70 = .ok (.iconst 1, 1) := by decide +kernel
theorem d_M_meant_71 : decode b_M_meant 71 = .ok (.if_icmp .gt 27, 3) := by decide +kernel
theorem d_M_meant_74 : decode b_M_meant 74 = .ok (.iload_n 2, 1) := by decide +kernel
theorem d_M_meant_75 : decode b_M_meant 75 = .ok (.invokestatic 128, 3) := by decide +kernel
theorem d_M_meant_78 : decode b_M_meant 78 = .ok (.ifCond .eq 20, 3) := by decide +kernel
theorem d_M_meant_81 : decode b_M_meant 81 = .ok (.aload_n 0, 1) := by decide +kernel
theorem d_M_meant_82 : decode b_M_meant 82 = .ok (.getfield 37, 3) := by decide +kernel
theorem d_M_meant_85 : decode b_M_meant 85 = .ok (.iconst 5, 1) := by decide +kernel
theorem d_M_meant_86 : decode b_M_meant 86 = .ok (.iload_n 1, 1) := by decide +kernel
theorem d_M_meant_87 : decode b_M_meant 87 = .ok (.imul, 1) := by decide +kernel
theorem d_M_meant_88 : decode b_M_meant 88 = .ok (.iload_n 2, 1) := by decide +kernel
theorem d_M_meant_89 : decode b_M_meant 89 = .ok (.iadd, 1) := by decide +kernel
theorem d_M_meant_90 : decode b_M_meant 90 = .ok (.baload, 1) := by decide +kernel
theorem d_M_meant_91 : decode b_M_meant 91 = .ok (.ifCond .eq 7, 3) := by decide +kernel
theorem d_M_meant_94 : decode b_M_meant 94 = .ok (.iconst 1, 1) := by decide +kernel
theorem d_M_meant_95 : decode b_M_meant 95 = .ok (.goto 4, 3) := by decide +kernel
theorem d_M_meant_98 : decode b_M_meant 98 = .ok (.iconst 0, 1) := by decide +kernel
theorem d_M_meant_99 : decode b_M_meant 99 = .ok (.istore 5, 2) := by decide +kernel
theorem d_M_meant_101 : decode b_M_meant 101 = .ok (.iload 5, 2) := by decide +kernel
theorem d_M_meant_103 : decode b_M_meant 103 = .ok (.ifCond .eq 7, 3) := by decide +kernel
theorem d_M_meant_106 : decode b_M_meant 106 = .ok (.iload_n 2, 1) := by decide +kernel
theorem d_M_meant_107 : decode b_M_meant 107 = .ok (.goto 4, 3) := by decide +kernel
theorem d_M_meant_110 : decode b_M_meant 110 = .ok (.iconst (-1), 1) := by decide +kernel
theorem d_M_meant_111 : decode b_M_meant 111 = .ok (.ireturn, 1) := by decide +kernel
theorem d_M_capped_0 : decode b_M_capped 0 = .ok (.lload_n 0, 1) := by decide +kernel
theorem d_M_capped_1 : decode b_M_capped 1 = .ok (.ldc2_w 210, 3) := by decide +kernel
theorem d_M_capped_4 : decode b_M_capped 4 = .ok (.lcmp, 1) := by decide +kernel
theorem d_M_capped_5 : decode b_M_capped 5 = .ok (.ifCond .le 8, 3) := by decide +kernel
theorem d_M_capped_8 : decode b_M_capped 8 = .ok (.ldc 212, 2) := by decide +kernel
theorem d_M_capped_10 : decode b_M_capped 10 = .ok (.goto 5, 3) := by decide +kernel
theorem d_M_capped_13 : decode b_M_capped 13 = .ok (.lload_n 0, 1) := by decide +kernel
theorem d_M_capped_14 : decode b_M_capped 14 = .ok (.l2i, 1) := by decide +kernel
theorem d_M_capped_15 : decode b_M_capped 15 = .ok (.ireturn, 1) := by decide +kernel
theorem d_M_goDown_0 : decode b_M_goDown 0 = .ok (.aload_n 0, 1) := by decide +kernel
theorem d_M_goDown_1 : decode b_M_goDown 1 = .ok (.getfield 50, 3) := by decide +kernel
theorem d_M_goDown_4 : decode b_M_goDown 4 = .ok (.iload_n 1, 1) := by decide +kernel
theorem d_M_goDown_5 : decode b_M_goDown 5 = .ok (.iload_n 2, 1) := by decide +kernel
theorem d_M_goDown_6 : decode b_M_goDown 6 = .ok (.iastore, 1) := by decide +kernel
theorem d_M_goDown_7 : decode b_M_goDown 7 = .ok (.aload_n 0, 1) := by decide +kernel
theorem d_M_goDown_8 : decode b_M_goDown 8 = .ok (.getfield 41, 3) := by decide +kernel
theorem d_M_goDown_11 : decode b_M_goDown 11 = .ok (.iload_n 1, 1) := by decide +kernel
theorem d_M_goDown_12 : decode b_M_goDown 12 = .ok (.iconst 1, 1) := by decide +kernel
theorem d_M_goDown_13 : decode b_M_goDown 13 = .ok (.iastore, 1) := by decide +kernel
theorem d_M_goDown_14 : decode b_M_goDown 14 = .ok (.return_, 1) := by decide +kernel
theorem d_M_goUp_0 : decode b_M_goUp 0 = .ok (.aload_n 0, 1) := by decide +kernel
theorem d_M_goUp_1 : decode b_M_goUp 1 = .ok (.getfield 41, 3) := by decide +kernel
theorem d_M_goUp_4 : decode b_M_goUp 4 = .ok (.iload_n 1, 1) := by decide +kernel
theorem d_M_goUp_5 : decode b_M_goUp 5 = .ok (.iconst 3, 1) := by decide +kernel
theorem d_M_goUp_6 : decode b_M_goUp 6 = .ok (.iastore, 1) := by decide +kernel
theorem d_M_goUp_7 : decode b_M_goUp 7 = .ok (.aload_n 0, 1) := by decide +kernel
theorem d_M_goUp_8 : decode b_M_goUp 8 = .ok (.getfield 86, 3) := by decide +kernel
theorem d_M_goUp_11 : decode b_M_goUp 11 = .ok (.iload_n 1, 1) := by decide +kernel
theorem d_M_goUp_12 : decode b_M_goUp 12 = .ok (.dup2, 1) := by decide +kernel
theorem d_M_goUp_13 : decode b_M_goUp 13 = .ok (.iaload, 1) := by decide +kernel
theorem d_M_goUp_14 : decode b_M_goUp 14 = .ok (.iconst 1, 1) := by decide +kernel
theorem d_M_goUp_15 : decode b_M_goUp 15 = .ok (.iadd, 1) := by decide +kernel
theorem d_M_goUp_16 : decode b_M_goUp 16 = .ok (.iastore, 1) := by decide +kernel
theorem d_M_goUp_17 : decode b_M_goUp 17 = .ok (.return_, 1) := by decide +kernel
theorem d_M_turn_0 : decode b_M_turn 0 = .ok (.aload_n 0, 1) := by decide +kernel
theorem d_M_turn_1 : decode b_M_turn 1 = .ok (.getfield 41, 3) := by decide +kernel
theorem d_M_turn_4 : decode b_M_turn 4 = .ok (.iload_n 1, 1) := by decide +kernel
theorem d_M_turn_5 : decode b_M_turn 5 = .ok (.iaload, 1) := by decide +kernel
theorem d_M_turn_6 : decode b_M_turn 6 = .ok (.istore_n 3, 1) := by decide +kernel
theorem d_M_turn_7 : decode b_M_turn 7 = .ok (.iload_n 2, 1) := by decide +kernel
theorem d_M_turn_8 : decode b_M_turn 8 = .ok (.ifCond .ne 17, 3) := by decide +kernel
theorem d_M_turn_11 : decode b_M_turn 11 = .ok (.iload_n 3, 1) := by decide +kernel
theorem d_M_turn_12 : decode b_M_turn 12 = .ok (.iconst 2, 1) := by decide +kernel
theorem d_M_turn_13 : decode b_M_turn 13 = .ok (.if_icmp .lt 71, 3) := by decide +kernel
theorem d_M_turn_16 : decode b_M_turn 16 = .ok (.aload_n 0, 1) := by decide +kernel
theorem d_M_turn_17 : decode b_M_turn 17 = .ok (.iload_n 1, 1) := by decide +kernel
theorem d_M_turn_18 : decode b_M_turn 18 = .ok (.iconst 3, 1) := by decide +kernel
theorem d_M_turn_19 : decode b_M_turn 19 = .ok (.invokevirtual 213, 3) := by decide +kernel
theorem d_M_turn_22 : decode b_M_turn 22 = .ok (.goto 62, 3) := by decide +kernel
theorem d_M_turn_25 : decode b_M_turn 25 = .ok (.iload_n 3, 1) := by decide +kernel
theorem d_M_turn_26 : decode b_M_turn 26 = .ok (.iconst 1, 1) := by decide +kernel
theorem d_M_turn_27 : decode b_M_turn 27 = .ok (.if_icmp .ne 28, 3) := by decide +kernel
theorem d_M_turn_30 : decode b_M_turn 30 = .ok (.iload_n 2, 1) := by decide +kernel
theorem d_M_turn_31 : decode b_M_turn 31 = .ok (.iconst 1, 1) := by decide +kernel
theorem d_M_turn_32 : decode b_M_turn 32 = .ok (.if_icmp .ne 10, 3) := by decide +kernel
theorem d_M_turn_35 : decode b_M_turn 35 = .ok (.aload_n 0, 1) := by decide +kernel
theorem d_M_turn_36 : decode b_M_turn 36 = .ok (.getfield 41, 3) := by decide +kernel
theorem d_M_turn_39 : decode b_M_turn 39 = .ok (.iload_n 1, 1) := by decide +kernel
theorem d_M_turn_40 : decode b_M_turn 40 = .ok (.iconst 2, 1) := by decide +kernel
theorem d_M_turn_41 : decode b_M_turn 41 = .ok (.iastore, 1) := by decide +kernel
theorem d_M_turn_42 : decode b_M_turn 42 = .ok (.iload_n 2, 1) := by decide +kernel
theorem d_M_turn_43 : decode b_M_turn 43 = .ok (.iconst 2, 1) := by decide +kernel
theorem d_M_turn_44 : decode b_M_turn 44 = .ok (.if_icmp .ne 40, 3) := by decide +kernel
theorem d_M_turn_47 : decode b_M_turn 47 = .ok (.aload_n 0, 1) := by decide +kernel
theorem d_M_turn_48 : decode b_M_turn 48 = .ok (.iload_n 1, 1) := by decide +kernel
theorem d_M_turn_49 : decode b_M_turn 49 = .ok (.invokevirtual 216, 3) := by decide +kernel
theorem d_M_turn_52 : decode b_M_turn 52 = .ok (.goto 32, 3) := by decide +kernel
theorem d_M_turn_55 : decode b_M_turn 55 = .ok (.iload_n 3, 1) := by decide +kernel
theorem d_M_turn_56 : decode b_M_turn 56 = .ok (.iconst 2, 1) := by decide +kernel
theorem d_M_turn_57 : decode b_M_turn 57 = .ok (.if_icmp .ne 16, 3) := by decide +kernel
theorem d_M_turn_60 : decode b_M_turn 60 = .ok (.iload_n 2, 1) := by decide +kernel
theorem d_M_turn_61 : decode b_M_turn 61 = .ok (.iconst 2, 1) := by decide +kernel
theorem d_M_turn_62 : decode b_M_turn 62 = .ok (.if_icmp .lt 22, 3) := by decide +kernel
theorem d_M_turn_65 : decode b_M_turn 65 = .ok (.aload_n 0, 1) := by decide +kernel
theorem d_M_turn_66 : decode b_M_turn 66 = .ok (.iload_n 1, 1) := by decide +kernel
theorem d_M_turn_67 : decode b_M_turn 67 = .ok (.invokevirtual 216, 3) := by decide +kernel
theorem d_M_turn_70 : decode b_M_turn 70 = .ok (.goto 14, 3) := by decide +kernel
theorem d_M_turn_73 : decode b_M_turn 73 = .ok (.iload_n 2, 1) := by decide +kernel
theorem d_M_turn_74 : decode b_M_turn 74 = .ok (.iconst 1, 1) := by decide +kernel
theorem d_M_turn_75 : decode b_M_turn 75 = .ok (.if_icmp .ne 9, 3) := by decide +kernel
theorem d_M_turn_78 : decode b_M_turn 78 = .ok (.aload_n 0, 1) := by decide +kernel
theorem d_M_turn_79 : decode b_M_turn 79 = .ok (.iload_n 1, 1) := by decide +kernel
theorem d_M_turn_80 : decode b_M_turn 80 = .ok (.iconst 3, 1) := by decide +kernel
theorem d_M_turn_81 : decode b_M_turn 81 = .ok (.invokevirtual 213, 3) := by decide +kernel
theorem d_M_turn_84 : decode b_M_turn 84 = .ok (.return_, 1) := by decide +kernel
theorem d_M_packeted_0 : decode b_M_packeted 0 = .ok (.iload_n 2, 1) := by decide +kernel
theorem d_M_packeted_1 : decode b_M_packeted 1 = .ok (.sipush 255, 3) := by decide +kernel
theorem d_M_packeted_4 : decode b_M_packeted 4 = .ok (.if_icmp .ne 89, 3) := by decide +kernel
theorem d_M_packeted_7 : decode b_M_packeted 7 = .ok (.aload_n 0, 1) := by decide +kernel
theorem d_M_packeted_8 : decode b_M_packeted 8 = .ok (.getfield 192, 3) := by decide +kernel
theorem d_M_packeted_11 : decode b_M_packeted 11 = .ok (.bipush 24, 2) := by decide +kernel
theorem d_M_packeted_13 : decode b_M_packeted 13 = .ok (.if_icmp .lt 80, 3) := by decide +kernel
theorem d_M_packeted_16 : decode b_M_packeted 16 = .ok (.aload_n 0, 1) := by decide +kernel
theorem d_M_packeted_17 : decode b_M_packeted 17 = .ok (.getfield 116, 3) := by decide +kernel
theorem d_M_packeted_20 : decode b_M_packeted 20 = .ok (.iconst 0, 1) := by decide +kernel
theorem d_M_packeted_21 : decode b_M_packeted 21 = .ok (.iaload, 1) := by decide +kernel
theorem d_M_packeted_22 : decode b_M_packeted 22 = .ok (.bipush 32, 2) := by decide +kernel
theorem d_M_packeted_24 : decode b_M_packeted 24 = .ok (.if_icmp .lt 69, 3) := by decide +kernel
theorem d_M_packeted_27 : decode b_M_packeted 27 = .ok (.aload_n 0, 1) := by decide +kernel
theorem d_M_packeted_28 : decode b_M_packeted 28 = .ok (.getfield 116, 3) := by decide +kernel
theorem d_M_packeted_31 : decode b_M_packeted 31 = .ok (.iconst 0, 1) := by decide +kernel
theorem d_M_packeted_32 : decode b_M_packeted 32 = .ok (.iaload, 1) := by decide +kernel
theorem d_M_packeted_33 : decode b_M_packeted 33 = .ok (.bipush 63, 2) := by decide +kernel
theorem d_M_packeted_35 : decode b_M_packeted 35 = .ok (.if_icmp .gt 58, 3) := by decide +kernel
theorem d_M_packeted_38 : decode b_M_packeted 38 = .ok (.aload_n 0, 1) := by decide +kernel
theorem d_M_packeted_39 : decode b_M_packeted 39 = .ok (.getfield 116, 3) := by decide +kernel
theorem d_M_packeted_42 : decode b_M_packeted 42 = .ok (.iconst 3, 1) := by decide +kernel
theorem d_M_packeted_43 : decode b_M_packeted 43 = .ok (.iaload, 1) := by decide +kernel
theorem d_M_packeted_44 : decode b_M_packeted 44 = .ok (.bipush 24, 2) := by decide +kernel
theorem d_M_packeted_46 : decode b_M_packeted 46 = .ok (.if_icmp .lt 47, 3) := by decide +kernel
theorem d_M_packeted_49 : decode b_M_packeted 49 = .ok (.aload_n 0, 1) := by decide +kernel
theorem d_M_packeted_50 : decode b_M_packeted 50 = .ok (.getfield 116, 3) := by decide +kernel
theorem d_M_packeted_53 : decode b_M_packeted 53 = .ok (.iconst 3, 1) := by decide +kernel
theorem d_M_packeted_54 : decode b_M_packeted 54 = .ok (.iaload, 1) := by decide +kernel
theorem d_M_packeted_55 : decode b_M_packeted 55 = .ok (.aload_n 0, 1) := by decide +kernel
theorem d_M_packeted_56 : decode b_M_packeted 56 = .ok (.getfield 192, 3) := by decide +kernel
theorem d_M_packeted_59 : decode b_M_packeted 59 = .ok (.if_icmp .gt 34, 3) := by decide +kernel
theorem d_M_packeted_62 : decode b_M_packeted 62 = .ok (.aload_n 0, 1) := by decide +kernel
theorem d_M_packeted_63 : decode b_M_packeted 63 = .ok (.getfield 116, 3) := by decide +kernel
theorem d_M_packeted_66 : decode b_M_packeted 66 = .ok (.iconst 2, 1) := by decide +kernel
theorem d_M_packeted_67 : decode b_M_packeted 67 = .ok (.iaload, 1) := by decide +kernel
theorem d_M_packeted_68 : decode b_M_packeted 68 = .ok (.ifCond .eq 25, 3) := by decide +kernel
theorem d_M_packeted_71 : decode b_M_packeted 71 = .ok (.aload_n 0, 1) := by decide +kernel
theorem d_M_packeted_72 : decode b_M_packeted 72 = .ok (.getfield 116, 3) := by decide +kernel
theorem d_M_packeted_75 : decode b_M_packeted 75 = .ok (.iconst 1, 1) := by decide +kernel
theorem d_M_packeted_76 : decode b_M_packeted 76 = .ok (.iaload, 1) := by decide +kernel
theorem d_M_packeted_77 : decode b_M_packeted 77 = .ok (.iconst 5, 1) := by decide +kernel
theorem d_M_packeted_78 : decode b_M_packeted 78 = .ok (.iand, 1) := by decide +kernel
theorem d_M_packeted_79 : decode b_M_packeted 79 = .ok (.ifCond .ne 14, 3) := by decide +kernel
theorem d_M_packeted_82 : decode b_M_packeted 82 = .ok (.aload_n 0, 1) := by decide +kernel
theorem d_M_packeted_83 : decode b_M_packeted 83 = .ok (.iconst 4, 1) := by decide +kernel
theorem d_M_packeted_84 : decode b_M_packeted 84 = .ok (.iconst 4, 1) := by decide +kernel
theorem d_M_packeted_85 : decode b_M_packeted 85 = .ok (.invokevirtual 195, 3) := by decide +kernel
theorem d_M_packeted_88 : decode b_M_packeted 88 = .ok (.lconst 0, 1) := by decide +kernel
theorem d_M_packeted_89 : decode b_M_packeted 89 = .ok (.lcmp, 1) := by decide +kernel
theorem d_M_packeted_90 : decode b_M_packeted 90 = .ok (.ifCond .ne 5, 3) := by decide +kernel
theorem d_M_packeted_93 : decode b_M_packeted 93 = .ok (.iconst 0, 1) := by decide +kernel
theorem d_M_packeted_94 : decode b_M_packeted 94 = .ok (.ireturn, 1) := by decide +kernel
theorem d_M_packeted_95 : decode b_M_packeted 95 = .ok (.aload_n 0, 1) := by decide +kernel
theorem d_M_packeted_96 : decode b_M_packeted 96 = .ok (.iload_n 1, 1) := by decide +kernel
theorem d_M_packeted_97 : decode b_M_packeted 97 = .ok (.iload_n 3, 1) := by decide +kernel
theorem d_M_packeted_98 : decode b_M_packeted 98 = .ok (.invokevirtual 219, 3) := by decide +kernel
theorem d_M_packeted_101 : decode b_M_packeted 101 = .ok (.istore 4, 2) := by decide +kernel
theorem d_M_packeted_103 : decode b_M_packeted 103 = .ok (.iload 4, 2) := by decide +kernel
theorem d_M_packeted_105 : decode b_M_packeted 105 = .ok (.iconst (-1), 1) := by decide +kernel
theorem d_M_packeted_106 : decode b_M_packeted 106 = .ok (.if_icmp .ne 5, 3) := by decide +kernel
theorem d_M_packeted_109 : decode b_M_packeted 109 = .ok (.iconst 0, 1) := by decide +kernel
theorem d_M_packeted_110 : decode b_M_packeted 110 = .ok (.ireturn, 1) := by decide +kernel
theorem d_M_packeted_111 : decode b_M_packeted 111 = .ok (.iconst 5, 1) := by decide +kernel
theorem d_M_packeted_112 : decode b_M_packeted 112 = .ok (.iload_n 1, 1) := by decide +kernel
theorem d_M_packeted_113 : decode b_M_packeted 113 = .ok (.imul, 1) := by decide +kernel
theorem d_M_packeted_114 : decode b_M_packeted 114 = .ok (.iload 4, 2) := by decide +kernel
theorem d_M_packeted_116 : decode b_M_packeted 116 = .ok (.iadd, 1) := by decide +kernel
theorem d_M_packeted_117 : decode b_M_packeted 117 = .ok (.istore 5, 2) := by decide +kernel
theorem d_M_packeted_119 : decode b_M_packeted 119 = .ok (.aload_n 0, 1) := by decide +kernel
theorem d_M_packeted_120 : decode b_M_packeted 120 = .ok (.getfield 41, 3) := by decide +kernel
theorem d_M_packeted_123 : decode b_M_packeted 123 = .ok (.iload 5, 2) := by decide +kernel
theorem d_M_packeted_125 : decode b_M_packeted 125 = .ok (.iaload, 1) := by decide +kernel
theorem d_M_packeted_126 : decode b_M_packeted 126 = .ok (.istore 6, 2) := by decide +kernel
theorem d_M_packeted_128 : decode b_M_packeted 128 = .ok (.aload_n 0, 1) := by decide +kernel
theorem d_M_packeted_129 : decode b_M_packeted 129 = .ok (.getfield 68, 3) := by decide +kernel
theorem d_M_packeted_132 : decode b_M_packeted 132 = .ok (.iload 5, 2) := by decide +kernel
theorem d_M_packeted_134 : decode b_M_packeted 134 = .ok (.iaload, 1) := by decide +kernel
theorem d_M_packeted_135 : decode b_M_packeted 135 = .ok (.istore 7, 2) := by decide +kernel
theorem d_M_packeted_137 : decode b_M_packeted 137 = .ok (.aload_n 0, 1) := by decide +kernel
theorem d_M_packeted_138 : decode b_M_packeted 138 = .ok (.getfield 116, 3) := by decide +kernel
theorem d_M_packeted_141 : decode b_M_packeted 141 = .ok (.iconst 1, 1) := by decide +kernel
theorem d_M_packeted_142 : decode b_M_packeted 142 = .ok (.iaload, 1) := by decide +kernel
theorem d_M_packeted_143 : decode b_M_packeted 143 = .ok (.bipush 6, 2) := by decide +kernel
theorem d_M_packeted_145 : decode b_M_packeted 145 = .ok (.ishr, 1) := by decide +kernel
theorem d_M_packeted_146 : decode b_M_packeted 146 = .ok (.istore 8, 2) := by decide +kernel
theorem d_M_packeted_148 : decode b_M_packeted 148 = .ok (.aload_n 0, 1) := by decide +kernel
theorem d_M_packeted_149 : decode b_M_packeted 149 = .ok (.getfield 47, 3) := by decide +kernel
theorem d_M_packeted_152 : decode b_M_packeted 152 = .ok (.iload 5, 2) := by decide +kernel
theorem d_M_packeted_154 : decode b_M_packeted 154 = .ok (.aload_n 0, 1) := by decide +kernel
theorem d_M_packeted_155 : decode b_M_packeted 155 = .ok (.iconst 4, 1) := by decide +kernel
theorem d_M_packeted_156 : decode b_M_packeted 156 = .ok (.iconst 4, 1) := by decide +kernel
theorem d_M_packeted_157 : decode b_M_packeted 157 = .ok (.invokevirtual 195, 3) := by decide +kernel
theorem d_M_packeted_160 : decode b_M_packeted 160 = .ok (.l2i, 1) := by decide +kernel
theorem d_M_packeted_161 : decode b_M_packeted 161 = .ok (.iastore, 1) := by decide +kernel
theorem d_M_packeted_162 : decode b_M_packeted 162 = .ok (.aload_n 0, 1) := by decide +kernel
theorem d_M_packeted_163 : decode b_M_packeted 163 = .ok (.getfield 44, 3) := by decide +kernel
theorem d_M_packeted_166 : decode b_M_packeted 166 = .ok (.iload 5, 2) := by decide +kernel
theorem d_M_packeted_168 : decode b_M_packeted 168 = .ok (.iload 8, 2) := by decide +kernel
theorem d_M_packeted_170 : decode b_M_packeted 170 = .ok (.iastore, 1) := by decide +kernel
theorem d_M_packeted_171 : decode b_M_packeted 171 = .ok (.aload_n 0, 1) := by decide +kernel
theorem d_M_packeted_172 : decode b_M_packeted 172 = .ok (.getfield 74, 3) := by decide +kernel
theorem d_M_packeted_175 : decode b_M_packeted 175 = .ok (.iload 5, 2) := by decide +kernel
theorem d_M_packeted_177 : decode b_M_packeted 177 = .ok (.aload_n 0, 1) := by decide +kernel
theorem d_M_packeted_178 : decode b_M_packeted 178 = .ok (.getfield 116, 3) := by decide +kernel
theorem d_M_packeted_181 : decode b_M_packeted 181 = .ok (.iconst 2, 1) := by decide +kernel
theorem d_M_packeted_182 : decode b_M_packeted 182 = .ok (.iaload, 1) := by decide +kernel
theorem d_M_packeted_183 : decode b_M_packeted 183 = .ok (.iastore, 1) := by decide +kernel
theorem d_M_packeted_184 : decode b_M_packeted 184 = .ok (.aload_n 0, 1) := by decide +kernel
theorem d_M_packeted_185 : decode b_M_packeted 185 = .ok (.getfield 71, 3) := by decide +kernel
theorem d_M_packeted_188 : decode b_M_packeted 188 = .ok (.iload 5, 2) := by decide +kernel
theorem d_M_packeted_190 : decode b_M_packeted 190 = .ok (.aload_n 0, 1) := by decide +kernel
theorem d_M_packeted_191 : decode b_M_packeted 191 = .ok (.bipush 12, 2) := by decide +kernel
theorem d_M_packeted_193 : decode b_M_packeted 193 = .ok (.iconst 4, 1) := by decide +kernel
theorem d_M_packeted_194 : decode b_M_packeted 194 = .ok (.invokevirtual 195, 3) := by decide +kernel
theorem d_M_packeted_197 : decode b_M_packeted 197 = .ok (.invokestatic 222, 3) := by decide +kernel
theorem d_M_packeted_200 : decode b_M_packeted 200 = .ok (.iastore, 1) := by decide +kernel
theorem d_M_packeted_201 : decode b_M_packeted 201 = .ok (.aload_n 0, 1) := by decide +kernel
theorem d_M_packeted_202 : decode b_M_packeted 202 = .ok (.getfield 68, 3) := by decide +kernel
theorem d_M_packeted_205 : decode b_M_packeted 205 = .ok (.iload 5, 2) := by decide +kernel
theorem d_M_packeted_207 : decode b_M_packeted 207 = .ok (.aload_n 0, 1) := by decide +kernel
theorem d_M_packeted_208 : decode b_M_packeted 208 = .ok (.bipush 16, 2) := by decide +kernel
theorem d_M_packeted_210 : decode b_M_packeted 210 = .ok (.iconst 4, 1) := by decide +kernel
theorem d_M_packeted_211 : decode b_M_packeted 211 = .ok (.invokevirtual 195, 3) := by decide +kernel
theorem d_M_packeted_214 : decode b_M_packeted 214 = .ok (.invokestatic 222, 3) := by decide +kernel
theorem d_M_packeted_217 : decode b_M_packeted 217 = .ok (.iastore, 1) := by decide +kernel
theorem d_M_packeted_218 : decode b_M_packeted 218 = .ok (.aload_n 0, 1) := by decide +kernel
theorem d_M_packeted_219 : decode b_M_packeted 219 = .ok (.getfield 77, 3) := by decide +kernel
theorem d_M_packeted_222 : decode b_M_packeted 222 = .ok (.iload 5, 2) := by decide +kernel
theorem d_M_packeted_224 : decode b_M_packeted 224 = .ok (.baload, 1) := by decide +kernel
theorem d_M_packeted_225 : decode b_M_packeted 225 = .ok (.ifCond .eq 51, 3) := by decide +kernel
theorem d_M_packeted_228 : decode b_M_packeted 228 = .ok (.aload_n 0, 1) := by decide +kernel
theorem d_M_packeted_229 : decode b_M_packeted 229 = .ok (.getfield 116, 3) := by decide +kernel
theorem d_M_packeted_232 : decode b_M_packeted 232 = .ok (.iconst 1, 1) := by decide +kernel
theorem d_M_packeted_233 : decode b_M_packeted 233 = .ok (.iaload, 1) := by decide +kernel
theorem d_M_packeted_234 : decode b_M_packeted 234 = .ok (.bipush 16, 2) := by decide +kernel
theorem d_M_packeted_236 : decode b_M_packeted 236 = .ok (.iand, 1) := by decide +kernel
theorem d_M_packeted_237 : decode b_M_packeted 237 = .ok (.ifCond .eq 39, 3) := by decide +kernel
theorem d_M_packeted_240 : decode b_M_packeted 240 = .ok (.aload_n 0, 1) := by decide +kernel
theorem d_M_packeted_241 : decode b_M_packeted 241 = .ok (.getfield 77, 3) := by decide +kernel
theorem d_M_packeted_244 : decode b_M_packeted 244 = .ok (.iload 5, 2) := by decide +kernel
theorem d_M_packeted_246 : decode b_M_packeted 246 = .ok (.iconst 0, 1) := by decide +kernel
theorem d_M_packeted_247 : decode b_M_packeted 247 = .ok (.bastore, 1) := by decide +kernel
theorem d_M_packeted_248 : decode b_M_packeted 248 = .ok (.aload_n 0, 1) := by decide +kernel
theorem d_M_packeted_249 : decode b_M_packeted 249 = .ok (.getfield 59, 3) := by decide +kernel
theorem d_M_packeted_252 : decode b_M_packeted 252 = .ok (.iload 5, 2) := by decide +kernel
theorem d_M_packeted_254 : decode b_M_packeted 254 = .ok (.aload_n 0, 1) := by decide +kernel
theorem d_M_packeted_255 : decode b_M_packeted 255 = .ok (.getfield 53, 3) := by decide +kernel
theorem d_M_packeted_258 : decode b_M_packeted 258 = .ok (.iload 5, 2) := by decide +kernel
theorem d_M_packeted_260 : decode b_M_packeted 260 = .ok (.iaload, 1) := by decide +kernel
theorem d_M_packeted_261 : decode b_M_packeted 261 = .ok (.iastore, 1) := by decide +kernel
theorem d_M_packeted_262 : decode b_M_packeted 262 = .ok (.aload_n 0, 1) := by decide +kernel
theorem d_M_packeted_263 : decode b_M_packeted 263 = .ok (.getfield 62, 3) := by decide +kernel
theorem d_M_packeted_266 : decode b_M_packeted 266 = .ok (.iload 5, 2) := by decide +kernel
theorem d_M_packeted_268 : decode b_M_packeted 268 = .ok (.aload_n 0, 1) := by decide +kernel
theorem d_M_packeted_269 : decode b_M_packeted 269 = .ok (.getfield 56, 3) := by decide +kernel
theorem d_M_packeted_272 : decode b_M_packeted 272 = .ok (.iload 5, 2) := by decide +kernel
theorem d_M_packeted_274 : decode b_M_packeted 274 = .ok (.iaload, 1) := by decide +kernel
theorem d_M_packeted_275 : decode b_M_packeted 275 = .ok (.iastore, 1) := by decide +kernel
theorem d_M_packeted_276 : decode b_M_packeted 276 = .ok (.aload_n 0, 1) := by decide +kernel
theorem d_M_packeted_277 : decode b_M_packeted 277 = .ok (.getfield 74, 3) := by decide +kernel
theorem d_M_packeted_280 : decode b_M_packeted 280 = .ok (.iload 5, 2) := by decide +kernel
theorem d_M_packeted_282 : decode b_M_packeted 282 = .ok (.iaload, 1) := by decide +kernel
theorem d_M_packeted_283 : decode b_M_packeted 283 = .ok (.i2l, 1) := by decide +kernel
theorem d_M_packeted_284 : decode b_M_packeted 284 = .ok (.aload_n 0, 1) := by decide +kernel
theorem d_M_packeted_285 : decode b_M_packeted 285 = .ok (.getfield 62, 3) := by decide +kernel
theorem d_M_packeted_288 : decode b_M_packeted 288 = .ok (.iload 5, 2) := by decide +kernel
theorem d_M_packeted_290 : decode b_M_packeted 290 = .ok (.iaload, 1) := by decide +kernel
theorem d_M_packeted_291 : decode b_M_packeted 291 = .ok (.aload_n 0, 1) := by decide +kernel
theorem d_M_packeted_292 : decode b_M_packeted 292 = .ok (.getfield 71, 3) := by decide +kernel
theorem d_M_packeted_295 : decode b_M_packeted 295 = .ok (.iload 5, 2) := by decide +kernel
theorem d_M_packeted_297 : decode b_M_packeted 297 = .ok (.iaload, 1) := by decide +kernel
theorem d_M_packeted_298 : decode b_M_packeted 298 = .ok (.invokestatic 153, 3) := by decide +kernel
theorem d_M_packeted_301 : decode b_M_packeted 301 = .ok (.i2l, 1) := by decide +kernel
theorem d_M_packeted_302 : decode b_M_packeted 302 = .ok (.lmul, 1) := by decide +kernel
theorem d_M_packeted_303 : decode b_M_packeted 303 = .ok (.lstore 9, 2) := by decide +kernel
theorem d_M_packeted_305 : decode b_M_packeted 305 = .ok (.aload_n 0, 1) := by decide +kernel
theorem d_M_packeted_306 : decode b_M_packeted 306 = .ok (.getfield 83, 3) := by decide +kernel
theorem d_M_packeted_309 : decode b_M_packeted 309 = .ok (.iload 5, 2) := by decide +kernel
theorem d_M_packeted_311 : decode b_M_packeted 311 = .ok (.lload 9, 2) := by decide +kernel
theorem d_M_packeted_313 : decode b_M_packeted 313 = .ok (.ldc2_w 226, 3) := by decide +kernel
theorem d_M_packeted_316 : decode b_M_packeted 316 = .ok (.lcmp, 1) := by decide +kernel
theorem d_M_packeted_317 : decode b_M_packeted 317 = .ok (.ifCond .le 8, 3) := by decide +kernel
theorem d_M_packeted_320 : decode b_M_packeted 320 = .ok (.ldc 228, 2) := by decide +kernel
theorem d_M_packeted_322 : decode b_M_packeted 322 = .ok (.goto 6, 3) := by decide +kernel
theorem d_M_packeted_325 : decode b_M_packeted 325 = .ok (.lload 9, 2) := by decide +kernel
theorem d_M_packeted_327 : decode b_M_packeted 327 = .ok (.l2i, 1) := by decide +kernel
theorem d_M_packeted_328 : decode b_M_packeted 328 = .ok (.iastore, 1) := by decide +kernel
theorem d_M_packeted_329 : decode b_M_packeted 329 = .ok (.iload 6, 2) := by decide +kernel
theorem d_M_packeted_331 : decode b_M_packeted 331 = .ok (.ifCond .eq 11, 3) := by decide +kernel
theorem d_M_packeted_334 : decode b_M_packeted 334 = .ok (.aload_n 0, 1) := by decide +kernel
theorem d_M_packeted_335 : decode b_M_packeted 335 = .ok (.iload 5, 2) := by decide +kernel
theorem d_M_packeted_337 : decode b_M_packeted 337 = .ok (.iload 8, 2) := by decide +kernel
theorem d_M_packeted_339 : decode b_M_packeted 339 = .ok (.invokevirtual 229, 3) := by decide +kernel
theorem d_M_packeted_342 : decode b_M_packeted 342 = .ok (.aload_n 0, 1) := by decide +kernel
theorem d_M_packeted_343 : decode b_M_packeted 343 = .ok (.getfield 116, 3) := by decide +kernel
theorem d_M_packeted_346 : decode b_M_packeted 346 = .ok (.iconst 1, 1) := by decide +kernel
theorem d_M_packeted_347 : decode b_M_packeted 347 = .ok (.iaload, 1) := by decide +kernel
theorem d_M_packeted_348 : decode b_M_packeted 348 = .ok (.bipush 32, 2) := by decide +kernel
theorem d_M_packeted_350 : decode b_M_packeted 350 = .ok (.iand, 1) := by decide +kernel
theorem d_M_packeted_351 : decode b_M_packeted 351 = .ok (.ifCond .eq 12, 3) := by decide +kernel
theorem d_M_packeted_354 : decode b_M_packeted 354 = .ok (.aload_n 0, 1) := by decide +kernel
theorem d_M_packeted_355 : decode b_M_packeted 355 = .ok (.iload_n 1, 1) := by decide +kernel
theorem d_M_packeted_356 : decode b_M_packeted 356 = .ok (.iload 4, 2) := by decide +kernel
theorem d_M_packeted_358 : decode b_M_packeted 358 = .ok (.bipush 16, 2) := by decide +kernel
theorem d_M_packeted_360 : decode b_M_packeted 360 = .ok (.invokevirtual 232, 3) := by decide +kernel
theorem d_M_packeted_363 : decode b_M_packeted 363 = .ok (.aload_n 0, 1) := by decide +kernel
theorem d_M_packeted_364 : decode b_M_packeted 364 = .ok (.getfield 68, 3) := by decide +kernel
theorem d_M_packeted_367 : decode b_M_packeted 367 = .ok (.iload 5, 2) := by decide +kernel
theorem d_M_packeted_369 : decode b_M_packeted 369 = .ok (.iaload, 1) := by decide +kernel
theorem d_M_packeted_370 : decode b_M_packeted 370 = .ok (.iload 7, 2) := by decide +kernel
theorem d_M_packeted_372 : decode b_M_packeted 372 = .ok (.if_icmp .ne 15, 3) := by decide +kernel
theorem d_M_packeted_375 : decode b_M_packeted 375 = .ok (.aload_n 0, 1) := by decide +kernel
theorem d_M_packeted_376 : decode b_M_packeted 376 = .ok (.getfield 41, 3) := by decide +kernel
theorem d_M_packeted_379 : decode b_M_packeted 379 = .ok (.iload 5, 2) := by decide +kernel
theorem d_M_packeted_381 : decode b_M_packeted 381 = .ok (.iaload, 1) := by decide +kernel
theorem d_M_packeted_382 : decode b_M_packeted 382 = .ok (.iload 6, 2) := by decide +kernel
theorem d_M_packeted_384 : decode b_M_packeted 384 = .ok (.if_icmp .eq 9, 3) := by decide +kernel
theorem d_M_packeted_387 : decode b_M_packeted 387 = .ok (.aload_n 0, 1) := by decide +kernel
theorem d_M_packeted_388 : decode b_M_packeted 388 = .ok (.iload 5, 2) := by decide +kernel
theorem d_M_packeted_390 : decode b_M_packeted 390 = .ok (.invokevirtual 207, 3) := by decide +kernel
theorem d_M_packeted_393 : decode b_M_packeted 393 = .ok (.iconst 1, 1) := by decide +kernel
theorem d_M_packeted_394 : decode b_M_packeted 394 = .ok (.ireturn, 1) := by decide +kernel
theorem d_M_detectFires_0 : decode b_M_detectFires 0 = .ok (.aload_n 0, 1) := by decide +kernel
theorem d_M_detectFires_1 : decode b_M_detectFires 1 = .ok (.getfield 47, 3) := by decide +kernel
theorem d_M_detectFires_4 : decode b_M_detectFires 4 = .ok (.iload_n 1, 1) := by decide +kernel
theorem d_M_detectFires_5 : decode b_M_detectFires 5 = .ok (.iconst 0, 1) := by decide +kernel
theorem d_M_detectFires_6 : decode b_M_detectFires 6 = .ok (.iastore, 1) := by decide +kernel
theorem d_M_detectFires_7 : decode b_M_detectFires 7 = .ok (.aload_n 0, 1) := by decide +kernel
theorem d_M_detectFires_8 : decode b_M_detectFires 8 = .ok (.getfield 41, 3) := by decide +kernel
theorem d_M_detectFires_11 : decode b_M_detectFires 11 = .ok (.iload_n 1, 1) := by decide +kernel
theorem d_M_detectFires_12 : decode b_M_detectFires 12 = .ok (.iaload, 1) := by decide +kernel
theorem d_M_detectFires_13 : decode b_M_detectFires 13 = .ok (.iconst 2, 1) := by decide +kernel
theorem d_M_detectFires_14 : decode b_M_detectFires 14 = .ok (.if_icmp .lt 9, 3) := by decide +kernel
theorem d_M_detectFires_17 : decode b_M_detectFires 17 = .ok (.aload_n 0, 1) := by decide +kernel
theorem d_M_detectFires_18 : decode b_M_detectFires 18 = .ok (.iload_n 1, 1) := by decide +kernel
theorem d_M_detectFires_19 : decode b_M_detectFires 19 = .ok (.iconst 1, 1) := by decide +kernel
theorem d_M_detectFires_20 : decode b_M_detectFires 20 = .ok (.invokevirtual 213, 3) := by decide +kernel
theorem d_M_detectFires_23 : decode b_M_detectFires 23 = .ok (.return_, 1) := by decide +kernel
theorem d_M_reach_0 : decode b_M_reach 0 = .ok (.aload_n 0, 1) := by decide +kernel
theorem d_M_reach_1 : decode b_M_reach 1 = .ok (.getfield 13, 3) := by decide +kernel
theorem d_M_reach_4 : decode b_M_reach 4 = .ok (.iload_n 1, 1) := by decide +kernel
theorem d_M_reach_5 : decode b_M_reach 5 = .ok (.iaload, 1) := by decide +kernel
theorem d_M_reach_6 : decode b_M_reach 6 = .ok (.ifCond .eq 15, 3) := by decide +kernel
theorem d_M_reach_9 : decode b_M_reach 9 = .ok (.aload_n 0, 1) := by decide +kernel
theorem d_M_reach_10 : decode b_M_reach 10 = .ok (.iload_n 1, 1) := by decide +kernel
theorem d_M_reach_11 : decode b_M_reach 11 = .ok (.bipush 7, 2) := by decide +kernel
theorem d_M_reach_13 : decode b_M_reach 13 = .ok (.invokevirtual 143, 3) := by decide +kernel
theorem d_M_reach_16 : decode b_M_reach 16 = .ok (.iconst 2, 1) := by decide +kernel
theorem d_M_reach_17 : decode b_M_reach 17 = .ok (.iand, 1) := by decide +kernel
theorem d_M_reach_18 : decode b_M_reach 18 = .ok (.ifCond .eq 4, 3) := by decide +kernel
theorem d_M_reach_21 : decode b_M_reach 21 = .ok (.return_, 1) := by decide +kernel
theorem d_M_reach_22 : decode b_M_reach 22 = .ok (.iload 4, 2) := by decide +kernel
theorem d_M_reach_24 : decode b_M_reach 24 = .ok (.bipush 15, 2) := by decide +kernel
theorem d_M_reach_26 : decode b_M_reach 26 = .ok (.if_icmp .eq 27, 3) := by decide +kernel
theorem d_M_reach_29 : decode b_M_reach 29 = .ok (.iload 4, 2) := by decide +kernel
theorem d_M_reach_31 : decode b_M_reach 31 = .ok (.iload_n 1, 1) := by decide +kernel
theorem d_M_reach_32 : decode b_M_reach 32 = .ok (.if_icmp .eq 21, 3) := by decide +kernel
theorem d_M_reach_35 : decode b_M_reach 35 = .ok (.iload 4, 2) := by decide +kernel
theorem d_M_reach_37 : decode b_M_reach 37 = .ok (.bipush 9, 2) := by decide +kernel
theorem d_M_reach_39 : decode b_M_reach 39 = .ok (.if_icmp .ne 13, 3) := by decide +kernel
theorem d_M_reach_42 : decode b_M_reach 42 = .ok (.aload_n 0, 1) := by decide +kernel
theorem d_M_reach_43 : decode b_M_reach 43 = .ok (.getfield 13, 3) := by decide +kernel
theorem d_M_reach_46 : decode b_M_reach 46 = .ok (.iload_n 1, 1) := by decide +kernel
theorem d_M_reach_47 : decode b_M_reach 47 = .ok (.iaload, 1) := by decide +kernel
theorem d_M_reach_48 : decode b_M_reach 48 = .ok (.iconst 2, 1) := by decide +kernel
theorem d_M_reach_49 : decode b_M_reach 49 = .ok (.if_icmp .eq 4, 3) := by decide +kernel
theorem d_M_reach_52 : decode b_M_reach 52 = .ok (.return_, 1) := by decide +kernel
theorem d_M_reach_53 : decode b_M_reach 53 = .ok (.iload_n 2, 1) := by decide +kernel
theorem d_M_reach_54 : decode b_M_reach 54 = .ok (.iconst 1, 1) := by decide +kernel
theorem d_M_reach_55 : decode b_M_reach 55 = .ok (.if_icmp .ne 18, 3) := by decide +kernel
theorem d_M_reach_58 : decode b_M_reach 58 = .ok (.aload_n 0, 1) := by decide +kernel
theorem d_M_reach_59 : decode b_M_reach 59 = .ok (.iload_n 1, 1) := by decide +kernel
theorem d_M_reach_60 : decode b_M_reach 60 = .ok (.sipush 255, 3) := by decide +kernel
theorem d_M_reach_63 : decode b_M_reach 63 = .ok (.iload 5, 2) := by decide +kernel
theorem d_M_reach_65 : decode b_M_reach 65 = .ok (.invokevirtual 236, 3) := by decide +kernel
theorem d_M_reach_68 : decode b_M_reach 68 = .ok (.istore 6, 2) := by decide +kernel
theorem d_M_reach_70 : decode b_M_reach 70 = .ok (.goto 73, 3) := by decide +kernel
theorem d_M_reach_73 : decode b_M_reach 73 = .ok (.iload_n 2, 1) := by decide +kernel
theorem d_M_reach_74 : decode b_M_reach 74 = .ok (.iconst 2, 1) := by decide +kernel
theorem d_M_reach_75 : decode b_M_reach 75 = .ok (.if_icmp .ne 17, 3) := by decide +kernel
theorem d_M_reach_78 : decode b_M_reach 78 = .ok (.aload_n 0, 1) := by decide +kernel
theorem d_M_reach_79 : decode b_M_reach 79 = .ok (.iload_n 1, 1) := by decide +kernel
theorem d_M_reach_80 : decode b_M_reach 80 = .ok (.sipush 255, 3) := by decide +kernel
theorem d_M_reach_83 : decode b_M_reach 83 = .ok (.iload_n 3, 1) := by decide +kernel
theorem d_M_reach_84 : decode b_M_reach 84 = .ok (.invokevirtual 240, 3) := by decide +kernel
theorem d_M_reach_87 : decode b_M_reach 87 = .ok (.istore 6, 2) := by decide +kernel
theorem d_M_reach_89 : decode b_M_reach 89 = .ok (.goto 54, 3) := by decide +kernel
theorem d_M_reach_92 : decode b_M_reach 92 = .ok (.iload_n 2, 1) := by decide +kernel
theorem d_M_reach_93 : decode b_M_reach 93 = .ok (.iconst 3, 1) := by decide +kernel
theorem d_M_reach_94 : decode b_M_reach 94 = .ok (.if_icmp .ne 36, 3) := by decide +kernel
theorem d_M_reach_97 : decode b_M_reach 97 = .ok (.iload_n 3, 1) := by decide +kernel
theorem d_M_reach_98 : decode b_M_reach 98 = .ok (.bipush 9, 2) := by decide +kernel
theorem d_M_reach_100 : decode b_M_reach 100 = .ok (.if_icmp .eq 30, 3) := by decide +kernel
theorem d_M_reach_103 : decode b_M_reach 103 = .ok (.aload_n 0, 1) := by decide +kernel
theorem d_M_reach_104 : decode b_M_reach 104 = .ok (.getfield 13, 3) := by decide +kernel
theorem d_M_reach_107 : decode b_M_reach 107 = .ok (.iload_n 1, 1) := by decide +kernel
theorem d_M_reach_108 : decode b_M_reach 108 = .ok (.iaload, 1) := by decide +kernel
theorem d_M_reach_109 : decode b_M_reach 109 = .ok (.iconst 2, 1) := by decide +kernel
theorem d_M_reach_110 : decode b_M_reach 110 = .ok (.if_icmp .ne 20, 3) := by decide +kernel
theorem d_M_reach_113 : decode b_M_reach 113 = .ok (.aload_n 0, 1) := by decide +kernel
theorem d_M_reach_114 : decode b_M_reach 114 = .ok (.iconst 0, 1) := by decide +kernel
theorem d_M_reach_115 : decode b_M_reach 115 = .ok (.putfield 136, 3) := by decide +kernel
theorem d_M_reach_118 : decode b_M_reach 118 = .ok (.aload_n 0, 1) := by decide +kernel
theorem d_M_reach_119 : decode b_M_reach 119 = .ok (.iload_n 1, 1) := by decide +kernel
theorem d_M_reach_120 : decode b_M_reach 120 = .ok (.iconst 4, 1) := by decide +kernel
theorem d_M_reach_121 : decode b_M_reach 121 = .ok (.bipush 9, 2) := by decide +kernel
theorem d_M_reach_123 : decode b_M_reach 123 = .ok (.iload_n 3, 1) := by decide +kernel
theorem d_M_reach_124 : decode b_M_reach 124 = .ok (.invokevirtual 173, 3) := by decide +kernel
theorem d_M_reach_127 : decode b_M_reach 127 = .ok (.goto 16, 3) := by decide +kernel
theorem d_M_reach_130 : decode b_M_reach 130 = .ok (.iload_n 2, 1) := by decide +kernel
theorem d_M_reach_131 : decode b_M_reach 131 = .ok (.iconst 4, 1) := by decide +kernel
theorem d_M_reach_132 : decode b_M_reach 132 = .ok (.if_icmp .ne 11, 3) := by decide +kernel
theorem d_M_reach_135 : decode b_M_reach 135 = .ok (.aload_n 0, 1) := by decide +kernel
theorem d_M_reach_136 : decode b_M_reach 136 = .ok (.getfield 31, 3) := by decide +kernel
theorem d_M_reach_139 : decode b_M_reach 139 = .ok (.iload_n 1, 1) := by decide +kernel
theorem d_M_reach_140 : decode b_M_reach 140 = .ok (.iload 5, 2) := by decide +kernel
theorem d_M_reach_142 : decode b_M_reach 142 = .ok (.iastore, 1) := by decide +kernel
theorem d_M_reach_143 : decode b_M_reach 143 = .ok (.return_, 1) := by decide +kernel
theorem d_M_arriveAll_0 : decode b_M_arriveAll 0 = .ok (.iconst 0, 1) := by decide +kernel
theorem d_M_arriveAll_1 : decode b_M_arriveAll 1 = .ok (.istore_n 1, 1) := by decide +kernel
theorem d_M_arriveAll_2 : decode b_M_arriveAll 2 = .ok (.iload_n 1, 1) := by decide +kernel
theorem d_M_arriveAll_3 : decode b_M_arriveAll 3 = .ok (.aload_n 0, 1) := by decide +kernel
theorem d_M_arriveAll_4 : decode b_M_arriveAll 4 = .ok (.getfield 147, 3) := by decide +kernel
theorem d_M_arriveAll_7 : decode b_M_arriveAll 7 = .ok (.if_icmp .ge 153, 3) := by decide +kernel
theorem d_M_arriveAll_10 : decode b_M_arriveAll 10 = .ok (.aload_n 0, 1) := by decide +kernel
theorem d_M_arriveAll_11 : decode b_M_arriveAll 11 = .ok (.getfield 89, 3) := by decide +kernel
theorem d_M_arriveAll_14 : decode b_M_arriveAll 14 = .ok (.iload_n 1, 1) := by decide +kernel
theorem d_M_arriveAll_15 : decode b_M_arriveAll 15 = .ok (.iaload, 1) := by decide +kernel
theorem d_M_arriveAll_16 : decode b_M_arriveAll 16 = .ok (.aload_n 0, 1) := by decide +kernel
theorem d_M_arriveAll_17 : decode b_M_arriveAll 17 = .ok (.getfield 150, 3) := by decide +kernel
theorem d_M_arriveAll_20 : decode b_M_arriveAll 20 = .ok (.if_icmp .eq 9, 3) := by decide +kernel
theorem d_M_arriveAll_23 : decode b_M_arriveAll 23 = .ok (.iinc 1 1, 3) := by decide +kernel
theorem d_M_arriveAll_26 : decode b_M_arriveAll 26 = .ok (.goto (-24), 3) := by decide +kernel
theorem d_M_arriveAll_29 : decode b_M_arriveAll 29 = .ok (.aload_n 0, 1) := by decide +kernel
theorem d_M_arriveAll_30 : decode b_M_arriveAll 30 = .ok (.getfield 92, 3) := by decide +kernel
theorem d_M_arriveAll_33 : decode b_M_arriveAll 33 = .ok (.iload_n 1, 1) := by decide +kernel
theorem d_M_arriveAll_34 : decode b_M_arriveAll 34 = .ok (.iaload, 1) := by decide +kernel
theorem d_M_arriveAll_35 : decode b_M_arriveAll 35 = .ok (.istore_n 2, 1) := by decide +kernel
theorem d_M_arriveAll_36 : decode b_M_arriveAll 36 = .ok (.aload_n 0, 1) := by decide +kernel
theorem d_M_arriveAll_37 : decode b_M_arriveAll 37 = .ok (.getfield 95, 3) := by decide +kernel
theorem d_M_arriveAll_40 : decode b_M_arriveAll 40 = .ok (.iload_n 1, 1) := by decide +kernel
theorem d_M_arriveAll_41 : decode b_M_arriveAll 41 = .ok (.iaload, 1) := by decide +kernel
theorem d_M_arriveAll_42 : decode b_M_arriveAll 42 = .ok (.istore_n 3, 1) := by decide +kernel
theorem d_M_arriveAll_43 : decode b_M_arriveAll 43 = .ok (.aload_n 0, 1) := by decide +kernel
theorem d_M_arriveAll_44 : decode b_M_arriveAll 44 = .ok (.getfield 98, 3) := by decide +kernel
theorem d_M_arriveAll_47 : decode b_M_arriveAll 47 = .ok (.iload_n 1, 1) := by decide +kernel
theorem d_M_arriveAll_48 : decode b_M_arriveAll 48 = .ok (.iaload, 1) := by decide +kernel
theorem d_M_arriveAll_49 : decode b_M_arriveAll 49 = .ok (.istore 4, 2) := by decide +kernel
theorem d_M_arriveAll_51 : decode b_M_arriveAll 51 = .ok (.aload_n 0, 1) := by decide +kernel
theorem d_M_arriveAll_52 : decode b_M_arriveAll 52 = .ok (.getfield 101, 3) := by decide +kernel
theorem d_M_arriveAll_55 : decode b_M_arriveAll 55 = .ok (.iload_n 1, 1) := by decide +kernel
theorem d_M_arriveAll_56 : decode b_M_arriveAll 56 = .ok (.iaload, 1) := by decide +kernel
theorem d_M_arriveAll_57 : decode b_M_arriveAll 57 = .ok (.istore 5, 2) := by decide +kernel
theorem d_M_arriveAll_59 : decode b_M_arriveAll 59 = .ok (.aload_n 0, 1) := by decide +kernel
theorem d_M_arriveAll_60 : decode b_M_arriveAll 60 = .ok (.getfield 104, 3) := by decide +kernel
theorem d_M_arriveAll_63 : decode b_M_arriveAll 63 = .ok (.iload_n 1, 1) := by decide +kernel
theorem d_M_arriveAll_64 : decode b_M_arriveAll 64 = .ok (.iaload, 1) := by decide +kernel
theorem d_M_arriveAll_65 : decode b_M_arriveAll 65 = .ok (.istore 6, 2) := by decide +kernel
theorem d_M_arriveAll_67 : decode b_M_arriveAll 67 = .ok (.aload_n 0, 1) := by decide +kernel
theorem d_M_arriveAll_68 : decode b_M_arriveAll 68 = .ok (.aload_n 0, 1) := by decide +kernel
theorem d_M_arriveAll_69 : decode b_M_arriveAll 69 = .ok (.getfield 107, 3) := by decide +kernel
theorem d_M_arriveAll_72 : decode b_M_arriveAll 72 = .ok (.iload_n 1, 1) := by decide +kernel
theorem d_M_arriveAll_73 : decode b_M_arriveAll 73 = .ok (.iaload, 1) := by decide +kernel
theorem d_M_arriveAll_74 : decode b_M_arriveAll 74 = .ok (.putfield 192, 3) := by decide +kernel
theorem d_M_arriveAll_77 : decode b_M_arriveAll 77 = .ok (.iconst 0, 1) := by decide +kernel
theorem d_M_arriveAll_78 : decode b_M_arriveAll 78 = .ok (.istore 7, 2) := by decide +kernel
theorem d_M_arriveAll_80 : decode b_M_arriveAll 80 = .ok (.iload 7, 2) := by decide +kernel
theorem d_M_arriveAll_82 : decode b_M_arriveAll 82 = .ok (.aload_n 0, 1) := by decide +kernel
theorem d_M_arriveAll_83 : decode b_M_arriveAll 83 = .ok (.getfield 192, 3) := by decide +kernel
theorem d_M_arriveAll_86 : decode b_M_arriveAll 86 = .ok (.if_icmp .ge 28, 3) := by decide +kernel
theorem d_M_arriveAll_89 : decode b_M_arriveAll 89 = .ok (.aload_n 0, 1) := by decide +kernel
theorem d_M_arriveAll_90 : decode b_M_arriveAll 90 = .ok (.getfield 116, 3) := by decide +kernel
theorem d_M_arriveAll_93 : decode b_M_arriveAll 93 = .ok (.iload 7, 2) := by decide +kernel
theorem d_M_arriveAll_95 : decode b_M_arriveAll 95 = .ok (.aload_n 0, 1) := by decide +kernel
theorem d_M_arriveAll_96 : decode b_M_arriveAll 96 = .ok (.getfield 110, 3) := by decide +kernel
theorem d_M_arriveAll_99 : decode b_M_arriveAll 99 = .ok (.bipush 40, 2) := by decide +kernel
theorem d_M_arriveAll_101 : decode b_M_arriveAll 101 = .ok (.iload_n 1, 1) := by decide +kernel
theorem d_M_arriveAll_102 : decode b_M_arriveAll 102 = .ok (.imul, 1) := by decide +kernel
theorem d_M_arriveAll_103 : decode b_M_arriveAll 103 = .ok (.iload 7, 2) := by decide +kernel
theorem d_M_arriveAll_105 : decode b_M_arriveAll 105 = .ok (.iadd, 1) := by decide +kernel
theorem d_M_arriveAll_106 : decode b_M_arriveAll 106 = .ok (.iaload, 1) := by decide +kernel
theorem d_M_arriveAll_107 : decode b_M_arriveAll 107 = .ok (.iastore, 1) := by decide +kernel
theorem d_M_arriveAll_108 : decode b_M_arriveAll 108 = .ok (.iinc 7 1, 3) := by decide +kernel
theorem d_M_arriveAll_111 : decode b_M_arriveAll 111 = .ok (.goto (-31), 3) := by decide +kernel
theorem d_M_arriveAll_114 : decode b_M_arriveAll 114 = .ok (.aload_n 0, 1) := by decide +kernel
theorem d_M_arriveAll_115 : decode b_M_arriveAll 115 = .ok (.iload_n 1, 1) := by decide +kernel
theorem d_M_arriveAll_116 : decode b_M_arriveAll 116 = .ok (.invokevirtual 243, 3) := by decide +kernel
theorem d_M_arriveAll_119 : decode b_M_arriveAll 119 = .ok (.iconst 0, 1) := by decide +kernel
theorem d_M_arriveAll_120 : decode b_M_arriveAll 120 = .ok (.istore 7, 2) := by decide +kernel
theorem d_M_arriveAll_122 : decode b_M_arriveAll 122 = .ok (.iload 7, 2) := by decide +kernel
theorem d_M_arriveAll_124 : decode b_M_arriveAll 124 = .ok (.iconst 5, 1) := by decide +kernel
theorem d_M_arriveAll_125 : decode b_M_arriveAll 125 = .ok (.if_icmp .ge 32, 3) := by decide +kernel
theorem d_M_arriveAll_128 : decode b_M_arriveAll 128 = .ok (.iload 6, 2) := by decide +kernel
theorem d_M_arriveAll_130 : decode b_M_arriveAll 130 = .ok (.iload 7, 2) := by decide +kernel
theorem d_M_arriveAll_132 : decode b_M_arriveAll 132 = .ok (.ishr, 1) := by decide +kernel
theorem d_M_arriveAll_133 : decode b_M_arriveAll 133 = .ok (.iconst 1, 1) := by decide +kernel
theorem d_M_arriveAll_134 : decode b_M_arriveAll 134 = .ok (.iand, 1) := by decide +kernel
theorem d_M_arriveAll_135 : decode b_M_arriveAll 135 = .ok (.iconst 1, 1) := by decide +kernel
theorem d_M_arriveAll_136 : decode b_M_arriveAll 136 = .ok (.if_icmp .ne 15, 3) := by decide +kernel
theorem d_M_arriveAll_139 : decode b_M_arriveAll 139 = .ok (.aload_n 0, 1) := by decide +kernel
theorem d_M_arriveAll_140 : decode b_M_arriveAll 140 = .ok (.iload 7, 2) := by decide +kernel
theorem d_M_arriveAll_142 : decode b_M_arriveAll 142 = .ok (.iload_n 2, 1) := by decide +kernel
theorem d_M_arriveAll_143 : decode b_M_arriveAll 143 = .ok (.iload_n 3, 1) := by decide +kernel
theorem d_M_arriveAll_144 : decode b_M_arriveAll 144 = .ok (.iload 4, 2) := by decide +kernel
theorem d_M_arriveAll_146 : decode b_M_arriveAll 146 = .ok (.iload 5, 2) := by decide +kernel
theorem d_M_arriveAll_148 : decode b_M_arriveAll 148 = .ok (.invokevirtual 246, 3) := by decide +kernel
theorem d_M_arriveAll_151 : decode b_M_arriveAll 151 = .ok (.iinc 7 1, 3) := by decide +kernel
theorem d_M_arriveAll_154 : decode b_M_arriveAll 154 = .ok (.goto (-32), 3) := by decide +kernel
theorem d_M_arriveAll_157 : decode b_M_arriveAll 157 = .ok (.goto (-155), 3) := by decide +kernel
theorem d_M_arriveAll_160 : decode b_M_arriveAll 160 = .ok (.return_, 1) := by decide +kernel
theorem d_M_work_0 : decode b_M_work 0 = .ok (.aload_n 0, 1) := by decide +kernel
theorem d_M_work_1 : decode b_M_work 1 = .ok (.getfield 13, 3) := by decide +kernel
theorem d_M_work_4 : decode b_M_work 4 = .ok (.iload_n 1, 1) := by decide +kernel
theorem d_M_work_5 : decode b_M_work 5 = .ok (.iaload, 1) := by decide +kernel
theorem d_M_work_6 : decode b_M_work 6 = .ok (.ifCond .ne 4, 3) := by decide +kernel
theorem d_M_work_9 : decode b_M_work 9 = .ok (.return_, 1) := by decide +kernel
theorem d_M_work_10 : decode b_M_work 10 = .ok (.aload_n 0, 1) := by decide +kernel
theorem d_M_work_11 : decode b_M_work 11 = .ok (.getfield 16, 3) := by decide +kernel
theorem d_M_work_14 : decode b_M_work 14 = .ok (.iload_n 1, 1) := by decide +kernel
theorem d_M_work_15 : decode b_M_work 15 = .ok (.iaload, 1) := by decide +kernel
theorem d_M_work_16 : decode b_M_work 16 = .ok (.ifCond .le 27, 3) := by decide +kernel
theorem d_M_work_19 : decode b_M_work 19 = .ok (.aload_n 0, 1) := by decide +kernel
theorem d_M_work_20 : decode b_M_work 20 = .ok (.getfield 16, 3) := by decide +kernel
theorem d_M_work_23 : decode b_M_work 23 = .ok (.iload_n 1, 1) := by decide +kernel
theorem d_M_work_24 : decode b_M_work 24 = .ok (.dup2, 1) := by decide +kernel
theorem d_M_work_25 : decode b_M_work 25 = .ok (.iaload, 1) := by decide +kernel
theorem d_M_work_26 : decode b_M_work 26 = .ok (.iconst 1, 1) := by decide +kernel
theorem d_M_work_27 : decode b_M_work 27 = .ok (.isub, 1) := by decide +kernel
theorem d_M_work_28 : decode b_M_work 28 = .ok (.iastore, 1) := by decide +kernel
theorem d_M_work_29 : decode b_M_work 29 = .ok (.aload_n 0, 1) := by decide +kernel
theorem d_M_work_30 : decode b_M_work 30 = .ok (.getfield 16, 3) := by decide +kernel
theorem d_M_work_33 : decode b_M_work 33 = .ok (.iload_n 1, 1) := by decide +kernel
theorem d_M_work_34 : decode b_M_work 34 = .ok (.iaload, 1) := by decide +kernel
theorem d_M_work_35 : decode b_M_work 35 = .ok (.ifCond .ne 8, 3) := by decide +kernel
theorem d_M_work_38 : decode b_M_work 38 = .ok (.aload_n 0, 1) := by decide +kernel
theorem d_M_work_39 : decode b_M_work 39 = .ok (.iload_n 1, 1) := by decide +kernel
theorem d_M_work_40 : decode b_M_work 40 = .ok (.invokevirtual 250, 3) := by decide +kernel
theorem d_M_work_43 : decode b_M_work 43 = .ok (.iconst 0, 1) := by decide +kernel
theorem d_M_work_44 : decode b_M_work 44 = .ok (.istore_n 2, 1) := by decide +kernel
theorem d_M_work_45 : decode b_M_work 45 = .ok (.iload_n 2, 1) := by decide +kernel
theorem d_M_work_46 : decode b_M_work 46 = .ok (.iconst 5, 1) := by decide +kernel
theorem d_M_work_47 : decode b_M_work 47 = .ok (.if_icmp .ge 114, 3) := by decide +kernel
theorem d_M_work_50 : decode b_M_work 50 = .ok (.iconst 5, 1) := by decide +kernel
theorem d_M_work_51 : decode b_M_work 51 = .ok (.iload_n 1, 1) := by decide +kernel
theorem d_M_work_52 : decode b_M_work 52 = .ok (.imul, 1) := by decide +kernel
theorem d_M_work_53 : decode b_M_work 53 = .ok (.iload_n 2, 1) := by decide +kernel
theorem d_M_work_54 : decode b_M_work 54 = .ok (.iadd, 1) := by decide +kernel
theorem d_M_work_55 : decode b_M_work 55 = .ok (.istore_n 3, 1) := by decide +kernel
theorem d_M_work_56 : decode b_M_work 56 = .ok (.aload_n 0, 1) := by decide +kernel
theorem d_M_work_57 : decode b_M_work 57 = .ok (.getfield 37, 3) := by decide +kernel
theorem d_M_work_60 : decode b_M_work 60 = .ok (.iload_n 3, 1) := by decide +kernel
theorem d_M_work_61 : decode b_M_work 61 = .ok (.baload, 1) := by decide +kernel
theorem d_M_work_62 : decode b_M_work 62 = .ok (.ifCond .ne 6, 3) := by decide +kernel
theorem d_M_work_65 : decode b_M_work 65 = .ok (.goto 90, 3) := by decide +kernel
theorem d_M_work_68 : decode b_M_work 68 = .ok (.aload_n 0, 1) := by decide +kernel
theorem d_M_work_69 : decode b_M_work 69 = .ok (.getfield 83, 3) := by decide +kernel
theorem d_M_work_72 : decode b_M_work 72 = .ok (.iload_n 3, 1) := by decide +kernel
theorem d_M_work_73 : decode b_M_work 73 = .ok (.iaload, 1) := by decide +kernel
theorem d_M_work_74 : decode b_M_work 74 = .ok (.ifCond .le 27, 3) := by decide +kernel
theorem d_M_work_77 : decode b_M_work 77 = .ok (.aload_n 0, 1) := by decide +kernel
theorem d_M_work_78 : decode b_M_work 78 = .ok (.getfield 83, 3) := by decide +kernel
theorem d_M_work_81 : decode b_M_work 81 = .ok (.iload_n 3, 1) := by decide +kernel
theorem d_M_work_82 : decode b_M_work 82 = .ok (.dup2, 1) := by decide +kernel
theorem d_M_work_83 : decode b_M_work 83 = .ok (.iaload, 1) := by decide +kernel
theorem d_M_work_84 : decode b_M_work 84 = .ok (.iconst 1, 1) := by decide +kernel
theorem d_M_work_85 : decode b_M_work 85 = .ok (.isub, 1) := by decide +kernel
theorem d_M_work_86 : decode b_M_work 86 = .ok (.iastore, 1) := by decide +kernel
theorem d_M_work_87 : decode b_M_work 87 = .ok (.aload_n 0, 1) := by decide +kernel
theorem d_M_work_88 : decode b_M_work 88 = .ok (.getfield 83, 3) := by decide +kernel
theorem d_M_work_91 : decode b_M_work 91 = .ok (.iload_n 3, 1) := by decide +kernel
theorem d_M_work_92 : decode b_M_work 92 = .ok (.iaload, 1) := by decide +kernel
theorem d_M_work_93 : decode b_M_work 93 = .ok (.ifCond .ne 8, 3) := by decide +kernel
theorem d_M_work_96 : decode b_M_work 96 = .ok (.aload_n 0, 1) := by decide +kernel
theorem d_M_work_97 : decode b_M_work 97 = .ok (.iload_n 3, 1) := by decide +kernel
theorem d_M_work_98 : decode b_M_work 98 = .ok (.invokevirtual 253, 3) := by decide +kernel
theorem d_M_work_101 : decode b_M_work 101 = .ok (.aload_n 0, 1) := by decide +kernel
theorem d_M_work_102 : decode b_M_work 102 = .ok (.getfield 80, 3) := by decide +kernel
theorem d_M_work_105 : decode b_M_work 105 = .ok (.iload_n 3, 1) := by decide +kernel
theorem d_M_work_106 : decode b_M_work 106 = .ok (.iaload, 1) := by decide +kernel
theorem d_M_work_107 : decode b_M_work 107 = .ok (.ifCond .le 48, 3) := by decide +kernel
theorem d_M_work_110 : decode b_M_work 110 = .ok (.aload_n 0, 1) := by decide +kernel
theorem d_M_work_111 : decode b_M_work 111 = .ok (.getfield 80, 3) := by decide +kernel
theorem d_M_work_114 : decode b_M_work 114 = .ok (.iload_n 3, 1) := by decide +kernel
theorem d_M_work_115 : decode b_M_work 115 = .ok (.dup2, 1) := by decide +kernel
theorem d_M_work_116 : decode b_M_work 116 = .ok (.iaload, 1) := by decide +kernel
theorem d_M_work_117 : decode b_M_work 117 = .ok (.iconst 1, 1) := by decide +kernel
theorem d_M_work_118 : decode b_M_work 118 = .ok (.isub, 1) := by decide +kernel
theorem d_M_work_119 : decode b_M_work 119 = .ok (.iastore, 1) := by decide +kernel
theorem d_M_work_120 : decode b_M_work 120 = .ok (.aload_n 0, 1) := by decide +kernel
theorem d_M_work_121 : decode b_M_work 121 = .ok (.getfield 80, 3) := by decide +kernel
theorem d_M_work_124 : decode b_M_work 124 = .ok (.iload_n 3, 1) := by decide +kernel
theorem d_M_work_125 : decode b_M_work 125 = .ok (.iaload, 1) := by decide +kernel
theorem d_M_work_126 : decode b_M_work 126 = .ok (.ifCond .ne 29, 3) := by decide +kernel
theorem d_M_work_129 : decode b_M_work 129 = .ok (.aload_n 0, 1) := by decide +kernel
theorem d_M_work_130 : decode b_M_work 130 = .ok (.iload_n 1, 1) := by decide +kernel
theorem d_M_work_131 : decode b_M_work 131 = .ok (.iload_n 2, 1) := by decide +kernel
theorem d_M_work_132 : decode b_M_work 132 = .ok (.aload_n 0, 1) := by decide +kernel
theorem d_M_work_133 : decode b_M_work 133 = .ok (.getfield 77, 3) := by decide +kernel
theorem d_M_work_136 : decode b_M_work 136 = .ok (.iload_n 3, 1) := by decide +kernel
theorem d_M_work_137 : decode b_M_work 137 = .ok (.baload, 1) := by decide +kernel
theorem d_M_work_138 : decode b_M_work 138 = .ok (.ifCond .eq 8, 3) := by decide +kernel
theorem d_M_work_141 : decode b_M_work 141 = .ok (.bipush 32, 2) := by decide +kernel
theorem d_M_work_143 : decode b_M_work 143 = .ok (.goto 4, 3) := by decide +kernel
theorem d_M_work_146 : decode b_M_work 146 = .ok (.iconst 0, 1) := by decide +kernel
theorem d_M_work_147 : decode b_M_work 147 = .ok (.invokevirtual 232, 3) := by decide +kernel
theorem d_M_work_150 : decode b_M_work 150 = .ok (.aload_n 0, 1) := by decide +kernel
theorem d_M_work_151 : decode b_M_work 151 = .ok (.iload_n 3, 1) := by decide +kernel
theorem d_M_work_152 : decode b_M_work 152 = .ok (.invokevirtual 204, 3) := by decide +kernel
theorem d_M_work_155 : decode b_M_work 155 = .ok (.iinc 2 1, 3) := by decide +kernel
theorem d_M_work_158 : decode b_M_work 158 = .ok (.goto (-113), 3) := by decide +kernel
theorem d_M_work_161 : decode b_M_work 161 = .ok (.return_, 1) := by decide +kernel
theorem d_M_tick_0 : decode b_M_tick 0 = .ok (.aload_n 0, 1) := by decide +kernel
theorem d_M_tick_1 : decode b_M_tick 1 = .ok (.iload_n 1, 1) := by decide +kernel
theorem d_M_tick_2 : decode b_M_tick 2 = .ok (.iconst 1, 1) := by decide +kernel
theorem d_M_tick_3 : decode b_M_tick 3 = .ok (.if_icmp .lt 10, 3) := by decide +kernel
theorem d_M_tick_6 : decode b_M_tick 6 = .ok (.iload_n 1, 1) := by decide +kernel
theorem d_M_tick_7 : decode b_M_tick 7 = .ok (.sipush 400, 3) := by decide +kernel
theorem d_M_tick_10 : decode b_M_tick 10 = .ok (.if_icmp .le 7, 3) := by decide +kernel
theorem d_M_tick_13 : decode b_M_tick 13 = .ok (.iconst 1, 1) := by decide +kernel
theorem d_M_tick_14 : decode b_M_tick 14 = .ok (.goto 4, 3) := by decide +kernel
theorem d_M_tick_17 : decode b_M_tick 17 = .ok (.iconst 0, 1) := by decide +kernel
theorem d_M_tick_18 : decode b_M_tick 18 = .ok (.putfield 124, 3) := by decide +kernel
theorem d_M_tick_21 : decode b_M_tick 21 = .ok (.aload_n 0, 1) := by decide +kernel
theorem d_M_tick_22 : decode b_M_tick 22 = .ok (.getfield 124, 3) := by decide +kernel
theorem d_M_tick_25 : decode b_M_tick 25 = .ok (.ifCond .eq 5, 3) := by decide +kernel
theorem d_M_tick_28 : decode b_M_tick 28 = .ok (.iconst 0, 1) := by decide +kernel
theorem d_M_tick_29 : decode b_M_tick 29 = .ok (.ireturn, 1) := by decide +kernel
theorem d_M_tick_30 : decode b_M_tick 30 = .ok (.iconst 0, 1) := by decide +kernel
theorem d_M_tick_31 : decode b_M_tick 31 = .ok (.istore_n 2, 1) := by decide +kernel
theorem d_M_tick_32 : decode b_M_tick 32 = .ok (.iload_n 2, 1) := by decide +kernel
theorem d_M_tick_33 : decode b_M_tick 33 = .ok (.iload_n 1, 1) := by decide +kernel
theorem d_M_tick_34 : decode b_M_tick 34 = .ok (.if_icmp .ge 41, 3) := by decide +kernel
theorem d_M_tick_37 : decode b_M_tick 37 = .ok (.aload_n 0, 1) := by decide +kernel
theorem d_M_tick_38 : decode b_M_tick 38 = .ok (.dup, 1) := by decide +kernel
theorem d_M_tick_39 : decode b_M_tick 39 = .ok (.getfield 150, 3) := by decide +kernel
theorem d_M_tick_42 : decode b_M_tick 42 = .ok (.iconst 1, 1) := by decide +kernel
theorem d_M_tick_43 : decode b_M_tick 43 = .ok (.iadd, 1) := by decide +kernel
theorem d_M_tick_44 : decode b_M_tick 44 = .ok (.putfield 150, 3) := by decide +kernel
theorem d_M_tick_47 : decode b_M_tick 47 = .ok (.aload_n 0, 1) := by decide +kernel
theorem d_M_tick_48 : decode b_M_tick 48 = .ok (.invokevirtual 256, 3) := by decide +kernel
theorem d_M_tick_51 : decode b_M_tick 51 = .ok (.iconst 0, 1) := by decide +kernel
theorem d_M_tick_52 : decode b_M_tick 52 = .ok (.istore_n 3, 1) := by decide +kernel
theorem d_M_tick_53 : decode b_M_tick 53 = .ok (.iload_n 3, 1) := by decide +kernel
theorem d_M_tick_54 : decode b_M_tick 54 = .ok (.iconst 5, 1) := by decide +kernel
theorem d_M_tick_55 : decode b_M_tick 55 = .ok (.if_icmp .ge 14, 3) := by decide +kernel
theorem d_M_tick_58 : decode b_M_tick 58 = .ok (.aload_n 0, 1) := by decide +kernel
theorem d_M_tick_59 : decode b_M_tick 59 = .ok (.iload_n 3, 1) := by decide +kernel
theorem d_M_tick_60 : decode b_M_tick 60 = .ok (.invokevirtual 259, 3) := by decide +kernel
theorem d_M_tick_63 : decode b_M_tick 63 = .ok (.iinc 3 1, 3) := by decide +kernel
theorem d_M_tick_66 : decode b_M_tick 66 = .ok (.goto (-13), 3) := by decide +kernel
theorem d_M_tick_69 : decode b_M_tick 69 = .ok (.iinc 2 1, 3) := by decide +kernel
theorem d_M_tick_72 : decode b_M_tick 72 = .ok (.goto (-40), 3) := by decide +kernel
theorem d_M_tick_75 : decode b_M_tick 75 = .ok (.aload_n 0, 1) := by decide +kernel
theorem d_M_tick_76 : decode b_M_tick 76 = .ok (.getfield 150, 3) := by decide +kernel
theorem d_M_tick_79 : decode b_M_tick 79 = .ok (.ireturn, 1) := by decide +kernel
theorem d_M_type_0 : decode b_M_type 0 = .ok (.aload_n 0, 1) := by decide +kernel
theorem d_M_type_1 : decode b_M_type 1 = .ok (.iconst 0, 1) := by decide +kernel
theorem d_M_type_2 : decode b_M_type 2 = .ok (.putfield 124, 3) := by decide +kernel
theorem d_M_type_5 : decode b_M_type 5 = .ok (.iload_n 3, 1) := by decide +kernel
theorem d_M_type_6 : decode b_M_type 6 = .ok (.iconst 1, 1) := by decide +kernel
theorem d_M_type_7 : decode b_M_type 7 = .ok (.if_icmp .lt 20, 3) := by decide +kernel
theorem d_M_type_10 : decode b_M_type 10 = .ok (.iload_n 3, 1) := by decide +kernel
theorem d_M_type_11 : decode b_M_type 11 = .ok (.bipush 8, 2) := by decide +kernel
theorem d_M_type_13 : decode b_M_type 13 = .ok (.if_icmp .gt 14, 3) := by decide +kernel
theorem d_M_type_16 : decode b_M_type 16 = .ok (.aload_n 0, 1) := by decide +kernel
theorem d_M_type_17 : decode b_M_type 17 = .ok (.getfield 262, 3) := by decide +kernel
theorem d_M_type_20 : decode b_M_type 20 = .ok (.iload_n 3, 1) := by decide +kernel
theorem d_M_type_21 : decode b_M_type 21 = .ok (.iadd, 1) := by decide +kernel
theorem d_M_type_22 : decode b_M_type 22 = .ok (.bipush 40, 2) := by decide +kernel
theorem d_M_type_24 : decode b_M_type 24 = .ok (.if_icmp .le 5, 3) := by decide +kernel
theorem d_M_type_27 : decode b_M_type 27 = .ok (.iconst 0, 1) := by decide +kernel
theorem d_M_type_28 : decode b_M_type 28 = .ok (.ireturn, 1) := by decide +kernel
theorem d_M_type_29 : decode b_M_type 29 = .ok (.iload_n 3, 1) := by decide +kernel
theorem d_M_type_30 : decode b_M_type 30 = .ok (.iconst 1, 1) := by decide +kernel
theorem d_M_type_31 : decode b_M_type 31 = .ok (.isub, 1) := by decide +kernel
theorem d_M_type_32 : decode b_M_type 32 = .ok (.istore 4, 2) := by decide +kernel
theorem d_M_type_34 : decode b_M_type 34 = .ok (.iload 4, 2) := by decide +kernel
theorem d_M_type_36 : decode b_M_type 36 = .ok (.ifCond .lt 40, 3) := by decide +kernel
theorem d_M_type_39 : decode b_M_type 39 = .ok (.aload_n 0, 1) := by decide +kernel
theorem d_M_type_40 : decode b_M_type 40 = .ok (.getfield 119, 3) := by decide +kernel
theorem d_M_type_43 : decode b_M_type 43 = .ok (.aload_n 0, 1) := by decide +kernel
theorem d_M_type_44 : decode b_M_type 44 = .ok (.getfield 262, 3) := by decide +kernel
theorem d_M_type_47 : decode b_M_type 47 = .ok (.lload_n 1, 1) := by decide +kernel
theorem d_M_type_48 : decode b_M_type 48 = .ok (.bipush 8, 2) := by decide +kernel
theorem d_M_type_50 : decode b_M_type 50 = .ok (.iload 4, 2) := by decide +kernel
theorem d_M_type_52 : decode b_M_type 52 = .ok (.imul, 1) := by decide +kernel
theorem d_M_type_53 : decode b_M_type 53 = .ok (.lshr, 1) := by decide +kernel
theorem d_M_type_54 : decode b_M_type 54 = .ok (.ldc2_w 265, 3) := by decide +kernel
theorem d_M_type_57 : decode b_M_type 57 = .ok (.land, 1) := by decide +kernel
theorem d_M_type_58 : decode b_M_type 58 = .ok (.l2i, 1) := by decide +kernel
theorem d_M_type_59 : decode b_M_type 59 = .ok (.iastore, 1) := by decide +kernel
theorem d_M_type_60 : decode b_M_type 60 = .ok (.aload_n 0, 1) := by decide +kernel
theorem d_M_type_61 : decode b_M_type 61 = .ok (.dup, 1) := by decide +kernel
theorem d_M_type_62 : decode b_M_type 62 = .ok (.getfield 262, 3) := by decide +kernel
theorem d_M_type_65 : decode b_M_type 65 = .ok (.iconst 1, 1) := by decide +kernel
theorem d_M_type_66 : decode b_M_type 66 = .ok (.iadd, 1) := by decide +kernel
theorem d_M_type_67 : decode b_M_type 67 = .ok (.putfield 262, 3) := by decide +kernel
theorem d_M_type_70 : decode b_M_type 70 = .ok (.iinc 4 (-1), 3) := by decide +kernel
theorem d_M_type_73 : decode b_M_type 73 = .ok (.goto (-39), 3) := by decide +kernel
theorem d_M_type_76 : decode b_M_type 76 = .ok (.iconst 1, 1) := by decide +kernel
theorem d_M_type_77 : decode b_M_type 77 = .ok (.ireturn, 1) := by decide +kernel
theorem d_M_arrive_0 : decode b_M_arrive 0 = .ok (.iload_n 2, 1) := by decide +kernel
theorem d_M_arrive_1 : decode b_M_arrive 1 = .ok (.iconst 1, 1) := by decide +kernel
theorem d_M_arrive_2 : decode b_M_arrive 2 = .ok (.if_icmp .eq 8, 3) := by decide +kernel
theorem d_M_arrive_5 : decode b_M_arrive 5 = .ok (.iload_n 2, 1) := by decide +kernel
theorem d_M_arrive_6 : decode b_M_arrive 6 = .ok (.iconst 2, 1) := by decide +kernel
theorem d_M_arrive_7 : decode b_M_arrive 7 = .ok (.if_icmp .ne 30, 3) := by decide +kernel
theorem d_M_arrive_10 : decode b_M_arrive 10 = .ok (.iload_n 3, 1) := by decide +kernel
theorem d_M_arrive_11 : decode b_M_arrive 11 = .ok (.ifCond .lt 26, 3) := by decide +kernel
theorem d_M_arrive_14 : decode b_M_arrive 14 = .ok (.iload_n 3, 1) := by decide +kernel
theorem d_M_arrive_15 : decode b_M_arrive 15 = .ok (.bipush 14, 2) := by decide +kernel
theorem d_M_arrive_17 : decode b_M_arrive 17 = .ok (.if_icmp .gt 20, 3) := by decide +kernel
theorem d_M_arrive_20 : decode b_M_arrive 20 = .ok (.iload 4, 2) := by decide +kernel
theorem d_M_arrive_22 : decode b_M_arrive 22 = .ok (.ifCond .lt 15, 3) := by decide +kernel
theorem d_M_arrive_25 : decode b_M_arrive 25 = .ok (.iload 4, 2) := by decide +kernel
theorem d_M_arrive_27 : decode b_M_arrive 27 = .ok (.sipush 255, 3) := by decide +kernel
theorem d_M_arrive_30 : decode b_M_arrive 30 = .ok (.if_icmp .gt 7, 3) := by decide +kernel
theorem d_M_arrive_33 : decode b_M_arrive 33 = .ok (.iconst 1, 1) := by decide +kernel
theorem d_M_arrive_34 : decode b_M_arrive 34 = .ok (.goto 4, 3) := by decide +kernel
theorem d_M_arrive_37 : decode b_M_arrive 37 = .ok (.iconst 0, 1) := by decide +kernel
theorem d_M_arrive_38 : decode b_M_arrive 38 = .ok (.istore 6, 2) := by decide +kernel
theorem d_M_arrive_40 : decode b_M_arrive 40 = .ok (.iload_n 1, 1) := by decide +kernel
theorem d_M_arrive_41 : decode b_M_arrive 41 = .ok (.invokestatic 128, 3) := by decide +kernel
theorem d_M_arrive_44 : decode b_M_arrive 44 = .ok (.ifCond .ne 7, 3) := by decide +kernel
theorem d_M_arrive_47 : decode b_M_arrive 47 = .ok (.iconst 1, 1) := by decide +kernel
theorem d_M_arrive_48 : decode b_M_arrive 48 = .ok (.goto 26, 3) := by decide +kernel
theorem d_M_arrive_51 : decode b_M_arrive 51 = .ok (.iload 6, 2) := by decide +kernel
theorem d_M_arrive_53 : decode b_M_arrive 53 = .ok (.ifCond .ne 7, 3) := by decide +kernel
theorem d_M_arrive_56 : decode b_M_arrive 56 = .ok (.iconst 2, 1) := by decide +kernel
theorem d_M_arrive_57 : decode b_M_arrive 57 = .ok (.goto 17, 3) := by decide +kernel
theorem d_M_arrive_60 : decode b_M_arrive 60 = .ok (.aload_n 0, 1) := by decide +kernel
theorem d_M_arrive_61 : decode b_M_arrive 61 = .ok (.getfield 13, 3) := by decide +kernel
theorem d_M_arrive_64 : decode b_M_arrive 64 = .ok (.iload_n 1, 1) := by decide +kernel
theorem d_M_arrive_65 : decode b_M_arrive 65 = .ok (.iaload, 1) := by decide +kernel
theorem d_M_arrive_66 : decode b_M_arrive 66 = .ok (.ifCond .ne 7, 3) := by decide +kernel
theorem d_M_arrive_69 : decode b_M_arrive 69 = .ok (.iconst 3, 1) := by decide +kernel
theorem d_M_arrive_70 : decode b_M_arrive 70 = .ok (.goto 4, 3) := by decide +kernel
theorem d_M_arrive_73 : decode b_M_arrive 73 = .ok (.iconst 0, 1) := by decide +kernel
theorem d_M_arrive_74 : decode b_M_arrive 74 = .ok (.istore 7, 2) := by decide +kernel
theorem d_M_arrive_76 : decode b_M_arrive 76 = .ok (.iload 7, 2) := by decide +kernel
theorem d_M_arrive_78 : decode b_M_arrive 78 = .ok (.ifCond .eq 10, 3) := by decide +kernel
theorem d_M_arrive_81 : decode b_M_arrive 81 = .ok (.aload_n 0, 1) := by decide +kernel
theorem d_M_arrive_82 : decode b_M_arrive 82 = .ok (.iload 7, 2) := by decide +kernel
theorem d_M_arrive_84 : decode b_M_arrive 84 = .ok (.invokevirtual 267, 3) := by decide +kernel
theorem d_M_arrive_87 : decode b_M_arrive 87 = .ok (.ireturn, 1) := by decide +kernel
theorem d_M_arrive_88 : decode b_M_arrive 88 = .ok (.aload_n 0, 1) := by decide +kernel
theorem d_M_arrive_89 : decode b_M_arrive 89 = .ok (.iconst 0, 1) := by decide +kernel
theorem d_M_arrive_90 : decode b_M_arrive 90 = .ok (.putfield 124, 3) := by decide +kernel
theorem d_M_arrive_93 : decode b_M_arrive 93 = .ok (.aload_n 0, 1) := by decide +kernel
theorem d_M_arrive_94 : decode b_M_arrive 94 = .ok (.aload_n 0, 1) := by decide +kernel
theorem d_M_arrive_95 : decode b_M_arrive 95 = .ok (.getfield 262, 3) := by decide +kernel
theorem d_M_arrive_98 : decode b_M_arrive 98 = .ok (.putfield 192, 3) := by decide +kernel
theorem d_M_arrive_101 : decode b_M_arrive 101 = .ok (.iconst 0, 1) := by decide +kernel
theorem d_M_arrive_102 : decode b_M_arrive 102 = .ok (.istore 8, 2) := by decide +kernel
theorem d_M_arrive_104 : decode b_M_arrive 104 = .ok (.iload 8, 2) := by decide +kernel
theorem d_M_arrive_106 : decode b_M_arrive 106 = .ok (.bipush 40, 2) := by decide +kernel
theorem d_M_arrive_108 : decode b_M_arrive 108 = .ok (.if_icmp .ge 36, 3) := by decide +kernel
theorem d_M_arrive_111 : decode b_M_arrive 111 = .ok (.aload_n 0, 1) := by decide +kernel
theorem d_M_arrive_112 : decode b_M_arrive 112 = .ok (.getfield 116, 3) := by decide +kernel
theorem d_M_arrive_115 : decode b_M_arrive 115 = .ok (.iload 8, 2) := by decide +kernel
theorem d_M_arrive_117 : decode b_M_arrive 117 = .ok (.iload 8, 2) := by decide +kernel
theorem d_M_arrive_119 : decode b_M_arrive 119 = .ok (.aload_n 0, 1) := by decide +kernel
theorem d_M_arrive_120 : decode b_M_arrive 120 = .ok (.getfield 262, 3) := by decide +kernel
theorem d_M_arrive_123 : decode b_M_arrive 123 = .ok (.if_icmp .ge 13, 3) := by decide +kernel
theorem d_M_arrive_126 : decode b_M_arrive 126 = .ok (.aload_n 0, 1) := by decide +kernel
theorem d_M_arrive_127 : decode b_M_arrive 127 = .ok (.getfield 119, 3) := by decide +kernel
theorem d_M_arrive_130 : decode b_M_arrive 130 = .ok (.iload 8, 2) := by decide +kernel
theorem d_M_arrive_132 : decode b_M_arrive 132 = .ok (.iaload, 1) := by decide +kernel
theorem d_M_arrive_133 : decode b_M_arrive 133 = .ok (.goto 4, 3) := by decide +kernel
theorem d_M_arrive_136 : decode b_M_arrive 136 = .ok (.iconst 0, 1) := by decide +kernel
theorem d_M_arrive_137 : decode b_M_arrive 137 = .ok (.iastore, 1) := by decide +kernel
theorem d_M_arrive_138 : decode b_M_arrive 138 = .ok (.iinc 8 1, 3) := by decide +kernel
theorem d_M_arrive_141 : decode b_M_arrive 141 = .ok (.goto (-37), 3) := by decide +kernel
theorem d_M_arrive_144 : decode b_M_arrive 144 = .ok (.aload_n 0, 1) := by decide +kernel
theorem d_M_arrive_145 : decode b_M_arrive 145 = .ok (.iconst 0, 1) := by decide +kernel
theorem d_M_arrive_146 : decode b_M_arrive 146 = .ok (.putfield 262, 3) := by decide +kernel
theorem d_M_arrive_149 : decode b_M_arrive 149 = .ok (.iload_n 2, 1) := by decide +kernel
theorem d_M_arrive_150 : decode b_M_arrive 150 = .ok (.iconst 1, 1) := by decide +kernel
theorem d_M_arrive_151 : decode b_M_arrive 151 = .ok (.if_icmp .ne 15, 3) := by decide +kernel
theorem d_M_arrive_154 : decode b_M_arrive 154 = .ok (.aload_n 0, 1) := by decide +kernel
theorem d_M_arrive_155 : decode b_M_arrive 155 = .ok (.iload_n 1, 1) := by decide +kernel
theorem d_M_arrive_156 : decode b_M_arrive 156 = .ok (.iload 4, 2) := by decide +kernel
theorem d_M_arrive_158 : decode b_M_arrive 158 = .ok (.iload 5, 2) := by decide +kernel
theorem d_M_arrive_160 : decode b_M_arrive 160 = .ok (.invokevirtual 236, 3) := by decide +kernel
theorem d_M_arrive_163 : decode b_M_arrive 163 = .ok (.goto 11, 3) := by decide +kernel
theorem d_M_arrive_166 : decode b_M_arrive 166 = .ok (.aload_n 0, 1) := by decide +kernel
theorem d_M_arrive_167 : decode b_M_arrive 167 = .ok (.iload_n 1, 1) := by decide +kernel
theorem d_M_arrive_168 : decode b_M_arrive 168 = .ok (.iload 4, 2) := by decide +kernel
theorem d_M_arrive_170 : decode b_M_arrive 170 = .ok (.iload_n 3, 1) := by decide +kernel
theorem d_M_arrive_171 : decode b_M_arrive 171 = .ok (.invokevirtual 240, 3) := by decide +kernel
theorem d_M_arrive_174 : decode b_M_arrive 174 = .ok (.ireturn, 1) := by decide +kernel
theorem d_M_router_0 : decode b_M_router 0 = .ok (.aload_n 0, 1) := by decide +kernel
theorem d_M_router_1 : decode b_M_router 1 = .ok (.iconst 0, 1) := by decide +kernel
theorem d_M_router_2 : decode b_M_router 2 = .ok (.putfield 124, 3) := by decide +kernel
theorem d_M_router_5 : decode b_M_router 5 = .ok (.iload_n 1, 1) := by decide +kernel
theorem d_M_router_6 : decode b_M_router 6 = .ok (.invokestatic 128, 3) := by decide +kernel
theorem d_M_router_9 : decode b_M_router 9 = .ok (.ifCond .eq 13, 3) := by decide +kernel
theorem d_M_router_12 : decode b_M_router 12 = .ok (.iload_n 2, 1) := by decide +kernel
theorem d_M_router_13 : decode b_M_router 13 = .ok (.ifCond .lt 9, 3) := by decide +kernel
theorem d_M_router_16 : decode b_M_router 16 = .ok (.iload_n 2, 1) := by decide +kernel
theorem d_M_router_17 : decode b_M_router 17 = .ok (.bipush 7, 2) := by decide +kernel
theorem d_M_router_19 : decode b_M_router 19 = .ok (.if_icmp .le 5, 3) := by decide +kernel
theorem d_M_router_22 : decode b_M_router 22 = .ok (.iconst (-1), 1) := by decide +kernel
theorem d_M_router_23 : decode b_M_router 23 = .ok (.ireturn, 1) := by decide +kernel
theorem d_M_router_24 : decode b_M_router 24 = .ok (.aload_n 0, 1) := by decide +kernel
theorem d_M_router_25 : decode b_M_router 25 = .ok (.getfield 13, 3) := by decide +kernel
theorem d_M_router_28 : decode b_M_router 28 = .ok (.iload_n 1, 1) := by decide +kernel
theorem d_M_router_29 : decode b_M_router 29 = .ok (.iaload, 1) := by decide +kernel
theorem d_M_router_30 : decode b_M_router 30 = .ok (.ifCond .eq 7, 3) := by decide +kernel
theorem d_M_router_33 : decode b_M_router 33 = .ok (.iconst 1, 1) := by decide +kernel
theorem d_M_router_34 : decode b_M_router 34 = .ok (.goto 4, 3) := by decide +kernel
theorem d_M_router_37 : decode b_M_router 37 = .ok (.iconst 0, 1) := by decide +kernel
theorem d_M_router_38 : decode b_M_router 38 = .ok (.istore_n 3, 1) := by decide +kernel
theorem d_M_router_39 : decode b_M_router 39 = .ok (.iload_n 2, 1) := by decide +kernel
theorem d_M_router_40 : decode b_M_router 40 = .ok (.tableswitch 116 0 6 #[44, 51, 66, 80, 95, 102, 109], 44) := by decide +kernel
theorem d_M_router_84 : decode b_M_router 84 = .ok (.aload_n 0, 1) := by decide +kernel
theorem d_M_router_85 : decode b_M_router 85 = .ok (.getfield 13, 3) := by decide +kernel
theorem d_M_router_88 : decode b_M_router 88 = .ok (.iload_n 1, 1) := by decide +kernel
theorem d_M_router_89 : decode b_M_router 89 = .ok (.iaload, 1) := by decide +kernel
theorem d_M_router_90 : decode b_M_router 90 = .ok (.ireturn, 1) := by decide +kernel
theorem d_M_router_91 : decode b_M_router 91 = .ok (.iload_n 3, 1) := by decide +kernel
theorem d_M_router_92 : decode b_M_router 92 = .ok (.ifCond .eq 12, 3) := by decide +kernel
theorem d_M_router_95 : decode b_M_router 95 = .ok (.aload_n 0, 1) := by decide +kernel
theorem d_M_router_96 : decode b_M_router 96 = .ok (.getfield 16, 3) := by decide +kernel
theorem d_M_router_99 : decode b_M_router 99 = .ok (.iload_n 1, 1) := by decide +kernel
theorem d_M_router_100 : decode b_M_router 100 = .ok (.iaload, 1) := by decide +kernel
theorem d_M_router_101 : decode b_M_router 101 = .ok (.goto 4, 3) := by decide +kernel
theorem d_M_router_104 : decode b_M_router 104 = .ok (.iconst 0, 1) := by decide +kernel
theorem d_M_router_105 : decode b_M_router 105 = .ok (.ireturn, 1) := by decide +kernel
theorem d_M_router_106 : decode b_M_router 106 = .ok (.iload_n 3, 1) := by decide +kernel
theorem d_M_router_107 : decode b_M_router 107 = .ok (.ifCond .eq 11, 3) := by decide +kernel
theorem d_M_router_110 : decode b_M_router 110 = .ok (.aload_n 0, 1) := by decide +kernel
theorem d_M_router_111 : decode b_M_router 111 = .ok (.iload_n 1, 1) := by decide +kernel
theorem d_M_router_112 : decode b_M_router 112 = .ok (.invokevirtual 156, 3) := by decide +kernel
theorem d_M_router_115 : decode b_M_router 115 = .ok (.goto 4, 3) := by decide +kernel
theorem d_M_router_118 : decode b_M_router 118 = .ok (.iconst 0, 1) := by decide +kernel
theorem d_M_router_119 : decode b_M_router 119 = .ok (.ireturn, 1) := by decide +kernel
theorem d_M_router_120 : decode b_M_router 120 = .ok (.iload_n 3, 1) := by decide +kernel
theorem d_M_router_121 : decode b_M_router 121 = .ok (.ifCond .eq 12, 3) := by decide +kernel
theorem d_M_router_124 : decode b_M_router 124 = .ok (.aload_n 0, 1) := by decide +kernel
theorem d_M_router_125 : decode b_M_router 125 = .ok (.getfield 19, 3) := by decide +kernel
theorem d_M_router_128 : decode b_M_router 128 = .ok (.iload_n 1, 1) := by decide +kernel
theorem d_M_router_129 : decode b_M_router 129 = .ok (.iaload, 1) := by decide +kernel
theorem d_M_router_130 : decode b_M_router 130 = .ok (.goto 4, 3) := by decide +kernel
theorem d_M_router_133 : decode b_M_router 133 = .ok (.iconst 0, 1) := by decide +kernel
theorem d_M_router_134 : decode b_M_router 134 = .ok (.ireturn, 1) := by decide +kernel
theorem d_M_router_135 : decode b_M_router 135 = .ok (.aload_n 0, 1) := by decide +kernel
theorem d_M_router_136 : decode b_M_router 136 = .ok (.getfield 22, 3) := by decide +kernel
theorem d_M_router_139 : decode b_M_router 139 = .ok (.iload_n 1, 1) := by decide +kernel
theorem d_M_router_140 : decode b_M_router 140 = .ok (.iaload, 1) := by decide +kernel
theorem d_M_router_141 : decode b_M_router 141 = .ok (.ireturn, 1) := by decide +kernel
theorem d_M_router_142 : decode b_M_router 142 = .ok (.aload_n 0, 1) := by decide +kernel
theorem d_M_router_143 : decode b_M_router 143 = .ok (.getfield 25, 3) := by decide +kernel
theorem d_M_router_146 : decode b_M_router 146 = .ok (.iload_n 1, 1) := by decide +kernel
theorem d_M_router_147 : decode b_M_router 147 = .ok (.iaload, 1) := by decide +kernel
theorem d_M_router_148 : decode b_M_router 148 = .ok (.ireturn, 1) := by decide +kernel
theorem d_M_router_149 : decode b_M_router 149 = .ok (.aload_n 0, 1) := by decide +kernel
theorem d_M_router_150 : decode b_M_router 150 = .ok (.getfield 28, 3) := by decide +kernel
theorem d_M_router_153 : decode b_M_router 153 = .ok (.iload_n 1, 1) := by decide +kernel
theorem d_M_router_154 : decode b_M_router 154 = .ok (.iaload, 1) := by decide +kernel
theorem d_M_router_155 : decode b_M_router 155 = .ok (.ireturn, 1) := by decide +kernel
theorem d_M_router_156 : decode b_M_router 156 = .ok (.aload_n 0, 1) := by decide +kernel
theorem d_M_router_157 : decode b_M_router 157 = .ok (.getfield 31, 3) := by decide +kernel
theorem d_M_router_160 : decode b_M_router 160 = .ok (.iload_n 1, 1) := by decide +kernel
theorem d_M_router_161 : decode b_M_router 161 = .ok (.iaload, 1) := by decide +kernel
theorem d_M_router_162 : decode b_M_router 162 = .ok (.ireturn, 1) := by decide +kernel
theorem d_M_session_0 : decode b_M_session 0 = .ok (.aload_n 0, 1) := by decide +kernel
theorem d_M_session_1 : decode b_M_session 1 = .ok (.iconst 0, 1) := by decide +kernel
theorem d_M_session_2 : decode b_M_session 2 = .ok (.putfield 124, 3) := by decide +kernel
theorem d_M_session_5 : decode b_M_session 5 = .ok (.iload_n 1, 1) := by decide +kernel
theorem d_M_session_6 : decode b_M_session 6 = .ok (.invokestatic 128, 3) := by decide +kernel
theorem d_M_session_9 : decode b_M_session 9 = .ok (.ifCond .eq 33, 3) := by decide +kernel
theorem d_M_session_12 : decode b_M_session 12 = .ok (.iload_n 2, 1) := by decide +kernel
theorem d_M_session_13 : decode b_M_session 13 = .ok (.invokestatic 128, 3) := by decide +kernel
theorem d_M_session_16 : decode b_M_session 16 = .ok (.ifCond .eq 26, 3) := by decide +kernel
theorem d_M_session_19 : decode b_M_session 19 = .ok (.aload_n 0, 1) := by decide +kernel
theorem d_M_session_20 : decode b_M_session 20 = .ok (.getfield 37, 3) := by decide +kernel
theorem d_M_session_23 : decode b_M_session 23 = .ok (.iconst 5, 1) := by decide +kernel
theorem d_M_session_24 : decode b_M_session 24 = .ok (.iload_n 1, 1) := by decide +kernel
theorem d_M_session_25 : decode b_M_session 25 = .ok (.imul, 1) := by decide +kernel
theorem d_M_session_26 : decode b_M_session 26 = .ok (.iload_n 2, 1) := by decide +kernel
theorem d_M_session_27 : decode b_M_session 27 = .ok (.iadd, 1) := by decide +kernel
theorem d_M_session_28 : decode b_M_session 28 = .ok (.baload, 1) := by decide +kernel
theorem d_M_session_29 : decode b_M_session 29 = .ok (.ifCond .eq 13, 3) := by decide +kernel
theorem d_M_session_32 : decode b_M_session 32 = .ok (.iload_n 3, 1) := by decide +kernel
theorem d_M_session_33 : decode b_M_session 33 = .ok (.ifCond .lt 9, 3) := by decide +kernel
theorem d_M_session_36 : decode b_M_session 36 = .ok (.iload_n 3, 1) := by decide +kernel
theorem d_M_session_37 : decode b_M_session 37 = .ok (.bipush 11, 2) := by decide +kernel
theorem d_M_session_39 : decode b_M_session 39 = .ok (.if_icmp .le 5, 3) := by decide +kernel
theorem d_M_session_42 : decode b_M_session 42 = .ok (.iconst (-1), 1) := by decide +kernel
theorem d_M_session_43 : decode b_M_session 43 = .ok (.ireturn, 1) := by decide +kernel
theorem d_M_session_44 : decode b_M_session 44 = .ok (.iconst 5, 1) := by decide +kernel
theorem d_M_session_45 : decode b_M_session 45 = .ok (.iload_n 1, 1) := by decide +kernel
theorem d_M_session_46 : decode b_M_session 46 = .ok (.imul, 1) := by decide +kernel
theorem d_M_session_47 : decode b_M_session 47 = .ok (.iload_n 2, 1) := by decide +kernel
theorem d_M_session_48 : decode b_M_session 48 = .ok (.iadd, 1) := by decide +kernel
theorem d_M_session_49 : decode b_M_session 49 = .ok (.istore 4, 2) := by decide +kernel
theorem d_M_session_51 : decode b_M_session 51 = .ok (.iload_n 3, 1) := by decide +kernel
theorem d_M_session_52 : decode b_M_session 52 = .ok (.tableswitch 156 0 10 #[60, 68, 76, 84, 92, 100, 108, 116, 124, 140, 148], 60) := by decide +kernel
theorem d_M_session_112 : decode b_M_session 112 = .ok (.aload_n 0, 1) := by decide +kernel
theorem d_M_session_113 : decode b_M_session 113 = .ok (.getfield 41, 3) := by decide +kernel
theorem d_M_session_116 : decode b_M_session 116 = .ok (.iload 4, 2) := by decide +kernel
theorem d_M_session_118 : decode b_M_session 118 = .ok (.iaload, 1) := by decide +kernel
theorem d_M_session_119 : decode b_M_session 119 = .ok (.ireturn, 1) := by decide +kernel
theorem d_M_session_120 : decode b_M_session 120 = .ok (.aload_n 0, 1) := by decide +kernel
theorem d_M_session_121 : decode b_M_session 121 = .ok (.getfield 44, 3) := by decide +kernel
theorem d_M_session_124 : decode b_M_session 124 = .ok (.iload 4, 2) := by decide +kernel
theorem d_M_session_126 : decode b_M_session 126 = .ok (.iaload, 1) := by decide +kernel
theorem d_M_session_127 : decode b_M_session 127 = .ok (.ireturn, 1) := by decide +kernel
theorem d_M_session_128 : decode b_M_session 128 = .ok (.aload_n 0, 1) := by decide +kernel
theorem d_M_session_129 : decode b_M_session 129 = .ok (.getfield 47, 3) := by decide +kernel
theorem d_M_session_132 : decode b_M_session 132 = .ok (.iload 4, 2) := by decide +kernel
theorem d_M_session_134 : decode b_M_session 134 = .ok (.iaload, 1) := by decide +kernel
theorem d_M_session_135 : decode b_M_session 135 = .ok (.ireturn, 1) := by decide +kernel
theorem d_M_session_136 : decode b_M_session 136 = .ok (.aload_n 0, 1) := by decide +kernel
theorem d_M_session_137 : decode b_M_session 137 = .ok (.getfield 50, 3) := by decide +kernel
theorem d_M_session_140 : decode b_M_session 140 = .ok (.iload 4, 2) := by decide +kernel
theorem d_M_session_142 : decode b_M_session 142 = .ok (.iaload, 1) := by decide +kernel
theorem d_M_session_143 : decode b_M_session 143 = .ok (.ireturn, 1) := by decide +kernel
theorem d_M_session_144 : decode b_M_session 144 = .ok (.aload_n 0, 1) := by decide +kernel
theorem d_M_session_145 : decode b_M_session 145 = .ok (.getfield 80, 3) := by decide +kernel
theorem d_M_session_148 : decode b_M_session 148 = .ok (.iload 4, 2) := by decide +kernel
theorem d_M_session_150 : decode b_M_session 150 = .ok (.iaload, 1) := by decide +kernel
theorem d_M_session_151 : decode b_M_session 151 = .ok (.ireturn, 1) := by decide +kernel
theorem d_M_session_152 : decode b_M_session 152 = .ok (.aload_n 0, 1) := by decide +kernel
theorem d_M_session_153 : decode b_M_session 153 = .ok (.getfield 83, 3) := by decide +kernel
theorem d_M_session_156 : decode b_M_session 156 = .ok (.iload 4, 2) := by decide +kernel
theorem d_M_session_158 : decode b_M_session 158 = .ok (.iaload, 1) := by decide +kernel
theorem d_M_session_159 : decode b_M_session 159 = .ok (.ireturn, 1) := by decide +kernel
theorem d_M_session_160 : decode b_M_session 160 = .ok (.aload_n 0, 1) := by decide +kernel
theorem d_M_session_161 : decode b_M_session 161 = .ok (.getfield 59, 3) := by decide +kernel
theorem d_M_session_164 : decode b_M_session 164 = .ok (.iload 4, 2) := by decide +kernel
theorem d_M_session_166 : decode b_M_session 166 = .ok (.iaload, 1) := by decide +kernel
theorem d_M_session_167 : decode b_M_session 167 = .ok (.ireturn, 1) := by decide +kernel
theorem d_M_session_168 : decode b_M_session 168 = .ok (.aload_n 0, 1) := by decide +kernel
theorem d_M_session_169 : decode b_M_session 169 = .ok (.getfield 62, 3) := by decide +kernel
theorem d_M_session_172 : decode b_M_session 172 = .ok (.iload 4, 2) := by decide +kernel
theorem d_M_session_174 : decode b_M_session 174 = .ok (.iaload, 1) := by decide +kernel
theorem d_M_session_175 : decode b_M_session 175 = .ok (.ireturn, 1) := by decide +kernel
theorem d_M_session_176 : decode b_M_session 176 = .ok (.aload_n 0, 1) := by decide +kernel
theorem d_M_session_177 : decode b_M_session 177 = .ok (.getfield 77, 3) := by decide +kernel
theorem d_M_session_180 : decode b_M_session 180 = .ok (.iload 4, 2) := by decide +kernel
theorem d_M_session_182 : decode b_M_session 182 = .ok (.baload, 1) := by decide +kernel
theorem d_M_session_183 : decode b_M_session 183 = .ok (.ifCond .eq 7, 3) := by decide +kernel
theorem d_M_session_186 : decode b_M_session 186 = .ok (.iconst 1, 1) := by decide +kernel
theorem d_M_session_187 : decode b_M_session 187 = .ok (.goto 4, 3) := by decide +kernel
theorem d_M_session_190 : decode b_M_session 190 = .ok (.iconst 0, 1) := by decide +kernel
theorem d_M_session_191 : decode b_M_session 191 = .ok (.ireturn, 1) := by decide +kernel
theorem d_M_session_192 : decode b_M_session 192 = .ok (.aload_n 0, 1) := by decide +kernel
theorem d_M_session_193 : decode b_M_session 193 = .ok (.getfield 68, 3) := by decide +kernel
theorem d_M_session_196 : decode b_M_session 196 = .ok (.iload 4, 2) := by decide +kernel
theorem d_M_session_198 : decode b_M_session 198 = .ok (.iaload, 1) := by decide +kernel
theorem d_M_session_199 : decode b_M_session 199 = .ok (.ireturn, 1) := by decide +kernel
theorem d_M_session_200 : decode b_M_session 200 = .ok (.aload_n 0, 1) := by decide +kernel
theorem d_M_session_201 : decode b_M_session 201 = .ok (.getfield 71, 3) := by decide +kernel
theorem d_M_session_204 : decode b_M_session 204 = .ok (.iload 4, 2) := by decide +kernel
theorem d_M_session_206 : decode b_M_session 206 = .ok (.iaload, 1) := by decide +kernel
theorem d_M_session_207 : decode b_M_session 207 = .ok (.ireturn, 1) := by decide +kernel
theorem d_M_session_208 : decode b_M_session 208 = .ok (.aload_n 0, 1) := by decide +kernel
theorem d_M_session_209 : decode b_M_session 209 = .ok (.getfield 86, 3) := by decide +kernel
theorem d_M_session_212 : decode b_M_session 212 = .ok (.iload 4, 2) := by decide +kernel
theorem d_M_session_214 : decode b_M_session 214 = .ok (.iaload, 1) := by decide +kernel
theorem d_M_session_215 : decode b_M_session 215 = .ok (.ireturn, 1) := by decide +kernel
theorem d_M_port_0 : decode b_M_port 0 = .ok (.aload_n 0, 1) := by decide +kernel
theorem d_M_port_1 : decode b_M_port 1 = .ok (.iconst 0, 1) := by decide +kernel
theorem d_M_port_2 : decode b_M_port 2 = .ok (.putfield 124, 3) := by decide +kernel
theorem d_M_port_5 : decode b_M_port 5 = .ok (.iload_n 1, 1) := by decide +kernel
theorem d_M_port_6 : decode b_M_port 6 = .ok (.ifCond .lt 9, 3) := by decide +kernel
theorem d_M_port_9 : decode b_M_port 9 = .ok (.iload_n 1, 1) := by decide +kernel
theorem d_M_port_10 : decode b_M_port 10 = .ok (.bipush 14, 2) := by decide +kernel
theorem d_M_port_12 : decode b_M_port 12 = .ok (.if_icmp .le 7, 3) := by decide +kernel
theorem d_M_port_15 : decode b_M_port 15 = .ok (.iconst (-1), 1) := by decide +kernel
theorem d_M_port_16 : decode b_M_port 16 = .ok (.goto 9, 3) := by decide +kernel
theorem d_M_port_19 : decode b_M_port 19 = .ok (.aload_n 0, 1) := by decide +kernel
theorem d_M_port_20 : decode b_M_port 20 = .ok (.getfield 34, 3) := by decide +kernel
theorem d_M_port_23 : decode b_M_port 23 = .ok (.iload_n 1, 1) := by decide +kernel
theorem d_M_port_24 : decode b_M_port 24 = .ok (.iaload, 1) := by decide +kernel
theorem d_M_port_25 : decode b_M_port 25 = .ok (.ireturn, 1) := by decide +kernel
theorem d_M_flying_0 : decode b_M_flying 0 = .ok (.aload_n 0, 1) := by decide +kernel
theorem d_M_flying_1 : decode b_M_flying 1 = .ok (.iconst 0, 1) := by decide +kernel
theorem d_M_flying_2 : decode b_M_flying 2 = .ok (.putfield 124, 3) := by decide +kernel
theorem d_M_flying_5 : decode b_M_flying 5 = .ok (.aload_n 0, 1) := by decide +kernel
theorem d_M_flying_6 : decode b_M_flying 6 = .ok (.getfield 147, 3) := by decide +kernel
theorem d_M_flying_9 : decode b_M_flying 9 = .ok (.ireturn, 1) := by decide +kernel
theorem d_M_frame_0 : decode b_M_frame 0 = .ok (.aload_n 0, 1) := by decide +kernel
theorem d_M_frame_1 : decode b_M_frame 1 = .ok (.iconst 0, 1) := by decide +kernel
theorem d_M_frame_2 : decode b_M_frame 2 = .ok (.putfield 124, 3) := by decide +kernel
theorem d_M_frame_5 : decode b_M_frame 5 = .ok (.iload_n 1, 1) := by decide +kernel
theorem d_M_frame_6 : decode b_M_frame 6 = .ok (.ifCond .lt 27, 3) := by decide +kernel
theorem d_M_frame_9 : decode b_M_frame 9 = .ok (.iload_n 1, 1) := by decide +kernel
theorem d_M_frame_10 : decode b_M_frame 10 = .ok (.aload_n 0, 1) := by decide +kernel
theorem d_M_frame_11 : decode b_M_frame 11 = .ok (.getfield 147, 3) := by decide +kernel
theorem d_M_frame_14 : decode b_M_frame 14 = .ok (.if_icmp .ge 19, 3) := by decide +kernel
theorem d_M_frame_17 : decode b_M_frame 17 = .ok (.iload_n 2, 1) := by decide +kernel
theorem d_M_frame_18 : decode b_M_frame 18 = .ok (.bipush (-6), 2) := by decide +kernel
theorem d_M_frame_20 : decode b_M_frame 20 = .ok (.if_icmp .lt 13, 3) := by decide +kernel
theorem d_M_frame_23 : decode b_M_frame 23 = .ok (.iload_n 2, 1) := by decide +kernel
theorem d_M_frame_24 : decode b_M_frame 24 = .ok (.aload_n 0, 1) := by decide +kernel
theorem d_M_frame_25 : decode b_M_frame 25 = .ok (.getfield 107, 3) := by decide +kernel
theorem d_M_frame_28 : decode b_M_frame 28 = .ok (.iload_n 1, 1) := by decide +kernel
theorem d_M_frame_29 : decode b_M_frame 29 = .ok (.iaload, 1) := by decide +kernel
theorem d_M_frame_30 : decode b_M_frame 30 = .ok (.if_icmp .lt 5, 3) := by decide +kernel
theorem d_M_frame_33 : decode b_M_frame 33 = .ok (.iconst (-1), 1) := by decide +kernel
theorem d_M_frame_34 : decode b_M_frame 34 = .ok (.ireturn, 1) := by decide +kernel
theorem d_M_frame_35 : decode b_M_frame 35 = .ok (.iload_n 2, 1) := by decide +kernel
theorem d_M_frame_36 : decode b_M_frame 36 = .ok (.tableswitch 87 (-6) (-1) #[80, 73, 66, 59, 52, 40], 40) := by decide +kernel
theorem d_M_frame_76 : decode b_M_frame 76 = .ok (.aload_n 0, 1) := by decide +kernel
theorem d_M_frame_77 : decode b_M_frame 77 = .ok (.getfield 89, 3) := by decide +kernel
theorem d_M_frame_80 : decode b_M_frame 80 = .ok (.iload_n 1, 1) := by decide +kernel
theorem d_M_frame_81 : decode b_M_frame 81 = .ok (.iaload, 1) := by decide +kernel
theorem d_M_frame_82 : decode b_M_frame 82 = .ok (.aload_n 0, 1) := by decide +kernel
theorem d_M_frame_83 : decode b_M_frame 83 = .ok (.getfield 150, 3) := by decide +kernel
theorem d_M_frame_86 : decode b_M_frame 86 = .ok (.isub, 1) := by decide +kernel
theorem d_M_frame_87 : decode b_M_frame 87 = .ok (.ireturn, 1) := by decide +kernel
theorem d_M_frame_88 : decode b_M_frame 88 = .ok (.aload_n 0, 1) := by decide +kernel
theorem d_M_frame_89 : decode b_M_frame 89 = .ok (.getfield 92, 3) := by decide +kernel
theorem d_M_frame_92 : decode b_M_frame 92 = .ok (.iload_n 1, 1) := by decide +kernel
theorem d_M_frame_93 : decode b_M_frame 93 = .ok (.iaload, 1) := by decide +kernel
theorem d_M_frame_94 : decode b_M_frame 94 = .ok (.ireturn, 1) := by decide +kernel
theorem d_M_frame_95 : decode b_M_frame 95 = .ok (.aload_n 0, 1) := by decide +kernel
theorem d_M_frame_96 : decode b_M_frame 96 = .ok (.getfield 95, 3) := by decide +kernel
theorem d_M_frame_99 : decode b_M_frame 99 = .ok (.iload_n 1, 1) := by decide +kernel
theorem d_M_frame_100 : decode b_M_frame 100 = .ok (.iaload, 1) := by decide +kernel
theorem d_M_frame_101 : decode b_M_frame 101 = .ok (.ireturn, 1) := by decide +kernel
theorem d_M_frame_102 : decode b_M_frame 102 = .ok (.aload_n 0, 1) := by decide +kernel
theorem d_M_frame_103 : decode b_M_frame 103 = .ok (.getfield 98, 3) := by decide +kernel
theorem d_M_frame_106 : decode b_M_frame 106 = .ok (.iload_n 1, 1) := by decide +kernel
theorem d_M_frame_107 : decode b_M_frame 107 = .ok (.iaload, 1) := by decide +kernel
theorem d_M_frame_108 : decode b_M_frame 108 = .ok (.ireturn, 1) := by decide +kernel
theorem d_M_frame_109 : decode b_M_frame 109 = .ok (.aload_n 0, 1) := by decide +kernel
theorem d_M_frame_110 : decode b_M_frame 110 = .ok (.getfield 107, 3) := by decide +kernel
theorem d_M_frame_113 : decode b_M_frame 113 = .ok (.iload_n 1, 1) := by decide +kernel
theorem d_M_frame_114 : decode b_M_frame 114 = .ok (.iaload, 1) := by decide +kernel
theorem d_M_frame_115 : decode b_M_frame 115 = .ok (.ireturn, 1) := by decide +kernel
theorem d_M_frame_116 : decode b_M_frame 116 = .ok (.aload_n 0, 1) := by decide +kernel
theorem d_M_frame_117 : decode b_M_frame 117 = .ok (.getfield 104, 3) := by decide +kernel
theorem d_M_frame_120 : decode b_M_frame 120 = .ok (.iload_n 1, 1) := by decide +kernel
theorem d_M_frame_121 : decode b_M_frame 121 = .ok (.iaload, 1) := by decide +kernel
theorem d_M_frame_122 : decode b_M_frame 122 = .ok (.ireturn, 1) := by decide +kernel
theorem d_M_frame_123 : decode b_M_frame 123 = .ok (.aload_n 0, 1) := by decide +kernel
theorem d_M_frame_124 : decode b_M_frame 124 = .ok (.getfield 110, 3) := by decide +kernel
theorem d_M_frame_127 : decode b_M_frame 127 = .ok (.bipush 40, 2) := by decide +kernel
theorem d_M_frame_129 : decode b_M_frame 129 = .ok (.iload_n 1, 1) := by decide +kernel
theorem d_M_frame_130 : decode b_M_frame 130 = .ok (.imul, 1) := by decide +kernel
theorem d_M_frame_131 : decode b_M_frame 131 = .ok (.iload_n 2, 1) := by decide +kernel
theorem d_M_frame_132 : decode b_M_frame 132 = .ok (.iadd, 1) := by decide +kernel
theorem d_M_frame_133 : decode b_M_frame 133 = .ok (.iaload, 1) := by decide +kernel
theorem d_M_frame_134 : decode b_M_frame 134 = .ok (.ireturn, 1) := by decide +kernel
