/-! the law: its rows -/
theorem d_J_law_0 : decode b_J_law 0 = .ok (.new 8, 3) := by decide +kernel
theorem d_J_law_3 : decode b_J_law 3 = .ok (.dup, 1) := by decide +kernel
theorem d_J_law_4 : decode b_J_law 4 = .ok (.invokespecial 46, 3) := by decide +kernel
theorem d_J_law_7 : decode b_J_law 7 = .ok (.astore_n 1, 1) := by decide +kernel
theorem d_J_law_8 : decode b_J_law 8 = .ok (.new 47, 3) := by decide +kernel
theorem d_J_law_11 : decode b_J_law 11 = .ok (.dup, 1) := by decide +kernel
theorem d_J_law_12 : decode b_J_law 12 = .ok (.invokespecial 49, 3) := by decide +kernel
theorem d_J_law_15 : decode b_J_law 15 = .ok (.astore_n 2, 1) := by decide +kernel
theorem d_J_law_16 : decode b_J_law 16 = .ok (.iconst 1, 1) := by decide +kernel
theorem d_J_law_17 : decode b_J_law 17 = .ok (.newarray .long, 2) := by decide +kernel
theorem d_J_law_19 : decode b_J_law 19 = .ok (.astore_n 3, 1) := by decide +kernel
theorem d_J_law_20 : decode b_J_law 20 = .ok (.iconst 0, 1) := by decide +kernel
theorem d_J_law_21 : decode b_J_law 21 = .ok (.istore 4, 2) := by decide +kernel
theorem d_J_law_23 : decode b_J_law 23 = .ok (.iload 4, 2) := by decide +kernel
theorem d_J_law_25 : decode b_J_law 25 = .ok (.aload_n 0, 1) := by decide +kernel
theorem d_J_law_26 : decode b_J_law 26 = .ok (.arraylength, 1) := by decide +kernel
theorem d_J_law_27 : decode b_J_law 27 = .ok (.bipush 6, 2) := by decide +kernel
theorem d_J_law_29 : decode b_J_law 29 = .ok (.isub, 1) := by decide +kernel
theorem d_J_law_30 : decode b_J_law 30 = .ok (.if_icmp .gt 837, 3) := by decide +kernel
theorem d_J_law_33 : decode b_J_law 33 = .ok (.aload_n 0, 1) := by decide +kernel
theorem d_J_law_34 : decode b_J_law 34 = .ok (.iload 4, 2) := by decide +kernel
theorem d_J_law_36 : decode b_J_law 36 = .ok (.iaload, 1) := by decide +kernel
theorem d_J_law_37 : decode b_J_law 37 = .ok (.bipush 15, 2) := by decide +kernel
theorem d_J_law_39 : decode b_J_law 39 = .ok (.iand, 1) := by decide +kernel
theorem d_J_law_40 : decode b_J_law 40 = .ok (.tableswitch 821 0 13 #[72, 132, 168, 232, 316, 388, 424, 480, 549, 660, 697, 746, 771, 784], 72) := by decide +kernel
theorem d_J_law_112 : decode b_J_law 112 = .ok (.aload_n 1, 1) := by decide +kernel
theorem d_J_law_113 : decode b_J_law 113 = .ok (.aload_n 0, 1) := by decide +kernel
theorem d_J_law_114 : decode b_J_law 114 = .ok (.iload 4, 2) := by decide +kernel
theorem d_J_law_116 : decode b_J_law 116 = .ok (.iconst 1, 1) := by decide +kernel
theorem d_J_law_117 : decode b_J_law 117 = .ok (.iadd, 1) := by decide +kernel
theorem d_J_law_118 : decode b_J_law 118 = .ok (.iaload, 1) := by decide +kernel
theorem d_J_law_119 : decode b_J_law 119 = .ok (.aload_n 0, 1) := by decide +kernel
theorem d_J_law_120 : decode b_J_law 120 = .ok (.iload 4, 2) := by decide +kernel
theorem d_J_law_122 : decode b_J_law 122 = .ok (.iconst 2, 1) := by decide +kernel
theorem d_J_law_123 : decode b_J_law 123 = .ok (.iadd, 1) := by decide +kernel
theorem d_J_law_124 : decode b_J_law 124 = .ok (.iaload, 1) := by decide +kernel
theorem d_J_law_125 : decode b_J_law 125 = .ok (.aload_n 0, 1) := by decide +kernel
theorem d_J_law_126 : decode b_J_law 126 = .ok (.iload 4, 2) := by decide +kernel
theorem d_J_law_128 : decode b_J_law 128 = .ok (.iconst 3, 1) := by decide +kernel
theorem d_J_law_129 : decode b_J_law 129 = .ok (.iadd, 1) := by decide +kernel
theorem d_J_law_130 : decode b_J_law 130 = .ok (.iaload, 1) := by decide +kernel
theorem d_J_law_131 : decode b_J_law 131 = .ok (.invokestatic 50, 3) := by decide +kernel
theorem d_J_law_134 : decode b_J_law 134 = .ok (.istore 5, 2) := by decide +kernel
theorem d_J_law_136 : decode b_J_law 136 = .ok (.aload_n 2, 1) := by decide +kernel
theorem d_J_law_137 : decode b_J_law 137 = .ok (.aload_n 0, 1) := by decide +kernel
theorem d_J_law_138 : decode b_J_law 138 = .ok (.iload 4, 2) := by decide +kernel
theorem d_J_law_140 : decode b_J_law 140 = .ok (.iconst 1, 1) := by decide +kernel
theorem d_J_law_141 : decode b_J_law 141 = .ok (.iadd, 1) := by decide +kernel
theorem d_J_law_142 : decode b_J_law 142 = .ok (.iaload, 1) := by decide +kernel
theorem d_J_law_143 : decode b_J_law 143 = .ok (.aload_n 0, 1) := by decide +kernel
theorem d_J_law_144 : decode b_J_law 144 = .ok (.iload 4, 2) := by decide +kernel
theorem d_J_law_146 : decode b_J_law 146 = .ok (.iconst 2, 1) := by decide +kernel
theorem d_J_law_147 : decode b_J_law 147 = .ok (.iadd, 1) := by decide +kernel
theorem d_J_law_148 : decode b_J_law 148 = .ok (.iaload, 1) := by decide +kernel
theorem d_J_law_149 : decode b_J_law 149 = .ok (.aload_n 0, 1) := by decide +kernel
theorem d_J_law_150 : decode b_J_law 150 = .ok (.iload 4, 2) := by decide +kernel
theorem d_J_law_152 : decode b_J_law 152 = .ok (.iconst 3, 1) := by decide +kernel
theorem d_J_law_153 : decode b_J_law 153 = .ok (.iadd, 1) := by decide +kernel
theorem d_J_law_154 : decode b_J_law 154 = .ok (.iaload, 1) := by decide +kernel
theorem d_J_law_155 : decode b_J_law 155 = .ok (.invokevirtual 55, 3) := by decide +kernel
theorem d_J_law_158 : decode b_J_law 158 = .ok (.aload_n 2, 1) := by decide +kernel
theorem d_J_law_159 : decode b_J_law 159 = .ok (.invokevirtual 56, 3) := by decide +kernel
theorem d_J_law_162 : decode b_J_law 162 = .ok (.iload 5, 2) := by decide +kernel
theorem d_J_law_164 : decode b_J_law 164 = .ok (.if_icmp .eq 5, 3) := by decide +kernel
theorem d_J_law_167 : decode b_J_law 167 = .ok (.iconst 0, 1) := by decide +kernel
theorem d_J_law_168 : decode b_J_law 168 = .ok (.ireturn, 1) := by decide +kernel
theorem d_J_law_169 : decode b_J_law 169 = .ok (.goto 692, 3) := by decide +kernel
theorem d_J_law_172 : decode b_J_law 172 = .ok (.aload_n 1, 1) := by decide +kernel
theorem d_J_law_173 : decode b_J_law 173 = .ok (.aload_n 0, 1) := by decide +kernel
theorem d_J_law_174 : decode b_J_law 174 = .ok (.iload 4, 2) := by decide +kernel
theorem d_J_law_176 : decode b_J_law 176 = .ok (.iconst 1, 1) := by decide +kernel
theorem d_J_law_177 : decode b_J_law 177 = .ok (.iadd, 1) := by decide +kernel
theorem d_J_law_178 : decode b_J_law 178 = .ok (.iaload, 1) := by decide +kernel
theorem d_J_law_179 : decode b_J_law 179 = .ok (.invokestatic 60, 3) := by decide +kernel
theorem d_J_law_182 : decode b_J_law 182 = .ok (.istore 5, 2) := by decide +kernel
theorem d_J_law_184 : decode b_J_law 184 = .ok (.aload_n 2, 1) := by decide +kernel
theorem d_J_law_185 : decode b_J_law 185 = .ok (.aload_n 0, 1) := by decide +kernel
theorem d_J_law_186 : decode b_J_law 186 = .ok (.iload 4, 2) := by decide +kernel
theorem d_J_law_188 : decode b_J_law 188 = .ok (.iconst 1, 1) := by decide +kernel
theorem d_J_law_189 : decode b_J_law 189 = .ok (.iadd, 1) := by decide +kernel
theorem d_J_law_190 : decode b_J_law 190 = .ok (.iaload, 1) := by decide +kernel
theorem d_J_law_191 : decode b_J_law 191 = .ok (.invokevirtual 63, 3) := by decide +kernel
theorem d_J_law_194 : decode b_J_law 194 = .ok (.aload_n 2, 1) := by decide +kernel
theorem d_J_law_195 : decode b_J_law 195 = .ok (.invokevirtual 56, 3) := by decide +kernel
theorem d_J_law_198 : decode b_J_law 198 = .ok (.iload 5, 2) := by decide +kernel
theorem d_J_law_200 : decode b_J_law 200 = .ok (.if_icmp .eq 5, 3) := by decide +kernel
theorem d_J_law_203 : decode b_J_law 203 = .ok (.iconst 0, 1) := by decide +kernel
theorem d_J_law_204 : decode b_J_law 204 = .ok (.ireturn, 1) := by decide +kernel
theorem d_J_law_205 : decode b_J_law 205 = .ok (.goto 656, 3) := by decide +kernel
theorem d_J_law_208 : decode b_J_law 208 = .ok (.aload_n 1, 1) := by decide +kernel
theorem d_J_law_209 : decode b_J_law 209 = .ok (.aload_n 0, 1) := by decide +kernel
theorem d_J_law_210 : decode b_J_law 210 = .ok (.iload 4, 2) := by decide +kernel
theorem d_J_law_212 : decode b_J_law 212 = .ok (.iconst 1, 1) := by decide +kernel
theorem d_J_law_213 : decode b_J_law 213 = .ok (.iadd, 1) := by decide +kernel
theorem d_J_law_214 : decode b_J_law 214 = .ok (.iaload, 1) := by decide +kernel
theorem d_J_law_215 : decode b_J_law 215 = .ok (.aload_n 0, 1) := by decide +kernel
theorem d_J_law_216 : decode b_J_law 216 = .ok (.iload 4, 2) := by decide +kernel
theorem d_J_law_218 : decode b_J_law 218 = .ok (.iconst 2, 1) := by decide +kernel
theorem d_J_law_219 : decode b_J_law 219 = .ok (.iadd, 1) := by decide +kernel
theorem d_J_law_220 : decode b_J_law 220 = .ok (.iaload, 1) := by decide +kernel
theorem d_J_law_221 : decode b_J_law 221 = .ok (.ifCond .eq 7, 3) := by decide +kernel
theorem d_J_law_224 : decode b_J_law 224 = .ok (.iconst 1, 1) := by decide +kernel
theorem d_J_law_225 : decode b_J_law 225 = .ok (.goto 4, 3) := by decide +kernel
theorem d_J_law_228 : decode b_J_law 228 = .ok (.iconst 0, 1) := by decide +kernel
theorem d_J_law_229 : decode b_J_law 229 = .ok (.invokestatic 64, 3) := by decide +kernel
theorem d_J_law_232 : decode b_J_law 232 = .ok (.istore 5, 2) := by decide +kernel
theorem d_J_law_234 : decode b_J_law 234 = .ok (.aload_n 2, 1) := by decide +kernel
theorem d_J_law_235 : decode b_J_law 235 = .ok (.aload_n 0, 1) := by decide +kernel
theorem d_J_law_236 : decode b_J_law 236 = .ok (.iload 4, 2) := by decide +kernel
theorem d_J_law_238 : decode b_J_law 238 = .ok (.iconst 1, 1) := by decide +kernel
theorem d_J_law_239 : decode b_J_law 239 = .ok (.iadd, 1) := by decide +kernel
theorem d_J_law_240 : decode b_J_law 240 = .ok (.iaload, 1) := by decide +kernel
theorem d_J_law_241 : decode b_J_law 241 = .ok (.aload_n 0, 1) := by decide +kernel
theorem d_J_law_242 : decode b_J_law 242 = .ok (.iload 4, 2) := by decide +kernel
theorem d_J_law_244 : decode b_J_law 244 = .ok (.iconst 2, 1) := by decide +kernel
theorem d_J_law_245 : decode b_J_law 245 = .ok (.iadd, 1) := by decide +kernel
theorem d_J_law_246 : decode b_J_law 246 = .ok (.iaload, 1) := by decide +kernel
theorem d_J_law_247 : decode b_J_law 247 = .ok (.ifCond .eq 7, 3) := by decide +kernel
theorem d_J_law_250 : decode b_J_law 250 = .ok (.iconst 1, 1) := by decide +kernel
theorem d_J_law_251 : decode b_J_law 251 = .ok (.goto 4, 3) := by decide +kernel
theorem d_J_law_254 : decode b_J_law 254 = .ok (.iconst 0, 1) := by decide +kernel
theorem d_J_law_255 : decode b_J_law 255 = .ok (.invokevirtual 67, 3) := by decide +kernel
theorem d_J_law_258 : decode b_J_law 258 = .ok (.aload_n 2, 1) := by decide +kernel
theorem d_J_law_259 : decode b_J_law 259 = .ok (.invokevirtual 56, 3) := by decide +kernel
theorem d_J_law_262 : decode b_J_law 262 = .ok (.iload 5, 2) := by decide +kernel
theorem d_J_law_264 : decode b_J_law 264 = .ok (.if_icmp .eq 5, 3) := by decide +kernel
theorem d_J_law_267 : decode b_J_law 267 = .ok (.iconst 0, 1) := by decide +kernel
theorem d_J_law_268 : decode b_J_law 268 = .ok (.ireturn, 1) := by decide +kernel
theorem d_J_law_269 : decode b_J_law 269 = .ok (.goto 592, 3) := by decide +kernel
theorem d_J_law_272 : decode b_J_law 272 = .ok (.aload_n 1, 1) := by decide +kernel
theorem d_J_law_273 : decode b_J_law 273 = .ok (.aload_n 0, 1) := by decide +kernel
theorem d_J_law_274 : decode b_J_law 274 = .ok (.iload 4, 2) := by decide +kernel
theorem d_J_law_276 : decode b_J_law 276 = .ok (.iconst 1, 1) := by decide +kernel
theorem d_J_law_277 : decode b_J_law 277 = .ok (.iadd, 1) := by decide +kernel
theorem d_J_law_278 : decode b_J_law 278 = .ok (.iaload, 1) := by decide +kernel
theorem d_J_law_279 : decode b_J_law 279 = .ok (.aload_n 0, 1) := by decide +kernel
theorem d_J_law_280 : decode b_J_law 280 = .ok (.iload 4, 2) := by decide +kernel
theorem d_J_law_282 : decode b_J_law 282 = .ok (.iconst 2, 1) := by decide +kernel
theorem d_J_law_283 : decode b_J_law 283 = .ok (.iadd, 1) := by decide +kernel
theorem d_J_law_284 : decode b_J_law 284 = .ok (.iaload, 1) := by decide +kernel
theorem d_J_law_285 : decode b_J_law 285 = .ok (.aload_n 0, 1) := by decide +kernel
theorem d_J_law_286 : decode b_J_law 286 = .ok (.iload 4, 2) := by decide +kernel
theorem d_J_law_288 : decode b_J_law 288 = .ok (.iconst 3, 1) := by decide +kernel
theorem d_J_law_289 : decode b_J_law 289 = .ok (.iadd, 1) := by decide +kernel
theorem d_J_law_290 : decode b_J_law 290 = .ok (.iaload, 1) := by decide +kernel
theorem d_J_law_291 : decode b_J_law 291 = .ok (.aload_n 0, 1) := by decide +kernel
theorem d_J_law_292 : decode b_J_law 292 = .ok (.iload 4, 2) := by decide +kernel
theorem d_J_law_294 : decode b_J_law 294 = .ok (.iconst 4, 1) := by decide +kernel
theorem d_J_law_295 : decode b_J_law 295 = .ok (.iadd, 1) := by decide +kernel
theorem d_J_law_296 : decode b_J_law 296 = .ok (.iaload, 1) := by decide +kernel
theorem d_J_law_297 : decode b_J_law 297 = .ok (.aload_n 0, 1) := by decide +kernel
theorem d_J_law_298 : decode b_J_law 298 = .ok (.iload 4, 2) := by decide +kernel
theorem d_J_law_300 : decode b_J_law 300 = .ok (.iconst 5, 1) := by decide +kernel
theorem d_J_law_301 : decode b_J_law 301 = .ok (.iadd, 1) := by decide +kernel
theorem d_J_law_302 : decode b_J_law 302 = .ok (.iaload, 1) := by decide +kernel
theorem d_J_law_303 : decode b_J_law 303 = .ok (.invokestatic 68, 3) := by decide +kernel
theorem d_J_law_306 : decode b_J_law 306 = .ok (.istore 5, 2) := by decide +kernel
theorem d_J_law_308 : decode b_J_law 308 = .ok (.aload_n 2, 1) := by decide +kernel
theorem d_J_law_309 : decode b_J_law 309 = .ok (.aload_n 0, 1) := by decide +kernel
theorem d_J_law_310 : decode b_J_law 310 = .ok (.iload 4, 2) := by decide +kernel
theorem d_J_law_312 : decode b_J_law 312 = .ok (.iconst 1, 1) := by decide +kernel
theorem d_J_law_313 : decode b_J_law 313 = .ok (.iadd, 1) := by decide +kernel
theorem d_J_law_314 : decode b_J_law 314 = .ok (.iaload, 1) := by decide +kernel
theorem d_J_law_315 : decode b_J_law 315 = .ok (.aload_n 0, 1) := by decide +kernel
theorem d_J_law_316 : decode b_J_law 316 = .ok (.iload 4, 2) := by decide +kernel
theorem d_J_law_318 : decode b_J_law 318 = .ok (.iconst 2, 1) := by decide +kernel
theorem d_J_law_319 : decode b_J_law 319 = .ok (.iadd, 1) := by decide +kernel
theorem d_J_law_320 : decode b_J_law 320 = .ok (.iaload, 1) := by decide +kernel
theorem d_J_law_321 : decode b_J_law 321 = .ok (.aload_n 0, 1) := by decide +kernel
theorem d_J_law_322 : decode b_J_law 322 = .ok (.iload 4, 2) := by decide +kernel
theorem d_J_law_324 : decode b_J_law 324 = .ok (.iconst 3, 1) := by decide +kernel
theorem d_J_law_325 : decode b_J_law 325 = .ok (.iadd, 1) := by decide +kernel
theorem d_J_law_326 : decode b_J_law 326 = .ok (.iaload, 1) := by decide +kernel
theorem d_J_law_327 : decode b_J_law 327 = .ok (.aload_n 0, 1) := by decide +kernel
theorem d_J_law_328 : decode b_J_law 328 = .ok (.iload 4, 2) := by decide +kernel
theorem d_J_law_330 : decode b_J_law 330 = .ok (.iconst 4, 1) := by decide +kernel
theorem d_J_law_331 : decode b_J_law 331 = .ok (.iadd, 1) := by decide +kernel
theorem d_J_law_332 : decode b_J_law 332 = .ok (.iaload, 1) := by decide +kernel
theorem d_J_law_333 : decode b_J_law 333 = .ok (.aload_n 0, 1) := by decide +kernel
theorem d_J_law_334 : decode b_J_law 334 = .ok (.iload 4, 2) := by decide +kernel
theorem d_J_law_336 : decode b_J_law 336 = .ok (.iconst 5, 1) := by decide +kernel
theorem d_J_law_337 : decode b_J_law 337 = .ok (.iadd, 1) := by decide +kernel
theorem d_J_law_338 : decode b_J_law 338 = .ok (.iaload, 1) := by decide +kernel
theorem d_J_law_339 : decode b_J_law 339 = .ok (.invokevirtual 71, 3) := by decide +kernel
theorem d_J_law_342 : decode b_J_law 342 = .ok (.aload_n 2, 1) := by decide +kernel
theorem d_J_law_343 : decode b_J_law 343 = .ok (.invokevirtual 56, 3) := by decide +kernel
theorem d_J_law_346 : decode b_J_law 346 = .ok (.iload 5, 2) := by decide +kernel
theorem d_J_law_348 : decode b_J_law 348 = .ok (.if_icmp .eq 5, 3) := by decide +kernel
theorem d_J_law_351 : decode b_J_law 351 = .ok (.iconst 0, 1) := by decide +kernel
theorem d_J_law_352 : decode b_J_law 352 = .ok (.ireturn, 1) := by decide +kernel
theorem d_J_law_353 : decode b_J_law 353 = .ok (.goto 508, 3) := by decide +kernel
theorem d_J_law_356 : decode b_J_law 356 = .ok (.aload_n 1, 1) := by decide +kernel
theorem d_J_law_357 : decode b_J_law 357 = .ok (.aload_n 0, 1) := by decide +kernel
theorem d_J_law_358 : decode b_J_law 358 = .ok (.iload 4, 2) := by decide +kernel
theorem d_J_law_360 : decode b_J_law 360 = .ok (.iconst 1, 1) := by decide +kernel
theorem d_J_law_361 : decode b_J_law 361 = .ok (.iadd, 1) := by decide +kernel
theorem d_J_law_362 : decode b_J_law 362 = .ok (.iaload, 1) := by decide +kernel
theorem d_J_law_363 : decode b_J_law 363 = .ok (.aload_n 0, 1) := by decide +kernel
theorem d_J_law_364 : decode b_J_law 364 = .ok (.iload 4, 2) := by decide +kernel
theorem d_J_law_366 : decode b_J_law 366 = .ok (.iconst 2, 1) := by decide +kernel
theorem d_J_law_367 : decode b_J_law 367 = .ok (.iadd, 1) := by decide +kernel
theorem d_J_law_368 : decode b_J_law 368 = .ok (.iaload, 1) := by decide +kernel
theorem d_J_law_369 : decode b_J_law 369 = .ok (.aload_n 0, 1) := by decide +kernel
theorem d_J_law_370 : decode b_J_law 370 = .ok (.iload 4, 2) := by decide +kernel
theorem d_J_law_372 : decode b_J_law 372 = .ok (.iconst 3, 1) := by decide +kernel
theorem d_J_law_373 : decode b_J_law 373 = .ok (.iadd, 1) := by decide +kernel
theorem d_J_law_374 : decode b_J_law 374 = .ok (.iaload, 1) := by decide +kernel
theorem d_J_law_375 : decode b_J_law 375 = .ok (.aload_n 0, 1) := by decide +kernel
theorem d_J_law_376 : decode b_J_law 376 = .ok (.iload 4, 2) := by decide +kernel
theorem d_J_law_378 : decode b_J_law 378 = .ok (.iconst 4, 1) := by decide +kernel
theorem d_J_law_379 : decode b_J_law 379 = .ok (.iadd, 1) := by decide +kernel
theorem d_J_law_380 : decode b_J_law 380 = .ok (.iaload, 1) := by decide +kernel
theorem d_J_law_381 : decode b_J_law 381 = .ok (.invokestatic 72, 3) := by decide +kernel
theorem d_J_law_384 : decode b_J_law 384 = .ok (.istore 5, 2) := by decide +kernel
theorem d_J_law_386 : decode b_J_law 386 = .ok (.aload_n 2, 1) := by decide +kernel
theorem d_J_law_387 : decode b_J_law 387 = .ok (.aload_n 0, 1) := by decide +kernel
theorem d_J_law_388 : decode b_J_law 388 = .ok (.iload 4, 2) := by decide +kernel
theorem d_J_law_390 : decode b_J_law 390 = .ok (.iconst 1, 1) := by decide +kernel
theorem d_J_law_391 : decode b_J_law 391 = .ok (.iadd, 1) := by decide +kernel
theorem d_J_law_392 : decode b_J_law 392 = .ok (.iaload, 1) := by decide +kernel
theorem d_J_law_393 : decode b_J_law 393 = .ok (.aload_n 0, 1) := by decide +kernel
theorem d_J_law_394 : decode b_J_law 394 = .ok (.iload 4, 2) := by decide +kernel
theorem d_J_law_396 : decode b_J_law 396 = .ok (.iconst 2, 1) := by decide +kernel
theorem d_J_law_397 : decode b_J_law 397 = .ok (.iadd, 1) := by decide +kernel
theorem d_J_law_398 : decode b_J_law 398 = .ok (.iaload, 1) := by decide +kernel
theorem d_J_law_399 : decode b_J_law 399 = .ok (.aload_n 0, 1) := by decide +kernel
theorem d_J_law_400 : decode b_J_law 400 = .ok (.iload 4, 2) := by decide +kernel
theorem d_J_law_402 : decode b_J_law 402 = .ok (.iconst 3, 1) := by decide +kernel
theorem d_J_law_403 : decode b_J_law 403 = .ok (.iadd, 1) := by decide +kernel
theorem d_J_law_404 : decode b_J_law 404 = .ok (.iaload, 1) := by decide +kernel
theorem d_J_law_405 : decode b_J_law 405 = .ok (.aload_n 0, 1) := by decide +kernel
theorem d_J_law_406 : decode b_J_law 406 = .ok (.iload 4, 2) := by decide +kernel
theorem d_J_law_408 : decode b_J_law 408 = .ok (.iconst 4, 1) := by decide +kernel
theorem d_J_law_409 : decode b_J_law 409 = .ok (.iadd, 1) := by decide +kernel
theorem d_J_law_410 : decode b_J_law 410 = .ok (.iaload, 1) := by decide +kernel
theorem d_J_law_411 : decode b_J_law 411 = .ok (.invokevirtual 75, 3) := by decide +kernel
theorem d_J_law_414 : decode b_J_law 414 = .ok (.aload_n 2, 1) := by decide +kernel
theorem d_J_law_415 : decode b_J_law 415 = .ok (.invokevirtual 56, 3) := by decide +kernel
theorem d_J_law_418 : decode b_J_law 418 = .ok (.iload 5, 2) := by decide +kernel
theorem d_J_law_420 : decode b_J_law 420 = .ok (.if_icmp .eq 5, 3) := by decide +kernel
theorem d_J_law_423 : decode b_J_law 423 = .ok (.iconst 0, 1) := by decide +kernel
theorem d_J_law_424 : decode b_J_law 424 = .ok (.ireturn, 1) := by decide +kernel
theorem d_J_law_425 : decode b_J_law 425 = .ok (.goto 436, 3) := by decide +kernel
theorem d_J_law_428 : decode b_J_law 428 = .ok (.aload_n 1, 1) := by decide +kernel
theorem d_J_law_429 : decode b_J_law 429 = .ok (.aload_n 0, 1) := by decide +kernel
theorem d_J_law_430 : decode b_J_law 430 = .ok (.iload 4, 2) := by decide +kernel
theorem d_J_law_432 : decode b_J_law 432 = .ok (.iconst 1, 1) := by decide +kernel
theorem d_J_law_433 : decode b_J_law 433 = .ok (.iadd, 1) := by decide +kernel
theorem d_J_law_434 : decode b_J_law 434 = .ok (.iaload, 1) := by decide +kernel
theorem d_J_law_435 : decode b_J_law 435 = .ok (.invokestatic 76, 3) := by decide +kernel
theorem d_J_law_438 : decode b_J_law 438 = .ok (.istore 5, 2) := by decide +kernel
theorem d_J_law_440 : decode b_J_law 440 = .ok (.aload_n 2, 1) := by decide +kernel
theorem d_J_law_441 : decode b_J_law 441 = .ok (.aload_n 0, 1) := by decide +kernel
theorem d_J_law_442 : decode b_J_law 442 = .ok (.iload 4, 2) := by decide +kernel
theorem d_J_law_444 : decode b_J_law 444 = .ok (.iconst 1, 1) := by decide +kernel
theorem d_J_law_445 : decode b_J_law 445 = .ok (.iadd, 1) := by decide +kernel
theorem d_J_law_446 : decode b_J_law 446 = .ok (.iaload, 1) := by decide +kernel
theorem d_J_law_447 : decode b_J_law 447 = .ok (.invokevirtual 78, 3) := by decide +kernel
theorem d_J_law_450 : decode b_J_law 450 = .ok (.aload_n 2, 1) := by decide +kernel
theorem d_J_law_451 : decode b_J_law 451 = .ok (.invokevirtual 56, 3) := by decide +kernel
theorem d_J_law_454 : decode b_J_law 454 = .ok (.iload 5, 2) := by decide +kernel
theorem d_J_law_456 : decode b_J_law 456 = .ok (.if_icmp .eq 5, 3) := by decide +kernel
theorem d_J_law_459 : decode b_J_law 459 = .ok (.iconst 0, 1) := by decide +kernel
theorem d_J_law_460 : decode b_J_law 460 = .ok (.ireturn, 1) := by decide +kernel
theorem d_J_law_461 : decode b_J_law 461 = .ok (.goto 400, 3) := by decide +kernel
theorem d_J_law_464 : decode b_J_law 464 = .ok (.aload_n 1, 1) := by decide +kernel
theorem d_J_law_465 : decode b_J_law 465 = .ok (.aload_n 0, 1) := by decide +kernel
theorem d_J_law_466 : decode b_J_law 466 = .ok (.iload 4, 2) := by decide +kernel
theorem d_J_law_468 : decode b_J_law 468 = .ok (.iconst 1, 1) := by decide +kernel
theorem d_J_law_469 : decode b_J_law 469 = .ok (.iadd, 1) := by decide +kernel
theorem d_J_law_470 : decode b_J_law 470 = .ok (.iaload, 1) := by decide +kernel
theorem d_J_law_471 : decode b_J_law 471 = .ok (.aload_n 3, 1) := by decide +kernel
theorem d_J_law_472 : decode b_J_law 472 = .ok (.invokestatic 79, 3) := by decide +kernel
theorem d_J_law_475 : decode b_J_law 475 = .ok (.istore 5, 2) := by decide +kernel
theorem d_J_law_477 : decode b_J_law 477 = .ok (.aload_n 2, 1) := by decide +kernel
theorem d_J_law_478 : decode b_J_law 478 = .ok (.aload_n 0, 1) := by decide +kernel
theorem d_J_law_479 : decode b_J_law 479 = .ok (.iload 4, 2) := by decide +kernel
theorem d_J_law_481 : decode b_J_law 481 = .ok (.iconst 1, 1) := by decide +kernel
theorem d_J_law_482 : decode b_J_law 482 = .ok (.iadd, 1) := by decide +kernel
theorem d_J_law_483 : decode b_J_law 483 = .ok (.iaload, 1) := by decide +kernel
theorem d_J_law_484 : decode b_J_law 484 = .ok (.invokevirtual 82, 3) := by decide +kernel
theorem d_J_law_487 : decode b_J_law 487 = .ok (.istore 6, 2) := by decide +kernel
theorem d_J_law_489 : decode b_J_law 489 = .ok (.aload_n 2, 1) := by decide +kernel
theorem d_J_law_490 : decode b_J_law 490 = .ok (.invokevirtual 56, 3) := by decide +kernel
theorem d_J_law_493 : decode b_J_law 493 = .ok (.iload 5, 2) := by decide +kernel
theorem d_J_law_495 : decode b_J_law 495 = .ok (.if_icmp .eq 5, 3) := by decide +kernel
theorem d_J_law_498 : decode b_J_law 498 = .ok (.iconst 0, 1) := by decide +kernel
theorem d_J_law_499 : decode b_J_law 499 = .ok (.ireturn, 1) := by decide +kernel
theorem d_J_law_500 : decode b_J_law 500 = .ok (.iload 5, 2) := by decide +kernel
theorem d_J_law_502 : decode b_J_law 502 = .ok (.ifCond .ne 15, 3) := by decide +kernel
theorem d_J_law_505 : decode b_J_law 505 = .ok (.aload_n 3, 1) := by decide +kernel
theorem d_J_law_506 : decode b_J_law 506 = .ok (.iconst 0, 1) := by decide +kernel
theorem d_J_law_507 : decode b_J_law 507 = .ok (.laload, 1) := by decide +kernel
theorem d_J_law_508 : decode b_J_law 508 = .ok (.iload 6, 2) := by decide +kernel
theorem d_J_law_510 : decode b_J_law 510 = .ok (.i2l, 1) := by decide +kernel
theorem d_J_law_511 : decode b_J_law 511 = .ok (.lcmp, 1) := by decide +kernel
theorem d_J_law_512 : decode b_J_law 512 = .ok (.ifCond .eq 5, 3) := by decide +kernel
theorem d_J_law_515 : decode b_J_law 515 = .ok (.iconst 0, 1) := by decide +kernel
theorem d_J_law_516 : decode b_J_law 516 = .ok (.ireturn, 1) := by decide +kernel
theorem d_J_law_517 : decode b_J_law 517 = .ok (.goto 344, 3) := by decide +kernel
theorem d_J_law_520 : decode b_J_law 520 = .ok (.aload_n 1, 1) := by decide +kernel
theorem d_J_law_521 : decode b_J_law 521 = .ok (.aload_n 0, 1) := by decide +kernel
theorem d_J_law_522 : decode b_J_law 522 = .ok (.iload 4, 2) := by decide +kernel
theorem d_J_law_524 : decode b_J_law 524 = .ok (.iconst 1, 1) := by decide +kernel
theorem d_J_law_525 : decode b_J_law 525 = .ok (.iadd, 1) := by decide +kernel
theorem d_J_law_526 : decode b_J_law 526 = .ok (.iaload, 1) := by decide +kernel
theorem d_J_law_527 : decode b_J_law 527 = .ok (.i2l, 1) := by decide +kernel
theorem d_J_law_528 : decode b_J_law 528 = .ok (.bipush 32, 2) := by decide +kernel
theorem d_J_law_530 : decode b_J_law 530 = .ok (.lshl, 1) := by decide +kernel
theorem d_J_law_531 : decode b_J_law 531 = .ok (.aload_n 0, 1) := by decide +kernel
theorem d_J_law_532 : decode b_J_law 532 = .ok (.iload 4, 2) := by decide +kernel
theorem d_J_law_534 : decode b_J_law 534 = .ok (.iconst 2, 1) := by decide +kernel
theorem d_J_law_535 : decode b_J_law 535 = .ok (.iadd, 1) := by decide +kernel
theorem d_J_law_536 : decode b_J_law 536 = .ok (.iaload, 1) := by decide +kernel
theorem d_J_law_537 : decode b_J_law 537 = .ok (.i2l, 1) := by decide +kernel
theorem d_J_law_538 : decode b_J_law 538 = .ok (.ldc2_w 83, 3) := by decide +kernel
theorem d_J_law_541 : decode b_J_law 541 = .ok (.land, 1) := by decide +kernel
theorem d_J_law_542 : decode b_J_law 542 = .ok (.lor, 1) := by decide +kernel
theorem d_J_law_543 : decode b_J_law 543 = .ok (.aload_n 0, 1) := by decide +kernel
theorem d_J_law_544 : decode b_J_law 544 = .ok (.iload 4, 2) := by decide +kernel
theorem d_J_law_546 : decode b_J_law 546 = .ok (.iconst 3, 1) := by decide +kernel
theorem d_J_law_547 : decode b_J_law 547 = .ok (.iadd, 1) := by decide +kernel
theorem d_J_law_548 : decode b_J_law 548 = .ok (.iaload, 1) := by decide +kernel
theorem d_J_law_549 : decode b_J_law 549 = .ok (.invokevirtual 85, 3) := by decide +kernel
theorem d_J_law_552 : decode b_J_law 552 = .ok (.aload_n 2, 1) := by decide +kernel
theorem d_J_law_553 : decode b_J_law 553 = .ok (.aload_n 0, 1) := by decide +kernel
theorem d_J_law_554 : decode b_J_law 554 = .ok (.iload 4, 2) := by decide +kernel
theorem d_J_law_556 : decode b_J_law 556 = .ok (.iconst 1, 1) := by decide +kernel
theorem d_J_law_557 : decode b_J_law 557 = .ok (.iadd, 1) := by decide +kernel
theorem d_J_law_558 : decode b_J_law 558 = .ok (.iaload, 1) := by decide +kernel
theorem d_J_law_559 : decode b_J_law 559 = .ok (.i2l, 1) := by decide +kernel
theorem d_J_law_560 : decode b_J_law 560 = .ok (.bipush 32, 2) := by decide +kernel
theorem d_J_law_562 : decode b_J_law 562 = .ok (.lshl, 1) := by decide +kernel
theorem d_J_law_563 : decode b_J_law 563 = .ok (.aload_n 0, 1) := by decide +kernel
theorem d_J_law_564 : decode b_J_law 564 = .ok (.iload 4, 2) := by decide +kernel
theorem d_J_law_566 : decode b_J_law 566 = .ok (.iconst 2, 1) := by decide +kernel
theorem d_J_law_567 : decode b_J_law 567 = .ok (.iadd, 1) := by decide +kernel
theorem d_J_law_568 : decode b_J_law 568 = .ok (.iaload, 1) := by decide +kernel
theorem d_J_law_569 : decode b_J_law 569 = .ok (.i2l, 1) := by decide +kernel
theorem d_J_law_570 : decode b_J_law 570 = .ok (.ldc2_w 83, 3) := by decide +kernel
theorem d_J_law_573 : decode b_J_law 573 = .ok (.land, 1) := by decide +kernel
theorem d_J_law_574 : decode b_J_law 574 = .ok (.lor, 1) := by decide +kernel
theorem d_J_law_575 : decode b_J_law 575 = .ok (.aload_n 0, 1) := by decide +kernel
theorem d_J_law_576 : decode b_J_law 576 = .ok (.iload 4, 2) := by decide +kernel
theorem d_J_law_578 : decode b_J_law 578 = .ok (.iconst 3, 1) := by decide +kernel
theorem d_J_law_579 : decode b_J_law 579 = .ok (.iadd, 1) := by decide +kernel
theorem d_J_law_580 : decode b_J_law 580 = .ok (.iaload, 1) := by decide +kernel
theorem d_J_law_581 : decode b_J_law 581 = .ok (.invokevirtual 89, 3) := by decide +kernel
theorem d_J_law_584 : decode b_J_law 584 = .ok (.if_icmp .eq 277, 3) := by decide +kernel
theorem d_J_law_587 : decode b_J_law 587 = .ok (.iconst 0, 1) := by decide +kernel
theorem d_J_law_588 : decode b_J_law 588 = .ok (.ireturn, 1) := by decide +kernel
theorem d_J_law_589 : decode b_J_law 589 = .ok (.aload_n 1, 1) := by decide +kernel
theorem d_J_law_590 : decode b_J_law 590 = .ok (.aload_n 0, 1) := by decide +kernel
theorem d_J_law_591 : decode b_J_law 591 = .ok (.iload 4, 2) := by decide +kernel
theorem d_J_law_593 : decode b_J_law 593 = .ok (.iconst 1, 1) := by decide +kernel
theorem d_J_law_594 : decode b_J_law 594 = .ok (.iadd, 1) := by decide +kernel
theorem d_J_law_595 : decode b_J_law 595 = .ok (.iaload, 1) := by decide +kernel
theorem d_J_law_596 : decode b_J_law 596 = .ok (.aload_n 0, 1) := by decide +kernel
theorem d_J_law_597 : decode b_J_law 597 = .ok (.iload 4, 2) := by decide +kernel
theorem d_J_law_599 : decode b_J_law 599 = .ok (.iconst 2, 1) := by decide +kernel
theorem d_J_law_600 : decode b_J_law 600 = .ok (.iadd, 1) := by decide +kernel
theorem d_J_law_601 : decode b_J_law 601 = .ok (.iaload, 1) := by decide +kernel
theorem d_J_law_602 : decode b_J_law 602 = .ok (.aload_n 0, 1) := by decide +kernel
theorem d_J_law_603 : decode b_J_law 603 = .ok (.iload 4, 2) := by decide +kernel
theorem d_J_law_605 : decode b_J_law 605 = .ok (.iconst 3, 1) := by decide +kernel
theorem d_J_law_606 : decode b_J_law 606 = .ok (.iadd, 1) := by decide +kernel
theorem d_J_law_607 : decode b_J_law 607 = .ok (.iaload, 1) := by decide +kernel
theorem d_J_law_608 : decode b_J_law 608 = .ok (.aload_n 0, 1) := by decide +kernel
theorem d_J_law_609 : decode b_J_law 609 = .ok (.iload 4, 2) := by decide +kernel
theorem d_J_law_611 : decode b_J_law 611 = .ok (.iconst 4, 1) := by decide +kernel
theorem d_J_law_612 : decode b_J_law 612 = .ok (.iadd, 1) := by decide +kernel
theorem d_J_law_613 : decode b_J_law 613 = .ok (.iaload, 1) := by decide +kernel
theorem d_J_law_614 : decode b_J_law 614 = .ok (.aload_n 0, 1) := by decide +kernel
theorem d_J_law_615 : decode b_J_law 615 = .ok (.iload 4, 2) := by decide +kernel
theorem d_J_law_617 : decode b_J_law 617 = .ok (.iconst 5, 1) := by decide +kernel
theorem d_J_law_618 : decode b_J_law 618 = .ok (.iadd, 1) := by decide +kernel
theorem d_J_law_619 : decode b_J_law 619 = .ok (.iaload, 1) := by decide +kernel
theorem d_J_law_620 : decode b_J_law 620 = .ok (.aload_n 3, 1) := by decide +kernel
theorem d_J_law_621 : decode b_J_law 621 = .ok (.invokestatic 90, 3) := by decide +kernel
theorem d_J_law_624 : decode b_J_law 624 = .ok (.istore 5, 2) := by decide +kernel
theorem d_J_law_626 : decode b_J_law 626 = .ok (.aload_n 2, 1) := by decide +kernel
theorem d_J_law_627 : decode b_J_law 627 = .ok (.aload_n 0, 1) := by decide +kernel
theorem d_J_law_628 : decode b_J_law 628 = .ok (.iload 4, 2) := by decide +kernel
theorem d_J_law_630 : decode b_J_law 630 = .ok (.iconst 1, 1) := by decide +kernel
theorem d_J_law_631 : decode b_J_law 631 = .ok (.iadd, 1) := by decide +kernel
theorem d_J_law_632 : decode b_J_law 632 = .ok (.iaload, 1) := by decide +kernel
theorem d_J_law_633 : decode b_J_law 633 = .ok (.aload_n 0, 1) := by decide +kernel
theorem d_J_law_634 : decode b_J_law 634 = .ok (.iload 4, 2) := by decide +kernel
theorem d_J_law_636 : decode b_J_law 636 = .ok (.iconst 2, 1) := by decide +kernel
theorem d_J_law_637 : decode b_J_law 637 = .ok (.iadd, 1) := by decide +kernel
theorem d_J_law_638 : decode b_J_law 638 = .ok (.iaload, 1) := by decide +kernel
theorem d_J_law_639 : decode b_J_law 639 = .ok (.aload_n 0, 1) := by decide +kernel
theorem d_J_law_640 : decode b_J_law 640 = .ok (.iload 4, 2) := by decide +kernel
theorem d_J_law_642 : decode b_J_law 642 = .ok (.iconst 3, 1) := by decide +kernel
theorem d_J_law_643 : decode b_J_law 643 = .ok (.iadd, 1) := by decide +kernel
theorem d_J_law_644 : decode b_J_law 644 = .ok (.iaload, 1) := by decide +kernel
theorem d_J_law_645 : decode b_J_law 645 = .ok (.aload_n 0, 1) := by decide +kernel
theorem d_J_law_646 : decode b_J_law 646 = .ok (.iload 4, 2) := by decide +kernel
theorem d_J_law_648 : decode b_J_law 648 = .ok (.iconst 4, 1) := by decide +kernel
theorem d_J_law_649 : decode b_J_law 649 = .ok (.iadd, 1) := by decide +kernel
theorem d_J_law_650 : decode b_J_law 650 = .ok (.iaload, 1) := by decide +kernel
theorem d_J_law_651 : decode b_J_law 651 = .ok (.aload_n 0, 1) := by decide +kernel
theorem d_J_law_652 : decode b_J_law 652 = .ok (.iload 4, 2) := by decide +kernel
theorem d_J_law_654 : decode b_J_law 654 = .ok (.iconst 5, 1) := by decide +kernel
theorem d_J_law_655 : decode b_J_law 655 = .ok (.iadd, 1) := by decide +kernel
theorem d_J_law_656 : decode b_J_law 656 = .ok (.iaload, 1) := by decide +kernel
theorem d_J_law_657 : decode b_J_law 657 = .ok (.invokevirtual 93, 3) := by decide +kernel
theorem d_J_law_660 : decode b_J_law 660 = .ok (.istore 6, 2) := by decide +kernel
theorem d_J_law_662 : decode b_J_law 662 = .ok (.aload_n 2, 1) := by decide +kernel
theorem d_J_law_663 : decode b_J_law 663 = .ok (.invokevirtual 56, 3) := by decide +kernel
theorem d_J_law_666 : decode b_J_law 666 = .ok (.iload 5, 2) := by decide +kernel
theorem d_J_law_668 : decode b_J_law 668 = .ok (.if_icmp .eq 5, 3) := by decide +kernel
theorem d_J_law_671 : decode b_J_law 671 = .ok (.iconst 0, 1) := by decide +kernel
theorem d_J_law_672 : decode b_J_law 672 = .ok (.ireturn, 1) := by decide +kernel
theorem d_J_law_673 : decode b_J_law 673 = .ok (.iload 5, 2) := by decide +kernel
theorem d_J_law_675 : decode b_J_law 675 = .ok (.ifCond .ne 22, 3) := by decide +kernel
theorem d_J_law_678 : decode b_J_law 678 = .ok (.aload_n 3, 1) := by decide +kernel
theorem d_J_law_679 : decode b_J_law 679 = .ok (.iconst 0, 1) := by decide +kernel
theorem d_J_law_680 : decode b_J_law 680 = .ok (.laload, 1) := by decide +kernel
theorem d_J_law_681 : decode b_J_law 681 = .ok (.iload 6, 2) := by decide +kernel
theorem d_J_law_683 : decode b_J_law 683 = .ok (.ifCond .eq 7, 3) := by decide +kernel
theorem d_J_law_686 : decode b_J_law 686 = .ok (.lconst 1, 1) := by decide +kernel
theorem d_J_law_687 : decode b_J_law 687 = .ok (.goto 4, 3) := by decide +kernel
theorem d_J_law_690 : decode b_J_law 690 = .ok (.lconst 0, 1) := by decide +kernel
theorem d_J_law_691 : decode b_J_law 691 = .ok (.lcmp, 1) := by decide +kernel
theorem d_J_law_692 : decode b_J_law 692 = .ok (.ifCond .eq 5, 3) := by decide +kernel
theorem d_J_law_695 : decode b_J_law 695 = .ok (.iconst 0, 1) := by decide +kernel
theorem d_J_law_696 : decode b_J_law 696 = .ok (.ireturn, 1) := by decide +kernel
theorem d_J_law_697 : decode b_J_law 697 = .ok (.goto 164, 3) := by decide +kernel
theorem d_J_law_700 : decode b_J_law 700 = .ok (.aload_n 1, 1) := by decide +kernel
theorem d_J_law_701 : decode b_J_law 701 = .ok (.aload_n 0, 1) := by decide +kernel
theorem d_J_law_702 : decode b_J_law 702 = .ok (.iload 4, 2) := by decide +kernel
theorem d_J_law_704 : decode b_J_law 704 = .ok (.iconst 1, 1) := by decide +kernel
theorem d_J_law_705 : decode b_J_law 705 = .ok (.iadd, 1) := by decide +kernel
theorem d_J_law_706 : decode b_J_law 706 = .ok (.iaload, 1) := by decide +kernel
theorem d_J_law_707 : decode b_J_law 707 = .ok (.aload_n 0, 1) := by decide +kernel
theorem d_J_law_708 : decode b_J_law 708 = .ok (.iload 4, 2) := by decide +kernel
theorem d_J_law_710 : decode b_J_law 710 = .ok (.iconst 2, 1) := by decide +kernel
theorem d_J_law_711 : decode b_J_law 711 = .ok (.iadd, 1) := by decide +kernel
theorem d_J_law_712 : decode b_J_law 712 = .ok (.iaload, 1) := by decide +kernel
theorem d_J_law_713 : decode b_J_law 713 = .ok (.invokevirtual 94, 3) := by decide +kernel
theorem d_J_law_716 : decode b_J_law 716 = .ok (.aload_n 2, 1) := by decide +kernel
theorem d_J_law_717 : decode b_J_law 717 = .ok (.aload_n 0, 1) := by decide +kernel
theorem d_J_law_718 : decode b_J_law 718 = .ok (.iload 4, 2) := by decide +kernel
theorem d_J_law_720 : decode b_J_law 720 = .ok (.iconst 1, 1) := by decide +kernel
theorem d_J_law_721 : decode b_J_law 721 = .ok (.iadd, 1) := by decide +kernel
theorem d_J_law_722 : decode b_J_law 722 = .ok (.iaload, 1) := by decide +kernel
theorem d_J_law_723 : decode b_J_law 723 = .ok (.aload_n 0, 1) := by decide +kernel
theorem d_J_law_724 : decode b_J_law 724 = .ok (.iload 4, 2) := by decide +kernel
theorem d_J_law_726 : decode b_J_law 726 = .ok (.iconst 2, 1) := by decide +kernel
theorem d_J_law_727 : decode b_J_law 727 = .ok (.iadd, 1) := by decide +kernel
theorem d_J_law_728 : decode b_J_law 728 = .ok (.iaload, 1) := by decide +kernel
theorem d_J_law_729 : decode b_J_law 729 = .ok (.invokevirtual 98, 3) := by decide +kernel
theorem d_J_law_732 : decode b_J_law 732 = .ok (.if_icmp .eq 129, 3) := by decide +kernel
theorem d_J_law_735 : decode b_J_law 735 = .ok (.iconst 0, 1) := by decide +kernel
theorem d_J_law_736 : decode b_J_law 736 = .ok (.ireturn, 1) := by decide +kernel
theorem d_J_law_737 : decode b_J_law 737 = .ok (.aload_n 1, 1) := by decide +kernel
theorem d_J_law_738 : decode b_J_law 738 = .ok (.aload_n 0, 1) := by decide +kernel
theorem d_J_law_739 : decode b_J_law 739 = .ok (.iload 4, 2) := by decide +kernel
theorem d_J_law_741 : decode b_J_law 741 = .ok (.iconst 1, 1) := by decide +kernel
theorem d_J_law_742 : decode b_J_law 742 = .ok (.iadd, 1) := by decide +kernel
theorem d_J_law_743 : decode b_J_law 743 = .ok (.iaload, 1) := by decide +kernel
theorem d_J_law_744 : decode b_J_law 744 = .ok (.aload_n 0, 1) := by decide +kernel
theorem d_J_law_745 : decode b_J_law 745 = .ok (.iload 4, 2) := by decide +kernel
theorem d_J_law_747 : decode b_J_law 747 = .ok (.iconst 2, 1) := by decide +kernel
theorem d_J_law_748 : decode b_J_law 748 = .ok (.iadd, 1) := by decide +kernel
theorem d_J_law_749 : decode b_J_law 749 = .ok (.iaload, 1) := by decide +kernel
theorem d_J_law_750 : decode b_J_law 750 = .ok (.aload_n 0, 1) := by decide +kernel
theorem d_J_law_751 : decode b_J_law 751 = .ok (.iload 4, 2) := by decide +kernel
theorem d_J_law_753 : decode b_J_law 753 = .ok (.iconst 3, 1) := by decide +kernel
theorem d_J_law_754 : decode b_J_law 754 = .ok (.iadd, 1) := by decide +kernel
theorem d_J_law_755 : decode b_J_law 755 = .ok (.iaload, 1) := by decide +kernel
theorem d_J_law_756 : decode b_J_law 756 = .ok (.invokevirtual 99, 3) := by decide +kernel
theorem d_J_law_759 : decode b_J_law 759 = .ok (.aload_n 2, 1) := by decide +kernel
theorem d_J_law_760 : decode b_J_law 760 = .ok (.aload_n 0, 1) := by decide +kernel
theorem d_J_law_761 : decode b_J_law 761 = .ok (.iload 4, 2) := by decide +kernel
theorem d_J_law_763 : decode b_J_law 763 = .ok (.iconst 1, 1) := by decide +kernel
theorem d_J_law_764 : decode b_J_law 764 = .ok (.iadd, 1) := by decide +kernel
theorem d_J_law_765 : decode b_J_law 765 = .ok (.iaload, 1) := by decide +kernel
theorem d_J_law_766 : decode b_J_law 766 = .ok (.aload_n 0, 1) := by decide +kernel
theorem d_J_law_767 : decode b_J_law 767 = .ok (.iload 4, 2) := by decide +kernel
theorem d_J_law_769 : decode b_J_law 769 = .ok (.iconst 2, 1) := by decide +kernel
theorem d_J_law_770 : decode b_J_law 770 = .ok (.iadd, 1) := by decide +kernel
theorem d_J_law_771 : decode b_J_law 771 = .ok (.iaload, 1) := by decide +kernel
theorem d_J_law_772 : decode b_J_law 772 = .ok (.aload_n 0, 1) := by decide +kernel
theorem d_J_law_773 : decode b_J_law 773 = .ok (.iload 4, 2) := by decide +kernel
theorem d_J_law_775 : decode b_J_law 775 = .ok (.iconst 3, 1) := by decide +kernel
theorem d_J_law_776 : decode b_J_law 776 = .ok (.iadd, 1) := by decide +kernel
theorem d_J_law_777 : decode b_J_law 777 = .ok (.iaload, 1) := by decide +kernel
theorem d_J_law_778 : decode b_J_law 778 = .ok (.invokevirtual 103, 3) := by decide +kernel
theorem d_J_law_781 : decode b_J_law 781 = .ok (.if_icmp .eq 80, 3) := by decide +kernel
theorem d_J_law_784 : decode b_J_law 784 = .ok (.iconst 0, 1) := by decide +kernel
theorem d_J_law_785 : decode b_J_law 785 = .ok (.ireturn, 1) := by decide +kernel
theorem d_J_law_786 : decode b_J_law 786 = .ok (.aload_n 1, 1) := by decide +kernel
theorem d_J_law_787 : decode b_J_law 787 = .ok (.aload_n 0, 1) := by decide +kernel
theorem d_J_law_788 : decode b_J_law 788 = .ok (.iload 4, 2) := by decide +kernel
theorem d_J_law_790 : decode b_J_law 790 = .ok (.iconst 1, 1) := by decide +kernel
theorem d_J_law_791 : decode b_J_law 791 = .ok (.iadd, 1) := by decide +kernel
theorem d_J_law_792 : decode b_J_law 792 = .ok (.iaload, 1) := by decide +kernel
theorem d_J_law_793 : decode b_J_law 793 = .ok (.invokevirtual 104, 3) := by decide +kernel
theorem d_J_law_796 : decode b_J_law 796 = .ok (.aload_n 2, 1) := by decide +kernel
theorem d_J_law_797 : decode b_J_law 797 = .ok (.aload_n 0, 1) := by decide +kernel
theorem d_J_law_798 : decode b_J_law 798 = .ok (.iload 4, 2) := by decide +kernel
theorem d_J_law_800 : decode b_J_law 800 = .ok (.iconst 1, 1) := by decide +kernel
theorem d_J_law_801 : decode b_J_law 801 = .ok (.iadd, 1) := by decide +kernel
theorem d_J_law_802 : decode b_J_law 802 = .ok (.iaload, 1) := by decide +kernel
theorem d_J_law_803 : decode b_J_law 803 = .ok (.invokevirtual 107, 3) := by decide +kernel
theorem d_J_law_806 : decode b_J_law 806 = .ok (.if_icmp .eq 55, 3) := by decide +kernel
theorem d_J_law_809 : decode b_J_law 809 = .ok (.iconst 0, 1) := by decide +kernel
theorem d_J_law_810 : decode b_J_law 810 = .ok (.ireturn, 1) := by decide +kernel
theorem d_J_law_811 : decode b_J_law 811 = .ok (.aload_n 1, 1) := by decide +kernel
theorem d_J_law_812 : decode b_J_law 812 = .ok (.invokevirtual 108, 3) := by decide +kernel
theorem d_J_law_815 : decode b_J_law 815 = .ok (.aload_n 2, 1) := by decide +kernel
theorem d_J_law_816 : decode b_J_law 816 = .ok (.invokevirtual 111, 3) := by decide +kernel
theorem d_J_law_819 : decode b_J_law 819 = .ok (.if_icmp .eq 42, 3) := by decide +kernel
theorem d_J_law_822 : decode b_J_law 822 = .ok (.iconst 0, 1) := by decide +kernel
theorem d_J_law_823 : decode b_J_law 823 = .ok (.ireturn, 1) := by decide +kernel
theorem d_J_law_824 : decode b_J_law 824 = .ok (.aload_n 1, 1) := by decide +kernel
theorem d_J_law_825 : decode b_J_law 825 = .ok (.aload_n 0, 1) := by decide +kernel
theorem d_J_law_826 : decode b_J_law 826 = .ok (.iload 4, 2) := by decide +kernel
theorem d_J_law_828 : decode b_J_law 828 = .ok (.iconst 1, 1) := by decide +kernel
theorem d_J_law_829 : decode b_J_law 829 = .ok (.iadd, 1) := by decide +kernel
theorem d_J_law_830 : decode b_J_law 830 = .ok (.iaload, 1) := by decide +kernel
theorem d_J_law_831 : decode b_J_law 831 = .ok (.aload_n 0, 1) := by decide +kernel
theorem d_J_law_832 : decode b_J_law 832 = .ok (.iload 4, 2) := by decide +kernel
theorem d_J_law_834 : decode b_J_law 834 = .ok (.iconst 2, 1) := by decide +kernel
theorem d_J_law_835 : decode b_J_law 835 = .ok (.iadd, 1) := by decide +kernel
theorem d_J_law_836 : decode b_J_law 836 = .ok (.iaload, 1) := by decide +kernel
theorem d_J_law_837 : decode b_J_law 837 = .ok (.invokevirtual 112, 3) := by decide +kernel
theorem d_J_law_840 : decode b_J_law 840 = .ok (.aload_n 2, 1) := by decide +kernel
theorem d_J_law_841 : decode b_J_law 841 = .ok (.aload_n 0, 1) := by decide +kernel
theorem d_J_law_842 : decode b_J_law 842 = .ok (.iload 4, 2) := by decide +kernel
theorem d_J_law_844 : decode b_J_law 844 = .ok (.iconst 1, 1) := by decide +kernel
theorem d_J_law_845 : decode b_J_law 845 = .ok (.iadd, 1) := by decide +kernel
theorem d_J_law_846 : decode b_J_law 846 = .ok (.iaload, 1) := by decide +kernel
theorem d_J_law_847 : decode b_J_law 847 = .ok (.aload_n 0, 1) := by decide +kernel
theorem d_J_law_848 : decode b_J_law 848 = .ok (.iload 4, 2) := by decide +kernel
theorem d_J_law_850 : decode b_J_law 850 = .ok (.iconst 2, 1) := by decide +kernel
theorem d_J_law_851 : decode b_J_law 851 = .ok (.iadd, 1) := by decide +kernel
theorem d_J_law_852 : decode b_J_law 852 = .ok (.iaload, 1) := by decide +kernel
theorem d_J_law_853 : decode b_J_law 853 = .ok (.invokevirtual 115, 3) := by decide +kernel
theorem d_J_law_856 : decode b_J_law 856 = .ok (.if_icmp .eq 5, 3) := by decide +kernel
theorem d_J_law_859 : decode b_J_law 859 = .ok (.iconst 0, 1) := by decide +kernel
theorem d_J_law_860 : decode b_J_law 860 = .ok (.ireturn, 1) := by decide +kernel
theorem d_J_law_861 : decode b_J_law 861 = .ok (.iinc 4 6, 3) := by decide +kernel
theorem d_J_law_864 : decode b_J_law 864 = .ok (.goto (-841), 3) := by decide +kernel
theorem d_J_law_867 : decode b_J_law 867 = .ok (.iconst 1, 1) := by decide +kernel
theorem d_J_law_868 : decode b_J_law 868 = .ok (.ireturn, 1) := by decide +kernel
