/-! the law: its rows -/
theorem d_J_law_0 : decode b_J_law 0 = .ok (.new 8, 3) := by decide +kernel
theorem d_J_law_3 : decode b_J_law 3 = .ok (.dup, 1) := by decide +kernel
theorem d_J_law_4 : decode b_J_law 4 = .ok (.invokespecial 46, 3) := by decide +kernel
theorem d_J_law_7 : decode b_J_law 7 = .ok (.astore_n 1, 1) := by decide +kernel
theorem d_J_law_8 : decode b_J_law 8 = .ok (.new 47, 3) := by decide +kernel
theorem d_J_law_11 : decode b_J_law 11 = .ok (.dup, 1) := by decide +kernel
theorem d_J_law_12 : decode b_J_law 12 = .ok (.invokespecial 49, 3) := by decide +kernel
theorem d_J_law_15 : decode b_J_law 15 = .ok (.astore_n 2, 1) := by decide +kernel
theorem d_J_law_16 : decode b_J_law 16 = .ok (.iconst 1, 1) := by decide +kernel
theorem d_J_law_17 : decode b_J_law 17 = .ok (.newarray .long, 2) := by decide +kernel
theorem d_J_law_19 : decode b_J_law 19 = .ok (.astore_n 3, 1) := by decide +kernel
theorem d_J_law_20 : decode b_J_law 20 = .ok (.iconst 0, 1) := by decide +kernel
theorem d_J_law_21 : decode b_J_law 21 = .ok (.istore 4, 2) := by decide +kernel
theorem d_J_law_23 : decode b_J_law 23 = .ok (.iload 4, 2) := by decide +kernel
theorem d_J_law_25 : decode b_J_law 25 = .ok (.aload_n 0, 1) := by decide +kernel
theorem d_J_law_26 : decode b_J_law 26 = .ok (.arraylength, 1) := by decide +kernel
theorem d_J_law_27 : decode b_J_law 27 = .ok (.bipush 6, 2) := by decide +kernel
theorem d_J_law_29 : decode b_J_law 29 = .ok (.isub, 1) := by decide +kernel
theorem d_J_law_30 : decode b_J_law 30 = .ok (.if_icmp .gt 708, 3) := by decide +kernel
theorem d_J_law_33 : decode b_J_law 33 = .ok (.aload_n 0, 1) := by decide +kernel
theorem d_J_law_34 : decode b_J_law 34 = .ok (.iload 4, 2) := by decide +kernel
theorem d_J_law_36 : decode b_J_law 36 = .ok (.iaload, 1) := by decide +kernel
theorem d_J_law_37 : decode b_J_law 37 = .ok (.bipush 15, 2) := by decide +kernel
theorem d_J_law_39 : decode b_J_law 39 = .ok (.iand, 1) := by decide +kernel
theorem d_J_law_40 : decode b_J_law 40 = .ok (.tableswitch 692 0 13 #[72, 121, 146, 199, 272, 333, 358, 386, 455, 531, 568, 617, 642, 655], 72) := by decide +kernel
theorem d_J_law_112 : decode b_J_law 112 = .ok (.aload_n 1, 1) := by decide +kernel
theorem d_J_law_113 : decode b_J_law 113 = .ok (.aload_n 0, 1) := by decide +kernel
theorem d_J_law_114 : decode b_J_law 114 = .ok (.iload 4, 2) := by decide +kernel
theorem d_J_law_116 : decode b_J_law 116 = .ok (.iconst 1, 1) := by decide +kernel
theorem d_J_law_117 : decode b_J_law 117 = .ok (.iadd, 1) := by decide +kernel
theorem d_J_law_118 : decode b_J_law 118 = .ok (.iaload, 1) := by decide +kernel
theorem d_J_law_119 : decode b_J_law 119 = .ok (.aload_n 0, 1) := by decide +kernel
theorem d_J_law_120 : decode b_J_law 120 = .ok (.iload 4, 2) := by decide +kernel
theorem d_J_law_122 : decode b_J_law 122 = .ok (.iconst 2, 1) := by decide +kernel
theorem d_J_law_123 : decode b_J_law 123 = .ok (.iadd, 1) := by decide +kernel
theorem d_J_law_124 : decode b_J_law 124 = .ok (.iaload, 1) := by decide +kernel
theorem d_J_law_125 : decode b_J_law 125 = .ok (.aload_n 0, 1) := by decide +kernel
theorem d_J_law_126 : decode b_J_law 126 = .ok (.iload 4, 2) := by decide +kernel
theorem d_J_law_128 : decode b_J_law 128 = .ok (.iconst 3, 1) := by decide +kernel
theorem d_J_law_129 : decode b_J_law 129 = .ok (.iadd, 1) := by decide +kernel
theorem d_J_law_130 : decode b_J_law 130 = .ok (.iaload, 1) := by decide +kernel
theorem d_J_law_131 : decode b_J_law 131 = .ok (.invokestatic 50, 3) := by decide +kernel
theorem d_J_law_134 : decode b_J_law 134 = .ok (.istore 5, 2) := by decide +kernel
theorem d_J_law_136 : decode b_J_law 136 = .ok (.aload_n 2, 1) := by decide +kernel
theorem d_J_law_137 : decode b_J_law 137 = .ok (.aload_n 0, 1) := by decide +kernel
theorem d_J_law_138 : decode b_J_law 138 = .ok (.iload 4, 2) := by decide +kernel
theorem d_J_law_140 : decode b_J_law 140 = .ok (.iconst 1, 1) := by decide +kernel
theorem d_J_law_141 : decode b_J_law 141 = .ok (.iadd, 1) := by decide +kernel
theorem d_J_law_142 : decode b_J_law 142 = .ok (.iaload, 1) := by decide +kernel
theorem d_J_law_143 : decode b_J_law 143 = .ok (.aload_n 0, 1) := by decide +kernel
theorem d_J_law_144 : decode b_J_law 144 = .ok (.iload 4, 2) := by decide +kernel
theorem d_J_law_146 : decode b_J_law 146 = .ok (.iconst 2, 1) := by decide +kernel
theorem d_J_law_147 : decode b_J_law 147 = .ok (.iadd, 1) := by decide +kernel
theorem d_J_law_148 : decode b_J_law 148 = .ok (.iaload, 1) := by decide +kernel
theorem d_J_law_149 : decode b_J_law 149 = .ok (.aload_n 0, 1) := by decide +kernel
theorem d_J_law_150 : decode b_J_law 150 = .ok (.iload 4, 2) := by decide +kernel
theorem d_J_law_152 : decode b_J_law 152 = .ok (.iconst 3, 1) := by decide +kernel
theorem d_J_law_153 : decode b_J_law 153 = .ok (.iadd, 1) := by decide +kernel
theorem d_J_law_154 : decode b_J_law 154 = .ok (.iaload, 1) := by decide +kernel
theorem d_J_law_155 : decode b_J_law 155 = .ok (.invokevirtual 55, 3) := by decide +kernel
theorem d_J_law_158 : decode b_J_law 158 = .ok (.goto 574, 3) := by decide +kernel
theorem d_J_law_161 : decode b_J_law 161 = .ok (.aload_n 1, 1) := by decide +kernel
theorem d_J_law_162 : decode b_J_law 162 = .ok (.aload_n 0, 1) := by decide +kernel
theorem d_J_law_163 : decode b_J_law 163 = .ok (.iload 4, 2) := by decide +kernel
theorem d_J_law_165 : decode b_J_law 165 = .ok (.iconst 1, 1) := by decide +kernel
theorem d_J_law_166 : decode b_J_law 166 = .ok (.iadd, 1) := by decide +kernel
theorem d_J_law_167 : decode b_J_law 167 = .ok (.iaload, 1) := by decide +kernel
theorem d_J_law_168 : decode b_J_law 168 = .ok (.invokestatic 56, 3) := by decide +kernel
theorem d_J_law_171 : decode b_J_law 171 = .ok (.istore 5, 2) := by decide +kernel
theorem d_J_law_173 : decode b_J_law 173 = .ok (.aload_n 2, 1) := by decide +kernel
theorem d_J_law_174 : decode b_J_law 174 = .ok (.aload_n 0, 1) := by decide +kernel
theorem d_J_law_175 : decode b_J_law 175 = .ok (.iload 4, 2) := by decide +kernel
theorem d_J_law_177 : decode b_J_law 177 = .ok (.iconst 1, 1) := by decide +kernel
theorem d_J_law_178 : decode b_J_law 178 = .ok (.iadd, 1) := by decide +kernel
theorem d_J_law_179 : decode b_J_law 179 = .ok (.iaload, 1) := by decide +kernel
theorem d_J_law_180 : decode b_J_law 180 = .ok (.invokevirtual 59, 3) := by decide +kernel
theorem d_J_law_183 : decode b_J_law 183 = .ok (.goto 549, 3) := by decide +kernel
theorem d_J_law_186 : decode b_J_law 186 = .ok (.aload_n 1, 1) := by decide +kernel
theorem d_J_law_187 : decode b_J_law 187 = .ok (.aload_n 0, 1) := by decide +kernel
theorem d_J_law_188 : decode b_J_law 188 = .ok (.iload 4, 2) := by decide +kernel
theorem d_J_law_190 : decode b_J_law 190 = .ok (.iconst 1, 1) := by decide +kernel
theorem d_J_law_191 : decode b_J_law 191 = .ok (.iadd, 1) := by decide +kernel
theorem d_J_law_192 : decode b_J_law 192 = .ok (.iaload, 1) := by decide +kernel
theorem d_J_law_193 : decode b_J_law 193 = .ok (.aload_n 0, 1) := by decide +kernel
theorem d_J_law_194 : decode b_J_law 194 = .ok (.iload 4, 2) := by decide +kernel
theorem d_J_law_196 : decode b_J_law 196 = .ok (.iconst 2, 1) := by decide +kernel
theorem d_J_law_197 : decode b_J_law 197 = .ok (.iadd, 1) := by decide +kernel
theorem d_J_law_198 : decode b_J_law 198 = .ok (.iaload, 1) := by decide +kernel
theorem d_J_law_199 : decode b_J_law 199 = .ok (.ifCond .eq 7, 3) := by decide +kernel
theorem d_J_law_202 : decode b_J_law 202 = .ok (.iconst 1, 1) := by decide +kernel
theorem d_J_law_203 : decode b_J_law 203 = .ok (.goto 4, 3) := by decide +kernel
theorem d_J_law_206 : decode b_J_law 206 = .ok (.iconst 0, 1) := by decide +kernel
theorem d_J_law_207 : decode b_J_law 207 = .ok (.invokestatic 60, 3) := by decide +kernel
theorem d_J_law_210 : decode b_J_law 210 = .ok (.istore 5, 2) := by decide +kernel
theorem d_J_law_212 : decode b_J_law 212 = .ok (.aload_n 2, 1) := by decide +kernel
theorem d_J_law_213 : decode b_J_law 213 = .ok (.aload_n 0, 1) := by decide +kernel
theorem d_J_law_214 : decode b_J_law 214 = .ok (.iload 4, 2) := by decide +kernel
theorem d_J_law_216 : decode b_J_law 216 = .ok (.iconst 1, 1) := by decide +kernel
theorem d_J_law_217 : decode b_J_law 217 = .ok (.iadd, 1) := by decide +kernel
theorem d_J_law_218 : decode b_J_law 218 = .ok (.iaload, 1) := by decide +kernel
theorem d_J_law_219 : decode b_J_law 219 = .ok (.aload_n 0, 1) := by decide +kernel
theorem d_J_law_220 : decode b_J_law 220 = .ok (.iload 4, 2) := by decide +kernel
theorem d_J_law_222 : decode b_J_law 222 = .ok (.iconst 2, 1) := by decide +kernel
theorem d_J_law_223 : decode b_J_law 223 = .ok (.iadd, 1) := by decide +kernel
theorem d_J_law_224 : decode b_J_law 224 = .ok (.iaload, 1) := by decide +kernel
theorem d_J_law_225 : decode b_J_law 225 = .ok (.ifCond .eq 7, 3) := by decide +kernel
theorem d_J_law_228 : decode b_J_law 228 = .ok (.iconst 1, 1) := by decide +kernel
theorem d_J_law_229 : decode b_J_law 229 = .ok (.goto 4, 3) := by decide +kernel
theorem d_J_law_232 : decode b_J_law 232 = .ok (.iconst 0, 1) := by decide +kernel
theorem d_J_law_233 : decode b_J_law 233 = .ok (.invokevirtual 63, 3) := by decide +kernel
theorem d_J_law_236 : decode b_J_law 236 = .ok (.goto 496, 3) := by decide +kernel
theorem d_J_law_239 : decode b_J_law 239 = .ok (.aload_n 1, 1) := by decide +kernel
theorem d_J_law_240 : decode b_J_law 240 = .ok (.aload_n 0, 1) := by decide +kernel
theorem d_J_law_241 : decode b_J_law 241 = .ok (.iload 4, 2) := by decide +kernel
theorem d_J_law_243 : decode b_J_law 243 = .ok (.iconst 1, 1) := by decide +kernel
theorem d_J_law_244 : decode b_J_law 244 = .ok (.iadd, 1) := by decide +kernel
theorem d_J_law_245 : decode b_J_law 245 = .ok (.iaload, 1) := by decide +kernel
theorem d_J_law_246 : decode b_J_law 246 = .ok (.aload_n 0, 1) := by decide +kernel
theorem d_J_law_247 : decode b_J_law 247 = .ok (.iload 4, 2) := by decide +kernel
theorem d_J_law_249 : decode b_J_law 249 = .ok (.iconst 2, 1) := by decide +kernel
theorem d_J_law_250 : decode b_J_law 250 = .ok (.iadd, 1) := by decide +kernel
theorem d_J_law_251 : decode b_J_law 251 = .ok (.iaload, 1) := by decide +kernel
theorem d_J_law_252 : decode b_J_law 252 = .ok (.aload_n 0, 1) := by decide +kernel
theorem d_J_law_253 : decode b_J_law 253 = .ok (.iload 4, 2) := by decide +kernel
theorem d_J_law_255 : decode b_J_law 255 = .ok (.iconst 3, 1) := by decide +kernel
theorem d_J_law_256 : decode b_J_law 256 = .ok (.iadd, 1) := by decide +kernel
theorem d_J_law_257 : decode b_J_law 257 = .ok (.iaload, 1) := by decide +kernel
theorem d_J_law_258 : decode b_J_law 258 = .ok (.aload_n 0, 1) := by decide +kernel
theorem d_J_law_259 : decode b_J_law 259 = .ok (.iload 4, 2) := by decide +kernel
theorem d_J_law_261 : decode b_J_law 261 = .ok (.iconst 4, 1) := by decide +kernel
theorem d_J_law_262 : decode b_J_law 262 = .ok (.iadd, 1) := by decide +kernel
theorem d_J_law_263 : decode b_J_law 263 = .ok (.iaload, 1) := by decide +kernel
theorem d_J_law_264 : decode b_J_law 264 = .ok (.aload_n 0, 1) := by decide +kernel
theorem d_J_law_265 : decode b_J_law 265 = .ok (.iload 4, 2) := by decide +kernel
theorem d_J_law_267 : decode b_J_law 267 = .ok (.iconst 5, 1) := by decide +kernel
theorem d_J_law_268 : decode b_J_law 268 = .ok (.iadd, 1) := by decide +kernel
theorem d_J_law_269 : decode b_J_law 269 = .ok (.iaload, 1) := by decide +kernel
theorem d_J_law_270 : decode b_J_law 270 = .ok (.invokestatic 64, 3) := by decide +kernel
theorem d_J_law_273 : decode b_J_law 273 = .ok (.istore 5, 2) := by decide +kernel
theorem d_J_law_275 : decode b_J_law 275 = .ok (.aload_n 2, 1) := by decide +kernel
theorem d_J_law_276 : decode b_J_law 276 = .ok (.aload_n 0, 1) := by decide +kernel
theorem d_J_law_277 : decode b_J_law 277 = .ok (.iload 4, 2) := by decide +kernel
theorem d_J_law_279 : decode b_J_law 279 = .ok (.iconst 1, 1) := by decide +kernel
theorem d_J_law_280 : decode b_J_law 280 = .ok (.iadd, 1) := by decide +kernel
theorem d_J_law_281 : decode b_J_law 281 = .ok (.iaload, 1) := by decide +kernel
theorem d_J_law_282 : decode b_J_law 282 = .ok (.aload_n 0, 1) := by decide +kernel
theorem d_J_law_283 : decode b_J_law 283 = .ok (.iload 4, 2) := by decide +kernel
theorem d_J_law_285 : decode b_J_law 285 = .ok (.iconst 2, 1) := by decide +kernel
theorem d_J_law_286 : decode b_J_law 286 = .ok (.iadd, 1) := by decide +kernel
theorem d_J_law_287 : decode b_J_law 287 = .ok (.iaload, 1) := by decide +kernel
theorem d_J_law_288 : decode b_J_law 288 = .ok (.aload_n 0, 1) := by decide +kernel
theorem d_J_law_289 : decode b_J_law 289 = .ok (.iload 4, 2) := by decide +kernel
theorem d_J_law_291 : decode b_J_law 291 = .ok (.iconst 3, 1) := by decide +kernel
theorem d_J_law_292 : decode b_J_law 292 = .ok (.iadd, 1) := by decide +kernel
theorem d_J_law_293 : decode b_J_law 293 = .ok (.iaload, 1) := by decide +kernel
theorem d_J_law_294 : decode b_J_law 294 = .ok (.aload_n 0, 1) := by decide +kernel
theorem d_J_law_295 : decode b_J_law 295 = .ok (.iload 4, 2) := by decide +kernel
theorem d_J_law_297 : decode b_J_law 297 = .ok (.iconst 4, 1) := by decide +kernel
theorem d_J_law_298 : decode b_J_law 298 = .ok (.iadd, 1) := by decide +kernel
theorem d_J_law_299 : decode b_J_law 299 = .ok (.iaload, 1) := by decide +kernel
theorem d_J_law_300 : decode b_J_law 300 = .ok (.aload_n 0, 1) := by decide +kernel
theorem d_J_law_301 : decode b_J_law 301 = .ok (.iload 4, 2) := by decide +kernel
theorem d_J_law_303 : decode b_J_law 303 = .ok (.iconst 5, 1) := by decide +kernel
theorem d_J_law_304 : decode b_J_law 304 = .ok (.iadd, 1) := by decide +kernel
theorem d_J_law_305 : decode b_J_law 305 = .ok (.iaload, 1) := by decide +kernel
theorem d_J_law_306 : decode b_J_law 306 = .ok (.invokevirtual 67, 3) := by decide +kernel
theorem d_J_law_309 : decode b_J_law 309 = .ok (.goto 423, 3) := by decide +kernel
theorem d_J_law_312 : decode b_J_law 312 = .ok (.aload_n 1, 1) := by decide +kernel
theorem d_J_law_313 : decode b_J_law 313 = .ok (.aload_n 0, 1) := by decide +kernel
theorem d_J_law_314 : decode b_J_law 314 = .ok (.iload 4, 2) := by decide +kernel
theorem d_J_law_316 : decode b_J_law 316 = .ok (.iconst 1, 1) := by decide +kernel
theorem d_J_law_317 : decode b_J_law 317 = .ok (.iadd, 1) := by decide +kernel
theorem d_J_law_318 : decode b_J_law 318 = .ok (.iaload, 1) := by decide +kernel
theorem d_J_law_319 : decode b_J_law 319 = .ok (.aload_n 0, 1) := by decide +kernel
theorem d_J_law_320 : decode b_J_law 320 = .ok (.iload 4, 2) := by decide +kernel
theorem d_J_law_322 : decode b_J_law 322 = .ok (.iconst 2, 1) := by decide +kernel
theorem d_J_law_323 : decode b_J_law 323 = .ok (.iadd, 1) := by decide +kernel
theorem d_J_law_324 : decode b_J_law 324 = .ok (.iaload, 1) := by decide +kernel
theorem d_J_law_325 : decode b_J_law 325 = .ok (.aload_n 0, 1) := by decide +kernel
theorem d_J_law_326 : decode b_J_law 326 = .ok (.iload 4, 2) := by decide +kernel
theorem d_J_law_328 : decode b_J_law 328 = .ok (.iconst 3, 1) := by decide +kernel
theorem d_J_law_329 : decode b_J_law 329 = .ok (.iadd, 1) := by decide +kernel
theorem d_J_law_330 : decode b_J_law 330 = .ok (.iaload, 1) := by decide +kernel
theorem d_J_law_331 : decode b_J_law 331 = .ok (.aload_n 0, 1) := by decide +kernel
theorem d_J_law_332 : decode b_J_law 332 = .ok (.iload 4, 2) := by decide +kernel
theorem d_J_law_334 : decode b_J_law 334 = .ok (.iconst 4, 1) := by decide +kernel
theorem d_J_law_335 : decode b_J_law 335 = .ok (.iadd, 1) := by decide +kernel
theorem d_J_law_336 : decode b_J_law 336 = .ok (.iaload, 1) := by decide +kernel
theorem d_J_law_337 : decode b_J_law 337 = .ok (.invokestatic 68, 3) := by decide +kernel
theorem d_J_law_340 : decode b_J_law 340 = .ok (.istore 5, 2) := by decide +kernel
theorem d_J_law_342 : decode b_J_law 342 = .ok (.aload_n 2, 1) := by decide +kernel
theorem d_J_law_343 : decode b_J_law 343 = .ok (.aload_n 0, 1) := by decide +kernel
theorem d_J_law_344 : decode b_J_law 344 = .ok (.iload 4, 2) := by decide +kernel
theorem d_J_law_346 : decode b_J_law 346 = .ok (.iconst 1, 1) := by decide +kernel
theorem d_J_law_347 : decode b_J_law 347 = .ok (.iadd, 1) := by decide +kernel
theorem d_J_law_348 : decode b_J_law 348 = .ok (.iaload, 1) := by decide +kernel
theorem d_J_law_349 : decode b_J_law 349 = .ok (.aload_n 0, 1) := by decide +kernel
theorem d_J_law_350 : decode b_J_law 350 = .ok (.iload 4, 2) := by decide +kernel
theorem d_J_law_352 : decode b_J_law 352 = .ok (.iconst 2, 1) := by decide +kernel
theorem d_J_law_353 : decode b_J_law 353 = .ok (.iadd, 1) := by decide +kernel
theorem d_J_law_354 : decode b_J_law 354 = .ok (.iaload, 1) := by decide +kernel
theorem d_J_law_355 : decode b_J_law 355 = .ok (.aload_n 0, 1) := by decide +kernel
theorem d_J_law_356 : decode b_J_law 356 = .ok (.iload 4, 2) := by decide +kernel
theorem d_J_law_358 : decode b_J_law 358 = .ok (.iconst 3, 1) := by decide +kernel
theorem d_J_law_359 : decode b_J_law 359 = .ok (.iadd, 1) := by decide +kernel
theorem d_J_law_360 : decode b_J_law 360 = .ok (.iaload, 1) := by decide +kernel
theorem d_J_law_361 : decode b_J_law 361 = .ok (.aload_n 0, 1) := by decide +kernel
theorem d_J_law_362 : decode b_J_law 362 = .ok (.iload 4, 2) := by decide +kernel
theorem d_J_law_364 : decode b_J_law 364 = .ok (.iconst 4, 1) := by decide +kernel
theorem d_J_law_365 : decode b_J_law 365 = .ok (.iadd, 1) := by decide +kernel
theorem d_J_law_366 : decode b_J_law 366 = .ok (.iaload, 1) := by decide +kernel
theorem d_J_law_367 : decode b_J_law 367 = .ok (.invokevirtual 71, 3) := by decide +kernel
theorem d_J_law_370 : decode b_J_law 370 = .ok (.goto 362, 3) := by decide +kernel
theorem d_J_law_373 : decode b_J_law 373 = .ok (.aload_n 1, 1) := by decide +kernel
theorem d_J_law_374 : decode b_J_law 374 = .ok (.aload_n 0, 1) := by decide +kernel
theorem d_J_law_375 : decode b_J_law 375 = .ok (.iload 4, 2) := by decide +kernel
theorem d_J_law_377 : decode b_J_law 377 = .ok (.iconst 1, 1) := by decide +kernel
theorem d_J_law_378 : decode b_J_law 378 = .ok (.iadd, 1) := by decide +kernel
theorem d_J_law_379 : decode b_J_law 379 = .ok (.iaload, 1) := by decide +kernel
theorem d_J_law_380 : decode b_J_law 380 = .ok (.invokestatic 72, 3) := by decide +kernel
theorem d_J_law_383 : decode b_J_law 383 = .ok (.istore 5, 2) := by decide +kernel
theorem d_J_law_385 : decode b_J_law 385 = .ok (.aload_n 2, 1) := by decide +kernel
theorem d_J_law_386 : decode b_J_law 386 = .ok (.aload_n 0, 1) := by decide +kernel
theorem d_J_law_387 : decode b_J_law 387 = .ok (.iload 4, 2) := by decide +kernel
theorem d_J_law_389 : decode b_J_law 389 = .ok (.iconst 1, 1) := by decide +kernel
theorem d_J_law_390 : decode b_J_law 390 = .ok (.iadd, 1) := by decide +kernel
theorem d_J_law_391 : decode b_J_law 391 = .ok (.iaload, 1) := by decide +kernel
theorem d_J_law_392 : decode b_J_law 392 = .ok (.invokevirtual 74, 3) := by decide +kernel
theorem d_J_law_395 : decode b_J_law 395 = .ok (.goto 337, 3) := by decide +kernel
theorem d_J_law_398 : decode b_J_law 398 = .ok (.aload_n 1, 1) := by decide +kernel
theorem d_J_law_399 : decode b_J_law 399 = .ok (.aload_n 0, 1) := by decide +kernel
theorem d_J_law_400 : decode b_J_law 400 = .ok (.iload 4, 2) := by decide +kernel
theorem d_J_law_402 : decode b_J_law 402 = .ok (.iconst 1, 1) := by decide +kernel
theorem d_J_law_403 : decode b_J_law 403 = .ok (.iadd, 1) := by decide +kernel
theorem d_J_law_404 : decode b_J_law 404 = .ok (.iaload, 1) := by decide +kernel
theorem d_J_law_405 : decode b_J_law 405 = .ok (.aload_n 3, 1) := by decide +kernel
theorem d_J_law_406 : decode b_J_law 406 = .ok (.invokestatic 75, 3) := by decide +kernel
theorem d_J_law_409 : decode b_J_law 409 = .ok (.istore 5, 2) := by decide +kernel
theorem d_J_law_411 : decode b_J_law 411 = .ok (.aload_n 2, 1) := by decide +kernel
theorem d_J_law_412 : decode b_J_law 412 = .ok (.aload_n 0, 1) := by decide +kernel
theorem d_J_law_413 : decode b_J_law 413 = .ok (.iload 4, 2) := by decide +kernel
theorem d_J_law_415 : decode b_J_law 415 = .ok (.iconst 1, 1) := by decide +kernel
theorem d_J_law_416 : decode b_J_law 416 = .ok (.iadd, 1) := by decide +kernel
theorem d_J_law_417 : decode b_J_law 417 = .ok (.iaload, 1) := by decide +kernel
theorem d_J_law_418 : decode b_J_law 418 = .ok (.invokevirtual 78, 3) := by decide +kernel
theorem d_J_law_421 : decode b_J_law 421 = .ok (.istore 6, 2) := by decide +kernel
theorem d_J_law_423 : decode b_J_law 423 = .ok (.goto 309, 3) := by decide +kernel
theorem d_J_law_426 : decode b_J_law 426 = .ok (.aload_n 1, 1) := by decide +kernel
theorem d_J_law_427 : decode b_J_law 427 = .ok (.aload_n 0, 1) := by decide +kernel
theorem d_J_law_428 : decode b_J_law 428 = .ok (.iload 4, 2) := by decide +kernel
theorem d_J_law_430 : decode b_J_law 430 = .ok (.iconst 1, 1) := by decide +kernel
theorem d_J_law_431 : decode b_J_law 431 = .ok (.iadd, 1) := by decide +kernel
theorem d_J_law_432 : decode b_J_law 432 = .ok (.iaload, 1) := by decide +kernel
theorem d_J_law_433 : decode b_J_law 433 = .ok (.i2l, 1) := by decide +kernel
theorem d_J_law_434 : decode b_J_law 434 = .ok (.bipush 32, 2) := by decide +kernel
theorem d_J_law_436 : decode b_J_law 436 = .ok (.lshl, 1) := by decide +kernel
theorem d_J_law_437 : decode b_J_law 437 = .ok (.aload_n 0, 1) := by decide +kernel
theorem d_J_law_438 : decode b_J_law 438 = .ok (.iload 4, 2) := by decide +kernel
theorem d_J_law_440 : decode b_J_law 440 = .ok (.iconst 2, 1) := by decide +kernel
theorem d_J_law_441 : decode b_J_law 441 = .ok (.iadd, 1) := by decide +kernel
theorem d_J_law_442 : decode b_J_law 442 = .ok (.iaload, 1) := by decide +kernel
theorem d_J_law_443 : decode b_J_law 443 = .ok (.i2l, 1) := by decide +kernel
theorem d_J_law_444 : decode b_J_law 444 = .ok (.ldc2_w 79, 3) := by decide +kernel
theorem d_J_law_447 : decode b_J_law 447 = .ok (.land, 1) := by decide +kernel
theorem d_J_law_448 : decode b_J_law 448 = .ok (.lor, 1) := by decide +kernel
theorem d_J_law_449 : decode b_J_law 449 = .ok (.aload_n 0, 1) := by decide +kernel
theorem d_J_law_450 : decode b_J_law 450 = .ok (.iload 4, 2) := by decide +kernel
theorem d_J_law_452 : decode b_J_law 452 = .ok (.iconst 3, 1) := by decide +kernel
theorem d_J_law_453 : decode b_J_law 453 = .ok (.iadd, 1) := by decide +kernel
theorem d_J_law_454 : decode b_J_law 454 = .ok (.iaload, 1) := by decide +kernel
theorem d_J_law_455 : decode b_J_law 455 = .ok (.invokevirtual 81, 3) := by decide +kernel
theorem d_J_law_458 : decode b_J_law 458 = .ok (.pop, 1) := by decide +kernel
theorem d_J_law_459 : decode b_J_law 459 = .ok (.aload_n 2, 1) := by decide +kernel
theorem d_J_law_460 : decode b_J_law 460 = .ok (.aload_n 0, 1) := by decide +kernel
theorem d_J_law_461 : decode b_J_law 461 = .ok (.iload 4, 2) := by decide +kernel
theorem d_J_law_463 : decode b_J_law 463 = .ok (.iconst 1, 1) := by decide +kernel
theorem d_J_law_464 : decode b_J_law 464 = .ok (.iadd, 1) := by decide +kernel
theorem d_J_law_465 : decode b_J_law 465 = .ok (.iaload, 1) := by decide +kernel
theorem d_J_law_466 : decode b_J_law 466 = .ok (.i2l, 1) := by decide +kernel
theorem d_J_law_467 : decode b_J_law 467 = .ok (.bipush 32, 2) := by decide +kernel
theorem d_J_law_469 : decode b_J_law 469 = .ok (.lshl, 1) := by decide +kernel
theorem d_J_law_470 : decode b_J_law 470 = .ok (.aload_n 0, 1) := by decide +kernel
theorem d_J_law_471 : decode b_J_law 471 = .ok (.iload 4, 2) := by decide +kernel
theorem d_J_law_473 : decode b_J_law 473 = .ok (.iconst 2, 1) := by decide +kernel
theorem d_J_law_474 : decode b_J_law 474 = .ok (.iadd, 1) := by decide +kernel
theorem d_J_law_475 : decode b_J_law 475 = .ok (.iaload, 1) := by decide +kernel
theorem d_J_law_476 : decode b_J_law 476 = .ok (.i2l, 1) := by decide +kernel
theorem d_J_law_477 : decode b_J_law 477 = .ok (.ldc2_w 79, 3) := by decide +kernel
theorem d_J_law_480 : decode b_J_law 480 = .ok (.land, 1) := by decide +kernel
theorem d_J_law_481 : decode b_J_law 481 = .ok (.lor, 1) := by decide +kernel
theorem d_J_law_482 : decode b_J_law 482 = .ok (.aload_n 0, 1) := by decide +kernel
theorem d_J_law_483 : decode b_J_law 483 = .ok (.iload 4, 2) := by decide +kernel
theorem d_J_law_485 : decode b_J_law 485 = .ok (.iconst 3, 1) := by decide +kernel
theorem d_J_law_486 : decode b_J_law 486 = .ok (.iadd, 1) := by decide +kernel
theorem d_J_law_487 : decode b_J_law 487 = .ok (.iaload, 1) := by decide +kernel
theorem d_J_law_488 : decode b_J_law 488 = .ok (.invokevirtual 85, 3) := by decide +kernel
theorem d_J_law_491 : decode b_J_law 491 = .ok (.pop, 1) := by decide +kernel
theorem d_J_law_492 : decode b_J_law 492 = .ok (.goto 240, 3) := by decide +kernel
theorem d_J_law_495 : decode b_J_law 495 = .ok (.aload_n 1, 1) := by decide +kernel
theorem d_J_law_496 : decode b_J_law 496 = .ok (.aload_n 0, 1) := by decide +kernel
theorem d_J_law_497 : decode b_J_law 497 = .ok (.iload 4, 2) := by decide +kernel
theorem d_J_law_499 : decode b_J_law 499 = .ok (.iconst 1, 1) := by decide +kernel
theorem d_J_law_500 : decode b_J_law 500 = .ok (.iadd, 1) := by decide +kernel
theorem d_J_law_501 : decode b_J_law 501 = .ok (.iaload, 1) := by decide +kernel
theorem d_J_law_502 : decode b_J_law 502 = .ok (.aload_n 0, 1) := by decide +kernel
theorem d_J_law_503 : decode b_J_law 503 = .ok (.iload 4, 2) := by decide +kernel
theorem d_J_law_505 : decode b_J_law 505 = .ok (.iconst 2, 1) := by decide +kernel
theorem d_J_law_506 : decode b_J_law 506 = .ok (.iadd, 1) := by decide +kernel
theorem d_J_law_507 : decode b_J_law 507 = .ok (.iaload, 1) := by decide +kernel
theorem d_J_law_508 : decode b_J_law 508 = .ok (.aload_n 0, 1) := by decide +kernel
theorem d_J_law_509 : decode b_J_law 509 = .ok (.iload 4, 2) := by decide +kernel
theorem d_J_law_511 : decode b_J_law 511 = .ok (.iconst 3, 1) := by decide +kernel
theorem d_J_law_512 : decode b_J_law 512 = .ok (.iadd, 1) := by decide +kernel
theorem d_J_law_513 : decode b_J_law 513 = .ok (.iaload, 1) := by decide +kernel
theorem d_J_law_514 : decode b_J_law 514 = .ok (.aload_n 0, 1) := by decide +kernel
theorem d_J_law_515 : decode b_J_law 515 = .ok (.iload 4, 2) := by decide +kernel
theorem d_J_law_517 : decode b_J_law 517 = .ok (.iconst 4, 1) := by decide +kernel
theorem d_J_law_518 : decode b_J_law 518 = .ok (.iadd, 1) := by decide +kernel
theorem d_J_law_519 : decode b_J_law 519 = .ok (.iaload, 1) := by decide +kernel
theorem d_J_law_520 : decode b_J_law 520 = .ok (.aload_n 0, 1) := by decide +kernel
theorem d_J_law_521 : decode b_J_law 521 = .ok (.iload 4, 2) := by decide +kernel
theorem d_J_law_523 : decode b_J_law 523 = .ok (.iconst 5, 1) := by decide +kernel
theorem d_J_law_524 : decode b_J_law 524 = .ok (.iadd, 1) := by decide +kernel
theorem d_J_law_525 : decode b_J_law 525 = .ok (.iaload, 1) := by decide +kernel
theorem d_J_law_526 : decode b_J_law 526 = .ok (.aload_n 3, 1) := by decide +kernel
theorem d_J_law_527 : decode b_J_law 527 = .ok (.invokestatic 86, 3) := by decide +kernel
theorem d_J_law_530 : decode b_J_law 530 = .ok (.istore 5, 2) := by decide +kernel
theorem d_J_law_532 : decode b_J_law 532 = .ok (.aload_n 2, 1) := by decide +kernel
theorem d_J_law_533 : decode b_J_law 533 = .ok (.aload_n 0, 1) := by decide +kernel
theorem d_J_law_534 : decode b_J_law 534 = .ok (.iload 4, 2) := by decide +kernel
theorem d_J_law_536 : decode b_J_law 536 = .ok (.iconst 1, 1) := by decide +kernel
theorem d_J_law_537 : decode b_J_law 537 = .ok (.iadd, 1) := by decide +kernel
theorem d_J_law_538 : decode b_J_law 538 = .ok (.iaload, 1) := by decide +kernel
theorem d_J_law_539 : decode b_J_law 539 = .ok (.aload_n 0, 1) := by decide +kernel
theorem d_J_law_540 : decode b_J_law 540 = .ok (.iload 4, 2) := by decide +kernel
theorem d_J_law_542 : decode b_J_law 542 = .ok (.iconst 2, 1) := by decide +kernel
theorem d_J_law_543 : decode b_J_law 543 = .ok (.iadd, 1) := by decide +kernel
theorem d_J_law_544 : decode b_J_law 544 = .ok (.iaload, 1) := by decide +kernel
theorem d_J_law_545 : decode b_J_law 545 = .ok (.aload_n 0, 1) := by decide +kernel
theorem d_J_law_546 : decode b_J_law 546 = .ok (.iload 4, 2) := by decide +kernel
theorem d_J_law_548 : decode b_J_law 548 = .ok (.iconst 3, 1) := by decide +kernel
theorem d_J_law_549 : decode b_J_law 549 = .ok (.iadd, 1) := by decide +kernel
theorem d_J_law_550 : decode b_J_law 550 = .ok (.iaload, 1) := by decide +kernel
theorem d_J_law_551 : decode b_J_law 551 = .ok (.aload_n 0, 1) := by decide +kernel
theorem d_J_law_552 : decode b_J_law 552 = .ok (.iload 4, 2) := by decide +kernel
theorem d_J_law_554 : decode b_J_law 554 = .ok (.iconst 4, 1) := by decide +kernel
theorem d_J_law_555 : decode b_J_law 555 = .ok (.iadd, 1) := by decide +kernel
theorem d_J_law_556 : decode b_J_law 556 = .ok (.iaload, 1) := by decide +kernel
theorem d_J_law_557 : decode b_J_law 557 = .ok (.aload_n 0, 1) := by decide +kernel
theorem d_J_law_558 : decode b_J_law 558 = .ok (.iload 4, 2) := by decide +kernel
theorem d_J_law_560 : decode b_J_law 560 = .ok (.iconst 5, 1) := by decide +kernel
theorem d_J_law_561 : decode b_J_law 561 = .ok (.iadd, 1) := by decide +kernel
theorem d_J_law_562 : decode b_J_law 562 = .ok (.iaload, 1) := by decide +kernel
theorem d_J_law_563 : decode b_J_law 563 = .ok (.invokevirtual 89, 3) := by decide +kernel
theorem d_J_law_566 : decode b_J_law 566 = .ok (.istore 6, 2) := by decide +kernel
theorem d_J_law_568 : decode b_J_law 568 = .ok (.goto 164, 3) := by decide +kernel
theorem d_J_law_571 : decode b_J_law 571 = .ok (.aload_n 1, 1) := by decide +kernel
theorem d_J_law_572 : decode b_J_law 572 = .ok (.aload_n 0, 1) := by decide +kernel
theorem d_J_law_573 : decode b_J_law 573 = .ok (.iload 4, 2) := by decide +kernel
theorem d_J_law_575 : decode b_J_law 575 = .ok (.iconst 1, 1) := by decide +kernel
theorem d_J_law_576 : decode b_J_law 576 = .ok (.iadd, 1) := by decide +kernel
theorem d_J_law_577 : decode b_J_law 577 = .ok (.iaload, 1) := by decide +kernel
theorem d_J_law_578 : decode b_J_law 578 = .ok (.aload_n 0, 1) := by decide +kernel
theorem d_J_law_579 : decode b_J_law 579 = .ok (.iload 4, 2) := by decide +kernel
theorem d_J_law_581 : decode b_J_law 581 = .ok (.iconst 2, 1) := by decide +kernel
theorem d_J_law_582 : decode b_J_law 582 = .ok (.iadd, 1) := by decide +kernel
theorem d_J_law_583 : decode b_J_law 583 = .ok (.iaload, 1) := by decide +kernel
theorem d_J_law_584 : decode b_J_law 584 = .ok (.invokevirtual 90, 3) := by decide +kernel
theorem d_J_law_587 : decode b_J_law 587 = .ok (.pop, 1) := by decide +kernel
theorem d_J_law_588 : decode b_J_law 588 = .ok (.aload_n 2, 1) := by decide +kernel
theorem d_J_law_589 : decode b_J_law 589 = .ok (.aload_n 0, 1) := by decide +kernel
theorem d_J_law_590 : decode b_J_law 590 = .ok (.iload 4, 2) := by decide +kernel
theorem d_J_law_592 : decode b_J_law 592 = .ok (.iconst 1, 1) := by decide +kernel
theorem d_J_law_593 : decode b_J_law 593 = .ok (.iadd, 1) := by decide +kernel
theorem d_J_law_594 : decode b_J_law 594 = .ok (.iaload, 1) := by decide +kernel
theorem d_J_law_595 : decode b_J_law 595 = .ok (.aload_n 0, 1) := by decide +kernel
theorem d_J_law_596 : decode b_J_law 596 = .ok (.iload 4, 2) := by decide +kernel
theorem d_J_law_598 : decode b_J_law 598 = .ok (.iconst 2, 1) := by decide +kernel
theorem d_J_law_599 : decode b_J_law 599 = .ok (.iadd, 1) := by decide +kernel
theorem d_J_law_600 : decode b_J_law 600 = .ok (.iaload, 1) := by decide +kernel
theorem d_J_law_601 : decode b_J_law 601 = .ok (.invokevirtual 94, 3) := by decide +kernel
theorem d_J_law_604 : decode b_J_law 604 = .ok (.pop, 1) := by decide +kernel
theorem d_J_law_605 : decode b_J_law 605 = .ok (.goto 127, 3) := by decide +kernel
theorem d_J_law_608 : decode b_J_law 608 = .ok (.aload_n 1, 1) := by decide +kernel
theorem d_J_law_609 : decode b_J_law 609 = .ok (.aload_n 0, 1) := by decide +kernel
theorem d_J_law_610 : decode b_J_law 610 = .ok (.iload 4, 2) := by decide +kernel
theorem d_J_law_612 : decode b_J_law 612 = .ok (.iconst 1, 1) := by decide +kernel
theorem d_J_law_613 : decode b_J_law 613 = .ok (.iadd, 1) := by decide +kernel
theorem d_J_law_614 : decode b_J_law 614 = .ok (.iaload, 1) := by decide +kernel
theorem d_J_law_615 : decode b_J_law 615 = .ok (.aload_n 0, 1) := by decide +kernel
theorem d_J_law_616 : decode b_J_law 616 = .ok (.iload 4, 2) := by decide +kernel
theorem d_J_law_618 : decode b_J_law 618 = .ok (.iconst 2, 1) := by decide +kernel
theorem d_J_law_619 : decode b_J_law 619 = .ok (.iadd, 1) := by decide +kernel
theorem d_J_law_620 : decode b_J_law 620 = .ok (.iaload, 1) := by decide +kernel
theorem d_J_law_621 : decode b_J_law 621 = .ok (.aload_n 0, 1) := by decide +kernel
theorem d_J_law_622 : decode b_J_law 622 = .ok (.iload 4, 2) := by decide +kernel
theorem d_J_law_624 : decode b_J_law 624 = .ok (.iconst 3, 1) := by decide +kernel
theorem d_J_law_625 : decode b_J_law 625 = .ok (.iadd, 1) := by decide +kernel
theorem d_J_law_626 : decode b_J_law 626 = .ok (.iaload, 1) := by decide +kernel
theorem d_J_law_627 : decode b_J_law 627 = .ok (.invokevirtual 95, 3) := by decide +kernel
theorem d_J_law_630 : decode b_J_law 630 = .ok (.pop, 1) := by decide +kernel
theorem d_J_law_631 : decode b_J_law 631 = .ok (.aload_n 2, 1) := by decide +kernel
theorem d_J_law_632 : decode b_J_law 632 = .ok (.aload_n 0, 1) := by decide +kernel
theorem d_J_law_633 : decode b_J_law 633 = .ok (.iload 4, 2) := by decide +kernel
theorem d_J_law_635 : decode b_J_law 635 = .ok (.iconst 1, 1) := by decide +kernel
theorem d_J_law_636 : decode b_J_law 636 = .ok (.iadd, 1) := by decide +kernel
theorem d_J_law_637 : decode b_J_law 637 = .ok (.iaload, 1) := by decide +kernel
theorem d_J_law_638 : decode b_J_law 638 = .ok (.aload_n 0, 1) := by decide +kernel
theorem d_J_law_639 : decode b_J_law 639 = .ok (.iload 4, 2) := by decide +kernel
theorem d_J_law_641 : decode b_J_law 641 = .ok (.iconst 2, 1) := by decide +kernel
theorem d_J_law_642 : decode b_J_law 642 = .ok (.iadd, 1) := by decide +kernel
theorem d_J_law_643 : decode b_J_law 643 = .ok (.iaload, 1) := by decide +kernel
theorem d_J_law_644 : decode b_J_law 644 = .ok (.aload_n 0, 1) := by decide +kernel
theorem d_J_law_645 : decode b_J_law 645 = .ok (.iload 4, 2) := by decide +kernel
theorem d_J_law_647 : decode b_J_law 647 = .ok (.iconst 3, 1) := by decide +kernel
theorem d_J_law_648 : decode b_J_law 648 = .ok (.iadd, 1) := by decide +kernel
theorem d_J_law_649 : decode b_J_law 649 = .ok (.iaload, 1) := by decide +kernel
theorem d_J_law_650 : decode b_J_law 650 = .ok (.invokevirtual 99, 3) := by decide +kernel
theorem d_J_law_653 : decode b_J_law 653 = .ok (.pop, 1) := by decide +kernel
theorem d_J_law_654 : decode b_J_law 654 = .ok (.goto 78, 3) := by decide +kernel
theorem d_J_law_657 : decode b_J_law 657 = .ok (.aload_n 1, 1) := by decide +kernel
theorem d_J_law_658 : decode b_J_law 658 = .ok (.aload_n 0, 1) := by decide +kernel
theorem d_J_law_659 : decode b_J_law 659 = .ok (.iload 4, 2) := by decide +kernel
theorem d_J_law_661 : decode b_J_law 661 = .ok (.iconst 1, 1) := by decide +kernel
theorem d_J_law_662 : decode b_J_law 662 = .ok (.iadd, 1) := by decide +kernel
theorem d_J_law_663 : decode b_J_law 663 = .ok (.iaload, 1) := by decide +kernel
theorem d_J_law_664 : decode b_J_law 664 = .ok (.invokevirtual 100, 3) := by decide +kernel
theorem d_J_law_667 : decode b_J_law 667 = .ok (.aload_n 2, 1) := by decide +kernel
theorem d_J_law_668 : decode b_J_law 668 = .ok (.aload_n 0, 1) := by decide +kernel
theorem d_J_law_669 : decode b_J_law 669 = .ok (.iload 4, 2) := by decide +kernel
theorem d_J_law_671 : decode b_J_law 671 = .ok (.iconst 1, 1) := by decide +kernel
theorem d_J_law_672 : decode b_J_law 672 = .ok (.iadd, 1) := by decide +kernel
theorem d_J_law_673 : decode b_J_law 673 = .ok (.iaload, 1) := by decide +kernel
theorem d_J_law_674 : decode b_J_law 674 = .ok (.invokevirtual 103, 3) := by decide +kernel
theorem d_J_law_677 : decode b_J_law 677 = .ok (.if_icmp .eq 55, 3) := by decide +kernel
theorem d_J_law_680 : decode b_J_law 680 = .ok (.iconst 0, 1) := by decide +kernel
theorem d_J_law_681 : decode b_J_law 681 = .ok (.ireturn, 1) := by decide +kernel
theorem d_J_law_682 : decode b_J_law 682 = .ok (.aload_n 1, 1) := by decide +kernel
theorem d_J_law_683 : decode b_J_law 683 = .ok (.invokevirtual 104, 3) := by decide +kernel
theorem d_J_law_686 : decode b_J_law 686 = .ok (.pop, 1) := by decide +kernel
theorem d_J_law_687 : decode b_J_law 687 = .ok (.aload_n 2, 1) := by decide +kernel
theorem d_J_law_688 : decode b_J_law 688 = .ok (.invokevirtual 108, 3) := by decide +kernel
theorem d_J_law_691 : decode b_J_law 691 = .ok (.pop, 1) := by decide +kernel
theorem d_J_law_692 : decode b_J_law 692 = .ok (.goto 40, 3) := by decide +kernel
theorem d_J_law_695 : decode b_J_law 695 = .ok (.aload_n 1, 1) := by decide +kernel
theorem d_J_law_696 : decode b_J_law 696 = .ok (.aload_n 0, 1) := by decide +kernel
theorem d_J_law_697 : decode b_J_law 697 = .ok (.iload 4, 2) := by decide +kernel
theorem d_J_law_699 : decode b_J_law 699 = .ok (.iconst 1, 1) := by decide +kernel
theorem d_J_law_700 : decode b_J_law 700 = .ok (.iadd, 1) := by decide +kernel
theorem d_J_law_701 : decode b_J_law 701 = .ok (.iaload, 1) := by decide +kernel
theorem d_J_law_702 : decode b_J_law 702 = .ok (.aload_n 0, 1) := by decide +kernel
theorem d_J_law_703 : decode b_J_law 703 = .ok (.iload 4, 2) := by decide +kernel
theorem d_J_law_705 : decode b_J_law 705 = .ok (.iconst 2, 1) := by decide +kernel
theorem d_J_law_706 : decode b_J_law 706 = .ok (.iadd, 1) := by decide +kernel
theorem d_J_law_707 : decode b_J_law 707 = .ok (.iaload, 1) := by decide +kernel
theorem d_J_law_708 : decode b_J_law 708 = .ok (.invokevirtual 109, 3) := by decide +kernel
theorem d_J_law_711 : decode b_J_law 711 = .ok (.pop, 1) := by decide +kernel
theorem d_J_law_712 : decode b_J_law 712 = .ok (.aload_n 2, 1) := by decide +kernel
theorem d_J_law_713 : decode b_J_law 713 = .ok (.aload_n 0, 1) := by decide +kernel
theorem d_J_law_714 : decode b_J_law 714 = .ok (.iload 4, 2) := by decide +kernel
theorem d_J_law_716 : decode b_J_law 716 = .ok (.iconst 1, 1) := by decide +kernel
theorem d_J_law_717 : decode b_J_law 717 = .ok (.iadd, 1) := by decide +kernel
theorem d_J_law_718 : decode b_J_law 718 = .ok (.iaload, 1) := by decide +kernel
theorem d_J_law_719 : decode b_J_law 719 = .ok (.aload_n 0, 1) := by decide +kernel
theorem d_J_law_720 : decode b_J_law 720 = .ok (.iload 4, 2) := by decide +kernel
theorem d_J_law_722 : decode b_J_law 722 = .ok (.iconst 2, 1) := by decide +kernel
theorem d_J_law_723 : decode b_J_law 723 = .ok (.iadd, 1) := by decide +kernel
theorem d_J_law_724 : decode b_J_law 724 = .ok (.iaload, 1) := by decide +kernel
theorem d_J_law_725 : decode b_J_law 725 = .ok (.invokevirtual 112, 3) := by decide +kernel
theorem d_J_law_728 : decode b_J_law 728 = .ok (.pop, 1) := by decide +kernel
theorem d_J_law_729 : decode b_J_law 729 = .ok (.goto 3, 3) := by decide +kernel
theorem d_J_law_732 : decode b_J_law 732 = .ok (.iinc 4 6, 3) := by decide +kernel
theorem d_J_law_735 : decode b_J_law 735 = .ok (.goto (-712), 3) := by decide +kernel
theorem d_J_law_738 : decode b_J_law 738 = .ok (.iconst 1, 1) := by decide +kernel
theorem d_J_law_739 : decode b_J_law 739 = .ok (.ireturn, 1) := by decide +kernel
