/-! the law: its cases, those that answer at once -/
theorem d_Law_law_0 : decode code 0 = .ok (.new 8, 3) := by decide +kernel
theorem d_Law_law_3 : decode code 3 = .ok (.dup, 1) := by decide +kernel
theorem d_Law_law_4 : decode code 4 = .ok (.invokespecial 32, 3) := by decide +kernel
theorem d_Law_law_7 : decode code 7 = .ok (.astore_n 1, 1) := by decide +kernel
theorem d_Law_law_8 : decode code 8 = .ok (.new 33, 3) := by decide +kernel
theorem d_Law_law_11 : decode code 11 = .ok (.dup, 1) := by decide +kernel
theorem d_Law_law_12 : decode code 12 = .ok (.invokespecial 35, 3) := by decide +kernel
theorem d_Law_law_15 : decode code 15 = .ok (.astore_n 2, 1) := by decide +kernel
theorem d_Law_law_16 : decode code 16 = .ok (.iconst 1, 1) := by decide +kernel
theorem d_Law_law_17 : decode code 17 = .ok (.newarray .long, 2) := by decide +kernel
theorem d_Law_law_19 : decode code 19 = .ok (.astore_n 3, 1) := by decide +kernel
theorem d_Law_law_20 : decode code 20 = .ok (.iconst 0, 1) := by decide +kernel
theorem d_Law_law_21 : decode code 21 = .ok (.istore 4, 2) := by decide +kernel
theorem d_Law_law_23 : decode code 23 = .ok (.iload 4, 2) := by decide +kernel
theorem d_Law_law_25 : decode code 25 = .ok (.aload_n 0, 1) := by decide +kernel
theorem d_Law_law_26 : decode code 26 = .ok (.arraylength, 1) := by decide +kernel
theorem d_Law_law_27 : decode code 27 = .ok (.bipush 6, 2) := by decide +kernel
theorem d_Law_law_29 : decode code 29 = .ok (.isub, 1) := by decide +kernel
theorem d_Law_law_30 : decode code 30 = .ok (.if_icmp .gt 792, 3) := by decide +kernel
theorem d_Law_law_33 : decode code 33 = .ok (.aload_n 0, 1) := by decide +kernel
theorem d_Law_law_34 : decode code 34 = .ok (.iload 4, 2) := by decide +kernel
theorem d_Law_law_36 : decode code 36 = .ok (.iaload, 1) := by decide +kernel
theorem d_Law_law_37 : decode code 37 = .ok (.bipush 31, 2) := by decide +kernel
theorem d_Law_law_39 : decode code 39 = .ok (.iand, 1) := by decide +kernel
theorem d_Law_law_128 : decode code 128 = .ok (.aload_n 1, 1) := by decide +kernel
theorem d_Law_law_129 : decode code 129 = .ok (.aload_n 0, 1) := by decide +kernel
theorem d_Law_law_130 : decode code 130 = .ok (.iload 4, 2) := by decide +kernel
theorem d_Law_law_132 : decode code 132 = .ok (.iconst 1, 1) := by decide +kernel
theorem d_Law_law_133 : decode code 133 = .ok (.iadd, 1) := by decide +kernel
theorem d_Law_law_134 : decode code 134 = .ok (.iaload, 1) := by decide +kernel
theorem d_Law_law_135 : decode code 135 = .ok (.aload_n 0, 1) := by decide +kernel
theorem d_Law_law_136 : decode code 136 = .ok (.iload 4, 2) := by decide +kernel
theorem d_Law_law_138 : decode code 138 = .ok (.iconst 2, 1) := by decide +kernel
theorem d_Law_law_139 : decode code 139 = .ok (.iadd, 1) := by decide +kernel
theorem d_Law_law_140 : decode code 140 = .ok (.iaload, 1) := by decide +kernel
theorem d_Law_law_141 : decode code 141 = .ok (.aload_n 0, 1) := by decide +kernel
theorem d_Law_law_142 : decode code 142 = .ok (.iload 4, 2) := by decide +kernel
theorem d_Law_law_144 : decode code 144 = .ok (.iconst 3, 1) := by decide +kernel
theorem d_Law_law_145 : decode code 145 = .ok (.iadd, 1) := by decide +kernel
theorem d_Law_law_146 : decode code 146 = .ok (.iaload, 1) := by decide +kernel
theorem d_Law_law_147 : decode code 147 = .ok (.aload_n 0, 1) := by decide +kernel
theorem d_Law_law_148 : decode code 148 = .ok (.iload 4, 2) := by decide +kernel
theorem d_Law_law_150 : decode code 150 = .ok (.iconst 4, 1) := by decide +kernel
theorem d_Law_law_151 : decode code 151 = .ok (.iadd, 1) := by decide +kernel
theorem d_Law_law_152 : decode code 152 = .ok (.iaload, 1) := by decide +kernel
theorem d_Law_law_153 : decode code 153 = .ok (.ifCond .eq 7, 3) := by decide +kernel
theorem d_Law_law_156 : decode code 156 = .ok (.iconst 1, 1) := by decide +kernel
theorem d_Law_law_157 : decode code 157 = .ok (.goto 4, 3) := by decide +kernel
theorem d_Law_law_160 : decode code 160 = .ok (.iconst 0, 1) := by decide +kernel
theorem d_Law_law_161 : decode code 161 = .ok (.aload_n 0, 1) := by decide +kernel
theorem d_Law_law_162 : decode code 162 = .ok (.iload 4, 2) := by decide +kernel
theorem d_Law_law_164 : decode code 164 = .ok (.iconst 5, 1) := by decide +kernel
theorem d_Law_law_165 : decode code 165 = .ok (.iadd, 1) := by decide +kernel
theorem d_Law_law_166 : decode code 166 = .ok (.iaload, 1) := by decide +kernel
theorem d_Law_law_167 : decode code 167 = .ok (.aload_n 3, 1) := by decide +kernel
theorem d_Law_law_168 : decode code 168 = .ok (.invokestatic 36, 3) := by decide +kernel
theorem d_Law_law_171 : decode code 171 = .ok (.istore 5, 2) := by decide +kernel
theorem d_Law_law_173 : decode code 173 = .ok (.aload_n 2, 1) := by decide +kernel
theorem d_Law_law_174 : decode code 174 = .ok (.aload_n 0, 1) := by decide +kernel
theorem d_Law_law_175 : decode code 175 = .ok (.iload 4, 2) := by decide +kernel
theorem d_Law_law_177 : decode code 177 = .ok (.iconst 1, 1) := by decide +kernel
theorem d_Law_law_178 : decode code 178 = .ok (.iadd, 1) := by decide +kernel
theorem d_Law_law_179 : decode code 179 = .ok (.iaload, 1) := by decide +kernel
theorem d_Law_law_180 : decode code 180 = .ok (.aload_n 0, 1) := by decide +kernel
theorem d_Law_law_181 : decode code 181 = .ok (.iload 4, 2) := by decide +kernel
theorem d_Law_law_183 : decode code 183 = .ok (.iconst 2, 1) := by decide +kernel
theorem d_Law_law_184 : decode code 184 = .ok (.iadd, 1) := by decide +kernel
theorem d_Law_law_185 : decode code 185 = .ok (.iaload, 1) := by decide +kernel
theorem d_Law_law_186 : decode code 186 = .ok (.aload_n 0, 1) := by decide +kernel
theorem d_Law_law_187 : decode code 187 = .ok (.iload 4, 2) := by decide +kernel
theorem d_Law_law_189 : decode code 189 = .ok (.iconst 3, 1) := by decide +kernel
theorem d_Law_law_190 : decode code 190 = .ok (.iadd, 1) := by decide +kernel
theorem d_Law_law_191 : decode code 191 = .ok (.iaload, 1) := by decide +kernel
theorem d_Law_law_192 : decode code 192 = .ok (.aload_n 0, 1) := by decide +kernel
theorem d_Law_law_193 : decode code 193 = .ok (.iload 4, 2) := by decide +kernel
theorem d_Law_law_195 : decode code 195 = .ok (.iconst 4, 1) := by decide +kernel
theorem d_Law_law_196 : decode code 196 = .ok (.iadd, 1) := by decide +kernel
theorem d_Law_law_197 : decode code 197 = .ok (.iaload, 1) := by decide +kernel
theorem d_Law_law_198 : decode code 198 = .ok (.ifCond .eq 7, 3) := by decide +kernel
theorem d_Law_law_201 : decode code 201 = .ok (.iconst 1, 1) := by decide +kernel
theorem d_Law_law_202 : decode code 202 = .ok (.goto 4, 3) := by decide +kernel
theorem d_Law_law_205 : decode code 205 = .ok (.iconst 0, 1) := by decide +kernel
theorem d_Law_law_206 : decode code 206 = .ok (.aload_n 0, 1) := by decide +kernel
theorem d_Law_law_207 : decode code 207 = .ok (.iload 4, 2) := by decide +kernel
theorem d_Law_law_209 : decode code 209 = .ok (.iconst 5, 1) := by decide +kernel
theorem d_Law_law_210 : decode code 210 = .ok (.iadd, 1) := by decide +kernel
theorem d_Law_law_211 : decode code 211 = .ok (.iaload, 1) := by decide +kernel
theorem d_Law_law_212 : decode code 212 = .ok (.invokevirtual 41, 3) := by decide +kernel
theorem d_Law_law_215 : decode code 215 = .ok (.istore 6, 2) := by decide +kernel
theorem d_Law_law_217 : decode code 217 = .ok (.aload_n 2, 1) := by decide +kernel
theorem d_Law_law_218 : decode code 218 = .ok (.invokevirtual 42, 3) := by decide +kernel
theorem d_Law_law_221 : decode code 221 = .ok (.iload 5, 2) := by decide +kernel
theorem d_Law_law_223 : decode code 223 = .ok (.if_icmp .eq 5, 3) := by decide +kernel
theorem d_Law_law_226 : decode code 226 = .ok (.iconst 0, 1) := by decide +kernel
theorem d_Law_law_227 : decode code 227 = .ok (.ireturn, 1) := by decide +kernel
theorem d_Law_law_228 : decode code 228 = .ok (.iload 5, 2) := by decide +kernel
theorem d_Law_law_230 : decode code 230 = .ok (.ifCond .ne 22, 3) := by decide +kernel
theorem d_Law_law_233 : decode code 233 = .ok (.aload_n 3, 1) := by decide +kernel
theorem d_Law_law_234 : decode code 234 = .ok (.iconst 0, 1) := by decide +kernel
theorem d_Law_law_235 : decode code 235 = .ok (.laload, 1) := by decide +kernel
theorem d_Law_law_236 : decode code 236 = .ok (.iload 6, 2) := by decide +kernel
theorem d_Law_law_238 : decode code 238 = .ok (.ifCond .eq 7, 3) := by decide +kernel
theorem d_Law_law_241 : decode code 241 = .ok (.lconst 1, 1) := by decide +kernel
theorem d_Law_law_242 : decode code 242 = .ok (.goto 4, 3) := by decide +kernel
theorem d_Law_law_245 : decode code 245 = .ok (.lconst 0, 1) := by decide +kernel
theorem d_Law_law_246 : decode code 246 = .ok (.lcmp, 1) := by decide +kernel
theorem d_Law_law_247 : decode code 247 = .ok (.ifCond .eq 5, 3) := by decide +kernel
theorem d_Law_law_250 : decode code 250 = .ok (.iconst 0, 1) := by decide +kernel
theorem d_Law_law_251 : decode code 251 = .ok (.ireturn, 1) := by decide +kernel
theorem d_Law_law_252 : decode code 252 = .ok (.goto 564, 3) := by decide +kernel
theorem d_Law_law_255 : decode code 255 = .ok (.aload_n 1, 1) := by decide +kernel
theorem d_Law_law_256 : decode code 256 = .ok (.aload_n 0, 1) := by decide +kernel
theorem d_Law_law_257 : decode code 257 = .ok (.iload 4, 2) := by decide +kernel
theorem d_Law_law_259 : decode code 259 = .ok (.iconst 1, 1) := by decide +kernel
theorem d_Law_law_260 : decode code 260 = .ok (.iadd, 1) := by decide +kernel
theorem d_Law_law_261 : decode code 261 = .ok (.iaload, 1) := by decide +kernel
theorem d_Law_law_262 : decode code 262 = .ok (.aload_n 0, 1) := by decide +kernel
theorem d_Law_law_263 : decode code 263 = .ok (.iload 4, 2) := by decide +kernel
theorem d_Law_law_265 : decode code 265 = .ok (.iconst 2, 1) := by decide +kernel
theorem d_Law_law_266 : decode code 266 = .ok (.iadd, 1) := by decide +kernel
theorem d_Law_law_267 : decode code 267 = .ok (.iaload, 1) := by decide +kernel
theorem d_Law_law_268 : decode code 268 = .ok (.aload_n 3, 1) := by decide +kernel
theorem d_Law_law_269 : decode code 269 = .ok (.invokestatic 45, 3) := by decide +kernel
theorem d_Law_law_272 : decode code 272 = .ok (.istore 5, 2) := by decide +kernel
theorem d_Law_law_274 : decode code 274 = .ok (.aload_n 2, 1) := by decide +kernel
theorem d_Law_law_275 : decode code 275 = .ok (.aload_n 0, 1) := by decide +kernel
theorem d_Law_law_276 : decode code 276 = .ok (.iload 4, 2) := by decide +kernel
theorem d_Law_law_278 : decode code 278 = .ok (.iconst 1, 1) := by decide +kernel
theorem d_Law_law_279 : decode code 279 = .ok (.iadd, 1) := by decide +kernel
theorem d_Law_law_280 : decode code 280 = .ok (.iaload, 1) := by decide +kernel
theorem d_Law_law_281 : decode code 281 = .ok (.aload_n 0, 1) := by decide +kernel
theorem d_Law_law_282 : decode code 282 = .ok (.iload 4, 2) := by decide +kernel
theorem d_Law_law_284 : decode code 284 = .ok (.iconst 2, 1) := by decide +kernel
theorem d_Law_law_285 : decode code 285 = .ok (.iadd, 1) := by decide +kernel
theorem d_Law_law_286 : decode code 286 = .ok (.iaload, 1) := by decide +kernel
theorem d_Law_law_287 : decode code 287 = .ok (.invokevirtual 48, 3) := by decide +kernel
theorem d_Law_law_290 : decode code 290 = .ok (.istore 6, 2) := by decide +kernel
theorem d_Law_law_292 : decode code 292 = .ok (.aload_n 2, 1) := by decide +kernel
theorem d_Law_law_293 : decode code 293 = .ok (.invokevirtual 42, 3) := by decide +kernel
theorem d_Law_law_296 : decode code 296 = .ok (.iload 5, 2) := by decide +kernel
theorem d_Law_law_298 : decode code 298 = .ok (.if_icmp .eq 5, 3) := by decide +kernel
theorem d_Law_law_301 : decode code 301 = .ok (.iconst 0, 1) := by decide +kernel
theorem d_Law_law_302 : decode code 302 = .ok (.ireturn, 1) := by decide +kernel
theorem d_Law_law_303 : decode code 303 = .ok (.iload 5, 2) := by decide +kernel
theorem d_Law_law_305 : decode code 305 = .ok (.ifCond .ne 22, 3) := by decide +kernel
theorem d_Law_law_308 : decode code 308 = .ok (.aload_n 3, 1) := by decide +kernel
theorem d_Law_law_309 : decode code 309 = .ok (.iconst 0, 1) := by decide +kernel
theorem d_Law_law_310 : decode code 310 = .ok (.laload, 1) := by decide +kernel
theorem d_Law_law_311 : decode code 311 = .ok (.iload 6, 2) := by decide +kernel
theorem d_Law_law_313 : decode code 313 = .ok (.ifCond .eq 7, 3) := by decide +kernel
theorem d_Law_law_316 : decode code 316 = .ok (.lconst 1, 1) := by decide +kernel
theorem d_Law_law_317 : decode code 317 = .ok (.goto 4, 3) := by decide +kernel
theorem d_Law_law_320 : decode code 320 = .ok (.lconst 0, 1) := by decide +kernel
theorem d_Law_law_321 : decode code 321 = .ok (.lcmp, 1) := by decide +kernel
theorem d_Law_law_322 : decode code 322 = .ok (.ifCond .eq 5, 3) := by decide +kernel
theorem d_Law_law_325 : decode code 325 = .ok (.iconst 0, 1) := by decide +kernel
theorem d_Law_law_326 : decode code 326 = .ok (.ireturn, 1) := by decide +kernel
theorem d_Law_law_327 : decode code 327 = .ok (.goto 489, 3) := by decide +kernel
theorem d_Law_law_330 : decode code 330 = .ok (.aload_n 1, 1) := by decide +kernel
theorem d_Law_law_331 : decode code 331 = .ok (.aload_n 0, 1) := by decide +kernel
theorem d_Law_law_332 : decode code 332 = .ok (.iload 4, 2) := by decide +kernel
theorem d_Law_law_334 : decode code 334 = .ok (.iconst 1, 1) := by decide +kernel
theorem d_Law_law_335 : decode code 335 = .ok (.iadd, 1) := by decide +kernel
theorem d_Law_law_336 : decode code 336 = .ok (.iaload, 1) := by decide +kernel
theorem d_Law_law_337 : decode code 337 = .ok (.aload_n 0, 1) := by decide +kernel
theorem d_Law_law_338 : decode code 338 = .ok (.iload 4, 2) := by decide +kernel
theorem d_Law_law_340 : decode code 340 = .ok (.iconst 2, 1) := by decide +kernel
theorem d_Law_law_341 : decode code 341 = .ok (.iadd, 1) := by decide +kernel
theorem d_Law_law_342 : decode code 342 = .ok (.iaload, 1) := by decide +kernel
theorem d_Law_law_343 : decode code 343 = .ok (.aload_n 3, 1) := by decide +kernel
theorem d_Law_law_344 : decode code 344 = .ok (.invokestatic 49, 3) := by decide +kernel
theorem d_Law_law_347 : decode code 347 = .ok (.istore 5, 2) := by decide +kernel
theorem d_Law_law_349 : decode code 349 = .ok (.aload_n 2, 1) := by decide +kernel
theorem d_Law_law_350 : decode code 350 = .ok (.aload_n 0, 1) := by decide +kernel
theorem d_Law_law_351 : decode code 351 = .ok (.iload 4, 2) := by decide +kernel
theorem d_Law_law_353 : decode code 353 = .ok (.iconst 1, 1) := by decide +kernel
theorem d_Law_law_354 : decode code 354 = .ok (.iadd, 1) := by decide +kernel
theorem d_Law_law_355 : decode code 355 = .ok (.iaload, 1) := by decide +kernel
theorem d_Law_law_356 : decode code 356 = .ok (.aload_n 0, 1) := by decide +kernel
theorem d_Law_law_357 : decode code 357 = .ok (.iload 4, 2) := by decide +kernel
theorem d_Law_law_359 : decode code 359 = .ok (.iconst 2, 1) := by decide +kernel
theorem d_Law_law_360 : decode code 360 = .ok (.iadd, 1) := by decide +kernel
theorem d_Law_law_361 : decode code 361 = .ok (.iaload, 1) := by decide +kernel
theorem d_Law_law_362 : decode code 362 = .ok (.invokevirtual 51, 3) := by decide +kernel
theorem d_Law_law_365 : decode code 365 = .ok (.istore 6, 2) := by decide +kernel
theorem d_Law_law_367 : decode code 367 = .ok (.aload_n 2, 1) := by decide +kernel
theorem d_Law_law_368 : decode code 368 = .ok (.invokevirtual 42, 3) := by decide +kernel
theorem d_Law_law_371 : decode code 371 = .ok (.iload 5, 2) := by decide +kernel
theorem d_Law_law_373 : decode code 373 = .ok (.if_icmp .eq 5, 3) := by decide +kernel
theorem d_Law_law_376 : decode code 376 = .ok (.iconst 0, 1) := by decide +kernel
theorem d_Law_law_377 : decode code 377 = .ok (.ireturn, 1) := by decide +kernel
theorem d_Law_law_378 : decode code 378 = .ok (.iload 5, 2) := by decide +kernel
theorem d_Law_law_380 : decode code 380 = .ok (.ifCond .ne 22, 3) := by decide +kernel
theorem d_Law_law_383 : decode code 383 = .ok (.aload_n 3, 1) := by decide +kernel
theorem d_Law_law_384 : decode code 384 = .ok (.iconst 0, 1) := by decide +kernel
theorem d_Law_law_385 : decode code 385 = .ok (.laload, 1) := by decide +kernel
theorem d_Law_law_386 : decode code 386 = .ok (.iload 6, 2) := by decide +kernel
theorem d_Law_law_388 : decode code 388 = .ok (.ifCond .eq 7, 3) := by decide +kernel
theorem d_Law_law_391 : decode code 391 = .ok (.lconst 1, 1) := by decide +kernel
theorem d_Law_law_392 : decode code 392 = .ok (.goto 4, 3) := by decide +kernel
theorem d_Law_law_395 : decode code 395 = .ok (.lconst 0, 1) := by decide +kernel
theorem d_Law_law_396 : decode code 396 = .ok (.lcmp, 1) := by decide +kernel
theorem d_Law_law_397 : decode code 397 = .ok (.ifCond .eq 5, 3) := by decide +kernel
theorem d_Law_law_400 : decode code 400 = .ok (.iconst 0, 1) := by decide +kernel
theorem d_Law_law_401 : decode code 401 = .ok (.ireturn, 1) := by decide +kernel
theorem d_Law_law_402 : decode code 402 = .ok (.goto 414, 3) := by decide +kernel
theorem d_Law_law_405 : decode code 405 = .ok (.aload_n 1, 1) := by decide +kernel
theorem d_Law_law_406 : decode code 406 = .ok (.invokevirtual 52, 3) := by decide +kernel
theorem d_Law_law_409 : decode code 409 = .ok (.aload_n 2, 1) := by decide +kernel
theorem d_Law_law_410 : decode code 410 = .ok (.invokevirtual 55, 3) := by decide +kernel
theorem d_Law_law_413 : decode code 413 = .ok (.if_icmp .eq 403, 3) := by decide +kernel
theorem d_Law_law_416 : decode code 416 = .ok (.iconst 0, 1) := by decide +kernel
theorem d_Law_law_417 : decode code 417 = .ok (.ireturn, 1) := by decide +kernel
theorem d_Law_law_418 : decode code 418 = .ok (.aload_n 1, 1) := by decide +kernel
theorem d_Law_law_419 : decode code 419 = .ok (.invokevirtual 56, 3) := by decide +kernel
theorem d_Law_law_422 : decode code 422 = .ok (.aload_n 2, 1) := by decide +kernel
theorem d_Law_law_423 : decode code 423 = .ok (.invokevirtual 60, 3) := by decide +kernel
theorem d_Law_law_426 : decode code 426 = .ok (.if_icmp .eq 390, 3) := by decide +kernel
theorem d_Law_law_429 : decode code 429 = .ok (.iconst 0, 1) := by decide +kernel
theorem d_Law_law_430 : decode code 430 = .ok (.ireturn, 1) := by decide +kernel
theorem d_Law_law_431 : decode code 431 = .ok (.aload_n 1, 1) := by decide +kernel
theorem d_Law_law_432 : decode code 432 = .ok (.aload_n 0, 1) := by decide +kernel
theorem d_Law_law_433 : decode code 433 = .ok (.iload 4, 2) := by decide +kernel
theorem d_Law_law_435 : decode code 435 = .ok (.iconst 1, 1) := by decide +kernel
theorem d_Law_law_436 : decode code 436 = .ok (.iadd, 1) := by decide +kernel
theorem d_Law_law_437 : decode code 437 = .ok (.iaload, 1) := by decide +kernel
theorem d_Law_law_438 : decode code 438 = .ok (.aload_n 0, 1) := by decide +kernel
theorem d_Law_law_439 : decode code 439 = .ok (.iload 4, 2) := by decide +kernel
theorem d_Law_law_441 : decode code 441 = .ok (.iconst 2, 1) := by decide +kernel
theorem d_Law_law_442 : decode code 442 = .ok (.iadd, 1) := by decide +kernel
theorem d_Law_law_443 : decode code 443 = .ok (.iaload, 1) := by decide +kernel
theorem d_Law_law_444 : decode code 444 = .ok (.invokevirtual 61, 3) := by decide +kernel
theorem d_Law_law_447 : decode code 447 = .ok (.aload_n 2, 1) := by decide +kernel
theorem d_Law_law_448 : decode code 448 = .ok (.aload_n 0, 1) := by decide +kernel
theorem d_Law_law_449 : decode code 449 = .ok (.iload 4, 2) := by decide +kernel
theorem d_Law_law_451 : decode code 451 = .ok (.iconst 1, 1) := by decide +kernel
theorem d_Law_law_452 : decode code 452 = .ok (.iadd, 1) := by decide +kernel
theorem d_Law_law_453 : decode code 453 = .ok (.iaload, 1) := by decide +kernel
theorem d_Law_law_454 : decode code 454 = .ok (.aload_n 0, 1) := by decide +kernel
theorem d_Law_law_455 : decode code 455 = .ok (.iload 4, 2) := by decide +kernel
theorem d_Law_law_457 : decode code 457 = .ok (.iconst 2, 1) := by decide +kernel
theorem d_Law_law_458 : decode code 458 = .ok (.iadd, 1) := by decide +kernel
theorem d_Law_law_459 : decode code 459 = .ok (.iaload, 1) := by decide +kernel
theorem d_Law_law_460 : decode code 460 = .ok (.invokevirtual 65, 3) := by decide +kernel
theorem d_Law_law_463 : decode code 463 = .ok (.if_icmp .eq 353, 3) := by decide +kernel
theorem d_Law_law_466 : decode code 466 = .ok (.iconst 0, 1) := by decide +kernel
theorem d_Law_law_467 : decode code 467 = .ok (.ireturn, 1) := by decide +kernel
theorem d_Law_law_468 : decode code 468 = .ok (.aload_n 1, 1) := by decide +kernel
theorem d_Law_law_469 : decode code 469 = .ok (.invokevirtual 66, 3) := by decide +kernel
theorem d_Law_law_472 : decode code 472 = .ok (.aload_n 2, 1) := by decide +kernel
theorem d_Law_law_473 : decode code 473 = .ok (.invokevirtual 69, 3) := by decide +kernel
theorem d_Law_law_476 : decode code 476 = .ok (.if_icmp .eq 340, 3) := by decide +kernel
theorem d_Law_law_479 : decode code 479 = .ok (.iconst 0, 1) := by decide +kernel
theorem d_Law_law_480 : decode code 480 = .ok (.ireturn, 1) := by decide +kernel
theorem d_Law_law_481 : decode code 481 = .ok (.aload_n 1, 1) := by decide +kernel
theorem d_Law_law_482 : decode code 482 = .ok (.aload_n 0, 1) := by decide +kernel
theorem d_Law_law_483 : decode code 483 = .ok (.iload 4, 2) := by decide +kernel
theorem d_Law_law_485 : decode code 485 = .ok (.iconst 1, 1) := by decide +kernel
theorem d_Law_law_486 : decode code 486 = .ok (.iadd, 1) := by decide +kernel
theorem d_Law_law_487 : decode code 487 = .ok (.iaload, 1) := by decide +kernel
theorem d_Law_law_488 : decode code 488 = .ok (.aload_n 0, 1) := by decide +kernel
theorem d_Law_law_489 : decode code 489 = .ok (.iload 4, 2) := by decide +kernel
theorem d_Law_law_491 : decode code 491 = .ok (.iconst 2, 1) := by decide +kernel
theorem d_Law_law_492 : decode code 492 = .ok (.iadd, 1) := by decide +kernel
theorem d_Law_law_493 : decode code 493 = .ok (.iaload, 1) := by decide +kernel
theorem d_Law_law_494 : decode code 494 = .ok (.ifCond .eq 7, 3) := by decide +kernel
theorem d_Law_law_497 : decode code 497 = .ok (.iconst 1, 1) := by decide +kernel
theorem d_Law_law_498 : decode code 498 = .ok (.goto 4, 3) := by decide +kernel
theorem d_Law_law_501 : decode code 501 = .ok (.iconst 0, 1) := by decide +kernel
theorem d_Law_law_502 : decode code 502 = .ok (.aload_n 0, 1) := by decide +kernel
theorem d_Law_law_503 : decode code 503 = .ok (.iload 4, 2) := by decide +kernel
theorem d_Law_law_505 : decode code 505 = .ok (.iconst 3, 1) := by decide +kernel
theorem d_Law_law_506 : decode code 506 = .ok (.iadd, 1) := by decide +kernel
theorem d_Law_law_507 : decode code 507 = .ok (.iaload, 1) := by decide +kernel
theorem d_Law_law_508 : decode code 508 = .ok (.invokevirtual 70, 3) := by decide +kernel
theorem d_Law_law_511 : decode code 511 = .ok (.aload_n 2, 1) := by decide +kernel
theorem d_Law_law_512 : decode code 512 = .ok (.aload_n 0, 1) := by decide +kernel
theorem d_Law_law_513 : decode code 513 = .ok (.iload 4, 2) := by decide +kernel
theorem d_Law_law_515 : decode code 515 = .ok (.iconst 1, 1) := by decide +kernel
theorem d_Law_law_516 : decode code 516 = .ok (.iadd, 1) := by decide +kernel
theorem d_Law_law_517 : decode code 517 = .ok (.iaload, 1) := by decide +kernel
theorem d_Law_law_518 : decode code 518 = .ok (.aload_n 0, 1) := by decide +kernel
theorem d_Law_law_519 : decode code 519 = .ok (.iload 4, 2) := by decide +kernel
theorem d_Law_law_521 : decode code 521 = .ok (.iconst 2, 1) := by decide +kernel
theorem d_Law_law_522 : decode code 522 = .ok (.iadd, 1) := by decide +kernel
theorem d_Law_law_523 : decode code 523 = .ok (.iaload, 1) := by decide +kernel
theorem d_Law_law_524 : decode code 524 = .ok (.ifCond .eq 7, 3) := by decide +kernel
theorem d_Law_law_527 : decode code 527 = .ok (.iconst 1, 1) := by decide +kernel
theorem d_Law_law_528 : decode code 528 = .ok (.goto 4, 3) := by decide +kernel
theorem d_Law_law_531 : decode code 531 = .ok (.iconst 0, 1) := by decide +kernel
theorem d_Law_law_532 : decode code 532 = .ok (.aload_n 0, 1) := by decide +kernel
theorem d_Law_law_533 : decode code 533 = .ok (.iload 4, 2) := by decide +kernel
theorem d_Law_law_535 : decode code 535 = .ok (.iconst 3, 1) := by decide +kernel
theorem d_Law_law_536 : decode code 536 = .ok (.iadd, 1) := by decide +kernel
theorem d_Law_law_537 : decode code 537 = .ok (.iaload, 1) := by decide +kernel
theorem d_Law_law_538 : decode code 538 = .ok (.invokevirtual 74, 3) := by decide +kernel
theorem d_Law_law_541 : decode code 541 = .ok (.if_icmp .eq 275, 3) := by decide +kernel
theorem d_Law_law_544 : decode code 544 = .ok (.iconst 0, 1) := by decide +kernel
theorem d_Law_law_545 : decode code 545 = .ok (.ireturn, 1) := by decide +kernel
theorem d_Law_law_546 : decode code 546 = .ok (.aload_n 1, 1) := by decide +kernel
theorem d_Law_law_547 : decode code 547 = .ok (.aload_n 0, 1) := by decide +kernel
theorem d_Law_law_548 : decode code 548 = .ok (.iload 4, 2) := by decide +kernel
theorem d_Law_law_550 : decode code 550 = .ok (.iconst 1, 1) := by decide +kernel
theorem d_Law_law_551 : decode code 551 = .ok (.iadd, 1) := by decide +kernel
theorem d_Law_law_552 : decode code 552 = .ok (.iaload, 1) := by decide +kernel
theorem d_Law_law_553 : decode code 553 = .ok (.aload_n 3, 1) := by decide +kernel
theorem d_Law_law_554 : decode code 554 = .ok (.invokestatic 75, 3) := by decide +kernel
theorem d_Law_law_557 : decode code 557 = .ok (.istore 5, 2) := by decide +kernel
theorem d_Law_law_559 : decode code 559 = .ok (.aload_n 2, 1) := by decide +kernel
theorem d_Law_law_560 : decode code 560 = .ok (.aload_n 0, 1) := by decide +kernel
theorem d_Law_law_561 : decode code 561 = .ok (.iload 4, 2) := by decide +kernel
theorem d_Law_law_563 : decode code 563 = .ok (.iconst 1, 1) := by decide +kernel
theorem d_Law_law_564 : decode code 564 = .ok (.iadd, 1) := by decide +kernel
theorem d_Law_law_565 : decode code 565 = .ok (.iaload, 1) := by decide +kernel
theorem d_Law_law_566 : decode code 566 = .ok (.invokevirtual 78, 3) := by decide +kernel
theorem d_Law_law_569 : decode code 569 = .ok (.istore 6, 2) := by decide +kernel
theorem d_Law_law_571 : decode code 571 = .ok (.aload_n 2, 1) := by decide +kernel
theorem d_Law_law_572 : decode code 572 = .ok (.invokevirtual 42, 3) := by decide +kernel
theorem d_Law_law_575 : decode code 575 = .ok (.iload 5, 2) := by decide +kernel
theorem d_Law_law_577 : decode code 577 = .ok (.if_icmp .eq 5, 3) := by decide +kernel
theorem d_Law_law_580 : decode code 580 = .ok (.iconst 0, 1) := by decide +kernel
theorem d_Law_law_581 : decode code 581 = .ok (.ireturn, 1) := by decide +kernel
theorem d_Law_law_582 : decode code 582 = .ok (.iload 5, 2) := by decide +kernel
theorem d_Law_law_584 : decode code 584 = .ok (.ifCond .ne 15, 3) := by decide +kernel
theorem d_Law_law_587 : decode code 587 = .ok (.aload_n 3, 1) := by decide +kernel
theorem d_Law_law_588 : decode code 588 = .ok (.iconst 0, 1) := by decide +kernel
theorem d_Law_law_589 : decode code 589 = .ok (.laload, 1) := by decide +kernel
theorem d_Law_law_590 : decode code 590 = .ok (.iload 6, 2) := by decide +kernel
theorem d_Law_law_592 : decode code 592 = .ok (.i2l, 1) := by decide +kernel
theorem d_Law_law_593 : decode code 593 = .ok (.lcmp, 1) := by decide +kernel
theorem d_Law_law_594 : decode code 594 = .ok (.ifCond .eq 5, 3) := by decide +kernel
theorem d_Law_law_597 : decode code 597 = .ok (.iconst 0, 1) := by decide +kernel
theorem d_Law_law_598 : decode code 598 = .ok (.ireturn, 1) := by decide +kernel
theorem d_Law_law_599 : decode code 599 = .ok (.goto 217, 3) := by decide +kernel
theorem d_Law_law_602 : decode code 602 = .ok (.aload_n 1, 1) := by decide +kernel
theorem d_Law_law_603 : decode code 603 = .ok (.aload_n 0, 1) := by decide +kernel
theorem d_Law_law_604 : decode code 604 = .ok (.iload 4, 2) := by decide +kernel
theorem d_Law_law_606 : decode code 606 = .ok (.iconst 1, 1) := by decide +kernel
theorem d_Law_law_607 : decode code 607 = .ok (.iadd, 1) := by decide +kernel
theorem d_Law_law_608 : decode code 608 = .ok (.iaload, 1) := by decide +kernel
theorem d_Law_law_609 : decode code 609 = .ok (.invokevirtual 79, 3) := by decide +kernel
theorem d_Law_law_612 : decode code 612 = .ok (.aload_n 2, 1) := by decide +kernel
theorem d_Law_law_613 : decode code 613 = .ok (.aload_n 0, 1) := by decide +kernel
theorem d_Law_law_614 : decode code 614 = .ok (.iload 4, 2) := by decide +kernel
theorem d_Law_law_616 : decode code 616 = .ok (.iconst 1, 1) := by decide +kernel
theorem d_Law_law_617 : decode code 617 = .ok (.iadd, 1) := by decide +kernel
theorem d_Law_law_618 : decode code 618 = .ok (.iaload, 1) := by decide +kernel
theorem d_Law_law_619 : decode code 619 = .ok (.invokevirtual 82, 3) := by decide +kernel
theorem d_Law_law_622 : decode code 622 = .ok (.if_icmp .eq 194, 3) := by decide +kernel
theorem d_Law_law_625 : decode code 625 = .ok (.iconst 0, 1) := by decide +kernel
theorem d_Law_law_626 : decode code 626 = .ok (.ireturn, 1) := by decide +kernel
theorem d_Law_law_627 : decode code 627 = .ok (.aload_n 1, 1) := by decide +kernel
theorem d_Law_law_628 : decode code 628 = .ok (.aload_n 3, 1) := by decide +kernel
theorem d_Law_law_629 : decode code 629 = .ok (.invokestatic 83, 3) := by decide +kernel
theorem d_Law_law_632 : decode code 632 = .ok (.istore 5, 2) := by decide +kernel
theorem d_Law_law_634 : decode code 634 = .ok (.aload_n 2, 1) := by decide +kernel
theorem d_Law_law_635 : decode code 635 = .ok (.invokevirtual 86, 3) := by decide +kernel
theorem d_Law_law_638 : decode code 638 = .ok (.istore 6, 2) := by decide +kernel
theorem d_Law_law_640 : decode code 640 = .ok (.aload_n 2, 1) := by decide +kernel
theorem d_Law_law_641 : decode code 641 = .ok (.invokevirtual 42, 3) := by decide +kernel
theorem d_Law_law_644 : decode code 644 = .ok (.iload 5, 2) := by decide +kernel
theorem d_Law_law_646 : decode code 646 = .ok (.if_icmp .eq 5, 3) := by decide +kernel
theorem d_Law_law_649 : decode code 649 = .ok (.iconst 0, 1) := by decide +kernel
theorem d_Law_law_650 : decode code 650 = .ok (.ireturn, 1) := by decide +kernel
theorem d_Law_law_651 : decode code 651 = .ok (.iload 5, 2) := by decide +kernel
theorem d_Law_law_653 : decode code 653 = .ok (.ifCond .ne 15, 3) := by decide +kernel
theorem d_Law_law_656 : decode code 656 = .ok (.aload_n 3, 1) := by decide +kernel
theorem d_Law_law_657 : decode code 657 = .ok (.iconst 0, 1) := by decide +kernel
theorem d_Law_law_658 : decode code 658 = .ok (.laload, 1) := by decide +kernel
theorem d_Law_law_659 : decode code 659 = .ok (.iload 6, 2) := by decide +kernel
theorem d_Law_law_661 : decode code 661 = .ok (.i2l, 1) := by decide +kernel
theorem d_Law_law_662 : decode code 662 = .ok (.lcmp, 1) := by decide +kernel
theorem d_Law_law_663 : decode code 663 = .ok (.ifCond .eq 5, 3) := by decide +kernel
theorem d_Law_law_666 : decode code 666 = .ok (.iconst 0, 1) := by decide +kernel
theorem d_Law_law_667 : decode code 667 = .ok (.ireturn, 1) := by decide +kernel
theorem d_Law_law_668 : decode code 668 = .ok (.goto 148, 3) := by decide +kernel
theorem d_Law_law_671 : decode code 671 = .ok (.aload_n 1, 1) := by decide +kernel
theorem d_Law_law_672 : decode code 672 = .ok (.invokevirtual 87, 3) := by decide +kernel
theorem d_Law_law_675 : decode code 675 = .ok (.aload_n 2, 1) := by decide +kernel
theorem d_Law_law_676 : decode code 676 = .ok (.invokevirtual 90, 3) := by decide +kernel
theorem d_Law_law_679 : decode code 679 = .ok (.goto 137, 3) := by decide +kernel
theorem d_Law_law_682 : decode code 682 = .ok (.aload_n 1, 1) := by decide +kernel
theorem d_Law_law_683 : decode code 683 = .ok (.invokevirtual 91, 3) := by decide +kernel
theorem d_Law_law_686 : decode code 686 = .ok (.aload_n 2, 1) := by decide +kernel
theorem d_Law_law_687 : decode code 687 = .ok (.invokevirtual 94, 3) := by decide +kernel
theorem d_Law_law_690 : decode code 690 = .ok (.if_icmp .eq 126, 3) := by decide +kernel
theorem d_Law_law_693 : decode code 693 = .ok (.iconst 0, 1) := by decide +kernel
theorem d_Law_law_694 : decode code 694 = .ok (.ireturn, 1) := by decide +kernel
theorem d_Law_law_695 : decode code 695 = .ok (.aload_n 1, 1) := by decide +kernel
theorem d_Law_law_696 : decode code 696 = .ok (.invokevirtual 95, 3) := by decide +kernel
theorem d_Law_law_699 : decode code 699 = .ok (.aload_n 2, 1) := by decide +kernel
theorem d_Law_law_700 : decode code 700 = .ok (.invokevirtual 98, 3) := by decide +kernel
theorem d_Law_law_703 : decode code 703 = .ok (.if_icmp .eq 113, 3) := by decide +kernel
theorem d_Law_law_706 : decode code 706 = .ok (.iconst 0, 1) := by decide +kernel
theorem d_Law_law_707 : decode code 707 = .ok (.ireturn, 1) := by decide +kernel
theorem d_Law_law_708 : decode code 708 = .ok (.aload_n 1, 1) := by decide +kernel
theorem d_Law_law_709 : decode code 709 = .ok (.aload_n 0, 1) := by decide +kernel
theorem d_Law_law_710 : decode code 710 = .ok (.iload 4, 2) := by decide +kernel
theorem d_Law_law_712 : decode code 712 = .ok (.iconst 1, 1) := by decide +kernel
theorem d_Law_law_713 : decode code 713 = .ok (.iadd, 1) := by decide +kernel
theorem d_Law_law_714 : decode code 714 = .ok (.iaload, 1) := by decide +kernel
theorem d_Law_law_715 : decode code 715 = .ok (.i2l, 1) := by decide +kernel
theorem d_Law_law_716 : decode code 716 = .ok (.bipush 32, 2) := by decide +kernel
theorem d_Law_law_718 : decode code 718 = .ok (.lshl, 1) := by decide +kernel
theorem d_Law_law_719 : decode code 719 = .ok (.aload_n 0, 1) := by decide +kernel
theorem d_Law_law_720 : decode code 720 = .ok (.iload 4, 2) := by decide +kernel
theorem d_Law_law_722 : decode code 722 = .ok (.iconst 2, 1) := by decide +kernel
theorem d_Law_law_723 : decode code 723 = .ok (.iadd, 1) := by decide +kernel
theorem d_Law_law_724 : decode code 724 = .ok (.iaload, 1) := by decide +kernel
theorem d_Law_law_725 : decode code 725 = .ok (.i2l, 1) := by decide +kernel
theorem d_Law_law_726 : decode code 726 = .ok (.ldc2_w 99, 3) := by decide +kernel
theorem d_Law_law_729 : decode code 729 = .ok (.land, 1) := by decide +kernel
theorem d_Law_law_730 : decode code 730 = .ok (.lor, 1) := by decide +kernel
theorem d_Law_law_731 : decode code 731 = .ok (.invokevirtual 101, 3) := by decide +kernel
theorem d_Law_law_734 : decode code 734 = .ok (.aload_n 2, 1) := by decide +kernel
theorem d_Law_law_735 : decode code 735 = .ok (.aload_n 0, 1) := by decide +kernel
theorem d_Law_law_736 : decode code 736 = .ok (.iload 4, 2) := by decide +kernel
theorem d_Law_law_738 : decode code 738 = .ok (.iconst 1, 1) := by decide +kernel
theorem d_Law_law_739 : decode code 739 = .ok (.iadd, 1) := by decide +kernel
theorem d_Law_law_740 : decode code 740 = .ok (.iaload, 1) := by decide +kernel
theorem d_Law_law_741 : decode code 741 = .ok (.i2l, 1) := by decide +kernel
theorem d_Law_law_742 : decode code 742 = .ok (.bipush 32, 2) := by decide +kernel
theorem d_Law_law_744 : decode code 744 = .ok (.lshl, 1) := by decide +kernel
theorem d_Law_law_745 : decode code 745 = .ok (.aload_n 0, 1) := by decide +kernel
theorem d_Law_law_746 : decode code 746 = .ok (.iload 4, 2) := by decide +kernel
theorem d_Law_law_748 : decode code 748 = .ok (.iconst 2, 1) := by decide +kernel
theorem d_Law_law_749 : decode code 749 = .ok (.iadd, 1) := by decide +kernel
theorem d_Law_law_750 : decode code 750 = .ok (.iaload, 1) := by decide +kernel
theorem d_Law_law_751 : decode code 751 = .ok (.i2l, 1) := by decide +kernel
theorem d_Law_law_752 : decode code 752 = .ok (.ldc2_w 99, 3) := by decide +kernel
theorem d_Law_law_755 : decode code 755 = .ok (.land, 1) := by decide +kernel
theorem d_Law_law_756 : decode code 756 = .ok (.lor, 1) := by decide +kernel
theorem d_Law_law_757 : decode code 757 = .ok (.invokevirtual 105, 3) := by decide +kernel
theorem d_Law_law_760 : decode code 760 = .ok (.if_icmp .eq 56, 3) := by decide +kernel
theorem d_Law_law_763 : decode code 763 = .ok (.iconst 0, 1) := by decide +kernel
theorem d_Law_law_764 : decode code 764 = .ok (.ireturn, 1) := by decide +kernel
theorem d_Law_law_765 : decode code 765 = .ok (.aload_n 1, 1) := by decide +kernel
theorem d_Law_law_766 : decode code 766 = .ok (.invokevirtual 106, 3) := by decide +kernel
theorem d_Law_law_769 : decode code 769 = .ok (.aload_n 2, 1) := by decide +kernel
theorem d_Law_law_770 : decode code 770 = .ok (.invokevirtual 109, 3) := by decide +kernel
theorem d_Law_law_773 : decode code 773 = .ok (.if_icmp .eq 43, 3) := by decide +kernel
theorem d_Law_law_776 : decode code 776 = .ok (.iconst 0, 1) := by decide +kernel
theorem d_Law_law_777 : decode code 777 = .ok (.ireturn, 1) := by decide +kernel
theorem d_Law_law_778 : decode code 778 = .ok (.aload_n 1, 1) := by decide +kernel
theorem d_Law_law_779 : decode code 779 = .ok (.aload_n 0, 1) := by decide +kernel
theorem d_Law_law_780 : decode code 780 = .ok (.iload 4, 2) := by decide +kernel
theorem d_Law_law_782 : decode code 782 = .ok (.iconst 1, 1) := by decide +kernel
theorem d_Law_law_783 : decode code 783 = .ok (.iadd, 1) := by decide +kernel
theorem d_Law_law_784 : decode code 784 = .ok (.iaload, 1) := by decide +kernel
theorem d_Law_law_785 : decode code 785 = .ok (.invokevirtual 110, 3) := by decide +kernel
theorem d_Law_law_788 : decode code 788 = .ok (.aload_n 2, 1) := by decide +kernel
theorem d_Law_law_789 : decode code 789 = .ok (.aload_n 0, 1) := by decide +kernel
theorem d_Law_law_790 : decode code 790 = .ok (.iload 4, 2) := by decide +kernel
theorem d_Law_law_792 : decode code 792 = .ok (.iconst 1, 1) := by decide +kernel
theorem d_Law_law_793 : decode code 793 = .ok (.iadd, 1) := by decide +kernel
theorem d_Law_law_794 : decode code 794 = .ok (.iaload, 1) := by decide +kernel
theorem d_Law_law_795 : decode code 795 = .ok (.invokevirtual 113, 3) := by decide +kernel
theorem d_Law_law_798 : decode code 798 = .ok (.if_icmp .eq 18, 3) := by decide +kernel
theorem d_Law_law_801 : decode code 801 = .ok (.iconst 0, 1) := by decide +kernel
theorem d_Law_law_802 : decode code 802 = .ok (.ireturn, 1) := by decide +kernel
theorem d_Law_law_803 : decode code 803 = .ok (.aload_n 1, 1) := by decide +kernel
theorem d_Law_law_804 : decode code 804 = .ok (.invokevirtual 114, 3) := by decide +kernel
theorem d_Law_law_807 : decode code 807 = .ok (.aload_n 2, 1) := by decide +kernel
theorem d_Law_law_808 : decode code 808 = .ok (.invokevirtual 117, 3) := by decide +kernel
theorem d_Law_law_811 : decode code 811 = .ok (.if_icmp .eq 5, 3) := by decide +kernel
theorem d_Law_law_814 : decode code 814 = .ok (.iconst 0, 1) := by decide +kernel
theorem d_Law_law_815 : decode code 815 = .ok (.ireturn, 1) := by decide +kernel
theorem d_Law_law_816 : decode code 816 = .ok (.iinc 4 6, 3) := by decide +kernel
theorem d_Law_law_819 : decode code 819 = .ok (.goto (-796), 3) := by decide +kernel
theorem d_Law_law_822 : decode code 822 = .ok (.iconst 1, 1) := by decide +kernel
theorem d_Law_law_823 : decode code 823 = .ok (.ireturn, 1) := by decide +kernel
theorem lw_steps {Q : gx_P} {sb L0 B i b1 b2 : Nat} {xs : Nat → Int32} {L5 L6 : Option Value} (hL : L0 ≤ 3072) (hi : i + 6 ≤ L0) {w : gx_W} {S : sp_St} (h : lwI B w S) (hX : ∀ w' S' L5 L6, lwI B w' S' → gx_X (gx_cF sb L0 xs) M_Law_law 10 Q 816 [some (.ref sb), some (.ref B), some (.ref (B + 360)), some (.ref (B + 385)), some (.int (nI i)), L5, L6] [] w' (b1, b2)) : gx_X (gx_cF sb L0 xs) M_Law_law 10 Q 405 [some (.ref sb), some (.ref B), some (.ref (B + 360)), some (.ref (B + 385)), some (.int (nI i)), L5, L6] [] w (b1 + 1, b2 + 6) := by
  obtain ⟨hP, ⟨I, A, hmo, hm⟩, ⟨f, hO⟩, hS, hT⟩ := h
  have hB := hP.1.1
  refine gx_bud b1 b2 (Nat.le_succ _) (Nat.le_add_right _ _) ?_
  refine gx_aload_n d_Law_law_405 rfl ?_
  refine gx_cV1 lk_Law_52 d_Law_law_406 (ct_steps hP) (Or.inl ⟨_, hB⟩) (by omega) rfl rfl (Nat.le_of_ble_eq_true rfl) ?_
  refine gx_aload_n d_Law_law_409 rfl ?_
  refine gx_w hmo ?_
  refine gx_cVr lk_Law_55 d_Law_law_410 (cm_steps hm hS) (Or.inl ⟨_, mo_o⟩) (by omega) rfl rfl (Nat.le_of_ble_eq_true rfl) (fun r1 w1 hq => ?_)
  obtain ⟨rfl, I2, A2, rfl, hm2, _⟩ := hq
  refine gx_icmp_eq (tgt := 816) d_Law_law_413 (by decide) (fun h413 => ?_) (fun h413 => ?_)
  · exact hX _ S _ _ (lwI.mo hP hO hm2 hS hT)
  · exact absurd rfl h413
theorem lw_halts {Q : gx_P} {sb L0 B i b1 b2 : Nat} {xs : Nat → Int32} {L5 L6 : Option Value} (hL : L0 ≤ 3072) (hi : i + 6 ≤ L0) {w : gx_W} {S : sp_St} (h : lwI B w S) (hX : ∀ w' S' L5 L6, lwI B w' S' → gx_X (gx_cF sb L0 xs) M_Law_law 10 Q 816 [some (.ref sb), some (.ref B), some (.ref (B + 360)), some (.ref (B + 385)), some (.int (nI i)), L5, L6] [] w' (b1, b2)) : gx_X (gx_cF sb L0 xs) M_Law_law 10 Q 418 [some (.ref sb), some (.ref B), some (.ref (B + 360)), some (.ref (B + 385)), some (.int (nI i)), L5, L6] [] w (b1 + 1, b2 + 6) := by
  obtain ⟨hP, ⟨I, A, hmo, hm⟩, ⟨f, hO⟩, hS, hT⟩ := h
  have hB := hP.1.1
  refine gx_bud b1 b2 (Nat.le_succ _) (Nat.le_add_right _ _) ?_
  refine gx_aload_n d_Law_law_418 rfl ?_
  refine gx_cV1 lk_Law_56 d_Law_law_419 (ct_halts hP hS.1 hS.2.1) (Or.inl ⟨_, hB⟩) (by omega) rfl rfl (Nat.le_of_ble_eq_true rfl) ?_
  refine gx_aload_n d_Law_law_422 rfl ?_
  refine gx_w hmo ?_
  refine gx_cVr lk_Law_60 d_Law_law_423 (cm_halts hm hS) (Or.inl ⟨_, mo_o⟩) (by omega) rfl rfl (Nat.le_of_ble_eq_true rfl) (fun r1 w1 hq => ?_)
  obtain ⟨rfl, I2, A2, rfl, hm2, _⟩ := hq
  refine gx_icmp_eq (tgt := 816) d_Law_law_426 (by decide) (fun h426 => ?_) (fun h426 => ?_)
  · exact hX _ S _ _ (lwI.mo hP hO hm2 hS hT)
  · exact absurd rfl h426
theorem lw_dominoes {Q : gx_P} {sb L0 B i b1 b2 : Nat} {xs : Nat → Int32} {L5 L6 : Option Value} (hL : L0 ≤ 3072) (hi : i + 6 ≤ L0) {w : gx_W} {S : sp_St} (h : lwI B w S) (hX : ∀ w' S' L5 L6, lwI B w' S' → gx_X (gx_cF sb L0 xs) M_Law_law 10 Q 816 [some (.ref sb), some (.ref B), some (.ref (B + 360)), some (.ref (B + 385)), some (.int (nI i)), L5, L6] [] w' (b1, b2)) : gx_X (gx_cF sb L0 xs) M_Law_law 10 Q 468 [some (.ref sb), some (.ref B), some (.ref (B + 360)), some (.ref (B + 385)), some (.int (nI i)), L5, L6] [] w (b1 + 1, b2 + 6) := by
  obtain ⟨hP, ⟨I, A, hmo, hm⟩, ⟨f, hO⟩, hS, hT⟩ := h
  have hB := hP.1.1
  refine gx_bud b1 b2 (Nat.le_succ _) (Nat.le_add_right _ _) ?_
  refine gx_aload_n d_Law_law_468 rfl ?_
  refine gx_cV1 lk_Law_66 d_Law_law_469 (ct_dominoes hP) (Or.inl ⟨_, hB⟩) (by omega) rfl rfl (Nat.le_of_ble_eq_true rfl) ?_
  refine gx_aload_n d_Law_law_472 rfl ?_
  refine gx_w hmo ?_
  refine gx_cVr lk_Law_69 d_Law_law_473 (cm_dominoes hm hS) (Or.inl ⟨_, mo_o⟩) (by omega) rfl rfl (Nat.le_of_ble_eq_true rfl) (fun r1 w1 hq => ?_)
  obtain ⟨rfl, I2, A2, rfl, hm2, _⟩ := hq
  refine gx_icmp_eq (tgt := 816) d_Law_law_476 (by decide) (fun h476 => ?_) (fun h476 => ?_)
  · exact hX _ S _ _ (lwI.mo hP hO hm2 hS hT)
  · exact absurd rfl h476
theorem lw_looked {Q : gx_P} {sb L0 B i b1 b2 : Nat} {xs : Nat → Int32} {L5 L6 : Option Value} (hL : L0 ≤ 3072) (hi : i + 6 ≤ L0) {w : gx_W} {S : sp_St} (h : lwI B w S) (hX : ∀ w' S' L5 L6, lwI B w' S' → gx_X (gx_cF sb L0 xs) M_Law_law 10 Q 816 [some (.ref sb), some (.ref B), some (.ref (B + 360)), some (.ref (B + 385)), some (.int (nI i)), L5, L6] [] w' (b1, b2)) : gx_X (gx_cF sb L0 xs) M_Law_law 10 Q 803 [some (.ref sb), some (.ref B), some (.ref (B + 360)), some (.ref (B + 385)), some (.int (nI i)), L5, L6] [] w (b1 + 1, b2 + 6) := by
  obtain ⟨hP, ⟨I, A, hmo, hm⟩, ⟨f, hO⟩, hS, hT⟩ := h
  have hB := hP.1.1
  refine gx_bud b1 b2 (Nat.le_succ _) (Nat.le_add_right _ _) ?_
  refine gx_aload_n d_Law_law_803 rfl ?_
  refine gx_cV1 lk_Law_114 d_Law_law_804 (ct_looked hP) (Or.inl ⟨_, hB⟩) (by omega) rfl rfl (Nat.le_of_ble_eq_true rfl) ?_
  refine gx_aload_n d_Law_law_807 rfl ?_
  refine gx_w hmo ?_
  refine gx_cVr lk_Law_117 d_Law_law_808 (cm_looked hm hS) (Or.inl ⟨_, mo_o⟩) (by omega) rfl rfl (Nat.le_of_ble_eq_true rfl) (fun r1 w1 hq => ?_)
  obtain ⟨rfl, I2, A2, rfl, hm2, _⟩ := hq
  refine gx_icmp_eq (tgt := 816) d_Law_law_811 (by decide) (fun h811 => ?_) (fun h811 => ?_)
  · exact hX _ S _ _ (lwI.mo hP hO hm2 hS hT)
  · exact absurd rfl h811
theorem lw_run {Q : gx_P} {sb L0 B i b1 b2 : Nat} {xs : Nat → Int32} {L5 L6 : Option Value} (hL : L0 ≤ 3072) (hi : i + 6 ≤ L0) {w : gx_W} {S : sp_St} (h : lwI B w S) (hX : ∀ w' S' L5 L6, lwI B w' S' → gx_X (gx_cF sb L0 xs) M_Law_law 10 Q 816 [some (.ref sb), some (.ref B), some (.ref (B + 360)), some (.ref (B + 385)), some (.int (nI i)), L5, L6] [] w' (b1, b2)) : gx_X (gx_cF sb L0 xs) M_Law_law 10 Q 431 [some (.ref sb), some (.ref B), some (.ref (B + 360)), some (.ref (B + 385)), some (.int (nI i)), L5, L6] [] w (b1 + 1, b2 + 6) := by
  obtain ⟨hP, ⟨I, A, hmo, hm⟩, ⟨f, hO⟩, hS, hT⟩ := h
  have hB := hP.1.1
  refine gx_bud b1 b2 (Nat.le_succ _) (Nat.le_add_right _ _) ?_
  refine gx_aload_n d_Law_law_431 rfl ?_
  refine gx_aload_n d_Law_law_432 rfl ?_
  refine gx_iload d_Law_law_433 rfl ?_
  refine gx_iconst d_Law_law_435 (nI 1) (by decide) ?_
  refine gx_iaddN d_Law_law_436 ?_
  refine gx_cld (by omega) (by omega) d_Law_law_437 ?_
  refine gx_aload_n d_Law_law_438 rfl ?_
  refine gx_iload d_Law_law_439 rfl ?_
  refine gx_iconst d_Law_law_441 (nI 2) (by decide) ?_
  refine gx_iaddN d_Law_law_442 ?_
  refine gx_cld (by omega) (by omega) d_Law_law_443 ?_
  refine gx_cV1 lk_Law_61 d_Law_law_444 (ct_run hP) (Or.inl ⟨_, hB⟩) (by omega) rfl rfl (Nat.le_of_ble_eq_true rfl) ?_
  refine gx_aload_n d_Law_law_447 rfl ?_
  refine gx_aload_n d_Law_law_448 rfl ?_
  refine gx_iload d_Law_law_449 rfl ?_
  refine gx_iconst d_Law_law_451 (nI 1) (by decide) ?_
  refine gx_iaddN d_Law_law_452 ?_
  refine gx_cld (by omega) (by omega) d_Law_law_453 ?_
  refine gx_aload_n d_Law_law_454 rfl ?_
  refine gx_iload d_Law_law_455 rfl ?_
  refine gx_iconst d_Law_law_457 (nI 2) (by decide) ?_
  refine gx_iaddN d_Law_law_458 ?_
  refine gx_cld (by omega) (by omega) d_Law_law_459 ?_
  refine gx_w hmo ?_
  refine gx_cV1 lk_Law_65 d_Law_law_460 (cm_run hm hS) (Or.inl ⟨_, mo_o⟩) (by omega) rfl rfl (Nat.le_of_ble_eq_true rfl) ?_
  refine gx_icmp_eq (tgt := 816) d_Law_law_463 (by decide) (fun h463 => ?_) (fun h463 => ?_)
  · exact hX _ S _ _ (lwI.mo hP hO hm.t hS hT)
  · exact absurd rfl h463
theorem lw_domino1 {Q : gx_P} {sb L0 B i b1 b2 : Nat} {xs : Nat → Int32} {L5 L6 : Option Value} (hL : L0 ≤ 3072) (hi : i + 6 ≤ L0) {w : gx_W} {S : sp_St} (h : lwI B w S) (hX : ∀ w' S' L5 L6, lwI B w' S' → gx_X (gx_cF sb L0 xs) M_Law_law 10 Q 816 [some (.ref sb), some (.ref B), some (.ref (B + 360)), some (.ref (B + 385)), some (.int (nI i)), L5, L6] [] w' (b1, b2)) (hz : ¬ xs (i + 2) = 0) : gx_X (gx_cF sb L0 xs) M_Law_law 10 Q 481 [some (.ref sb), some (.ref B), some (.ref (B + 360)), some (.ref (B + 385)), some (.int (nI i)), L5, L6] [] w (b1 + 1, b2 + 6) := by
  obtain ⟨hP, ⟨I, A, hmo, hm⟩, ⟨f, hO⟩, hS, hT⟩ := h
  have hB := hP.1.1
  refine gx_bud b1 b2 (Nat.le_succ _) (Nat.le_add_right _ _) ?_
  refine gx_aload_n d_Law_law_481 rfl ?_
  refine gx_aload_n d_Law_law_482 rfl ?_
  refine gx_iload d_Law_law_483 rfl ?_
  refine gx_iconst d_Law_law_485 (nI 1) (by decide) ?_
  refine gx_iaddN d_Law_law_486 ?_
  refine gx_cld (by omega) (by omega) d_Law_law_487 ?_
  refine gx_aload_n d_Law_law_488 rfl ?_
  refine gx_iload d_Law_law_489 rfl ?_
  refine gx_iconst d_Law_law_491 (nI 2) (by decide) ?_
  refine gx_iaddN d_Law_law_492 ?_
  refine gx_cld (by omega) (by omega) d_Law_law_493 ?_
  refine gx_if_eq (tgt := 501) d_Law_law_494 (by decide) (fun h494 => ?_) (fun h494 => ?_)
  · exact absurd h494 hz
  · refine gx_iconst d_Law_law_497 (nI 1) (by decide) ?_
    refine gx_goto (tgt := 502) d_Law_law_498 (by decide) ?_
    refine gx_aload_n d_Law_law_502 rfl ?_
    refine gx_iload d_Law_law_503 rfl ?_
    refine gx_iconst d_Law_law_505 (nI 3) (by decide) ?_
    refine gx_iaddN d_Law_law_506 ?_
    refine gx_cld (by omega) (by omega) d_Law_law_507 ?_
    refine gx_cV1 lk_Law_70 d_Law_law_508 (ct_domino (up := true) hP) (Or.inl ⟨_, hB⟩) (by omega) rfl rfl (Nat.le_of_ble_eq_true rfl) ?_
    refine gx_aload_n d_Law_law_511 rfl ?_
    refine gx_aload_n d_Law_law_512 rfl ?_
    refine gx_iload d_Law_law_513 rfl ?_
    refine gx_iconst d_Law_law_515 (nI 1) (by decide) ?_
    refine gx_iaddN d_Law_law_516 ?_
    refine gx_cld (by omega) (by omega) d_Law_law_517 ?_
    refine gx_aload_n d_Law_law_518 rfl ?_
    refine gx_iload d_Law_law_519 rfl ?_
    refine gx_iconst d_Law_law_521 (nI 2) (by decide) ?_
    refine gx_iaddN d_Law_law_522 ?_
    refine gx_cld (by omega) (by omega) d_Law_law_523 ?_
    refine gx_if_eq (tgt := 531) d_Law_law_524 (by decide) (fun h524 => ?_) (fun h524 => ?_)
    · exact absurd h524 hz
    · refine gx_iconst d_Law_law_527 (nI 1) (by decide) ?_
      refine gx_goto (tgt := 532) d_Law_law_528 (by decide) ?_
      refine gx_aload_n d_Law_law_532 rfl ?_
      refine gx_iload d_Law_law_533 rfl ?_
      refine gx_iconst d_Law_law_535 (nI 3) (by decide) ?_
      refine gx_iaddN d_Law_law_536 ?_
      refine gx_cld (by omega) (by omega) d_Law_law_537 ?_
      refine gx_w hmo ?_
      refine gx_cV1 lk_Law_74 d_Law_law_538 (cm_domino (up := true) hm hS) (Or.inl ⟨_, mo_o⟩) (by omega) rfl rfl (Nat.le_of_ble_eq_true rfl) ?_
      refine gx_icmp_eq (tgt := 816) d_Law_law_541 (by decide) (fun h541 => ?_) (fun h541 => ?_)
      · exact hX _ S _ _ (lwI.mo hP hO hm.t hS hT)
      · exact absurd rfl h541
theorem lw_domino0 {Q : gx_P} {sb L0 B i b1 b2 : Nat} {xs : Nat → Int32} {L5 L6 : Option Value} (hL : L0 ≤ 3072) (hi : i + 6 ≤ L0) {w : gx_W} {S : sp_St} (h : lwI B w S) (hX : ∀ w' S' L5 L6, lwI B w' S' → gx_X (gx_cF sb L0 xs) M_Law_law 10 Q 816 [some (.ref sb), some (.ref B), some (.ref (B + 360)), some (.ref (B + 385)), some (.int (nI i)), L5, L6] [] w' (b1, b2)) (hz : xs (i + 2) = 0) : gx_X (gx_cF sb L0 xs) M_Law_law 10 Q 481 [some (.ref sb), some (.ref B), some (.ref (B + 360)), some (.ref (B + 385)), some (.int (nI i)), L5, L6] [] w (b1 + 1, b2 + 6) := by
  obtain ⟨hP, ⟨I, A, hmo, hm⟩, ⟨f, hO⟩, hS, hT⟩ := h
  have hB := hP.1.1
  refine gx_bud b1 b2 (Nat.le_succ _) (Nat.le_add_right _ _) ?_
  refine gx_aload_n d_Law_law_481 rfl ?_
  refine gx_aload_n d_Law_law_482 rfl ?_
  refine gx_iload d_Law_law_483 rfl ?_
  refine gx_iconst d_Law_law_485 (nI 1) (by decide) ?_
  refine gx_iaddN d_Law_law_486 ?_
  refine gx_cld (by omega) (by omega) d_Law_law_487 ?_
  refine gx_aload_n d_Law_law_488 rfl ?_
  refine gx_iload d_Law_law_489 rfl ?_
  refine gx_iconst d_Law_law_491 (nI 2) (by decide) ?_
  refine gx_iaddN d_Law_law_492 ?_
  refine gx_cld (by omega) (by omega) d_Law_law_493 ?_
  refine gx_if_eq (tgt := 501) d_Law_law_494 (by decide) (fun h494 => ?_) (fun h494 => ?_)
  · refine gx_iconst d_Law_law_501 (nI 0) (by decide) ?_
    refine gx_aload_n d_Law_law_502 rfl ?_
    refine gx_iload d_Law_law_503 rfl ?_
    refine gx_iconst d_Law_law_505 (nI 3) (by decide) ?_
    refine gx_iaddN d_Law_law_506 ?_
    refine gx_cld (by omega) (by omega) d_Law_law_507 ?_
    refine gx_cV1 lk_Law_70 d_Law_law_508 (ct_domino (up := false) hP) (Or.inl ⟨_, hB⟩) (by omega) rfl rfl (Nat.le_of_ble_eq_true rfl) ?_
    refine gx_aload_n d_Law_law_511 rfl ?_
    refine gx_aload_n d_Law_law_512 rfl ?_
    refine gx_iload d_Law_law_513 rfl ?_
    refine gx_iconst d_Law_law_515 (nI 1) (by decide) ?_
    refine gx_iaddN d_Law_law_516 ?_
    refine gx_cld (by omega) (by omega) d_Law_law_517 ?_
    refine gx_aload_n d_Law_law_518 rfl ?_
    refine gx_iload d_Law_law_519 rfl ?_
    refine gx_iconst d_Law_law_521 (nI 2) (by decide) ?_
    refine gx_iaddN d_Law_law_522 ?_
    refine gx_cld (by omega) (by omega) d_Law_law_523 ?_
    refine gx_if_eq (tgt := 531) d_Law_law_524 (by decide) (fun h524 => ?_) (fun h524 => ?_)
    · refine gx_iconst d_Law_law_531 (nI 0) (by decide) ?_
      refine gx_aload_n d_Law_law_532 rfl ?_
      refine gx_iload d_Law_law_533 rfl ?_
      refine gx_iconst d_Law_law_535 (nI 3) (by decide) ?_
      refine gx_iaddN d_Law_law_536 ?_
      refine gx_cld (by omega) (by omega) d_Law_law_537 ?_
      refine gx_w hmo ?_
      refine gx_cV1 lk_Law_74 d_Law_law_538 (cm_domino (up := false) hm hS) (Or.inl ⟨_, mo_o⟩) (by omega) rfl rfl (Nat.le_of_ble_eq_true rfl) ?_
      refine gx_icmp_eq (tgt := 816) d_Law_law_541 (by decide) (fun h541 => ?_) (fun h541 => ?_)
      · exact hX _ S _ _ (lwI.mo hP hO hm.t hS hT)
      · exact absurd rfl h541
    · exact absurd hz h524
  · exact absurd hz h494
theorem lw_lay {Q : gx_P} {sb L0 B i b1 b2 : Nat} {xs : Nat → Int32} {L5 L6 : Option Value} (hL : L0 ≤ 3072) (hi : i + 6 ≤ L0) {w : gx_W} {S : sp_St} (h : lwI B w S) (hX : ∀ w' S' L5 L6, lwI B w' S' → gx_X (gx_cF sb L0 xs) M_Law_law 10 Q 816 [some (.ref sb), some (.ref B), some (.ref (B + 360)), some (.ref (B + 385)), some (.int (nI i)), L5, L6] [] w' (b1, b2)) : gx_X (gx_cF sb L0 xs) M_Law_law 10 Q 602 [some (.ref sb), some (.ref B), some (.ref (B + 360)), some (.ref (B + 385)), some (.int (nI i)), L5, L6] [] w (b1 + 1, b2 + 6) := by
  obtain ⟨hP, ⟨I, A, hmo, hm⟩, ⟨f, hO⟩, hS, hT⟩ := h
  have hB := hP.1.1
  refine gx_bud b1 b2 (Nat.le_succ _) (Nat.le_add_right _ _) ?_
  refine gx_aload_n d_Law_law_602 rfl ?_
  refine gx_aload_n d_Law_law_603 rfl ?_
  refine gx_iload d_Law_law_604 rfl ?_
  refine gx_iconst d_Law_law_606 (nI 1) (by decide) ?_
  refine gx_iaddN d_Law_law_607 ?_
  refine gx_cld (by omega) (by omega) d_Law_law_608 ?_
  refine gx_cVr lk_Law_79 d_Law_law_609 (ct_lay hP) (Or.inl ⟨_, hB⟩) (by omega) rfl rfl (Nat.le_of_ble_eq_true rfl) (fun r1 w1 hq => ?_)
  obtain ⟨rfl, p1, k1⟩ := hq
  refine gx_aload_n d_Law_law_612 rfl ?_
  refine gx_aload_n d_Law_law_613 rfl ?_
  refine gx_iload d_Law_law_614 rfl ?_
  refine gx_iconst d_Law_law_616 (nI 1) (by decide) ?_
  refine gx_iaddN d_Law_law_617 ?_
  refine gx_cld (by omega) (by omega) d_Law_law_618 ?_
  have hmo1 := mo_kp hmo k1
  have hO1 : w1.1 (B + 385) = some (gx_al8 5 1 f) := by rw [k1.2 _ (by omega)]; exact hO
  refine gx_w hmo1 ?_
  refine gx_cVr lk_Law_82 d_Law_law_619 (cm_lay hm hS) (Or.inl ⟨_, mo_o⟩) (by omega) rfl rfl (Nat.le_of_ble_eq_true rfl) (fun r1 w2 hq => ?_)
  obtain ⟨rfl, I2, A2, rfl, hm2, _⟩ := hq
  refine gx_icmp_eq (tgt := 816) d_Law_law_622 (by decide) (fun h622 => ?_) (fun h622 => ?_)
  · exact hX _ (S.1, S.2.1, (sp_lay (sp_dS S).length S.2.2.1 (xs (i + 1))).2, S.2.2.2.1, S.2.2.2.2) _ _ (lwI.mo p1 hO1 hm2 (sok_lay hS) hT)
  · exact absurd rfl h622
theorem lw_clear {Q : gx_P} {sb L0 B i b1 b2 : Nat} {xs : Nat → Int32} {L5 L6 : Option Value} (hL : L0 ≤ 3072) (hi : i + 6 ≤ L0) {w : gx_W} {S : sp_St} (h : lwI B w S) (hX : ∀ w' S' L5 L6, lwI B w' S' → gx_X (gx_cF sb L0 xs) M_Law_law 10 Q 816 [some (.ref sb), some (.ref B), some (.ref (B + 360)), some (.ref (B + 385)), some (.int (nI i)), L5, L6] [] w' (b1, b2)) : gx_X (gx_cF sb L0 xs) M_Law_law 10 Q 671 [some (.ref sb), some (.ref B), some (.ref (B + 360)), some (.ref (B + 385)), some (.int (nI i)), L5, L6] [] w (b1 + 1, b2 + 6) := by
  obtain ⟨hP, ⟨I, A, hmo, hm⟩, ⟨f, hO⟩, hS, hT⟩ := h
  have hB := hP.1.1
  refine gx_bud b1 b2 (Nat.le_succ _) (Nat.le_add_right _ _) ?_
  refine gx_aload_n d_Law_law_671 rfl ?_
  refine gx_cVr lk_Law_87 d_Law_law_672 (ct_clear hP) (Or.inl ⟨_, hB⟩) (by omega) rfl rfl (Nat.le_of_ble_eq_true rfl) (fun r1 w1 hq => ?_)
  obtain ⟨rfl, p1, k1⟩ := hq
  refine gx_aload_n d_Law_law_675 rfl ?_
  have hmo1 := mo_kp hmo k1
  have hO1 : w1.1 (B + 385) = some (gx_al8 5 1 f) := by rw [k1.2 _ (by omega)]; exact hO
  refine gx_w hmo1 ?_
  refine gx_cVr lk_Law_90 d_Law_law_676 (cm_clear hm hS) (Or.inl ⟨_, mo_o⟩) (by omega) rfl rfl (Nat.le_of_ble_eq_true rfl) (fun r1 w2 hq => ?_)
  obtain ⟨rfl, I2, A2, rfl, hm2, _⟩ := hq
  refine gx_goto (tgt := 816) d_Law_law_679 (by decide) ?_
  exact hX _ (S.1, S.2.1, [], [], S.2.2.2.2) _ _ (lwI.mo p1 hO1 hm2 ⟨hS.1, hS.2.1, fun _ h => absurd h (List.not_mem_nil), Nat.zero_le _, Nat.zero_le _⟩ (fun _ h => absurd h (List.not_mem_nil)))
theorem lw_tray {Q : gx_P} {sb L0 B i b1 b2 : Nat} {xs : Nat → Int32} {L5 L6 : Option Value} (hL : L0 ≤ 3072) (hi : i + 6 ≤ L0) {w : gx_W} {S : sp_St} (h : lwI B w S) (hX : ∀ w' S' L5 L6, lwI B w' S' → gx_X (gx_cF sb L0 xs) M_Law_law 10 Q 816 [some (.ref sb), some (.ref B), some (.ref (B + 360)), some (.ref (B + 385)), some (.int (nI i)), L5, L6] [] w' (b1, b2)) : gx_X (gx_cF sb L0 xs) M_Law_law 10 Q 682 [some (.ref sb), some (.ref B), some (.ref (B + 360)), some (.ref (B + 385)), some (.int (nI i)), L5, L6] [] w (b1 + 1, b2 + 6) := by
  obtain ⟨hP, ⟨I, A, hmo, hm⟩, ⟨f, hO⟩, hS, hT⟩ := h
  have hB := hP.1.1
  refine gx_bud b1 b2 (Nat.le_succ _) (Nat.le_add_right _ _) ?_
  refine gx_aload_n d_Law_law_682 rfl ?_
  refine gx_cVr lk_Law_91 d_Law_law_683 (ct_tray hP hS.2.2.1) (Or.inl ⟨_, hB⟩) (by omega) rfl rfl (Nat.le_of_ble_eq_true rfl) (fun r1 w1 hq => ?_)
  obtain ⟨rfl, p1, _, k0⟩ := hq
  refine gx_aload_n d_Law_law_686 rfl ?_
  have hmo1 := mo_kp hmo (k0.mono (lo' := B) (hi' := B + 360) (by omega) (by omega))
  have hO1 : w1.1 (B + 385) = some (gx_al8 5 1 f) := by rw [(k0.mono (lo' := B) (hi' := B + 360) (by omega) (by omega)).2 _ (by omega)]; exact hO
  refine gx_w hmo1 ?_
  refine gx_cVr lk_Law_94 d_Law_law_687 (cm_tray hm hS) (Or.inl ⟨_, mo_o⟩) (by omega) rfl rfl (Nat.le_of_ble_eq_true rfl) (fun r1 w2 hq => ?_)
  obtain ⟨rfl, I2, A2, rfl, hm2, _⟩ := hq
  refine gx_icmp_eq (tgt := 816) d_Law_law_690 (by decide) (fun h690 => ?_) (fun h690 => ?_)
  · exact hX _ S _ _ (lwI.mo p1 hO1 hm2 hS hT)
  · exact absurd rfl h690
theorem lw_back {Q : gx_P} {sb L0 B i b1 b2 : Nat} {xs : Nat → Int32} {L5 L6 : Option Value} (hL : L0 ≤ 3072) (hi : i + 6 ≤ L0) {w : gx_W} {S : sp_St} (h : lwI B w S) (hX : ∀ w' S' L5 L6, lwI B w' S' → gx_X (gx_cF sb L0 xs) M_Law_law 10 Q 816 [some (.ref sb), some (.ref B), some (.ref (B + 360)), some (.ref (B + 385)), some (.int (nI i)), L5, L6] [] w' (b1, b2)) : gx_X (gx_cF sb L0 xs) M_Law_law 10 Q 695 [some (.ref sb), some (.ref B), some (.ref (B + 360)), some (.ref (B + 385)), some (.int (nI i)), L5, L6] [] w (b1 + 1, b2 + 6) := by
  obtain ⟨hP, ⟨I, A, hmo, hm⟩, ⟨f, hO⟩, hS, hT⟩ := h
  have hB := hP.1.1
  refine gx_bud b1 b2 (Nat.le_succ _) (Nat.le_add_right _ _) ?_
  refine gx_aload_n d_Law_law_695 rfl ?_
  refine gx_cVr lk_Law_95 d_Law_law_696 (ct_back hP hS.2.2.1) (Or.inl ⟨_, hB⟩) (by omega) rfl rfl (Nat.le_of_ble_eq_true rfl) (fun r1 w1 hq => ?_)
  obtain ⟨rfl, p1, k0⟩ := hq
  refine gx_aload_n d_Law_law_699 rfl ?_
  have hmo1 := mo_kp hmo (k0.mono (lo' := B) (hi' := B + 360) (by omega) (by omega))
  have hO1 : w1.1 (B + 385) = some (gx_al8 5 1 f) := by rw [(k0.mono (lo' := B) (hi' := B + 360) (by omega) (by omega)).2 _ (by omega)]; exact hO
  refine gx_w hmo1 ?_
  refine gx_cVr lk_Law_98 d_Law_law_700 (cm_back hm hS) (Or.inl ⟨_, mo_o⟩) (by omega) rfl rfl (Nat.le_of_ble_eq_true rfl) (fun r1 w2 hq => ?_)
  obtain ⟨rfl, I2, A2, rfl, hm2, _⟩ := hq
  refine gx_icmp_eq (tgt := 816) d_Law_law_703 (by decide) (fun h703 => ?_) (fun h703 => ?_)
  · exact hX _ S _ _ (lwI.mo p1 hO1 hm2 hS hT)
  · exact absurd rfl h703
theorem lw_trees {Q : gx_P} {sb L0 B i b1 b2 : Nat} {xs : Nat → Int32} {L5 L6 : Option Value} (hL : L0 ≤ 3072) (hi : i + 6 ≤ L0) {w : gx_W} {S : sp_St} (h : lwI B w S) (hX : ∀ w' S' L5 L6, lwI B w' S' → gx_X (gx_cF sb L0 xs) M_Law_law 10 Q 816 [some (.ref sb), some (.ref B), some (.ref (B + 360)), some (.ref (B + 385)), some (.int (nI i)), L5, L6] [] w' (b1, b2)) : gx_X (gx_cF sb L0 xs) M_Law_law 10 Q 765 [some (.ref sb), some (.ref B), some (.ref (B + 360)), some (.ref (B + 385)), some (.int (nI i)), L5, L6] [] w (b1 + 1, b2 + 6) := by
  obtain ⟨hP, ⟨I, A, hmo, hm⟩, ⟨f, hO⟩, hS, hT⟩ := h
  have hB := hP.1.1
  refine gx_bud b1 b2 (Nat.le_succ _) (Nat.le_add_right _ _) ?_
  refine gx_aload_n d_Law_law_765 rfl ?_
  refine gx_cVr lk_Law_106 d_Law_law_766 (ct_trees hP hS.2.2.1) (Or.inl ⟨_, hB⟩) (by omega) rfl rfl (Nat.le_of_ble_eq_true rfl) (fun r1 w1 hq => ?_)
  obtain ⟨rfl, p1, k0⟩ := hq
  refine gx_aload_n d_Law_law_769 rfl ?_
  have hmo1 := mo_kp hmo (k0.mono (lo' := B) (hi' := B + 360) (by omega) (by omega))
  have hO1 : w1.1 (B + 385) = some (gx_al8 5 1 f) := by rw [(k0.mono (lo' := B) (hi' := B + 360) (by omega) (by omega)).2 _ (by omega)]; exact hO
  refine gx_w hmo1 ?_
  refine gx_cVr lk_Law_109 d_Law_law_770 (cm_trees hm hS hT) (Or.inl ⟨_, mo_o⟩) (by omega) rfl rfl (Nat.le_of_ble_eq_true rfl) (fun r1 w2 hq => ?_)
  obtain ⟨rfl, I2, A2, rfl, hm2, _⟩ := hq
  refine gx_icmp_eq (tgt := 816) d_Law_law_773 (by decide) (fun h773 => ?_) (fun h773 => ?_)
  · exact hX _ S _ _ (lwI.mo p1 hO1 hm2 hS hT)
  · exact absurd rfl h773
theorem lw_type {Q : gx_P} {sb L0 B i b1 b2 : Nat} {xs : Nat → Int32} {L5 L6 : Option Value} (hL : L0 ≤ 3072) (hi : i + 6 ≤ L0) {w : gx_W} {S : sp_St} (h : lwI B w S) (hX : ∀ w' S' L5 L6, lwI B w' S' → gx_X (gx_cF sb L0 xs) M_Law_law 10 Q 816 [some (.ref sb), some (.ref B), some (.ref (B + 360)), some (.ref (B + 385)), some (.int (nI i)), L5, L6] [] w' (b1, b2)) : gx_X (gx_cF sb L0 xs) M_Law_law 10 Q 708 [some (.ref sb), some (.ref B), some (.ref (B + 360)), some (.ref (B + 385)), some (.int (nI i)), L5, L6] [] w (b1 + 1, b2 + 6) := by
  obtain ⟨hP, ⟨I, A, hmo, hm⟩, ⟨f, hO⟩, hS, hT⟩ := h
  have hB := hP.1.1
  refine gx_bud b1 b2 (Nat.le_succ _) (Nat.le_add_right _ _) ?_
  refine gx_aload_n d_Law_law_708 rfl ?_
  refine gx_aload_n d_Law_law_709 rfl ?_
  refine gx_iload d_Law_law_710 rfl ?_
  refine gx_iconst d_Law_law_712 (nI 1) (by decide) ?_
  refine gx_iaddN d_Law_law_713 ?_
  refine gx_cld (by omega) (by omega) d_Law_law_714 ?_
  refine gx_i2l d_Law_law_715 ?_
  refine gx_bipush d_Law_law_716 (nI 32) (by decide) ?_
  refine gx_lshl d_Law_law_718 ?_
  refine gx_aload_n d_Law_law_719 rfl ?_
  refine gx_iload d_Law_law_720 rfl ?_
  refine gx_iconst d_Law_law_722 (nI 2) (by decide) ?_
  refine gx_iaddN d_Law_law_723 ?_
  refine gx_cld (by omega) (by omega) d_Law_law_724 ?_
  refine gx_i2l d_Law_law_725 ?_
  refine gx_ldc2 kl_Law_99 d_Law_law_726 ?_
  refine gx_land d_Law_law_729 ?_
  refine gx_lor d_Law_law_730 ?_
  refine gx_cVr lk_Law_101 d_Law_law_731 (ct_type hP hS) (Or.inl ⟨_, hB⟩) (by omega) rfl rfl (Nat.le_of_ble_eq_true rfl) (fun r1 w1 hq => ?_)
  obtain ⟨rfl, p1, k1⟩ := hq
  refine gx_aload_n d_Law_law_734 rfl ?_
  refine gx_aload_n d_Law_law_735 rfl ?_
  refine gx_iload d_Law_law_736 rfl ?_
  refine gx_iconst d_Law_law_738 (nI 1) (by decide) ?_
  refine gx_iaddN d_Law_law_739 ?_
  refine gx_cld (by omega) (by omega) d_Law_law_740 ?_
  refine gx_i2l d_Law_law_741 ?_
  refine gx_bipush d_Law_law_742 (nI 32) (by decide) ?_
  refine gx_lshl d_Law_law_744 ?_
  refine gx_aload_n d_Law_law_745 rfl ?_
  refine gx_iload d_Law_law_746 rfl ?_
  refine gx_iconst d_Law_law_748 (nI 2) (by decide) ?_
  refine gx_iaddN d_Law_law_749 ?_
  refine gx_cld (by omega) (by omega) d_Law_law_750 ?_
  refine gx_i2l d_Law_law_751 ?_
  refine gx_ldc2 kl_Law_99 d_Law_law_752 ?_
  refine gx_land d_Law_law_755 ?_
  refine gx_lor d_Law_law_756 ?_
  have hmo1 := mo_kp hmo k1
  have hO1 : w1.1 (B + 385) = some (gx_al8 5 1 f) := by rw [k1.2 _ (by omega)]; exact hO
  refine gx_w hmo1 ?_
  refine gx_cVr lk_Law_105 d_Law_law_757 (cm_type hm hS) (Or.inl ⟨_, mo_o⟩) (by omega) rfl rfl (Nat.le_of_ble_eq_true rfl) (fun r1 w2 hq => ?_)
  obtain ⟨rfl, I2, A2, rfl, hm2, _⟩ := hq
  refine gx_icmp_eq (tgt := 816) d_Law_law_760 (by decide) (fun h760 => ?_) (fun h760 => ?_)
  · exact hX _ _ _ _ (lwI.mo p1 hO1 hm2 (sok_type hS hT).1 (sok_type hS hT).2)
  · exact absurd rfl h760
theorem lw_search {Q : gx_P} {sb L0 B i b1 b2 : Nat} {xs : Nat → Int32} {L5 L6 : Option Value} (hL : L0 ≤ 3072) (hi : i + 6 ≤ L0) {w : gx_W} {S : sp_St} (h : lwI B w S) (hX : ∀ w' S' L5 L6, lwI B w' S' → gx_X (gx_cF sb L0 xs) M_Law_law 10 Q 816 [some (.ref sb), some (.ref B), some (.ref (B + 360)), some (.ref (B + 385)), some (.int (nI i)), L5, L6] [] w' (b1, b2)) : gx_X (gx_cF sb L0 xs) M_Law_law 10 Q 778 [some (.ref sb), some (.ref B), some (.ref (B + 360)), some (.ref (B + 385)), some (.int (nI i)), L5, L6] [] w (b1 + 1, b2 + 6) := by
  obtain ⟨hP, ⟨I, A, hmo, hm⟩, ⟨f, hO⟩, hS, hT⟩ := h
  have hB := hP.1.1
  refine gx_bud b1 b2 (Nat.le_succ _) (Nat.le_add_right _ _) ?_
  refine gx_aload_n d_Law_law_778 rfl ?_
  refine gx_aload_n d_Law_law_779 rfl ?_
  refine gx_iload d_Law_law_780 rfl ?_
  refine gx_iconst d_Law_law_782 (nI 1) (by decide) ?_
  refine gx_iaddN d_Law_law_783 ?_
  refine gx_cld (by omega) (by omega) d_Law_law_784 ?_
  refine gx_cVr lk_Law_110 d_Law_law_785 (ct_search hP hS.1 hS.2.1 hS.2.2.1) (Or.inl ⟨_, hB⟩) (by omega) rfl rfl (Nat.le_of_ble_eq_true rfl) (fun r1 w1 hq => ?_)
  obtain ⟨rfl, p1, q1, k1⟩ := hq
  rw [sv_cap] at p1 q1 ⊢
  refine gx_aload_n d_Law_law_788 rfl ?_
  refine gx_aload_n d_Law_law_789 rfl ?_
  refine gx_iload d_Law_law_790 rfl ?_
  refine gx_iconst d_Law_law_792 (nI 1) (by decide) ?_
  refine gx_iaddN d_Law_law_793 ?_
  refine gx_cld (by omega) (by omega) d_Law_law_794 ?_
  have hmo1 := mo_kp hmo k1
  have hO1 : w1.1 (B + 385) = some (gx_al8 5 1 f) := by rw [k1.2 _ (by omega)]; exact hO
  refine gx_w hmo1 ?_
  refine gx_cVr lk_Law_113 d_Law_law_795 (cm_search hm hS) (Or.inl ⟨_, mo_o⟩) (by omega) rfl rfl (Nat.le_of_ble_eq_true rfl) (fun r1 w2 hq => ?_)
  obtain ⟨rfl, I2, A2, rfl, hm2, _⟩ := hq
  refine gx_icmp_eq (tgt := 816) d_Law_law_798 (by decide) (fun h798 => ?_) (fun h798 => ?_)
  · exact hX _ (S.1, S.2.1, (sp_sv 402 (sp_dS S) S.2.2.1 S.2.2.2.2 (xs (i + 1))).2.2, S.2.2.2.1, (sp_sv 402 (sp_dS S) S.2.2.1 S.2.2.2.2 (xs (i + 1))).2.1) _ _ (lwI.mo p1 hO1 hm2 ⟨hS.1, hS.2.1, q1, sv_60 hS.2.2.2.1, hS.2.2.2.2⟩ hT)
  · exact absurd rfl h798
