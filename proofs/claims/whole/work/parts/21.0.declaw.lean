theorem dW_law_0 : decode code 0 = .ok (.new 8, 3) := by decide +kernel
theorem dW_law_3 : decode code 3 = .ok (.dup, 1) := by decide +kernel
theorem dW_law_4 : decode code 4 = .ok (.aload_n 0, 1) := by decide +kernel
theorem dW_law_5 : decode code 5 = .ok (.iconst 0, 1) := by decide +kernel
theorem dW_law_6 : decode code 6 = .ok (.invokestatic 67, 3) := by decide +kernel
theorem dW_law_9 : decode code 9 = .ok (.aload_n 0, 1) := by decide +kernel
theorem dW_law_10 : decode code 10 = .ok (.iconst 1, 1) := by decide +kernel
theorem dW_law_11 : decode code 11 = .ok (.invokestatic 67, 3) := by decide +kernel
theorem dW_law_14 : decode code 14 = .ok (.invokespecial 72, 3) := by decide +kernel
theorem dW_law_17 : decode code 17 = .ok (.astore_n 1, 1) := by decide +kernel
theorem dW_law_18 : decode code 18 = .ok (.new 75, 3) := by decide +kernel
theorem dW_law_21 : decode code 21 = .ok (.dup, 1) := by decide +kernel
theorem dW_law_22 : decode code 22 = .ok (.aload_n 0, 1) := by decide +kernel
theorem dW_law_23 : decode code 23 = .ok (.iconst 0, 1) := by decide +kernel
theorem dW_law_24 : decode code 24 = .ok (.invokestatic 67, 3) := by decide +kernel
theorem dW_law_27 : decode code 27 = .ok (.aload_n 0, 1) := by decide +kernel
theorem dW_law_28 : decode code 28 = .ok (.iconst 1, 1) := by decide +kernel
theorem dW_law_29 : decode code 29 = .ok (.invokestatic 67, 3) := by decide +kernel
theorem dW_law_32 : decode code 32 = .ok (.invokespecial 77, 3) := by decide +kernel
theorem dW_law_35 : decode code 35 = .ok (.astore_n 2, 1) := by decide +kernel
theorem dW_law_36 : decode code 36 = .ok (.iconst 1, 1) := by decide +kernel
theorem dW_law_37 : decode code 37 = .ok (.newarray .long, 2) := by decide +kernel
theorem dW_law_39 : decode code 39 = .ok (.astore_n 3, 1) := by decide +kernel
theorem dW_law_40 : decode code 40 = .ok (.iconst 2, 1) := by decide +kernel
theorem dW_law_41 : decode code 41 = .ok (.istore 4, 2) := by decide +kernel
theorem dW_law_43 : decode code 43 = .ok (.iload 4, 2) := by decide +kernel
theorem dW_law_45 : decode code 45 = .ok (.aload_n 0, 1) := by decide +kernel
theorem dW_law_46 : decode code 46 = .ok (.arraylength, 1) := by decide +kernel
theorem dW_law_47 : decode code 47 = .ok (.iconst 5, 1) := by decide +kernel
theorem dW_law_48 : decode code 48 = .ok (.isub, 1) := by decide +kernel
theorem dW_law_49 : decode code 49 = .ok (.if_icmp .gt 1208, 3) := by decide +kernel
theorem dW_law_52 : decode code 52 = .ok (.aload_n 0, 1) := by decide +kernel
theorem dW_law_53 : decode code 53 = .ok (.iload 4, 2) := by decide +kernel
theorem dW_law_55 : decode code 55 = .ok (.iaload, 1) := by decide +kernel
theorem dW_law_56 : decode code 56 = .ok (.bipush 31, 2) := by decide +kernel
theorem dW_law_58 : decode code 58 = .ok (.iand, 1) := by decide +kernel
theorem dW_law_140 : decode code 140 = .ok (.aload_n 1, 1) := by decide +kernel
theorem dW_law_141 : decode code 141 = .ok (.aload_n 0, 1) := by decide +kernel
theorem dW_law_142 : decode code 142 = .ok (.iload 4, 2) := by decide +kernel
theorem dW_law_144 : decode code 144 = .ok (.iconst 1, 1) := by decide +kernel
theorem dW_law_145 : decode code 145 = .ok (.iadd, 1) := by decide +kernel
theorem dW_law_146 : decode code 146 = .ok (.iaload, 1) := by decide +kernel
theorem dW_law_147 : decode code 147 = .ok (.aload_n 0, 1) := by decide +kernel
theorem dW_law_148 : decode code 148 = .ok (.iload 4, 2) := by decide +kernel
theorem dW_law_150 : decode code 150 = .ok (.iconst 2, 1) := by decide +kernel
theorem dW_law_151 : decode code 151 = .ok (.iadd, 1) := by decide +kernel
theorem dW_law_152 : decode code 152 = .ok (.iaload, 1) := by decide +kernel
theorem dW_law_153 : decode code 153 = .ok (.aload_n 0, 1) := by decide +kernel
theorem dW_law_154 : decode code 154 = .ok (.iload 4, 2) := by decide +kernel
theorem dW_law_156 : decode code 156 = .ok (.iconst 3, 1) := by decide +kernel
theorem dW_law_157 : decode code 157 = .ok (.iadd, 1) := by decide +kernel
theorem dW_law_158 : decode code 158 = .ok (.iaload, 1) := by decide +kernel
theorem dW_law_159 : decode code 159 = .ok (.aload_n 0, 1) := by decide +kernel
theorem dW_law_160 : decode code 160 = .ok (.iload 4, 2) := by decide +kernel
theorem dW_law_162 : decode code 162 = .ok (.iconst 4, 1) := by decide +kernel
theorem dW_law_163 : decode code 163 = .ok (.iadd, 1) := by decide +kernel
theorem dW_law_164 : decode code 164 = .ok (.iaload, 1) := by decide +kernel
theorem dW_law_165 : decode code 165 = .ok (.ifCond .eq 7, 3) := by decide +kernel
theorem dW_law_168 : decode code 168 = .ok (.iconst 1, 1) := by decide +kernel
theorem dW_law_169 : decode code 169 = .ok (.goto 4, 3) := by decide +kernel
theorem dW_law_172 : decode code 172 = .ok (.iconst 0, 1) := by decide +kernel
theorem dW_law_173 : decode code 173 = .ok (.aload_n 3, 1) := by decide +kernel
theorem dW_law_174 : decode code 174 = .ok (.invokestatic 78, 3) := by decide +kernel
theorem dW_law_177 : decode code 177 = .ok (.istore 5, 2) := by decide +kernel
theorem dW_law_179 : decode code 179 = .ok (.aload_n 2, 1) := by decide +kernel
theorem dW_law_180 : decode code 180 = .ok (.aload_n 0, 1) := by decide +kernel
theorem dW_law_181 : decode code 181 = .ok (.iload 4, 2) := by decide +kernel
theorem dW_law_183 : decode code 183 = .ok (.iconst 1, 1) := by decide +kernel
theorem dW_law_184 : decode code 184 = .ok (.iadd, 1) := by decide +kernel
theorem dW_law_185 : decode code 185 = .ok (.iaload, 1) := by decide +kernel
theorem dW_law_186 : decode code 186 = .ok (.aload_n 0, 1) := by decide +kernel
theorem dW_law_187 : decode code 187 = .ok (.iload 4, 2) := by decide +kernel
theorem dW_law_189 : decode code 189 = .ok (.iconst 2, 1) := by decide +kernel
theorem dW_law_190 : decode code 190 = .ok (.iadd, 1) := by decide +kernel
theorem dW_law_191 : decode code 191 = .ok (.iaload, 1) := by decide +kernel
theorem dW_law_192 : decode code 192 = .ok (.aload_n 0, 1) := by decide +kernel
theorem dW_law_193 : decode code 193 = .ok (.iload 4, 2) := by decide +kernel
theorem dW_law_195 : decode code 195 = .ok (.iconst 3, 1) := by decide +kernel
theorem dW_law_196 : decode code 196 = .ok (.iadd, 1) := by decide +kernel
theorem dW_law_197 : decode code 197 = .ok (.iaload, 1) := by decide +kernel
theorem dW_law_198 : decode code 198 = .ok (.aload_n 0, 1) := by decide +kernel
theorem dW_law_199 : decode code 199 = .ok (.iload 4, 2) := by decide +kernel
theorem dW_law_201 : decode code 201 = .ok (.iconst 4, 1) := by decide +kernel
theorem dW_law_202 : decode code 202 = .ok (.iadd, 1) := by decide +kernel
theorem dW_law_203 : decode code 203 = .ok (.iaload, 1) := by decide +kernel
theorem dW_law_204 : decode code 204 = .ok (.ifCond .eq 7, 3) := by decide +kernel
theorem dW_law_207 : decode code 207 = .ok (.iconst 1, 1) := by decide +kernel
theorem dW_law_208 : decode code 208 = .ok (.goto 4, 3) := by decide +kernel
theorem dW_law_211 : decode code 211 = .ok (.iconst 0, 1) := by decide +kernel
theorem dW_law_212 : decode code 212 = .ok (.invokevirtual 81, 3) := by decide +kernel
theorem dW_law_215 : decode code 215 = .ok (.istore 6, 2) := by decide +kernel
theorem dW_law_217 : decode code 217 = .ok (.aload_n 2, 1) := by decide +kernel
theorem dW_law_218 : decode code 218 = .ok (.invokevirtual 82, 3) := by decide +kernel
theorem dW_law_221 : decode code 221 = .ok (.iload 5, 2) := by decide +kernel
theorem dW_law_223 : decode code 223 = .ok (.if_icmp .eq 5, 3) := by decide +kernel
theorem dW_law_226 : decode code 226 = .ok (.iconst 0, 1) := by decide +kernel
theorem dW_law_227 : decode code 227 = .ok (.ireturn, 1) := by decide +kernel
theorem dW_law_228 : decode code 228 = .ok (.iload 5, 2) := by decide +kernel
theorem dW_law_230 : decode code 230 = .ok (.ifCond .ne 22, 3) := by decide +kernel
theorem dW_law_233 : decode code 233 = .ok (.aload_n 3, 1) := by decide +kernel
theorem dW_law_234 : decode code 234 = .ok (.iconst 0, 1) := by decide +kernel
theorem dW_law_235 : decode code 235 = .ok (.laload, 1) := by decide +kernel
theorem dW_law_236 : decode code 236 = .ok (.iload 6, 2) := by decide +kernel
theorem dW_law_238 : decode code 238 = .ok (.ifCond .eq 7, 3) := by decide +kernel
theorem dW_law_241 : decode code 241 = .ok (.lconst 1, 1) := by decide +kernel
theorem dW_law_242 : decode code 242 = .ok (.goto 4, 3) := by decide +kernel
theorem dW_law_245 : decode code 245 = .ok (.lconst 0, 1) := by decide +kernel
theorem dW_law_246 : decode code 246 = .ok (.lcmp, 1) := by decide +kernel
theorem dW_law_247 : decode code 247 = .ok (.ifCond .eq 5, 3) := by decide +kernel
theorem dW_law_250 : decode code 250 = .ok (.iconst 0, 1) := by decide +kernel
theorem dW_law_251 : decode code 251 = .ok (.ireturn, 1) := by decide +kernel
theorem dW_law_252 : decode code 252 = .ok (.goto 999, 3) := by decide +kernel
theorem dW_law_255 : decode code 255 = .ok (.aload_n 1, 1) := by decide +kernel
theorem dW_law_256 : decode code 256 = .ok (.invokevirtual 86, 3) := by decide +kernel
theorem dW_law_259 : decode code 259 = .ok (.aload_n 2, 1) := by decide +kernel
theorem dW_law_260 : decode code 260 = .ok (.invokevirtual 89, 3) := by decide +kernel
theorem dW_law_263 : decode code 263 = .ok (.if_icmp .eq 988, 3) := by decide +kernel
theorem dW_law_266 : decode code 266 = .ok (.iconst 0, 1) := by decide +kernel
theorem dW_law_267 : decode code 267 = .ok (.ireturn, 1) := by decide +kernel
theorem dW_law_268 : decode code 268 = .ok (.aload_n 1, 1) := by decide +kernel
theorem dW_law_269 : decode code 269 = .ok (.aload_n 0, 1) := by decide +kernel
theorem dW_law_270 : decode code 270 = .ok (.iload 4, 2) := by decide +kernel
theorem dW_law_272 : decode code 272 = .ok (.iconst 1, 1) := by decide +kernel
theorem dW_law_273 : decode code 273 = .ok (.iadd, 1) := by decide +kernel
theorem dW_law_274 : decode code 274 = .ok (.iaload, 1) := by decide +kernel
theorem dW_law_275 : decode code 275 = .ok (.aload_n 3, 1) := by decide +kernel
theorem dW_law_276 : decode code 276 = .ok (.invokestatic 90, 3) := by decide +kernel
theorem dW_law_279 : decode code 279 = .ok (.istore 5, 2) := by decide +kernel
theorem dW_law_281 : decode code 281 = .ok (.aload_n 2, 1) := by decide +kernel
theorem dW_law_282 : decode code 282 = .ok (.aload_n 0, 1) := by decide +kernel
theorem dW_law_283 : decode code 283 = .ok (.iload 4, 2) := by decide +kernel
theorem dW_law_285 : decode code 285 = .ok (.iconst 1, 1) := by decide +kernel
theorem dW_law_286 : decode code 286 = .ok (.iadd, 1) := by decide +kernel
theorem dW_law_287 : decode code 287 = .ok (.iaload, 1) := by decide +kernel
theorem dW_law_288 : decode code 288 = .ok (.invokevirtual 93, 3) := by decide +kernel
theorem dW_law_291 : decode code 291 = .ok (.istore 6, 2) := by decide +kernel
theorem dW_law_293 : decode code 293 = .ok (.aload_n 2, 1) := by decide +kernel
theorem dW_law_294 : decode code 294 = .ok (.invokevirtual 82, 3) := by decide +kernel
theorem dW_law_297 : decode code 297 = .ok (.iload 5, 2) := by decide +kernel
theorem dW_law_299 : decode code 299 = .ok (.if_icmp .eq 5, 3) := by decide +kernel
theorem dW_law_302 : decode code 302 = .ok (.iconst 0, 1) := by decide +kernel
theorem dW_law_303 : decode code 303 = .ok (.ireturn, 1) := by decide +kernel
theorem dW_law_304 : decode code 304 = .ok (.iload 5, 2) := by decide +kernel
theorem dW_law_306 : decode code 306 = .ok (.ifCond .ne 15, 3) := by decide +kernel
theorem dW_law_309 : decode code 309 = .ok (.aload_n 3, 1) := by decide +kernel
theorem dW_law_310 : decode code 310 = .ok (.iconst 0, 1) := by decide +kernel
theorem dW_law_311 : decode code 311 = .ok (.laload, 1) := by decide +kernel
theorem dW_law_312 : decode code 312 = .ok (.iload 6, 2) := by decide +kernel
theorem dW_law_314 : decode code 314 = .ok (.i2l, 1) := by decide +kernel
theorem dW_law_315 : decode code 315 = .ok (.lcmp, 1) := by decide +kernel
theorem dW_law_316 : decode code 316 = .ok (.ifCond .eq 5, 3) := by decide +kernel
theorem dW_law_319 : decode code 319 = .ok (.iconst 0, 1) := by decide +kernel
theorem dW_law_320 : decode code 320 = .ok (.ireturn, 1) := by decide +kernel
theorem dW_law_321 : decode code 321 = .ok (.goto 930, 3) := by decide +kernel
theorem dW_law_324 : decode code 324 = .ok (.aload_n 1, 1) := by decide +kernel
theorem dW_law_325 : decode code 325 = .ok (.invokevirtual 94, 3) := by decide +kernel
theorem dW_law_328 : decode code 328 = .ok (.aload_n 2, 1) := by decide +kernel
theorem dW_law_329 : decode code 329 = .ok (.invokevirtual 97, 3) := by decide +kernel
theorem dW_law_332 : decode code 332 = .ok (.if_icmp .eq 919, 3) := by decide +kernel
theorem dW_law_335 : decode code 335 = .ok (.iconst 0, 1) := by decide +kernel
theorem dW_law_336 : decode code 336 = .ok (.ireturn, 1) := by decide +kernel
theorem dW_law_337 : decode code 337 = .ok (.aload_n 1, 1) := by decide +kernel
theorem dW_law_338 : decode code 338 = .ok (.aload_n 0, 1) := by decide +kernel
theorem dW_law_339 : decode code 339 = .ok (.iload 4, 2) := by decide +kernel
theorem dW_law_341 : decode code 341 = .ok (.iconst 1, 1) := by decide +kernel
theorem dW_law_342 : decode code 342 = .ok (.iadd, 1) := by decide +kernel
theorem dW_law_343 : decode code 343 = .ok (.iaload, 1) := by decide +kernel
theorem dW_law_344 : decode code 344 = .ok (.aload_n 0, 1) := by decide +kernel
theorem dW_law_345 : decode code 345 = .ok (.iload 4, 2) := by decide +kernel
theorem dW_law_347 : decode code 347 = .ok (.iconst 2, 1) := by decide +kernel
theorem dW_law_348 : decode code 348 = .ok (.iadd, 1) := by decide +kernel
theorem dW_law_349 : decode code 349 = .ok (.iaload, 1) := by decide +kernel
theorem dW_law_350 : decode code 350 = .ok (.aload_n 0, 1) := by decide +kernel
theorem dW_law_351 : decode code 351 = .ok (.iload 4, 2) := by decide +kernel
theorem dW_law_353 : decode code 353 = .ok (.iconst 3, 1) := by decide +kernel
theorem dW_law_354 : decode code 354 = .ok (.iadd, 1) := by decide +kernel
theorem dW_law_355 : decode code 355 = .ok (.iaload, 1) := by decide +kernel
theorem dW_law_356 : decode code 356 = .ok (.aload_n 0, 1) := by decide +kernel
theorem dW_law_357 : decode code 357 = .ok (.iload 4, 2) := by decide +kernel
theorem dW_law_359 : decode code 359 = .ok (.iconst 4, 1) := by decide +kernel
theorem dW_law_360 : decode code 360 = .ok (.iadd, 1) := by decide +kernel
theorem dW_law_361 : decode code 361 = .ok (.iaload, 1) := by decide +kernel
theorem dW_law_362 : decode code 362 = .ok (.aload_n 3, 1) := by decide +kernel
theorem dW_law_363 : decode code 363 = .ok (.invokestatic 98, 3) := by decide +kernel
theorem dW_law_366 : decode code 366 = .ok (.istore 5, 2) := by decide +kernel
theorem dW_law_368 : decode code 368 = .ok (.aload_n 2, 1) := by decide +kernel
theorem dW_law_369 : decode code 369 = .ok (.aload_n 0, 1) := by decide +kernel
theorem dW_law_370 : decode code 370 = .ok (.iload 4, 2) := by decide +kernel
theorem dW_law_372 : decode code 372 = .ok (.iconst 1, 1) := by decide +kernel
theorem dW_law_373 : decode code 373 = .ok (.iadd, 1) := by decide +kernel
theorem dW_law_374 : decode code 374 = .ok (.iaload, 1) := by decide +kernel
theorem dW_law_375 : decode code 375 = .ok (.aload_n 0, 1) := by decide +kernel
theorem dW_law_376 : decode code 376 = .ok (.iload 4, 2) := by decide +kernel
theorem dW_law_378 : decode code 378 = .ok (.iconst 2, 1) := by decide +kernel
theorem dW_law_379 : decode code 379 = .ok (.iadd, 1) := by decide +kernel
theorem dW_law_380 : decode code 380 = .ok (.iaload, 1) := by decide +kernel
theorem dW_law_381 : decode code 381 = .ok (.aload_n 0, 1) := by decide +kernel
theorem dW_law_382 : decode code 382 = .ok (.iload 4, 2) := by decide +kernel
theorem dW_law_384 : decode code 384 = .ok (.iconst 3, 1) := by decide +kernel
theorem dW_law_385 : decode code 385 = .ok (.iadd, 1) := by decide +kernel
theorem dW_law_386 : decode code 386 = .ok (.iaload, 1) := by decide +kernel
theorem dW_law_387 : decode code 387 = .ok (.aload_n 0, 1) := by decide +kernel
theorem dW_law_388 : decode code 388 = .ok (.iload 4, 2) := by decide +kernel
theorem dW_law_390 : decode code 390 = .ok (.iconst 4, 1) := by decide +kernel
theorem dW_law_391 : decode code 391 = .ok (.iadd, 1) := by decide +kernel
theorem dW_law_392 : decode code 392 = .ok (.iaload, 1) := by decide +kernel
theorem dW_law_393 : decode code 393 = .ok (.invokevirtual 101, 3) := by decide +kernel
theorem dW_law_396 : decode code 396 = .ok (.istore 6, 2) := by decide +kernel
theorem dW_law_398 : decode code 398 = .ok (.aload_n 2, 1) := by decide +kernel
theorem dW_law_399 : decode code 399 = .ok (.invokevirtual 82, 3) := by decide +kernel
theorem dW_law_402 : decode code 402 = .ok (.iload 5, 2) := by decide +kernel
theorem dW_law_404 : decode code 404 = .ok (.if_icmp .eq 5, 3) := by decide +kernel
theorem dW_law_407 : decode code 407 = .ok (.iconst 0, 1) := by decide +kernel
theorem dW_law_408 : decode code 408 = .ok (.ireturn, 1) := by decide +kernel
theorem dW_law_409 : decode code 409 = .ok (.iload 5, 2) := by decide +kernel
theorem dW_law_411 : decode code 411 = .ok (.ifCond .ne 15, 3) := by decide +kernel
theorem dW_law_414 : decode code 414 = .ok (.aload_n 3, 1) := by decide +kernel
theorem dW_law_415 : decode code 415 = .ok (.iconst 0, 1) := by decide +kernel
theorem dW_law_416 : decode code 416 = .ok (.laload, 1) := by decide +kernel
theorem dW_law_417 : decode code 417 = .ok (.iload 6, 2) := by decide +kernel
theorem dW_law_419 : decode code 419 = .ok (.i2l, 1) := by decide +kernel
theorem dW_law_420 : decode code 420 = .ok (.lcmp, 1) := by decide +kernel
theorem dW_law_421 : decode code 421 = .ok (.ifCond .eq 5, 3) := by decide +kernel
theorem dW_law_424 : decode code 424 = .ok (.iconst 0, 1) := by decide +kernel
theorem dW_law_425 : decode code 425 = .ok (.ireturn, 1) := by decide +kernel
theorem dW_law_426 : decode code 426 = .ok (.goto 825, 3) := by decide +kernel
theorem dW_law_429 : decode code 429 = .ok (.aload_n 1, 1) := by decide +kernel
theorem dW_law_430 : decode code 430 = .ok (.aload_n 0, 1) := by decide +kernel
theorem dW_law_431 : decode code 431 = .ok (.iload 4, 2) := by decide +kernel
theorem dW_law_433 : decode code 433 = .ok (.iconst 1, 1) := by decide +kernel
theorem dW_law_434 : decode code 434 = .ok (.iadd, 1) := by decide +kernel
theorem dW_law_435 : decode code 435 = .ok (.iaload, 1) := by decide +kernel
theorem dW_law_436 : decode code 436 = .ok (.aload_n 0, 1) := by decide +kernel
theorem dW_law_437 : decode code 437 = .ok (.iload 4, 2) := by decide +kernel
theorem dW_law_439 : decode code 439 = .ok (.iconst 2, 1) := by decide +kernel
theorem dW_law_440 : decode code 440 = .ok (.iadd, 1) := by decide +kernel
theorem dW_law_441 : decode code 441 = .ok (.iaload, 1) := by decide +kernel
theorem dW_law_442 : decode code 442 = .ok (.aload_n 3, 1) := by decide +kernel
theorem dW_law_443 : decode code 443 = .ok (.invokestatic 102, 3) := by decide +kernel
theorem dW_law_446 : decode code 446 = .ok (.istore 5, 2) := by decide +kernel
theorem dW_law_448 : decode code 448 = .ok (.aload_n 2, 1) := by decide +kernel
theorem dW_law_449 : decode code 449 = .ok (.aload_n 0, 1) := by decide +kernel
theorem dW_law_450 : decode code 450 = .ok (.iload 4, 2) := by decide +kernel
theorem dW_law_452 : decode code 452 = .ok (.iconst 1, 1) := by decide +kernel
theorem dW_law_453 : decode code 453 = .ok (.iadd, 1) := by decide +kernel
theorem dW_law_454 : decode code 454 = .ok (.iaload, 1) := by decide +kernel
theorem dW_law_455 : decode code 455 = .ok (.aload_n 0, 1) := by decide +kernel
theorem dW_law_456 : decode code 456 = .ok (.iload 4, 2) := by decide +kernel
theorem dW_law_458 : decode code 458 = .ok (.iconst 2, 1) := by decide +kernel
theorem dW_law_459 : decode code 459 = .ok (.iadd, 1) := by decide +kernel
theorem dW_law_460 : decode code 460 = .ok (.iaload, 1) := by decide +kernel
theorem dW_law_461 : decode code 461 = .ok (.invokevirtual 105, 3) := by decide +kernel
theorem dW_law_464 : decode code 464 = .ok (.istore 6, 2) := by decide +kernel
theorem dW_law_466 : decode code 466 = .ok (.aload_n 2, 1) := by decide +kernel
theorem dW_law_467 : decode code 467 = .ok (.invokevirtual 82, 3) := by decide +kernel
theorem dW_law_470 : decode code 470 = .ok (.iload 5, 2) := by decide +kernel
theorem dW_law_472 : decode code 472 = .ok (.if_icmp .eq 5, 3) := by decide +kernel
theorem dW_law_475 : decode code 475 = .ok (.iconst 0, 1) := by decide +kernel
theorem dW_law_476 : decode code 476 = .ok (.ireturn, 1) := by decide +kernel
theorem dW_law_477 : decode code 477 = .ok (.iload 5, 2) := by decide +kernel
