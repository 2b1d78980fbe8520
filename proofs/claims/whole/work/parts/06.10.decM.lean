theorem dM_clip_204 : decode b_M_clip 204 = .ok (.iload_n 2, 1) := by decide +kernel
theorem dM_clip_205 : decode b_M_clip 205 = .ok (.aload_n 0, 1) := by decide +kernel
theorem dM_clip_206 : decode b_M_clip 206 = .ok (.getfield 45, 3) := by decide +kernel
theorem dM_clip_209 : decode b_M_clip 209 = .ok (.iload_n 2, 1) := by decide +kernel
theorem dM_clip_210 : decode b_M_clip 210 = .ok (.iconst 1, 1) := by decide +kernel
theorem dM_clip_211 : decode b_M_clip 211 = .ok (.iadd, 1) := by decide +kernel
theorem dM_clip_212 : decode b_M_clip 212 = .ok (.iaload, 1) := by decide +kernel
theorem dM_clip_213 : decode b_M_clip 213 = .ok (.iconst 1, 1) := by decide +kernel
theorem dM_clip_214 : decode b_M_clip 214 = .ok (.iadd, 1) := by decide +kernel
theorem dM_clip_215 : decode b_M_clip 215 = .ok (.iastore, 1) := by decide +kernel
theorem dM_clip_216 : decode b_M_clip 216 = .ok (.iconst 0, 1) := by decide +kernel
theorem dM_clip_217 : decode b_M_clip 217 = .ok (.istore_n 3, 1) := by decide +kernel
theorem dM_clip_218 : decode b_M_clip 218 = .ok (.iload_n 3, 1) := by decide +kernel
theorem dM_clip_219 : decode b_M_clip 219 = .ok (.aload_n 0, 1) := by decide +kernel
theorem dM_clip_220 : decode b_M_clip 220 = .ok (.getfield 131, 3) := by decide +kernel
theorem dM_clip_223 : decode b_M_clip 223 = .ok (.if_icmp .ge 73, 3) := by decide +kernel
theorem dM_clip_226 : decode b_M_clip 226 = .ok (.aload_n 0, 1) := by decide +kernel
theorem dM_clip_227 : decode b_M_clip 227 = .ok (.iload_n 3, 1) := by decide +kernel
theorem dM_clip_228 : decode b_M_clip 228 = .ok (.iload_n 2, 1) := by decide +kernel
theorem dM_clip_229 : decode b_M_clip 229 = .ok (.invokevirtual 137, 3) := by decide +kernel
theorem dM_clip_232 : decode b_M_clip 232 = .ok (.ifCond .eq 58, 3) := by decide +kernel
theorem dM_clip_235 : decode b_M_clip 235 = .ok (.aload_n 0, 1) := by decide +kernel
theorem dM_clip_236 : decode b_M_clip 236 = .ok (.iload_n 3, 1) := by decide +kernel
theorem dM_clip_237 : decode b_M_clip 237 = .ok (.iload_n 2, 1) := by decide +kernel
theorem dM_clip_238 : decode b_M_clip 238 = .ok (.invokevirtual 141, 3) := by decide +kernel
theorem dM_clip_241 : decode b_M_clip 241 = .ok (.ifCond .le 49, 3) := by decide +kernel
theorem dM_clip_244 : decode b_M_clip 244 = .ok (.aload_n 0, 1) := by decide +kernel
theorem dM_clip_245 : decode b_M_clip 245 = .ok (.getfield 41, 3) := by decide +kernel
theorem dM_clip_248 : decode b_M_clip 248 = .ok (.iload_n 2, 1) := by decide +kernel
theorem dM_clip_249 : decode b_M_clip 249 = .ok (.aload_n 0, 1) := by decide +kernel
theorem dM_clip_250 : decode b_M_clip 250 = .ok (.getfield 32, 3) := by decide +kernel
theorem dM_clip_253 : decode b_M_clip 253 = .ok (.iload_n 3, 1) := by decide +kernel
theorem dM_clip_254 : decode b_M_clip 254 = .ok (.iaload, 1) := by decide +kernel
theorem dM_clip_255 : decode b_M_clip 255 = .ok (.i2l, 1) := by decide +kernel
theorem dM_clip_256 : decode b_M_clip 256 = .ok (.aload_n 0, 1) := by decide +kernel
theorem dM_clip_257 : decode b_M_clip 257 = .ok (.getfield 41, 3) := by decide +kernel
theorem dM_clip_260 : decode b_M_clip 260 = .ok (.iload_n 2, 1) := by decide +kernel
theorem dM_clip_261 : decode b_M_clip 261 = .ok (.aload_n 0, 1) := by decide +kernel
theorem dM_clip_262 : decode b_M_clip 262 = .ok (.getfield 29, 3) := by decide +kernel
theorem dM_clip_265 : decode b_M_clip 265 = .ok (.iload_n 3, 1) := by decide +kernel
theorem dM_clip_266 : decode b_M_clip 266 = .ok (.iaload, 1) := by decide +kernel
theorem dM_clip_267 : decode b_M_clip 267 = .ok (.iadd, 1) := by decide +kernel
theorem dM_clip_268 : decode b_M_clip 268 = .ok (.laload, 1) := by decide +kernel
theorem dM_clip_269 : decode b_M_clip 269 = .ok (.ladd, 1) := by decide +kernel
theorem dM_clip_270 : decode b_M_clip 270 = .ok (.lastore, 1) := by decide +kernel
theorem dM_clip_271 : decode b_M_clip 271 = .ok (.aload_n 0, 1) := by decide +kernel
theorem dM_clip_272 : decode b_M_clip 272 = .ok (.getfield 45, 3) := by decide +kernel
theorem dM_clip_275 : decode b_M_clip 275 = .ok (.iload_n 2, 1) := by decide +kernel
theorem dM_clip_276 : decode b_M_clip 276 = .ok (.aload_n 0, 1) := by decide +kernel
theorem dM_clip_277 : decode b_M_clip 277 = .ok (.getfield 45, 3) := by decide +kernel
theorem dM_clip_280 : decode b_M_clip 280 = .ok (.iload_n 2, 1) := by decide +kernel
theorem dM_clip_281 : decode b_M_clip 281 = .ok (.aload_n 0, 1) := by decide +kernel
theorem dM_clip_282 : decode b_M_clip 282 = .ok (.getfield 29, 3) := by decide +kernel
theorem dM_clip_285 : decode b_M_clip 285 = .ok (.iload_n 3, 1) := by decide +kernel
theorem dM_clip_286 : decode b_M_clip 286 = .ok (.iaload, 1) := by decide +kernel
theorem dM_clip_287 : decode b_M_clip 287 = .ok (.iadd, 1) := by decide +kernel
theorem dM_clip_288 : decode b_M_clip 288 = .ok (.iaload, 1) := by decide +kernel
theorem dM_clip_289 : decode b_M_clip 289 = .ok (.iastore, 1) := by decide +kernel
theorem dM_clip_290 : decode b_M_clip 290 = .ok (.iinc 3 1, 3) := by decide +kernel
theorem dM_clip_293 : decode b_M_clip 293 = .ok (.goto (-75), 3) := by decide +kernel
theorem dM_clip_296 : decode b_M_clip 296 = .ok (.iinc 2 (-1), 3) := by decide +kernel
theorem dM_clip_299 : decode b_M_clip 299 = .ok (.goto (-117), 3) := by decide +kernel
theorem dM_clip_302 : decode b_M_clip 302 = .ok (.aload_n 0, 1) := by decide +kernel
theorem dM_clip_303 : decode b_M_clip 303 = .ok (.iconst 0, 1) := by decide +kernel
theorem dM_clip_304 : decode b_M_clip 304 = .ok (.putfield 143, 3) := by decide +kernel
theorem dM_clip_307 : decode b_M_clip 307 = .ok (.iconst 0, 1) := by decide +kernel
theorem dM_clip_308 : decode b_M_clip 308 = .ok (.istore_n 2, 1) := by decide +kernel
theorem dM_clip_309 : decode b_M_clip 309 = .ok (.iload_n 2, 1) := by decide +kernel
theorem dM_clip_310 : decode b_M_clip 310 = .ok (.aload_n 0, 1) := by decide +kernel
theorem dM_clip_311 : decode b_M_clip 311 = .ok (.getfield 134, 3) := by decide +kernel
theorem dM_clip_314 : decode b_M_clip 314 = .ok (.if_icmp .ge 93, 3) := by decide +kernel
theorem dM_clip_317 : decode b_M_clip 317 = .ok (.iconst 0, 1) := by decide +kernel
theorem dM_clip_318 : decode b_M_clip 318 = .ok (.istore_n 3, 1) := by decide +kernel
theorem dM_clip_319 : decode b_M_clip 319 = .ok (.iload_n 3, 1) := by decide +kernel
theorem dM_clip_320 : decode b_M_clip 320 = .ok (.aload_n 0, 1) := by decide +kernel
theorem dM_clip_321 : decode b_M_clip 321 = .ok (.getfield 131, 3) := by decide +kernel
theorem dM_clip_324 : decode b_M_clip 324 = .ok (.if_icmp .ge 27, 3) := by decide +kernel
theorem dM_clip_327 : decode b_M_clip 327 = .ok (.aload_n 0, 1) := by decide +kernel
theorem dM_clip_328 : decode b_M_clip 328 = .ok (.iload_n 3, 1) := by decide +kernel
theorem dM_clip_329 : decode b_M_clip 329 = .ok (.iload_n 2, 1) := by decide +kernel
theorem dM_clip_330 : decode b_M_clip 330 = .ok (.invokevirtual 137, 3) := by decide +kernel
theorem dM_clip_333 : decode b_M_clip 333 = .ok (.ifCond .eq 12, 3) := by decide +kernel
theorem dM_clip_336 : decode b_M_clip 336 = .ok (.aload_n 0, 1) := by decide +kernel
theorem dM_clip_337 : decode b_M_clip 337 = .ok (.iload_n 3, 1) := by decide +kernel
theorem dM_clip_338 : decode b_M_clip 338 = .ok (.iload_n 2, 1) := by decide +kernel
theorem dM_clip_339 : decode b_M_clip 339 = .ok (.invokevirtual 141, 3) := by decide +kernel
theorem dM_clip_342 : decode b_M_clip 342 = .ok (.ifCond .eq 9, 3) := by decide +kernel
theorem dM_clip_345 : decode b_M_clip 345 = .ok (.iinc 3 1, 3) := by decide +kernel
theorem dM_clip_348 : decode b_M_clip 348 = .ok (.goto (-29), 3) := by decide +kernel
theorem dM_clip_351 : decode b_M_clip 351 = .ok (.iload_n 3, 1) := by decide +kernel
theorem dM_clip_352 : decode b_M_clip 352 = .ok (.aload_n 0, 1) := by decide +kernel
theorem dM_clip_353 : decode b_M_clip 353 = .ok (.getfield 131, 3) := by decide +kernel
theorem dM_clip_356 : decode b_M_clip 356 = .ok (.if_icmp .ge 45, 3) := by decide +kernel
theorem dM_clip_359 : decode b_M_clip 359 = .ok (.aload_n 0, 1) := by decide +kernel
theorem dM_clip_360 : decode b_M_clip 360 = .ok (.getfield 48, 3) := by decide +kernel
theorem dM_clip_363 : decode b_M_clip 363 = .ok (.aload_n 0, 1) := by decide +kernel
theorem dM_clip_364 : decode b_M_clip 364 = .ok (.getfield 143, 3) := by decide +kernel
theorem dM_clip_367 : decode b_M_clip 367 = .ok (.iload_n 3, 1) := by decide +kernel
theorem dM_clip_368 : decode b_M_clip 368 = .ok (.iastore, 1) := by decide +kernel
theorem dM_clip_369 : decode b_M_clip 369 = .ok (.aload_n 0, 1) := by decide +kernel
theorem dM_clip_370 : decode b_M_clip 370 = .ok (.getfield 51, 3) := by decide +kernel
theorem dM_clip_373 : decode b_M_clip 373 = .ok (.aload_n 0, 1) := by decide +kernel
theorem dM_clip_374 : decode b_M_clip 374 = .ok (.getfield 143, 3) := by decide +kernel
theorem dM_clip_377 : decode b_M_clip 377 = .ok (.iload_n 2, 1) := by decide +kernel
theorem dM_clip_378 : decode b_M_clip 378 = .ok (.iastore, 1) := by decide +kernel
theorem dM_clip_379 : decode b_M_clip 379 = .ok (.aload_n 0, 1) := by decide +kernel
theorem dM_clip_380 : decode b_M_clip 380 = .ok (.dup, 1) := by decide +kernel
theorem dM_clip_381 : decode b_M_clip 381 = .ok (.getfield 143, 3) := by decide +kernel
theorem dM_clip_384 : decode b_M_clip 384 = .ok (.iconst 1, 1) := by decide +kernel
theorem dM_clip_385 : decode b_M_clip 385 = .ok (.iadd, 1) := by decide +kernel
theorem dM_clip_386 : decode b_M_clip 386 = .ok (.putfield 143, 3) := by decide +kernel
theorem dM_clip_389 : decode b_M_clip 389 = .ok (.iload_n 2, 1) := by decide +kernel
theorem dM_clip_390 : decode b_M_clip 390 = .ok (.aload_n 0, 1) := by decide +kernel
theorem dM_clip_391 : decode b_M_clip 391 = .ok (.getfield 29, 3) := by decide +kernel
theorem dM_clip_394 : decode b_M_clip 394 = .ok (.iload_n 3, 1) := by decide +kernel
theorem dM_clip_395 : decode b_M_clip 395 = .ok (.iaload, 1) := by decide +kernel
theorem dM_clip_396 : decode b_M_clip 396 = .ok (.iadd, 1) := by decide +kernel
theorem dM_clip_397 : decode b_M_clip 397 = .ok (.istore_n 2, 1) := by decide +kernel
theorem dM_clip_398 : decode b_M_clip 398 = .ok (.goto 6, 3) := by decide +kernel
theorem dM_clip_401 : decode b_M_clip 401 = .ok (.iinc 2 1, 3) := by decide +kernel
theorem dM_clip_404 : decode b_M_clip 404 = .ok (.goto (-95), 3) := by decide +kernel
theorem dM_clip_407 : decode b_M_clip 407 = .ok (.aload_n 0, 1) := by decide +kernel
theorem dM_clip_408 : decode b_M_clip 408 = .ok (.iconst 1, 1) := by decide +kernel
theorem dM_clip_409 : decode b_M_clip 409 = .ok (.putfield 84, 3) := by decide +kernel
theorem dM_clip_412 : decode b_M_clip 412 = .ok (.aload_n 0, 1) := by decide +kernel
theorem dM_clip_413 : decode b_M_clip 413 = .ok (.getfield 143, 3) := by decide +kernel
theorem dM_clip_416 : decode b_M_clip 416 = .ok (.ireturn, 1) := by decide +kernel
theorem dM_at_0 : decode b_M_at 0 = .ok (.aload_n 0, 1) := by decide +kernel
theorem dM_at_1 : decode b_M_at 1 = .ok (.aload_n 0, 1) := by decide +kernel
theorem dM_at_2 : decode b_M_at 2 = .ok (.getfield 84, 3) := by decide +kernel
theorem dM_at_5 : decode b_M_at 5 = .ok (.ifCond .ne 7, 3) := by decide +kernel
theorem dM_at_8 : decode b_M_at 8 = .ok (.iconst 1, 1) := by decide +kernel
theorem dM_at_9 : decode b_M_at 9 = .ok (.goto 31, 3) := by decide +kernel
theorem dM_at_12 : decode b_M_at 12 = .ok (.iload_n 1, 1) := by decide +kernel
theorem dM_at_13 : decode b_M_at 13 = .ok (.iconst 0, 1) := by decide +kernel
theorem dM_at_14 : decode b_M_at 14 = .ok (.aload_n 0, 1) := by decide +kernel
theorem dM_at_15 : decode b_M_at 15 = .ok (.getfield 143, 3) := by decide +kernel
theorem dM_at_18 : decode b_M_at 18 = .ok (.iconst 1, 1) := by decide +kernel
theorem dM_at_19 : decode b_M_at 19 = .ok (.isub, 1) := by decide +kernel
theorem dM_at_20 : decode b_M_at 20 = .ok (.invokestatic 73, 3) := by decide +kernel
theorem dM_at_23 : decode b_M_at 23 = .ok (.ifCond .eq 16, 3) := by decide +kernel
theorem dM_at_26 : decode b_M_at 26 = .ok (.iload_n 2, 1) := by decide +kernel
theorem dM_at_27 : decode b_M_at 27 = .ok (.iconst 0, 1) := by decide +kernel
theorem dM_at_28 : decode b_M_at 28 = .ok (.iconst 1, 1) := by decide +kernel
theorem dM_at_29 : decode b_M_at 29 = .ok (.invokestatic 73, 3) := by decide +kernel
theorem dM_at_32 : decode b_M_at 32 = .ok (.ifCond .eq 7, 3) := by decide +kernel
theorem dM_at_35 : decode b_M_at 35 = .ok (.iconst 0, 1) := by decide +kernel
theorem dM_at_36 : decode b_M_at 36 = .ok (.goto 4, 3) := by decide +kernel
theorem dM_at_39 : decode b_M_at 39 = .ok (.iconst 2, 1) := by decide +kernel
theorem dM_at_40 : decode b_M_at 40 = .ok (.putfield 70, 3) := by decide +kernel
theorem dM_at_43 : decode b_M_at 43 = .ok (.aload_n 0, 1) := by decide +kernel
theorem dM_at_44 : decode b_M_at 44 = .ok (.getfield 70, 3) := by decide +kernel
theorem dM_at_47 : decode b_M_at 47 = .ok (.ifCond .le 7, 3) := by decide +kernel
theorem dM_at_50 : decode b_M_at 50 = .ok (.iconst 0, 1) := by decide +kernel
theorem dM_at_51 : decode b_M_at 51 = .ok (.goto 22, 3) := by decide +kernel
theorem dM_at_54 : decode b_M_at 54 = .ok (.iload_n 2, 1) := by decide +kernel
theorem dM_at_55 : decode b_M_at 55 = .ok (.ifCond .ne 12, 3) := by decide +kernel
theorem dM_at_58 : decode b_M_at 58 = .ok (.aload_n 0, 1) := by decide +kernel
theorem dM_at_59 : decode b_M_at 59 = .ok (.getfield 48, 3) := by decide +kernel
theorem dM_at_62 : decode b_M_at 62 = .ok (.iload_n 1, 1) := by decide +kernel
theorem dM_at_63 : decode b_M_at 63 = .ok (.iaload, 1) := by decide +kernel
theorem dM_at_64 : decode b_M_at 64 = .ok (.goto 9, 3) := by decide +kernel
theorem dM_at_67 : decode b_M_at 67 = .ok (.aload_n 0, 1) := by decide +kernel
theorem dM_at_68 : decode b_M_at 68 = .ok (.getfield 51, 3) := by decide +kernel
theorem dM_at_71 : decode b_M_at 71 = .ok (.iload_n 1, 1) := by decide +kernel
theorem dM_at_72 : decode b_M_at 72 = .ok (.iaload, 1) := by decide +kernel
theorem dM_at_73 : decode b_M_at 73 = .ok (.ireturn, 1) := by decide +kernel
theorem dM_clipped_0 : decode b_M_clipped 0 = .ok (.aload_n 0, 1) := by decide +kernel
theorem dM_clipped_1 : decode b_M_clipped 1 = .ok (.aload_n 0, 1) := by decide +kernel
theorem dM_clipped_2 : decode b_M_clipped 2 = .ok (.getfield 84, 3) := by decide +kernel
theorem dM_clipped_5 : decode b_M_clipped 5 = .ok (.ifCond .ne 7, 3) := by decide +kernel
theorem dM_clipped_8 : decode b_M_clipped 8 = .ok (.iconst 1, 1) := by decide +kernel
theorem dM_clipped_9 : decode b_M_clipped 9 = .ok (.goto 17, 3) := by decide +kernel
theorem dM_clipped_12 : decode b_M_clipped 12 = .ok (.iload_n 1, 1) := by decide +kernel
theorem dM_clipped_13 : decode b_M_clipped 13 = .ok (.iconst 0, 1) := by decide +kernel
theorem dM_clipped_14 : decode b_M_clipped 14 = .ok (.iconst 2, 1) := by decide +kernel
theorem dM_clipped_15 : decode b_M_clipped 15 = .ok (.invokestatic 73, 3) := by decide +kernel
theorem dM_clipped_18 : decode b_M_clipped 18 = .ok (.ifCond .eq 7, 3) := by decide +kernel
theorem dM_clipped_21 : decode b_M_clipped 21 = .ok (.iconst 0, 1) := by decide +kernel
theorem dM_clipped_22 : decode b_M_clipped 22 = .ok (.goto 4, 3) := by decide +kernel
theorem dM_clipped_25 : decode b_M_clipped 25 = .ok (.iconst 2, 1) := by decide +kernel
theorem dM_clipped_26 : decode b_M_clipped 26 = .ok (.putfield 70, 3) := by decide +kernel
theorem dM_clipped_29 : decode b_M_clipped 29 = .ok (.aload_n 0, 1) := by decide +kernel
theorem dM_clipped_30 : decode b_M_clipped 30 = .ok (.getfield 70, 3) := by decide +kernel
theorem dM_clipped_33 : decode b_M_clipped 33 = .ok (.ifCond .le 7, 3) := by decide +kernel
theorem dM_clipped_36 : decode b_M_clipped 36 = .ok (.iconst 0, 1) := by decide +kernel
theorem dM_clipped_37 : decode b_M_clipped 37 = .ok (.goto 35, 3) := by decide +kernel
theorem dM_clipped_40 : decode b_M_clipped 40 = .ok (.iload_n 1, 1) := by decide +kernel
theorem dM_clipped_41 : decode b_M_clipped 41 = .ok (.ifCond .ne 13, 3) := by decide +kernel
theorem dM_clipped_44 : decode b_M_clipped 44 = .ok (.aload_n 0, 1) := by decide +kernel
theorem dM_clipped_45 : decode b_M_clipped 45 = .ok (.getfield 41, 3) := by decide +kernel
theorem dM_clipped_48 : decode b_M_clipped 48 = .ok (.iconst 0, 1) := by decide +kernel
theorem dM_clipped_49 : decode b_M_clipped 49 = .ok (.laload, 1) := by decide +kernel
theorem dM_clipped_50 : decode b_M_clipped 50 = .ok (.l2i, 1) := by decide +kernel
theorem dM_clipped_51 : decode b_M_clipped 51 = .ok (.goto 21, 3) := by decide +kernel
theorem dM_clipped_54 : decode b_M_clipped 54 = .ok (.iload_n 1, 1) := by decide +kernel
theorem dM_clipped_55 : decode b_M_clipped 55 = .ok (.iconst 1, 1) := by decide +kernel
theorem dM_clipped_56 : decode b_M_clipped 56 = .ok (.if_icmp .ne 12, 3) := by decide +kernel
theorem dM_clipped_59 : decode b_M_clipped 59 = .ok (.aload_n 0, 1) := by decide +kernel
theorem dM_clipped_60 : decode b_M_clipped 60 = .ok (.getfield 45, 3) := by decide +kernel
theorem dM_clipped_63 : decode b_M_clipped 63 = .ok (.iconst 0, 1) := by decide +kernel
theorem dM_clipped_64 : decode b_M_clipped 64 = .ok (.iaload, 1) := by decide +kernel
theorem dM_clipped_65 : decode b_M_clipped 65 = .ok (.goto 7, 3) := by decide +kernel
theorem dM_clipped_68 : decode b_M_clipped 68 = .ok (.aload_n 0, 1) := by decide +kernel
theorem dM_clipped_69 : decode b_M_clipped 69 = .ok (.getfield 134, 3) := by decide +kernel
theorem dM_clipped_72 : decode b_M_clipped 72 = .ok (.ireturn, 1) := by decide +kernel
theorem dM_shrink_0 : decode b_M_shrink 0 = .ok (.aload_n 0, 1) := by decide +kernel
theorem dM_shrink_1 : decode b_M_shrink 1 = .ok (.iload_n 1, 1) := by decide +kernel
theorem dM_shrink_2 : decode b_M_shrink 2 = .ok (.iconst 0, 1) := by decide +kernel
theorem dM_shrink_3 : decode b_M_shrink 3 = .ok (.aload_n 0, 1) := by decide +kernel
theorem dM_shrink_4 : decode b_M_shrink 4 = .ok (.getfield 131, 3) := by decide +kernel
theorem dM_shrink_7 : decode b_M_shrink 7 = .ok (.iconst 1, 1) := by decide +kernel
theorem dM_shrink_8 : decode b_M_shrink 8 = .ok (.isub, 1) := by decide +kernel
theorem dM_shrink_9 : decode b_M_shrink 9 = .ok (.invokestatic 73, 3) := by decide +kernel
theorem dM_shrink_12 : decode b_M_shrink 12 = .ok (.ifCond .ne 7, 3) := by decide +kernel
theorem dM_shrink_15 : decode b_M_shrink 15 = .ok (.iconst 1, 1) := by decide +kernel
theorem dM_shrink_16 : decode b_M_shrink 16 = .ok (.goto 28, 3) := by decide +kernel
theorem dM_shrink_19 : decode b_M_shrink 19 = .ok (.iload_n 3, 1) := by decide +kernel
theorem dM_shrink_20 : decode b_M_shrink 20 = .ok (.iconst 1, 1) := by decide +kernel
theorem dM_shrink_21 : decode b_M_shrink 21 = .ok (.sipush 1000, 3) := by decide +kernel
theorem dM_shrink_24 : decode b_M_shrink 24 = .ok (.invokestatic 73, 3) := by decide +kernel
theorem dM_shrink_27 : decode b_M_shrink 27 = .ok (.ifCond .eq 16, 3) := by decide +kernel
theorem dM_shrink_30 : decode b_M_shrink 30 = .ok (.iload_n 2, 1) := by decide +kernel
theorem dM_shrink_31 : decode b_M_shrink 31 = .ok (.iconst 0, 1) := by decide +kernel
theorem dM_shrink_32 : decode b_M_shrink 32 = .ok (.iload_n 3, 1) := by decide +kernel
theorem dM_shrink_33 : decode b_M_shrink 33 = .ok (.invokestatic 73, 3) := by decide +kernel
theorem dM_shrink_36 : decode b_M_shrink 36 = .ok (.ifCond .eq 7, 3) := by decide +kernel
theorem dM_shrink_39 : decode b_M_shrink 39 = .ok (.iconst 0, 1) := by decide +kernel
theorem dM_shrink_40 : decode b_M_shrink 40 = .ok (.goto 4, 3) := by decide +kernel
theorem dM_shrink_43 : decode b_M_shrink 43 = .ok (.iconst 2, 1) := by decide +kernel
theorem dM_shrink_44 : decode b_M_shrink 44 = .ok (.putfield 70, 3) := by decide +kernel
theorem dM_shrink_47 : decode b_M_shrink 47 = .ok (.aload_n 0, 1) := by decide +kernel
theorem dM_shrink_48 : decode b_M_shrink 48 = .ok (.getfield 70, 3) := by decide +kernel
theorem dM_shrink_51 : decode b_M_shrink 51 = .ok (.ifCond .le 7, 3) := by decide +kernel
theorem dM_shrink_54 : decode b_M_shrink 54 = .ok (.iconst 0, 1) := by decide +kernel
theorem dM_shrink_55 : decode b_M_shrink 55 = .ok (.goto 13, 3) := by decide +kernel
theorem dM_shrink_58 : decode b_M_shrink 58 = .ok (.aload_n 0, 1) := by decide +kernel
theorem dM_shrink_59 : decode b_M_shrink 59 = .ok (.getfield 29, 3) := by decide +kernel
theorem dM_shrink_62 : decode b_M_shrink 62 = .ok (.iload_n 1, 1) := by decide +kernel
theorem dM_shrink_63 : decode b_M_shrink 63 = .ok (.iaload, 1) := by decide +kernel
theorem dM_shrink_64 : decode b_M_shrink 64 = .ok (.iload_n 2, 1) := by decide +kernel
theorem dM_shrink_65 : decode b_M_shrink 65 = .ok (.imul, 1) := by decide +kernel
theorem dM_shrink_66 : decode b_M_shrink 66 = .ok (.iload_n 3, 1) := by decide +kernel
theorem dM_shrink_67 : decode b_M_shrink 67 = .ok (.idiv, 1) := by decide +kernel
theorem dM_shrink_68 : decode b_M_shrink 68 = .ok (.ireturn, 1) := by decide +kernel
theorem dM_row_0 : decode b_M_row 0 = .ok (.aload_n 0, 1) := by decide +kernel
theorem dM_row_1 : decode b_M_row 1 = .ok (.iload_n 1, 1) := by decide +kernel
theorem dM_row_2 : decode b_M_row 2 = .ok (.iconst 0, 1) := by decide +kernel
theorem dM_row_3 : decode b_M_row 3 = .ok (.sipush 1000, 3) := by decide +kernel
theorem dM_row_6 : decode b_M_row 6 = .ok (.invokestatic 73, 3) := by decide +kernel
theorem dM_row_9 : decode b_M_row 9 = .ok (.ifCond .eq 40, 3) := by decide +kernel
theorem dM_row_12 : decode b_M_row 12 = .ok (.aload_n 0, 1) := by decide +kernel
theorem dM_row_13 : decode b_M_row 13 = .ok (.getfield 146, 3) := by decide +kernel
theorem dM_row_16 : decode b_M_row 16 = .ok (.ifCond .eq 18, 3) := by decide +kernel
theorem dM_row_19 : decode b_M_row 19 = .ok (.iload_n 1, 1) := by decide +kernel
theorem dM_row_20 : decode b_M_row 20 = .ok (.aload_n 0, 1) := by decide +kernel
theorem dM_row_21 : decode b_M_row 21 = .ok (.getfield 54, 3) := by decide +kernel
theorem dM_row_24 : decode b_M_row 24 = .ok (.aload_n 0, 1) := by decide +kernel
theorem dM_row_25 : decode b_M_row 25 = .ok (.getfield 146, 3) := by decide +kernel
theorem dM_row_28 : decode b_M_row 28 = .ok (.iconst 1, 1) := by decide +kernel
theorem dM_row_29 : decode b_M_row 29 = .ok (.isub, 1) := by decide +kernel
theorem dM_row_30 : decode b_M_row 30 = .ok (.iaload, 1) := by decide +kernel
theorem dM_row_31 : decode b_M_row 31 = .ok (.if_icmp .ge 18, 3) := by decide +kernel
theorem dM_row_34 : decode b_M_row 34 = .ok (.iload_n 2, 1) := by decide +kernel
theorem dM_row_35 : decode b_M_row 35 = .ok (.bipush (-100), 2) := by decide +kernel
theorem dM_row_37 : decode b_M_row 37 = .ok (.bipush 100, 2) := by decide +kernel
theorem dM_row_39 : decode b_M_row 39 = .ok (.invokestatic 73, 3) := by decide +kernel
theorem dM_row_42 : decode b_M_row 42 = .ok (.ifCond .eq 7, 3) := by decide +kernel
theorem dM_row_45 : decode b_M_row 45 = .ok (.iconst 0, 1) := by decide +kernel
theorem dM_row_46 : decode b_M_row 46 = .ok (.goto 4, 3) := by decide +kernel
theorem dM_row_49 : decode b_M_row 49 = .ok (.iconst 1, 1) := by decide +kernel
theorem dM_row_50 : decode b_M_row 50 = .ok (.putfield 70, 3) := by decide +kernel
theorem dM_row_53 : decode b_M_row 53 = .ok (.aload_n 0, 1) := by decide +kernel
theorem dM_row_54 : decode b_M_row 54 = .ok (.getfield 70, 3) := by decide +kernel
theorem dM_row_57 : decode b_M_row 57 = .ok (.ifCond .gt 12, 3) := by decide +kernel
theorem dM_row_60 : decode b_M_row 60 = .ok (.aload_n 0, 1) := by decide +kernel
theorem dM_row_61 : decode b_M_row 61 = .ok (.getfield 146, 3) := by decide +kernel
theorem dM_row_64 : decode b_M_row 64 = .ok (.bipush 8, 2) := by decide +kernel
theorem dM_row_66 : decode b_M_row 66 = .ok (.if_icmp .ne 5, 3) := by decide +kernel
theorem dM_row_69 : decode b_M_row 69 = .ok (.iconst 0, 1) := by decide +kernel
theorem dM_row_70 : decode b_M_row 70 = .ok (.ireturn, 1) := by decide +kernel
theorem dM_row_71 : decode b_M_row 71 = .ok (.aload_n 0, 1) := by decide +kernel
theorem dM_row_72 : decode b_M_row 72 = .ok (.getfield 54, 3) := by decide +kernel
theorem dM_row_75 : decode b_M_row 75 = .ok (.aload_n 0, 1) := by decide +kernel
theorem dM_row_76 : decode b_M_row 76 = .ok (.getfield 146, 3) := by decide +kernel
theorem dM_row_79 : decode b_M_row 79 = .ok (.iload_n 1, 1) := by decide +kernel
theorem dM_row_80 : decode b_M_row 80 = .ok (.iastore, 1) := by decide +kernel
theorem dM_row_81 : decode b_M_row 81 = .ok (.aload_n 0, 1) := by decide +kernel
theorem dM_row_82 : decode b_M_row 82 = .ok (.getfield 57, 3) := by decide +kernel
theorem dM_row_85 : decode b_M_row 85 = .ok (.aload_n 0, 1) := by decide +kernel
theorem dM_row_86 : decode b_M_row 86 = .ok (.getfield 146, 3) := by decide +kernel
theorem dM_row_89 : decode b_M_row 89 = .ok (.iload_n 2, 1) := by decide +kernel
theorem dM_row_90 : decode b_M_row 90 = .ok (.iastore, 1) := by decide +kernel
theorem dM_row_91 : decode b_M_row 91 = .ok (.aload_n 0, 1) := by decide +kernel
theorem dM_row_92 : decode b_M_row 92 = .ok (.dup, 1) := by decide +kernel
theorem dM_row_93 : decode b_M_row 93 = .ok (.getfield 146, 3) := by decide +kernel
theorem dM_row_96 : decode b_M_row 96 = .ok (.iconst 1, 1) := by decide +kernel
theorem dM_row_97 : decode b_M_row 97 = .ok (.iadd, 1) := by decide +kernel
theorem dM_row_98 : decode b_M_row 98 = .ok (.putfield 146, 3) := by decide +kernel
theorem dM_row_101 : decode b_M_row 101 = .ok (.iconst 1, 1) := by decide +kernel
theorem dM_row_102 : decode b_M_row 102 = .ok (.ireturn, 1) := by decide +kernel
theorem dM_knife_0 : decode b_M_knife 0 = .ok (.aload_n 0, 1) := by decide +kernel
theorem dM_knife_1 : decode b_M_knife 1 = .ok (.iload_n 1, 1) := by decide +kernel
theorem dM_knife_2 : decode b_M_knife 2 = .ok (.iconst 0, 1) := by decide +kernel
theorem dM_knife_3 : decode b_M_knife 3 = .ok (.sipush 1000, 3) := by decide +kernel
theorem dM_knife_6 : decode b_M_knife 6 = .ok (.invokestatic 73, 3) := by decide +kernel
theorem dM_knife_9 : decode b_M_knife 9 = .ok (.ifCond .eq 7, 3) := by decide +kernel
theorem dM_knife_12 : decode b_M_knife 12 = .ok (.iconst 0, 1) := by decide +kernel
theorem dM_knife_13 : decode b_M_knife 13 = .ok (.goto 4, 3) := by decide +kernel
theorem dM_knife_16 : decode b_M_knife 16 = .ok (.iconst 1, 1) := by decide +kernel
theorem dM_knife_17 : decode b_M_knife 17 = .ok (.putfield 70, 3) := by decide +kernel
theorem dM_knife_20 : decode b_M_knife 20 = .ok (.iconst (-1), 1) := by decide +kernel
theorem dM_knife_21 : decode b_M_knife 21 = .ok (.istore_n 2, 1) := by decide +kernel
theorem dM_knife_22 : decode b_M_knife 22 = .ok (.iconst 0, 1) := by decide +kernel
theorem dM_knife_23 : decode b_M_knife 23 = .ok (.istore_n 3, 1) := by decide +kernel
theorem dM_knife_24 : decode b_M_knife 24 = .ok (.iload_n 3, 1) := by decide +kernel
theorem dM_knife_25 : decode b_M_knife 25 = .ok (.aload_n 0, 1) := by decide +kernel
theorem dM_knife_26 : decode b_M_knife 26 = .ok (.getfield 146, 3) := by decide +kernel
theorem dM_knife_29 : decode b_M_knife 29 = .ok (.if_icmp .ge 41, 3) := by decide +kernel
theorem dM_knife_32 : decode b_M_knife 32 = .ok (.aload_n 0, 1) := by decide +kernel
theorem dM_knife_33 : decode b_M_knife 33 = .ok (.getfield 70, 3) := by decide +kernel
theorem dM_knife_36 : decode b_M_knife 36 = .ok (.ifCond .ne 34, 3) := by decide +kernel
theorem dM_knife_39 : decode b_M_knife 39 = .ok (.aload_n 0, 1) := by decide +kernel
theorem dM_knife_40 : decode b_M_knife 40 = .ok (.getfield 54, 3) := by decide +kernel
theorem dM_knife_43 : decode b_M_knife 43 = .ok (.iload_n 3, 1) := by decide +kernel
theorem dM_knife_44 : decode b_M_knife 44 = .ok (.iaload, 1) := by decide +kernel
theorem dM_knife_45 : decode b_M_knife 45 = .ok (.iload_n 1, 1) := by decide +kernel
theorem dM_knife_46 : decode b_M_knife 46 = .ok (.if_icmp .lt 16, 3) := by decide +kernel
theorem dM_knife_49 : decode b_M_knife 49 = .ok (.sipush 1000, 3) := by decide +kernel
theorem dM_knife_52 : decode b_M_knife 52 = .ok (.aload_n 0, 1) := by decide +kernel
theorem dM_knife_53 : decode b_M_knife 53 = .ok (.getfield 57, 3) := by decide +kernel
theorem dM_knife_56 : decode b_M_knife 56 = .ok (.iload_n 3, 1) := by decide +kernel
theorem dM_knife_57 : decode b_M_knife 57 = .ok (.iaload, 1) := by decide +kernel
theorem dM_knife_58 : decode b_M_knife 58 = .ok (.iadd, 1) := by decide +kernel
theorem dM_knife_59 : decode b_M_knife 59 = .ok (.goto 4, 3) := by decide +kernel
theorem dM_knife_62 : decode b_M_knife 62 = .ok (.iload_n 2, 1) := by decide +kernel
theorem dM_knife_63 : decode b_M_knife 63 = .ok (.istore_n 2, 1) := by decide +kernel
theorem dM_knife_64 : decode b_M_knife 64 = .ok (.iinc 3 1, 3) := by decide +kernel
theorem dM_knife_67 : decode b_M_knife 67 = .ok (.goto (-43), 3) := by decide +kernel
theorem dM_knife_70 : decode b_M_knife 70 = .ok (.aload_n 0, 1) := by decide +kernel
theorem dM_knife_71 : decode b_M_knife 71 = .ok (.getfield 70, 3) := by decide +kernel
theorem dM_knife_74 : decode b_M_knife 74 = .ok (.ifCond .le 7, 3) := by decide +kernel
theorem dM_knife_77 : decode b_M_knife 77 = .ok (.iconst 0, 1) := by decide +kernel
theorem dM_knife_78 : decode b_M_knife 78 = .ok (.goto 4, 3) := by decide +kernel
theorem dM_knife_81 : decode b_M_knife 81 = .ok (.iload_n 2, 1) := by decide +kernel
theorem dM_knife_82 : decode b_M_knife 82 = .ok (.ireturn, 1) := by decide +kernel
