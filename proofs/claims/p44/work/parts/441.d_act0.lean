/-! instructions of act -/
theorem dL_act_0 : decode cL_act 0 = .ok (.iload_n 2, 1) := by decide +kernel
theorem dL_act_1 : decode cL_act 1 = .ok (.bipush 32, 2) := by decide +kernel
theorem dL_act_3 : decode cL_act 3 = .ok (.idiv, 1) := by decide +kernel
theorem dL_act_4 : decode cL_act 4 = .ok (.istore_n 3, 1) := by decide +kernel
theorem dL_act_5 : decode cL_act 5 = .ok (.aload_n 0, 1) := by decide +kernel
theorem dL_act_6 : decode cL_act 6 = .ok (.invokevirtual 133, 3) := by decide +kernel
theorem dL_act_9 : decode cL_act 9 = .ok (.ifCond .ne 7, 3) := by decide +kernel
theorem dL_act_12 : decode cL_act 12 = .ok (.iconst 0, 1) := by decide +kernel
theorem dL_act_13 : decode cL_act 13 = .ok (.goto 9, 3) := by decide +kernel
theorem dL_act_16 : decode cL_act 16 = .ok (.iload_n 3, 1) := by decide +kernel
theorem dL_act_17 : decode cL_act 17 = .ok (.aload_n 0, 1) := by decide +kernel
theorem dL_act_18 : decode cL_act 18 = .ok (.invokevirtual 133, 3) := by decide +kernel
theorem dL_act_21 : decode cL_act 21 = .ok (.irem, 1) := by decide +kernel
theorem dL_act_22 : decode cL_act 22 = .ok (.istore 4, 2) := by decide +kernel
theorem dL_act_24 : decode cL_act 24 = .ok (.aload_n 1, 1) := by decide +kernel
theorem dL_act_25 : decode cL_act 25 = .ok (.iconst 0, 1) := by decide +kernel
theorem dL_act_26 : decode cL_act 26 = .ok (.iaload, 1) := by decide +kernel
theorem dL_act_27 : decode cL_act 27 = .ok (.ifCond .ne 7, 3) := by decide +kernel
theorem dL_act_30 : decode cL_act 30 = .ok (.iconst 0, 1) := by decide +kernel
theorem dL_act_31 : decode cL_act 31 = .ok (.goto 8, 3) := by decide +kernel
theorem dL_act_34 : decode cL_act 34 = .ok (.iload_n 3, 1) := by decide +kernel
theorem dL_act_35 : decode cL_act 35 = .ok (.aload_n 1, 1) := by decide +kernel
theorem dL_act_36 : decode cL_act 36 = .ok (.iconst 0, 1) := by decide +kernel
theorem dL_act_37 : decode cL_act 37 = .ok (.iaload, 1) := by decide +kernel
theorem dL_act_38 : decode cL_act 38 = .ok (.irem, 1) := by decide +kernel
theorem dL_act_39 : decode cL_act 39 = .ok (.istore 5, 2) := by decide +kernel
theorem dL_act_41 : decode cL_act 41 = .ok (.aload_n 1, 1) := by decide +kernel
theorem dL_act_42 : decode cL_act 42 = .ok (.iconst 1, 1) := by decide +kernel
theorem dL_act_43 : decode cL_act 43 = .ok (.iaload, 1) := by decide +kernel
theorem dL_act_44 : decode cL_act 44 = .ok (.ifCond .ne 7, 3) := by decide +kernel
theorem dL_act_47 : decode cL_act 47 = .ok (.iconst 0, 1) := by decide +kernel
theorem dL_act_48 : decode cL_act 48 = .ok (.goto 8, 3) := by decide +kernel
theorem dL_act_51 : decode cL_act 51 = .ok (.iload_n 3, 1) := by decide +kernel
theorem dL_act_52 : decode cL_act 52 = .ok (.aload_n 1, 1) := by decide +kernel
theorem dL_act_53 : decode cL_act 53 = .ok (.iconst 1, 1) := by decide +kernel
theorem dL_act_54 : decode cL_act 54 = .ok (.iaload, 1) := by decide +kernel
theorem dL_act_55 : decode cL_act 55 = .ok (.irem, 1) := by decide +kernel
theorem dL_act_56 : decode cL_act 56 = .ok (.istore 6, 2) := by decide +kernel
theorem dL_act_58 : decode cL_act 58 = .ok (.iconst 1, 1) := by decide +kernel
theorem dL_act_59 : decode cL_act 59 = .ok (.iload_n 3, 1) := by decide +kernel
theorem dL_act_60 : decode cL_act 60 = .ok (.iconst 4, 1) := by decide +kernel
theorem dL_act_61 : decode cL_act 61 = .ok (.idiv, 1) := by decide +kernel
theorem dL_act_62 : decode cL_act 62 = .ok (.bipush 90, 2) := by decide +kernel
theorem dL_act_64 : decode cL_act 64 = .ok (.irem, 1) := by decide +kernel
theorem dL_act_65 : decode cL_act 65 = .ok (.iadd, 1) := by decide +kernel
theorem dL_act_66 : decode cL_act 66 = .ok (.istore 7, 2) := by decide +kernel
theorem dL_act_68 : decode cL_act 68 = .ok (.iload_n 2, 1) := by decide +kernel
theorem dL_act_69 : decode cL_act 69 = .ok (.bipush 32, 2) := by decide +kernel
theorem dL_act_71 : decode cL_act 71 = .ok (.irem, 1) := by decide +kernel
theorem dL_act_72 : decode cL_act 72 = .ok (.tableswitch 426 0 26 #[124, 135, 135, 135, 135, 179, 184, 184, 184, 184, 194, 201, 217, 241, 241, 252, 257, 257, 264, 285, 294, 319, 319, 326, 331, 356, 356], 124) := by decide +kernel
theorem dL_act_196 : decode cL_act 196 = .ok (.aload_n 0, 1) := by decide +kernel
theorem dL_act_197 : decode cL_act 197 = .ok (.iload_n 3, 1) := by decide +kernel
theorem dL_act_198 : decode cL_act 198 = .ok (.bipush 8, 2) := by decide +kernel
theorem dL_act_200 : decode cL_act 200 = .ok (.irem, 1) := by decide +kernel
theorem dL_act_201 : decode cL_act 201 = .ok (.iload 7, 2) := by decide +kernel
theorem dL_act_203 : decode cL_act 203 = .ok (.invokestatic 136, 3) := by decide +kernel
theorem dL_act_206 : decode cL_act 206 = .ok (.ireturn, 1) := by decide +kernel
theorem dL_act_207 : decode cL_act 207 = .ok (.aload_n 0, 1) := by decide +kernel
theorem dL_act_208 : decode cL_act 208 = .ok (.iload_n 3, 1) := by decide +kernel
theorem dL_act_209 : decode cL_act 209 = .ok (.bipush 8, 2) := by decide +kernel
theorem dL_act_211 : decode cL_act 211 = .ok (.irem, 1) := by decide +kernel
theorem dL_act_212 : decode cL_act 212 = .ok (.iload 7, 2) := by decide +kernel
theorem dL_act_214 : decode cL_act 214 = .ok (.invokestatic 136, 3) := by decide +kernel
theorem dL_act_217 : decode cL_act 217 = .ok (.istore 8, 2) := by decide +kernel
theorem dL_act_219 : decode cL_act 219 = .ok (.iload 8, 2) := by decide +kernel
theorem dL_act_221 : decode cL_act 221 = .ok (.ifCond .ge 8, 3) := by decide +kernel
theorem dL_act_224 : decode cL_act 224 = .ok (.iload 8, 2) := by decide +kernel
theorem dL_act_226 : decode cL_act 226 = .ok (.goto 24, 3) := by decide +kernel
theorem dL_act_229 : decode cL_act 229 = .ok (.aload_n 0, 1) := by decide +kernel
theorem dL_act_230 : decode cL_act 230 = .ok (.iload_n 3, 1) := by decide +kernel
theorem dL_act_231 : decode cL_act 231 = .ok (.iconst 1, 1) := by decide +kernel
theorem dL_act_232 : decode cL_act 232 = .ok (.iadd, 1) := by decide +kernel
theorem dL_act_233 : decode cL_act 233 = .ok (.iload_n 3, 1) := by decide +kernel
theorem dL_act_234 : decode cL_act 234 = .ok (.bipush 8, 2) := by decide +kernel
theorem dL_act_236 : decode cL_act 236 = .ok (.idiv, 1) := by decide +kernel
theorem dL_act_237 : decode cL_act 237 = .ok (.bipush 6, 2) := by decide +kernel
theorem dL_act_239 : decode cL_act 239 = .ok (.irem, 1) := by decide +kernel
theorem dL_act_240 : decode cL_act 240 = .ok (.iadd, 1) := by decide +kernel
theorem dL_act_241 : decode cL_act 241 = .ok (.bipush 8, 2) := by decide +kernel
theorem dL_act_243 : decode cL_act 243 = .ok (.irem, 1) := by decide +kernel
theorem dL_act_244 : decode cL_act 244 = .ok (.iload 7, 2) := by decide +kernel
theorem dL_act_246 : decode cL_act 246 = .ok (.ineg, 1) := by decide +kernel
theorem dL_act_247 : decode cL_act 247 = .ok (.invokestatic 136, 3) := by decide +kernel
theorem dL_act_250 : decode cL_act 250 = .ok (.ireturn, 1) := by decide +kernel
theorem dL_act_251 : decode cL_act 251 = .ok (.aload_n 0, 1) := by decide +kernel
theorem dL_act_252 : decode cL_act 252 = .ok (.invokevirtual 240, 3) := by decide +kernel
theorem dL_act_255 : decode cL_act 255 = .ok (.ireturn, 1) := by decide +kernel
theorem dL_act_256 : decode cL_act 256 = .ok (.aload_n 0, 1) := by decide +kernel
theorem dL_act_257 : decode cL_act 257 = .ok (.iload_n 3, 1) := by decide +kernel
theorem dL_act_258 : decode cL_act 258 = .ok (.sipush 10000, 3) := by decide +kernel
theorem dL_act_261 : decode cL_act 261 = .ok (.irem, 1) := by decide +kernel
theorem dL_act_262 : decode cL_act 262 = .ok (.invokestatic 142, 3) := by decide +kernel
theorem dL_act_265 : decode cL_act 265 = .ok (.ireturn, 1) := by decide +kernel
theorem dL_act_266 : decode cL_act 266 = .ok (.aload_n 0, 1) := by decide +kernel
theorem dL_act_267 : decode cL_act 267 = .ok (.iload 4, 2) := by decide +kernel
theorem dL_act_269 : decode cL_act 269 = .ok (.invokestatic 146, 3) := by decide +kernel
theorem dL_act_272 : decode cL_act 272 = .ok (.ireturn, 1) := by decide +kernel
theorem dL_act_273 : decode cL_act 273 = .ok (.aload_n 0, 1) := by decide +kernel
theorem dL_act_274 : decode cL_act 274 = .ok (.iload 4, 2) := by decide +kernel
theorem dL_act_276 : decode cL_act 276 = .ok (.iload 4, 2) := by decide +kernel
theorem dL_act_278 : decode cL_act 278 = .ok (.iload_n 3, 1) := by decide +kernel
theorem dL_act_279 : decode cL_act 279 = .ok (.bipush 80, 2) := by decide +kernel
theorem dL_act_281 : decode cL_act 281 = .ok (.idiv, 1) := by decide +kernel
theorem dL_act_282 : decode cL_act 282 = .ok (.iconst 3, 1) := by decide +kernel
theorem dL_act_283 : decode cL_act 283 = .ok (.irem, 1) := by decide +kernel
theorem dL_act_284 : decode cL_act 284 = .ok (.iadd, 1) := by decide +kernel
theorem dL_act_285 : decode cL_act 285 = .ok (.invokestatic 152, 3) := by decide +kernel
theorem dL_act_288 : decode cL_act 288 = .ok (.ireturn, 1) := by decide +kernel
theorem dL_act_289 : decode cL_act 289 = .ok (.aload_n 0, 1) := by decide +kernel
theorem dL_act_290 : decode cL_act 290 = .ok (.iload 4, 2) := by decide +kernel
theorem dL_act_292 : decode cL_act 292 = .ok (.iload_n 3, 1) := by decide +kernel
theorem dL_act_293 : decode cL_act 293 = .ok (.bipush 80, 2) := by decide +kernel
theorem dL_act_295 : decode cL_act 295 = .ok (.idiv, 1) := by decide +kernel
theorem dL_act_296 : decode cL_act 296 = .ok (.iconst 3, 1) := by decide +kernel
theorem dL_act_297 : decode cL_act 297 = .ok (.irem, 1) := by decide +kernel
theorem dL_act_298 : decode cL_act 298 = .ok (.iload_n 3, 1) := by decide +kernel
theorem dL_act_299 : decode cL_act 299 = .ok (.sipush 240, 3) := by decide +kernel
theorem dL_act_302 : decode cL_act 302 = .ok (.idiv, 1) := by decide +kernel
theorem dL_act_303 : decode cL_act 303 = .ok (.bipush 60, 2) := by decide +kernel
theorem dL_act_305 : decode cL_act 305 = .ok (.irem, 1) := by decide +kernel
theorem dL_act_306 : decode cL_act 306 = .ok (.bipush 30, 2) := by decide +kernel
theorem dL_act_308 : decode cL_act 308 = .ok (.isub, 1) := by decide +kernel
theorem dL_act_309 : decode cL_act 309 = .ok (.invokestatic 156, 3) := by decide +kernel
theorem dL_act_312 : decode cL_act 312 = .ok (.ireturn, 1) := by decide +kernel
theorem dL_act_313 : decode cL_act 313 = .ok (.aload_n 0, 1) := by decide +kernel
theorem dL_act_314 : decode cL_act 314 = .ok (.iconst 1, 1) := by decide +kernel
theorem dL_act_315 : decode cL_act 315 = .ok (.iload_n 3, 1) := by decide +kernel
theorem dL_act_316 : decode cL_act 316 = .ok (.bipush 15, 2) := by decide +kernel
theorem dL_act_318 : decode cL_act 318 = .ok (.irem, 1) := by decide +kernel
theorem dL_act_319 : decode cL_act 319 = .ok (.iadd, 1) := by decide +kernel
theorem dL_act_320 : decode cL_act 320 = .ok (.invokestatic 149, 3) := by decide +kernel
theorem dL_act_323 : decode cL_act 323 = .ok (.ireturn, 1) := by decide +kernel
theorem dL_act_324 : decode cL_act 324 = .ok (.aload_n 0, 1) := by decide +kernel
theorem dL_act_325 : decode cL_act 325 = .ok (.invokestatic 230, 3) := by decide +kernel
theorem dL_act_328 : decode cL_act 328 = .ok (.ireturn, 1) := by decide +kernel
theorem dL_act_329 : decode cL_act 329 = .ok (.aload_n 0, 1) := by decide +kernel
theorem dL_act_330 : decode cL_act 330 = .ok (.iload 5, 2) := by decide +kernel
theorem dL_act_332 : decode cL_act 332 = .ok (.invokestatic 160, 3) := by decide +kernel
theorem dL_act_335 : decode cL_act 335 = .ok (.ireturn, 1) := by decide +kernel
theorem dL_act_336 : decode cL_act 336 = .ok (.aload_n 0, 1) := by decide +kernel
theorem dL_act_337 : decode cL_act 337 = .ok (.iload 5, 2) := by decide +kernel
theorem dL_act_339 : decode cL_act 339 = .ok (.iload_n 3, 1) := by decide +kernel
theorem dL_act_340 : decode cL_act 340 = .ok (.bipush 16, 2) := by decide +kernel
theorem dL_act_342 : decode cL_act 342 = .ok (.idiv, 1) := by decide +kernel
theorem dL_act_343 : decode cL_act 343 = .ok (.iconst 2, 1) := by decide +kernel
theorem dL_act_344 : decode cL_act 344 = .ok (.irem, 1) := by decide +kernel
theorem dL_act_345 : decode cL_act 345 = .ok (.ifCond .ne 7, 3) := by decide +kernel
theorem dL_act_348 : decode cL_act 348 = .ok (.iconst 1, 1) := by decide +kernel
theorem dL_act_349 : decode cL_act 349 = .ok (.goto 4, 3) := by decide +kernel
theorem dL_act_352 : decode cL_act 352 = .ok (.iconst 0, 1) := by decide +kernel
theorem dL_act_353 : decode cL_act 353 = .ok (.invokestatic 163, 3) := by decide +kernel
theorem dL_act_356 : decode cL_act 356 = .ok (.ireturn, 1) := by decide +kernel
theorem dL_act_357 : decode cL_act 357 = .ok (.aload_n 0, 1) := by decide +kernel
theorem dL_act_358 : decode cL_act 358 = .ok (.iload 5, 2) := by decide +kernel
theorem dL_act_360 : decode cL_act 360 = .ok (.iload 4, 2) := by decide +kernel
theorem dL_act_362 : decode cL_act 362 = .ok (.invokestatic 167, 3) := by decide +kernel
theorem dL_act_365 : decode cL_act 365 = .ok (.ireturn, 1) := by decide +kernel
theorem dL_act_366 : decode cL_act 366 = .ok (.iload_n 3, 1) := by decide +kernel
theorem dL_act_367 : decode cL_act 367 = .ok (.bipush 16, 2) := by decide +kernel
theorem dL_act_369 : decode cL_act 369 = .ok (.idiv, 1) := by decide +kernel
theorem dL_act_370 : decode cL_act 370 = .ok (.iconst 3, 1) := by decide +kernel
theorem dL_act_371 : decode cL_act 371 = .ok (.irem, 1) := by decide +kernel
theorem dL_act_372 : decode cL_act 372 = .ok (.ifCond .ne 12, 3) := by decide +kernel
theorem dL_act_375 : decode cL_act 375 = .ok (.aload_n 0, 1) := by decide +kernel
theorem dL_act_376 : decode cL_act 376 = .ok (.iload 5, 2) := by decide +kernel
theorem dL_act_378 : decode cL_act 378 = .ok (.invokestatic 170, 3) := by decide +kernel
theorem dL_act_381 : decode cL_act 381 = .ok (.goto 9, 3) := by decide +kernel
theorem dL_act_384 : decode cL_act 384 = .ok (.aload_n 0, 1) := by decide +kernel
theorem dL_act_385 : decode cL_act 385 = .ok (.iload 5, 2) := by decide +kernel
theorem dL_act_387 : decode cL_act 387 = .ok (.invokestatic 211, 3) := by decide +kernel
theorem dL_act_390 : decode cL_act 390 = .ok (.ireturn, 1) := by decide +kernel
theorem dL_act_391 : decode cL_act 391 = .ok (.aload_n 0, 1) := by decide +kernel
theorem dL_act_392 : decode cL_act 392 = .ok (.iload 5, 2) := by decide +kernel
theorem dL_act_394 : decode cL_act 394 = .ok (.invokestatic 173, 3) := by decide +kernel
theorem dL_act_397 : decode cL_act 397 = .ok (.ireturn, 1) := by decide +kernel
theorem dL_act_398 : decode cL_act 398 = .ok (.aload_n 0, 1) := by decide +kernel
theorem dL_act_399 : decode cL_act 399 = .ok (.invokestatic 237, 3) := by decide +kernel
theorem dL_act_402 : decode cL_act 402 = .ok (.ireturn, 1) := by decide +kernel
theorem dL_act_403 : decode cL_act 403 = .ok (.iload_n 3, 1) := by decide +kernel
theorem dL_act_404 : decode cL_act 404 = .ok (.bipush 16, 2) := by decide +kernel
theorem dL_act_406 : decode cL_act 406 = .ok (.idiv, 1) := by decide +kernel
theorem dL_act_407 : decode cL_act 407 = .ok (.iconst 3, 1) := by decide +kernel
theorem dL_act_408 : decode cL_act 408 = .ok (.irem, 1) := by decide +kernel
theorem dL_act_409 : decode cL_act 409 = .ok (.ifCond .ne 12, 3) := by decide +kernel
theorem dL_act_412 : decode cL_act 412 = .ok (.aload_n 0, 1) := by decide +kernel
theorem dL_act_413 : decode cL_act 413 = .ok (.iload 6, 2) := by decide +kernel
theorem dL_act_415 : decode cL_act 415 = .ok (.invokestatic 176, 3) := by decide +kernel
theorem dL_act_418 : decode cL_act 418 = .ok (.goto 9, 3) := by decide +kernel
theorem dL_act_421 : decode cL_act 421 = .ok (.aload_n 0, 1) := by decide +kernel
theorem dL_act_422 : decode cL_act 422 = .ok (.iload 6, 2) := by decide +kernel
theorem dL_act_424 : decode cL_act 424 = .ok (.invokestatic 224, 3) := by decide +kernel
theorem dL_act_427 : decode cL_act 427 = .ok (.ireturn, 1) := by decide +kernel
theorem dL_act_428 : decode cL_act 428 = .ok (.aload_n 0, 1) := by decide +kernel
theorem dL_act_429 : decode cL_act 429 = .ok (.iload 6, 2) := by decide +kernel
theorem dL_act_431 : decode cL_act 431 = .ok (.iload_n 3, 1) := by decide +kernel
theorem dL_act_432 : decode cL_act 432 = .ok (.bipush 8, 2) := by decide +kernel
theorem dL_act_434 : decode cL_act 434 = .ok (.idiv, 1) := by decide +kernel
theorem dL_act_435 : decode cL_act 435 = .ok (.bipush 8, 2) := by decide +kernel
theorem dL_act_437 : decode cL_act 437 = .ok (.irem, 1) := by decide +kernel
theorem dL_act_438 : decode cL_act 438 = .ok (.iload_n 3, 1) := by decide +kernel
theorem dL_act_439 : decode cL_act 439 = .ok (.bipush 64, 2) := by decide +kernel
theorem dL_act_441 : decode cL_act 441 = .ok (.idiv, 1) := by decide +kernel
theorem dL_act_442 : decode cL_act 442 = .ok (.iconst 2, 1) := by decide +kernel
theorem dL_act_443 : decode cL_act 443 = .ok (.irem, 1) := by decide +kernel
theorem dL_act_444 : decode cL_act 444 = .ok (.ifCond .ne 7, 3) := by decide +kernel
theorem dL_act_447 : decode cL_act 447 = .ok (.iconst 0, 1) := by decide +kernel
theorem dL_act_448 : decode cL_act 448 = .ok (.goto 7, 3) := by decide +kernel
theorem dL_act_451 : decode cL_act 451 = .ok (.aload_n 0, 1) := by decide +kernel
theorem dL_act_452 : decode cL_act 452 = .ok (.invokevirtual 202, 3) := by decide +kernel
theorem dL_act_455 : decode cL_act 455 = .ok (.sipush 400, 3) := by decide +kernel
theorem dL_act_458 : decode cL_act 458 = .ok (.iload_n 3, 1) := by decide +kernel
theorem dL_act_459 : decode cL_act 459 = .ok (.sipush 128, 3) := by decide +kernel
theorem dL_act_462 : decode cL_act 462 = .ok (.idiv, 1) := by decide +kernel
theorem dL_act_463 : decode cL_act 463 = .ok (.sipush 390, 3) := by decide +kernel
theorem dL_act_466 : decode cL_act 466 = .ok (.irem, 1) := by decide +kernel
theorem dL_act_467 : decode cL_act 467 = .ok (.isub, 1) := by decide +kernel
theorem dL_act_468 : decode cL_act 468 = .ok (.aload_n 0, 1) := by decide +kernel
theorem dL_act_469 : decode cL_act 469 = .ok (.invokevirtual 202, 3) := by decide +kernel
theorem dL_act_472 : decode cL_act 472 = .ok (.if_icmp .ge 9, 3) := by decide +kernel
theorem dL_act_475 : decode cL_act 475 = .ok (.sipush 400, 3) := by decide +kernel
theorem dL_act_478 : decode cL_act 478 = .ok (.goto 16, 3) := by decide +kernel
theorem dL_act_481 : decode cL_act 481 = .ok (.sipush 400, 3) := by decide +kernel
theorem dL_act_484 : decode cL_act 484 = .ok (.iload_n 3, 1) := by decide +kernel
theorem dL_act_485 : decode cL_act 485 = .ok (.sipush 128, 3) := by decide +kernel
theorem dL_act_488 : decode cL_act 488 = .ok (.idiv, 1) := by decide +kernel
theorem dL_act_489 : decode cL_act 489 = .ok (.sipush 390, 3) := by decide +kernel
theorem dL_act_492 : decode cL_act 492 = .ok (.irem, 1) := by decide +kernel
theorem dL_act_493 : decode cL_act 493 = .ok (.isub, 1) := by decide +kernel
theorem dL_act_494 : decode cL_act 494 = .ok (.invokestatic 179, 3) := by decide +kernel
theorem dL_act_497 : decode cL_act 497 = .ok (.ireturn, 1) := by decide +kernel
theorem dL_act_498 : decode cL_act 498 = .ok (.aload_n 0, 1) := by decide +kernel
theorem dL_act_499 : decode cL_act 499 = .ok (.iload 6, 2) := by decide +kernel
theorem dL_act_501 : decode cL_act 501 = .ok (.iload 4, 2) := by decide +kernel
theorem dL_act_503 : decode cL_act 503 = .ok (.invokestatic 183, 3) := by decide +kernel
theorem dL_act_506 : decode cL_act 506 = .ok (.ireturn, 1) := by decide +kernel
