theorem dX10_act_20 : decode cX10_act 20 = .ok (.iconst 1, 1) := by decide +kernel
theorem dX10_act_21 : decode cX10_act 21 = .ok (.goto 4, 3) := by decide +kernel
theorem dX10_act_24 : decode cX10_act 24 = .ok (.iconst 0, 1) := by decide +kernel
theorem dX10_act_25 : decode cX10_act 25 = .ok (.istore 4, 2) := by decide +kernel
theorem dX10_act_27 : decode cX10_act 27 = .ok (.iload 4, 2) := by decide +kernel
theorem dX10_act_29 : decode cX10_act 29 = .ok (.ifCond .eq 13, 3) := by decide +kernel
theorem dX10_act_32 : decode cX10_act 32 = .ok (.iload_n 3, 1) := by decide +kernel
theorem dX10_act_33 : decode cX10_act 33 = .ok (.sipush 254, 3) := by decide +kernel
theorem dX10_act_36 : decode cX10_act 36 = .ok (.iand, 1) := by decide +kernel
theorem dX10_act_37 : decode cX10_act 37 = .ok (.iconst 1, 1) := by decide +kernel
theorem dX10_act_38 : decode cX10_act 38 = .ok (.iadd, 1) := by decide +kernel
theorem dX10_act_39 : decode cX10_act 39 = .ok (.goto 4, 3) := by decide +kernel
theorem dX10_act_42 : decode cX10_act 42 = .ok (.iload_n 3, 1) := by decide +kernel
theorem dX10_act_43 : decode cX10_act 43 = .ok (.istore 5, 2) := by decide +kernel
theorem dX10_act_45 : decode cX10_act 45 = .ok (.aload_n 0, 1) := by decide +kernel
theorem dX10_act_46 : decode cX10_act 46 = .ok (.iload_n 2, 1) := by decide +kernel
theorem dX10_act_47 : decode cX10_act 47 = .ok (.iload_n 3, 1) := by decide +kernel
theorem dX10_act_48 : decode cX10_act 48 = .ok (.invokevirtual 202, 3) := by decide +kernel
theorem dX10_act_51 : decode cX10_act 51 = .ok (.aload_n 0, 1) := by decide +kernel
theorem dX10_act_52 : decode cX10_act 52 = .ok (.getfield 26, 3) := by decide +kernel
theorem dX10_act_55 : decode cX10_act 55 = .ok (.iload_n 2, 1) := by decide +kernel
theorem dX10_act_56 : decode cX10_act 56 = .ok (.dup2, 1) := by decide +kernel
theorem dX10_act_57 : decode cX10_act 57 = .ok (.iaload, 1) := by decide +kernel
theorem dX10_act_58 : decode cX10_act 58 = .ok (.iconst 1, 1) := by decide +kernel
theorem dX10_act_59 : decode cX10_act 59 = .ok (.iadd, 1) := by decide +kernel
theorem dX10_act_60 : decode cX10_act 60 = .ok (.iastore, 1) := by decide +kernel
theorem dX10_act_61 : decode cX10_act 61 = .ok (.aload_n 0, 1) := by decide +kernel
theorem dX10_act_62 : decode cX10_act 62 = .ok (.aload_n 0, 1) := by decide +kernel
theorem dX10_act_63 : decode cX10_act 63 = .ok (.getfield 163, 3) := by decide +kernel
theorem dX10_act_66 : decode cX10_act 66 = .ok (.iconst 1, 1) := by decide +kernel
theorem dX10_act_67 : decode cX10_act 67 = .ok (.iadd, 1) := by decide +kernel
theorem dX10_act_68 : decode cX10_act 68 = .ok (.sipush 256, 3) := by decide +kernel
theorem dX10_act_71 : decode cX10_act 71 = .ok (.irem, 1) := by decide +kernel
theorem dX10_act_72 : decode cX10_act 72 = .ok (.putfield 163, 3) := by decide +kernel
theorem dX10_act_75 : decode cX10_act 75 = .ok (.iload_n 2, 1) := by decide +kernel
theorem dX10_act_76 : decode cX10_act 76 = .ok (.tableswitch 472 3 31 #[304, 286, 209, 461, 209, 352, 403, 472, 472, 147, 472, 472, 472, 472, 420, 472, 472, 472, 163, 192, 472, 472, 295, 472, 328, 132, 472, 266, 177], 132) := by decide +kernel
theorem dX10_act_208 : decode cX10_act 208 = .ok (.aload_n 0, 1) := by decide +kernel
theorem dX10_act_209 : decode cX10_act 209 = .ok (.aload_n 0, 1) := by decide +kernel
theorem dX10_act_210 : decode cX10_act 210 = .ok (.iload_n 3, 1) := by decide +kernel
theorem dX10_act_211 : decode cX10_act 211 = .ok (.iload 4, 2) := by decide +kernel
theorem dX10_act_213 : decode cX10_act 213 = .ok (.invokevirtual 206, 3) := by decide +kernel
theorem dX10_act_216 : decode cX10_act 216 = .ok (.lconst 0, 1) := by decide +kernel
theorem dX10_act_217 : decode cX10_act 217 = .ok (.invokevirtual 178, 3) := by decide +kernel
theorem dX10_act_220 : decode cX10_act 220 = .ok (.goto 328, 3) := by decide +kernel
theorem dX10_act_223 : decode cX10_act 223 = .ok (.aload_n 0, 1) := by decide +kernel
theorem dX10_act_224 : decode cX10_act 224 = .ok (.aload_n 0, 1) := by decide +kernel
theorem dX10_act_225 : decode cX10_act 225 = .ok (.iload_n 3, 1) := by decide +kernel
theorem dX10_act_226 : decode cX10_act 226 = .ok (.iload 4, 2) := by decide +kernel
theorem dX10_act_228 : decode cX10_act 228 = .ok (.invokevirtual 206, 3) := by decide +kernel
theorem dX10_act_231 : decode cX10_act 231 = .ok (.lneg, 1) := by decide +kernel
theorem dX10_act_232 : decode cX10_act 232 = .ok (.lconst 0, 1) := by decide +kernel
theorem dX10_act_233 : decode cX10_act 233 = .ok (.invokevirtual 178, 3) := by decide +kernel
theorem dX10_act_236 : decode cX10_act 236 = .ok (.goto 312, 3) := by decide +kernel
theorem dX10_act_239 : decode cX10_act 239 = .ok (.aload_n 0, 1) := by decide +kernel
theorem dX10_act_240 : decode cX10_act 240 = .ok (.aload_n 0, 1) := by decide +kernel
theorem dX10_act_241 : decode cX10_act 241 = .ok (.iload_n 3, 1) := by decide +kernel
theorem dX10_act_242 : decode cX10_act 242 = .ok (.iload 4, 2) := by decide +kernel
theorem dX10_act_244 : decode cX10_act 244 = .ok (.invokevirtual 206, 3) := by decide +kernel
theorem dX10_act_247 : decode cX10_act 247 = .ok (.putfield 148, 3) := by decide +kernel
theorem dX10_act_250 : decode cX10_act 250 = .ok (.goto 298, 3) := by decide +kernel
theorem dX10_act_253 : decode cX10_act 253 = .ok (.aload_n 0, 1) := by decide +kernel
theorem dX10_act_254 : decode cX10_act 254 = .ok (.aload_n 0, 1) := by decide +kernel
theorem dX10_act_255 : decode cX10_act 255 = .ok (.iload_n 3, 1) := by decide +kernel
theorem dX10_act_256 : decode cX10_act 256 = .ok (.iload 4, 2) := by decide +kernel
theorem dX10_act_258 : decode cX10_act 258 = .ok (.invokevirtual 206, 3) := by decide +kernel
theorem dX10_act_261 : decode cX10_act 261 = .ok (.lconst 1, 1) := by decide +kernel
theorem dX10_act_262 : decode cX10_act 262 = .ok (.invokevirtual 210, 3) := by decide +kernel
theorem dX10_act_265 : decode cX10_act 265 = .ok (.goto 283, 3) := by decide +kernel
theorem dX10_act_268 : decode cX10_act 268 = .ok (.aload_n 0, 1) := by decide +kernel
theorem dX10_act_269 : decode cX10_act 269 = .ok (.aload_n 0, 1) := by decide +kernel
theorem dX10_act_270 : decode cX10_act 270 = .ok (.iload_n 3, 1) := by decide +kernel
theorem dX10_act_271 : decode cX10_act 271 = .ok (.iload 4, 2) := by decide +kernel
theorem dX10_act_273 : decode cX10_act 273 = .ok (.invokevirtual 206, 3) := by decide +kernel
theorem dX10_act_276 : decode cX10_act 276 = .ok (.ldc2_w 213, 3) := by decide +kernel
theorem dX10_act_279 : decode cX10_act 279 = .ok (.invokevirtual 210, 3) := by decide +kernel
theorem dX10_act_282 : decode cX10_act 282 = .ok (.goto 266, 3) := by decide +kernel
theorem dX10_act_285 : decode cX10_act 285 = .ok (.iload 4, 2) := by decide +kernel
theorem dX10_act_287 : decode cX10_act 287 = .ok (.ifCond .eq 19, 3) := by decide +kernel
theorem dX10_act_290 : decode cX10_act 290 = .ok (.aload_n 0, 1) := by decide +kernel
theorem dX10_act_291 : decode cX10_act 291 = .ok (.iload_n 3, 1) := by decide +kernel
theorem dX10_act_292 : decode cX10_act 292 = .ok (.aload_n 0, 1) := by decide +kernel
theorem dX10_act_293 : decode cX10_act 293 = .ok (.getfield 135, 3) := by decide +kernel
theorem dX10_act_296 : decode cX10_act 296 = .ok (.ldc2_w 115, 3) := by decide +kernel
theorem dX10_act_299 : decode cX10_act 299 = .ok (.land, 1) := by decide +kernel
theorem dX10_act_300 : decode cX10_act 300 = .ok (.invokevirtual 117, 3) := by decide +kernel
theorem dX10_act_303 : decode cX10_act 303 = .ok (.goto 21, 3) := by decide +kernel
theorem dX10_act_306 : decode cX10_act 306 = .ok (.aload_n 0, 1) := by decide +kernel
theorem dX10_act_307 : decode cX10_act 307 = .ok (.getfield 7, 3) := by decide +kernel
theorem dX10_act_310 : decode cX10_act 310 = .ok (.iload_n 3, 1) := by decide +kernel
theorem dX10_act_311 : decode cX10_act 311 = .ok (.aload_n 0, 1) := by decide +kernel
theorem dX10_act_312 : decode cX10_act 312 = .ok (.getfield 135, 3) := by decide +kernel
theorem dX10_act_315 : decode cX10_act 315 = .ok (.bipush 18, 2) := by decide +kernel
theorem dX10_act_317 : decode cX10_act 317 = .ok (.lshr, 1) := by decide +kernel
theorem dX10_act_318 : decode cX10_act 318 = .ok (.ldc2_w 106, 3) := by decide +kernel
theorem dX10_act_321 : decode cX10_act 321 = .ok (.land, 1) := by decide +kernel
theorem dX10_act_322 : decode cX10_act 322 = .ok (.l2i, 1) := by decide +kernel
theorem dX10_act_323 : decode cX10_act 323 = .ok (.iastore, 1) := by decide +kernel
theorem dX10_act_324 : decode cX10_act 324 = .ok (.iload_n 2, 1) := by decide +kernel
theorem dX10_act_325 : decode cX10_act 325 = .ok (.iconst 5, 1) := by decide +kernel
theorem dX10_act_326 : decode cX10_act 326 = .ok (.if_icmp .ne 222, 3) := by decide +kernel
theorem dX10_act_329 : decode cX10_act 329 = .ok (.aload_n 0, 1) := by decide +kernel
theorem dX10_act_330 : decode cX10_act 330 = .ok (.lconst 0, 1) := by decide +kernel
theorem dX10_act_331 : decode cX10_act 331 = .ok (.putfield 135, 3) := by decide +kernel
theorem dX10_act_334 : decode cX10_act 334 = .ok (.aload_n 0, 1) := by decide +kernel
theorem dX10_act_335 : decode cX10_act 335 = .ok (.lconst 0, 1) := by decide +kernel
theorem dX10_act_336 : decode cX10_act 336 = .ok (.putfield 139, 3) := by decide +kernel
theorem dX10_act_339 : decode cX10_act 339 = .ok (.goto 209, 3) := by decide +kernel
theorem dX10_act_342 : decode cX10_act 342 = .ok (.aload_n 0, 1) := by decide +kernel
theorem dX10_act_343 : decode cX10_act 343 = .ok (.aload_n 0, 1) := by decide +kernel
theorem dX10_act_344 : decode cX10_act 344 = .ok (.getfield 148, 3) := by decide +kernel
theorem dX10_act_347 : decode cX10_act 347 = .ok (.aload_n 0, 1) := by decide +kernel
theorem dX10_act_348 : decode cX10_act 348 = .ok (.iload_n 3, 1) := by decide +kernel
theorem dX10_act_349 : decode cX10_act 349 = .ok (.iload 4, 2) := by decide +kernel
theorem dX10_act_351 : decode cX10_act 351 = .ok (.invokevirtual 206, 3) := by decide +kernel
theorem dX10_act_354 : decode cX10_act 354 = .ok (.land, 1) := by decide +kernel
theorem dX10_act_355 : decode cX10_act 355 = .ok (.lconst 0, 1) := by decide +kernel
theorem dX10_act_356 : decode cX10_act 356 = .ok (.invokevirtual 178, 3) := by decide +kernel
theorem dX10_act_359 : decode cX10_act 359 = .ok (.goto 189, 3) := by decide +kernel
theorem dX10_act_362 : decode cX10_act 362 = .ok (.aload_n 0, 1) := by decide +kernel
theorem dX10_act_363 : decode cX10_act 363 = .ok (.iload_n 1, 1) := by decide +kernel
theorem dX10_act_364 : decode cX10_act 364 = .ok (.iconst 0, 1) := by decide +kernel
theorem dX10_act_365 : decode cX10_act 365 = .ok (.invokevirtual 215, 3) := by decide +kernel
theorem dX10_act_368 : decode cX10_act 368 = .ok (.goto 180, 3) := by decide +kernel
theorem dX10_act_371 : decode cX10_act 371 = .ok (.aload_n 0, 1) := by decide +kernel
theorem dX10_act_372 : decode cX10_act 372 = .ok (.iload_n 1, 1) := by decide +kernel
theorem dX10_act_373 : decode cX10_act 373 = .ok (.iconst 1, 1) := by decide +kernel
theorem dX10_act_374 : decode cX10_act 374 = .ok (.invokevirtual 215, 3) := by decide +kernel
theorem dX10_act_377 : decode cX10_act 377 = .ok (.goto 171, 3) := by decide +kernel
theorem dX10_act_380 : decode cX10_act 380 = .ok (.aload_n 0, 1) := by decide +kernel
theorem dX10_act_381 : decode cX10_act 381 = .ok (.aload_n 0, 1) := by decide +kernel
theorem dX10_act_382 : decode cX10_act 382 = .ok (.getfield 135, 3) := by decide +kernel
theorem dX10_act_385 : decode cX10_act 385 = .ok (.lconst 0, 1) := by decide +kernel
theorem dX10_act_386 : decode cX10_act 386 = .ok (.lcmp, 1) := by decide +kernel
theorem dX10_act_387 : decode cX10_act 387 = .ok (.ifCond .lt 7, 3) := by decide +kernel
theorem dX10_act_390 : decode cX10_act 390 = .ok (.iload_n 3, 1) := by decide +kernel
theorem dX10_act_391 : decode cX10_act 391 = .ok (.goto 7, 3) := by decide +kernel
theorem dX10_act_394 : decode cX10_act 394 = .ok (.aload_n 0, 1) := by decide +kernel
theorem dX10_act_395 : decode cX10_act 395 = .ok (.getfield 163, 3) := by decide +kernel
theorem dX10_act_398 : decode cX10_act 398 = .ok (.putfield 163, 3) := by decide +kernel
theorem dX10_act_401 : decode cX10_act 401 = .ok (.goto 147, 3) := by decide +kernel
theorem dX10_act_404 : decode cX10_act 404 = .ok (.aload_n 0, 1) := by decide +kernel
theorem dX10_act_405 : decode cX10_act 405 = .ok (.aload_n 0, 1) := by decide +kernel
theorem dX10_act_406 : decode cX10_act 406 = .ok (.getfield 135, 3) := by decide +kernel
theorem dX10_act_409 : decode cX10_act 409 = .ok (.lconst 0, 1) := by decide +kernel
theorem dX10_act_410 : decode cX10_act 410 = .ok (.lcmp, 1) := by decide +kernel
theorem dX10_act_411 : decode cX10_act 411 = .ok (.ifCond .ge 7, 3) := by decide +kernel
theorem dX10_act_414 : decode cX10_act 414 = .ok (.iload_n 3, 1) := by decide +kernel
theorem dX10_act_415 : decode cX10_act 415 = .ok (.goto 7, 3) := by decide +kernel
theorem dX10_act_418 : decode cX10_act 418 = .ok (.aload_n 0, 1) := by decide +kernel
theorem dX10_act_419 : decode cX10_act 419 = .ok (.getfield 163, 3) := by decide +kernel
theorem dX10_act_422 : decode cX10_act 422 = .ok (.putfield 163, 3) := by decide +kernel
theorem dX10_act_425 : decode cX10_act 425 = .ok (.goto 123, 3) := by decide +kernel
theorem dX10_act_428 : decode cX10_act 428 = .ok (.iload 4, 2) := by decide +kernel
theorem dX10_act_430 : decode cX10_act 430 = .ok (.ifCond .eq 21, 3) := by decide +kernel
theorem dX10_act_433 : decode cX10_act 433 = .ok (.aload_n 0, 1) := by decide +kernel
theorem dX10_act_434 : decode cX10_act 434 = .ok (.iload_n 3, 1) := by decide +kernel
theorem dX10_act_435 : decode cX10_act 435 = .ok (.aload_n 0, 1) := by decide +kernel
theorem dX10_act_436 : decode cX10_act 436 = .ok (.getfield 16, 3) := by decide +kernel
theorem dX10_act_439 : decode cX10_act 439 = .ok (.aload_n 0, 1) := by decide +kernel
theorem dX10_act_440 : decode cX10_act 440 = .ok (.getfield 156, 3) := by decide +kernel
theorem dX10_act_443 : decode cX10_act 443 = .ok (.iaload, 1) := by decide +kernel
theorem dX10_act_444 : decode cX10_act 444 = .ok (.i2l, 1) := by decide +kernel
theorem dX10_act_445 : decode cX10_act 445 = .ok (.invokevirtual 117, 3) := by decide +kernel
theorem dX10_act_448 : decode cX10_act 448 = .ok (.goto 18, 3) := by decide +kernel
theorem dX10_act_451 : decode cX10_act 451 = .ok (.aload_n 0, 1) := by decide +kernel
theorem dX10_act_452 : decode cX10_act 452 = .ok (.getfield 7, 3) := by decide +kernel
theorem dX10_act_455 : decode cX10_act 455 = .ok (.iload_n 3, 1) := by decide +kernel
theorem dX10_act_456 : decode cX10_act 456 = .ok (.aload_n 0, 1) := by decide +kernel
theorem dX10_act_457 : decode cX10_act 457 = .ok (.getfield 16, 3) := by decide +kernel
theorem dX10_act_460 : decode cX10_act 460 = .ok (.aload_n 0, 1) := by decide +kernel
theorem dX10_act_461 : decode cX10_act 461 = .ok (.getfield 156, 3) := by decide +kernel
theorem dX10_act_464 : decode cX10_act 464 = .ok (.iaload, 1) := by decide +kernel
theorem dX10_act_465 : decode cX10_act 465 = .ok (.iastore, 1) := by decide +kernel
theorem dX10_act_466 : decode cX10_act 466 = .ok (.aload_n 0, 1) := by decide +kernel
theorem dX10_act_467 : decode cX10_act 467 = .ok (.dup, 1) := by decide +kernel
theorem dX10_act_468 : decode cX10_act 468 = .ok (.getfield 156, 3) := by decide +kernel
theorem dX10_act_471 : decode cX10_act 471 = .ok (.iconst 1, 1) := by decide +kernel
theorem dX10_act_472 : decode cX10_act 472 = .ok (.iadd, 1) := by decide +kernel
theorem dX10_act_473 : decode cX10_act 473 = .ok (.putfield 156, 3) := by decide +kernel
theorem dX10_act_476 : decode cX10_act 476 = .ok (.goto 72, 3) := by decide +kernel
theorem dX10_act_479 : decode cX10_act 479 = .ok (.aload_n 0, 1) := by decide +kernel
theorem dX10_act_480 : decode cX10_act 480 = .ok (.aload_n 0, 1) := by decide +kernel
theorem dX10_act_481 : decode cX10_act 481 = .ok (.getfield 7, 3) := by decide +kernel
theorem dX10_act_484 : decode cX10_act 484 = .ok (.iload 5, 2) := by decide +kernel
theorem dX10_act_486 : decode cX10_act 486 = .ok (.iaload, 1) := by decide +kernel
theorem dX10_act_487 : decode cX10_act 487 = .ok (.bipush 12, 2) := by decide +kernel
theorem dX10_act_489 : decode cX10_act 489 = .ok (.ishr, 1) := by decide +kernel
theorem dX10_act_490 : decode cX10_act 490 = .ok (.invokevirtual 219, 3) := by decide +kernel
theorem dX10_act_493 : decode cX10_act 493 = .ok (.goto 55, 3) := by decide +kernel
theorem dX10_act_496 : decode cX10_act 496 = .ok (.aload_n 0, 1) := by decide +kernel
theorem dX10_act_497 : decode cX10_act 497 = .ok (.getfield 7, 3) := by decide +kernel
theorem dX10_act_500 : decode cX10_act 500 = .ok (.iload 5, 2) := by decide +kernel
theorem dX10_act_502 : decode cX10_act 502 = .ok (.aload_n 0, 1) := by decide +kernel
theorem dX10_act_503 : decode cX10_act 503 = .ok (.getfield 7, 3) := by decide +kernel
theorem dX10_act_506 : decode cX10_act 506 = .ok (.iload 5, 2) := by decide +kernel
theorem dX10_act_508 : decode cX10_act 508 = .ok (.iaload, 1) := by decide +kernel
theorem dX10_act_509 : decode cX10_act 509 = .ok (.sipush 4095, 3) := by decide +kernel
theorem dX10_act_512 : decode cX10_act 512 = .ok (.iand, 1) := by decide +kernel
theorem dX10_act_513 : decode cX10_act 513 = .ok (.aload_n 0, 1) := by decide +kernel
theorem dX10_act_514 : decode cX10_act 514 = .ok (.getfield 22, 3) := by decide +kernel
theorem dX10_act_517 : decode cX10_act 517 = .ok (.iconst (-1), 1) := by decide +kernel
theorem dX10_act_518 : decode cX10_act 518 = .ok (.if_icmp .ne 7, 3) := by decide +kernel
theorem dX10_act_521 : decode cX10_act 521 = .ok (.iconst 0, 1) := by decide +kernel
theorem dX10_act_522 : decode cX10_act 522 = .ok (.goto 7, 3) := by decide +kernel
theorem dX10_act_525 : decode cX10_act 525 = .ok (.aload_n 0, 1) := by decide +kernel
theorem dX10_act_526 : decode cX10_act 526 = .ok (.getfield 22, 3) := by decide +kernel
theorem dX10_act_529 : decode cX10_act 529 = .ok (.bipush 12, 2) := by decide +kernel
theorem dX10_act_531 : decode cX10_act 531 = .ok (.ishl, 1) := by decide +kernel
theorem dX10_act_532 : decode cX10_act 532 = .ok (.ior, 1) := by decide +kernel
theorem dX10_act_533 : decode cX10_act 533 = .ok (.iastore, 1) := by decide +kernel
theorem dX10_act_534 : decode cX10_act 534 = .ok (.goto 14, 3) := by decide +kernel
theorem dX10_act_537 : decode cX10_act 537 = .ok (.aload_n 0, 1) := by decide +kernel
theorem dX10_act_538 : decode cX10_act 538 = .ok (.lconst 0, 1) := by decide +kernel
theorem dX10_act_539 : decode cX10_act 539 = .ok (.ldc2_w 222, 3) := by decide +kernel
theorem dX10_act_542 : decode cX10_act 542 = .ok (.invokevirtual 178, 3) := by decide +kernel
theorem dX10_act_545 : decode cX10_act 545 = .ok (.goto 3, 3) := by decide +kernel
theorem dX10_act_548 : decode cX10_act 548 = .ok (.return_, 1) := by decide +kernel
set_option maxRecDepth 20000 in
theorem ggX10_run_X10_in : GoodIn wsX10_run wsX10_in := goodIn_r _ [12] (by decide +kernel) (by decide +kernel)
set_option maxRecDepth 20000 in
theorem gX10_run_X10_in : GoodIn wsX10_run (va_wsS RX10 102 yX10_in wsX10_in) := goodIn_app (goodIn_of _ (by decide +kernel)) ggX10_run_X10_in
set_option maxRecDepth 20000 in
theorem ggX10_run_X10_isFunction : GoodIn wsX10_run wsX10_isFunction := goodIn_r _ [15, 16, 17, 18, 19, 9, 10, 11, 12] (by decide +kernel) (by decide +kernel)
set_option maxRecDepth 20000 in
theorem gX10_run_X10_isFunction : GoodIn wsX10_run (va_wsS RX10 226 yX10_isFunction wsX10_isFunction) := goodIn_app (goodIn_of _ (by decide +kernel)) ggX10_run_X10_isFunction
set_option maxRecDepth 20000 in
theorem ggX10_run_X10_act : GoodIn wsX10_run wsX10_act := goodIn_r _ [23, 24, 4, 25, 26, 27, 28, 3, 29, 30, 31, 6, 32, 33, 34, 35, 36, 11, 37, 38, 39, 40, 41, 42, 43, 44, 8, 45, 46, 47, 48, 49, 50, 51, 52, 53, 54, 55, 56, 57, 58, 59, 60, 61, 62, 63, 64, 65, 66, 67, 68, 69, 70, 71, 72, 73, 74, 75, 76, 77, 78, 79, 80, 81, 82, 83, 84, 85, 86, 87, 88, 89, 90, 91, 92, 93, 94, 95, 96, 97, 98, 99, 100, 101, 102, 103, 104, 105, 106, 107, 108, 109, 110, 111, 112, 113, 114, 115, 116, 117, 118, 119, 120, 121, 122, 123, 124, 125, 126, 127, 128, 129, 130, 131, 132, 133, 134, 135, 136, 137, 138, 139, 140, 141, 142, 143, 144, 145, 146, 147, 148, 149, 150, 151] (by decide +kernel) (by decide +kernel)
set_option maxRecDepth 20000 in
theorem gX10_run_X10_act : GoodIn wsX10_run (wsV RX10 229 RX10 yX10_act wsX10_act) := goodIn_app (goodIn_of _ (by decide +kernel)) ggX10_run_X10_act
theorem dX10_run_0 : decode cX10_run 0 = .ok (.iload_n 1, 1) := by decide +kernel
theorem dX10_run_1 : decode cX10_run 1 = .ok (.i2l, 1) := by decide +kernel
theorem dX10_run_2 : decode cX10_run 2 = .ok (.lconst 0, 1) := by decide +kernel
theorem dX10_run_3 : decode cX10_run 3 = .ok (.ldc2_w 224, 3) := by decide +kernel
theorem dX10_run_6 : decode cX10_run 6 = .ok (.invokestatic 102, 3) := by decide +kernel
theorem dX10_run_9 : decode cX10_run 9 = .ok (.ifCond .ne 6, 3) := by decide +kernel
theorem dX10_run_12 : decode cX10_run 12 = .ok (.bipush (-3), 2) := by decide +kernel
theorem dX10_run_14 : decode cX10_run 14 = .ok (.ireturn, 1) := by decide +kernel
theorem dX10_run_15 : decode cX10_run 15 = .ok (.iconst 0, 1) := by decide +kernel
theorem dX10_run_16 : decode cX10_run 16 = .ok (.istore_n 2, 1) := by decide +kernel
theorem dX10_run_17 : decode cX10_run 17 = .ok (.aload_n 0, 1) := by decide +kernel
theorem dX10_run_18 : decode cX10_run 18 = .ok (.iconst (-1), 1) := by decide +kernel
theorem dX10_run_19 : decode cX10_run 19 = .ok (.putfield 33, 3) := by decide +kernel
theorem dX10_run_22 : decode cX10_run 22 = .ok (.aload_n 0, 1) := by decide +kernel
theorem dX10_run_23 : decode cX10_run 23 = .ok (.getfield 33, 3) := by decide +kernel
theorem dX10_run_26 : decode cX10_run 26 = .ok (.iconst (-1), 1) := by decide +kernel
theorem dX10_run_27 : decode cX10_run 27 = .ok (.if_icmp .ne 150, 3) := by decide +kernel
theorem dX10_run_30 : decode cX10_run 30 = .ok (.aload_n 0, 1) := by decide +kernel
theorem dX10_run_31 : decode cX10_run 31 = .ok (.getfield 7, 3) := by decide +kernel
theorem dX10_run_34 : decode cX10_run 34 = .ok (.aload_n 0, 1) := by decide +kernel
theorem dX10_run_35 : decode cX10_run 35 = .ok (.getfield 163, 3) := by decide +kernel
theorem dX10_run_38 : decode cX10_run 38 = .ok (.iaload, 1) := by decide +kernel
theorem dX10_run_39 : decode cX10_run 39 = .ok (.istore_n 3, 1) := by decide +kernel
theorem dX10_run_40 : decode cX10_run 40 = .ok (.iload_n 3, 1) := by decide +kernel
theorem dX10_run_41 : decode cX10_run 41 = .ok (.bipush 12, 2) := by decide +kernel
theorem dX10_run_43 : decode cX10_run 43 = .ok (.ishr, 1) := by decide +kernel
theorem dX10_run_44 : decode cX10_run 44 = .ok (.istore 4, 2) := by decide +kernel
theorem dX10_run_46 : decode cX10_run 46 = .ok (.iload_n 2, 1) := by decide +kernel
theorem dX10_run_47 : decode cX10_run 47 = .ok (.iload_n 1, 1) := by decide +kernel
theorem dX10_run_48 : decode cX10_run 48 = .ok (.if_icmp .ne 11, 3) := by decide +kernel
theorem dX10_run_51 : decode cX10_run 51 = .ok (.aload_n 0, 1) := by decide +kernel
theorem dX10_run_52 : decode cX10_run 52 = .ok (.iconst 0, 1) := by decide +kernel
theorem dX10_run_53 : decode cX10_run 53 = .ok (.putfield 33, 3) := by decide +kernel
theorem dX10_run_56 : decode cX10_run 56 = .ok (.goto 118, 3) := by decide +kernel
theorem dX10_run_59 : decode cX10_run 59 = .ok (.iload_n 2, 1) := by decide +kernel
theorem dX10_run_60 : decode cX10_run 60 = .ok (.ifCond .le 23, 3) := by decide +kernel
theorem dX10_run_63 : decode cX10_run 63 = .ok (.aload_n 0, 1) := by decide +kernel
theorem dX10_run_64 : decode cX10_run 64 = .ok (.getfield 29, 3) := by decide +kernel
theorem dX10_run_67 : decode cX10_run 67 = .ok (.aload_n 0, 1) := by decide +kernel
theorem dX10_run_68 : decode cX10_run 68 = .ok (.getfield 163, 3) := by decide +kernel
theorem dX10_run_71 : decode cX10_run 71 = .ok (.baload, 1) := by decide +kernel
theorem dX10_run_72 : decode cX10_run 72 = .ok (.ifCond .eq 11, 3) := by decide +kernel
theorem dX10_run_75 : decode cX10_run 75 = .ok (.aload_n 0, 1) := by decide +kernel
theorem dX10_run_76 : decode cX10_run 76 = .ok (.iconst 5, 1) := by decide +kernel
theorem dX10_run_77 : decode cX10_run 77 = .ok (.putfield 33, 3) := by decide +kernel
theorem dX10_run_80 : decode cX10_run 80 = .ok (.goto 94, 3) := by decide +kernel
theorem dX10_run_83 : decode cX10_run 83 = .ok (.iload 4, 2) := by decide +kernel
theorem dX10_run_85 : decode cX10_run 85 = .ok (.invokestatic 226, 3) := by decide +kernel
theorem dX10_run_88 : decode cX10_run 88 = .ok (.ifCond .ne 11, 3) := by decide +kernel
theorem dX10_run_91 : decode cX10_run 91 = .ok (.aload_n 0, 1) := by decide +kernel
theorem dX10_run_92 : decode cX10_run 92 = .ok (.iconst 2, 1) := by decide +kernel
theorem dX10_run_93 : decode cX10_run 93 = .ok (.putfield 33, 3) := by decide +kernel
theorem dX10_run_96 : decode cX10_run 96 = .ok (.goto 78, 3) := by decide +kernel
theorem dX10_run_99 : decode cX10_run 99 = .ok (.iload 4, 2) := by decide +kernel
theorem dX10_run_101 : decode cX10_run 101 = .ok (.bipush 8, 2) := by decide +kernel
theorem dX10_run_103 : decode cX10_run 103 = .ok (.if_icmp .ne 22, 3) := by decide +kernel
theorem dX10_run_106 : decode cX10_run 106 = .ok (.aload_n 0, 1) := by decide +kernel
theorem dX10_run_107 : decode cX10_run 107 = .ok (.getfield 156, 3) := by decide +kernel
theorem dX10_run_110 : decode cX10_run 110 = .ok (.aload_n 0, 1) := by decide +kernel
theorem dX10_run_111 : decode cX10_run 111 = .ok (.getfield 153, 3) := by decide +kernel
theorem dX10_run_114 : decode cX10_run 114 = .ok (.if_icmp .ne 11, 3) := by decide +kernel
theorem dX10_run_117 : decode cX10_run 117 = .ok (.aload_n 0, 1) := by decide +kernel
theorem dX10_run_118 : decode cX10_run 118 = .ok (.iconst 3, 1) := by decide +kernel
theorem dX10_run_119 : decode cX10_run 119 = .ok (.putfield 33, 3) := by decide +kernel
theorem dX10_run_122 : decode cX10_run 122 = .ok (.goto 52, 3) := by decide +kernel
theorem dX10_run_125 : decode cX10_run 125 = .ok (.iload 4, 2) := by decide +kernel
theorem dX10_run_127 : decode cX10_run 127 = .ok (.bipush 9, 2) := by decide +kernel
theorem dX10_run_129 : decode cX10_run 129 = .ok (.if_icmp .ne 21, 3) := by decide +kernel
theorem dX10_run_132 : decode cX10_run 132 = .ok (.aload_n 0, 1) := by decide +kernel
theorem dX10_run_133 : decode cX10_run 133 = .ok (.getfield 159, 3) := by decide +kernel
theorem dX10_run_136 : decode cX10_run 136 = .ok (.sipush 400, 3) := by decide +kernel
theorem dX10_run_139 : decode cX10_run 139 = .ok (.if_icmp .ne 11, 3) := by decide +kernel
theorem dX10_run_142 : decode cX10_run 142 = .ok (.aload_n 0, 1) := by decide +kernel
theorem dX10_run_143 : decode cX10_run 143 = .ok (.iconst 4, 1) := by decide +kernel
theorem dX10_run_144 : decode cX10_run 144 = .ok (.putfield 33, 3) := by decide +kernel
theorem dX10_run_147 : decode cX10_run 147 = .ok (.goto 27, 3) := by decide +kernel
theorem dX10_run_150 : decode cX10_run 150 = .ok (.aload_n 0, 1) := by decide +kernel
theorem dX10_run_151 : decode cX10_run 151 = .ok (.iload_n 3, 1) := by decide +kernel
theorem dX10_run_152 : decode cX10_run 152 = .ok (.invokevirtual 229, 3) := by decide +kernel
theorem dX10_run_155 : decode cX10_run 155 = .ok (.iinc 2 1, 3) := by decide +kernel
theorem dX10_run_158 : decode cX10_run 158 = .ok (.aload_n 0, 1) := by decide +kernel
theorem dX10_run_159 : decode cX10_run 159 = .ok (.iload 4, 2) := by decide +kernel
theorem dX10_run_161 : decode cX10_run 161 = .ok (.bipush 13, 2) := by decide +kernel
theorem dX10_run_163 : decode cX10_run 163 = .ok (.if_icmp .ne 7, 3) := by decide +kernel
theorem dX10_run_166 : decode cX10_run 166 = .ok (.iconst 1, 1) := by decide +kernel
theorem dX10_run_167 : decode cX10_run 167 = .ok (.goto 4, 3) := by decide +kernel
theorem dX10_run_170 : decode cX10_run 170 = .ok (.iconst (-1), 1) := by decide +kernel
theorem dX10_run_171 : decode cX10_run 171 = .ok (.putfield 33, 3) := by decide +kernel
theorem dX10_run_174 : decode cX10_run 174 = .ok (.goto (-152), 3) := by decide +kernel
theorem dX10_run_177 : decode cX10_run 177 = .ok (.iload_n 2, 1) := by decide +kernel
theorem dX10_run_178 : decode cX10_run 178 = .ok (.ireturn, 1) := by decide +kernel
theorem dX10_why_0 : decode cX10_why 0 = .ok (.aload_n 0, 1) := by decide +kernel
theorem dX10_why_1 : decode cX10_why 1 = .ok (.getfield 33, 3) := by decide +kernel
theorem dX10_why_4 : decode cX10_why 4 = .ok (.ireturn, 1) := by decide +kernel
set_option maxRecDepth 20000 in
theorem ggX10_mark_X10_isAddress : GoodIn wsX10_mark wsX10_isAddress := goodIn_r _ [6, 7, 8, 9, 5, 10] (by decide +kernel) (by decide +kernel)
set_option maxRecDepth 20000 in
theorem gX10_mark_X10_isAddress : GoodIn wsX10_mark (va_wsS RX10 108 yX10_isAddress wsX10_isAddress) := goodIn_app (goodIn_of _ (by decide +kernel)) ggX10_mark_X10_isAddress
theorem dX10_mark_0 : decode cX10_mark 0 = .ok (.iload_n 1, 1) := by decide +kernel
theorem dX10_mark_1 : decode cX10_mark 1 = .ok (.invokestatic 108, 3) := by decide +kernel
theorem dX10_mark_4 : decode cX10_mark 4 = .ok (.ifCond .ne 6, 3) := by decide +kernel
theorem dX10_mark_7 : decode cX10_mark 7 = .ok (.bipush (-2), 2) := by decide +kernel
theorem dX10_mark_9 : decode cX10_mark 9 = .ok (.ireturn, 1) := by decide +kernel
theorem dX10_mark_10 : decode cX10_mark 10 = .ok (.aload_n 0, 1) := by decide +kernel
theorem dX10_mark_11 : decode cX10_mark 11 = .ok (.getfield 29, 3) := by decide +kernel
theorem dX10_mark_14 : decode cX10_mark 14 = .ok (.iload_n 1, 1) := by decide +kernel
theorem dX10_mark_15 : decode cX10_mark 15 = .ok (.baload, 1) := by decide +kernel
theorem dX10_mark_16 : decode cX10_mark 16 = .ok (.istore_n 3, 1) := by decide +kernel
theorem dX10_mark_17 : decode cX10_mark 17 = .ok (.iload_n 2, 1) := by decide +kernel
theorem dX10_mark_18 : decode cX10_mark 18 = .ok (.ifCond .eq 19, 3) := by decide +kernel
theorem dX10_mark_21 : decode cX10_mark 21 = .ok (.iload_n 3, 1) := by decide +kernel
theorem dX10_mark_22 : decode cX10_mark 22 = .ok (.ifCond .ne 15, 3) := by decide +kernel
theorem dX10_mark_25 : decode cX10_mark 25 = .ok (.aload_n 0, 1) := by decide +kernel
theorem dX10_mark_26 : decode cX10_mark 26 = .ok (.getfield 232, 3) := by decide +kernel
theorem dX10_mark_29 : decode cX10_mark 29 = .ok (.bipush 8, 2) := by decide +kernel
theorem dX10_mark_31 : decode cX10_mark 31 = .ok (.if_icmp .ne 6, 3) := by decide +kernel
theorem dX10_mark_34 : decode cX10_mark 34 = .ok (.bipush (-5), 2) := by decide +kernel
theorem dX10_mark_36 : decode cX10_mark 36 = .ok (.ireturn, 1) := by decide +kernel
theorem dX10_mark_37 : decode cX10_mark 37 = .ok (.aload_n 0, 1) := by decide +kernel
theorem dX10_mark_38 : decode cX10_mark 38 = .ok (.dup, 1) := by decide +kernel
theorem dX10_mark_39 : decode cX10_mark 39 = .ok (.getfield 232, 3) := by decide +kernel
theorem dX10_mark_42 : decode cX10_mark 42 = .ok (.iload_n 2, 1) := by decide +kernel
theorem dX10_mark_43 : decode cX10_mark 43 = .ok (.iload_n 3, 1) := by decide +kernel
theorem dX10_mark_44 : decode cX10_mark 44 = .ok (.if_icmp .ne 7, 3) := by decide +kernel
theorem dX10_mark_47 : decode cX10_mark 47 = .ok (.iconst 0, 1) := by decide +kernel
theorem dX10_mark_48 : decode cX10_mark 48 = .ok (.goto 12, 3) := by decide +kernel
theorem dX10_mark_51 : decode cX10_mark 51 = .ok (.iload_n 2, 1) := by decide +kernel
theorem dX10_mark_52 : decode cX10_mark 52 = .ok (.ifCond .eq 7, 3) := by decide +kernel
theorem dX10_mark_55 : decode cX10_mark 55 = .ok (.iconst 1, 1) := by decide +kernel
theorem dX10_mark_56 : decode cX10_mark 56 = .ok (.goto 4, 3) := by decide +kernel
theorem dX10_mark_59 : decode cX10_mark 59 = .ok (.iconst (-1), 1) := by decide +kernel
theorem dX10_mark_60 : decode cX10_mark 60 = .ok (.iadd, 1) := by decide +kernel
theorem dX10_mark_61 : decode cX10_mark 61 = .ok (.putfield 232, 3) := by decide +kernel
theorem dX10_mark_64 : decode cX10_mark 64 = .ok (.aload_n 0, 1) := by decide +kernel
theorem dX10_mark_65 : decode cX10_mark 65 = .ok (.getfield 29, 3) := by decide +kernel
theorem dX10_mark_68 : decode cX10_mark 68 = .ok (.iload_n 1, 1) := by decide +kernel
theorem dX10_mark_69 : decode cX10_mark 69 = .ok (.iload_n 2, 1) := by decide +kernel
theorem dX10_mark_70 : decode cX10_mark 70 = .ok (.bastore, 1) := by decide +kernel
theorem dX10_mark_71 : decode cX10_mark 71 = .ok (.iload_n 3, 1) := by decide +kernel
theorem dX10_mark_72 : decode cX10_mark 72 = .ok (.ifCond .eq 7, 3) := by decide +kernel
theorem dX10_mark_75 : decode cX10_mark 75 = .ok (.iconst 1, 1) := by decide +kernel
theorem dX10_mark_76 : decode cX10_mark 76 = .ok (.goto 4, 3) := by decide +kernel
theorem dX10_mark_79 : decode cX10_mark 79 = .ok (.iconst 0, 1) := by decide +kernel
theorem dX10_mark_80 : decode cX10_mark 80 = .ok (.ireturn, 1) := by decide +kernel
theorem dX10_back_0 : decode cX10_back 0 = .ok (.aload_n 0, 1) := by decide +kernel
theorem dX10_back_1 : decode cX10_back 1 = .ok (.getfield 112, 3) := by decide +kernel
theorem dX10_back_4 : decode cX10_back 4 = .ok (.ifCond .ne 6, 3) := by decide +kernel
theorem dX10_back_7 : decode cX10_back 7 = .ok (.bipush (-4), 2) := by decide +kernel
theorem dX10_back_9 : decode cX10_back 9 = .ok (.ireturn, 1) := by decide +kernel
theorem dX10_back_10 : decode cX10_back 10 = .ok (.aload_n 0, 1) := by decide +kernel
theorem dX10_back_11 : decode cX10_back 11 = .ok (.dup, 1) := by decide +kernel
theorem dX10_back_12 : decode cX10_back 12 = .ok (.getfield 112, 3) := by decide +kernel
theorem dX10_back_15 : decode cX10_back 15 = .ok (.iconst 1, 1) := by decide +kernel
theorem dX10_back_16 : decode cX10_back 16 = .ok (.isub, 1) := by decide +kernel
theorem dX10_back_17 : decode cX10_back 17 = .ok (.putfield 112, 3) := by decide +kernel
theorem dX10_back_20 : decode cX10_back 20 = .ok (.aload_n 0, 1) := by decide +kernel
theorem dX10_back_21 : decode cX10_back 21 = .ok (.aload_n 0, 1) := by decide +kernel
theorem dX10_back_22 : decode cX10_back 22 = .ok (.getfield 199, 3) := by decide +kernel
theorem dX10_back_25 : decode cX10_back 25 = .ok (.bipush 99, 2) := by decide +kernel
theorem dX10_back_27 : decode cX10_back 27 = .ok (.iadd, 1) := by decide +kernel
theorem dX10_back_28 : decode cX10_back 28 = .ok (.bipush 100, 2) := by decide +kernel
theorem dX10_back_30 : decode cX10_back 30 = .ok (.irem, 1) := by decide +kernel
theorem dX10_back_31 : decode cX10_back 31 = .ok (.putfield 199, 3) := by decide +kernel
theorem dX10_back_34 : decode cX10_back 34 = .ok (.aload_n 0, 1) := by decide +kernel
theorem dX10_back_35 : decode cX10_back 35 = .ok (.getfield 199, 3) := by decide +kernel
theorem dX10_back_38 : decode cX10_back 38 = .ok (.istore_n 1, 1) := by decide +kernel
theorem dX10_back_39 : decode cX10_back 39 = .ok (.aload_n 0, 1) := by decide +kernel
theorem dX10_back_40 : decode cX10_back 40 = .ok (.aload_n 0, 1) := by decide +kernel
theorem dX10_back_41 : decode cX10_back 41 = .ok (.getfield 42, 3) := by decide +kernel
theorem dX10_back_44 : decode cX10_back 44 = .ok (.iload_n 1, 1) := by decide +kernel
theorem dX10_back_45 : decode cX10_back 45 = .ok (.laload, 1) := by decide +kernel
theorem dX10_back_46 : decode cX10_back 46 = .ok (.putfield 135, 3) := by decide +kernel
theorem dX10_back_49 : decode cX10_back 49 = .ok (.aload_n 0, 1) := by decide +kernel
theorem dX10_back_50 : decode cX10_back 50 = .ok (.aload_n 0, 1) := by decide +kernel
theorem dX10_back_51 : decode cX10_back 51 = .ok (.getfield 46, 3) := by decide +kernel
theorem dX10_back_54 : decode cX10_back 54 = .ok (.iload_n 1, 1) := by decide +kernel
theorem dX10_back_55 : decode cX10_back 55 = .ok (.laload, 1) := by decide +kernel
theorem dX10_back_56 : decode cX10_back 56 = .ok (.putfield 139, 3) := by decide +kernel
theorem dX10_back_59 : decode cX10_back 59 = .ok (.aload_n 0, 1) := by decide +kernel
theorem dX10_back_60 : decode cX10_back 60 = .ok (.aload_n 0, 1) := by decide +kernel
theorem dX10_back_61 : decode cX10_back 61 = .ok (.getfield 49, 3) := by decide +kernel
theorem dX10_back_64 : decode cX10_back 64 = .ok (.iload_n 1, 1) := by decide +kernel
theorem dX10_back_65 : decode cX10_back 65 = .ok (.laload, 1) := by decide +kernel
theorem dX10_back_66 : decode cX10_back 66 = .ok (.putfield 148, 3) := by decide +kernel
theorem dX10_back_69 : decode cX10_back 69 = .ok (.aload_n 0, 1) := by decide +kernel
theorem dX10_back_70 : decode cX10_back 70 = .ok (.aload_n 0, 1) := by decide +kernel
theorem dX10_back_71 : decode cX10_back 71 = .ok (.getfield 52, 3) := by decide +kernel
theorem dX10_back_74 : decode cX10_back 74 = .ok (.iload_n 1, 1) := by decide +kernel
theorem dX10_back_75 : decode cX10_back 75 = .ok (.iaload, 1) := by decide +kernel
theorem dX10_back_76 : decode cX10_back 76 = .ok (.putfield 163, 3) := by decide +kernel
theorem dX10_back_79 : decode cX10_back 79 = .ok (.aload_n 0, 1) := by decide +kernel
theorem dX10_back_80 : decode cX10_back 80 = .ok (.aload_n 0, 1) := by decide +kernel
theorem dX10_back_81 : decode cX10_back 81 = .ok (.getfield 55, 3) := by decide +kernel
theorem dX10_back_84 : decode cX10_back 84 = .ok (.iload_n 1, 1) := by decide +kernel
theorem dX10_back_85 : decode cX10_back 85 = .ok (.iaload, 1) := by decide +kernel
theorem dX10_back_86 : decode cX10_back 86 = .ok (.putfield 156, 3) := by decide +kernel
theorem dX10_back_89 : decode cX10_back 89 = .ok (.aload_n 0, 1) := by decide +kernel
theorem dX10_back_90 : decode cX10_back 90 = .ok (.aload_n 0, 1) := by decide +kernel
theorem dX10_back_91 : decode cX10_back 91 = .ok (.getfield 58, 3) := by decide +kernel
theorem dX10_back_94 : decode cX10_back 94 = .ok (.iload_n 1, 1) := by decide +kernel
theorem dX10_back_95 : decode cX10_back 95 = .ok (.iaload, 1) := by decide +kernel
theorem dX10_back_96 : decode cX10_back 96 = .ok (.putfield 159, 3) := by decide +kernel
theorem dX10_back_99 : decode cX10_back 99 = .ok (.aload_n 0, 1) := by decide +kernel
theorem dX10_back_100 : decode cX10_back 100 = .ok (.aload_n 0, 1) := by decide +kernel
theorem dX10_back_101 : decode cX10_back 101 = .ok (.getfield 61, 3) := by decide +kernel
theorem dX10_back_104 : decode cX10_back 104 = .ok (.iload_n 1, 1) := by decide +kernel
theorem dX10_back_105 : decode cX10_back 105 = .ok (.baload, 1) := by decide +kernel
theorem dX10_back_106 : decode cX10_back 106 = .ok (.putfield 184, 3) := by decide +kernel
theorem dX10_back_109 : decode cX10_back 109 = .ok (.aload_n 0, 1) := by decide +kernel
theorem dX10_back_110 : decode cX10_back 110 = .ok (.aload_n 0, 1) := by decide +kernel
theorem dX10_back_111 : decode cX10_back 111 = .ok (.getfield 64, 3) := by decide +kernel
theorem dX10_back_114 : decode cX10_back 114 = .ok (.iload_n 1, 1) := by decide +kernel
theorem dX10_back_115 : decode cX10_back 115 = .ok (.iaload, 1) := by decide +kernel
theorem dX10_back_116 : decode cX10_back 116 = .ok (.putfield 22, 3) := by decide +kernel
theorem dX10_back_119 : decode cX10_back 119 = .ok (.aload_n 0, 1) := by decide +kernel
theorem dX10_back_120 : decode cX10_back 120 = .ok (.getfield 26, 3) := by decide +kernel
theorem dX10_back_123 : decode cX10_back 123 = .ok (.aload_n 0, 1) := by decide +kernel
theorem dX10_back_124 : decode cX10_back 124 = .ok (.getfield 67, 3) := by decide +kernel
theorem dX10_back_127 : decode cX10_back 127 = .ok (.iload_n 1, 1) := by decide +kernel
theorem dX10_back_128 : decode cX10_back 128 = .ok (.iaload, 1) := by decide +kernel
theorem dX10_back_129 : decode cX10_back 129 = .ok (.dup2, 1) := by decide +kernel
theorem dX10_back_130 : decode cX10_back 130 = .ok (.iaload, 1) := by decide +kernel
theorem dX10_back_131 : decode cX10_back 131 = .ok (.iconst 1, 1) := by decide +kernel
theorem dX10_back_132 : decode cX10_back 132 = .ok (.isub, 1) := by decide +kernel
theorem dX10_back_133 : decode cX10_back 133 = .ok (.iastore, 1) := by decide +kernel
theorem dX10_back_134 : decode cX10_back 134 = .ok (.aload_n 0, 1) := by decide +kernel
theorem dX10_back_135 : decode cX10_back 135 = .ok (.getfield 7, 3) := by decide +kernel
theorem dX10_back_138 : decode cX10_back 138 = .ok (.aload_n 0, 1) := by decide +kernel
theorem dX10_back_139 : decode cX10_back 139 = .ok (.getfield 70, 3) := by decide +kernel
theorem dX10_back_142 : decode cX10_back 142 = .ok (.iload_n 1, 1) := by decide +kernel
theorem dX10_back_143 : decode cX10_back 143 = .ok (.iaload, 1) := by decide +kernel
theorem dX10_back_144 : decode cX10_back 144 = .ok (.aload_n 0, 1) := by decide +kernel
theorem dX10_back_145 : decode cX10_back 145 = .ok (.getfield 73, 3) := by decide +kernel
theorem dX10_back_148 : decode cX10_back 148 = .ok (.iload_n 1, 1) := by decide +kernel
theorem dX10_back_149 : decode cX10_back 149 = .ok (.iaload, 1) := by decide +kernel
theorem dX10_back_150 : decode cX10_back 150 = .ok (.iastore, 1) := by decide +kernel
theorem dX10_back_151 : decode cX10_back 151 = .ok (.aload_n 0, 1) := by decide +kernel
theorem dX10_back_152 : decode cX10_back 152 = .ok (.getfield 7, 3) := by decide +kernel
theorem dX10_back_155 : decode cX10_back 155 = .ok (.aload_n 0, 1) := by decide +kernel
theorem dX10_back_156 : decode cX10_back 156 = .ok (.getfield 70, 3) := by decide +kernel
theorem dX10_back_159 : decode cX10_back 159 = .ok (.iload_n 1, 1) := by decide +kernel
theorem dX10_back_160 : decode cX10_back 160 = .ok (.iaload, 1) := by decide +kernel
theorem dX10_back_161 : decode cX10_back 161 = .ok (.iconst 1, 1) := by decide +kernel
theorem dX10_back_162 : decode cX10_back 162 = .ok (.iadd, 1) := by decide +kernel
theorem dX10_back_163 : decode cX10_back 163 = .ok (.aload_n 0, 1) := by decide +kernel
theorem dX10_back_164 : decode cX10_back 164 = .ok (.getfield 76, 3) := by decide +kernel
theorem dX10_back_167 : decode cX10_back 167 = .ok (.iload_n 1, 1) := by decide +kernel
theorem dX10_back_168 : decode cX10_back 168 = .ok (.iaload, 1) := by decide +kernel
theorem dX10_back_169 : decode cX10_back 169 = .ok (.iastore, 1) := by decide +kernel
theorem dX10_back_170 : decode cX10_back 170 = .ok (.aload_n 0, 1) := by decide +kernel
theorem dX10_back_171 : decode cX10_back 171 = .ok (.getfield 13, 3) := by decide +kernel
theorem dX10_back_174 : decode cX10_back 174 = .ok (.aload_n 0, 1) := by decide +kernel
theorem dX10_back_175 : decode cX10_back 175 = .ok (.getfield 70, 3) := by decide +kernel
theorem dX10_back_178 : decode cX10_back 178 = .ok (.iload_n 1, 1) := by decide +kernel
theorem dX10_back_179 : decode cX10_back 179 = .ok (.iaload, 1) := by decide +kernel
theorem dX10_back_180 : decode cX10_back 180 = .ok (.iconst 2, 1) := by decide +kernel
theorem dX10_back_181 : decode cX10_back 181 = .ok (.idiv, 1) := by decide +kernel
theorem dX10_back_182 : decode cX10_back 182 = .ok (.aload_n 0, 1) := by decide +kernel
theorem dX10_back_183 : decode cX10_back 183 = .ok (.getfield 79, 3) := by decide +kernel
theorem dX10_back_186 : decode cX10_back 186 = .ok (.iload_n 1, 1) := by decide +kernel
theorem dX10_back_187 : decode cX10_back 187 = .ok (.iaload, 1) := by decide +kernel
theorem dX10_back_188 : decode cX10_back 188 = .ok (.iastore, 1) := by decide +kernel
theorem dX10_back_189 : decode cX10_back 189 = .ok (.aload_n 0, 1) := by decide +kernel
theorem dX10_back_190 : decode cX10_back 190 = .ok (.getfield 112, 3) := by decide +kernel
theorem dX10_back_193 : decode cX10_back 193 = .ok (.ireturn, 1) := by decide +kernel
set_option maxRecDepth 20000 in
theorem ggX10_done_X10_in : GoodIn wsX10_done wsX10_in := goodIn_r _ [6] (by decide +kernel) (by decide +kernel)
set_option maxRecDepth 20000 in
theorem gX10_done_X10_in : GoodIn wsX10_done (va_wsS RX10 102 yX10_in wsX10_in) := goodIn_app (goodIn_of _ (by decide +kernel)) ggX10_done_X10_in
theorem dX10_done_0 : decode cX10_done 0 = .ok (.iload_n 1, 1) := by decide +kernel
theorem dX10_done_1 : decode cX10_done 1 = .ok (.i2l, 1) := by decide +kernel
theorem dX10_done_2 : decode cX10_done 2 = .ok (.lconst 0, 1) := by decide +kernel
theorem dX10_done_3 : decode cX10_done 3 = .ok (.ldc2_w 131, 3) := by decide +kernel
theorem dX10_done_6 : decode cX10_done 6 = .ok (.invokestatic 102, 3) := by decide +kernel
theorem dX10_done_9 : decode cX10_done 9 = .ok (.ifCond .eq 12, 3) := by decide +kernel
theorem dX10_done_12 : decode cX10_done 12 = .ok (.aload_n 0, 1) := by decide +kernel
theorem dX10_done_13 : decode cX10_done 13 = .ok (.getfield 26, 3) := by decide +kernel
theorem dX10_done_16 : decode cX10_done 16 = .ok (.iload_n 1, 1) := by decide +kernel
theorem dX10_done_17 : decode cX10_done 17 = .ok (.iaload, 1) := by decide +kernel
theorem dX10_done_18 : decode cX10_done 18 = .ok (.goto 5, 3) := by decide +kernel
theorem dX10_done_21 : decode cX10_done 21 = .ok (.bipush (-2), 2) := by decide +kernel
theorem dX10_done_23 : decode cX10_done 23 = .ok (.ireturn, 1) := by decide +kernel
set_option maxRecDepth 20000 in
theorem ggX10_reach_X10_isAddress : GoodIn wsX10_reach wsX10_isAddress := goodIn_r _ [7, 8, 9, 10, 6, 11] (by decide +kernel) (by decide +kernel)
set_option maxRecDepth 20000 in
theorem gX10_reach_X10_isAddress : GoodIn wsX10_reach (va_wsS RX10 108 yX10_isAddress wsX10_isAddress) := goodIn_app (goodIn_of _ (by decide +kernel)) ggX10_reach_X10_isAddress
set_option maxRecDepth 20000 in
theorem ggX10_reach_X10_isFunction : GoodIn wsX10_reach wsX10_isFunction := goodIn_r _ [14, 15, 16, 17, 18, 9, 10, 6, 11] (by decide +kernel) (by decide +kernel)
set_option maxRecDepth 20000 in
theorem gX10_reach_X10_isFunction : GoodIn wsX10_reach (va_wsS RX10 226 yX10_isFunction wsX10_isFunction) := goodIn_app (goodIn_of _ (by decide +kernel)) ggX10_reach_X10_isFunction
theorem dX10_reach_0 : decode cX10_reach 0 = .ok (.iload_n 1, 1) := by decide +kernel
theorem dX10_reach_1 : decode cX10_reach 1 = .ok (.invokestatic 108, 3) := by decide +kernel
theorem dX10_reach_4 : decode cX10_reach 4 = .ok (.ifCond .ne 6, 3) := by decide +kernel
theorem dX10_reach_7 : decode cX10_reach 7 = .ok (.bipush (-2), 2) := by decide +kernel
theorem dX10_reach_9 : decode cX10_reach 9 = .ok (.ireturn, 1) := by decide +kernel
theorem dX10_reach_10 : decode cX10_reach 10 = .ok (.aload_n 0, 1) := by decide +kernel
theorem dX10_reach_11 : decode cX10_reach 11 = .ok (.iconst 1, 1) := by decide +kernel
theorem dX10_reach_12 : decode cX10_reach 12 = .ok (.putfield 235, 3) := by decide +kernel
theorem dX10_reach_15 : decode cX10_reach 15 = .ok (.iconst 0, 1) := by decide +kernel
theorem dX10_reach_16 : decode cX10_reach 16 = .ok (.istore_n 2, 1) := by decide +kernel
theorem dX10_reach_17 : decode cX10_reach 17 = .ok (.iload_n 2, 1) := by decide +kernel
theorem dX10_reach_18 : decode cX10_reach 18 = .ok (.sipush 256, 3) := by decide +kernel
theorem dX10_reach_21 : decode cX10_reach 21 = .ok (.if_icmp .ge 25, 3) := by decide +kernel
theorem dX10_reach_24 : decode cX10_reach 24 = .ok (.aload_n 0, 1) := by decide +kernel
theorem dX10_reach_25 : decode cX10_reach 25 = .ok (.getfield 82, 3) := by decide +kernel
theorem dX10_reach_28 : decode cX10_reach 28 = .ok (.iload_n 2, 1) := by decide +kernel
theorem dX10_reach_29 : decode cX10_reach 29 = .ok (.iload_n 2, 1) := by decide +kernel
theorem dX10_reach_30 : decode cX10_reach 30 = .ok (.iload_n 1, 1) := by decide +kernel
theorem dX10_reach_31 : decode cX10_reach 31 = .ok (.if_icmp .ne 7, 3) := by decide +kernel
theorem dX10_reach_34 : decode cX10_reach 34 = .ok (.iconst 1, 1) := by decide +kernel
theorem dX10_reach_35 : decode cX10_reach 35 = .ok (.goto 4, 3) := by decide +kernel
theorem dX10_reach_38 : decode cX10_reach 38 = .ok (.iconst 0, 1) := by decide +kernel
theorem dX10_reach_39 : decode cX10_reach 39 = .ok (.bastore, 1) := by decide +kernel
theorem dX10_reach_40 : decode cX10_reach 40 = .ok (.iinc 2 1, 3) := by decide +kernel
theorem dX10_reach_43 : decode cX10_reach 43 = .ok (.goto (-26), 3) := by decide +kernel
theorem dX10_reach_46 : decode cX10_reach 46 = .ok (.iconst 1, 1) := by decide +kernel
theorem dX10_reach_47 : decode cX10_reach 47 = .ok (.istore_n 2, 1) := by decide +kernel
theorem dX10_reach_48 : decode cX10_reach 48 = .ok (.iload_n 2, 1) := by decide +kernel
theorem dX10_reach_49 : decode cX10_reach 49 = .ok (.ifCond .eq 145, 3) := by decide +kernel
theorem dX10_reach_52 : decode cX10_reach 52 = .ok (.iconst 0, 1) := by decide +kernel
theorem dX10_reach_53 : decode cX10_reach 53 = .ok (.istore_n 2, 1) := by decide +kernel
theorem dX10_reach_54 : decode cX10_reach 54 = .ok (.iconst 0, 1) := by decide +kernel
theorem dX10_reach_55 : decode cX10_reach 55 = .ok (.istore_n 3, 1) := by decide +kernel
theorem dX10_reach_56 : decode cX10_reach 56 = .ok (.iload_n 3, 1) := by decide +kernel
theorem dX10_reach_57 : decode cX10_reach 57 = .ok (.sipush 256, 3) := by decide +kernel
theorem dX10_reach_60 : decode cX10_reach 60 = .ok (.if_icmp .ge 131, 3) := by decide +kernel
theorem dX10_reach_63 : decode cX10_reach 63 = .ok (.aload_n 0, 1) := by decide +kernel
theorem dX10_reach_64 : decode cX10_reach 64 = .ok (.getfield 7, 3) := by decide +kernel
theorem dX10_reach_67 : decode cX10_reach 67 = .ok (.iload_n 3, 1) := by decide +kernel
theorem dX10_reach_68 : decode cX10_reach 68 = .ok (.iaload, 1) := by decide +kernel
theorem dX10_reach_69 : decode cX10_reach 69 = .ok (.bipush 12, 2) := by decide +kernel
theorem dX10_reach_71 : decode cX10_reach 71 = .ok (.ishr, 1) := by decide +kernel
theorem dX10_reach_72 : decode cX10_reach 72 = .ok (.istore 4, 2) := by decide +kernel
theorem dX10_reach_74 : decode cX10_reach 74 = .ok (.aload_n 0, 1) := by decide +kernel
theorem dX10_reach_75 : decode cX10_reach 75 = .ok (.getfield 82, 3) := by decide +kernel
theorem dX10_reach_78 : decode cX10_reach 78 = .ok (.iload_n 3, 1) := by decide +kernel
theorem dX10_reach_79 : decode cX10_reach 79 = .ok (.baload, 1) := by decide +kernel
theorem dX10_reach_80 : decode cX10_reach 80 = .ok (.ifCond .eq 105, 3) := by decide +kernel
theorem dX10_reach_83 : decode cX10_reach 83 = .ok (.iload 4, 2) := by decide +kernel
theorem dX10_reach_85 : decode cX10_reach 85 = .ok (.invokestatic 226, 3) := by decide +kernel
theorem dX10_reach_88 : decode cX10_reach 88 = .ok (.ifCond .eq 97, 3) := by decide +kernel
theorem dX10_reach_91 : decode cX10_reach 91 = .ok (.iload 4, 2) := by decide +kernel
theorem dX10_reach_93 : decode cX10_reach 93 = .ok (.bipush 13, 2) := by decide +kernel
theorem dX10_reach_95 : decode cX10_reach 95 = .ok (.if_icmp .eq 90, 3) := by decide +kernel
theorem dX10_reach_98 : decode cX10_reach 98 = .ok (.iload_n 3, 1) := by decide +kernel
theorem dX10_reach_99 : decode cX10_reach 99 = .ok (.iconst 1, 1) := by decide +kernel
theorem dX10_reach_100 : decode cX10_reach 100 = .ok (.iadd, 1) := by decide +kernel
theorem dX10_reach_101 : decode cX10_reach 101 = .ok (.sipush 256, 3) := by decide +kernel
theorem dX10_reach_104 : decode cX10_reach 104 = .ok (.irem, 1) := by decide +kernel
theorem dX10_reach_105 : decode cX10_reach 105 = .ok (.istore 5, 2) := by decide +kernel
theorem dX10_reach_107 : decode cX10_reach 107 = .ok (.iload 4, 2) := by decide +kernel
theorem dX10_reach_109 : decode cX10_reach 109 = .ok (.iconst 3, 1) := by decide +kernel
theorem dX10_reach_110 : decode cX10_reach 110 = .ok (.if_icmp .eq 10, 3) := by decide +kernel
theorem dX10_reach_113 : decode cX10_reach 113 = .ok (.iload 4, 2) := by decide +kernel
theorem dX10_reach_115 : decode cX10_reach 115 = .ok (.bipush 27, 2) := by decide +kernel
theorem dX10_reach_117 : decode cX10_reach 117 = .ok (.if_icmp .ne 18, 3) := by decide +kernel
theorem dX10_reach_120 : decode cX10_reach 120 = .ok (.aload_n 0, 1) := by decide +kernel
theorem dX10_reach_121 : decode cX10_reach 121 = .ok (.getfield 7, 3) := by decide +kernel
theorem dX10_reach_124 : decode cX10_reach 124 = .ok (.iload_n 3, 1) := by decide +kernel
theorem dX10_reach_125 : decode cX10_reach 125 = .ok (.iaload, 1) := by decide +kernel
theorem dX10_reach_126 : decode cX10_reach 126 = .ok (.iconst 1, 1) := by decide +kernel
theorem dX10_reach_127 : decode cX10_reach 127 = .ok (.ishr, 1) := by decide +kernel
theorem dX10_reach_128 : decode cX10_reach 128 = .ok (.sipush 255, 3) := by decide +kernel
theorem dX10_reach_131 : decode cX10_reach 131 = .ok (.iand, 1) := by decide +kernel
theorem dX10_reach_132 : decode cX10_reach 132 = .ok (.goto 5, 3) := by decide +kernel
theorem dX10_reach_135 : decode cX10_reach 135 = .ok (.iload 5, 2) := by decide +kernel
theorem dX10_reach_137 : decode cX10_reach 137 = .ok (.istore 6, 2) := by decide +kernel
theorem dX10_reach_139 : decode cX10_reach 139 = .ok (.iload_n 2, 1) := by decide +kernel
theorem dX10_reach_140 : decode cX10_reach 140 = .ok (.ifCond .ne 23, 3) := by decide +kernel
theorem dX10_reach_143 : decode cX10_reach 143 = .ok (.aload_n 0, 1) := by decide +kernel
theorem dX10_reach_144 : decode cX10_reach 144 = .ok (.getfield 82, 3) := by decide +kernel
theorem dX10_reach_147 : decode cX10_reach 147 = .ok (.iload 5, 2) := by decide +kernel
theorem dX10_reach_149 : decode cX10_reach 149 = .ok (.baload, 1) := by decide +kernel
theorem dX10_reach_150 : decode cX10_reach 150 = .ok (.ifCond .eq 13, 3) := by decide +kernel
theorem dX10_reach_153 : decode cX10_reach 153 = .ok (.aload_n 0, 1) := by decide +kernel
theorem dX10_reach_154 : decode cX10_reach 154 = .ok (.getfield 82, 3) := by decide +kernel
theorem dX10_reach_157 : decode cX10_reach 157 = .ok (.iload 6, 2) := by decide +kernel
theorem dX10_reach_159 : decode cX10_reach 159 = .ok (.baload, 1) := by decide +kernel
theorem dX10_reach_160 : decode cX10_reach 160 = .ok (.ifCond .ne 7, 3) := by decide +kernel
theorem dX10_reach_163 : decode cX10_reach 163 = .ok (.iconst 1, 1) := by decide +kernel
theorem dX10_reach_164 : decode cX10_reach 164 = .ok (.goto 4, 3) := by decide +kernel
theorem dX10_reach_167 : decode cX10_reach 167 = .ok (.iconst 0, 1) := by decide +kernel
theorem dX10_reach_168 : decode cX10_reach 168 = .ok (.istore_n 2, 1) := by decide +kernel
theorem dX10_reach_169 : decode cX10_reach 169 = .ok (.aload_n 0, 1) := by decide +kernel
theorem dX10_reach_170 : decode cX10_reach 170 = .ok (.getfield 82, 3) := by decide +kernel
theorem dX10_reach_173 : decode cX10_reach 173 = .ok (.iload 5, 2) := by decide +kernel
theorem dX10_reach_175 : decode cX10_reach 175 = .ok (.iconst 1, 1) := by decide +kernel
theorem dX10_reach_176 : decode cX10_reach 176 = .ok (.bastore, 1) := by decide +kernel
theorem dX10_reach_177 : decode cX10_reach 177 = .ok (.aload_n 0, 1) := by decide +kernel
theorem dX10_reach_178 : decode cX10_reach 178 = .ok (.getfield 82, 3) := by decide +kernel
theorem dX10_reach_181 : decode cX10_reach 181 = .ok (.iload 6, 2) := by decide +kernel
theorem dX10_reach_183 : decode cX10_reach 183 = .ok (.iconst 1, 1) := by decide +kernel
theorem dX10_reach_184 : decode cX10_reach 184 = .ok (.bastore, 1) := by decide +kernel
theorem dX10_reach_185 : decode cX10_reach 185 = .ok (.iinc 3 1, 3) := by decide +kernel
theorem dX10_reach_188 : decode cX10_reach 188 = .ok (.goto (-132), 3) := by decide +kernel
theorem dX10_reach_191 : decode cX10_reach 191 = .ok (.goto (-143), 3) := by decide +kernel
theorem dX10_reach_194 : decode cX10_reach 194 = .ok (.iconst 0, 1) := by decide +kernel
theorem dX10_reach_195 : decode cX10_reach 195 = .ok (.istore_n 3, 1) := by decide +kernel
theorem dX10_reach_196 : decode cX10_reach 196 = .ok (.iconst 0, 1) := by decide +kernel
theorem dX10_reach_197 : decode cX10_reach 197 = .ok (.istore 4, 2) := by decide +kernel
theorem dX10_reach_199 : decode cX10_reach 199 = .ok (.iload 4, 2) := by decide +kernel
theorem dX10_reach_201 : decode cX10_reach 201 = .ok (.sipush 256, 3) := by decide +kernel
theorem dX10_reach_204 : decode cX10_reach 204 = .ok (.if_icmp .ge 27, 3) := by decide +kernel
theorem dX10_reach_207 : decode cX10_reach 207 = .ok (.iload_n 3, 1) := by decide +kernel
theorem dX10_reach_208 : decode cX10_reach 208 = .ok (.aload_n 0, 1) := by decide +kernel
theorem dX10_reach_209 : decode cX10_reach 209 = .ok (.getfield 82, 3) := by decide +kernel
theorem dX10_reach_212 : decode cX10_reach 212 = .ok (.iload 4, 2) := by decide +kernel
theorem dX10_reach_214 : decode cX10_reach 214 = .ok (.baload, 1) := by decide +kernel
theorem dX10_reach_215 : decode cX10_reach 215 = .ok (.ifCond .eq 7, 3) := by decide +kernel
theorem dX10_reach_218 : decode cX10_reach 218 = .ok (.iconst 1, 1) := by decide +kernel
theorem dX10_reach_219 : decode cX10_reach 219 = .ok (.goto 4, 3) := by decide +kernel
theorem dX10_reach_222 : decode cX10_reach 222 = .ok (.iconst 0, 1) := by decide +kernel
theorem dX10_reach_223 : decode cX10_reach 223 = .ok (.iadd, 1) := by decide +kernel
theorem dX10_reach_224 : decode cX10_reach 224 = .ok (.istore_n 3, 1) := by decide +kernel
theorem dX10_reach_225 : decode cX10_reach 225 = .ok (.iinc 4 1, 3) := by decide +kernel
theorem dX10_reach_228 : decode cX10_reach 228 = .ok (.goto (-29), 3) := by decide +kernel
theorem dX10_reach_231 : decode cX10_reach 231 = .ok (.iload_n 3, 1) := by decide +kernel
theorem dX10_reach_232 : decode cX10_reach 232 = .ok (.ireturn, 1) := by decide +kernel
set_option maxRecDepth 20000 in
theorem ggX10_reached_X10_isAddress : GoodIn wsX10_reached wsX10_isAddress := goodIn_r _ [5, 6, 7, 8, 4, 9] (by decide +kernel) (by decide +kernel)
set_option maxRecDepth 20000 in
theorem gX10_reached_X10_isAddress : GoodIn wsX10_reached (va_wsS RX10 108 yX10_isAddress wsX10_isAddress) := goodIn_app (goodIn_of _ (by decide +kernel)) ggX10_reached_X10_isAddress
