theorem dX10_act_20 : decode cX10_act 20 = .ok (.iconst 1, 1) := by decide +kernel
theorem dX10_act_21 : decode cX10_act 21 = .ok (.goto 4, 3) := by decide +kernel
theorem dX10_act_24 : decode cX10_act 24 = .ok (.iconst 0, 1) := by decide +kernel
theorem dX10_act_25 : decode cX10_act 25 = .ok (.istore 4, 2) := by decide +kernel
theorem dX10_act_27 : decode cX10_act 27 = .ok (.iload 4, 2) := by decide +kernel
theorem dX10_act_29 : decode cX10_act 29 = .ok (.ifCond .eq 13, 3) := by decide +kernel
theorem dX10_act_32 : decode cX10_act 32 = .ok (.iload_n 3, 1) := by decide +kernel
theorem dX10_act_33 : decode cX10_act 33 = .ok (.sipush 254, 3) := by decide +kernel
theorem dX10_act_36 : decode cX10_act 36 = .ok (.iand, 1) := by decide +kernel
theorem dX10_act_37 : decode cX10_act 37 = .ok (.iconst 1, 1) := by decide +kernel
theorem dX10_act_38 : decode cX10_act 38 = .ok (.iadd, 1) := by decide +kernel
theorem dX10_act_39 : decode cX10_act 39 = .ok (.goto 4, 3) := by decide +kernel
theorem dX10_act_42 : decode cX10_act 42 = .ok (.iload_n 3, 1) := by decide +kernel
theorem dX10_act_43 : decode cX10_act 43 = .ok (.istore 5, 2) := by decide +kernel
theorem dX10_act_45 : decode cX10_act 45 = .ok (.aload_n 0, 1) := by decide +kernel
theorem dX10_act_46 : decode cX10_act 46 = .ok (.iload_n 2, 1) := by decide +kernel
theorem dX10_act_47 : decode cX10_act 47 = .ok (.iload_n 3, 1) := by decide +kernel
theorem dX10_act_48 : decode cX10_act 48 = .ok (.invokevirtual 202, 3) := by decide +kernel
theorem dX10_act_51 : decode cX10_act 51 = .ok (.aload_n 0, 1) := by decide +kernel
theorem dX10_act_52 : decode cX10_act 52 = .ok (.getfield 26, 3) := by decide +kernel
theorem dX10_act_55 : decode cX10_act 55 = .ok (.iload_n 2, 1) := by decide +kernel
theorem dX10_act_56 : decode cX10_act 56 = .ok (.dup2, 1) := by decide +kernel
theorem dX10_act_57 : decode cX10_act 57 = .ok (.iaload, 1) := by decide +kernel
theorem dX10_act_58 : decode cX10_act 58 = .ok (.iconst 1, 1) := by decide +kernel
theorem dX10_act_59 : decode cX10_act 59 = .ok (.iadd, 1) := by decide +kernel
theorem dX10_act_60 : decode cX10_act 60 = .ok (.iastore, 1) := by decide +kernel
theorem dX10_act_61 : decode cX10_act 61 = .ok (.aload_n 0, 1) := by decide +kernel
theorem dX10_act_62 : decode cX10_act 62 = .ok (.aload_n 0, 1) := by decide +kernel
theorem dX10_act_63 : decode cX10_act 63 = .ok (.getfield 163, 3) := by decide +kernel
theorem dX10_act_66 : decode cX10_act 66 = .ok (.iconst 1, 1) := by decide +kernel
theorem dX10_act_67 : decode cX10_act 67 = .ok (.iadd, 1) := by decide +kernel
theorem dX10_act_68 : decode cX10_act 68 = .ok (.sipush 256, 3) := by decide +kernel
theorem dX10_act_71 : decode cX10_act 71 = .ok (.irem, 1) := by decide +kernel
theorem dX10_act_72 : decode cX10_act 72 = .ok (.putfield 163, 3) := by decide +kernel
theorem dX10_act_75 : decode cX10_act 75 = .ok (.iload_n 2, 1) := by decide +kernel
theorem dX10_act_76 : decode cX10_act 76 = .ok (.tableswitch 472 3 31 #[304, 286, 209, 461, 209, 352, 403, 472, 472, 147, 472, 472, 472, 472, 420, 472, 472, 472, 163, 192, 472, 472, 295, 472, 328, 132, 472, 266, 177], 132) := by decide +kernel
theorem dX10_act_208 : decode cX10_act 208 = .ok (.aload_n 0, 1) := by decide +kernel
theorem dX10_act_209 : decode cX10_act 209 = .ok (.aload_n 0, 1) := by decide +kernel
theorem dX10_act_210 : decode cX10_act 210 = .ok (.iload_n 3, 1) := by decide +kernel
theorem dX10_act_211 : decode cX10_act 211 = .ok (.iload 4, 2) := by decide +kernel
theorem dX10_act_213 : decode cX10_act 213 = .ok (.invokevirtual 206, 3) := by decide +kernel
theorem dX10_act_216 : decode cX10_act 216 = .ok (.lconst 0, 1) := by decide +kernel
theorem dX10_act_217 : decode cX10_act 217 = .ok (.invokevirtual 178, 3) := by decide +kernel
theorem dX10_act_220 : decode cX10_act 220 = .ok (.goto 328, 3) := by decide +kernel
theorem dX10_act_223 : decode cX10_act 223 = .ok (.aload_n 0, 1) := by decide +kernel
theorem dX10_act_224 : decode cX10_act 224 = .ok (.aload_n 0, 1) := by decide +kernel
theorem dX10_act_225 : decode cX10_act 225 = .ok (.iload_n 3, 1) := by decide +kernel
theorem dX10_act_226 : decode cX10_act 226 = .ok (.iload 4, 2) := by decide +kernel
theorem dX10_act_228 : decode cX10_act 228 = .ok (.invokevirtual 206, 3) := by decide +kernel
theorem dX10_act_231 : decode cX10_act 231 = .ok (.lneg, 1) := by decide +kernel
theorem dX10_act_232 : decode cX10_act 232 = .ok (.lconst 0, 1) := by decide +kernel
theorem dX10_act_233 : decode cX10_act 233 = .ok (.invokevirtual 178, 3) := by decide +kernel
theorem dX10_act_236 : decode cX10_act 236 = .ok (.goto 312, 3) := by decide +kernel
theorem dX10_act_239 : decode cX10_act 239 = .ok (.aload_n 0, 1) := by decide +kernel
theorem dX10_act_240 : decode cX10_act 240 = .ok (.aload_n 0, 1) := by decide +kernel
theorem dX10_act_241 : decode cX10_act 241 = .ok (.iload_n 3, 1) := by decide +kernel
theorem dX10_act_242 : decode cX10_act 242 = .ok (.iload 4, 2) := by decide +kernel
theorem dX10_act_244 : decode cX10_act 244 = .ok (.invokevirtual 206, 3) := by decide +kernel
theorem dX10_act_247 : decode cX10_act 247 = .ok (.putfield 148, 3) := by decide +kernel
theorem dX10_act_250 : decode cX10_act 250 = .ok (.goto 298, 3) := by decide +kernel
theorem dX10_act_253 : decode cX10_act 253 = .ok (.aload_n 0, 1) := by decide +kernel
theorem dX10_act_254 : decode cX10_act 254 = .ok (.aload_n 0, 1) := by decide +kernel
theorem dX10_act_255 : decode cX10_act 255 = .ok (.iload_n 3, 1) := by decide +kernel
theorem dX10_act_256 : decode cX10_act 256 = .ok (.iload 4, 2) := by decide +kernel
theorem dX10_act_258 : decode cX10_act 258 = .ok (.invokevirtual 206, 3) := by decide +kernel
theorem dX10_act_261 : decode cX10_act 261 = .ok (.lconst 1, 1) := by decide +kernel
theorem dX10_act_262 : decode cX10_act 262 = .ok (.invokevirtual 210, 3) := by decide +kernel
theorem dX10_act_265 : decode cX10_act 265 = .ok (.goto 283, 3) := by decide +kernel
theorem dX10_act_268 : decode cX10_act 268 = .ok (.aload_n 0, 1) := by decide +kernel
theorem dX10_act_269 : decode cX10_act 269 = .ok (.aload_n 0, 1) := by decide +kernel
theorem dX10_act_270 : decode cX10_act 270 = .ok (.iload_n 3, 1) := by decide +kernel
theorem dX10_act_271 : decode cX10_act 271 = .ok (.iload 4, 2) := by decide +kernel
theorem dX10_act_273 : decode cX10_act 273 = .ok (.invokevirtual 206, 3) := by decide +kernel
theorem dX10_act_276 : decode cX10_act 276 = .ok (.ldc2_w 213, 3) := by decide +kernel
theorem dX10_act_279 : decode cX10_act 279 = .ok (.invokevirtual 210, 3) := by decide +kernel
theorem dX10_act_282 : decode cX10_act 282 = .ok (.goto 266, 3) := by decide +kernel
theorem dX10_act_285 : decode cX10_act 285 = .ok (.iload 4, 2) := by decide +kernel
theorem dX10_act_287 : decode cX10_act 287 = .ok (.ifCond .eq 19, 3) := by decide +kernel
theorem dX10_act_290 : decode cX10_act 290 = .ok (.aload_n 0, 1) := by decide +kernel
theorem dX10_act_291 : decode cX10_act 291 = .ok (.iload_n 3, 1) := by decide +kernel
theorem dX10_act_292 : decode cX10_act 292 = .ok (.aload_n 0, 1) := by decide +kernel
theorem dX10_act_293 : decode cX10_act 293 = .ok (.getfield 135, 3) := by decide +kernel
theorem dX10_act_296 : decode cX10_act 296 = .ok (.ldc2_w 115, 3) := by decide +kernel
theorem dX10_act_299 : decode cX10_act 299 = .ok (.land, 1) := by decide +kernel
theorem dX10_act_300 : decode cX10_act 300 = .ok (.invokevirtual 117, 3) := by decide +kernel
theorem dX10_act_303 : decode cX10_act 303 = .ok (.goto 21, 3) := by decide +kernel
theorem dX10_act_306 : decode cX10_act 306 = .ok (.aload_n 0, 1) := by decide +kernel
theorem dX10_act_307 : decode cX10_act 307 = .ok (.getfield 7, 3) := by decide +kernel
theorem dX10_act_310 : decode cX10_act 310 = .ok (.iload_n 3, 1) := by decide +kernel
theorem dX10_act_311 : decode cX10_act 311 = .ok (.aload_n 0, 1) := by decide +kernel
theorem dX10_act_312 : decode cX10_act 312 = .ok (.getfield 135, 3) := by decide +kernel
theorem dX10_act_315 : decode cX10_act 315 = .ok (.bipush 18, 2) := by decide +kernel
theorem dX10_act_317 : decode cX10_act 317 = .ok (.lshr, 1) := by decide +kernel
theorem dX10_act_318 : decode cX10_act 318 = .ok (.ldc2_w 106, 3) := by decide +kernel
theorem dX10_act_321 : decode cX10_act 321 = .ok (.land, 1) := by decide +kernel
theorem dX10_act_322 : decode cX10_act 322 = .ok (.l2i, 1) := by decide +kernel
theorem dX10_act_323 : decode cX10_act 323 = .ok (.iastore, 1) := by decide +kernel
theorem dX10_act_324 : decode cX10_act 324 = .ok (.iload_n 2, 1) := by decide +kernel
theorem dX10_act_325 : decode cX10_act 325 = .ok (.iconst 5, 1) := by decide +kernel
theorem dX10_act_326 : decode cX10_act 326 = .ok (.if_icmp .ne 222, 3) := by decide +kernel
theorem dX10_act_329 : decode cX10_act 329 = .ok (.aload_n 0, 1) := by decide +kernel
theorem dX10_act_330 : decode cX10_act 330 = .ok (.lconst 0, 1) := by decide +kernel
theorem dX10_act_331 : decode cX10_act 331 = .ok (.putfield 135, 3) := by decide +kernel
theorem dX10_act_334 : decode cX10_act 334 = .ok (.aload_n 0, 1) := by decide +kernel
theorem dX10_act_335 : decode cX10_act 335 = .ok (.lconst 0, 1) := by decide +kernel
theorem dX10_act_336 : decode cX10_act 336 = .ok (.putfield 139, 3) := by decide +kernel
theorem dX10_act_339 : decode cX10_act 339 = .ok (.goto 209, 3) := by decide +kernel
theorem dX10_act_342 : decode cX10_act 342 = .ok (.aload_n 0, 1) := by decide +kernel
theorem dX10_act_343 : decode cX10_act 343 = .ok (.aload_n 0, 1) := by decide +kernel
theorem dX10_act_344 : decode cX10_act 344 = .ok (.getfield 148, 3) := by decide +kernel
theorem dX10_act_347 : decode cX10_act 347 = .ok (.aload_n 0, 1) := by decide +kernel
theorem dX10_act_348 : decode cX10_act 348 = .ok (.iload_n 3, 1) := by decide +kernel
theorem dX10_act_349 : decode cX10_act 349 = .ok (.iload 4, 2) := by decide +kernel
theorem dX10_act_351 : decode cX10_act 351 = .ok (.invokevirtual 206, 3) := by decide +kernel
theorem dX10_act_354 : decode cX10_act 354 = .ok (.land, 1) := by decide +kernel
theorem dX10_act_355 : decode cX10_act 355 = .ok (.lconst 0, 1) := by decide +kernel
theorem dX10_act_356 : decode cX10_act 356 = .ok (.invokevirtual 178, 3) := by decide +kernel
theorem dX10_act_359 : decode cX10_act 359 = .ok (.goto 189, 3) := by decide +kernel
theorem dX10_act_362 : decode cX10_act 362 = .ok (.aload_n 0, 1) := by decide +kernel
theorem dX10_act_363 : decode cX10_act 363 = .ok (.iload_n 1, 1) := by decide +kernel
theorem dX10_act_364 : decode cX10_act 364 = .ok (.iconst 0, 1) := by decide +kernel
theorem dX10_act_365 : decode cX10_act 365 = .ok (.invokevirtual 215, 3) := by decide +kernel
theorem dX10_act_368 : decode cX10_act 368 = .ok (.goto 180, 3) := by decide +kernel
theorem dX10_act_371 : decode cX10_act 371 = .ok (.aload_n 0, 1) := by decide +kernel
theorem dX10_act_372 : decode cX10_act 372 = .ok (.iload_n 1, 1) := by decide +kernel
theorem dX10_act_373 : decode cX10_act 373 = .ok (.iconst 1, 1) := by decide +kernel
theorem dX10_act_374 : decode cX10_act 374 = .ok (.invokevirtual 215, 3) := by decide +kernel
theorem dX10_act_377 : decode cX10_act 377 = .ok (.goto 171, 3) := by decide +kernel
theorem dX10_act_380 : decode cX10_act 380 = .ok (.aload_n 0, 1) := by decide +kernel
theorem dX10_act_381 : decode cX10_act 381 = .ok (.aload_n 0, 1) := by decide +kernel
theorem dX10_act_382 : decode cX10_act 382 = .ok (.getfield 135, 3) := by decide +kernel
theorem dX10_act_385 : decode cX10_act 385 = .ok (.lconst 0, 1) := by decide +kernel
theorem dX10_act_386 : decode cX10_act 386 = .ok (.lcmp, 1) := by decide +kernel
theorem dX10_act_387 : decode cX10_act 387 = .ok (.ifCond .lt 7, 3) := by decide +kernel
theorem dX10_act_390 : decode cX10_act 390 = .ok (.iload_n 3, 1) := by decide +kernel
theorem dX10_act_391 : decode cX10_act 391 = .ok (.goto 7, 3) := by decide +kernel
theorem dX10_act_394 : decode cX10_act 394 = .ok (.aload_n 0, 1) := by decide +kernel
theorem dX10_act_395 : decode cX10_act 395 = .ok (.getfield 163, 3) := by decide +kernel
theorem dX10_act_398 : decode cX10_act 398 = .ok (.putfield 163, 3) := by decide +kernel
theorem dX10_act_401 : decode cX10_act 401 = .ok (.goto 147, 3) := by decide +kernel
theorem dX10_act_404 : decode cX10_act 404 = .ok (.aload_n 0, 1) := by decide +kernel
theorem dX10_act_405 : decode cX10_act 405 = .ok (.aload_n 0, 1) := by decide +kernel
theorem dX10_act_406 : decode cX10_act 406 = .ok (.getfield 135, 3) := by decide +kernel
theorem dX10_act_409 : decode cX10_act 409 = .ok (.lconst 0, 1) := by decide +kernel
theorem dX10_act_410 : decode cX10_act 410 = .ok (.lcmp, 1) := by decide +kernel
theorem dX10_act_411 : decode cX10_act 411 = .ok (.ifCond .ge 7, 3) := by decide +kernel
theorem dX10_act_414 : decode cX10_act 414 = .ok (.iload_n 3, 1) := by decide +kernel
theorem dX10_act_415 : decode cX10_act 415 = .ok (.goto 7, 3) := by decide +kernel
theorem dX10_act_418 : decode cX10_act 418 = .ok (.aload_n 0, 1) := by decide +kernel
theorem dX10_act_419 : decode cX10_act 419 = .ok (.getfield 163, 3) := by decide +kernel
theorem dX10_act_422 : decode cX10_act 422 = .ok (.putfield 163, 3) := by decide +kernel
theorem dX10_act_425 : decode cX10_act 425 = .ok (.goto 123, 3) := by decide +kernel
theorem dX10_act_428 : decode cX10_act 428 = .ok (.iload 4, 2) := by decide +kernel
theorem dX10_act_430 : decode cX10_act 430 = .ok (.ifCond .eq 21, 3) := by decide +kernel
theorem dX10_act_433 : decode cX10_act 433 = .ok (.aload_n 0, 1) := by decide +kernel
theorem dX10_act_434 : decode cX10_act 434 = .ok (.iload_n 3, 1) := by decide +kernel
theorem dX10_act_435 : decode cX10_act 435 = .ok (.aload_n 0, 1) := by decide +kernel
theorem dX10_act_436 : decode cX10_act 436 = .ok (.getfield 16, 3) := by decide +kernel
theorem dX10_act_439 : decode cX10_act 439 = .ok (.aload_n 0, 1) := by decide +kernel
theorem dX10_act_440 : decode cX10_act 440 = .ok (.getfield 156, 3) := by decide +kernel
theorem dX10_act_443 : decode cX10_act 443 = .ok (.iaload, 1) := by decide +kernel
theorem dX10_act_444 : decode cX10_act 444 = .ok (.i2l, 1) := by decide +kernel
theorem dX10_act_445 : decode cX10_act 445 = .ok (.invokevirtual 117, 3) := by decide +kernel
theorem dX10_act_448 : decode cX10_act 448 = .ok (.goto 18, 3) := by decide +kernel
theorem dX10_act_451 : decode cX10_act 451 = .ok (.aload_n 0, 1) := by decide +kernel
theorem dX10_act_452 : decode cX10_act 452 = .ok (.getfield 7, 3) := by decide +kernel
theorem dX10_act_455 : decode cX10_act 455 = .ok (.iload_n 3, 1) := by decide +kernel
theorem dX10_act_456 : decode cX10_act 456 = .ok (.aload_n 0, 1) := by decide +kernel
theorem dX10_act_457 : decode cX10_act 457 = .ok (.getfield 16, 3) := by decide +kernel
theorem dX10_act_460 : decode cX10_act 460 = .ok (.aload_n 0, 1) := by decide +kernel
