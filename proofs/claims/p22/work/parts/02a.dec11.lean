theorem dX7_isSame_263 : decode cX7_isSame 263 = .ok (.iload 5, 2) := by decide +kernel
theorem dX7_isSame_265 : decode cX7_isSame 265 = .ok (.iaload, 1) := by decide +kernel
theorem dX7_isSame_266 : decode cX7_isSame 266 = .ok (.iastore, 1) := by decide +kernel
theorem dX7_isSame_267 : decode cX7_isSame 267 = .ok (.dup, 1) := by decide +kernel
theorem dX7_isSame_268 : decode cX7_isSame 268 = .ok (.iconst 2, 1) := by decide +kernel
theorem dX7_isSame_269 : decode cX7_isSame 269 = .ok (.aload_n 0, 1) := by decide +kernel
theorem dX7_isSame_270 : decode cX7_isSame 270 = .ok (.getfield 26, 3) := by decide +kernel
theorem dX7_isSame_273 : decode cX7_isSame 273 = .ok (.iload 5, 2) := by decide +kernel
theorem dX7_isSame_275 : decode cX7_isSame 275 = .ok (.aaload, 1) := by decide +kernel
theorem dX7_isSame_276 : decode cX7_isSame 276 = .ok (.arraylength, 1) := by decide +kernel
theorem dX7_isSame_277 : decode cX7_isSame 277 = .ok (.iastore, 1) := by decide +kernel
theorem dX7_isSame_278 : decode cX7_isSame 278 = .ok (.dup, 1) := by decide +kernel
theorem dX7_isSame_279 : decode cX7_isSame 279 = .ok (.iconst 3, 1) := by decide +kernel
theorem dX7_isSame_280 : decode cX7_isSame 280 = .ok (.aload_n 0, 1) := by decide +kernel
theorem dX7_isSame_281 : decode cX7_isSame 281 = .ok (.getfield 22, 3) := by decide +kernel
theorem dX7_isSame_284 : decode cX7_isSame 284 = .ok (.iload 5, 2) := by decide +kernel
theorem dX7_isSame_286 : decode cX7_isSame 286 = .ok (.aaload, 1) := by decide +kernel
theorem dX7_isSame_287 : decode cX7_isSame 287 = .ok (.arraylength, 1) := by decide +kernel
theorem dX7_isSame_288 : decode cX7_isSame 288 = .ok (.iastore, 1) := by decide +kernel
theorem dX7_isSame_289 : decode cX7_isSame 289 = .ok (.dup, 1) := by decide +kernel
theorem dX7_isSame_290 : decode cX7_isSame 290 = .ok (.iconst 4, 1) := by decide +kernel
theorem dX7_isSame_291 : decode cX7_isSame 291 = .ok (.aload_n 0, 1) := by decide +kernel
theorem dX7_isSame_292 : decode cX7_isSame 292 = .ok (.getfield 32, 3) := by decide +kernel
theorem dX7_isSame_295 : decode cX7_isSame 295 = .ok (.iload 5, 2) := by decide +kernel
theorem dX7_isSame_297 : decode cX7_isSame 297 = .ok (.iaload, 1) := by decide +kernel
theorem dX7_isSame_298 : decode cX7_isSame 298 = .ok (.iastore, 1) := by decide +kernel
theorem dX7_isSame_299 : decode cX7_isSame 299 = .ok (.dup, 1) := by decide +kernel
theorem dX7_isSame_300 : decode cX7_isSame 300 = .ok (.iconst 5, 1) := by decide +kernel
theorem dX7_isSame_301 : decode cX7_isSame 301 = .ok (.aload_n 0, 1) := by decide +kernel
theorem dX7_isSame_302 : decode cX7_isSame 302 = .ok (.getfield 35, 3) := by decide +kernel
theorem dX7_isSame_305 : decode cX7_isSame 305 = .ok (.iload 5, 2) := by decide +kernel
theorem dX7_isSame_307 : decode cX7_isSame 307 = .ok (.iaload, 1) := by decide +kernel
theorem dX7_isSame_308 : decode cX7_isSame 308 = .ok (.iastore, 1) := by decide +kernel
theorem dX7_isSame_309 : decode cX7_isSame 309 = .ok (.dup, 1) := by decide +kernel
theorem dX7_isSame_310 : decode cX7_isSame 310 = .ok (.bipush 6, 2) := by decide +kernel
theorem dX7_isSame_312 : decode cX7_isSame 312 = .ok (.iload 6, 2) := by decide +kernel
theorem dX7_isSame_314 : decode cX7_isSame 314 = .ok (.iastore, 1) := by decide +kernel
theorem dX7_isSame_315 : decode cX7_isSame 315 = .ok (.astore 7, 2) := by decide +kernel
theorem dX7_isSame_317 : decode cX7_isSame 317 = .ok (.iconst 0, 1) := by decide +kernel
theorem dX7_isSame_318 : decode cX7_isSame 318 = .ok (.istore 8, 2) := by decide +kernel
theorem dX7_isSame_320 : decode cX7_isSame 320 = .ok (.iload 8, 2) := by decide +kernel
theorem dX7_isSame_322 : decode cX7_isSame 322 = .ok (.bipush 7, 2) := by decide +kernel
theorem dX7_isSame_324 : decode cX7_isSame 324 = .ok (.if_icmp .ge 27, 3) := by decide +kernel
theorem dX7_isSame_327 : decode cX7_isSame 327 = .ok (.aload_n 1, 1) := by decide +kernel
theorem dX7_isSame_328 : decode cX7_isSame 328 = .ok (.iload 5, 2) := by decide +kernel
theorem dX7_isSame_330 : decode cX7_isSame 330 = .ok (.iload 8, 2) := by decide +kernel
theorem dX7_isSame_332 : decode cX7_isSame 332 = .ok (.invokevirtual 109, 3) := by decide +kernel
theorem dX7_isSame_335 : decode cX7_isSame 335 = .ok (.aload 7, 2) := by decide +kernel
theorem dX7_isSame_337 : decode cX7_isSame 337 = .ok (.iload 8, 2) := by decide +kernel
theorem dX7_isSame_339 : decode cX7_isSame 339 = .ok (.iaload, 1) := by decide +kernel
theorem dX7_isSame_340 : decode cX7_isSame 340 = .ok (.if_icmp .eq 5, 3) := by decide +kernel
theorem dX7_isSame_343 : decode cX7_isSame 343 = .ok (.iconst 0, 1) := by decide +kernel
theorem dX7_isSame_344 : decode cX7_isSame 344 = .ok (.ireturn, 1) := by decide +kernel
theorem dX7_isSame_345 : decode cX7_isSame 345 = .ok (.iinc 8 1, 3) := by decide +kernel
theorem dX7_isSame_348 : decode cX7_isSame 348 = .ok (.goto (-28), 3) := by decide +kernel
theorem dX7_isSame_351 : decode cX7_isSame 351 = .ok (.iconst 0, 1) := by decide +kernel
theorem dX7_isSame_352 : decode cX7_isSame 352 = .ok (.istore 8, 2) := by decide +kernel
theorem dX7_isSame_354 : decode cX7_isSame 354 = .ok (.iload 8, 2) := by decide +kernel
theorem dX7_isSame_356 : decode cX7_isSame 356 = .ok (.aload_n 0, 1) := by decide +kernel
theorem dX7_isSame_357 : decode cX7_isSame 357 = .ok (.getfield 22, 3) := by decide +kernel
theorem dX7_isSame_360 : decode cX7_isSame 360 = .ok (.iload 5, 2) := by decide +kernel
theorem dX7_isSame_362 : decode cX7_isSame 362 = .ok (.aaload, 1) := by decide +kernel
theorem dX7_isSame_363 : decode cX7_isSame 363 = .ok (.arraylength, 1) := by decide +kernel
theorem dX7_isSame_364 : decode cX7_isSame 364 = .ok (.if_icmp .ge 124, 3) := by decide +kernel
theorem dX7_isSame_367 : decode cX7_isSame 367 = .ok (.aload_n 0, 1) := by decide +kernel
theorem dX7_isSame_368 : decode cX7_isSame 368 = .ok (.getfield 22, 3) := by decide +kernel
theorem dX7_isSame_371 : decode cX7_isSame 371 = .ok (.iload 5, 2) := by decide +kernel
theorem dX7_isSame_373 : decode cX7_isSame 373 = .ok (.aaload, 1) := by decide +kernel
theorem dX7_isSame_374 : decode cX7_isSame 374 = .ok (.iload 8, 2) := by decide +kernel
theorem dX7_isSame_376 : decode cX7_isSame 376 = .ok (.aaload, 1) := by decide +kernel
theorem dX7_isSame_377 : decode cX7_isSame 377 = .ok (.astore 9, 2) := by decide +kernel
theorem dX7_isSame_379 : decode cX7_isSame 379 = .ok (.iconst 4, 1) := by decide +kernel
theorem dX7_isSame_380 : decode cX7_isSame 380 = .ok (.newarray .int, 2) := by decide +kernel
theorem dX7_isSame_382 : decode cX7_isSame 382 = .ok (.dup, 1) := by decide +kernel
theorem dX7_isSame_383 : decode cX7_isSame 383 = .ok (.iconst 0, 1) := by decide +kernel
theorem dX7_isSame_384 : decode cX7_isSame 384 = .ok (.aload 9, 2) := by decide +kernel
theorem dX7_isSame_386 : decode cX7_isSame 386 = .ok (.iconst 0, 1) := by decide +kernel
theorem dX7_isSame_387 : decode cX7_isSame 387 = .ok (.iaload, 1) := by decide +kernel
theorem dX7_isSame_388 : decode cX7_isSame 388 = .ok (.iastore, 1) := by decide +kernel
theorem dX7_isSame_389 : decode cX7_isSame 389 = .ok (.dup, 1) := by decide +kernel
theorem dX7_isSame_390 : decode cX7_isSame 390 = .ok (.iconst 1, 1) := by decide +kernel
theorem dX7_isSame_391 : decode cX7_isSame 391 = .ok (.aload 9, 2) := by decide +kernel
theorem dX7_isSame_393 : decode cX7_isSame 393 = .ok (.iconst 0, 1) := by decide +kernel
theorem dX7_isSame_394 : decode cX7_isSame 394 = .ok (.iaload, 1) := by decide +kernel
theorem dX7_isSame_395 : decode cX7_isSame 395 = .ok (.ifCond .ne 7, 3) := by decide +kernel
theorem dX7_isSame_398 : decode cX7_isSame 398 = .ok (.iconst (-1), 1) := by decide +kernel
theorem dX7_isSame_399 : decode cX7_isSame 399 = .ok (.goto 7, 3) := by decide +kernel
theorem dX7_isSame_402 : decode cX7_isSame 402 = .ok (.aload 9, 2) := by decide +kernel
theorem dX7_isSame_404 : decode cX7_isSame 404 = .ok (.iconst 1, 1) := by decide +kernel
theorem dX7_isSame_405 : decode cX7_isSame 405 = .ok (.iaload, 1) := by decide +kernel
theorem dX7_isSame_406 : decode cX7_isSame 406 = .ok (.iastore, 1) := by decide +kernel
theorem dX7_isSame_407 : decode cX7_isSame 407 = .ok (.dup, 1) := by decide +kernel
theorem dX7_isSame_408 : decode cX7_isSame 408 = .ok (.iconst 2, 1) := by decide +kernel
theorem dX7_isSame_409 : decode cX7_isSame 409 = .ok (.aload 9, 2) := by decide +kernel
theorem dX7_isSame_411 : decode cX7_isSame 411 = .ok (.iconst 0, 1) := by decide +kernel
theorem dX7_isSame_412 : decode cX7_isSame 412 = .ok (.iaload, 1) := by decide +kernel
theorem dX7_isSame_413 : decode cX7_isSame 413 = .ok (.iconst 1, 1) := by decide +kernel
theorem dX7_isSame_414 : decode cX7_isSame 414 = .ok (.if_icmp .ne 10, 3) := by decide +kernel
theorem dX7_isSame_417 : decode cX7_isSame 417 = .ok (.aload 9, 2) := by decide +kernel
theorem dX7_isSame_419 : decode cX7_isSame 419 = .ok (.iconst 3, 1) := by decide +kernel
theorem dX7_isSame_420 : decode cX7_isSame 420 = .ok (.iaload, 1) := by decide +kernel
theorem dX7_isSame_421 : decode cX7_isSame 421 = .ok (.goto 4, 3) := by decide +kernel
theorem dX7_isSame_424 : decode cX7_isSame 424 = .ok (.iconst (-1), 1) := by decide +kernel
theorem dX7_isSame_425 : decode cX7_isSame 425 = .ok (.iastore, 1) := by decide +kernel
theorem dX7_isSame_426 : decode cX7_isSame 426 = .ok (.dup, 1) := by decide +kernel
theorem dX7_isSame_427 : decode cX7_isSame 427 = .ok (.iconst 3, 1) := by decide +kernel
theorem dX7_isSame_428 : decode cX7_isSame 428 = .ok (.aload 9, 2) := by decide +kernel
theorem dX7_isSame_430 : decode cX7_isSame 430 = .ok (.iconst 0, 1) := by decide +kernel
theorem dX7_isSame_431 : decode cX7_isSame 431 = .ok (.iaload, 1) := by decide +kernel
theorem dX7_isSame_432 : decode cX7_isSame 432 = .ok (.iconst 1, 1) := by decide +kernel
theorem dX7_isSame_433 : decode cX7_isSame 433 = .ok (.if_icmp .ne 10, 3) := by decide +kernel
theorem dX7_isSame_436 : decode cX7_isSame 436 = .ok (.aload 9, 2) := by decide +kernel
theorem dX7_isSame_438 : decode cX7_isSame 438 = .ok (.iconst 2, 1) := by decide +kernel
theorem dX7_isSame_439 : decode cX7_isSame 439 = .ok (.iaload, 1) := by decide +kernel
theorem dX7_isSame_440 : decode cX7_isSame 440 = .ok (.goto 4, 3) := by decide +kernel
theorem dX7_isSame_443 : decode cX7_isSame 443 = .ok (.iconst (-1), 1) := by decide +kernel
theorem dX7_isSame_444 : decode cX7_isSame 444 = .ok (.iastore, 1) := by decide +kernel
theorem dX7_isSame_445 : decode cX7_isSame 445 = .ok (.astore 10, 2) := by decide +kernel
theorem dX7_isSame_447 : decode cX7_isSame 447 = .ok (.iconst 0, 1) := by decide +kernel
theorem dX7_isSame_448 : decode cX7_isSame 448 = .ok (.istore 11, 2) := by decide +kernel
theorem dX7_isSame_450 : decode cX7_isSame 450 = .ok (.iload 11, 2) := by decide +kernel
theorem dX7_isSame_452 : decode cX7_isSame 452 = .ok (.iconst 4, 1) := by decide +kernel
theorem dX7_isSame_453 : decode cX7_isSame 453 = .ok (.if_icmp .ge 29, 3) := by decide +kernel
theorem dX7_isSame_456 : decode cX7_isSame 456 = .ok (.aload_n 1, 1) := by decide +kernel
theorem dX7_isSame_457 : decode cX7_isSame 457 = .ok (.iload 5, 2) := by decide +kernel
theorem dX7_isSame_459 : decode cX7_isSame 459 = .ok (.iload 8, 2) := by decide +kernel
theorem dX7_isSame_461 : decode cX7_isSame 461 = .ok (.iload 11, 2) := by decide +kernel
theorem dX7_isSame_463 : decode cX7_isSame 463 = .ok (.invokevirtual 112, 3) := by decide +kernel
theorem dX7_isSame_466 : decode cX7_isSame 466 = .ok (.aload 10, 2) := by decide +kernel
theorem dX7_isSame_468 : decode cX7_isSame 468 = .ok (.iload 11, 2) := by decide +kernel
theorem dX7_isSame_470 : decode cX7_isSame 470 = .ok (.iaload, 1) := by decide +kernel
theorem dX7_isSame_471 : decode cX7_isSame 471 = .ok (.if_icmp .eq 5, 3) := by decide +kernel
theorem dX7_isSame_474 : decode cX7_isSame 474 = .ok (.iconst 0, 1) := by decide +kernel
theorem dX7_isSame_475 : decode cX7_isSame 475 = .ok (.ireturn, 1) := by decide +kernel
theorem dX7_isSame_476 : decode cX7_isSame 476 = .ok (.iinc 11 1, 3) := by decide +kernel
theorem dX7_isSame_479 : decode cX7_isSame 479 = .ok (.goto (-29), 3) := by decide +kernel
theorem dX7_isSame_482 : decode cX7_isSame 482 = .ok (.iinc 8 1, 3) := by decide +kernel
theorem dX7_isSame_485 : decode cX7_isSame 485 = .ok (.goto (-131), 3) := by decide +kernel
theorem dX7_isSame_488 : decode cX7_isSame 488 = .ok (.aload_n 1, 1) := by decide +kernel
theorem dX7_isSame_489 : decode cX7_isSame 489 = .ok (.iload 5, 2) := by decide +kernel
theorem dX7_isSame_491 : decode cX7_isSame 491 = .ok (.invokevirtual 116, 3) := by decide +kernel
theorem dX7_isSame_494 : decode cX7_isSame 494 = .ok (.aload_n 0, 1) := by decide +kernel
theorem dX7_isSame_495 : decode cX7_isSame 495 = .ok (.iload 5, 2) := by decide +kernel
theorem dX7_isSame_497 : decode cX7_isSame 497 = .ok (.invokevirtual 86, 3) := by decide +kernel
theorem dX7_isSame_500 : decode cX7_isSame 500 = .ok (.if_icmp .eq 5, 3) := by decide +kernel
theorem dX7_isSame_503 : decode cX7_isSame 503 = .ok (.iconst 0, 1) := by decide +kernel
theorem dX7_isSame_504 : decode cX7_isSame 504 = .ok (.ireturn, 1) := by decide +kernel
theorem dX7_isSame_505 : decode cX7_isSame 505 = .ok (.iinc 5 1, 3) := by decide +kernel
theorem dX7_isSame_508 : decode cX7_isSame 508 = .ok (.goto (-369), 3) := by decide +kernel
theorem dX7_isSame_511 : decode cX7_isSame 511 = .ok (.bipush 7, 2) := by decide +kernel
