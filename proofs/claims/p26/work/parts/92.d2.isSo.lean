theorem dL_isSo_267 : decode cL_isSo 267 = .ok (.invokevirtual 95, 3) := by decide +kernel
theorem dL_isSo_270 : decode cL_isSo 270 = .ok (.aload_n 2, 1) := by decide +kernel
theorem dL_isSo_271 : decode cL_isSo 271 = .ok (.iload 8, 2) := by decide +kernel
theorem dL_isSo_273 : decode cL_isSo 273 = .ok (.iaload, 1) := by decide +kernel
theorem dL_isSo_274 : decode cL_isSo 274 = .ok (.if_icmp .ne 76, 3) := by decide +kernel
theorem dL_isSo_277 : decode cL_isSo 277 = .ok (.aload_n 0, 1) := by decide +kernel
theorem dL_isSo_278 : decode cL_isSo 278 = .ok (.iload 8, 2) := by decide +kernel
theorem dL_isSo_280 : decode cL_isSo 280 = .ok (.iconst 1, 1) := by decide +kernel
theorem dL_isSo_281 : decode cL_isSo 281 = .ok (.invokevirtual 95, 3) := by decide +kernel
theorem dL_isSo_284 : decode cL_isSo 284 = .ok (.aload_n 2, 1) := by decide +kernel
theorem dL_isSo_285 : decode cL_isSo 285 = .ok (.bipush 12, 2) := by decide +kernel
theorem dL_isSo_287 : decode cL_isSo 287 = .ok (.iload 8, 2) := by decide +kernel
theorem dL_isSo_289 : decode cL_isSo 289 = .ok (.iadd, 1) := by decide +kernel
theorem dL_isSo_290 : decode cL_isSo 290 = .ok (.iaload, 1) := by decide +kernel
theorem dL_isSo_291 : decode cL_isSo 291 = .ok (.if_icmp .ne 59, 3) := by decide +kernel
theorem dL_isSo_294 : decode cL_isSo 294 = .ok (.aload_n 0, 1) := by decide +kernel
theorem dL_isSo_295 : decode cL_isSo 295 = .ok (.iload 8, 2) := by decide +kernel
theorem dL_isSo_297 : decode cL_isSo 297 = .ok (.iconst 2, 1) := by decide +kernel
theorem dL_isSo_298 : decode cL_isSo 298 = .ok (.invokevirtual 95, 3) := by decide +kernel
theorem dL_isSo_301 : decode cL_isSo 301 = .ok (.aload_n 1, 1) := by decide +kernel
theorem dL_isSo_302 : decode cL_isSo 302 = .ok (.aload_n 2, 1) := by decide +kernel
theorem dL_isSo_303 : decode cL_isSo 303 = .ok (.bipush 24, 2) := by decide +kernel
theorem dL_isSo_305 : decode cL_isSo 305 = .ok (.iload 8, 2) := by decide +kernel
theorem dL_isSo_307 : decode cL_isSo 307 = .ok (.invokestatic 9, 3) := by decide +kernel
theorem dL_isSo_310 : decode cL_isSo 310 = .ok (.if_icmp .ne 40, 3) := by decide +kernel
theorem dL_isSo_313 : decode cL_isSo 313 = .ok (.aload_n 0, 1) := by decide +kernel
theorem dL_isSo_314 : decode cL_isSo 314 = .ok (.iload 8, 2) := by decide +kernel
theorem dL_isSo_316 : decode cL_isSo 316 = .ok (.iconst 3, 1) := by decide +kernel
theorem dL_isSo_317 : decode cL_isSo 317 = .ok (.invokevirtual 95, 3) := by decide +kernel
theorem dL_isSo_320 : decode cL_isSo 320 = .ok (.aload_n 1, 1) := by decide +kernel
theorem dL_isSo_321 : decode cL_isSo 321 = .ok (.aload_n 2, 1) := by decide +kernel
theorem dL_isSo_322 : decode cL_isSo 322 = .ok (.aload_n 1, 1) := by decide +kernel
theorem dL_isSo_323 : decode cL_isSo 323 = .ok (.invokestatic 15, 3) := by decide +kernel
theorem dL_isSo_326 : decode cL_isSo 326 = .ok (.iload 8, 2) := by decide +kernel
theorem dL_isSo_328 : decode cL_isSo 328 = .ok (.invokestatic 9, 3) := by decide +kernel
theorem dL_isSo_331 : decode cL_isSo 331 = .ok (.if_icmp .ne 19, 3) := by decide +kernel
theorem dL_isSo_334 : decode cL_isSo 334 = .ok (.aload_n 0, 1) := by decide +kernel
theorem dL_isSo_335 : decode cL_isSo 335 = .ok (.iload 8, 2) := by decide +kernel
theorem dL_isSo_337 : decode cL_isSo 337 = .ok (.iconst 4, 1) := by decide +kernel
theorem dL_isSo_338 : decode cL_isSo 338 = .ok (.invokevirtual 95, 3) := by decide +kernel
theorem dL_isSo_341 : decode cL_isSo 341 = .ok (.iload 9, 2) := by decide +kernel
theorem dL_isSo_343 : decode cL_isSo 343 = .ok (.if_icmp .ne 7, 3) := by decide +kernel
theorem dL_isSo_346 : decode cL_isSo 346 = .ok (.iconst 1, 1) := by decide +kernel
theorem dL_isSo_347 : decode cL_isSo 347 = .ok (.goto 4, 3) := by decide +kernel
theorem dL_isSo_350 : decode cL_isSo 350 = .ok (.iconst 0, 1) := by decide +kernel
theorem dL_isSo_351 : decode cL_isSo 351 = .ok (.istore 7, 2) := by decide +kernel
theorem dL_isSo_353 : decode cL_isSo 353 = .ok (.iinc 8 1, 3) := by decide +kernel
theorem dL_isSo_356 : decode cL_isSo 356 = .ok (.goto (-165), 3) := by decide +kernel
theorem dL_isSo_359 : decode cL_isSo 359 = .ok (.iconst 0, 1) := by decide +kernel
theorem dL_isSo_360 : decode cL_isSo 360 = .ok (.istore 8, 2) := by decide +kernel
theorem dL_isSo_362 : decode cL_isSo 362 = .ok (.iload 8, 2) := by decide +kernel
theorem dL_isSo_364 : decode cL_isSo 364 = .ok (.aload_n 1, 1) := by decide +kernel
theorem dL_isSo_365 : decode cL_isSo 365 = .ok (.iconst 3, 1) := by decide +kernel
theorem dL_isSo_366 : decode cL_isSo 366 = .ok (.iaload, 1) := by decide +kernel
theorem dL_isSo_367 : decode cL_isSo 367 = .ok (.if_icmp .ge 209, 3) := by decide +kernel
theorem dL_isSo_370 : decode cL_isSo 370 = .ok (.iload 7, 2) := by decide +kernel
theorem dL_isSo_372 : decode cL_isSo 372 = .ok (.ifCond .eq 204, 3) := by decide +kernel
theorem dL_isSo_375 : decode cL_isSo 375 = .ok (.iconst 0, 1) := by decide +kernel
theorem dL_isSo_376 : decode cL_isSo 376 = .ok (.istore 9, 2) := by decide +kernel
theorem dL_isSo_378 : decode cL_isSo 378 = .ok (.iconst 0, 1) := by decide +kernel
theorem dL_isSo_379 : decode cL_isSo 379 = .ok (.istore 10, 2) := by decide +kernel
theorem dL_isSo_381 : decode cL_isSo 381 = .ok (.iload 10, 2) := by decide +kernel
theorem dL_isSo_383 : decode cL_isSo 383 = .ok (.aload_n 1, 1) := by decide +kernel
theorem dL_isSo_384 : decode cL_isSo 384 = .ok (.iconst 0, 1) := by decide +kernel
theorem dL_isSo_385 : decode cL_isSo 385 = .ok (.iaload, 1) := by decide +kernel
theorem dL_isSo_386 : decode cL_isSo 386 = .ok (.if_icmp .ge 31, 3) := by decide +kernel
theorem dL_isSo_389 : decode cL_isSo 389 = .ok (.iload 9, 2) := by decide +kernel
theorem dL_isSo_391 : decode cL_isSo 391 = .ok (.aload_n 2, 1) := by decide +kernel
theorem dL_isSo_392 : decode cL_isSo 392 = .ok (.bipush 12, 2) := by decide +kernel
theorem dL_isSo_394 : decode cL_isSo 394 = .ok (.iload 10, 2) := by decide +kernel
theorem dL_isSo_396 : decode cL_isSo 396 = .ok (.iadd, 1) := by decide +kernel
theorem dL_isSo_397 : decode cL_isSo 397 = .ok (.iaload, 1) := by decide +kernel
theorem dL_isSo_398 : decode cL_isSo 398 = .ok (.iload 8, 2) := by decide +kernel
theorem dL_isSo_400 : decode cL_isSo 400 = .ok (.if_icmp .le 7, 3) := by decide +kernel
theorem dL_isSo_403 : decode cL_isSo 403 = .ok (.iconst 1, 1) := by decide +kernel
theorem dL_isSo_404 : decode cL_isSo 404 = .ok (.goto 4, 3) := by decide +kernel
theorem dL_isSo_407 : decode cL_isSo 407 = .ok (.iconst 0, 1) := by decide +kernel
theorem dL_isSo_408 : decode cL_isSo 408 = .ok (.iadd, 1) := by decide +kernel
theorem dL_isSo_409 : decode cL_isSo 409 = .ok (.istore 9, 2) := by decide +kernel
theorem dL_isSo_411 : decode cL_isSo 411 = .ok (.iinc 10 1, 3) := by decide +kernel
theorem dL_isSo_414 : decode cL_isSo 414 = .ok (.goto (-33), 3) := by decide +kernel
theorem dL_isSo_417 : decode cL_isSo 417 = .ok (.aload_n 1, 1) := by decide +kernel
theorem dL_isSo_418 : decode cL_isSo 418 = .ok (.aload_n 2, 1) := by decide +kernel
theorem dL_isSo_419 : decode cL_isSo 419 = .ok (.bipush 24, 2) := by decide +kernel
theorem dL_isSo_421 : decode cL_isSo 421 = .ok (.iload 8, 2) := by decide +kernel
theorem dL_isSo_423 : decode cL_isSo 423 = .ok (.invokestatic 19, 3) := by decide +kernel
theorem dL_isSo_426 : decode cL_isSo 426 = .ok (.istore 10, 2) := by decide +kernel
theorem dL_isSo_428 : decode cL_isSo 428 = .ok (.aload_n 0, 1) := by decide +kernel
theorem dL_isSo_429 : decode cL_isSo 429 = .ok (.iload 8, 2) := by decide +kernel
theorem dL_isSo_431 : decode cL_isSo 431 = .ok (.iconst 0, 1) := by decide +kernel
theorem dL_isSo_432 : decode cL_isSo 432 = .ok (.invokevirtual 98, 3) := by decide +kernel
theorem dL_isSo_435 : decode cL_isSo 435 = .ok (.i2l, 1) := by decide +kernel
theorem dL_isSo_436 : decode cL_isSo 436 = .ok (.aload_n 3, 1) := by decide +kernel
theorem dL_isSo_437 : decode cL_isSo 437 = .ok (.iload 8, 2) := by decide +kernel
theorem dL_isSo_439 : decode cL_isSo 439 = .ok (.laload, 1) := by decide +kernel
theorem dL_isSo_440 : decode cL_isSo 440 = .ok (.ldc2_w 101, 3) := by decide +kernel
theorem dL_isSo_443 : decode cL_isSo 443 = .ok (.land, 1) := by decide +kernel
theorem dL_isSo_444 : decode cL_isSo 444 = .ok (.ldc2_w 28, 3) := by decide +kernel
theorem dL_isSo_447 : decode cL_isSo 447 = .ok (.lsub, 1) := by decide +kernel
theorem dL_isSo_448 : decode cL_isSo 448 = .ok (.lcmp, 1) := by decide +kernel
theorem dL_isSo_449 : decode cL_isSo 449 = .ok (.ifCond .ne 118, 3) := by decide +kernel
theorem dL_isSo_452 : decode cL_isSo 452 = .ok (.aload_n 0, 1) := by decide +kernel
theorem dL_isSo_453 : decode cL_isSo 453 = .ok (.iload 8, 2) := by decide +kernel
theorem dL_isSo_455 : decode cL_isSo 455 = .ok (.iconst 1, 1) := by decide +kernel
theorem dL_isSo_456 : decode cL_isSo 456 = .ok (.invokevirtual 98, 3) := by decide +kernel
theorem dL_isSo_459 : decode cL_isSo 459 = .ok (.i2l, 1) := by decide +kernel
theorem dL_isSo_460 : decode cL_isSo 460 = .ok (.aload_n 3, 1) := by decide +kernel
theorem dL_isSo_461 : decode cL_isSo 461 = .ok (.iload 8, 2) := by decide +kernel
theorem dL_isSo_463 : decode cL_isSo 463 = .ok (.laload, 1) := by decide +kernel
theorem dL_isSo_464 : decode cL_isSo 464 = .ok (.bipush 10, 2) := by decide +kernel
theorem dL_isSo_466 : decode cL_isSo 466 = .ok (.lshr, 1) := by decide +kernel
theorem dL_isSo_467 : decode cL_isSo 467 = .ok (.ldc2_w 103, 3) := by decide +kernel
theorem dL_isSo_470 : decode cL_isSo 470 = .ok (.land, 1) := by decide +kernel
theorem dL_isSo_471 : decode cL_isSo 471 = .ok (.lcmp, 1) := by decide +kernel
theorem dL_isSo_472 : decode cL_isSo 472 = .ok (.ifCond .ne 95, 3) := by decide +kernel
theorem dL_isSo_475 : decode cL_isSo 475 = .ok (.aload_n 0, 1) := by decide +kernel
theorem dL_isSo_476 : decode cL_isSo 476 = .ok (.iload 8, 2) := by decide +kernel
theorem dL_isSo_478 : decode cL_isSo 478 = .ok (.iconst 2, 1) := by decide +kernel
theorem dL_isSo_479 : decode cL_isSo 479 = .ok (.invokevirtual 98, 3) := by decide +kernel
theorem dL_isSo_482 : decode cL_isSo 482 = .ok (.iload 8, 2) := by decide +kernel
theorem dL_isSo_484 : decode cL_isSo 484 = .ok (.aload_n 1, 1) := by decide +kernel
theorem dL_isSo_485 : decode cL_isSo 485 = .ok (.iconst 4, 1) := by decide +kernel
theorem dL_isSo_486 : decode cL_isSo 486 = .ok (.iaload, 1) := by decide +kernel
theorem dL_isSo_487 : decode cL_isSo 487 = .ok (.if_icmp .ge 7, 3) := by decide +kernel
theorem dL_isSo_490 : decode cL_isSo 490 = .ok (.iconst 1, 1) := by decide +kernel
theorem dL_isSo_491 : decode cL_isSo 491 = .ok (.goto 4, 3) := by decide +kernel
theorem dL_isSo_494 : decode cL_isSo 494 = .ok (.iconst 0, 1) := by decide +kernel
theorem dL_isSo_495 : decode cL_isSo 495 = .ok (.if_icmp .ne 72, 3) := by decide +kernel
theorem dL_isSo_498 : decode cL_isSo 498 = .ok (.aload_n 0, 1) := by decide +kernel
theorem dL_isSo_499 : decode cL_isSo 499 = .ok (.iload 8, 2) := by decide +kernel
theorem dL_isSo_501 : decode cL_isSo 501 = .ok (.iconst 3, 1) := by decide +kernel
theorem dL_isSo_502 : decode cL_isSo 502 = .ok (.invokevirtual 98, 3) := by decide +kernel
theorem dL_isSo_505 : decode cL_isSo 505 = .ok (.iload 9, 2) := by decide +kernel
theorem dL_isSo_507 : decode cL_isSo 507 = .ok (.if_icmp .ne 60, 3) := by decide +kernel
theorem dL_isSo_510 : decode cL_isSo 510 = .ok (.aload_n 0, 1) := by decide +kernel
theorem dL_isSo_511 : decode cL_isSo 511 = .ok (.iload 8, 2) := by decide +kernel
theorem dL_isSo_513 : decode cL_isSo 513 = .ok (.iconst 4, 1) := by decide +kernel
theorem dL_isSo_514 : decode cL_isSo 514 = .ok (.invokevirtual 98, 3) := by decide +kernel
theorem dL_isSo_517 : decode cL_isSo 517 = .ok (.i2l, 1) := by decide +kernel
theorem dL_isSo_518 : decode cL_isSo 518 = .ok (.aload_n 3, 1) := by decide +kernel
theorem dL_isSo_519 : decode cL_isSo 519 = .ok (.iload 8, 2) := by decide +kernel
theorem dL_isSo_521 : decode cL_isSo 521 = .ok (.laload, 1) := by decide +kernel
theorem dL_isSo_522 : decode cL_isSo 522 = .ok (.bipush 18, 2) := by decide +kernel
theorem dL_isSo_524 : decode cL_isSo 524 = .ok (.lshr, 1) := by decide +kernel
theorem dL_isSo_525 : decode cL_isSo 525 = .ok (.lcmp, 1) := by decide +kernel
theorem dL_isSo_526 : decode cL_isSo 526 = .ok (.ifCond .ne 41, 3) := by decide +kernel
theorem dL_isSo_529 : decode cL_isSo 529 = .ok (.aload_n 0, 1) := by decide +kernel
theorem dL_isSo_530 : decode cL_isSo 530 = .ok (.iload 8, 2) := by decide +kernel
theorem dL_isSo_532 : decode cL_isSo 532 = .ok (.iconst 5, 1) := by decide +kernel
theorem dL_isSo_533 : decode cL_isSo 533 = .ok (.invokevirtual 98, 3) := by decide +kernel
