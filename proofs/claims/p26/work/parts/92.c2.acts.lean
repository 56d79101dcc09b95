theorem dL_acts_243 : decode cL_acts 243 = .ok (.iload 6, 2) := by decide +kernel
theorem dL_acts_245 : decode cL_acts 245 = .ok (.bipush 12, 2) := by decide +kernel
theorem dL_acts_247 : decode cL_acts 247 = .ok (.idiv, 1) := by decide +kernel
theorem dL_acts_248 : decode cL_acts 248 = .ok (.iconst 3, 1) := by decide +kernel
theorem dL_acts_249 : decode cL_acts 249 = .ok (.irem, 1) := by decide +kernel
theorem dL_acts_250 : decode cL_acts 250 = .ok (.ifCond .ne 7, 3) := by decide +kernel
theorem dL_acts_253 : decode cL_acts 253 = .ok (.iconst 0, 1) := by decide +kernel
theorem dL_acts_254 : decode cL_acts 254 = .ok (.goto 4, 3) := by decide +kernel
theorem dL_acts_257 : decode cL_acts 257 = .ok (.iconst 1, 1) := by decide +kernel
theorem dL_acts_258 : decode cL_acts 258 = .ok (.istore 9, 2) := by decide +kernel
theorem dL_acts_260 : decode cL_acts 260 = .ok (.aload_n 2, 1) := by decide +kernel
theorem dL_acts_261 : decode cL_acts 261 = .ok (.iload 8, 2) := by decide +kernel
theorem dL_acts_263 : decode cL_acts 263 = .ok (.iaload, 1) := by decide +kernel
theorem dL_acts_264 : decode cL_acts 264 = .ok (.iload 9, 2) := by decide +kernel
theorem dL_acts_266 : decode cL_acts 266 = .ok (.if_icmp .ne 22, 3) := by decide +kernel
theorem dL_acts_269 : decode cL_acts 269 = .ok (.aload_n 0, 1) := by decide +kernel
theorem dL_acts_270 : decode cL_acts 270 = .ok (.iload 8, 2) := by decide +kernel
theorem dL_acts_272 : decode cL_acts 272 = .ok (.iload 9, 2) := by decide +kernel
theorem dL_acts_274 : decode cL_acts 274 = .ok (.invokevirtual 76, 3) := by decide +kernel
theorem dL_acts_277 : decode cL_acts 277 = .ok (.bipush (-2), 2) := by decide +kernel
theorem dL_acts_279 : decode cL_acts 279 = .ok (.if_icmp .ne 7, 3) := by decide +kernel
theorem dL_acts_282 : decode cL_acts 282 = .ok (.iconst 1, 1) := by decide +kernel
theorem dL_acts_283 : decode cL_acts 283 = .ok (.goto 4, 3) := by decide +kernel
theorem dL_acts_286 : decode cL_acts 286 = .ok (.iconst 0, 1) := by decide +kernel
theorem dL_acts_287 : decode cL_acts 287 = .ok (.ireturn, 1) := by decide +kernel
theorem dL_acts_288 : decode cL_acts 288 = .ok (.aload_n 2, 1) := by decide +kernel
theorem dL_acts_289 : decode cL_acts 289 = .ok (.iload 8, 2) := by decide +kernel
theorem dL_acts_291 : decode cL_acts 291 = .ok (.iload 9, 2) := by decide +kernel
theorem dL_acts_293 : decode cL_acts 293 = .ok (.iastore, 1) := by decide +kernel
theorem dL_acts_294 : decode cL_acts 294 = .ok (.iconst 0, 1) := by decide +kernel
theorem dL_acts_295 : decode cL_acts 295 = .ok (.istore 10, 2) := by decide +kernel
theorem dL_acts_297 : decode cL_acts 297 = .ok (.iconst 0, 1) := by decide +kernel
theorem dL_acts_298 : decode cL_acts 298 = .ok (.istore 11, 2) := by decide +kernel
theorem dL_acts_300 : decode cL_acts 300 = .ok (.iload 11, 2) := by decide +kernel
theorem dL_acts_302 : decode cL_acts 302 = .ok (.aload_n 1, 1) := by decide +kernel
theorem dL_acts_303 : decode cL_acts 303 = .ok (.iconst 0, 1) := by decide +kernel
theorem dL_acts_304 : decode cL_acts 304 = .ok (.iaload, 1) := by decide +kernel
theorem dL_acts_305 : decode cL_acts 305 = .ok (.if_icmp .ge 18, 3) := by decide +kernel
theorem dL_acts_308 : decode cL_acts 308 = .ok (.iload 10, 2) := by decide +kernel
theorem dL_acts_310 : decode cL_acts 310 = .ok (.aload_n 2, 1) := by decide +kernel
theorem dL_acts_311 : decode cL_acts 311 = .ok (.iload 11, 2) := by decide +kernel
theorem dL_acts_313 : decode cL_acts 313 = .ok (.iaload, 1) := by decide +kernel
theorem dL_acts_314 : decode cL_acts 314 = .ok (.iadd, 1) := by decide +kernel
theorem dL_acts_315 : decode cL_acts 315 = .ok (.istore 10, 2) := by decide +kernel
theorem dL_acts_317 : decode cL_acts 317 = .ok (.iinc 11 1, 3) := by decide +kernel
theorem dL_acts_320 : decode cL_acts 320 = .ok (.goto (-20), 3) := by decide +kernel
theorem dL_acts_323 : decode cL_acts 323 = .ok (.aload_n 0, 1) := by decide +kernel
theorem dL_acts_324 : decode cL_acts 324 = .ok (.iload 8, 2) := by decide +kernel
theorem dL_acts_326 : decode cL_acts 326 = .ok (.iload 9, 2) := by decide +kernel
theorem dL_acts_328 : decode cL_acts 328 = .ok (.invokevirtual 76, 3) := by decide +kernel
theorem dL_acts_331 : decode cL_acts 331 = .ok (.iload 10, 2) := by decide +kernel
theorem dL_acts_333 : decode cL_acts 333 = .ok (.if_icmp .ne 7, 3) := by decide +kernel
theorem dL_acts_336 : decode cL_acts 336 = .ok (.iconst 1, 1) := by decide +kernel
theorem dL_acts_337 : decode cL_acts 337 = .ok (.goto 4, 3) := by decide +kernel
theorem dL_acts_340 : decode cL_acts 340 = .ok (.iconst 0, 1) := by decide +kernel
theorem dL_acts_341 : decode cL_acts 341 = .ok (.ireturn, 1) := by decide +kernel
theorem dL_acts_342 : decode cL_acts 342 = .ok (.iload 7, 2) := by decide +kernel
theorem dL_acts_344 : decode cL_acts 344 = .ok (.bipush 9, 2) := by decide +kernel
theorem dL_acts_346 : decode cL_acts 346 = .ok (.if_icmp .ge 27, 3) := by decide +kernel
theorem dL_acts_349 : decode cL_acts 349 = .ok (.aload_n 0, 1) := by decide +kernel
theorem dL_acts_350 : decode cL_acts 350 = .ok (.aload_n 1, 1) := by decide +kernel
theorem dL_acts_351 : decode cL_acts 351 = .ok (.aload_n 2, 1) := by decide +kernel
theorem dL_acts_352 : decode cL_acts 352 = .ok (.aload_n 3, 1) := by decide +kernel
theorem dL_acts_353 : decode cL_acts 353 = .ok (.aload 4, 2) := by decide +kernel
theorem dL_acts_355 : decode cL_acts 355 = .ok (.iload 6, 2) := by decide +kernel
theorem dL_acts_357 : decode cL_acts 357 = .ok (.iload 7, 2) := by decide +kernel
theorem dL_acts_359 : decode cL_acts 359 = .ok (.bipush 8, 2) := by decide +kernel
theorem dL_acts_361 : decode cL_acts 361 = .ok (.if_icmp .ne 7, 3) := by decide +kernel
theorem dL_acts_364 : decode cL_acts 364 = .ok (.iconst 1, 1) := by decide +kernel
theorem dL_acts_365 : decode cL_acts 365 = .ok (.goto 4, 3) := by decide +kernel
theorem dL_acts_368 : decode cL_acts 368 = .ok (.iconst 0, 1) := by decide +kernel
theorem dL_acts_369 : decode cL_acts 369 = .ok (.invokestatic 79, 3) := by decide +kernel
theorem dL_acts_372 : decode cL_acts 372 = .ok (.ireturn, 1) := by decide +kernel
theorem dL_acts_373 : decode cL_acts 373 = .ok (.iload 7, 2) := by decide +kernel
theorem dL_acts_375 : decode cL_acts 375 = .ok (.bipush 13, 2) := by decide +kernel
theorem dL_acts_377 : decode cL_acts 377 = .ok (.if_icmp .ge 107, 3) := by decide +kernel
theorem dL_acts_380 : decode cL_acts 380 = .ok (.iload 6, 2) := by decide +kernel
theorem dL_acts_382 : decode cL_acts 382 = .ok (.bipush 12, 2) := by decide +kernel
theorem dL_acts_384 : decode cL_acts 384 = .ok (.idiv, 1) := by decide +kernel
theorem dL_acts_385 : decode cL_acts 385 = .ok (.sipush 1000, 3) := by decide +kernel
theorem dL_acts_388 : decode cL_acts 388 = .ok (.irem, 1) := by decide +kernel
theorem dL_acts_389 : decode cL_acts 389 = .ok (.istore 9, 2) := by decide +kernel
theorem dL_acts_391 : decode cL_acts 391 = .ok (.aload_n 1, 1) := by decide +kernel
theorem dL_acts_392 : decode cL_acts 392 = .ok (.aload_n 2, 1) := by decide +kernel
theorem dL_acts_393 : decode cL_acts 393 = .ok (.iload 8, 2) := by decide +kernel
theorem dL_acts_395 : decode cL_acts 395 = .ok (.invokestatic 30, 3) := by decide +kernel
theorem dL_acts_398 : decode cL_acts 398 = .ok (.ifCond .eq 23, 3) := by decide +kernel
theorem dL_acts_401 : decode cL_acts 401 = .ok (.aload_n 2, 1) := by decide +kernel
theorem dL_acts_402 : decode cL_acts 402 = .ok (.iload 8, 2) := by decide +kernel
theorem dL_acts_404 : decode cL_acts 404 = .ok (.iaload, 1) := by decide +kernel
theorem dL_acts_405 : decode cL_acts 405 = .ok (.ifCond .eq 16, 3) := by decide +kernel
theorem dL_acts_408 : decode cL_acts 408 = .ok (.aload_n 2, 1) := by decide +kernel
theorem dL_acts_409 : decode cL_acts 409 = .ok (.bipush 12, 2) := by decide +kernel
theorem dL_acts_411 : decode cL_acts 411 = .ok (.iload 8, 2) := by decide +kernel
theorem dL_acts_413 : decode cL_acts 413 = .ok (.iadd, 1) := by decide +kernel
theorem dL_acts_414 : decode cL_acts 414 = .ok (.iaload, 1) := by decide +kernel
theorem dL_acts_415 : decode cL_acts 415 = .ok (.aload_n 1, 1) := by decide +kernel
theorem dL_acts_416 : decode cL_acts 416 = .ok (.iconst 3, 1) := by decide +kernel
theorem dL_acts_417 : decode cL_acts 417 = .ok (.iaload, 1) := by decide +kernel
theorem dL_acts_418 : decode cL_acts 418 = .ok (.if_icmp .ge 22, 3) := by decide +kernel
theorem dL_acts_421 : decode cL_acts 421 = .ok (.aload_n 0, 1) := by decide +kernel
theorem dL_acts_422 : decode cL_acts 422 = .ok (.iload 8, 2) := by decide +kernel
theorem dL_acts_424 : decode cL_acts 424 = .ok (.iload 9, 2) := by decide +kernel
theorem dL_acts_426 : decode cL_acts 426 = .ok (.invokevirtual 83, 3) := by decide +kernel
theorem dL_acts_429 : decode cL_acts 429 = .ok (.bipush (-2), 2) := by decide +kernel
theorem dL_acts_431 : decode cL_acts 431 = .ok (.if_icmp .ne 7, 3) := by decide +kernel
theorem dL_acts_434 : decode cL_acts 434 = .ok (.iconst 1, 1) := by decide +kernel
theorem dL_acts_435 : decode cL_acts 435 = .ok (.goto 4, 3) := by decide +kernel
theorem dL_acts_438 : decode cL_acts 438 = .ok (.iconst 0, 1) := by decide +kernel
theorem dL_acts_439 : decode cL_acts 439 = .ok (.ireturn, 1) := by decide +kernel
theorem dL_acts_440 : decode cL_acts 440 = .ok (.aload_n 1, 1) := by decide +kernel
theorem dL_acts_441 : decode cL_acts 441 = .ok (.aload_n 2, 1) := by decide +kernel
theorem dL_acts_442 : decode cL_acts 442 = .ok (.aload_n 3, 1) := by decide +kernel
theorem dL_acts_443 : decode cL_acts 443 = .ok (.iload 8, 2) := by decide +kernel
theorem dL_acts_445 : decode cL_acts 445 = .ok (.iload 9, 2) := by decide +kernel
theorem dL_acts_447 : decode cL_acts 447 = .ok (.invokestatic 57, 3) := by decide +kernel
theorem dL_acts_450 : decode cL_acts 450 = .ok (.aload_n 1, 1) := by decide +kernel
theorem dL_acts_451 : decode cL_acts 451 = .ok (.aload_n 2, 1) := by decide +kernel
theorem dL_acts_452 : decode cL_acts 452 = .ok (.invokestatic 42, 3) := by decide +kernel
theorem dL_acts_455 : decode cL_acts 455 = .ok (.istore 10, 2) := by decide +kernel
theorem dL_acts_457 : decode cL_acts 457 = .ok (.iload 10, 2) := by decide +kernel
theorem dL_acts_459 : decode cL_acts 459 = .ok (.ifCond .lt 23, 3) := by decide +kernel
theorem dL_acts_462 : decode cL_acts 462 = .ok (.aload_n 0, 1) := by decide +kernel
theorem dL_acts_463 : decode cL_acts 463 = .ok (.iload 8, 2) := by decide +kernel
theorem dL_acts_465 : decode cL_acts 465 = .ok (.iload 9, 2) := by decide +kernel
theorem dL_acts_467 : decode cL_acts 467 = .ok (.invokevirtual 83, 3) := by decide +kernel
theorem dL_acts_470 : decode cL_acts 470 = .ok (.aload_n 1, 1) := by decide +kernel
theorem dL_acts_471 : decode cL_acts 471 = .ok (.iconst 3, 1) := by decide +kernel
theorem dL_acts_472 : decode cL_acts 472 = .ok (.iaload, 1) := by decide +kernel
theorem dL_acts_473 : decode cL_acts 473 = .ok (.iconst 1, 1) := by decide +kernel
theorem dL_acts_474 : decode cL_acts 474 = .ok (.isub, 1) := by decide +kernel
theorem dL_acts_475 : decode cL_acts 475 = .ok (.if_icmp .ne 7, 3) := by decide +kernel
theorem dL_acts_478 : decode cL_acts 478 = .ok (.iconst 1, 1) := by decide +kernel
theorem dL_acts_479 : decode cL_acts 479 = .ok (.goto 4, 3) := by decide +kernel
theorem dL_acts_482 : decode cL_acts 482 = .ok (.iconst 0, 1) := by decide +kernel
theorem dL_acts_483 : decode cL_acts 483 = .ok (.ireturn, 1) := by decide +kernel
theorem dL_acts_484 : decode cL_acts 484 = .ok (.iload 7, 2) := by decide +kernel
theorem dL_acts_486 : decode cL_acts 486 = .ok (.bipush 15, 2) := by decide +kernel
theorem dL_acts_488 : decode cL_acts 488 = .ok (.if_icmp .ge 86, 3) := by decide +kernel
theorem dL_acts_491 : decode cL_acts 491 = .ok (.aload_n 2, 1) := by decide +kernel
theorem dL_acts_492 : decode cL_acts 492 = .ok (.iload 8, 2) := by decide +kernel
theorem dL_acts_494 : decode cL_acts 494 = .ok (.iaload, 1) := by decide +kernel
theorem dL_acts_495 : decode cL_acts 495 = .ok (.ifCond .ne 20, 3) := by decide +kernel
theorem dL_acts_498 : decode cL_acts 498 = .ok (.aload_n 0, 1) := by decide +kernel
theorem dL_acts_499 : decode cL_acts 499 = .ok (.iload 8, 2) := by decide +kernel
theorem dL_acts_501 : decode cL_acts 501 = .ok (.invokevirtual 86, 3) := by decide +kernel
theorem dL_acts_504 : decode cL_acts 504 = .ok (.bipush (-2), 2) := by decide +kernel
theorem dL_acts_506 : decode cL_acts 506 = .ok (.if_icmp .ne 7, 3) := by decide +kernel
theorem dL_acts_509 : decode cL_acts 509 = .ok (.iconst 1, 1) := by decide +kernel
theorem dL_acts_510 : decode cL_acts 510 = .ok (.goto 4, 3) := by decide +kernel
