theorem dL_counciled_246 : decode cL_counciled 246 = .ok (.i2l, 1) := by decide +kernel
theorem dL_counciled_247 : decode cL_counciled 247 = .ok (.lstore 10, 2) := by decide +kernel
theorem dL_counciled_249 : decode cL_counciled 249 = .ok (.aload_n 1, 1) := by decide +kernel
theorem dL_counciled_250 : decode cL_counciled 250 = .ok (.bipush 6, 2) := by decide +kernel
theorem dL_counciled_252 : decode cL_counciled 252 = .ok (.aload_n 1, 1) := by decide +kernel
theorem dL_counciled_253 : decode cL_counciled 253 = .ok (.bipush 6, 2) := by decide +kernel
theorem dL_counciled_255 : decode cL_counciled 255 = .ok (.iaload, 1) := by decide +kernel
theorem dL_counciled_256 : decode cL_counciled 256 = .ok (.invokestatic 54, 3) := by decide +kernel
theorem dL_counciled_259 : decode cL_counciled 259 = .ok (.iastore, 1) := by decide +kernel
theorem dL_counciled_260 : decode cL_counciled 260 = .ok (.aload_n 1, 1) := by decide +kernel
theorem dL_counciled_261 : decode cL_counciled 261 = .ok (.aload_n 2, 1) := by decide +kernel
theorem dL_counciled_262 : decode cL_counciled 262 = .ok (.aload_n 1, 1) := by decide +kernel
theorem dL_counciled_263 : decode cL_counciled 263 = .ok (.bipush 6, 2) := by decide +kernel
theorem dL_counciled_265 : decode cL_counciled 265 = .ok (.iaload, 1) := by decide +kernel
theorem dL_counciled_266 : decode cL_counciled 266 = .ok (.iload 9, 2) := by decide +kernel
theorem dL_counciled_268 : decode cL_counciled 268 = .ok (.irem, 1) := by decide +kernel
theorem dL_counciled_269 : decode cL_counciled 269 = .ok (.invokestatic 50, 3) := by decide +kernel
theorem dL_counciled_272 : decode cL_counciled 272 = .ok (.istore 12, 2) := by decide +kernel
theorem dL_counciled_274 : decode cL_counciled 274 = .ok (.aload 4, 2) := by decide +kernel
theorem dL_counciled_276 : decode cL_counciled 276 = .ok (.aload_n 1, 1) := by decide +kernel
theorem dL_counciled_277 : decode cL_counciled 277 = .ok (.bipush 7, 2) := by decide +kernel
theorem dL_counciled_279 : decode cL_counciled 279 = .ok (.iaload, 1) := by decide +kernel
theorem dL_counciled_280 : decode cL_counciled 280 = .ok (.lload 10, 2) := by decide +kernel
theorem dL_counciled_282 : decode cL_counciled 282 = .ok (.iload 9, 2) := by decide +kernel
theorem dL_counciled_284 : decode cL_counciled 284 = .ok (.i2l, 1) := by decide +kernel
theorem dL_counciled_285 : decode cL_counciled 285 = .ok (.bipush 16, 2) := by decide +kernel
theorem dL_counciled_287 : decode cL_counciled 287 = .ok (.lshl, 1) := by decide +kernel
theorem dL_counciled_288 : decode cL_counciled 288 = .ok (.lor, 1) := by decide +kernel
theorem dL_counciled_289 : decode cL_counciled 289 = .ok (.iload 12, 2) := by decide +kernel
theorem dL_counciled_291 : decode cL_counciled 291 = .ok (.i2l, 1) := by decide +kernel
theorem dL_counciled_292 : decode cL_counciled 292 = .ok (.bipush 20, 2) := by decide +kernel
theorem dL_counciled_294 : decode cL_counciled 294 = .ok (.lshl, 1) := by decide +kernel
theorem dL_counciled_295 : decode cL_counciled 295 = .ok (.lor, 1) := by decide +kernel
theorem dL_counciled_296 : decode cL_counciled 296 = .ok (.iload 12, 2) := by decide +kernel
theorem dL_counciled_298 : decode cL_counciled 298 = .ok (.i2l, 1) := by decide +kernel
theorem dL_counciled_299 : decode cL_counciled 299 = .ok (.bipush 24, 2) := by decide +kernel
theorem dL_counciled_301 : decode cL_counciled 301 = .ok (.lshl, 1) := by decide +kernel
theorem dL_counciled_302 : decode cL_counciled 302 = .ok (.lor, 1) := by decide +kernel
theorem dL_counciled_303 : decode cL_counciled 303 = .ok (.iload 8, 2) := by decide +kernel
theorem dL_counciled_305 : decode cL_counciled 305 = .ok (.i2l, 1) := by decide +kernel
theorem dL_counciled_306 : decode cL_counciled 306 = .ok (.bipush 28, 2) := by decide +kernel
theorem dL_counciled_308 : decode cL_counciled 308 = .ok (.lshl, 1) := by decide +kernel
theorem dL_counciled_309 : decode cL_counciled 309 = .ok (.lor, 1) := by decide +kernel
theorem dL_counciled_310 : decode cL_counciled 310 = .ok (.lastore, 1) := by decide +kernel
theorem dL_counciled_311 : decode cL_counciled 311 = .ok (.aload_n 1, 1) := by decide +kernel
theorem dL_counciled_312 : decode cL_counciled 312 = .ok (.bipush 7, 2) := by decide +kernel
theorem dL_counciled_314 : decode cL_counciled 314 = .ok (.dup2, 1) := by decide +kernel
theorem dL_counciled_315 : decode cL_counciled 315 = .ok (.iaload, 1) := by decide +kernel
theorem dL_counciled_316 : decode cL_counciled 316 = .ok (.iconst 1, 1) := by decide +kernel
theorem dL_counciled_317 : decode cL_counciled 317 = .ok (.iadd, 1) := by decide +kernel
theorem dL_counciled_318 : decode cL_counciled 318 = .ok (.iastore, 1) := by decide +kernel
theorem dL_counciled_319 : decode cL_counciled 319 = .ok (.iconst 0, 1) := by decide +kernel
theorem dL_counciled_320 : decode cL_counciled 320 = .ok (.istore 13, 2) := by decide +kernel
theorem dL_counciled_322 : decode cL_counciled 322 = .ok (.iload 13, 2) := by decide +kernel
theorem dL_counciled_324 : decode cL_counciled 324 = .ok (.iconst 5, 1) := by decide +kernel
theorem dL_counciled_325 : decode cL_counciled 325 = .ok (.if_icmp .ge 35, 3) := by decide +kernel
theorem dL_counciled_328 : decode cL_counciled 328 = .ok (.aload_n 2, 1) := by decide +kernel
theorem dL_counciled_329 : decode cL_counciled 329 = .ok (.bipush 29, 2) := by decide +kernel
theorem dL_counciled_331 : decode cL_counciled 331 = .ok (.iload 13, 2) := by decide +kernel
theorem dL_counciled_333 : decode cL_counciled 333 = .ok (.iadd, 1) := by decide +kernel
theorem dL_counciled_334 : decode cL_counciled 334 = .ok (.iload 13, 2) := by decide +kernel
theorem dL_counciled_336 : decode cL_counciled 336 = .ok (.iload 8, 2) := by decide +kernel
theorem dL_counciled_338 : decode cL_counciled 338 = .ok (.if_icmp .ne 8, 3) := by decide +kernel
theorem dL_counciled_341 : decode cL_counciled 341 = .ok (.iload 12, 2) := by decide +kernel
theorem dL_counciled_343 : decode cL_counciled 343 = .ok (.goto 10, 3) := by decide +kernel
theorem dL_counciled_346 : decode cL_counciled 346 = .ok (.aload_n 2, 1) := by decide +kernel
theorem dL_counciled_347 : decode cL_counciled 347 = .ok (.bipush 24, 2) := by decide +kernel
theorem dL_counciled_349 : decode cL_counciled 349 = .ok (.iload 13, 2) := by decide +kernel
theorem dL_counciled_351 : decode cL_counciled 351 = .ok (.iadd, 1) := by decide +kernel
theorem dL_counciled_352 : decode cL_counciled 352 = .ok (.iaload, 1) := by decide +kernel
theorem dL_counciled_353 : decode cL_counciled 353 = .ok (.iastore, 1) := by decide +kernel
theorem dL_counciled_354 : decode cL_counciled 354 = .ok (.iinc 13 1, 3) := by decide +kernel
theorem dL_counciled_357 : decode cL_counciled 357 = .ok (.goto (-35), 3) := by decide +kernel
theorem dL_counciled_360 : decode cL_counciled 360 = .ok (.aload_n 1, 1) := by decide +kernel
theorem dL_counciled_361 : decode cL_counciled 361 = .ok (.iconst 5, 1) := by decide +kernel
theorem dL_counciled_362 : decode cL_counciled 362 = .ok (.aload_n 1, 1) := by decide +kernel
theorem dL_counciled_363 : decode cL_counciled 363 = .ok (.iconst 3, 1) := by decide +kernel
theorem dL_counciled_364 : decode cL_counciled 364 = .ok (.iaload, 1) := by decide +kernel
theorem dL_counciled_365 : decode cL_counciled 365 = .ok (.iastore, 1) := by decide +kernel
theorem dL_counciled_366 : decode cL_counciled 366 = .ok (.aload_n 1, 1) := by decide +kernel
theorem dL_counciled_367 : decode cL_counciled 367 = .ok (.aload_n 2, 1) := by decide +kernel
theorem dL_counciled_368 : decode cL_counciled 368 = .ok (.aload_n 3, 1) := by decide +kernel
theorem dL_counciled_369 : decode cL_counciled 369 = .ok (.iload 7, 2) := by decide +kernel
theorem dL_counciled_371 : decode cL_counciled 371 = .ok (.bipush (-9), 2) := by decide +kernel
theorem dL_counciled_373 : decode cL_counciled 373 = .ok (.invokestatic 57, 3) := by decide +kernel
theorem dL_counciled_376 : decode cL_counciled 376 = .ok (.aload_n 1, 1) := by decide +kernel
theorem dL_counciled_377 : decode cL_counciled 377 = .ok (.aload_n 2, 1) := by decide +kernel
theorem dL_counciled_378 : decode cL_counciled 378 = .ok (.invokestatic 42, 3) := by decide +kernel
theorem dL_counciled_381 : decode cL_counciled 381 = .ok (.istore 13, 2) := by decide +kernel
theorem dL_counciled_383 : decode cL_counciled 383 = .ok (.iload 13, 2) := by decide +kernel
theorem dL_counciled_385 : decode cL_counciled 385 = .ok (.ifCond .lt 20, 3) := by decide +kernel
theorem dL_counciled_388 : decode cL_counciled 388 = .ok (.aload_n 0, 1) := by decide +kernel
theorem dL_counciled_389 : decode cL_counciled 389 = .ok (.iload 7, 2) := by decide +kernel
theorem dL_counciled_391 : decode cL_counciled 391 = .ok (.iload 8, 2) := by decide +kernel
theorem dL_counciled_393 : decode cL_counciled 393 = .ok (.invokevirtual 46, 3) := by decide +kernel
theorem dL_counciled_396 : decode cL_counciled 396 = .ok (.iload 12, 2) := by decide +kernel
theorem dL_counciled_398 : decode cL_counciled 398 = .ok (.if_icmp .ne 7, 3) := by decide +kernel
theorem dL_counciled_401 : decode cL_counciled 401 = .ok (.iconst 1, 1) := by decide +kernel
theorem dL_counciled_402 : decode cL_counciled 402 = .ok (.goto 4, 3) := by decide +kernel
theorem dL_counciled_405 : decode cL_counciled 405 = .ok (.iconst 0, 1) := by decide +kernel
theorem dL_counciled_406 : decode cL_counciled 406 = .ok (.ireturn, 1) := by decide +kernel
