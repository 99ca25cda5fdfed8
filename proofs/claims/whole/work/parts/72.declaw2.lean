/-! the law's instructions, by place -/
theorem dL_law_289 : decode (mC iL_law) 289 = .ok (.ireturn, 1) := by decide +kernel
theorem dL_law_290 : decode (mC iL_law) 290 = .ok (.aload_n 1, 1) := by decide +kernel
theorem dL_law_291 : decode (mC iL_law) 291 = .ok (.aload_n 0, 1) := by decide +kernel
theorem dL_law_292 : decode (mC iL_law) 292 = .ok (.iload_n 3, 1) := by decide +kernel
theorem dL_law_293 : decode (mC iL_law) 293 = .ok (.iconst 1, 1) := by decide +kernel
theorem dL_law_294 : decode (mC iL_law) 294 = .ok (.iadd, 1) := by decide +kernel
theorem dL_law_295 : decode (mC iL_law) 295 = .ok (.iaload, 1) := by decide +kernel
theorem dL_law_296 : decode (mC iL_law) 296 = .ok (.invokevirtual 32, 3) := by decide +kernel
theorem dL_law_299 : decode (mC iL_law) 299 = .ok (.aload_n 2, 1) := by decide +kernel
theorem dL_law_300 : decode (mC iL_law) 300 = .ok (.aload_n 0, 1) := by decide +kernel
theorem dL_law_301 : decode (mC iL_law) 301 = .ok (.iload_n 3, 1) := by decide +kernel
theorem dL_law_302 : decode (mC iL_law) 302 = .ok (.iconst 1, 1) := by decide +kernel
theorem dL_law_303 : decode (mC iL_law) 303 = .ok (.iadd, 1) := by decide +kernel
theorem dL_law_304 : decode (mC iL_law) 304 = .ok (.iaload, 1) := by decide +kernel
theorem dL_law_305 : decode (mC iL_law) 305 = .ok (.invokevirtual 35, 3) := by decide +kernel
theorem dL_law_308 : decode (mC iL_law) 308 = .ok (.if_icmp .eq 525, 3) := by decide +kernel
theorem dL_law_311 : decode (mC iL_law) 311 = .ok (.iconst 0, 1) := by decide +kernel
theorem dL_law_312 : decode (mC iL_law) 312 = .ok (.ireturn, 1) := by decide +kernel
theorem dL_law_313 : decode (mC iL_law) 313 = .ok (.aload_n 1, 1) := by decide +kernel
theorem dL_law_314 : decode (mC iL_law) 314 = .ok (.aload_n 0, 1) := by decide +kernel
theorem dL_law_315 : decode (mC iL_law) 315 = .ok (.iload_n 3, 1) := by decide +kernel
theorem dL_law_316 : decode (mC iL_law) 316 = .ok (.iconst 1, 1) := by decide +kernel
theorem dL_law_317 : decode (mC iL_law) 317 = .ok (.iadd, 1) := by decide +kernel
theorem dL_law_318 : decode (mC iL_law) 318 = .ok (.iaload, 1) := by decide +kernel
theorem dL_law_319 : decode (mC iL_law) 319 = .ok (.aload_n 0, 1) := by decide +kernel
theorem dL_law_320 : decode (mC iL_law) 320 = .ok (.iload_n 3, 1) := by decide +kernel
theorem dL_law_321 : decode (mC iL_law) 321 = .ok (.iconst 2, 1) := by decide +kernel
theorem dL_law_322 : decode (mC iL_law) 322 = .ok (.iadd, 1) := by decide +kernel
theorem dL_law_323 : decode (mC iL_law) 323 = .ok (.iaload, 1) := by decide +kernel
theorem dL_law_324 : decode (mC iL_law) 324 = .ok (.invokevirtual 36, 3) := by decide +kernel
theorem dL_law_327 : decode (mC iL_law) 327 = .ok (.aload_n 2, 1) := by decide +kernel
theorem dL_law_328 : decode (mC iL_law) 328 = .ok (.aload_n 0, 1) := by decide +kernel
theorem dL_law_329 : decode (mC iL_law) 329 = .ok (.iload_n 3, 1) := by decide +kernel
theorem dL_law_330 : decode (mC iL_law) 330 = .ok (.iconst 1, 1) := by decide +kernel
theorem dL_law_331 : decode (mC iL_law) 331 = .ok (.iadd, 1) := by decide +kernel
theorem dL_law_332 : decode (mC iL_law) 332 = .ok (.iaload, 1) := by decide +kernel
theorem dL_law_333 : decode (mC iL_law) 333 = .ok (.aload_n 0, 1) := by decide +kernel
theorem dL_law_334 : decode (mC iL_law) 334 = .ok (.iload_n 3, 1) := by decide +kernel
theorem dL_law_335 : decode (mC iL_law) 335 = .ok (.iconst 2, 1) := by decide +kernel
theorem dL_law_336 : decode (mC iL_law) 336 = .ok (.iadd, 1) := by decide +kernel
theorem dL_law_337 : decode (mC iL_law) 337 = .ok (.iaload, 1) := by decide +kernel
theorem dL_law_338 : decode (mC iL_law) 338 = .ok (.invokevirtual 39, 3) := by decide +kernel
theorem dL_law_341 : decode (mC iL_law) 341 = .ok (.if_icmp .eq 492, 3) := by decide +kernel
theorem dL_law_344 : decode (mC iL_law) 344 = .ok (.iconst 0, 1) := by decide +kernel
theorem dL_law_345 : decode (mC iL_law) 345 = .ok (.ireturn, 1) := by decide +kernel
theorem dL_law_346 : decode (mC iL_law) 346 = .ok (.aload_n 1, 1) := by decide +kernel
theorem dL_law_347 : decode (mC iL_law) 347 = .ok (.aload_n 0, 1) := by decide +kernel
theorem dL_law_348 : decode (mC iL_law) 348 = .ok (.iload_n 3, 1) := by decide +kernel
theorem dL_law_349 : decode (mC iL_law) 349 = .ok (.iconst 1, 1) := by decide +kernel
theorem dL_law_350 : decode (mC iL_law) 350 = .ok (.iadd, 1) := by decide +kernel
theorem dL_law_351 : decode (mC iL_law) 351 = .ok (.iaload, 1) := by decide +kernel
theorem dL_law_352 : decode (mC iL_law) 352 = .ok (.invokevirtual 40, 3) := by decide +kernel
theorem dL_law_355 : decode (mC iL_law) 355 = .ok (.aload_n 2, 1) := by decide +kernel
theorem dL_law_356 : decode (mC iL_law) 356 = .ok (.aload_n 0, 1) := by decide +kernel
theorem dL_law_357 : decode (mC iL_law) 357 = .ok (.iload_n 3, 1) := by decide +kernel
theorem dL_law_358 : decode (mC iL_law) 358 = .ok (.iconst 1, 1) := by decide +kernel
theorem dL_law_359 : decode (mC iL_law) 359 = .ok (.iadd, 1) := by decide +kernel
theorem dL_law_360 : decode (mC iL_law) 360 = .ok (.iaload, 1) := by decide +kernel
theorem dL_law_361 : decode (mC iL_law) 361 = .ok (.invokevirtual 43, 3) := by decide +kernel
theorem dL_law_364 : decode (mC iL_law) 364 = .ok (.if_icmp .eq 469, 3) := by decide +kernel
theorem dL_law_367 : decode (mC iL_law) 367 = .ok (.iconst 0, 1) := by decide +kernel
theorem dL_law_368 : decode (mC iL_law) 368 = .ok (.ireturn, 1) := by decide +kernel
theorem dL_law_369 : decode (mC iL_law) 369 = .ok (.aload_n 1, 1) := by decide +kernel
theorem dL_law_370 : decode (mC iL_law) 370 = .ok (.aload_n 0, 1) := by decide +kernel
theorem dL_law_371 : decode (mC iL_law) 371 = .ok (.iload_n 3, 1) := by decide +kernel
theorem dL_law_372 : decode (mC iL_law) 372 = .ok (.iconst 1, 1) := by decide +kernel
theorem dL_law_373 : decode (mC iL_law) 373 = .ok (.iadd, 1) := by decide +kernel
theorem dL_law_374 : decode (mC iL_law) 374 = .ok (.iaload, 1) := by decide +kernel
theorem dL_law_375 : decode (mC iL_law) 375 = .ok (.aload_n 0, 1) := by decide +kernel
theorem dL_law_376 : decode (mC iL_law) 376 = .ok (.iload_n 3, 1) := by decide +kernel
theorem dL_law_377 : decode (mC iL_law) 377 = .ok (.iconst 2, 1) := by decide +kernel
theorem dL_law_378 : decode (mC iL_law) 378 = .ok (.iadd, 1) := by decide +kernel
theorem dL_law_379 : decode (mC iL_law) 379 = .ok (.iaload, 1) := by decide +kernel
theorem dL_law_380 : decode (mC iL_law) 380 = .ok (.invokevirtual 44, 3) := by decide +kernel
theorem dL_law_383 : decode (mC iL_law) 383 = .ok (.aload_n 2, 1) := by decide +kernel
theorem dL_law_384 : decode (mC iL_law) 384 = .ok (.aload_n 0, 1) := by decide +kernel
theorem dL_law_385 : decode (mC iL_law) 385 = .ok (.iload_n 3, 1) := by decide +kernel
theorem dL_law_386 : decode (mC iL_law) 386 = .ok (.iconst 1, 1) := by decide +kernel
theorem dL_law_387 : decode (mC iL_law) 387 = .ok (.iadd, 1) := by decide +kernel
theorem dL_law_388 : decode (mC iL_law) 388 = .ok (.iaload, 1) := by decide +kernel
theorem dL_law_389 : decode (mC iL_law) 389 = .ok (.aload_n 0, 1) := by decide +kernel
theorem dL_law_390 : decode (mC iL_law) 390 = .ok (.iload_n 3, 1) := by decide +kernel
theorem dL_law_391 : decode (mC iL_law) 391 = .ok (.iconst 2, 1) := by decide +kernel
theorem dL_law_392 : decode (mC iL_law) 392 = .ok (.iadd, 1) := by decide +kernel
theorem dL_law_393 : decode (mC iL_law) 393 = .ok (.iaload, 1) := by decide +kernel
theorem dL_law_394 : decode (mC iL_law) 394 = .ok (.invokevirtual 47, 3) := by decide +kernel
theorem dL_law_397 : decode (mC iL_law) 397 = .ok (.if_icmp .eq 436, 3) := by decide +kernel
theorem dL_law_400 : decode (mC iL_law) 400 = .ok (.iconst 0, 1) := by decide +kernel
theorem dL_law_401 : decode (mC iL_law) 401 = .ok (.ireturn, 1) := by decide +kernel
theorem dL_law_402 : decode (mC iL_law) 402 = .ok (.aload_n 1, 1) := by decide +kernel
theorem dL_law_403 : decode (mC iL_law) 403 = .ok (.aload_n 0, 1) := by decide +kernel
theorem dL_law_404 : decode (mC iL_law) 404 = .ok (.iload_n 3, 1) := by decide +kernel
theorem dL_law_405 : decode (mC iL_law) 405 = .ok (.iconst 1, 1) := by decide +kernel
theorem dL_law_406 : decode (mC iL_law) 406 = .ok (.iadd, 1) := by decide +kernel
theorem dL_law_407 : decode (mC iL_law) 407 = .ok (.iaload, 1) := by decide +kernel
theorem dL_law_408 : decode (mC iL_law) 408 = .ok (.invokevirtual 48, 3) := by decide +kernel
theorem dL_law_411 : decode (mC iL_law) 411 = .ok (.aload_n 2, 1) := by decide +kernel
theorem dL_law_412 : decode (mC iL_law) 412 = .ok (.aload_n 0, 1) := by decide +kernel
theorem dL_law_413 : decode (mC iL_law) 413 = .ok (.iload_n 3, 1) := by decide +kernel
theorem dL_law_414 : decode (mC iL_law) 414 = .ok (.iconst 1, 1) := by decide +kernel
theorem dL_law_415 : decode (mC iL_law) 415 = .ok (.iadd, 1) := by decide +kernel
theorem dL_law_416 : decode (mC iL_law) 416 = .ok (.iaload, 1) := by decide +kernel
theorem dL_law_417 : decode (mC iL_law) 417 = .ok (.invokevirtual 51, 3) := by decide +kernel
theorem dL_law_420 : decode (mC iL_law) 420 = .ok (.if_icmp .eq 413, 3) := by decide +kernel
theorem dL_law_423 : decode (mC iL_law) 423 = .ok (.iconst 0, 1) := by decide +kernel
theorem dL_law_424 : decode (mC iL_law) 424 = .ok (.ireturn, 1) := by decide +kernel
theorem dL_law_425 : decode (mC iL_law) 425 = .ok (.aload_n 1, 1) := by decide +kernel
theorem dL_law_426 : decode (mC iL_law) 426 = .ok (.invokevirtual 52, 3) := by decide +kernel
theorem dL_law_429 : decode (mC iL_law) 429 = .ok (.aload_n 2, 1) := by decide +kernel
theorem dL_law_430 : decode (mC iL_law) 430 = .ok (.invokevirtual 56, 3) := by decide +kernel
theorem dL_law_433 : decode (mC iL_law) 433 = .ok (.if_icmp .eq 400, 3) := by decide +kernel
theorem dL_law_436 : decode (mC iL_law) 436 = .ok (.iconst 0, 1) := by decide +kernel
theorem dL_law_437 : decode (mC iL_law) 437 = .ok (.ireturn, 1) := by decide +kernel
theorem dL_law_438 : decode (mC iL_law) 438 = .ok (.aload_n 1, 1) := by decide +kernel
theorem dL_law_439 : decode (mC iL_law) 439 = .ok (.aload_n 0, 1) := by decide +kernel
theorem dL_law_440 : decode (mC iL_law) 440 = .ok (.iload_n 3, 1) := by decide +kernel
theorem dL_law_441 : decode (mC iL_law) 441 = .ok (.iconst 1, 1) := by decide +kernel
theorem dL_law_442 : decode (mC iL_law) 442 = .ok (.iadd, 1) := by decide +kernel
theorem dL_law_443 : decode (mC iL_law) 443 = .ok (.iaload, 1) := by decide +kernel
theorem dL_law_444 : decode (mC iL_law) 444 = .ok (.aload_n 0, 1) := by decide +kernel
theorem dL_law_445 : decode (mC iL_law) 445 = .ok (.iload_n 3, 1) := by decide +kernel
theorem dL_law_446 : decode (mC iL_law) 446 = .ok (.iconst 2, 1) := by decide +kernel
theorem dL_law_447 : decode (mC iL_law) 447 = .ok (.iadd, 1) := by decide +kernel
theorem dL_law_448 : decode (mC iL_law) 448 = .ok (.iaload, 1) := by decide +kernel
theorem dL_law_449 : decode (mC iL_law) 449 = .ok (.invokevirtual 57, 3) := by decide +kernel
theorem dL_law_452 : decode (mC iL_law) 452 = .ok (.aload_n 2, 1) := by decide +kernel
theorem dL_law_453 : decode (mC iL_law) 453 = .ok (.aload_n 0, 1) := by decide +kernel
theorem dL_law_454 : decode (mC iL_law) 454 = .ok (.iload_n 3, 1) := by decide +kernel
theorem dL_law_455 : decode (mC iL_law) 455 = .ok (.iconst 1, 1) := by decide +kernel
theorem dL_law_456 : decode (mC iL_law) 456 = .ok (.iadd, 1) := by decide +kernel
theorem dL_law_457 : decode (mC iL_law) 457 = .ok (.iaload, 1) := by decide +kernel
theorem dL_law_458 : decode (mC iL_law) 458 = .ok (.aload_n 0, 1) := by decide +kernel
theorem dL_law_459 : decode (mC iL_law) 459 = .ok (.iload_n 3, 1) := by decide +kernel
theorem dL_law_460 : decode (mC iL_law) 460 = .ok (.iconst 2, 1) := by decide +kernel
theorem dL_law_461 : decode (mC iL_law) 461 = .ok (.iadd, 1) := by decide +kernel
theorem dL_law_462 : decode (mC iL_law) 462 = .ok (.iaload, 1) := by decide +kernel
theorem dL_law_463 : decode (mC iL_law) 463 = .ok (.invokevirtual 60, 3) := by decide +kernel
theorem dL_law_466 : decode (mC iL_law) 466 = .ok (.if_icmp .eq 367, 3) := by decide +kernel
theorem dL_law_469 : decode (mC iL_law) 469 = .ok (.iconst 0, 1) := by decide +kernel
