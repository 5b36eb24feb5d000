theorem d_law_302 : decode code 302 = .ok (.aload_n 3, 1) := by decide +kernel
theorem d_law_303 : decode code 303 = .ok (.invokestatic 81, 3) := by decide +kernel
theorem d_law_306 : decode code 306 = .ok (.istore 5, 2) := by decide +kernel
theorem d_law_308 : decode code 308 = .ok (.aload_n 2, 1) := by decide +kernel
theorem d_law_309 : decode code 309 = .ok (.aload_n 0, 1) := by decide +kernel
theorem d_law_310 : decode code 310 = .ok (.iload 4, 2) := by decide +kernel
theorem d_law_312 : decode code 312 = .ok (.iconst 1, 1) := by decide +kernel
theorem d_law_313 : decode code 313 = .ok (.iadd, 1) := by decide +kernel
theorem d_law_314 : decode code 314 = .ok (.iaload, 1) := by decide +kernel
theorem d_law_315 : decode code 315 = .ok (.aload_n 0, 1) := by decide +kernel
theorem d_law_316 : decode code 316 = .ok (.iload 4, 2) := by decide +kernel
theorem d_law_318 : decode code 318 = .ok (.iconst 2, 1) := by decide +kernel
theorem d_law_319 : decode code 319 = .ok (.iadd, 1) := by decide +kernel
theorem d_law_320 : decode code 320 = .ok (.iaload, 1) := by decide +kernel
theorem d_law_321 : decode code 321 = .ok (.ifCond .eq 7, 3) := by decide +kernel
theorem d_law_324 : decode code 324 = .ok (.iconst 1, 1) := by decide +kernel
theorem d_law_325 : decode code 325 = .ok (.goto 4, 3) := by decide +kernel
theorem d_law_328 : decode code 328 = .ok (.iconst 0, 1) := by decide +kernel
theorem d_law_329 : decode code 329 = .ok (.invokevirtual 83, 3) := by decide +kernel
theorem d_law_332 : decode code 332 = .ok (.istore 6, 2) := by decide +kernel
theorem d_law_334 : decode code 334 = .ok (.aload_n 2, 1) := by decide +kernel
theorem d_law_335 : decode code 335 = .ok (.invokevirtual 84, 3) := by decide +kernel
theorem d_law_338 : decode code 338 = .ok (.iload 5, 2) := by decide +kernel
theorem d_law_340 : decode code 340 = .ok (.if_icmp .eq 5, 3) := by decide +kernel
theorem d_law_345 : decode code 345 = .ok (.iload 5, 2) := by decide +kernel
theorem d_law_347 : decode code 347 = .ok (.ifCond .ne 22, 3) := by decide +kernel
theorem d_law_350 : decode code 350 = .ok (.aload_n 3, 1) := by decide +kernel
theorem d_law_351 : decode code 351 = .ok (.iconst 0, 1) := by decide +kernel
theorem d_law_352 : decode code 352 = .ok (.laload, 1) := by decide +kernel
theorem d_law_353 : decode code 353 = .ok (.iload 6, 2) := by decide +kernel
theorem d_law_355 : decode code 355 = .ok (.ifCond .eq 7, 3) := by decide +kernel
theorem d_law_358 : decode code 358 = .ok (.lconst 1, 1) := by decide +kernel
theorem d_law_359 : decode code 359 = .ok (.goto 4, 3) := by decide +kernel
theorem d_law_362 : decode code 362 = .ok (.lconst 0, 1) := by decide +kernel
theorem d_law_363 : decode code 363 = .ok (.lcmp, 1) := by decide +kernel
theorem d_law_364 : decode code 364 = .ok (.ifCond .eq 5, 3) := by decide +kernel
theorem d_law_369 : decode code 369 = .ok (.goto 571, 3) := by decide +kernel
theorem d_law_372 : decode code 372 = .ok (.aload_n 1, 1) := by decide +kernel
theorem d_law_373 : decode code 373 = .ok (.aload_n 0, 1) := by decide +kernel
theorem d_law_374 : decode code 374 = .ok (.iload 4, 2) := by decide +kernel
theorem d_law_376 : decode code 376 = .ok (.iconst 1, 1) := by decide +kernel
theorem d_law_377 : decode code 377 = .ok (.iadd, 1) := by decide +kernel
theorem d_law_378 : decode code 378 = .ok (.iaload, 1) := by decide +kernel
theorem d_law_379 : decode code 379 = .ok (.aload_n 0, 1) := by decide +kernel
theorem d_law_380 : decode code 380 = .ok (.iload 4, 2) := by decide +kernel
theorem d_law_382 : decode code 382 = .ok (.iconst 2, 1) := by decide +kernel
theorem d_law_383 : decode code 383 = .ok (.iadd, 1) := by decide +kernel
theorem d_law_384 : decode code 384 = .ok (.iaload, 1) := by decide +kernel
theorem d_law_385 : decode code 385 = .ok (.aload_n 3, 1) := by decide +kernel
theorem d_law_386 : decode code 386 = .ok (.invokestatic 87, 3) := by decide +kernel
theorem d_law_389 : decode code 389 = .ok (.istore 5, 2) := by decide +kernel
theorem d_law_391 : decode code 391 = .ok (.aload_n 2, 1) := by decide +kernel
theorem d_law_392 : decode code 392 = .ok (.aload_n 0, 1) := by decide +kernel
theorem d_law_393 : decode code 393 = .ok (.iload 4, 2) := by decide +kernel
theorem d_law_395 : decode code 395 = .ok (.iconst 1, 1) := by decide +kernel
theorem d_law_396 : decode code 396 = .ok (.iadd, 1) := by decide +kernel
theorem d_law_397 : decode code 397 = .ok (.iaload, 1) := by decide +kernel
theorem d_law_398 : decode code 398 = .ok (.aload_n 0, 1) := by decide +kernel
theorem d_law_399 : decode code 399 = .ok (.iload 4, 2) := by decide +kernel
theorem d_law_401 : decode code 401 = .ok (.iconst 2, 1) := by decide +kernel
theorem d_law_402 : decode code 402 = .ok (.iadd, 1) := by decide +kernel
theorem d_law_403 : decode code 403 = .ok (.iaload, 1) := by decide +kernel
theorem d_law_404 : decode code 404 = .ok (.invokevirtual 90, 3) := by decide +kernel
theorem d_law_407 : decode code 407 = .ok (.lstore 6, 2) := by decide +kernel
theorem d_law_409 : decode code 409 = .ok (.goto 531, 3) := by decide +kernel
theorem d_law_412 : decode code 412 = .ok (.aload_n 1, 1) := by decide +kernel
theorem d_law_413 : decode code 413 = .ok (.aload_n 0, 1) := by decide +kernel
theorem d_law_414 : decode code 414 = .ok (.iload 4, 2) := by decide +kernel
theorem d_law_416 : decode code 416 = .ok (.iconst 1, 1) := by decide +kernel
theorem d_law_417 : decode code 417 = .ok (.iadd, 1) := by decide +kernel
theorem d_law_418 : decode code 418 = .ok (.iaload, 1) := by decide +kernel
theorem d_law_419 : decode code 419 = .ok (.aload_n 0, 1) := by decide +kernel
theorem d_law_420 : decode code 420 = .ok (.iload 4, 2) := by decide +kernel
theorem d_law_422 : decode code 422 = .ok (.iconst 2, 1) := by decide +kernel
theorem d_law_423 : decode code 423 = .ok (.iadd, 1) := by decide +kernel
theorem d_law_424 : decode code 424 = .ok (.iaload, 1) := by decide +kernel
theorem d_law_425 : decode code 425 = .ok (.aload_n 3, 1) := by decide +kernel
theorem d_law_426 : decode code 426 = .ok (.invokestatic 91, 3) := by decide +kernel
theorem d_law_429 : decode code 429 = .ok (.istore 5, 2) := by decide +kernel
theorem d_law_431 : decode code 431 = .ok (.aload_n 2, 1) := by decide +kernel
theorem d_law_432 : decode code 432 = .ok (.aload_n 0, 1) := by decide +kernel
theorem d_law_433 : decode code 433 = .ok (.iload 4, 2) := by decide +kernel
theorem d_law_435 : decode code 435 = .ok (.iconst 1, 1) := by decide +kernel
theorem d_law_436 : decode code 436 = .ok (.iadd, 1) := by decide +kernel
theorem d_law_437 : decode code 437 = .ok (.iaload, 1) := by decide +kernel
theorem d_law_438 : decode code 438 = .ok (.aload_n 0, 1) := by decide +kernel
theorem d_law_439 : decode code 439 = .ok (.iload 4, 2) := by decide +kernel
theorem d_law_441 : decode code 441 = .ok (.iconst 2, 1) := by decide +kernel
theorem d_law_442 : decode code 442 = .ok (.iadd, 1) := by decide +kernel
theorem d_law_443 : decode code 443 = .ok (.iaload, 1) := by decide +kernel
theorem d_law_444 : decode code 444 = .ok (.invokevirtual 93, 3) := by decide +kernel
theorem d_law_447 : decode code 447 = .ok (.lstore 6, 2) := by decide +kernel
theorem d_law_449 : decode code 449 = .ok (.goto 491, 3) := by decide +kernel
theorem d_law_452 : decode code 452 = .ok (.aload_n 1, 1) := by decide +kernel
theorem d_law_453 : decode code 453 = .ok (.aload_n 0, 1) := by decide +kernel
theorem d_law_454 : decode code 454 = .ok (.iload 4, 2) := by decide +kernel
theorem d_law_456 : decode code 456 = .ok (.iconst 1, 1) := by decide +kernel
theorem d_law_457 : decode code 457 = .ok (.iadd, 1) := by decide +kernel
theorem d_law_458 : decode code 458 = .ok (.iaload, 1) := by decide +kernel
theorem d_law_459 : decode code 459 = .ok (.ifCond .eq 7, 3) := by decide +kernel
theorem d_law_462 : decode code 462 = .ok (.iconst 1, 1) := by decide +kernel
theorem d_law_463 : decode code 463 = .ok (.goto 4, 3) := by decide +kernel
theorem d_law_466 : decode code 466 = .ok (.iconst 0, 1) := by decide +kernel
theorem d_law_467 : decode code 467 = .ok (.aload_n 0, 1) := by decide +kernel
theorem d_law_468 : decode code 468 = .ok (.iload 4, 2) := by decide +kernel
theorem d_law_470 : decode code 470 = .ok (.iconst 2, 1) := by decide +kernel
theorem d_law_471 : decode code 471 = .ok (.iadd, 1) := by decide +kernel
theorem d_law_472 : decode code 472 = .ok (.iaload, 1) := by decide +kernel
theorem d_law_473 : decode code 473 = .ok (.aload_n 0, 1) := by decide +kernel
theorem d_law_474 : decode code 474 = .ok (.iload 4, 2) := by decide +kernel
theorem d_law_476 : decode code 476 = .ok (.iconst 3, 1) := by decide +kernel
theorem d_law_477 : decode code 477 = .ok (.iadd, 1) := by decide +kernel
theorem d_law_478 : decode code 478 = .ok (.iaload, 1) := by decide +kernel
theorem d_law_479 : decode code 479 = .ok (.aload_n 3, 1) := by decide +kernel
theorem d_law_480 : decode code 480 = .ok (.invokestatic 94, 3) := by decide +kernel
theorem d_law_483 : decode code 483 = .ok (.istore 5, 2) := by decide +kernel
theorem d_law_485 : decode code 485 = .ok (.aload_n 2, 1) := by decide +kernel
theorem d_law_486 : decode code 486 = .ok (.aload_n 0, 1) := by decide +kernel
theorem d_law_487 : decode code 487 = .ok (.iload 4, 2) := by decide +kernel
theorem d_law_489 : decode code 489 = .ok (.iconst 1, 1) := by decide +kernel
theorem d_law_490 : decode code 490 = .ok (.iadd, 1) := by decide +kernel
theorem d_law_491 : decode code 491 = .ok (.iaload, 1) := by decide +kernel
theorem d_law_492 : decode code 492 = .ok (.ifCond .eq 7, 3) := by decide +kernel
theorem d_law_495 : decode code 495 = .ok (.iconst 1, 1) := by decide +kernel
theorem d_law_496 : decode code 496 = .ok (.goto 4, 3) := by decide +kernel
theorem d_law_499 : decode code 499 = .ok (.iconst 0, 1) := by decide +kernel
theorem d_law_500 : decode code 500 = .ok (.aload_n 0, 1) := by decide +kernel
theorem d_law_501 : decode code 501 = .ok (.iload 4, 2) := by decide +kernel
theorem d_law_503 : decode code 503 = .ok (.iconst 2, 1) := by decide +kernel
theorem d_law_504 : decode code 504 = .ok (.iadd, 1) := by decide +kernel
theorem d_law_505 : decode code 505 = .ok (.iaload, 1) := by decide +kernel
theorem d_law_506 : decode code 506 = .ok (.aload_n 0, 1) := by decide +kernel
theorem d_law_507 : decode code 507 = .ok (.iload 4, 2) := by decide +kernel
theorem d_law_509 : decode code 509 = .ok (.iconst 3, 1) := by decide +kernel
theorem d_law_510 : decode code 510 = .ok (.iadd, 1) := by decide +kernel
theorem d_law_511 : decode code 511 = .ok (.iaload, 1) := by decide +kernel
theorem d_law_512 : decode code 512 = .ok (.invokevirtual 97, 3) := by decide +kernel
theorem d_law_515 : decode code 515 = .ok (.istore 6, 2) := by decide +kernel
theorem d_law_517 : decode code 517 = .ok (.goto 423, 3) := by decide +kernel
theorem d_law_520 : decode code 520 = .ok (.aload_n 1, 1) := by decide +kernel
theorem d_law_521 : decode code 521 = .ok (.aload_n 0, 1) := by decide +kernel
theorem d_law_522 : decode code 522 = .ok (.iload 4, 2) := by decide +kernel
theorem d_law_524 : decode code 524 = .ok (.iconst 1, 1) := by decide +kernel
theorem d_law_525 : decode code 525 = .ok (.iadd, 1) := by decide +kernel
theorem d_law_526 : decode code 526 = .ok (.iaload, 1) := by decide +kernel
theorem d_law_527 : decode code 527 = .ok (.aload_n 0, 1) := by decide +kernel
theorem d_law_528 : decode code 528 = .ok (.iload 4, 2) := by decide +kernel
theorem d_law_530 : decode code 530 = .ok (.iconst 2, 1) := by decide +kernel
theorem d_law_531 : decode code 531 = .ok (.iadd, 1) := by decide +kernel
theorem d_law_532 : decode code 532 = .ok (.iaload, 1) := by decide +kernel
theorem d_law_533 : decode code 533 = .ok (.aload_n 3, 1) := by decide +kernel
theorem d_law_534 : decode code 534 = .ok (.invokestatic 98, 3) := by decide +kernel
theorem d_law_537 : decode code 537 = .ok (.istore 5, 2) := by decide +kernel
theorem d_law_539 : decode code 539 = .ok (.aload_n 2, 1) := by decide +kernel
theorem d_law_540 : decode code 540 = .ok (.aload_n 0, 1) := by decide +kernel
theorem d_law_541 : decode code 541 = .ok (.iload 4, 2) := by decide +kernel
