theorem dL_law_300 : decode cL_law 300 = .ok (.aload_n 1, 1) := by decide +kernel
theorem dL_law_301 : decode cL_law 301 = .ok (.aload_n 0, 1) := by decide +kernel
theorem dL_law_302 : decode cL_law 302 = .ok (.iload_n 3, 1) := by decide +kernel
theorem dL_law_303 : decode cL_law 303 = .ok (.iconst 1, 1) := by decide +kernel
theorem dL_law_304 : decode cL_law 304 = .ok (.iadd, 1) := by decide +kernel
theorem dL_law_305 : decode cL_law 305 = .ok (.iaload, 1) := by decide +kernel
theorem dL_law_306 : decode cL_law 306 = .ok (.aload_n 0, 1) := by decide +kernel
theorem dL_law_307 : decode cL_law 307 = .ok (.iload_n 3, 1) := by decide +kernel
theorem dL_law_308 : decode cL_law 308 = .ok (.iconst 2, 1) := by decide +kernel
theorem dL_law_309 : decode cL_law 309 = .ok (.iadd, 1) := by decide +kernel
theorem dL_law_310 : decode cL_law 310 = .ok (.iaload, 1) := by decide +kernel
theorem dL_law_311 : decode cL_law 311 = .ok (.aload_n 0, 1) := by decide +kernel
theorem dL_law_312 : decode cL_law 312 = .ok (.iload_n 3, 1) := by decide +kernel
theorem dL_law_313 : decode cL_law 313 = .ok (.iconst 3, 1) := by decide +kernel
theorem dL_law_314 : decode cL_law 314 = .ok (.iadd, 1) := by decide +kernel
theorem dL_law_315 : decode cL_law 315 = .ok (.iaload, 1) := by decide +kernel
theorem dL_law_316 : decode cL_law 316 = .ok (.aload_n 0, 1) := by decide +kernel
theorem dL_law_317 : decode cL_law 317 = .ok (.iload_n 3, 1) := by decide +kernel
theorem dL_law_318 : decode cL_law 318 = .ok (.iconst 4, 1) := by decide +kernel
theorem dL_law_319 : decode cL_law 319 = .ok (.iadd, 1) := by decide +kernel
theorem dL_law_320 : decode cL_law 320 = .ok (.iaload, 1) := by decide +kernel
theorem dL_law_321 : decode cL_law 321 = .ok (.aload_n 0, 1) := by decide +kernel
theorem dL_law_322 : decode cL_law 322 = .ok (.iload_n 3, 1) := by decide +kernel
theorem dL_law_323 : decode cL_law 323 = .ok (.iconst 5, 1) := by decide +kernel
theorem dL_law_324 : decode cL_law 324 = .ok (.iadd, 1) := by decide +kernel
theorem dL_law_325 : decode cL_law 325 = .ok (.iaload, 1) := by decide +kernel
theorem dL_law_326 : decode cL_law 326 = .ok (.invokevirtual 13, 3) := by decide +kernel
theorem dL_law_329 : decode cL_law 329 = .ok (.pop, 1) := by decide +kernel
theorem dL_law_330 : decode cL_law 330 = .ok (.aload_n 2, 1) := by decide +kernel
theorem dL_law_331 : decode cL_law 331 = .ok (.aload_n 0, 1) := by decide +kernel
theorem dL_law_332 : decode cL_law 332 = .ok (.iload_n 3, 1) := by decide +kernel
theorem dL_law_333 : decode cL_law 333 = .ok (.iconst 1, 1) := by decide +kernel
theorem dL_law_334 : decode cL_law 334 = .ok (.iadd, 1) := by decide +kernel
theorem dL_law_335 : decode cL_law 335 = .ok (.iaload, 1) := by decide +kernel
theorem dL_law_336 : decode cL_law 336 = .ok (.aload_n 0, 1) := by decide +kernel
theorem dL_law_337 : decode cL_law 337 = .ok (.iload_n 3, 1) := by decide +kernel
theorem dL_law_338 : decode cL_law 338 = .ok (.iconst 2, 1) := by decide +kernel
theorem dL_law_339 : decode cL_law 339 = .ok (.iadd, 1) := by decide +kernel
theorem dL_law_340 : decode cL_law 340 = .ok (.iaload, 1) := by decide +kernel
theorem dL_law_341 : decode cL_law 341 = .ok (.aload_n 0, 1) := by decide +kernel
theorem dL_law_342 : decode cL_law 342 = .ok (.iload_n 3, 1) := by decide +kernel
theorem dL_law_343 : decode cL_law 343 = .ok (.iconst 3, 1) := by decide +kernel
theorem dL_law_344 : decode cL_law 344 = .ok (.iadd, 1) := by decide +kernel
theorem dL_law_345 : decode cL_law 345 = .ok (.iaload, 1) := by decide +kernel
theorem dL_law_346 : decode cL_law 346 = .ok (.aload_n 0, 1) := by decide +kernel
theorem dL_law_347 : decode cL_law 347 = .ok (.iload_n 3, 1) := by decide +kernel
theorem dL_law_348 : decode cL_law 348 = .ok (.iconst 4, 1) := by decide +kernel
theorem dL_law_349 : decode cL_law 349 = .ok (.iadd, 1) := by decide +kernel
theorem dL_law_350 : decode cL_law 350 = .ok (.iaload, 1) := by decide +kernel
theorem dL_law_351 : decode cL_law 351 = .ok (.aload_n 0, 1) := by decide +kernel
theorem dL_law_352 : decode cL_law 352 = .ok (.iload_n 3, 1) := by decide +kernel
theorem dL_law_353 : decode cL_law 353 = .ok (.iconst 5, 1) := by decide +kernel
theorem dL_law_354 : decode cL_law 354 = .ok (.iadd, 1) := by decide +kernel
theorem dL_law_355 : decode cL_law 355 = .ok (.iaload, 1) := by decide +kernel
theorem dL_law_356 : decode cL_law 356 = .ok (.invokevirtual 17, 3) := by decide +kernel
theorem dL_law_359 : decode cL_law 359 = .ok (.pop, 1) := by decide +kernel
theorem dL_law_360 : decode cL_law 360 = .ok (.goto 1799, 3) := by decide +kernel
theorem dL_law_363 : decode cL_law 363 = .ok (.aload_n 1, 1) := by decide +kernel
theorem dL_law_364 : decode cL_law 364 = .ok (.aload_n 0, 1) := by decide +kernel
theorem dL_law_365 : decode cL_law 365 = .ok (.iload_n 3, 1) := by decide +kernel
theorem dL_law_366 : decode cL_law 366 = .ok (.iconst 1, 1) := by decide +kernel
theorem dL_law_367 : decode cL_law 367 = .ok (.iadd, 1) := by decide +kernel
theorem dL_law_368 : decode cL_law 368 = .ok (.iaload, 1) := by decide +kernel
theorem dL_law_369 : decode cL_law 369 = .ok (.invokevirtual 18, 3) := by decide +kernel
theorem dL_law_372 : decode cL_law 372 = .ok (.pop, 1) := by decide +kernel
theorem dL_law_373 : decode cL_law 373 = .ok (.aload_n 2, 1) := by decide +kernel
theorem dL_law_374 : decode cL_law 374 = .ok (.aload_n 0, 1) := by decide +kernel
theorem dL_law_375 : decode cL_law 375 = .ok (.iload_n 3, 1) := by decide +kernel
theorem dL_law_376 : decode cL_law 376 = .ok (.iconst 1, 1) := by decide +kernel
theorem dL_law_377 : decode cL_law 377 = .ok (.iadd, 1) := by decide +kernel
theorem dL_law_378 : decode cL_law 378 = .ok (.iaload, 1) := by decide +kernel
theorem dL_law_379 : decode cL_law 379 = .ok (.invokevirtual 22, 3) := by decide +kernel
theorem dL_law_382 : decode cL_law 382 = .ok (.pop, 1) := by decide +kernel
theorem dL_law_383 : decode cL_law 383 = .ok (.goto 1776, 3) := by decide +kernel
theorem dL_law_386 : decode cL_law 386 = .ok (.aload_n 1, 1) := by decide +kernel
theorem dL_law_387 : decode cL_law 387 = .ok (.invokevirtual 23, 3) := by decide +kernel
theorem dL_law_390 : decode cL_law 390 = .ok (.pop, 1) := by decide +kernel
theorem dL_law_391 : decode cL_law 391 = .ok (.aload_n 2, 1) := by decide +kernel
theorem dL_law_392 : decode cL_law 392 = .ok (.invokevirtual 27, 3) := by decide +kernel
theorem dL_law_395 : decode cL_law 395 = .ok (.pop, 1) := by decide +kernel
theorem dL_law_396 : decode cL_law 396 = .ok (.goto 1763, 3) := by decide +kernel
theorem dL_law_399 : decode cL_law 399 = .ok (.aload_n 1, 1) := by decide +kernel
theorem dL_law_400 : decode cL_law 400 = .ok (.aload_n 0, 1) := by decide +kernel
theorem dL_law_401 : decode cL_law 401 = .ok (.iload_n 3, 1) := by decide +kernel
theorem dL_law_402 : decode cL_law 402 = .ok (.iconst 1, 1) := by decide +kernel
theorem dL_law_403 : decode cL_law 403 = .ok (.iadd, 1) := by decide +kernel
theorem dL_law_404 : decode cL_law 404 = .ok (.iaload, 1) := by decide +kernel
theorem dL_law_405 : decode cL_law 405 = .ok (.invokevirtual 28, 3) := by decide +kernel
theorem dL_law_408 : decode cL_law 408 = .ok (.pop, 1) := by decide +kernel
theorem dL_law_409 : decode cL_law 409 = .ok (.aload_n 2, 1) := by decide +kernel
theorem dL_law_410 : decode cL_law 410 = .ok (.aload_n 0, 1) := by decide +kernel
theorem dL_law_411 : decode cL_law 411 = .ok (.iload_n 3, 1) := by decide +kernel
theorem dL_law_412 : decode cL_law 412 = .ok (.iconst 1, 1) := by decide +kernel
theorem dL_law_413 : decode cL_law 413 = .ok (.iadd, 1) := by decide +kernel
theorem dL_law_414 : decode cL_law 414 = .ok (.iaload, 1) := by decide +kernel
theorem dL_law_415 : decode cL_law 415 = .ok (.invokevirtual 31, 3) := by decide +kernel
theorem dL_law_418 : decode cL_law 418 = .ok (.pop, 1) := by decide +kernel
theorem dL_law_419 : decode cL_law 419 = .ok (.goto 1740, 3) := by decide +kernel
theorem dL_law_422 : decode cL_law 422 = .ok (.aload_n 1, 1) := by decide +kernel
theorem dL_law_423 : decode cL_law 423 = .ok (.aload_n 0, 1) := by decide +kernel
theorem dL_law_424 : decode cL_law 424 = .ok (.iload_n 3, 1) := by decide +kernel
theorem dL_law_425 : decode cL_law 425 = .ok (.iconst 1, 1) := by decide +kernel
theorem dL_law_426 : decode cL_law 426 = .ok (.iadd, 1) := by decide +kernel
theorem dL_law_427 : decode cL_law 427 = .ok (.iaload, 1) := by decide +kernel
theorem dL_law_428 : decode cL_law 428 = .ok (.aload_n 0, 1) := by decide +kernel
theorem dL_law_429 : decode cL_law 429 = .ok (.iload_n 3, 1) := by decide +kernel
theorem dL_law_430 : decode cL_law 430 = .ok (.iconst 2, 1) := by decide +kernel
theorem dL_law_431 : decode cL_law 431 = .ok (.iadd, 1) := by decide +kernel
theorem dL_law_432 : decode cL_law 432 = .ok (.iaload, 1) := by decide +kernel
theorem dL_law_433 : decode cL_law 433 = .ok (.invokevirtual 32, 3) := by decide +kernel
theorem dL_law_436 : decode cL_law 436 = .ok (.pop, 1) := by decide +kernel
theorem dL_law_437 : decode cL_law 437 = .ok (.aload_n 2, 1) := by decide +kernel
theorem dL_law_438 : decode cL_law 438 = .ok (.aload_n 0, 1) := by decide +kernel
theorem dL_law_439 : decode cL_law 439 = .ok (.iload_n 3, 1) := by decide +kernel
theorem dL_law_440 : decode cL_law 440 = .ok (.iconst 1, 1) := by decide +kernel
theorem dL_law_441 : decode cL_law 441 = .ok (.iadd, 1) := by decide +kernel
theorem dL_law_442 : decode cL_law 442 = .ok (.iaload, 1) := by decide +kernel
theorem dL_law_443 : decode cL_law 443 = .ok (.aload_n 0, 1) := by decide +kernel
theorem dL_law_444 : decode cL_law 444 = .ok (.iload_n 3, 1) := by decide +kernel
theorem dL_law_445 : decode cL_law 445 = .ok (.iconst 2, 1) := by decide +kernel
theorem dL_law_446 : decode cL_law 446 = .ok (.iadd, 1) := by decide +kernel
theorem dL_law_447 : decode cL_law 447 = .ok (.iaload, 1) := by decide +kernel
theorem dL_law_448 : decode cL_law 448 = .ok (.invokevirtual 36, 3) := by decide +kernel
theorem dL_law_451 : decode cL_law 451 = .ok (.pop, 1) := by decide +kernel
theorem dL_law_452 : decode cL_law 452 = .ok (.goto 1707, 3) := by decide +kernel
theorem dL_law_455 : decode cL_law 455 = .ok (.aload_n 1, 1) := by decide +kernel
theorem dL_law_456 : decode cL_law 456 = .ok (.aload_n 0, 1) := by decide +kernel
theorem dL_law_457 : decode cL_law 457 = .ok (.iload_n 3, 1) := by decide +kernel
theorem dL_law_458 : decode cL_law 458 = .ok (.iconst 1, 1) := by decide +kernel
theorem dL_law_459 : decode cL_law 459 = .ok (.iadd, 1) := by decide +kernel
theorem dL_law_460 : decode cL_law 460 = .ok (.iaload, 1) := by decide +kernel
theorem dL_law_461 : decode cL_law 461 = .ok (.aload_n 0, 1) := by decide +kernel
theorem dL_law_462 : decode cL_law 462 = .ok (.iload_n 3, 1) := by decide +kernel
theorem dL_law_463 : decode cL_law 463 = .ok (.iconst 2, 1) := by decide +kernel
theorem dL_law_464 : decode cL_law 464 = .ok (.iadd, 1) := by decide +kernel
theorem dL_law_465 : decode cL_law 465 = .ok (.iaload, 1) := by decide +kernel
theorem dL_law_466 : decode cL_law 466 = .ok (.invokevirtual 37, 3) := by decide +kernel
theorem dL_law_469 : decode cL_law 469 = .ok (.pop, 1) := by decide +kernel
theorem dL_law_470 : decode cL_law 470 = .ok (.aload_n 2, 1) := by decide +kernel
theorem dL_law_471 : decode cL_law 471 = .ok (.aload_n 0, 1) := by decide +kernel
theorem dL_law_472 : decode cL_law 472 = .ok (.iload_n 3, 1) := by decide +kernel
theorem dL_law_473 : decode cL_law 473 = .ok (.iconst 1, 1) := by decide +kernel
theorem dL_law_474 : decode cL_law 474 = .ok (.iadd, 1) := by decide +kernel
theorem dL_law_475 : decode cL_law 475 = .ok (.iaload, 1) := by decide +kernel
theorem dL_law_476 : decode cL_law 476 = .ok (.aload_n 0, 1) := by decide +kernel
theorem dL_law_477 : decode cL_law 477 = .ok (.iload_n 3, 1) := by decide +kernel
theorem dL_law_478 : decode cL_law 478 = .ok (.iconst 2, 1) := by decide +kernel
theorem dL_law_479 : decode cL_law 479 = .ok (.iadd, 1) := by decide +kernel
theorem dL_law_480 : decode cL_law 480 = .ok (.iaload, 1) := by decide +kernel
theorem dL_law_481 : decode cL_law 481 = .ok (.invokevirtual 40, 3) := by decide +kernel
theorem dL_law_484 : decode cL_law 484 = .ok (.pop, 1) := by decide +kernel
theorem dL_law_485 : decode cL_law 485 = .ok (.goto 1674, 3) := by decide +kernel
theorem dL_law_488 : decode cL_law 488 = .ok (.aload_n 1, 1) := by decide +kernel
theorem dL_law_489 : decode cL_law 489 = .ok (.aload_n 0, 1) := by decide +kernel
theorem dL_law_490 : decode cL_law 490 = .ok (.iload_n 3, 1) := by decide +kernel
theorem dL_law_491 : decode cL_law 491 = .ok (.iconst 1, 1) := by decide +kernel
theorem dL_law_492 : decode cL_law 492 = .ok (.iadd, 1) := by decide +kernel
theorem dL_law_493 : decode cL_law 493 = .ok (.iaload, 1) := by decide +kernel
theorem dL_law_494 : decode cL_law 494 = .ok (.aload_n 0, 1) := by decide +kernel
theorem dL_law_495 : decode cL_law 495 = .ok (.iload_n 3, 1) := by decide +kernel
theorem dL_law_496 : decode cL_law 496 = .ok (.iconst 2, 1) := by decide +kernel
theorem dL_law_497 : decode cL_law 497 = .ok (.iadd, 1) := by decide +kernel
theorem dL_law_498 : decode cL_law 498 = .ok (.iaload, 1) := by decide +kernel
theorem dL_law_499 : decode cL_law 499 = .ok (.invokevirtual 41, 3) := by decide +kernel
theorem dL_law_502 : decode cL_law 502 = .ok (.pop, 1) := by decide +kernel
theorem dL_law_503 : decode cL_law 503 = .ok (.aload_n 2, 1) := by decide +kernel
theorem dL_law_504 : decode cL_law 504 = .ok (.aload_n 0, 1) := by decide +kernel
theorem dL_law_505 : decode cL_law 505 = .ok (.iload_n 3, 1) := by decide +kernel
theorem dL_law_506 : decode cL_law 506 = .ok (.iconst 1, 1) := by decide +kernel
theorem dL_law_507 : decode cL_law 507 = .ok (.iadd, 1) := by decide +kernel
theorem dL_law_508 : decode cL_law 508 = .ok (.iaload, 1) := by decide +kernel
theorem dL_law_509 : decode cL_law 509 = .ok (.aload_n 0, 1) := by decide +kernel
theorem dL_law_510 : decode cL_law 510 = .ok (.iload_n 3, 1) := by decide +kernel
theorem dL_law_511 : decode cL_law 511 = .ok (.iconst 2, 1) := by decide +kernel
theorem dL_law_512 : decode cL_law 512 = .ok (.iadd, 1) := by decide +kernel
theorem dL_law_513 : decode cL_law 513 = .ok (.iaload, 1) := by decide +kernel
theorem dL_law_514 : decode cL_law 514 = .ok (.invokevirtual 44, 3) := by decide +kernel
theorem dL_law_517 : decode cL_law 517 = .ok (.pop, 1) := by decide +kernel
theorem dL_law_518 : decode cL_law 518 = .ok (.goto 1641, 3) := by decide +kernel
theorem dL_law_521 : decode cL_law 521 = .ok (.aload_n 1, 1) := by decide +kernel
theorem dL_law_522 : decode cL_law 522 = .ok (.aload_n 0, 1) := by decide +kernel
theorem dL_law_523 : decode cL_law 523 = .ok (.iload_n 3, 1) := by decide +kernel
theorem dL_law_524 : decode cL_law 524 = .ok (.iconst 1, 1) := by decide +kernel
theorem dL_law_525 : decode cL_law 525 = .ok (.iadd, 1) := by decide +kernel
theorem dL_law_526 : decode cL_law 526 = .ok (.iaload, 1) := by decide +kernel
theorem dL_law_527 : decode cL_law 527 = .ok (.invokevirtual 45, 3) := by decide +kernel
theorem dL_law_530 : decode cL_law 530 = .ok (.pop, 1) := by decide +kernel
theorem dL_law_531 : decode cL_law 531 = .ok (.aload_n 2, 1) := by decide +kernel
theorem dL_law_532 : decode cL_law 532 = .ok (.aload_n 0, 1) := by decide +kernel
theorem dL_law_533 : decode cL_law 533 = .ok (.iload_n 3, 1) := by decide +kernel
theorem dL_law_534 : decode cL_law 534 = .ok (.iconst 1, 1) := by decide +kernel
theorem dL_law_535 : decode cL_law 535 = .ok (.iadd, 1) := by decide +kernel
theorem dL_law_536 : decode cL_law 536 = .ok (.iaload, 1) := by decide +kernel
theorem dL_law_537 : decode cL_law 537 = .ok (.invokevirtual 48, 3) := by decide +kernel
theorem dL_law_540 : decode cL_law 540 = .ok (.pop, 1) := by decide +kernel
theorem dL_law_541 : decode cL_law 541 = .ok (.goto 1618, 3) := by decide +kernel
theorem dL_law_544 : decode cL_law 544 = .ok (.aload_n 1, 1) := by decide +kernel
theorem dL_law_545 : decode cL_law 545 = .ok (.aload_n 0, 1) := by decide +kernel
theorem dL_law_546 : decode cL_law 546 = .ok (.iload_n 3, 1) := by decide +kernel
theorem dL_law_547 : decode cL_law 547 = .ok (.iconst 1, 1) := by decide +kernel
theorem dL_law_548 : decode cL_law 548 = .ok (.iadd, 1) := by decide +kernel
theorem dL_law_549 : decode cL_law 549 = .ok (.iaload, 1) := by decide +kernel
theorem dL_law_550 : decode cL_law 550 = .ok (.invokevirtual 49, 3) := by decide +kernel
theorem dL_law_553 : decode cL_law 553 = .ok (.pop, 1) := by decide +kernel
theorem dL_law_554 : decode cL_law 554 = .ok (.aload_n 2, 1) := by decide +kernel
theorem dL_law_555 : decode cL_law 555 = .ok (.aload_n 0, 1) := by decide +kernel
theorem dL_law_556 : decode cL_law 556 = .ok (.iload_n 3, 1) := by decide +kernel
theorem dL_law_557 : decode cL_law 557 = .ok (.iconst 1, 1) := by decide +kernel
theorem dL_law_558 : decode cL_law 558 = .ok (.iadd, 1) := by decide +kernel
theorem dL_law_559 : decode cL_law 559 = .ok (.iaload, 1) := by decide +kernel
theorem dL_law_560 : decode cL_law 560 = .ok (.invokevirtual 52, 3) := by decide +kernel
theorem dL_law_563 : decode cL_law 563 = .ok (.pop, 1) := by decide +kernel
theorem dL_law_564 : decode cL_law 564 = .ok (.goto 1595, 3) := by decide +kernel
theorem dL_law_567 : decode cL_law 567 = .ok (.aload_n 1, 1) := by decide +kernel
theorem dL_law_568 : decode cL_law 568 = .ok (.aload_n 0, 1) := by decide +kernel
theorem dL_law_569 : decode cL_law 569 = .ok (.iload_n 3, 1) := by decide +kernel
theorem dL_law_570 : decode cL_law 570 = .ok (.iconst 1, 1) := by decide +kernel
theorem dL_law_571 : decode cL_law 571 = .ok (.iadd, 1) := by decide +kernel
theorem dL_law_572 : decode cL_law 572 = .ok (.iaload, 1) := by decide +kernel
theorem dL_law_573 : decode cL_law 573 = .ok (.aload_n 0, 1) := by decide +kernel
theorem dL_law_574 : decode cL_law 574 = .ok (.iload_n 3, 1) := by decide +kernel
theorem dL_law_575 : decode cL_law 575 = .ok (.iconst 2, 1) := by decide +kernel
theorem dL_law_576 : decode cL_law 576 = .ok (.iadd, 1) := by decide +kernel
theorem dL_law_577 : decode cL_law 577 = .ok (.iaload, 1) := by decide +kernel
theorem dL_law_578 : decode cL_law 578 = .ok (.invokevirtual 53, 3) := by decide +kernel
theorem dL_law_581 : decode cL_law 581 = .ok (.pop, 1) := by decide +kernel
theorem dL_law_582 : decode cL_law 582 = .ok (.aload_n 2, 1) := by decide +kernel
theorem dL_law_583 : decode cL_law 583 = .ok (.aload_n 0, 1) := by decide +kernel
theorem dL_law_584 : decode cL_law 584 = .ok (.iload_n 3, 1) := by decide +kernel
theorem dL_law_585 : decode cL_law 585 = .ok (.iconst 1, 1) := by decide +kernel
theorem dL_law_586 : decode cL_law 586 = .ok (.iadd, 1) := by decide +kernel
theorem dL_law_587 : decode cL_law 587 = .ok (.iaload, 1) := by decide +kernel
theorem dL_law_588 : decode cL_law 588 = .ok (.aload_n 0, 1) := by decide +kernel
theorem dL_law_589 : decode cL_law 589 = .ok (.iload_n 3, 1) := by decide +kernel
theorem dL_law_590 : decode cL_law 590 = .ok (.iconst 2, 1) := by decide +kernel
theorem dL_law_591 : decode cL_law 591 = .ok (.iadd, 1) := by decide +kernel
theorem dL_law_592 : decode cL_law 592 = .ok (.iaload, 1) := by decide +kernel
theorem dL_law_593 : decode cL_law 593 = .ok (.invokevirtual 56, 3) := by decide +kernel
theorem dL_law_596 : decode cL_law 596 = .ok (.pop, 1) := by decide +kernel
theorem dL_law_597 : decode cL_law 597 = .ok (.goto 1562, 3) := by decide +kernel
theorem dL_law_600 : decode cL_law 600 = .ok (.aload_n 1, 1) := by decide +kernel
theorem dL_law_601 : decode cL_law 601 = .ok (.aload_n 0, 1) := by decide +kernel
theorem dL_law_602 : decode cL_law 602 = .ok (.iload_n 3, 1) := by decide +kernel
theorem dL_law_603 : decode cL_law 603 = .ok (.iconst 1, 1) := by decide +kernel
theorem dL_law_604 : decode cL_law 604 = .ok (.iadd, 1) := by decide +kernel
theorem dL_law_605 : decode cL_law 605 = .ok (.iaload, 1) := by decide +kernel
theorem dL_law_606 : decode cL_law 606 = .ok (.aload_n 0, 1) := by decide +kernel
theorem dL_law_607 : decode cL_law 607 = .ok (.iload_n 3, 1) := by decide +kernel
theorem dL_law_608 : decode cL_law 608 = .ok (.iconst 2, 1) := by decide +kernel
theorem dL_law_609 : decode cL_law 609 = .ok (.iadd, 1) := by decide +kernel
theorem dL_law_610 : decode cL_law 610 = .ok (.iaload, 1) := by decide +kernel
theorem dL_law_611 : decode cL_law 611 = .ok (.invokevirtual 57, 3) := by decide +kernel
theorem dL_law_614 : decode cL_law 614 = .ok (.pop, 1) := by decide +kernel
theorem dL_law_615 : decode cL_law 615 = .ok (.aload_n 2, 1) := by decide +kernel
theorem dL_law_616 : decode cL_law 616 = .ok (.aload_n 0, 1) := by decide +kernel
theorem dL_law_617 : decode cL_law 617 = .ok (.iload_n 3, 1) := by decide +kernel
theorem dL_law_618 : decode cL_law 618 = .ok (.iconst 1, 1) := by decide +kernel
theorem dL_law_619 : decode cL_law 619 = .ok (.iadd, 1) := by decide +kernel
theorem dL_law_620 : decode cL_law 620 = .ok (.iaload, 1) := by decide +kernel
theorem dL_law_621 : decode cL_law 621 = .ok (.aload_n 0, 1) := by decide +kernel
theorem dL_law_622 : decode cL_law 622 = .ok (.iload_n 3, 1) := by decide +kernel
theorem dL_law_623 : decode cL_law 623 = .ok (.iconst 2, 1) := by decide +kernel
theorem dL_law_624 : decode cL_law 624 = .ok (.iadd, 1) := by decide +kernel
theorem dL_law_625 : decode cL_law 625 = .ok (.iaload, 1) := by decide +kernel
theorem dL_law_626 : decode cL_law 626 = .ok (.invokevirtual 60, 3) := by decide +kernel
theorem dL_law_629 : decode cL_law 629 = .ok (.pop, 1) := by decide +kernel
theorem dL_law_630 : decode cL_law 630 = .ok (.goto 1529, 3) := by decide +kernel
theorem dL_law_633 : decode cL_law 633 = .ok (.aload_n 1, 1) := by decide +kernel
theorem dL_law_634 : decode cL_law 634 = .ok (.aload_n 0, 1) := by decide +kernel
theorem dL_law_635 : decode cL_law 635 = .ok (.iload_n 3, 1) := by decide +kernel
theorem dL_law_636 : decode cL_law 636 = .ok (.iconst 1, 1) := by decide +kernel
theorem dL_law_637 : decode cL_law 637 = .ok (.iadd, 1) := by decide +kernel
theorem dL_law_638 : decode cL_law 638 = .ok (.iaload, 1) := by decide +kernel
theorem dL_law_639 : decode cL_law 639 = .ok (.aload_n 0, 1) := by decide +kernel
theorem dL_law_640 : decode cL_law 640 = .ok (.iload_n 3, 1) := by decide +kernel
theorem dL_law_641 : decode cL_law 641 = .ok (.iconst 2, 1) := by decide +kernel
theorem dL_law_642 : decode cL_law 642 = .ok (.iadd, 1) := by decide +kernel
theorem dL_law_643 : decode cL_law 643 = .ok (.iaload, 1) := by decide +kernel
theorem dL_law_644 : decode cL_law 644 = .ok (.invokevirtual 61, 3) := by decide +kernel
theorem dL_law_647 : decode cL_law 647 = .ok (.pop, 1) := by decide +kernel
theorem dL_law_648 : decode cL_law 648 = .ok (.aload_n 2, 1) := by decide +kernel
theorem dL_law_649 : decode cL_law 649 = .ok (.aload_n 0, 1) := by decide +kernel
theorem dL_law_650 : decode cL_law 650 = .ok (.iload_n 3, 1) := by decide +kernel
theorem dL_law_651 : decode cL_law 651 = .ok (.iconst 1, 1) := by decide +kernel
theorem dL_law_652 : decode cL_law 652 = .ok (.iadd, 1) := by decide +kernel
theorem dL_law_653 : decode cL_law 653 = .ok (.iaload, 1) := by decide +kernel
theorem dL_law_654 : decode cL_law 654 = .ok (.aload_n 0, 1) := by decide +kernel
theorem dL_law_655 : decode cL_law 655 = .ok (.iload_n 3, 1) := by decide +kernel
theorem dL_law_656 : decode cL_law 656 = .ok (.iconst 2, 1) := by decide +kernel
theorem dL_law_657 : decode cL_law 657 = .ok (.iadd, 1) := by decide +kernel
theorem dL_law_658 : decode cL_law 658 = .ok (.iaload, 1) := by decide +kernel
theorem dL_law_659 : decode cL_law 659 = .ok (.invokevirtual 64, 3) := by decide +kernel
theorem dL_law_662 : decode cL_law 662 = .ok (.pop, 1) := by decide +kernel
theorem dL_law_663 : decode cL_law 663 = .ok (.goto 1496, 3) := by decide +kernel
theorem dL_law_666 : decode cL_law 666 = .ok (.aload_n 1, 1) := by decide +kernel
theorem dL_law_667 : decode cL_law 667 = .ok (.aload_n 0, 1) := by decide +kernel
theorem dL_law_668 : decode cL_law 668 = .ok (.iload_n 3, 1) := by decide +kernel
theorem dL_law_669 : decode cL_law 669 = .ok (.iconst 1, 1) := by decide +kernel
theorem dL_law_670 : decode cL_law 670 = .ok (.iadd, 1) := by decide +kernel
theorem dL_law_671 : decode cL_law 671 = .ok (.iaload, 1) := by decide +kernel
theorem dL_law_672 : decode cL_law 672 = .ok (.invokevirtual 65, 3) := by decide +kernel
theorem dL_law_675 : decode cL_law 675 = .ok (.pop, 1) := by decide +kernel
theorem dL_law_676 : decode cL_law 676 = .ok (.aload_n 2, 1) := by decide +kernel
theorem dL_law_677 : decode cL_law 677 = .ok (.aload_n 0, 1) := by decide +kernel
theorem dL_law_678 : decode cL_law 678 = .ok (.iload_n 3, 1) := by decide +kernel
theorem dL_law_679 : decode cL_law 679 = .ok (.iconst 1, 1) := by decide +kernel
theorem dL_law_680 : decode cL_law 680 = .ok (.iadd, 1) := by decide +kernel
theorem dL_law_681 : decode cL_law 681 = .ok (.iaload, 1) := by decide +kernel
theorem dL_law_682 : decode cL_law 682 = .ok (.invokevirtual 68, 3) := by decide +kernel
theorem dL_law_685 : decode cL_law 685 = .ok (.pop, 1) := by decide +kernel
theorem dL_law_686 : decode cL_law 686 = .ok (.goto 1473, 3) := by decide +kernel
theorem dL_law_689 : decode cL_law 689 = .ok (.aload_n 1, 1) := by decide +kernel
theorem dL_law_690 : decode cL_law 690 = .ok (.aload_n 0, 1) := by decide +kernel
theorem dL_law_691 : decode cL_law 691 = .ok (.iload_n 3, 1) := by decide +kernel
theorem dL_law_692 : decode cL_law 692 = .ok (.iconst 1, 1) := by decide +kernel
theorem dL_law_693 : decode cL_law 693 = .ok (.iadd, 1) := by decide +kernel
theorem dL_law_694 : decode cL_law 694 = .ok (.iaload, 1) := by decide +kernel
theorem dL_law_695 : decode cL_law 695 = .ok (.invokevirtual 69, 3) := by decide +kernel
theorem dL_law_698 : decode cL_law 698 = .ok (.pop, 1) := by decide +kernel
theorem dL_law_699 : decode cL_law 699 = .ok (.aload_n 2, 1) := by decide +kernel
theorem dL_law_700 : decode cL_law 700 = .ok (.aload_n 0, 1) := by decide +kernel
theorem dL_law_701 : decode cL_law 701 = .ok (.iload_n 3, 1) := by decide +kernel
theorem dL_law_702 : decode cL_law 702 = .ok (.iconst 1, 1) := by decide +kernel
theorem dL_law_703 : decode cL_law 703 = .ok (.iadd, 1) := by decide +kernel
theorem dL_law_704 : decode cL_law 704 = .ok (.iaload, 1) := by decide +kernel
theorem dL_law_705 : decode cL_law 705 = .ok (.invokevirtual 72, 3) := by decide +kernel
theorem dL_law_708 : decode cL_law 708 = .ok (.pop, 1) := by decide +kernel
theorem dL_law_709 : decode cL_law 709 = .ok (.goto 1450, 3) := by decide +kernel
theorem dL_law_712 : decode cL_law 712 = .ok (.aload_n 1, 1) := by decide +kernel
theorem dL_law_713 : decode cL_law 713 = .ok (.aload_n 0, 1) := by decide +kernel
theorem dL_law_714 : decode cL_law 714 = .ok (.iload_n 3, 1) := by decide +kernel
theorem dL_law_715 : decode cL_law 715 = .ok (.iconst 1, 1) := by decide +kernel
theorem dL_law_716 : decode cL_law 716 = .ok (.iadd, 1) := by decide +kernel
theorem dL_law_717 : decode cL_law 717 = .ok (.iaload, 1) := by decide +kernel
theorem dL_law_718 : decode cL_law 718 = .ok (.invokevirtual 73, 3) := by decide +kernel
theorem dL_law_721 : decode cL_law 721 = .ok (.pop, 1) := by decide +kernel
theorem dL_law_722 : decode cL_law 722 = .ok (.aload_n 2, 1) := by decide +kernel
theorem dL_law_723 : decode cL_law 723 = .ok (.aload_n 0, 1) := by decide +kernel
theorem dL_law_724 : decode cL_law 724 = .ok (.iload_n 3, 1) := by decide +kernel
theorem dL_law_725 : decode cL_law 725 = .ok (.iconst 1, 1) := by decide +kernel
theorem dL_law_726 : decode cL_law 726 = .ok (.iadd, 1) := by decide +kernel
theorem dL_law_727 : decode cL_law 727 = .ok (.iaload, 1) := by decide +kernel
theorem dL_law_728 : decode cL_law 728 = .ok (.invokevirtual 76, 3) := by decide +kernel
theorem dL_law_731 : decode cL_law 731 = .ok (.pop, 1) := by decide +kernel
theorem dL_law_732 : decode cL_law 732 = .ok (.goto 1427, 3) := by decide +kernel
theorem dL_law_735 : decode cL_law 735 = .ok (.aload_n 1, 1) := by decide +kernel
theorem dL_law_736 : decode cL_law 736 = .ok (.aload_n 0, 1) := by decide +kernel
theorem dL_law_737 : decode cL_law 737 = .ok (.iload_n 3, 1) := by decide +kernel
theorem dL_law_738 : decode cL_law 738 = .ok (.iconst 1, 1) := by decide +kernel
theorem dL_law_739 : decode cL_law 739 = .ok (.iadd, 1) := by decide +kernel
theorem dL_law_740 : decode cL_law 740 = .ok (.iaload, 1) := by decide +kernel
theorem dL_law_741 : decode cL_law 741 = .ok (.invokevirtual 77, 3) := by decide +kernel
theorem dL_law_744 : decode cL_law 744 = .ok (.pop, 1) := by decide +kernel
theorem dL_law_745 : decode cL_law 745 = .ok (.aload_n 2, 1) := by decide +kernel
theorem dL_law_746 : decode cL_law 746 = .ok (.aload_n 0, 1) := by decide +kernel
theorem dL_law_747 : decode cL_law 747 = .ok (.iload_n 3, 1) := by decide +kernel
theorem dL_law_748 : decode cL_law 748 = .ok (.iconst 1, 1) := by decide +kernel
theorem dL_law_749 : decode cL_law 749 = .ok (.iadd, 1) := by decide +kernel
theorem dL_law_750 : decode cL_law 750 = .ok (.iaload, 1) := by decide +kernel
theorem dL_law_751 : decode cL_law 751 = .ok (.invokevirtual 80, 3) := by decide +kernel
theorem dL_law_754 : decode cL_law 754 = .ok (.pop, 1) := by decide +kernel
theorem dL_law_755 : decode cL_law 755 = .ok (.goto 1404, 3) := by decide +kernel
theorem dL_law_758 : decode cL_law 758 = .ok (.aload_n 1, 1) := by decide +kernel
theorem dL_law_759 : decode cL_law 759 = .ok (.aload_n 0, 1) := by decide +kernel
theorem dL_law_760 : decode cL_law 760 = .ok (.iload_n 3, 1) := by decide +kernel
theorem dL_law_761 : decode cL_law 761 = .ok (.iconst 1, 1) := by decide +kernel
theorem dL_law_762 : decode cL_law 762 = .ok (.iadd, 1) := by decide +kernel
theorem dL_law_763 : decode cL_law 763 = .ok (.iaload, 1) := by decide +kernel
theorem dL_law_764 : decode cL_law 764 = .ok (.invokevirtual 81, 3) := by decide +kernel
theorem dL_law_767 : decode cL_law 767 = .ok (.pop, 1) := by decide +kernel
theorem dL_law_768 : decode cL_law 768 = .ok (.aload_n 2, 1) := by decide +kernel
theorem dL_law_769 : decode cL_law 769 = .ok (.aload_n 0, 1) := by decide +kernel
theorem dL_law_770 : decode cL_law 770 = .ok (.iload_n 3, 1) := by decide +kernel
theorem dL_law_771 : decode cL_law 771 = .ok (.iconst 1, 1) := by decide +kernel
theorem dL_law_772 : decode cL_law 772 = .ok (.iadd, 1) := by decide +kernel
theorem dL_law_773 : decode cL_law 773 = .ok (.iaload, 1) := by decide +kernel
theorem dL_law_774 : decode cL_law 774 = .ok (.invokevirtual 84, 3) := by decide +kernel
theorem dL_law_777 : decode cL_law 777 = .ok (.pop, 1) := by decide +kernel
theorem dL_law_778 : decode cL_law 778 = .ok (.goto 1381, 3) := by decide +kernel
theorem dL_law_781 : decode cL_law 781 = .ok (.aload_n 1, 1) := by decide +kernel
theorem dL_law_782 : decode cL_law 782 = .ok (.invokevirtual 85, 3) := by decide +kernel
theorem dL_law_785 : decode cL_law 785 = .ok (.pop, 1) := by decide +kernel
theorem dL_law_786 : decode cL_law 786 = .ok (.aload_n 2, 1) := by decide +kernel
theorem dL_law_787 : decode cL_law 787 = .ok (.invokevirtual 88, 3) := by decide +kernel
theorem dL_law_790 : decode cL_law 790 = .ok (.pop, 1) := by decide +kernel
theorem dL_law_791 : decode cL_law 791 = .ok (.goto 1368, 3) := by decide +kernel
theorem dL_law_794 : decode cL_law 794 = .ok (.aload_n 1, 1) := by decide +kernel
theorem dL_law_795 : decode cL_law 795 = .ok (.aload_n 0, 1) := by decide +kernel
theorem dL_law_796 : decode cL_law 796 = .ok (.iload_n 3, 1) := by decide +kernel
theorem dL_law_797 : decode cL_law 797 = .ok (.iconst 1, 1) := by decide +kernel
theorem dL_law_798 : decode cL_law 798 = .ok (.iadd, 1) := by decide +kernel
theorem dL_law_799 : decode cL_law 799 = .ok (.iaload, 1) := by decide +kernel
theorem dL_law_800 : decode cL_law 800 = .ok (.invokevirtual 89, 3) := by decide +kernel
theorem dL_law_803 : decode cL_law 803 = .ok (.pop, 1) := by decide +kernel
theorem dL_law_804 : decode cL_law 804 = .ok (.aload_n 2, 1) := by decide +kernel
theorem dL_law_805 : decode cL_law 805 = .ok (.aload_n 0, 1) := by decide +kernel
theorem dL_law_806 : decode cL_law 806 = .ok (.iload_n 3, 1) := by decide +kernel
theorem dL_law_807 : decode cL_law 807 = .ok (.iconst 1, 1) := by decide +kernel
theorem dL_law_808 : decode cL_law 808 = .ok (.iadd, 1) := by decide +kernel
theorem dL_law_809 : decode cL_law 809 = .ok (.iaload, 1) := by decide +kernel
theorem dL_law_810 : decode cL_law 810 = .ok (.invokevirtual 92, 3) := by decide +kernel
theorem dL_law_813 : decode cL_law 813 = .ok (.pop, 1) := by decide +kernel
theorem dL_law_814 : decode cL_law 814 = .ok (.goto 1345, 3) := by decide +kernel
theorem dL_law_817 : decode cL_law 817 = .ok (.aload_n 1, 1) := by decide +kernel
theorem dL_law_818 : decode cL_law 818 = .ok (.invokevirtual 93, 3) := by decide +kernel
theorem dL_law_821 : decode cL_law 821 = .ok (.pop, 1) := by decide +kernel
theorem dL_law_822 : decode cL_law 822 = .ok (.aload_n 2, 1) := by decide +kernel
theorem dL_law_823 : decode cL_law 823 = .ok (.invokevirtual 96, 3) := by decide +kernel
theorem dL_law_826 : decode cL_law 826 = .ok (.pop, 1) := by decide +kernel
theorem dL_law_827 : decode cL_law 827 = .ok (.goto 1332, 3) := by decide +kernel
theorem dL_law_830 : decode cL_law 830 = .ok (.aload_n 1, 1) := by decide +kernel
theorem dL_law_831 : decode cL_law 831 = .ok (.aload_n 0, 1) := by decide +kernel
theorem dL_law_832 : decode cL_law 832 = .ok (.iload_n 3, 1) := by decide +kernel
theorem dL_law_833 : decode cL_law 833 = .ok (.iconst 1, 1) := by decide +kernel
theorem dL_law_834 : decode cL_law 834 = .ok (.iadd, 1) := by decide +kernel
theorem dL_law_835 : decode cL_law 835 = .ok (.iaload, 1) := by decide +kernel
theorem dL_law_836 : decode cL_law 836 = .ok (.aload_n 0, 1) := by decide +kernel
theorem dL_law_837 : decode cL_law 837 = .ok (.iload_n 3, 1) := by decide +kernel
theorem dL_law_838 : decode cL_law 838 = .ok (.iconst 2, 1) := by decide +kernel
theorem dL_law_839 : decode cL_law 839 = .ok (.iadd, 1) := by decide +kernel
theorem dL_law_840 : decode cL_law 840 = .ok (.iaload, 1) := by decide +kernel
theorem dL_law_841 : decode cL_law 841 = .ok (.invokevirtual 97, 3) := by decide +kernel
theorem dL_law_844 : decode cL_law 844 = .ok (.pop, 1) := by decide +kernel
theorem dL_law_845 : decode cL_law 845 = .ok (.aload_n 2, 1) := by decide +kernel
theorem dL_law_846 : decode cL_law 846 = .ok (.aload_n 0, 1) := by decide +kernel
theorem dL_law_847 : decode cL_law 847 = .ok (.iload_n 3, 1) := by decide +kernel
theorem dL_law_848 : decode cL_law 848 = .ok (.iconst 1, 1) := by decide +kernel
theorem dL_law_849 : decode cL_law 849 = .ok (.iadd, 1) := by decide +kernel
theorem dL_law_850 : decode cL_law 850 = .ok (.iaload, 1) := by decide +kernel
theorem dL_law_851 : decode cL_law 851 = .ok (.aload_n 0, 1) := by decide +kernel
theorem dL_law_852 : decode cL_law 852 = .ok (.iload_n 3, 1) := by decide +kernel
theorem dL_law_853 : decode cL_law 853 = .ok (.iconst 2, 1) := by decide +kernel
theorem dL_law_854 : decode cL_law 854 = .ok (.iadd, 1) := by decide +kernel
theorem dL_law_855 : decode cL_law 855 = .ok (.iaload, 1) := by decide +kernel
theorem dL_law_856 : decode cL_law 856 = .ok (.invokevirtual 100, 3) := by decide +kernel
theorem dL_law_859 : decode cL_law 859 = .ok (.pop, 1) := by decide +kernel
theorem dL_law_860 : decode cL_law 860 = .ok (.goto 1299, 3) := by decide +kernel
theorem dL_law_863 : decode cL_law 863 = .ok (.aload_n 1, 1) := by decide +kernel
theorem dL_law_864 : decode cL_law 864 = .ok (.aload_n 0, 1) := by decide +kernel
theorem dL_law_865 : decode cL_law 865 = .ok (.iload_n 3, 1) := by decide +kernel
theorem dL_law_866 : decode cL_law 866 = .ok (.iconst 1, 1) := by decide +kernel
theorem dL_law_867 : decode cL_law 867 = .ok (.iadd, 1) := by decide +kernel
theorem dL_law_868 : decode cL_law 868 = .ok (.iaload, 1) := by decide +kernel
theorem dL_law_869 : decode cL_law 869 = .ok (.invokevirtual 101, 3) := by decide +kernel
theorem dL_law_872 : decode cL_law 872 = .ok (.pop, 1) := by decide +kernel
theorem dL_law_873 : decode cL_law 873 = .ok (.aload_n 2, 1) := by decide +kernel
theorem dL_law_874 : decode cL_law 874 = .ok (.aload_n 0, 1) := by decide +kernel
theorem dL_law_875 : decode cL_law 875 = .ok (.iload_n 3, 1) := by decide +kernel
theorem dL_law_876 : decode cL_law 876 = .ok (.iconst 1, 1) := by decide +kernel
theorem dL_law_877 : decode cL_law 877 = .ok (.iadd, 1) := by decide +kernel
theorem dL_law_878 : decode cL_law 878 = .ok (.iaload, 1) := by decide +kernel
theorem dL_law_879 : decode cL_law 879 = .ok (.invokevirtual 104, 3) := by decide +kernel
theorem dL_law_882 : decode cL_law 882 = .ok (.pop, 1) := by decide +kernel
theorem dL_law_883 : decode cL_law 883 = .ok (.goto 1276, 3) := by decide +kernel
theorem dL_law_886 : decode cL_law 886 = .ok (.aload_n 1, 1) := by decide +kernel
theorem dL_law_887 : decode cL_law 887 = .ok (.aload_n 0, 1) := by decide +kernel
theorem dL_law_888 : decode cL_law 888 = .ok (.iload_n 3, 1) := by decide +kernel
theorem dL_law_889 : decode cL_law 889 = .ok (.iconst 1, 1) := by decide +kernel
theorem dL_law_890 : decode cL_law 890 = .ok (.iadd, 1) := by decide +kernel
theorem dL_law_891 : decode cL_law 891 = .ok (.iaload, 1) := by decide +kernel
theorem dL_law_892 : decode cL_law 892 = .ok (.aload_n 0, 1) := by decide +kernel
theorem dL_law_893 : decode cL_law 893 = .ok (.iload_n 3, 1) := by decide +kernel
theorem dL_law_894 : decode cL_law 894 = .ok (.iconst 2, 1) := by decide +kernel
theorem dL_law_895 : decode cL_law 895 = .ok (.iadd, 1) := by decide +kernel
theorem dL_law_896 : decode cL_law 896 = .ok (.iaload, 1) := by decide +kernel
theorem dL_law_897 : decode cL_law 897 = .ok (.invokevirtual 105, 3) := by decide +kernel
theorem dL_law_900 : decode cL_law 900 = .ok (.pop, 1) := by decide +kernel
theorem dL_law_901 : decode cL_law 901 = .ok (.aload_n 2, 1) := by decide +kernel
theorem dL_law_902 : decode cL_law 902 = .ok (.aload_n 0, 1) := by decide +kernel
theorem dL_law_903 : decode cL_law 903 = .ok (.iload_n 3, 1) := by decide +kernel
theorem dL_law_904 : decode cL_law 904 = .ok (.iconst 1, 1) := by decide +kernel
theorem dL_law_905 : decode cL_law 905 = .ok (.iadd, 1) := by decide +kernel
theorem dL_law_906 : decode cL_law 906 = .ok (.iaload, 1) := by decide +kernel
theorem dL_law_907 : decode cL_law 907 = .ok (.aload_n 0, 1) := by decide +kernel
theorem dL_law_908 : decode cL_law 908 = .ok (.iload_n 3, 1) := by decide +kernel
theorem dL_law_909 : decode cL_law 909 = .ok (.iconst 2, 1) := by decide +kernel
theorem dL_law_910 : decode cL_law 910 = .ok (.iadd, 1) := by decide +kernel
theorem dL_law_911 : decode cL_law 911 = .ok (.iaload, 1) := by decide +kernel
theorem dL_law_912 : decode cL_law 912 = .ok (.invokevirtual 108, 3) := by decide +kernel
theorem dL_law_915 : decode cL_law 915 = .ok (.pop, 1) := by decide +kernel
theorem dL_law_916 : decode cL_law 916 = .ok (.goto 1243, 3) := by decide +kernel
theorem dL_law_919 : decode cL_law 919 = .ok (.aload_n 1, 1) := by decide +kernel
theorem dL_law_920 : decode cL_law 920 = .ok (.aload_n 0, 1) := by decide +kernel
theorem dL_law_921 : decode cL_law 921 = .ok (.iload_n 3, 1) := by decide +kernel
theorem dL_law_922 : decode cL_law 922 = .ok (.iconst 1, 1) := by decide +kernel
theorem dL_law_923 : decode cL_law 923 = .ok (.iadd, 1) := by decide +kernel
theorem dL_law_924 : decode cL_law 924 = .ok (.iaload, 1) := by decide +kernel
theorem dL_law_925 : decode cL_law 925 = .ok (.aload_n 0, 1) := by decide +kernel
theorem dL_law_926 : decode cL_law 926 = .ok (.iload_n 3, 1) := by decide +kernel
theorem dL_law_927 : decode cL_law 927 = .ok (.iconst 2, 1) := by decide +kernel
theorem dL_law_928 : decode cL_law 928 = .ok (.iadd, 1) := by decide +kernel
theorem dL_law_929 : decode cL_law 929 = .ok (.iaload, 1) := by decide +kernel
theorem dL_law_930 : decode cL_law 930 = .ok (.aload_n 0, 1) := by decide +kernel
theorem dL_law_931 : decode cL_law 931 = .ok (.iload_n 3, 1) := by decide +kernel
theorem dL_law_932 : decode cL_law 932 = .ok (.iconst 3, 1) := by decide +kernel
theorem dL_law_933 : decode cL_law 933 = .ok (.iadd, 1) := by decide +kernel
theorem dL_law_934 : decode cL_law 934 = .ok (.iaload, 1) := by decide +kernel
theorem dL_law_935 : decode cL_law 935 = .ok (.invokevirtual 109, 3) := by decide +kernel
theorem dL_law_938 : decode cL_law 938 = .ok (.pop, 1) := by decide +kernel
theorem dL_law_939 : decode cL_law 939 = .ok (.aload_n 2, 1) := by decide +kernel
theorem dL_law_940 : decode cL_law 940 = .ok (.aload_n 0, 1) := by decide +kernel
theorem dL_law_941 : decode cL_law 941 = .ok (.iload_n 3, 1) := by decide +kernel
theorem dL_law_942 : decode cL_law 942 = .ok (.iconst 1, 1) := by decide +kernel
theorem dL_law_943 : decode cL_law 943 = .ok (.iadd, 1) := by decide +kernel
theorem dL_law_944 : decode cL_law 944 = .ok (.iaload, 1) := by decide +kernel
theorem dL_law_945 : decode cL_law 945 = .ok (.aload_n 0, 1) := by decide +kernel
theorem dL_law_946 : decode cL_law 946 = .ok (.iload_n 3, 1) := by decide +kernel
theorem dL_law_947 : decode cL_law 947 = .ok (.iconst 2, 1) := by decide +kernel
theorem dL_law_948 : decode cL_law 948 = .ok (.iadd, 1) := by decide +kernel
theorem dL_law_949 : decode cL_law 949 = .ok (.iaload, 1) := by decide +kernel
theorem dL_law_950 : decode cL_law 950 = .ok (.aload_n 0, 1) := by decide +kernel
theorem dL_law_951 : decode cL_law 951 = .ok (.iload_n 3, 1) := by decide +kernel
theorem dL_law_952 : decode cL_law 952 = .ok (.iconst 3, 1) := by decide +kernel
theorem dL_law_953 : decode cL_law 953 = .ok (.iadd, 1) := by decide +kernel
theorem dL_law_954 : decode cL_law 954 = .ok (.iaload, 1) := by decide +kernel
theorem dL_law_955 : decode cL_law 955 = .ok (.invokevirtual 113, 3) := by decide +kernel
theorem dL_law_958 : decode cL_law 958 = .ok (.pop, 1) := by decide +kernel
theorem dL_law_959 : decode cL_law 959 = .ok (.goto 1200, 3) := by decide +kernel
theorem dL_law_962 : decode cL_law 962 = .ok (.aload_n 1, 1) := by decide +kernel
theorem dL_law_963 : decode cL_law 963 = .ok (.aload_n 0, 1) := by decide +kernel
theorem dL_law_964 : decode cL_law 964 = .ok (.iload_n 3, 1) := by decide +kernel
theorem dL_law_965 : decode cL_law 965 = .ok (.iconst 1, 1) := by decide +kernel
theorem dL_law_966 : decode cL_law 966 = .ok (.iadd, 1) := by decide +kernel
theorem dL_law_967 : decode cL_law 967 = .ok (.iaload, 1) := by decide +kernel
theorem dL_law_968 : decode cL_law 968 = .ok (.aload_n 0, 1) := by decide +kernel
theorem dL_law_969 : decode cL_law 969 = .ok (.iload_n 3, 1) := by decide +kernel
theorem dL_law_970 : decode cL_law 970 = .ok (.iconst 2, 1) := by decide +kernel
theorem dL_law_971 : decode cL_law 971 = .ok (.iadd, 1) := by decide +kernel
theorem dL_law_972 : decode cL_law 972 = .ok (.iaload, 1) := by decide +kernel
theorem dL_law_973 : decode cL_law 973 = .ok (.aload_n 0, 1) := by decide +kernel
theorem dL_law_974 : decode cL_law 974 = .ok (.iload_n 3, 1) := by decide +kernel
theorem dL_law_975 : decode cL_law 975 = .ok (.iconst 3, 1) := by decide +kernel
theorem dL_law_976 : decode cL_law 976 = .ok (.iadd, 1) := by decide +kernel
theorem dL_law_977 : decode cL_law 977 = .ok (.iaload, 1) := by decide +kernel
theorem dL_law_978 : decode cL_law 978 = .ok (.invokevirtual 114, 3) := by decide +kernel
theorem dL_law_981 : decode cL_law 981 = .ok (.pop, 1) := by decide +kernel
theorem dL_law_982 : decode cL_law 982 = .ok (.aload_n 2, 1) := by decide +kernel
theorem dL_law_983 : decode cL_law 983 = .ok (.aload_n 0, 1) := by decide +kernel
theorem dL_law_984 : decode cL_law 984 = .ok (.iload_n 3, 1) := by decide +kernel
theorem dL_law_985 : decode cL_law 985 = .ok (.iconst 1, 1) := by decide +kernel
theorem dL_law_986 : decode cL_law 986 = .ok (.iadd, 1) := by decide +kernel
theorem dL_law_987 : decode cL_law 987 = .ok (.iaload, 1) := by decide +kernel
theorem dL_law_988 : decode cL_law 988 = .ok (.aload_n 0, 1) := by decide +kernel
theorem dL_law_989 : decode cL_law 989 = .ok (.iload_n 3, 1) := by decide +kernel
theorem dL_law_990 : decode cL_law 990 = .ok (.iconst 2, 1) := by decide +kernel
theorem dL_law_991 : decode cL_law 991 = .ok (.iadd, 1) := by decide +kernel
theorem dL_law_992 : decode cL_law 992 = .ok (.iaload, 1) := by decide +kernel
theorem dL_law_993 : decode cL_law 993 = .ok (.aload_n 0, 1) := by decide +kernel
theorem dL_law_994 : decode cL_law 994 = .ok (.iload_n 3, 1) := by decide +kernel
theorem dL_law_995 : decode cL_law 995 = .ok (.iconst 3, 1) := by decide +kernel
theorem dL_law_996 : decode cL_law 996 = .ok (.iadd, 1) := by decide +kernel
theorem dL_law_997 : decode cL_law 997 = .ok (.iaload, 1) := by decide +kernel
theorem dL_law_998 : decode cL_law 998 = .ok (.invokevirtual 117, 3) := by decide +kernel
theorem dL_law_1001 : decode cL_law 1001 = .ok (.pop, 1) := by decide +kernel
theorem dL_law_1002 : decode cL_law 1002 = .ok (.goto 1157, 3) := by decide +kernel
theorem dL_law_1005 : decode cL_law 1005 = .ok (.aload_n 1, 1) := by decide +kernel
theorem dL_law_1006 : decode cL_law 1006 = .ok (.aload_n 0, 1) := by decide +kernel
theorem dL_law_1007 : decode cL_law 1007 = .ok (.iload_n 3, 1) := by decide +kernel
theorem dL_law_1008 : decode cL_law 1008 = .ok (.iconst 1, 1) := by decide +kernel
theorem dL_law_1009 : decode cL_law 1009 = .ok (.iadd, 1) := by decide +kernel
theorem dL_law_1010 : decode cL_law 1010 = .ok (.iaload, 1) := by decide +kernel
theorem dL_law_1011 : decode cL_law 1011 = .ok (.aload_n 0, 1) := by decide +kernel
theorem dL_law_1012 : decode cL_law 1012 = .ok (.iload_n 3, 1) := by decide +kernel
theorem dL_law_1013 : decode cL_law 1013 = .ok (.iconst 2, 1) := by decide +kernel
theorem dL_law_1014 : decode cL_law 1014 = .ok (.iadd, 1) := by decide +kernel
theorem dL_law_1015 : decode cL_law 1015 = .ok (.iaload, 1) := by decide +kernel
theorem dL_law_1016 : decode cL_law 1016 = .ok (.invokevirtual 118, 3) := by decide +kernel
theorem dL_law_1019 : decode cL_law 1019 = .ok (.pop, 1) := by decide +kernel
theorem dL_law_1020 : decode cL_law 1020 = .ok (.aload_n 2, 1) := by decide +kernel
theorem dL_law_1021 : decode cL_law 1021 = .ok (.aload_n 0, 1) := by decide +kernel
theorem dL_law_1022 : decode cL_law 1022 = .ok (.iload_n 3, 1) := by decide +kernel
theorem dL_law_1023 : decode cL_law 1023 = .ok (.iconst 1, 1) := by decide +kernel
theorem dL_law_1024 : decode cL_law 1024 = .ok (.iadd, 1) := by decide +kernel
theorem dL_law_1025 : decode cL_law 1025 = .ok (.iaload, 1) := by decide +kernel
theorem dL_law_1026 : decode cL_law 1026 = .ok (.aload_n 0, 1) := by decide +kernel
theorem dL_law_1027 : decode cL_law 1027 = .ok (.iload_n 3, 1) := by decide +kernel
theorem dL_law_1028 : decode cL_law 1028 = .ok (.iconst 2, 1) := by decide +kernel
theorem dL_law_1029 : decode cL_law 1029 = .ok (.iadd, 1) := by decide +kernel
theorem dL_law_1030 : decode cL_law 1030 = .ok (.iaload, 1) := by decide +kernel
theorem dL_law_1031 : decode cL_law 1031 = .ok (.invokevirtual 121, 3) := by decide +kernel
theorem dL_law_1034 : decode cL_law 1034 = .ok (.pop, 1) := by decide +kernel
theorem dL_law_1035 : decode cL_law 1035 = .ok (.goto 1124, 3) := by decide +kernel
theorem dL_law_1038 : decode cL_law 1038 = .ok (.aload_n 1, 1) := by decide +kernel
theorem dL_law_1039 : decode cL_law 1039 = .ok (.aload_n 0, 1) := by decide +kernel
theorem dL_law_1040 : decode cL_law 1040 = .ok (.iload_n 3, 1) := by decide +kernel
theorem dL_law_1041 : decode cL_law 1041 = .ok (.iconst 1, 1) := by decide +kernel
theorem dL_law_1042 : decode cL_law 1042 = .ok (.iadd, 1) := by decide +kernel
theorem dL_law_1043 : decode cL_law 1043 = .ok (.iaload, 1) := by decide +kernel
theorem dL_law_1044 : decode cL_law 1044 = .ok (.aload_n 0, 1) := by decide +kernel
theorem dL_law_1045 : decode cL_law 1045 = .ok (.iload_n 3, 1) := by decide +kernel
theorem dL_law_1046 : decode cL_law 1046 = .ok (.iconst 2, 1) := by decide +kernel
theorem dL_law_1047 : decode cL_law 1047 = .ok (.iadd, 1) := by decide +kernel
theorem dL_law_1048 : decode cL_law 1048 = .ok (.iaload, 1) := by decide +kernel
theorem dL_law_1049 : decode cL_law 1049 = .ok (.invokevirtual 122, 3) := by decide +kernel
theorem dL_law_1052 : decode cL_law 1052 = .ok (.pop, 1) := by decide +kernel
theorem dL_law_1053 : decode cL_law 1053 = .ok (.aload_n 2, 1) := by decide +kernel
theorem dL_law_1054 : decode cL_law 1054 = .ok (.aload_n 0, 1) := by decide +kernel
theorem dL_law_1055 : decode cL_law 1055 = .ok (.iload_n 3, 1) := by decide +kernel
theorem dL_law_1056 : decode cL_law 1056 = .ok (.iconst 1, 1) := by decide +kernel
theorem dL_law_1057 : decode cL_law 1057 = .ok (.iadd, 1) := by decide +kernel
theorem dL_law_1058 : decode cL_law 1058 = .ok (.iaload, 1) := by decide +kernel
theorem dL_law_1059 : decode cL_law 1059 = .ok (.aload_n 0, 1) := by decide +kernel
theorem dL_law_1060 : decode cL_law 1060 = .ok (.iload_n 3, 1) := by decide +kernel
theorem dL_law_1061 : decode cL_law 1061 = .ok (.iconst 2, 1) := by decide +kernel
theorem dL_law_1062 : decode cL_law 1062 = .ok (.iadd, 1) := by decide +kernel
theorem dL_law_1063 : decode cL_law 1063 = .ok (.iaload, 1) := by decide +kernel
theorem dL_law_1064 : decode cL_law 1064 = .ok (.invokevirtual 125, 3) := by decide +kernel
theorem dL_law_1067 : decode cL_law 1067 = .ok (.pop, 1) := by decide +kernel
theorem dL_law_1068 : decode cL_law 1068 = .ok (.goto 1091, 3) := by decide +kernel
theorem dL_law_1071 : decode cL_law 1071 = .ok (.aload_n 1, 1) := by decide +kernel
theorem dL_law_1072 : decode cL_law 1072 = .ok (.aload_n 0, 1) := by decide +kernel
theorem dL_law_1073 : decode cL_law 1073 = .ok (.iload_n 3, 1) := by decide +kernel
theorem dL_law_1074 : decode cL_law 1074 = .ok (.iconst 1, 1) := by decide +kernel
theorem dL_law_1075 : decode cL_law 1075 = .ok (.iadd, 1) := by decide +kernel
theorem dL_law_1076 : decode cL_law 1076 = .ok (.iaload, 1) := by decide +kernel
theorem dL_law_1077 : decode cL_law 1077 = .ok (.invokevirtual 126, 3) := by decide +kernel
theorem dL_law_1080 : decode cL_law 1080 = .ok (.pop, 1) := by decide +kernel
theorem dL_law_1081 : decode cL_law 1081 = .ok (.aload_n 2, 1) := by decide +kernel
theorem dL_law_1082 : decode cL_law 1082 = .ok (.aload_n 0, 1) := by decide +kernel
theorem dL_law_1083 : decode cL_law 1083 = .ok (.iload_n 3, 1) := by decide +kernel
theorem dL_law_1084 : decode cL_law 1084 = .ok (.iconst 1, 1) := by decide +kernel
theorem dL_law_1085 : decode cL_law 1085 = .ok (.iadd, 1) := by decide +kernel
theorem dL_law_1086 : decode cL_law 1086 = .ok (.iaload, 1) := by decide +kernel
theorem dL_law_1087 : decode cL_law 1087 = .ok (.invokevirtual 129, 3) := by decide +kernel
theorem dL_law_1090 : decode cL_law 1090 = .ok (.pop, 1) := by decide +kernel
theorem dL_law_1091 : decode cL_law 1091 = .ok (.goto 1068, 3) := by decide +kernel
theorem dL_law_1094 : decode cL_law 1094 = .ok (.aload_n 1, 1) := by decide +kernel
theorem dL_law_1095 : decode cL_law 1095 = .ok (.invokevirtual 130, 3) := by decide +kernel
theorem dL_law_1098 : decode cL_law 1098 = .ok (.pop, 1) := by decide +kernel
theorem dL_law_1099 : decode cL_law 1099 = .ok (.aload_n 2, 1) := by decide +kernel
theorem dL_law_1100 : decode cL_law 1100 = .ok (.invokevirtual 133, 3) := by decide +kernel
theorem dL_law_1103 : decode cL_law 1103 = .ok (.pop, 1) := by decide +kernel
theorem dL_law_1104 : decode cL_law 1104 = .ok (.goto 1055, 3) := by decide +kernel
theorem dL_law_1107 : decode cL_law 1107 = .ok (.aload_n 1, 1) := by decide +kernel
theorem dL_law_1108 : decode cL_law 1108 = .ok (.aload_n 0, 1) := by decide +kernel
theorem dL_law_1109 : decode cL_law 1109 = .ok (.iload_n 3, 1) := by decide +kernel
theorem dL_law_1110 : decode cL_law 1110 = .ok (.iconst 1, 1) := by decide +kernel
theorem dL_law_1111 : decode cL_law 1111 = .ok (.iadd, 1) := by decide +kernel
theorem dL_law_1112 : decode cL_law 1112 = .ok (.iaload, 1) := by decide +kernel
theorem dL_law_1113 : decode cL_law 1113 = .ok (.aload_n 0, 1) := by decide +kernel
theorem dL_law_1114 : decode cL_law 1114 = .ok (.iload_n 3, 1) := by decide +kernel
theorem dL_law_1115 : decode cL_law 1115 = .ok (.iconst 2, 1) := by decide +kernel
theorem dL_law_1116 : decode cL_law 1116 = .ok (.iadd, 1) := by decide +kernel
theorem dL_law_1117 : decode cL_law 1117 = .ok (.iaload, 1) := by decide +kernel
theorem dL_law_1118 : decode cL_law 1118 = .ok (.invokevirtual 134, 3) := by decide +kernel
theorem dL_law_1121 : decode cL_law 1121 = .ok (.pop, 1) := by decide +kernel
theorem dL_law_1122 : decode cL_law 1122 = .ok (.aload_n 2, 1) := by decide +kernel
theorem dL_law_1123 : decode cL_law 1123 = .ok (.aload_n 0, 1) := by decide +kernel
theorem dL_law_1124 : decode cL_law 1124 = .ok (.iload_n 3, 1) := by decide +kernel
theorem dL_law_1125 : decode cL_law 1125 = .ok (.iconst 1, 1) := by decide +kernel
theorem dL_law_1126 : decode cL_law 1126 = .ok (.iadd, 1) := by decide +kernel
theorem dL_law_1127 : decode cL_law 1127 = .ok (.iaload, 1) := by decide +kernel
theorem dL_law_1128 : decode cL_law 1128 = .ok (.aload_n 0, 1) := by decide +kernel
theorem dL_law_1129 : decode cL_law 1129 = .ok (.iload_n 3, 1) := by decide +kernel
theorem dL_law_1130 : decode cL_law 1130 = .ok (.iconst 2, 1) := by decide +kernel
theorem dL_law_1131 : decode cL_law 1131 = .ok (.iadd, 1) := by decide +kernel
theorem dL_law_1132 : decode cL_law 1132 = .ok (.iaload, 1) := by decide +kernel
theorem dL_law_1133 : decode cL_law 1133 = .ok (.invokevirtual 137, 3) := by decide +kernel
theorem dL_law_1136 : decode cL_law 1136 = .ok (.pop, 1) := by decide +kernel
theorem dL_law_1137 : decode cL_law 1137 = .ok (.goto 1022, 3) := by decide +kernel
theorem dL_law_1140 : decode cL_law 1140 = .ok (.aload_n 1, 1) := by decide +kernel
theorem dL_law_1141 : decode cL_law 1141 = .ok (.aload_n 0, 1) := by decide +kernel
theorem dL_law_1142 : decode cL_law 1142 = .ok (.iload_n 3, 1) := by decide +kernel
theorem dL_law_1143 : decode cL_law 1143 = .ok (.iconst 1, 1) := by decide +kernel
theorem dL_law_1144 : decode cL_law 1144 = .ok (.iadd, 1) := by decide +kernel
theorem dL_law_1145 : decode cL_law 1145 = .ok (.iaload, 1) := by decide +kernel
theorem dL_law_1146 : decode cL_law 1146 = .ok (.invokevirtual 138, 3) := by decide +kernel
theorem dL_law_1149 : decode cL_law 1149 = .ok (.pop, 1) := by decide +kernel
theorem dL_law_1150 : decode cL_law 1150 = .ok (.aload_n 2, 1) := by decide +kernel
theorem dL_law_1151 : decode cL_law 1151 = .ok (.aload_n 0, 1) := by decide +kernel
theorem dL_law_1152 : decode cL_law 1152 = .ok (.iload_n 3, 1) := by decide +kernel
theorem dL_law_1153 : decode cL_law 1153 = .ok (.iconst 1, 1) := by decide +kernel
theorem dL_law_1154 : decode cL_law 1154 = .ok (.iadd, 1) := by decide +kernel
theorem dL_law_1155 : decode cL_law 1155 = .ok (.iaload, 1) := by decide +kernel
theorem dL_law_1156 : decode cL_law 1156 = .ok (.invokevirtual 141, 3) := by decide +kernel
theorem dL_law_1159 : decode cL_law 1159 = .ok (.pop, 1) := by decide +kernel
theorem dL_law_1160 : decode cL_law 1160 = .ok (.goto 999, 3) := by decide +kernel
theorem dL_law_1163 : decode cL_law 1163 = .ok (.aload_n 1, 1) := by decide +kernel
theorem dL_law_1164 : decode cL_law 1164 = .ok (.aload_n 0, 1) := by decide +kernel
theorem dL_law_1165 : decode cL_law 1165 = .ok (.iload_n 3, 1) := by decide +kernel
theorem dL_law_1166 : decode cL_law 1166 = .ok (.iconst 1, 1) := by decide +kernel
theorem dL_law_1167 : decode cL_law 1167 = .ok (.iadd, 1) := by decide +kernel
theorem dL_law_1168 : decode cL_law 1168 = .ok (.iaload, 1) := by decide +kernel
theorem dL_law_1169 : decode cL_law 1169 = .ok (.invokevirtual 142, 3) := by decide +kernel
theorem dL_law_1172 : decode cL_law 1172 = .ok (.pop, 1) := by decide +kernel
theorem dL_law_1173 : decode cL_law 1173 = .ok (.aload_n 2, 1) := by decide +kernel
theorem dL_law_1174 : decode cL_law 1174 = .ok (.aload_n 0, 1) := by decide +kernel
theorem dL_law_1175 : decode cL_law 1175 = .ok (.iload_n 3, 1) := by decide +kernel
theorem dL_law_1176 : decode cL_law 1176 = .ok (.iconst 1, 1) := by decide +kernel
theorem dL_law_1177 : decode cL_law 1177 = .ok (.iadd, 1) := by decide +kernel
theorem dL_law_1178 : decode cL_law 1178 = .ok (.iaload, 1) := by decide +kernel
theorem dL_law_1179 : decode cL_law 1179 = .ok (.invokevirtual 145, 3) := by decide +kernel
theorem dL_law_1182 : decode cL_law 1182 = .ok (.pop, 1) := by decide +kernel
theorem dL_law_1183 : decode cL_law 1183 = .ok (.goto 976, 3) := by decide +kernel
theorem dL_law_1186 : decode cL_law 1186 = .ok (.aload_n 1, 1) := by decide +kernel
theorem dL_law_1187 : decode cL_law 1187 = .ok (.aload_n 0, 1) := by decide +kernel
theorem dL_law_1188 : decode cL_law 1188 = .ok (.iload_n 3, 1) := by decide +kernel
theorem dL_law_1189 : decode cL_law 1189 = .ok (.iconst 1, 1) := by decide +kernel
theorem dL_law_1190 : decode cL_law 1190 = .ok (.iadd, 1) := by decide +kernel
theorem dL_law_1191 : decode cL_law 1191 = .ok (.iaload, 1) := by decide +kernel
theorem dL_law_1192 : decode cL_law 1192 = .ok (.invokevirtual 146, 3) := by decide +kernel
theorem dL_law_1195 : decode cL_law 1195 = .ok (.pop, 1) := by decide +kernel
theorem dL_law_1196 : decode cL_law 1196 = .ok (.aload_n 2, 1) := by decide +kernel
theorem dL_law_1197 : decode cL_law 1197 = .ok (.aload_n 0, 1) := by decide +kernel
theorem dL_law_1198 : decode cL_law 1198 = .ok (.iload_n 3, 1) := by decide +kernel
theorem dL_law_1199 : decode cL_law 1199 = .ok (.iconst 1, 1) := by decide +kernel
theorem dL_law_1200 : decode cL_law 1200 = .ok (.iadd, 1) := by decide +kernel
theorem dL_law_1201 : decode cL_law 1201 = .ok (.iaload, 1) := by decide +kernel
theorem dL_law_1202 : decode cL_law 1202 = .ok (.invokevirtual 149, 3) := by decide +kernel
theorem dL_law_1205 : decode cL_law 1205 = .ok (.pop, 1) := by decide +kernel
theorem dL_law_1206 : decode cL_law 1206 = .ok (.goto 953, 3) := by decide +kernel
theorem dL_law_1209 : decode cL_law 1209 = .ok (.aload_n 1, 1) := by decide +kernel
theorem dL_law_1210 : decode cL_law 1210 = .ok (.invokevirtual 150, 3) := by decide +kernel
theorem dL_law_1213 : decode cL_law 1213 = .ok (.pop, 1) := by decide +kernel
theorem dL_law_1214 : decode cL_law 1214 = .ok (.aload_n 2, 1) := by decide +kernel
theorem dL_law_1215 : decode cL_law 1215 = .ok (.invokevirtual 153, 3) := by decide +kernel
theorem dL_law_1218 : decode cL_law 1218 = .ok (.pop, 1) := by decide +kernel
theorem dL_law_1219 : decode cL_law 1219 = .ok (.goto 940, 3) := by decide +kernel
theorem dL_law_1222 : decode cL_law 1222 = .ok (.aload_n 1, 1) := by decide +kernel
theorem dL_law_1223 : decode cL_law 1223 = .ok (.aload_n 0, 1) := by decide +kernel
theorem dL_law_1224 : decode cL_law 1224 = .ok (.iload_n 3, 1) := by decide +kernel
theorem dL_law_1225 : decode cL_law 1225 = .ok (.iconst 1, 1) := by decide +kernel
theorem dL_law_1226 : decode cL_law 1226 = .ok (.iadd, 1) := by decide +kernel
theorem dL_law_1227 : decode cL_law 1227 = .ok (.iaload, 1) := by decide +kernel
theorem dL_law_1228 : decode cL_law 1228 = .ok (.aload_n 0, 1) := by decide +kernel
theorem dL_law_1229 : decode cL_law 1229 = .ok (.iload_n 3, 1) := by decide +kernel
theorem dL_law_1230 : decode cL_law 1230 = .ok (.iconst 2, 1) := by decide +kernel
theorem dL_law_1231 : decode cL_law 1231 = .ok (.iadd, 1) := by decide +kernel
theorem dL_law_1232 : decode cL_law 1232 = .ok (.iaload, 1) := by decide +kernel
theorem dL_law_1233 : decode cL_law 1233 = .ok (.invokevirtual 154, 3) := by decide +kernel
theorem dL_law_1236 : decode cL_law 1236 = .ok (.pop, 1) := by decide +kernel
theorem dL_law_1237 : decode cL_law 1237 = .ok (.aload_n 2, 1) := by decide +kernel
theorem dL_law_1238 : decode cL_law 1238 = .ok (.aload_n 0, 1) := by decide +kernel
theorem dL_law_1239 : decode cL_law 1239 = .ok (.iload_n 3, 1) := by decide +kernel
theorem dL_law_1240 : decode cL_law 1240 = .ok (.iconst 1, 1) := by decide +kernel
theorem dL_law_1241 : decode cL_law 1241 = .ok (.iadd, 1) := by decide +kernel
theorem dL_law_1242 : decode cL_law 1242 = .ok (.iaload, 1) := by decide +kernel
theorem dL_law_1243 : decode cL_law 1243 = .ok (.aload_n 0, 1) := by decide +kernel
theorem dL_law_1244 : decode cL_law 1244 = .ok (.iload_n 3, 1) := by decide +kernel
theorem dL_law_1245 : decode cL_law 1245 = .ok (.iconst 2, 1) := by decide +kernel
theorem dL_law_1246 : decode cL_law 1246 = .ok (.iadd, 1) := by decide +kernel
theorem dL_law_1247 : decode cL_law 1247 = .ok (.iaload, 1) := by decide +kernel
theorem dL_law_1248 : decode cL_law 1248 = .ok (.invokevirtual 157, 3) := by decide +kernel
theorem dL_law_1251 : decode cL_law 1251 = .ok (.pop, 1) := by decide +kernel
theorem dL_law_1252 : decode cL_law 1252 = .ok (.goto 907, 3) := by decide +kernel
theorem dL_law_1255 : decode cL_law 1255 = .ok (.aload_n 1, 1) := by decide +kernel
theorem dL_law_1256 : decode cL_law 1256 = .ok (.aload_n 0, 1) := by decide +kernel
theorem dL_law_1257 : decode cL_law 1257 = .ok (.iload_n 3, 1) := by decide +kernel
theorem dL_law_1258 : decode cL_law 1258 = .ok (.iconst 1, 1) := by decide +kernel
theorem dL_law_1259 : decode cL_law 1259 = .ok (.iadd, 1) := by decide +kernel
theorem dL_law_1260 : decode cL_law 1260 = .ok (.iaload, 1) := by decide +kernel
theorem dL_law_1261 : decode cL_law 1261 = .ok (.invokevirtual 158, 3) := by decide +kernel
theorem dL_law_1264 : decode cL_law 1264 = .ok (.pop, 1) := by decide +kernel
theorem dL_law_1265 : decode cL_law 1265 = .ok (.aload_n 2, 1) := by decide +kernel
theorem dL_law_1266 : decode cL_law 1266 = .ok (.aload_n 0, 1) := by decide +kernel
theorem dL_law_1267 : decode cL_law 1267 = .ok (.iload_n 3, 1) := by decide +kernel
theorem dL_law_1268 : decode cL_law 1268 = .ok (.iconst 1, 1) := by decide +kernel
theorem dL_law_1269 : decode cL_law 1269 = .ok (.iadd, 1) := by decide +kernel
theorem dL_law_1270 : decode cL_law 1270 = .ok (.iaload, 1) := by decide +kernel
theorem dL_law_1271 : decode cL_law 1271 = .ok (.invokevirtual 161, 3) := by decide +kernel
theorem dL_law_1274 : decode cL_law 1274 = .ok (.pop, 1) := by decide +kernel
theorem dL_law_1275 : decode cL_law 1275 = .ok (.goto 884, 3) := by decide +kernel
theorem dL_law_1278 : decode cL_law 1278 = .ok (.aload_n 1, 1) := by decide +kernel
theorem dL_law_1279 : decode cL_law 1279 = .ok (.aload_n 0, 1) := by decide +kernel
theorem dL_law_1280 : decode cL_law 1280 = .ok (.iload_n 3, 1) := by decide +kernel
theorem dL_law_1281 : decode cL_law 1281 = .ok (.iconst 1, 1) := by decide +kernel
theorem dL_law_1282 : decode cL_law 1282 = .ok (.iadd, 1) := by decide +kernel
theorem dL_law_1283 : decode cL_law 1283 = .ok (.iaload, 1) := by decide +kernel
theorem dL_law_1284 : decode cL_law 1284 = .ok (.invokevirtual 162, 3) := by decide +kernel
theorem dL_law_1287 : decode cL_law 1287 = .ok (.pop, 1) := by decide +kernel
theorem dL_law_1288 : decode cL_law 1288 = .ok (.aload_n 2, 1) := by decide +kernel
theorem dL_law_1289 : decode cL_law 1289 = .ok (.aload_n 0, 1) := by decide +kernel
theorem dL_law_1290 : decode cL_law 1290 = .ok (.iload_n 3, 1) := by decide +kernel
theorem dL_law_1291 : decode cL_law 1291 = .ok (.iconst 1, 1) := by decide +kernel
theorem dL_law_1292 : decode cL_law 1292 = .ok (.iadd, 1) := by decide +kernel
theorem dL_law_1293 : decode cL_law 1293 = .ok (.iaload, 1) := by decide +kernel
theorem dL_law_1294 : decode cL_law 1294 = .ok (.invokevirtual 165, 3) := by decide +kernel
theorem dL_law_1297 : decode cL_law 1297 = .ok (.pop, 1) := by decide +kernel
theorem dL_law_1298 : decode cL_law 1298 = .ok (.goto 861, 3) := by decide +kernel
theorem dL_law_1301 : decode cL_law 1301 = .ok (.aload_n 1, 1) := by decide +kernel
theorem dL_law_1302 : decode cL_law 1302 = .ok (.aload_n 0, 1) := by decide +kernel
theorem dL_law_1303 : decode cL_law 1303 = .ok (.iload_n 3, 1) := by decide +kernel
theorem dL_law_1304 : decode cL_law 1304 = .ok (.iconst 1, 1) := by decide +kernel
theorem dL_law_1305 : decode cL_law 1305 = .ok (.iadd, 1) := by decide +kernel
theorem dL_law_1306 : decode cL_law 1306 = .ok (.iaload, 1) := by decide +kernel
theorem dL_law_1307 : decode cL_law 1307 = .ok (.aload_n 0, 1) := by decide +kernel
theorem dL_law_1308 : decode cL_law 1308 = .ok (.iload_n 3, 1) := by decide +kernel
theorem dL_law_1309 : decode cL_law 1309 = .ok (.iconst 2, 1) := by decide +kernel
theorem dL_law_1310 : decode cL_law 1310 = .ok (.iadd, 1) := by decide +kernel
theorem dL_law_1311 : decode cL_law 1311 = .ok (.iaload, 1) := by decide +kernel
theorem dL_law_1312 : decode cL_law 1312 = .ok (.aload_n 0, 1) := by decide +kernel
theorem dL_law_1313 : decode cL_law 1313 = .ok (.iload_n 3, 1) := by decide +kernel
theorem dL_law_1314 : decode cL_law 1314 = .ok (.iconst 3, 1) := by decide +kernel
theorem dL_law_1315 : decode cL_law 1315 = .ok (.iadd, 1) := by decide +kernel
theorem dL_law_1316 : decode cL_law 1316 = .ok (.iaload, 1) := by decide +kernel
theorem dL_law_1317 : decode cL_law 1317 = .ok (.invokevirtual 166, 3) := by decide +kernel
theorem dL_law_1320 : decode cL_law 1320 = .ok (.pop, 1) := by decide +kernel
theorem dL_law_1321 : decode cL_law 1321 = .ok (.aload_n 2, 1) := by decide +kernel
theorem dL_law_1322 : decode cL_law 1322 = .ok (.aload_n 0, 1) := by decide +kernel
theorem dL_law_1323 : decode cL_law 1323 = .ok (.iload_n 3, 1) := by decide +kernel
theorem dL_law_1324 : decode cL_law 1324 = .ok (.iconst 1, 1) := by decide +kernel
theorem dL_law_1325 : decode cL_law 1325 = .ok (.iadd, 1) := by decide +kernel
theorem dL_law_1326 : decode cL_law 1326 = .ok (.iaload, 1) := by decide +kernel
theorem dL_law_1327 : decode cL_law 1327 = .ok (.aload_n 0, 1) := by decide +kernel
theorem dL_law_1328 : decode cL_law 1328 = .ok (.iload_n 3, 1) := by decide +kernel
theorem dL_law_1329 : decode cL_law 1329 = .ok (.iconst 2, 1) := by decide +kernel
theorem dL_law_1330 : decode cL_law 1330 = .ok (.iadd, 1) := by decide +kernel
theorem dL_law_1331 : decode cL_law 1331 = .ok (.iaload, 1) := by decide +kernel
theorem dL_law_1332 : decode cL_law 1332 = .ok (.aload_n 0, 1) := by decide +kernel
theorem dL_law_1333 : decode cL_law 1333 = .ok (.iload_n 3, 1) := by decide +kernel
theorem dL_law_1334 : decode cL_law 1334 = .ok (.iconst 3, 1) := by decide +kernel
theorem dL_law_1335 : decode cL_law 1335 = .ok (.iadd, 1) := by decide +kernel
theorem dL_law_1336 : decode cL_law 1336 = .ok (.iaload, 1) := by decide +kernel
theorem dL_law_1337 : decode cL_law 1337 = .ok (.invokevirtual 169, 3) := by decide +kernel
theorem dL_law_1340 : decode cL_law 1340 = .ok (.pop, 1) := by decide +kernel
theorem dL_law_1341 : decode cL_law 1341 = .ok (.goto 818, 3) := by decide +kernel
theorem dL_law_1344 : decode cL_law 1344 = .ok (.aload_n 1, 1) := by decide +kernel
theorem dL_law_1345 : decode cL_law 1345 = .ok (.aload_n 0, 1) := by decide +kernel
theorem dL_law_1346 : decode cL_law 1346 = .ok (.iload_n 3, 1) := by decide +kernel
theorem dL_law_1347 : decode cL_law 1347 = .ok (.iconst 1, 1) := by decide +kernel
theorem dL_law_1348 : decode cL_law 1348 = .ok (.iadd, 1) := by decide +kernel
theorem dL_law_1349 : decode cL_law 1349 = .ok (.iaload, 1) := by decide +kernel
theorem dL_law_1350 : decode cL_law 1350 = .ok (.aload_n 0, 1) := by decide +kernel
theorem dL_law_1351 : decode cL_law 1351 = .ok (.iload_n 3, 1) := by decide +kernel
theorem dL_law_1352 : decode cL_law 1352 = .ok (.iconst 2, 1) := by decide +kernel
theorem dL_law_1353 : decode cL_law 1353 = .ok (.iadd, 1) := by decide +kernel
theorem dL_law_1354 : decode cL_law 1354 = .ok (.iaload, 1) := by decide +kernel
theorem dL_law_1355 : decode cL_law 1355 = .ok (.aload_n 0, 1) := by decide +kernel
theorem dL_law_1356 : decode cL_law 1356 = .ok (.iload_n 3, 1) := by decide +kernel
theorem dL_law_1357 : decode cL_law 1357 = .ok (.iconst 3, 1) := by decide +kernel
theorem dL_law_1358 : decode cL_law 1358 = .ok (.iadd, 1) := by decide +kernel
theorem dL_law_1359 : decode cL_law 1359 = .ok (.iaload, 1) := by decide +kernel
theorem dL_law_1360 : decode cL_law 1360 = .ok (.invokevirtual 170, 3) := by decide +kernel
theorem dL_law_1363 : decode cL_law 1363 = .ok (.pop, 1) := by decide +kernel
theorem dL_law_1364 : decode cL_law 1364 = .ok (.aload_n 2, 1) := by decide +kernel
theorem dL_law_1365 : decode cL_law 1365 = .ok (.aload_n 0, 1) := by decide +kernel
theorem dL_law_1366 : decode cL_law 1366 = .ok (.iload_n 3, 1) := by decide +kernel
theorem dL_law_1367 : decode cL_law 1367 = .ok (.iconst 1, 1) := by decide +kernel
theorem dL_law_1368 : decode cL_law 1368 = .ok (.iadd, 1) := by decide +kernel
theorem dL_law_1369 : decode cL_law 1369 = .ok (.iaload, 1) := by decide +kernel
theorem dL_law_1370 : decode cL_law 1370 = .ok (.aload_n 0, 1) := by decide +kernel
theorem dL_law_1371 : decode cL_law 1371 = .ok (.iload_n 3, 1) := by decide +kernel
theorem dL_law_1372 : decode cL_law 1372 = .ok (.iconst 2, 1) := by decide +kernel
theorem dL_law_1373 : decode cL_law 1373 = .ok (.iadd, 1) := by decide +kernel
theorem dL_law_1374 : decode cL_law 1374 = .ok (.iaload, 1) := by decide +kernel
theorem dL_law_1375 : decode cL_law 1375 = .ok (.aload_n 0, 1) := by decide +kernel
theorem dL_law_1376 : decode cL_law 1376 = .ok (.iload_n 3, 1) := by decide +kernel
theorem dL_law_1377 : decode cL_law 1377 = .ok (.iconst 3, 1) := by decide +kernel
theorem dL_law_1378 : decode cL_law 1378 = .ok (.iadd, 1) := by decide +kernel
theorem dL_law_1379 : decode cL_law 1379 = .ok (.iaload, 1) := by decide +kernel
theorem dL_law_1380 : decode cL_law 1380 = .ok (.invokevirtual 173, 3) := by decide +kernel
theorem dL_law_1383 : decode cL_law 1383 = .ok (.pop, 1) := by decide +kernel
theorem dL_law_1384 : decode cL_law 1384 = .ok (.goto 775, 3) := by decide +kernel
theorem dL_law_1387 : decode cL_law 1387 = .ok (.aload_n 1, 1) := by decide +kernel
theorem dL_law_1388 : decode cL_law 1388 = .ok (.aload_n 0, 1) := by decide +kernel
theorem dL_law_1389 : decode cL_law 1389 = .ok (.iload_n 3, 1) := by decide +kernel
theorem dL_law_1390 : decode cL_law 1390 = .ok (.iconst 1, 1) := by decide +kernel
theorem dL_law_1391 : decode cL_law 1391 = .ok (.iadd, 1) := by decide +kernel
theorem dL_law_1392 : decode cL_law 1392 = .ok (.iaload, 1) := by decide +kernel
theorem dL_law_1393 : decode cL_law 1393 = .ok (.invokevirtual 174, 3) := by decide +kernel
theorem dL_law_1396 : decode cL_law 1396 = .ok (.pop, 1) := by decide +kernel
theorem dL_law_1397 : decode cL_law 1397 = .ok (.aload_n 2, 1) := by decide +kernel
theorem dL_law_1398 : decode cL_law 1398 = .ok (.aload_n 0, 1) := by decide +kernel
theorem dL_law_1399 : decode cL_law 1399 = .ok (.iload_n 3, 1) := by decide +kernel
theorem dL_law_1400 : decode cL_law 1400 = .ok (.iconst 1, 1) := by decide +kernel
theorem dL_law_1401 : decode cL_law 1401 = .ok (.iadd, 1) := by decide +kernel
theorem dL_law_1402 : decode cL_law 1402 = .ok (.iaload, 1) := by decide +kernel
theorem dL_law_1403 : decode cL_law 1403 = .ok (.invokevirtual 177, 3) := by decide +kernel
theorem dL_law_1406 : decode cL_law 1406 = .ok (.pop, 1) := by decide +kernel
theorem dL_law_1407 : decode cL_law 1407 = .ok (.goto 752, 3) := by decide +kernel
theorem dL_law_1410 : decode cL_law 1410 = .ok (.aload_n 1, 1) := by decide +kernel
theorem dL_law_1411 : decode cL_law 1411 = .ok (.aload_n 0, 1) := by decide +kernel
theorem dL_law_1412 : decode cL_law 1412 = .ok (.iload_n 3, 1) := by decide +kernel
theorem dL_law_1413 : decode cL_law 1413 = .ok (.iconst 1, 1) := by decide +kernel
theorem dL_law_1414 : decode cL_law 1414 = .ok (.iadd, 1) := by decide +kernel
theorem dL_law_1415 : decode cL_law 1415 = .ok (.iaload, 1) := by decide +kernel
theorem dL_law_1416 : decode cL_law 1416 = .ok (.aload_n 0, 1) := by decide +kernel
theorem dL_law_1417 : decode cL_law 1417 = .ok (.iload_n 3, 1) := by decide +kernel
theorem dL_law_1418 : decode cL_law 1418 = .ok (.iconst 2, 1) := by decide +kernel
theorem dL_law_1419 : decode cL_law 1419 = .ok (.iadd, 1) := by decide +kernel
theorem dL_law_1420 : decode cL_law 1420 = .ok (.iaload, 1) := by decide +kernel
theorem dL_law_1421 : decode cL_law 1421 = .ok (.invokevirtual 178, 3) := by decide +kernel
theorem dL_law_1424 : decode cL_law 1424 = .ok (.pop, 1) := by decide +kernel
theorem dL_law_1425 : decode cL_law 1425 = .ok (.aload_n 2, 1) := by decide +kernel
theorem dL_law_1426 : decode cL_law 1426 = .ok (.aload_n 0, 1) := by decide +kernel
theorem dL_law_1427 : decode cL_law 1427 = .ok (.iload_n 3, 1) := by decide +kernel
theorem dL_law_1428 : decode cL_law 1428 = .ok (.iconst 1, 1) := by decide +kernel
theorem dL_law_1429 : decode cL_law 1429 = .ok (.iadd, 1) := by decide +kernel
theorem dL_law_1430 : decode cL_law 1430 = .ok (.iaload, 1) := by decide +kernel
theorem dL_law_1431 : decode cL_law 1431 = .ok (.aload_n 0, 1) := by decide +kernel
theorem dL_law_1432 : decode cL_law 1432 = .ok (.iload_n 3, 1) := by decide +kernel
theorem dL_law_1433 : decode cL_law 1433 = .ok (.iconst 2, 1) := by decide +kernel
theorem dL_law_1434 : decode cL_law 1434 = .ok (.iadd, 1) := by decide +kernel
theorem dL_law_1435 : decode cL_law 1435 = .ok (.iaload, 1) := by decide +kernel
theorem dL_law_1436 : decode cL_law 1436 = .ok (.invokevirtual 181, 3) := by decide +kernel
theorem dL_law_1439 : decode cL_law 1439 = .ok (.pop, 1) := by decide +kernel
theorem dL_law_1440 : decode cL_law 1440 = .ok (.goto 719, 3) := by decide +kernel
theorem dL_law_1443 : decode cL_law 1443 = .ok (.aload_n 1, 1) := by decide +kernel
theorem dL_law_1444 : decode cL_law 1444 = .ok (.aload_n 0, 1) := by decide +kernel
theorem dL_law_1445 : decode cL_law 1445 = .ok (.iload_n 3, 1) := by decide +kernel
theorem dL_law_1446 : decode cL_law 1446 = .ok (.iconst 1, 1) := by decide +kernel
theorem dL_law_1447 : decode cL_law 1447 = .ok (.iadd, 1) := by decide +kernel
theorem dL_law_1448 : decode cL_law 1448 = .ok (.iaload, 1) := by decide +kernel
theorem dL_law_1449 : decode cL_law 1449 = .ok (.invokevirtual 182, 3) := by decide +kernel
theorem dL_law_1452 : decode cL_law 1452 = .ok (.pop, 1) := by decide +kernel
theorem dL_law_1453 : decode cL_law 1453 = .ok (.aload_n 2, 1) := by decide +kernel
theorem dL_law_1454 : decode cL_law 1454 = .ok (.aload_n 0, 1) := by decide +kernel
theorem dL_law_1455 : decode cL_law 1455 = .ok (.iload_n 3, 1) := by decide +kernel
theorem dL_law_1456 : decode cL_law 1456 = .ok (.iconst 1, 1) := by decide +kernel
theorem dL_law_1457 : decode cL_law 1457 = .ok (.iadd, 1) := by decide +kernel
theorem dL_law_1458 : decode cL_law 1458 = .ok (.iaload, 1) := by decide +kernel
theorem dL_law_1459 : decode cL_law 1459 = .ok (.invokevirtual 185, 3) := by decide +kernel
theorem dL_law_1462 : decode cL_law 1462 = .ok (.pop, 1) := by decide +kernel
theorem dL_law_1463 : decode cL_law 1463 = .ok (.goto 696, 3) := by decide +kernel
theorem dL_law_1466 : decode cL_law 1466 = .ok (.aload_n 1, 1) := by decide +kernel
theorem dL_law_1467 : decode cL_law 1467 = .ok (.aload_n 0, 1) := by decide +kernel
theorem dL_law_1468 : decode cL_law 1468 = .ok (.iload_n 3, 1) := by decide +kernel
theorem dL_law_1469 : decode cL_law 1469 = .ok (.iconst 1, 1) := by decide +kernel
theorem dL_law_1470 : decode cL_law 1470 = .ok (.iadd, 1) := by decide +kernel
theorem dL_law_1471 : decode cL_law 1471 = .ok (.iaload, 1) := by decide +kernel
theorem dL_law_1472 : decode cL_law 1472 = .ok (.invokevirtual 186, 3) := by decide +kernel
theorem dL_law_1475 : decode cL_law 1475 = .ok (.pop, 1) := by decide +kernel
theorem dL_law_1476 : decode cL_law 1476 = .ok (.aload_n 2, 1) := by decide +kernel
theorem dL_law_1477 : decode cL_law 1477 = .ok (.aload_n 0, 1) := by decide +kernel
theorem dL_law_1478 : decode cL_law 1478 = .ok (.iload_n 3, 1) := by decide +kernel
theorem dL_law_1479 : decode cL_law 1479 = .ok (.iconst 1, 1) := by decide +kernel
theorem dL_law_1480 : decode cL_law 1480 = .ok (.iadd, 1) := by decide +kernel
theorem dL_law_1481 : decode cL_law 1481 = .ok (.iaload, 1) := by decide +kernel
theorem dL_law_1482 : decode cL_law 1482 = .ok (.invokevirtual 189, 3) := by decide +kernel
theorem dL_law_1485 : decode cL_law 1485 = .ok (.pop, 1) := by decide +kernel
theorem dL_law_1486 : decode cL_law 1486 = .ok (.goto 673, 3) := by decide +kernel
theorem dL_law_1489 : decode cL_law 1489 = .ok (.aload_n 1, 1) := by decide +kernel
theorem dL_law_1490 : decode cL_law 1490 = .ok (.aload_n 0, 1) := by decide +kernel
theorem dL_law_1491 : decode cL_law 1491 = .ok (.iload_n 3, 1) := by decide +kernel
theorem dL_law_1492 : decode cL_law 1492 = .ok (.iconst 1, 1) := by decide +kernel
theorem dL_law_1493 : decode cL_law 1493 = .ok (.iadd, 1) := by decide +kernel
theorem dL_law_1494 : decode cL_law 1494 = .ok (.iaload, 1) := by decide +kernel
theorem dL_law_1495 : decode cL_law 1495 = .ok (.aload_n 0, 1) := by decide +kernel
theorem dL_law_1496 : decode cL_law 1496 = .ok (.iload_n 3, 1) := by decide +kernel
theorem dL_law_1497 : decode cL_law 1497 = .ok (.iconst 2, 1) := by decide +kernel
theorem dL_law_1498 : decode cL_law 1498 = .ok (.iadd, 1) := by decide +kernel
theorem dL_law_1499 : decode cL_law 1499 = .ok (.iaload, 1) := by decide +kernel
theorem dL_law_1500 : decode cL_law 1500 = .ok (.invokevirtual 190, 3) := by decide +kernel
theorem dL_law_1503 : decode cL_law 1503 = .ok (.pop, 1) := by decide +kernel
theorem dL_law_1504 : decode cL_law 1504 = .ok (.aload_n 2, 1) := by decide +kernel
theorem dL_law_1505 : decode cL_law 1505 = .ok (.aload_n 0, 1) := by decide +kernel
theorem dL_law_1506 : decode cL_law 1506 = .ok (.iload_n 3, 1) := by decide +kernel
theorem dL_law_1507 : decode cL_law 1507 = .ok (.iconst 1, 1) := by decide +kernel
theorem dL_law_1508 : decode cL_law 1508 = .ok (.iadd, 1) := by decide +kernel
theorem dL_law_1509 : decode cL_law 1509 = .ok (.iaload, 1) := by decide +kernel
theorem dL_law_1510 : decode cL_law 1510 = .ok (.aload_n 0, 1) := by decide +kernel
theorem dL_law_1511 : decode cL_law 1511 = .ok (.iload_n 3, 1) := by decide +kernel
theorem dL_law_1512 : decode cL_law 1512 = .ok (.iconst 2, 1) := by decide +kernel
theorem dL_law_1513 : decode cL_law 1513 = .ok (.iadd, 1) := by decide +kernel
theorem dL_law_1514 : decode cL_law 1514 = .ok (.iaload, 1) := by decide +kernel
theorem dL_law_1515 : decode cL_law 1515 = .ok (.invokevirtual 193, 3) := by decide +kernel
theorem dL_law_1518 : decode cL_law 1518 = .ok (.pop, 1) := by decide +kernel
theorem dL_law_1519 : decode cL_law 1519 = .ok (.goto 640, 3) := by decide +kernel
theorem dL_law_1522 : decode cL_law 1522 = .ok (.aload_n 1, 1) := by decide +kernel
theorem dL_law_1523 : decode cL_law 1523 = .ok (.aload_n 0, 1) := by decide +kernel
theorem dL_law_1524 : decode cL_law 1524 = .ok (.iload_n 3, 1) := by decide +kernel
theorem dL_law_1525 : decode cL_law 1525 = .ok (.iconst 1, 1) := by decide +kernel
theorem dL_law_1526 : decode cL_law 1526 = .ok (.iadd, 1) := by decide +kernel
theorem dL_law_1527 : decode cL_law 1527 = .ok (.iaload, 1) := by decide +kernel
theorem dL_law_1528 : decode cL_law 1528 = .ok (.invokevirtual 194, 3) := by decide +kernel
theorem dL_law_1531 : decode cL_law 1531 = .ok (.pop, 1) := by decide +kernel
theorem dL_law_1532 : decode cL_law 1532 = .ok (.aload_n 2, 1) := by decide +kernel
theorem dL_law_1533 : decode cL_law 1533 = .ok (.aload_n 0, 1) := by decide +kernel
theorem dL_law_1534 : decode cL_law 1534 = .ok (.iload_n 3, 1) := by decide +kernel
theorem dL_law_1535 : decode cL_law 1535 = .ok (.iconst 1, 1) := by decide +kernel
theorem dL_law_1536 : decode cL_law 1536 = .ok (.iadd, 1) := by decide +kernel
theorem dL_law_1537 : decode cL_law 1537 = .ok (.iaload, 1) := by decide +kernel
theorem dL_law_1538 : decode cL_law 1538 = .ok (.invokevirtual 197, 3) := by decide +kernel
theorem dL_law_1541 : decode cL_law 1541 = .ok (.pop, 1) := by decide +kernel
theorem dL_law_1542 : decode cL_law 1542 = .ok (.goto 617, 3) := by decide +kernel
theorem dL_law_1545 : decode cL_law 1545 = .ok (.aload_n 1, 1) := by decide +kernel
theorem dL_law_1546 : decode cL_law 1546 = .ok (.invokevirtual 198, 3) := by decide +kernel
theorem dL_law_1549 : decode cL_law 1549 = .ok (.pop, 1) := by decide +kernel
theorem dL_law_1550 : decode cL_law 1550 = .ok (.aload_n 2, 1) := by decide +kernel
theorem dL_law_1551 : decode cL_law 1551 = .ok (.invokevirtual 201, 3) := by decide +kernel
theorem dL_law_1554 : decode cL_law 1554 = .ok (.pop, 1) := by decide +kernel
theorem dL_law_1555 : decode cL_law 1555 = .ok (.goto 604, 3) := by decide +kernel
theorem dL_law_1558 : decode cL_law 1558 = .ok (.aload_n 1, 1) := by decide +kernel
theorem dL_law_1559 : decode cL_law 1559 = .ok (.aload_n 0, 1) := by decide +kernel
theorem dL_law_1560 : decode cL_law 1560 = .ok (.iload_n 3, 1) := by decide +kernel
theorem dL_law_1561 : decode cL_law 1561 = .ok (.iconst 1, 1) := by decide +kernel
theorem dL_law_1562 : decode cL_law 1562 = .ok (.iadd, 1) := by decide +kernel
theorem dL_law_1563 : decode cL_law 1563 = .ok (.iaload, 1) := by decide +kernel
theorem dL_law_1564 : decode cL_law 1564 = .ok (.invokevirtual 202, 3) := by decide +kernel
theorem dL_law_1567 : decode cL_law 1567 = .ok (.pop, 1) := by decide +kernel
theorem dL_law_1568 : decode cL_law 1568 = .ok (.aload_n 2, 1) := by decide +kernel
theorem dL_law_1569 : decode cL_law 1569 = .ok (.aload_n 0, 1) := by decide +kernel
theorem dL_law_1570 : decode cL_law 1570 = .ok (.iload_n 3, 1) := by decide +kernel
theorem dL_law_1571 : decode cL_law 1571 = .ok (.iconst 1, 1) := by decide +kernel
theorem dL_law_1572 : decode cL_law 1572 = .ok (.iadd, 1) := by decide +kernel
theorem dL_law_1573 : decode cL_law 1573 = .ok (.iaload, 1) := by decide +kernel
theorem dL_law_1574 : decode cL_law 1574 = .ok (.invokevirtual 205, 3) := by decide +kernel
theorem dL_law_1577 : decode cL_law 1577 = .ok (.pop, 1) := by decide +kernel
theorem dL_law_1578 : decode cL_law 1578 = .ok (.goto 581, 3) := by decide +kernel
theorem dL_law_1581 : decode cL_law 1581 = .ok (.aload_n 1, 1) := by decide +kernel
theorem dL_law_1582 : decode cL_law 1582 = .ok (.aload_n 0, 1) := by decide +kernel
theorem dL_law_1583 : decode cL_law 1583 = .ok (.iload_n 3, 1) := by decide +kernel
theorem dL_law_1584 : decode cL_law 1584 = .ok (.iconst 1, 1) := by decide +kernel
theorem dL_law_1585 : decode cL_law 1585 = .ok (.iadd, 1) := by decide +kernel
theorem dL_law_1586 : decode cL_law 1586 = .ok (.iaload, 1) := by decide +kernel
theorem dL_law_1587 : decode cL_law 1587 = .ok (.aload_n 0, 1) := by decide +kernel
theorem dL_law_1588 : decode cL_law 1588 = .ok (.iload_n 3, 1) := by decide +kernel
theorem dL_law_1589 : decode cL_law 1589 = .ok (.iconst 2, 1) := by decide +kernel
theorem dL_law_1590 : decode cL_law 1590 = .ok (.iadd, 1) := by decide +kernel
theorem dL_law_1591 : decode cL_law 1591 = .ok (.iaload, 1) := by decide +kernel
theorem dL_law_1592 : decode cL_law 1592 = .ok (.invokevirtual 206, 3) := by decide +kernel
theorem dL_law_1595 : decode cL_law 1595 = .ok (.pop, 1) := by decide +kernel
theorem dL_law_1596 : decode cL_law 1596 = .ok (.aload_n 2, 1) := by decide +kernel
theorem dL_law_1597 : decode cL_law 1597 = .ok (.aload_n 0, 1) := by decide +kernel
theorem dL_law_1598 : decode cL_law 1598 = .ok (.iload_n 3, 1) := by decide +kernel
theorem dL_law_1599 : decode cL_law 1599 = .ok (.iconst 1, 1) := by decide +kernel
theorem dL_law_1600 : decode cL_law 1600 = .ok (.iadd, 1) := by decide +kernel
theorem dL_law_1601 : decode cL_law 1601 = .ok (.iaload, 1) := by decide +kernel
theorem dL_law_1602 : decode cL_law 1602 = .ok (.aload_n 0, 1) := by decide +kernel
theorem dL_law_1603 : decode cL_law 1603 = .ok (.iload_n 3, 1) := by decide +kernel
theorem dL_law_1604 : decode cL_law 1604 = .ok (.iconst 2, 1) := by decide +kernel
theorem dL_law_1605 : decode cL_law 1605 = .ok (.iadd, 1) := by decide +kernel
theorem dL_law_1606 : decode cL_law 1606 = .ok (.iaload, 1) := by decide +kernel
theorem dL_law_1607 : decode cL_law 1607 = .ok (.invokevirtual 209, 3) := by decide +kernel
theorem dL_law_1610 : decode cL_law 1610 = .ok (.pop, 1) := by decide +kernel
theorem dL_law_1611 : decode cL_law 1611 = .ok (.goto 548, 3) := by decide +kernel
theorem dL_law_1614 : decode cL_law 1614 = .ok (.aload_n 1, 1) := by decide +kernel
theorem dL_law_1615 : decode cL_law 1615 = .ok (.aload_n 0, 1) := by decide +kernel
theorem dL_law_1616 : decode cL_law 1616 = .ok (.iload_n 3, 1) := by decide +kernel
theorem dL_law_1617 : decode cL_law 1617 = .ok (.iconst 1, 1) := by decide +kernel
theorem dL_law_1618 : decode cL_law 1618 = .ok (.iadd, 1) := by decide +kernel
theorem dL_law_1619 : decode cL_law 1619 = .ok (.iaload, 1) := by decide +kernel
theorem dL_law_1620 : decode cL_law 1620 = .ok (.invokevirtual 210, 3) := by decide +kernel
theorem dL_law_1623 : decode cL_law 1623 = .ok (.pop, 1) := by decide +kernel
theorem dL_law_1624 : decode cL_law 1624 = .ok (.aload_n 2, 1) := by decide +kernel
theorem dL_law_1625 : decode cL_law 1625 = .ok (.aload_n 0, 1) := by decide +kernel
theorem dL_law_1626 : decode cL_law 1626 = .ok (.iload_n 3, 1) := by decide +kernel
theorem dL_law_1627 : decode cL_law 1627 = .ok (.iconst 1, 1) := by decide +kernel
theorem dL_law_1628 : decode cL_law 1628 = .ok (.iadd, 1) := by decide +kernel
theorem dL_law_1629 : decode cL_law 1629 = .ok (.iaload, 1) := by decide +kernel
theorem dL_law_1630 : decode cL_law 1630 = .ok (.invokevirtual 213, 3) := by decide +kernel
theorem dL_law_1633 : decode cL_law 1633 = .ok (.pop, 1) := by decide +kernel
theorem dL_law_1634 : decode cL_law 1634 = .ok (.goto 525, 3) := by decide +kernel
theorem dL_law_1637 : decode cL_law 1637 = .ok (.aload_n 1, 1) := by decide +kernel
theorem dL_law_1638 : decode cL_law 1638 = .ok (.aload_n 0, 1) := by decide +kernel
theorem dL_law_1639 : decode cL_law 1639 = .ok (.iload_n 3, 1) := by decide +kernel
theorem dL_law_1640 : decode cL_law 1640 = .ok (.iconst 1, 1) := by decide +kernel
theorem dL_law_1641 : decode cL_law 1641 = .ok (.iadd, 1) := by decide +kernel
theorem dL_law_1642 : decode cL_law 1642 = .ok (.iaload, 1) := by decide +kernel
theorem dL_law_1643 : decode cL_law 1643 = .ok (.aload_n 0, 1) := by decide +kernel
theorem dL_law_1644 : decode cL_law 1644 = .ok (.iload_n 3, 1) := by decide +kernel
theorem dL_law_1645 : decode cL_law 1645 = .ok (.iconst 2, 1) := by decide +kernel
theorem dL_law_1646 : decode cL_law 1646 = .ok (.iadd, 1) := by decide +kernel
theorem dL_law_1647 : decode cL_law 1647 = .ok (.iaload, 1) := by decide +kernel
theorem dL_law_1648 : decode cL_law 1648 = .ok (.invokevirtual 214, 3) := by decide +kernel
theorem dL_law_1651 : decode cL_law 1651 = .ok (.pop, 1) := by decide +kernel
theorem dL_law_1652 : decode cL_law 1652 = .ok (.aload_n 2, 1) := by decide +kernel
theorem dL_law_1653 : decode cL_law 1653 = .ok (.aload_n 0, 1) := by decide +kernel
theorem dL_law_1654 : decode cL_law 1654 = .ok (.iload_n 3, 1) := by decide +kernel
theorem dL_law_1655 : decode cL_law 1655 = .ok (.iconst 1, 1) := by decide +kernel
theorem dL_law_1656 : decode cL_law 1656 = .ok (.iadd, 1) := by decide +kernel
theorem dL_law_1657 : decode cL_law 1657 = .ok (.iaload, 1) := by decide +kernel
theorem dL_law_1658 : decode cL_law 1658 = .ok (.aload_n 0, 1) := by decide +kernel
theorem dL_law_1659 : decode cL_law 1659 = .ok (.iload_n 3, 1) := by decide +kernel
theorem dL_law_1660 : decode cL_law 1660 = .ok (.iconst 2, 1) := by decide +kernel
theorem dL_law_1661 : decode cL_law 1661 = .ok (.iadd, 1) := by decide +kernel
theorem dL_law_1662 : decode cL_law 1662 = .ok (.iaload, 1) := by decide +kernel
theorem dL_law_1663 : decode cL_law 1663 = .ok (.invokevirtual 217, 3) := by decide +kernel
theorem dL_law_1666 : decode cL_law 1666 = .ok (.pop, 1) := by decide +kernel
theorem dL_law_1667 : decode cL_law 1667 = .ok (.goto 492, 3) := by decide +kernel
theorem dL_law_1670 : decode cL_law 1670 = .ok (.aload_n 1, 1) := by decide +kernel
theorem dL_law_1671 : decode cL_law 1671 = .ok (.aload_n 0, 1) := by decide +kernel
theorem dL_law_1672 : decode cL_law 1672 = .ok (.iload_n 3, 1) := by decide +kernel
theorem dL_law_1673 : decode cL_law 1673 = .ok (.iconst 1, 1) := by decide +kernel
theorem dL_law_1674 : decode cL_law 1674 = .ok (.iadd, 1) := by decide +kernel
theorem dL_law_1675 : decode cL_law 1675 = .ok (.iaload, 1) := by decide +kernel
theorem dL_law_1676 : decode cL_law 1676 = .ok (.aload_n 0, 1) := by decide +kernel
theorem dL_law_1677 : decode cL_law 1677 = .ok (.iload_n 3, 1) := by decide +kernel
theorem dL_law_1678 : decode cL_law 1678 = .ok (.iconst 2, 1) := by decide +kernel
theorem dL_law_1679 : decode cL_law 1679 = .ok (.iadd, 1) := by decide +kernel
theorem dL_law_1680 : decode cL_law 1680 = .ok (.iaload, 1) := by decide +kernel
theorem dL_law_1681 : decode cL_law 1681 = .ok (.aload_n 0, 1) := by decide +kernel
theorem dL_law_1682 : decode cL_law 1682 = .ok (.iload_n 3, 1) := by decide +kernel
theorem dL_law_1683 : decode cL_law 1683 = .ok (.iconst 3, 1) := by decide +kernel
theorem dL_law_1684 : decode cL_law 1684 = .ok (.iadd, 1) := by decide +kernel
theorem dL_law_1685 : decode cL_law 1685 = .ok (.iaload, 1) := by decide +kernel
theorem dL_law_1686 : decode cL_law 1686 = .ok (.invokevirtual 218, 3) := by decide +kernel
theorem dL_law_1689 : decode cL_law 1689 = .ok (.pop, 1) := by decide +kernel
theorem dL_law_1690 : decode cL_law 1690 = .ok (.aload_n 2, 1) := by decide +kernel
theorem dL_law_1691 : decode cL_law 1691 = .ok (.aload_n 0, 1) := by decide +kernel
theorem dL_law_1692 : decode cL_law 1692 = .ok (.iload_n 3, 1) := by decide +kernel
theorem dL_law_1693 : decode cL_law 1693 = .ok (.iconst 1, 1) := by decide +kernel
theorem dL_law_1694 : decode cL_law 1694 = .ok (.iadd, 1) := by decide +kernel
theorem dL_law_1695 : decode cL_law 1695 = .ok (.iaload, 1) := by decide +kernel
theorem dL_law_1696 : decode cL_law 1696 = .ok (.aload_n 0, 1) := by decide +kernel
theorem dL_law_1697 : decode cL_law 1697 = .ok (.iload_n 3, 1) := by decide +kernel
theorem dL_law_1698 : decode cL_law 1698 = .ok (.iconst 2, 1) := by decide +kernel
theorem dL_law_1699 : decode cL_law 1699 = .ok (.iadd, 1) := by decide +kernel
theorem dL_law_1700 : decode cL_law 1700 = .ok (.iaload, 1) := by decide +kernel
theorem dL_law_1701 : decode cL_law 1701 = .ok (.aload_n 0, 1) := by decide +kernel
theorem dL_law_1702 : decode cL_law 1702 = .ok (.iload_n 3, 1) := by decide +kernel
theorem dL_law_1703 : decode cL_law 1703 = .ok (.iconst 3, 1) := by decide +kernel
theorem dL_law_1704 : decode cL_law 1704 = .ok (.iadd, 1) := by decide +kernel
theorem dL_law_1705 : decode cL_law 1705 = .ok (.iaload, 1) := by decide +kernel
theorem dL_law_1706 : decode cL_law 1706 = .ok (.invokevirtual 221, 3) := by decide +kernel
theorem dL_law_1709 : decode cL_law 1709 = .ok (.pop, 1) := by decide +kernel
theorem dL_law_1710 : decode cL_law 1710 = .ok (.goto 449, 3) := by decide +kernel
theorem dL_law_1713 : decode cL_law 1713 = .ok (.aload_n 1, 1) := by decide +kernel
theorem dL_law_1714 : decode cL_law 1714 = .ok (.invokevirtual 222, 3) := by decide +kernel
theorem dL_law_1717 : decode cL_law 1717 = .ok (.pop, 1) := by decide +kernel
theorem dL_law_1718 : decode cL_law 1718 = .ok (.aload_n 2, 1) := by decide +kernel
theorem dL_law_1719 : decode cL_law 1719 = .ok (.invokevirtual 225, 3) := by decide +kernel
theorem dL_law_1722 : decode cL_law 1722 = .ok (.pop, 1) := by decide +kernel
theorem dL_law_1723 : decode cL_law 1723 = .ok (.goto 436, 3) := by decide +kernel
theorem dL_law_1726 : decode cL_law 1726 = .ok (.aload_n 1, 1) := by decide +kernel
theorem dL_law_1727 : decode cL_law 1727 = .ok (.invokevirtual 226, 3) := by decide +kernel
theorem dL_law_1730 : decode cL_law 1730 = .ok (.pop, 1) := by decide +kernel
theorem dL_law_1731 : decode cL_law 1731 = .ok (.aload_n 2, 1) := by decide +kernel
theorem dL_law_1732 : decode cL_law 1732 = .ok (.invokevirtual 229, 3) := by decide +kernel
theorem dL_law_1735 : decode cL_law 1735 = .ok (.pop, 1) := by decide +kernel
theorem dL_law_1736 : decode cL_law 1736 = .ok (.goto 423, 3) := by decide +kernel
theorem dL_law_1739 : decode cL_law 1739 = .ok (.aload_n 1, 1) := by decide +kernel
theorem dL_law_1740 : decode cL_law 1740 = .ok (.aload_n 0, 1) := by decide +kernel
theorem dL_law_1741 : decode cL_law 1741 = .ok (.iload_n 3, 1) := by decide +kernel
theorem dL_law_1742 : decode cL_law 1742 = .ok (.iconst 1, 1) := by decide +kernel
theorem dL_law_1743 : decode cL_law 1743 = .ok (.iadd, 1) := by decide +kernel
theorem dL_law_1744 : decode cL_law 1744 = .ok (.iaload, 1) := by decide +kernel
theorem dL_law_1745 : decode cL_law 1745 = .ok (.aload_n 0, 1) := by decide +kernel
theorem dL_law_1746 : decode cL_law 1746 = .ok (.iload_n 3, 1) := by decide +kernel
theorem dL_law_1747 : decode cL_law 1747 = .ok (.iconst 2, 1) := by decide +kernel
theorem dL_law_1748 : decode cL_law 1748 = .ok (.iadd, 1) := by decide +kernel
theorem dL_law_1749 : decode cL_law 1749 = .ok (.iaload, 1) := by decide +kernel
theorem dL_law_1750 : decode cL_law 1750 = .ok (.aload_n 0, 1) := by decide +kernel
theorem dL_law_1751 : decode cL_law 1751 = .ok (.iload_n 3, 1) := by decide +kernel
theorem dL_law_1752 : decode cL_law 1752 = .ok (.iconst 3, 1) := by decide +kernel
theorem dL_law_1753 : decode cL_law 1753 = .ok (.iadd, 1) := by decide +kernel
theorem dL_law_1754 : decode cL_law 1754 = .ok (.iaload, 1) := by decide +kernel
theorem dL_law_1755 : decode cL_law 1755 = .ok (.invokevirtual 230, 3) := by decide +kernel
theorem dL_law_1758 : decode cL_law 1758 = .ok (.pop, 1) := by decide +kernel
theorem dL_law_1759 : decode cL_law 1759 = .ok (.aload_n 2, 1) := by decide +kernel
theorem dL_law_1760 : decode cL_law 1760 = .ok (.aload_n 0, 1) := by decide +kernel
theorem dL_law_1761 : decode cL_law 1761 = .ok (.iload_n 3, 1) := by decide +kernel
theorem dL_law_1762 : decode cL_law 1762 = .ok (.iconst 1, 1) := by decide +kernel
theorem dL_law_1763 : decode cL_law 1763 = .ok (.iadd, 1) := by decide +kernel
theorem dL_law_1764 : decode cL_law 1764 = .ok (.iaload, 1) := by decide +kernel
theorem dL_law_1765 : decode cL_law 1765 = .ok (.aload_n 0, 1) := by decide +kernel
theorem dL_law_1766 : decode cL_law 1766 = .ok (.iload_n 3, 1) := by decide +kernel
theorem dL_law_1767 : decode cL_law 1767 = .ok (.iconst 2, 1) := by decide +kernel
theorem dL_law_1768 : decode cL_law 1768 = .ok (.iadd, 1) := by decide +kernel
theorem dL_law_1769 : decode cL_law 1769 = .ok (.iaload, 1) := by decide +kernel
theorem dL_law_1770 : decode cL_law 1770 = .ok (.aload_n 0, 1) := by decide +kernel
theorem dL_law_1771 : decode cL_law 1771 = .ok (.iload_n 3, 1) := by decide +kernel
theorem dL_law_1772 : decode cL_law 1772 = .ok (.iconst 3, 1) := by decide +kernel
theorem dL_law_1773 : decode cL_law 1773 = .ok (.iadd, 1) := by decide +kernel
theorem dL_law_1774 : decode cL_law 1774 = .ok (.iaload, 1) := by decide +kernel
theorem dL_law_1775 : decode cL_law 1775 = .ok (.invokevirtual 233, 3) := by decide +kernel
theorem dL_law_1778 : decode cL_law 1778 = .ok (.pop, 1) := by decide +kernel
theorem dL_law_1779 : decode cL_law 1779 = .ok (.goto 380, 3) := by decide +kernel
theorem dL_law_1782 : decode cL_law 1782 = .ok (.aload_n 1, 1) := by decide +kernel
theorem dL_law_1783 : decode cL_law 1783 = .ok (.aload_n 0, 1) := by decide +kernel
theorem dL_law_1784 : decode cL_law 1784 = .ok (.iload_n 3, 1) := by decide +kernel
theorem dL_law_1785 : decode cL_law 1785 = .ok (.iconst 1, 1) := by decide +kernel
theorem dL_law_1786 : decode cL_law 1786 = .ok (.iadd, 1) := by decide +kernel
theorem dL_law_1787 : decode cL_law 1787 = .ok (.iaload, 1) := by decide +kernel
theorem dL_law_1788 : decode cL_law 1788 = .ok (.aload_n 0, 1) := by decide +kernel
theorem dL_law_1789 : decode cL_law 1789 = .ok (.iload_n 3, 1) := by decide +kernel
theorem dL_law_1790 : decode cL_law 1790 = .ok (.iconst 2, 1) := by decide +kernel
theorem dL_law_1791 : decode cL_law 1791 = .ok (.iadd, 1) := by decide +kernel
theorem dL_law_1792 : decode cL_law 1792 = .ok (.iaload, 1) := by decide +kernel
theorem dL_law_1793 : decode cL_law 1793 = .ok (.aload_n 0, 1) := by decide +kernel
theorem dL_law_1794 : decode cL_law 1794 = .ok (.iload_n 3, 1) := by decide +kernel
theorem dL_law_1795 : decode cL_law 1795 = .ok (.iconst 3, 1) := by decide +kernel
theorem dL_law_1796 : decode cL_law 1796 = .ok (.iadd, 1) := by decide +kernel
theorem dL_law_1797 : decode cL_law 1797 = .ok (.iaload, 1) := by decide +kernel
theorem dL_law_1798 : decode cL_law 1798 = .ok (.aload_n 0, 1) := by decide +kernel
theorem dL_law_1799 : decode cL_law 1799 = .ok (.iload_n 3, 1) := by decide +kernel
theorem dL_law_1800 : decode cL_law 1800 = .ok (.iconst 4, 1) := by decide +kernel
theorem dL_law_1801 : decode cL_law 1801 = .ok (.iadd, 1) := by decide +kernel
theorem dL_law_1802 : decode cL_law 1802 = .ok (.iaload, 1) := by decide +kernel
theorem dL_law_1803 : decode cL_law 1803 = .ok (.invokevirtual 234, 3) := by decide +kernel
theorem dL_law_1806 : decode cL_law 1806 = .ok (.pop, 1) := by decide +kernel
theorem dL_law_1807 : decode cL_law 1807 = .ok (.aload_n 2, 1) := by decide +kernel
theorem dL_law_1808 : decode cL_law 1808 = .ok (.aload_n 0, 1) := by decide +kernel
theorem dL_law_1809 : decode cL_law 1809 = .ok (.iload_n 3, 1) := by decide +kernel
theorem dL_law_1810 : decode cL_law 1810 = .ok (.iconst 1, 1) := by decide +kernel
theorem dL_law_1811 : decode cL_law 1811 = .ok (.iadd, 1) := by decide +kernel
theorem dL_law_1812 : decode cL_law 1812 = .ok (.iaload, 1) := by decide +kernel
theorem dL_law_1813 : decode cL_law 1813 = .ok (.aload_n 0, 1) := by decide +kernel
theorem dL_law_1814 : decode cL_law 1814 = .ok (.iload_n 3, 1) := by decide +kernel
theorem dL_law_1815 : decode cL_law 1815 = .ok (.iconst 2, 1) := by decide +kernel
theorem dL_law_1816 : decode cL_law 1816 = .ok (.iadd, 1) := by decide +kernel
theorem dL_law_1817 : decode cL_law 1817 = .ok (.iaload, 1) := by decide +kernel
theorem dL_law_1818 : decode cL_law 1818 = .ok (.aload_n 0, 1) := by decide +kernel
theorem dL_law_1819 : decode cL_law 1819 = .ok (.iload_n 3, 1) := by decide +kernel
theorem dL_law_1820 : decode cL_law 1820 = .ok (.iconst 3, 1) := by decide +kernel
theorem dL_law_1821 : decode cL_law 1821 = .ok (.iadd, 1) := by decide +kernel
theorem dL_law_1822 : decode cL_law 1822 = .ok (.iaload, 1) := by decide +kernel
theorem dL_law_1823 : decode cL_law 1823 = .ok (.aload_n 0, 1) := by decide +kernel
theorem dL_law_1824 : decode cL_law 1824 = .ok (.iload_n 3, 1) := by decide +kernel
theorem dL_law_1825 : decode cL_law 1825 = .ok (.iconst 4, 1) := by decide +kernel
theorem dL_law_1826 : decode cL_law 1826 = .ok (.iadd, 1) := by decide +kernel
theorem dL_law_1827 : decode cL_law 1827 = .ok (.iaload, 1) := by decide +kernel
theorem dL_law_1828 : decode cL_law 1828 = .ok (.invokevirtual 238, 3) := by decide +kernel
theorem dL_law_1831 : decode cL_law 1831 = .ok (.pop, 1) := by decide +kernel
theorem dL_law_1832 : decode cL_law 1832 = .ok (.goto 327, 3) := by decide +kernel
theorem dL_law_1835 : decode cL_law 1835 = .ok (.aload_n 1, 1) := by decide +kernel
theorem dL_law_1836 : decode cL_law 1836 = .ok (.aload_n 0, 1) := by decide +kernel
theorem dL_law_1837 : decode cL_law 1837 = .ok (.iload_n 3, 1) := by decide +kernel
theorem dL_law_1838 : decode cL_law 1838 = .ok (.iconst 1, 1) := by decide +kernel
theorem dL_law_1839 : decode cL_law 1839 = .ok (.iadd, 1) := by decide +kernel
theorem dL_law_1840 : decode cL_law 1840 = .ok (.iaload, 1) := by decide +kernel
theorem dL_law_1841 : decode cL_law 1841 = .ok (.aload_n 0, 1) := by decide +kernel
theorem dL_law_1842 : decode cL_law 1842 = .ok (.iload_n 3, 1) := by decide +kernel
theorem dL_law_1843 : decode cL_law 1843 = .ok (.iconst 2, 1) := by decide +kernel
theorem dL_law_1844 : decode cL_law 1844 = .ok (.iadd, 1) := by decide +kernel
theorem dL_law_1845 : decode cL_law 1845 = .ok (.iaload, 1) := by decide +kernel
theorem dL_law_1846 : decode cL_law 1846 = .ok (.aload_n 0, 1) := by decide +kernel
theorem dL_law_1847 : decode cL_law 1847 = .ok (.iload_n 3, 1) := by decide +kernel
theorem dL_law_1848 : decode cL_law 1848 = .ok (.iconst 3, 1) := by decide +kernel
theorem dL_law_1849 : decode cL_law 1849 = .ok (.iadd, 1) := by decide +kernel
theorem dL_law_1850 : decode cL_law 1850 = .ok (.iaload, 1) := by decide +kernel
theorem dL_law_1851 : decode cL_law 1851 = .ok (.invokevirtual 239, 3) := by decide +kernel
theorem dL_law_1854 : decode cL_law 1854 = .ok (.pop, 1) := by decide +kernel
theorem dL_law_1855 : decode cL_law 1855 = .ok (.aload_n 2, 1) := by decide +kernel
theorem dL_law_1856 : decode cL_law 1856 = .ok (.aload_n 0, 1) := by decide +kernel
theorem dL_law_1857 : decode cL_law 1857 = .ok (.iload_n 3, 1) := by decide +kernel
theorem dL_law_1858 : decode cL_law 1858 = .ok (.iconst 1, 1) := by decide +kernel
theorem dL_law_1859 : decode cL_law 1859 = .ok (.iadd, 1) := by decide +kernel
theorem dL_law_1860 : decode cL_law 1860 = .ok (.iaload, 1) := by decide +kernel
theorem dL_law_1861 : decode cL_law 1861 = .ok (.aload_n 0, 1) := by decide +kernel
theorem dL_law_1862 : decode cL_law 1862 = .ok (.iload_n 3, 1) := by decide +kernel
theorem dL_law_1863 : decode cL_law 1863 = .ok (.iconst 2, 1) := by decide +kernel
theorem dL_law_1864 : decode cL_law 1864 = .ok (.iadd, 1) := by decide +kernel
theorem dL_law_1865 : decode cL_law 1865 = .ok (.iaload, 1) := by decide +kernel
theorem dL_law_1866 : decode cL_law 1866 = .ok (.aload_n 0, 1) := by decide +kernel
theorem dL_law_1867 : decode cL_law 1867 = .ok (.iload_n 3, 1) := by decide +kernel
theorem dL_law_1868 : decode cL_law 1868 = .ok (.iconst 3, 1) := by decide +kernel
theorem dL_law_1869 : decode cL_law 1869 = .ok (.iadd, 1) := by decide +kernel
theorem dL_law_1870 : decode cL_law 1870 = .ok (.iaload, 1) := by decide +kernel
theorem dL_law_1871 : decode cL_law 1871 = .ok (.invokevirtual 242, 3) := by decide +kernel
theorem dL_law_1874 : decode cL_law 1874 = .ok (.pop, 1) := by decide +kernel
theorem dL_law_1875 : decode cL_law 1875 = .ok (.goto 284, 3) := by decide +kernel
theorem dL_law_1878 : decode cL_law 1878 = .ok (.aload_n 1, 1) := by decide +kernel
theorem dL_law_1879 : decode cL_law 1879 = .ok (.aload_n 0, 1) := by decide +kernel
theorem dL_law_1880 : decode cL_law 1880 = .ok (.iload_n 3, 1) := by decide +kernel
theorem dL_law_1881 : decode cL_law 1881 = .ok (.iconst 1, 1) := by decide +kernel
theorem dL_law_1882 : decode cL_law 1882 = .ok (.iadd, 1) := by decide +kernel
theorem dL_law_1883 : decode cL_law 1883 = .ok (.iaload, 1) := by decide +kernel
theorem dL_law_1884 : decode cL_law 1884 = .ok (.aload_n 0, 1) := by decide +kernel
theorem dL_law_1885 : decode cL_law 1885 = .ok (.iload_n 3, 1) := by decide +kernel
theorem dL_law_1886 : decode cL_law 1886 = .ok (.iconst 2, 1) := by decide +kernel
theorem dL_law_1887 : decode cL_law 1887 = .ok (.iadd, 1) := by decide +kernel
theorem dL_law_1888 : decode cL_law 1888 = .ok (.iaload, 1) := by decide +kernel
theorem dL_law_1889 : decode cL_law 1889 = .ok (.invokevirtual 243, 3) := by decide +kernel
theorem dL_law_1892 : decode cL_law 1892 = .ok (.pop, 1) := by decide +kernel
theorem dL_law_1893 : decode cL_law 1893 = .ok (.aload_n 2, 1) := by decide +kernel
theorem dL_law_1894 : decode cL_law 1894 = .ok (.aload_n 0, 1) := by decide +kernel
theorem dL_law_1895 : decode cL_law 1895 = .ok (.iload_n 3, 1) := by decide +kernel
theorem dL_law_1896 : decode cL_law 1896 = .ok (.iconst 1, 1) := by decide +kernel
theorem dL_law_1897 : decode cL_law 1897 = .ok (.iadd, 1) := by decide +kernel
theorem dL_law_1898 : decode cL_law 1898 = .ok (.iaload, 1) := by decide +kernel
theorem dL_law_1899 : decode cL_law 1899 = .ok (.aload_n 0, 1) := by decide +kernel
theorem dL_law_1900 : decode cL_law 1900 = .ok (.iload_n 3, 1) := by decide +kernel
theorem dL_law_1901 : decode cL_law 1901 = .ok (.iconst 2, 1) := by decide +kernel
theorem dL_law_1902 : decode cL_law 1902 = .ok (.iadd, 1) := by decide +kernel
theorem dL_law_1903 : decode cL_law 1903 = .ok (.iaload, 1) := by decide +kernel
theorem dL_law_1904 : decode cL_law 1904 = .ok (.invokevirtual 246, 3) := by decide +kernel
theorem dL_law_1907 : decode cL_law 1907 = .ok (.pop, 1) := by decide +kernel
theorem dL_law_1908 : decode cL_law 1908 = .ok (.goto 251, 3) := by decide +kernel
theorem dL_law_1911 : decode cL_law 1911 = .ok (.aload_n 1, 1) := by decide +kernel
theorem dL_law_1912 : decode cL_law 1912 = .ok (.aload_n 0, 1) := by decide +kernel
theorem dL_law_1913 : decode cL_law 1913 = .ok (.iload_n 3, 1) := by decide +kernel
theorem dL_law_1914 : decode cL_law 1914 = .ok (.iconst 1, 1) := by decide +kernel
theorem dL_law_1915 : decode cL_law 1915 = .ok (.iadd, 1) := by decide +kernel
theorem dL_law_1916 : decode cL_law 1916 = .ok (.iaload, 1) := by decide +kernel
theorem dL_law_1917 : decode cL_law 1917 = .ok (.invokevirtual 247, 3) := by decide +kernel
theorem dL_law_1920 : decode cL_law 1920 = .ok (.pop, 1) := by decide +kernel
theorem dL_law_1921 : decode cL_law 1921 = .ok (.aload_n 2, 1) := by decide +kernel
theorem dL_law_1922 : decode cL_law 1922 = .ok (.aload_n 0, 1) := by decide +kernel
theorem dL_law_1923 : decode cL_law 1923 = .ok (.iload_n 3, 1) := by decide +kernel
theorem dL_law_1924 : decode cL_law 1924 = .ok (.iconst 1, 1) := by decide +kernel
theorem dL_law_1925 : decode cL_law 1925 = .ok (.iadd, 1) := by decide +kernel
theorem dL_law_1926 : decode cL_law 1926 = .ok (.iaload, 1) := by decide +kernel
theorem dL_law_1927 : decode cL_law 1927 = .ok (.invokevirtual 250, 3) := by decide +kernel
theorem dL_law_1930 : decode cL_law 1930 = .ok (.pop, 1) := by decide +kernel
theorem dL_law_1931 : decode cL_law 1931 = .ok (.goto 228, 3) := by decide +kernel
theorem dL_law_1934 : decode cL_law 1934 = .ok (.aload_n 1, 1) := by decide +kernel
theorem dL_law_1935 : decode cL_law 1935 = .ok (.aload_n 0, 1) := by decide +kernel
theorem dL_law_1936 : decode cL_law 1936 = .ok (.iload_n 3, 1) := by decide +kernel
theorem dL_law_1937 : decode cL_law 1937 = .ok (.iconst 1, 1) := by decide +kernel
theorem dL_law_1938 : decode cL_law 1938 = .ok (.iadd, 1) := by decide +kernel
theorem dL_law_1939 : decode cL_law 1939 = .ok (.iaload, 1) := by decide +kernel
theorem dL_law_1940 : decode cL_law 1940 = .ok (.invokevirtual 251, 3) := by decide +kernel
theorem dL_law_1943 : decode cL_law 1943 = .ok (.pop, 1) := by decide +kernel
theorem dL_law_1944 : decode cL_law 1944 = .ok (.aload_n 2, 1) := by decide +kernel
theorem dL_law_1945 : decode cL_law 1945 = .ok (.aload_n 0, 1) := by decide +kernel
theorem dL_law_1946 : decode cL_law 1946 = .ok (.iload_n 3, 1) := by decide +kernel
theorem dL_law_1947 : decode cL_law 1947 = .ok (.iconst 1, 1) := by decide +kernel
theorem dL_law_1948 : decode cL_law 1948 = .ok (.iadd, 1) := by decide +kernel
theorem dL_law_1949 : decode cL_law 1949 = .ok (.iaload, 1) := by decide +kernel
theorem dL_law_1950 : decode cL_law 1950 = .ok (.invokevirtual 254, 3) := by decide +kernel
theorem dL_law_1953 : decode cL_law 1953 = .ok (.pop, 1) := by decide +kernel
theorem dL_law_1954 : decode cL_law 1954 = .ok (.goto 205, 3) := by decide +kernel
theorem dL_law_1957 : decode cL_law 1957 = .ok (.aload_n 1, 1) := by decide +kernel
theorem dL_law_1958 : decode cL_law 1958 = .ok (.aload_n 0, 1) := by decide +kernel
theorem dL_law_1959 : decode cL_law 1959 = .ok (.iload_n 3, 1) := by decide +kernel
theorem dL_law_1960 : decode cL_law 1960 = .ok (.iconst 1, 1) := by decide +kernel
theorem dL_law_1961 : decode cL_law 1961 = .ok (.iadd, 1) := by decide +kernel
theorem dL_law_1962 : decode cL_law 1962 = .ok (.iaload, 1) := by decide +kernel
theorem dL_law_1963 : decode cL_law 1963 = .ok (.invokevirtual 255, 3) := by decide +kernel
theorem dL_law_1966 : decode cL_law 1966 = .ok (.pop, 1) := by decide +kernel
theorem dL_law_1967 : decode cL_law 1967 = .ok (.aload_n 2, 1) := by decide +kernel
theorem dL_law_1968 : decode cL_law 1968 = .ok (.aload_n 0, 1) := by decide +kernel
theorem dL_law_1969 : decode cL_law 1969 = .ok (.iload_n 3, 1) := by decide +kernel
theorem dL_law_1970 : decode cL_law 1970 = .ok (.iconst 1, 1) := by decide +kernel
theorem dL_law_1971 : decode cL_law 1971 = .ok (.iadd, 1) := by decide +kernel
theorem dL_law_1972 : decode cL_law 1972 = .ok (.iaload, 1) := by decide +kernel
theorem dL_law_1973 : decode cL_law 1973 = .ok (.invokevirtual 258, 3) := by decide +kernel
theorem dL_law_1976 : decode cL_law 1976 = .ok (.pop, 1) := by decide +kernel
theorem dL_law_1977 : decode cL_law 1977 = .ok (.goto 182, 3) := by decide +kernel
theorem dL_law_1980 : decode cL_law 1980 = .ok (.aload_n 1, 1) := by decide +kernel
theorem dL_law_1981 : decode cL_law 1981 = .ok (.aload_n 0, 1) := by decide +kernel
theorem dL_law_1982 : decode cL_law 1982 = .ok (.iload_n 3, 1) := by decide +kernel
theorem dL_law_1983 : decode cL_law 1983 = .ok (.iconst 1, 1) := by decide +kernel
theorem dL_law_1984 : decode cL_law 1984 = .ok (.iadd, 1) := by decide +kernel
theorem dL_law_1985 : decode cL_law 1985 = .ok (.iaload, 1) := by decide +kernel
theorem dL_law_1986 : decode cL_law 1986 = .ok (.aload_n 0, 1) := by decide +kernel
theorem dL_law_1987 : decode cL_law 1987 = .ok (.iload_n 3, 1) := by decide +kernel
theorem dL_law_1988 : decode cL_law 1988 = .ok (.iconst 2, 1) := by decide +kernel
theorem dL_law_1989 : decode cL_law 1989 = .ok (.iadd, 1) := by decide +kernel
theorem dL_law_1990 : decode cL_law 1990 = .ok (.iaload, 1) := by decide +kernel
theorem dL_law_1991 : decode cL_law 1991 = .ok (.aload_n 0, 1) := by decide +kernel
theorem dL_law_1992 : decode cL_law 1992 = .ok (.iload_n 3, 1) := by decide +kernel
theorem dL_law_1993 : decode cL_law 1993 = .ok (.iconst 3, 1) := by decide +kernel
theorem dL_law_1994 : decode cL_law 1994 = .ok (.iadd, 1) := by decide +kernel
theorem dL_law_1995 : decode cL_law 1995 = .ok (.iaload, 1) := by decide +kernel
theorem dL_law_1996 : decode cL_law 1996 = .ok (.invokevirtual 259, 3) := by decide +kernel
theorem dL_law_1999 : decode cL_law 1999 = .ok (.pop, 1) := by decide +kernel
theorem dL_law_2000 : decode cL_law 2000 = .ok (.aload_n 2, 1) := by decide +kernel
theorem dL_law_2001 : decode cL_law 2001 = .ok (.aload_n 0, 1) := by decide +kernel
theorem dL_law_2002 : decode cL_law 2002 = .ok (.iload_n 3, 1) := by decide +kernel
theorem dL_law_2003 : decode cL_law 2003 = .ok (.iconst 1, 1) := by decide +kernel
theorem dL_law_2004 : decode cL_law 2004 = .ok (.iadd, 1) := by decide +kernel
theorem dL_law_2005 : decode cL_law 2005 = .ok (.iaload, 1) := by decide +kernel
theorem dL_law_2006 : decode cL_law 2006 = .ok (.aload_n 0, 1) := by decide +kernel
theorem dL_law_2007 : decode cL_law 2007 = .ok (.iload_n 3, 1) := by decide +kernel
theorem dL_law_2008 : decode cL_law 2008 = .ok (.iconst 2, 1) := by decide +kernel
theorem dL_law_2009 : decode cL_law 2009 = .ok (.iadd, 1) := by decide +kernel
theorem dL_law_2010 : decode cL_law 2010 = .ok (.iaload, 1) := by decide +kernel
theorem dL_law_2011 : decode cL_law 2011 = .ok (.aload_n 0, 1) := by decide +kernel
theorem dL_law_2012 : decode cL_law 2012 = .ok (.iload_n 3, 1) := by decide +kernel
theorem dL_law_2013 : decode cL_law 2013 = .ok (.iconst 3, 1) := by decide +kernel
theorem dL_law_2014 : decode cL_law 2014 = .ok (.iadd, 1) := by decide +kernel
theorem dL_law_2015 : decode cL_law 2015 = .ok (.iaload, 1) := by decide +kernel
theorem dL_law_2016 : decode cL_law 2016 = .ok (.invokevirtual 262, 3) := by decide +kernel
theorem dL_law_2019 : decode cL_law 2019 = .ok (.pop, 1) := by decide +kernel
theorem dL_law_2020 : decode cL_law 2020 = .ok (.goto 139, 3) := by decide +kernel
theorem dL_law_2023 : decode cL_law 2023 = .ok (.aload_n 1, 1) := by decide +kernel
theorem dL_law_2024 : decode cL_law 2024 = .ok (.aload_n 0, 1) := by decide +kernel
theorem dL_law_2025 : decode cL_law 2025 = .ok (.iload_n 3, 1) := by decide +kernel
theorem dL_law_2026 : decode cL_law 2026 = .ok (.iconst 1, 1) := by decide +kernel
theorem dL_law_2027 : decode cL_law 2027 = .ok (.iadd, 1) := by decide +kernel
theorem dL_law_2028 : decode cL_law 2028 = .ok (.iaload, 1) := by decide +kernel
theorem dL_law_2029 : decode cL_law 2029 = .ok (.aload_n 0, 1) := by decide +kernel
theorem dL_law_2030 : decode cL_law 2030 = .ok (.iload_n 3, 1) := by decide +kernel
theorem dL_law_2031 : decode cL_law 2031 = .ok (.iconst 2, 1) := by decide +kernel
theorem dL_law_2032 : decode cL_law 2032 = .ok (.iadd, 1) := by decide +kernel
theorem dL_law_2033 : decode cL_law 2033 = .ok (.iaload, 1) := by decide +kernel
theorem dL_law_2034 : decode cL_law 2034 = .ok (.aload_n 0, 1) := by decide +kernel
theorem dL_law_2035 : decode cL_law 2035 = .ok (.iload_n 3, 1) := by decide +kernel
theorem dL_law_2036 : decode cL_law 2036 = .ok (.iconst 3, 1) := by decide +kernel
theorem dL_law_2037 : decode cL_law 2037 = .ok (.iadd, 1) := by decide +kernel
theorem dL_law_2038 : decode cL_law 2038 = .ok (.iaload, 1) := by decide +kernel
theorem dL_law_2039 : decode cL_law 2039 = .ok (.i2l, 1) := by decide +kernel
theorem dL_law_2040 : decode cL_law 2040 = .ok (.bipush 32, 2) := by decide +kernel
theorem dL_law_2042 : decode cL_law 2042 = .ok (.lshl, 1) := by decide +kernel
theorem dL_law_2043 : decode cL_law 2043 = .ok (.aload_n 0, 1) := by decide +kernel
theorem dL_law_2044 : decode cL_law 2044 = .ok (.iload_n 3, 1) := by decide +kernel
theorem dL_law_2045 : decode cL_law 2045 = .ok (.iconst 4, 1) := by decide +kernel
theorem dL_law_2046 : decode cL_law 2046 = .ok (.iadd, 1) := by decide +kernel
theorem dL_law_2047 : decode cL_law 2047 = .ok (.iaload, 1) := by decide +kernel
theorem dL_law_2048 : decode cL_law 2048 = .ok (.i2l, 1) := by decide +kernel
theorem dL_law_2049 : decode cL_law 2049 = .ok (.ldc2_w 263, 3) := by decide +kernel
theorem dL_law_2052 : decode cL_law 2052 = .ok (.land, 1) := by decide +kernel
theorem dL_law_2053 : decode cL_law 2053 = .ok (.lor, 1) := by decide +kernel
theorem dL_law_2054 : decode cL_law 2054 = .ok (.invokevirtual 265, 3) := by decide +kernel
theorem dL_law_2057 : decode cL_law 2057 = .ok (.pop, 1) := by decide +kernel
theorem dL_law_2058 : decode cL_law 2058 = .ok (.aload_n 2, 1) := by decide +kernel
theorem dL_law_2059 : decode cL_law 2059 = .ok (.aload_n 0, 1) := by decide +kernel
theorem dL_law_2060 : decode cL_law 2060 = .ok (.iload_n 3, 1) := by decide +kernel
theorem dL_law_2061 : decode cL_law 2061 = .ok (.iconst 1, 1) := by decide +kernel
theorem dL_law_2062 : decode cL_law 2062 = .ok (.iadd, 1) := by decide +kernel
theorem dL_law_2063 : decode cL_law 2063 = .ok (.iaload, 1) := by decide +kernel
theorem dL_law_2064 : decode cL_law 2064 = .ok (.aload_n 0, 1) := by decide +kernel
theorem dL_law_2065 : decode cL_law 2065 = .ok (.iload_n 3, 1) := by decide +kernel
theorem dL_law_2066 : decode cL_law 2066 = .ok (.iconst 2, 1) := by decide +kernel
theorem dL_law_2067 : decode cL_law 2067 = .ok (.iadd, 1) := by decide +kernel
theorem dL_law_2068 : decode cL_law 2068 = .ok (.iaload, 1) := by decide +kernel
theorem dL_law_2069 : decode cL_law 2069 = .ok (.aload_n 0, 1) := by decide +kernel
theorem dL_law_2070 : decode cL_law 2070 = .ok (.iload_n 3, 1) := by decide +kernel
theorem dL_law_2071 : decode cL_law 2071 = .ok (.iconst 3, 1) := by decide +kernel
theorem dL_law_2072 : decode cL_law 2072 = .ok (.iadd, 1) := by decide +kernel
theorem dL_law_2073 : decode cL_law 2073 = .ok (.iaload, 1) := by decide +kernel
theorem dL_law_2074 : decode cL_law 2074 = .ok (.i2l, 1) := by decide +kernel
theorem dL_law_2075 : decode cL_law 2075 = .ok (.bipush 32, 2) := by decide +kernel
theorem dL_law_2077 : decode cL_law 2077 = .ok (.lshl, 1) := by decide +kernel
theorem dL_law_2078 : decode cL_law 2078 = .ok (.aload_n 0, 1) := by decide +kernel
theorem dL_law_2079 : decode cL_law 2079 = .ok (.iload_n 3, 1) := by decide +kernel
theorem dL_law_2080 : decode cL_law 2080 = .ok (.iconst 4, 1) := by decide +kernel
theorem dL_law_2081 : decode cL_law 2081 = .ok (.iadd, 1) := by decide +kernel
theorem dL_law_2082 : decode cL_law 2082 = .ok (.iaload, 1) := by decide +kernel
theorem dL_law_2083 : decode cL_law 2083 = .ok (.i2l, 1) := by decide +kernel
theorem dL_law_2084 : decode cL_law 2084 = .ok (.ldc2_w 263, 3) := by decide +kernel
theorem dL_law_2087 : decode cL_law 2087 = .ok (.land, 1) := by decide +kernel
theorem dL_law_2088 : decode cL_law 2088 = .ok (.lor, 1) := by decide +kernel
theorem dL_law_2089 : decode cL_law 2089 = .ok (.invokevirtual 269, 3) := by decide +kernel
theorem dL_law_2092 : decode cL_law 2092 = .ok (.pop, 1) := by decide +kernel
theorem dL_law_2093 : decode cL_law 2093 = .ok (.goto 66, 3) := by decide +kernel
theorem dL_law_2096 : decode cL_law 2096 = .ok (.aload_n 1, 1) := by decide +kernel
theorem dL_law_2097 : decode cL_law 2097 = .ok (.aload_n 0, 1) := by decide +kernel
theorem dL_law_2098 : decode cL_law 2098 = .ok (.iload_n 3, 1) := by decide +kernel
theorem dL_law_2099 : decode cL_law 2099 = .ok (.iconst 1, 1) := by decide +kernel
theorem dL_law_2100 : decode cL_law 2100 = .ok (.iadd, 1) := by decide +kernel
theorem dL_law_2101 : decode cL_law 2101 = .ok (.iaload, 1) := by decide +kernel
theorem dL_law_2102 : decode cL_law 2102 = .ok (.aload_n 0, 1) := by decide +kernel
theorem dL_law_2103 : decode cL_law 2103 = .ok (.iload_n 3, 1) := by decide +kernel
theorem dL_law_2104 : decode cL_law 2104 = .ok (.iconst 2, 1) := by decide +kernel
theorem dL_law_2105 : decode cL_law 2105 = .ok (.iadd, 1) := by decide +kernel
theorem dL_law_2106 : decode cL_law 2106 = .ok (.iaload, 1) := by decide +kernel
theorem dL_law_2107 : decode cL_law 2107 = .ok (.aload_n 0, 1) := by decide +kernel
theorem dL_law_2108 : decode cL_law 2108 = .ok (.iload_n 3, 1) := by decide +kernel
theorem dL_law_2109 : decode cL_law 2109 = .ok (.iconst 3, 1) := by decide +kernel
theorem dL_law_2110 : decode cL_law 2110 = .ok (.iadd, 1) := by decide +kernel
theorem dL_law_2111 : decode cL_law 2111 = .ok (.iaload, 1) := by decide +kernel
theorem dL_law_2112 : decode cL_law 2112 = .ok (.aload_n 0, 1) := by decide +kernel
theorem dL_law_2113 : decode cL_law 2113 = .ok (.iload_n 3, 1) := by decide +kernel
theorem dL_law_2114 : decode cL_law 2114 = .ok (.iconst 4, 1) := by decide +kernel
theorem dL_law_2115 : decode cL_law 2115 = .ok (.iadd, 1) := by decide +kernel
theorem dL_law_2116 : decode cL_law 2116 = .ok (.iaload, 1) := by decide +kernel
theorem dL_law_2117 : decode cL_law 2117 = .ok (.aload_n 0, 1) := by decide +kernel
theorem dL_law_2118 : decode cL_law 2118 = .ok (.iload_n 3, 1) := by decide +kernel
theorem dL_law_2119 : decode cL_law 2119 = .ok (.iconst 5, 1) := by decide +kernel
theorem dL_law_2120 : decode cL_law 2120 = .ok (.iadd, 1) := by decide +kernel
theorem dL_law_2121 : decode cL_law 2121 = .ok (.iaload, 1) := by decide +kernel
theorem dL_law_2122 : decode cL_law 2122 = .ok (.invokevirtual 270, 3) := by decide +kernel
theorem dL_law_2125 : decode cL_law 2125 = .ok (.aload_n 2, 1) := by decide +kernel
theorem dL_law_2126 : decode cL_law 2126 = .ok (.aload_n 0, 1) := by decide +kernel
theorem dL_law_2127 : decode cL_law 2127 = .ok (.iload_n 3, 1) := by decide +kernel
theorem dL_law_2128 : decode cL_law 2128 = .ok (.iconst 1, 1) := by decide +kernel
theorem dL_law_2129 : decode cL_law 2129 = .ok (.iadd, 1) := by decide +kernel
theorem dL_law_2130 : decode cL_law 2130 = .ok (.iaload, 1) := by decide +kernel
theorem dL_law_2131 : decode cL_law 2131 = .ok (.aload_n 0, 1) := by decide +kernel
theorem dL_law_2132 : decode cL_law 2132 = .ok (.iload_n 3, 1) := by decide +kernel
theorem dL_law_2133 : decode cL_law 2133 = .ok (.iconst 2, 1) := by decide +kernel
theorem dL_law_2134 : decode cL_law 2134 = .ok (.iadd, 1) := by decide +kernel
theorem dL_law_2135 : decode cL_law 2135 = .ok (.iaload, 1) := by decide +kernel
theorem dL_law_2136 : decode cL_law 2136 = .ok (.aload_n 0, 1) := by decide +kernel
theorem dL_law_2137 : decode cL_law 2137 = .ok (.iload_n 3, 1) := by decide +kernel
theorem dL_law_2138 : decode cL_law 2138 = .ok (.iconst 3, 1) := by decide +kernel
theorem dL_law_2139 : decode cL_law 2139 = .ok (.iadd, 1) := by decide +kernel
theorem dL_law_2140 : decode cL_law 2140 = .ok (.iaload, 1) := by decide +kernel
theorem dL_law_2141 : decode cL_law 2141 = .ok (.aload_n 0, 1) := by decide +kernel
theorem dL_law_2142 : decode cL_law 2142 = .ok (.iload_n 3, 1) := by decide +kernel
theorem dL_law_2143 : decode cL_law 2143 = .ok (.iconst 4, 1) := by decide +kernel
theorem dL_law_2144 : decode cL_law 2144 = .ok (.iadd, 1) := by decide +kernel
theorem dL_law_2145 : decode cL_law 2145 = .ok (.iaload, 1) := by decide +kernel
theorem dL_law_2146 : decode cL_law 2146 = .ok (.aload_n 0, 1) := by decide +kernel
theorem dL_law_2147 : decode cL_law 2147 = .ok (.iload_n 3, 1) := by decide +kernel
theorem dL_law_2148 : decode cL_law 2148 = .ok (.iconst 5, 1) := by decide +kernel
theorem dL_law_2149 : decode cL_law 2149 = .ok (.iadd, 1) := by decide +kernel
theorem dL_law_2150 : decode cL_law 2150 = .ok (.iaload, 1) := by decide +kernel
theorem dL_law_2151 : decode cL_law 2151 = .ok (.invokevirtual 273, 3) := by decide +kernel
theorem dL_law_2154 : decode cL_law 2154 = .ok (.if_icmp .eq 5, 3) := by decide +kernel
theorem dL_law_27 : decode cL_law 27 = .ok (.aload_n 0, 1) := by decide +kernel
theorem dL_law_28 : decode cL_law 28 = .ok (.iload_n 3, 1) := by decide +kernel
theorem dL_law_29 : decode cL_law 29 = .ok (.iaload, 1) := by decide +kernel
theorem dL_law_30 : decode cL_law 30 = .ok (.bipush 63, 2) := by decide +kernel
theorem dL_law_32 : decode cL_law 32 = .ok (.iand, 1) := by decide +kernel
theorem dL_law_33 : decode cL_law 33 = .ok (.tableswitch 2126 0 62 #[267, 330, 353, 366, 389, 422, 455, 488, 511, 534, 567, 600, 633, 656, 679, 702, 725, 748, 761, 784, 797, 830, 853, 886, 929, 972, 1005, 1038, 1061, 1074, 1107, 1130, 1153, 1176, 1189, 1222, 1245, 1268, 1311, 1354, 1377, 1410, 1433, 1456, 1489, 1512, 1525, 1548, 1581, 1604, 1637, 1680, 1693, 1706, 1749, 1802, 1845, 1878, 1901, 1924, 1947, 1990, 2063], 267) := by decide +kernel
theorem dL_law_18 : decode cL_law 18 = .ok (.iload_n 3, 1) := by decide +kernel
theorem dL_law_19 : decode cL_law 19 = .ok (.aload_n 0, 1) := by decide +kernel
theorem dL_law_20 : decode cL_law 20 = .ok (.arraylength, 1) := by decide +kernel
theorem dL_law_21 : decode cL_law 21 = .ok (.bipush 6, 2) := by decide +kernel
theorem dL_law_23 : decode cL_law 23 = .ok (.isub, 1) := by decide +kernel
theorem dL_law_24 : decode cL_law 24 = .ok (.if_icmp .gt 2141, 3) := by decide +kernel
theorem dL_law_2165 : decode cL_law 2165 = .ok (.iconst 1, 1) := by decide +kernel
theorem dL_law_2166 : decode cL_law 2166 = .ok (.ireturn, 1) := by decide +kernel
theorem dL_law_2159 : decode cL_law 2159 = .ok (.iinc 3 6, 3) := by decide +kernel
theorem dL_law_2162 : decode cL_law 2162 = .ok (.goto (-2144), 3) := by decide +kernel
theorem dL_law_0 : decode cL_law 0 = .ok (.new 7, 3) := by decide +kernel
theorem dL_law_3 : decode cL_law 3 = .ok (.dup, 1) := by decide +kernel
theorem dL_law_4 : decode cL_law 4 = .ok (.invokespecial 9, 3) := by decide +kernel
theorem dL_law_7 : decode cL_law 7 = .ok (.astore_n 1, 1) := by decide +kernel
theorem dL_law_8 : decode cL_law 8 = .ok (.new 10, 3) := by decide +kernel
theorem dL_law_11 : decode cL_law 11 = .ok (.dup, 1) := by decide +kernel
theorem dL_law_12 : decode cL_law 12 = .ok (.invokespecial 12, 3) := by decide +kernel
theorem dL_law_15 : decode cL_law 15 = .ok (.astore_n 2, 1) := by decide +kernel
theorem dL_law_16 : decode cL_law 16 = .ok (.iconst 0, 1) := by decide +kernel
theorem dL_law_17 : decode cL_law 17 = .ok (.istore_n 3, 1) := by decide +kernel
theorem q565 : Cond.code ⟨"EbbWreck", "feed", "(IIIII)I"⟩ prog_1_method_2_code 6 (some .int) ∈ lw_g := mg (List.mem_of_getElem? (i := 565) (by decide +kernel)) rfl
theorem q563 : Cond.instanceMethod ⟨"EbbWreck", "feed", "(IIIII)I"⟩ ∈ lw_g := mg (List.mem_of_getElem? (i := 563) (by decide +kernel)) rfl
theorem q564 : Cond.selects "EbbWreck" ⟨"EbbWreck", "feed", "(IIIII)I"⟩ ⟨"EbbWreck", "feed", "(IIIII)I"⟩ ∈ lw_g := mg (List.mem_of_getElem? (i := 564) (by decide +kernel)) rfl
theorem q562 : Cond.methodLink "EbbWreckLaw" 13 ⟨"EbbWreck", "feed", "(IIIII)I"⟩ ∈ lw_g := mg (List.mem_of_getElem? (i := 562) (by decide +kernel)) rfl
theorem q1608 : Cond.code ⟨"EbbWreckModel", "feed", "(IIIII)I"⟩ prog_14_method_9_code 6 (some .int) ∈ lw_g := mg (List.mem_of_getElem? (i := 1608) (by decide +kernel)) rfl
theorem q1606 : Cond.instanceMethod ⟨"EbbWreckModel", "feed", "(IIIII)I"⟩ ∈ lw_g := mg (List.mem_of_getElem? (i := 1606) (by decide +kernel)) rfl
theorem q1607 : Cond.selects "EbbWreckModel" ⟨"EbbWreckModel", "feed", "(IIIII)I"⟩ ⟨"EbbWreckModel", "feed", "(IIIII)I"⟩ ∈ lw_g := mg (List.mem_of_getElem? (i := 1607) (by decide +kernel)) rfl
theorem q1605 : Cond.methodLink "EbbWreckLaw" 17 ⟨"EbbWreckModel", "feed", "(IIIII)I"⟩ ∈ lw_g := mg (List.mem_of_getElem? (i := 1605) (by decide +kernel)) rfl
theorem q573 : Cond.code ⟨"EbbWreck", "end", "(I)I"⟩ prog_1_method_4_code 2 (some .int) ∈ lw_g := mg (List.mem_of_getElem? (i := 573) (by decide +kernel)) rfl
theorem q571 : Cond.instanceMethod ⟨"EbbWreck", "end", "(I)I"⟩ ∈ lw_g := mg (List.mem_of_getElem? (i := 571) (by decide +kernel)) rfl
theorem q572 : Cond.selects "EbbWreck" ⟨"EbbWreck", "end", "(I)I"⟩ ⟨"EbbWreck", "end", "(I)I"⟩ ∈ lw_g := mg (List.mem_of_getElem? (i := 572) (by decide +kernel)) rfl
theorem q570 : Cond.methodLink "EbbWreckLaw" 18 ⟨"EbbWreck", "end", "(I)I"⟩ ∈ lw_g := mg (List.mem_of_getElem? (i := 570) (by decide +kernel)) rfl
theorem q1616 : Cond.code ⟨"EbbWreckModel", "end", "(I)I"⟩ prog_14_method_11_code 2 (some .int) ∈ lw_g := mg (List.mem_of_getElem? (i := 1616) (by decide +kernel)) rfl
theorem q1614 : Cond.instanceMethod ⟨"EbbWreckModel", "end", "(I)I"⟩ ∈ lw_g := mg (List.mem_of_getElem? (i := 1614) (by decide +kernel)) rfl
theorem q1615 : Cond.selects "EbbWreckModel" ⟨"EbbWreckModel", "end", "(I)I"⟩ ⟨"EbbWreckModel", "end", "(I)I"⟩ ∈ lw_g := mg (List.mem_of_getElem? (i := 1615) (by decide +kernel)) rfl
theorem q1613 : Cond.methodLink "EbbWreckLaw" 22 ⟨"EbbWreckModel", "end", "(I)I"⟩ ∈ lw_g := mg (List.mem_of_getElem? (i := 1613) (by decide +kernel)) rfl
theorem q577 : Cond.code ⟨"EbbWreck", "shore", "()I"⟩ prog_1_method_5_code 1 (some .int) ∈ lw_g := mg (List.mem_of_getElem? (i := 577) (by decide +kernel)) rfl
theorem q575 : Cond.instanceMethod ⟨"EbbWreck", "shore", "()I"⟩ ∈ lw_g := mg (List.mem_of_getElem? (i := 575) (by decide +kernel)) rfl
theorem q576 : Cond.selects "EbbWreck" ⟨"EbbWreck", "shore", "()I"⟩ ⟨"EbbWreck", "shore", "()I"⟩ ∈ lw_g := mg (List.mem_of_getElem? (i := 576) (by decide +kernel)) rfl
theorem q574 : Cond.methodLink "EbbWreckLaw" 23 ⟨"EbbWreck", "shore", "()I"⟩ ∈ lw_g := mg (List.mem_of_getElem? (i := 574) (by decide +kernel)) rfl
theorem q1624 : Cond.code ⟨"EbbWreckModel", "shore", "()I"⟩ prog_14_method_36_code 1 (some .int) ∈ lw_g := mg (List.mem_of_getElem? (i := 1624) (by decide +kernel)) rfl
theorem q1622 : Cond.instanceMethod ⟨"EbbWreckModel", "shore", "()I"⟩ ∈ lw_g := mg (List.mem_of_getElem? (i := 1622) (by decide +kernel)) rfl
theorem q1623 : Cond.selects "EbbWreckModel" ⟨"EbbWreckModel", "shore", "()I"⟩ ⟨"EbbWreckModel", "shore", "()I"⟩ ∈ lw_g := mg (List.mem_of_getElem? (i := 1623) (by decide +kernel)) rfl
theorem q1621 : Cond.methodLink "EbbWreckLaw" 27 ⟨"EbbWreckModel", "shore", "()I"⟩ ∈ lw_g := mg (List.mem_of_getElem? (i := 1621) (by decide +kernel)) rfl
theorem q818 : Cond.code ⟨"EbbWreck", "fault", "(I)I"⟩ prog_1_method_6_code 2 (some .int) ∈ lw_g := mg (List.mem_of_getElem? (i := 818) (by decide +kernel)) rfl
theorem q816 : Cond.instanceMethod ⟨"EbbWreck", "fault", "(I)I"⟩ ∈ lw_g := mg (List.mem_of_getElem? (i := 816) (by decide +kernel)) rfl
theorem q817 : Cond.selects "EbbWreck" ⟨"EbbWreck", "fault", "(I)I"⟩ ⟨"EbbWreck", "fault", "(I)I"⟩ ∈ lw_g := mg (List.mem_of_getElem? (i := 817) (by decide +kernel)) rfl
theorem q815 : Cond.methodLink "EbbWreckLaw" 28 ⟨"EbbWreck", "fault", "(I)I"⟩ ∈ lw_g := mg (List.mem_of_getElem? (i := 815) (by decide +kernel)) rfl
theorem q1620 : Cond.code ⟨"EbbWreckModel", "fault", "(I)I"⟩ prog_14_method_24_code 2 (some .int) ∈ lw_g := mg (List.mem_of_getElem? (i := 1620) (by decide +kernel)) rfl
theorem q1618 : Cond.instanceMethod ⟨"EbbWreckModel", "fault", "(I)I"⟩ ∈ lw_g := mg (List.mem_of_getElem? (i := 1618) (by decide +kernel)) rfl
theorem q1619 : Cond.selects "EbbWreckModel" ⟨"EbbWreckModel", "fault", "(I)I"⟩ ⟨"EbbWreckModel", "fault", "(I)I"⟩ ∈ lw_g := mg (List.mem_of_getElem? (i := 1619) (by decide +kernel)) rfl
theorem q1617 : Cond.methodLink "EbbWreckLaw" 31 ⟨"EbbWreckModel", "fault", "(I)I"⟩ ∈ lw_g := mg (List.mem_of_getElem? (i := 1617) (by decide +kernel)) rfl
theorem q822 : Cond.code ⟨"EbbWreck", "cell", "(II)I"⟩ prog_1_method_7_code 3 (some .int) ∈ lw_g := mg (List.mem_of_getElem? (i := 822) (by decide +kernel)) rfl
theorem q820 : Cond.instanceMethod ⟨"EbbWreck", "cell", "(II)I"⟩ ∈ lw_g := mg (List.mem_of_getElem? (i := 820) (by decide +kernel)) rfl
theorem q821 : Cond.selects "EbbWreck" ⟨"EbbWreck", "cell", "(II)I"⟩ ⟨"EbbWreck", "cell", "(II)I"⟩ ∈ lw_g := mg (List.mem_of_getElem? (i := 821) (by decide +kernel)) rfl
theorem q819 : Cond.methodLink "EbbWreckLaw" 32 ⟨"EbbWreck", "cell", "(II)I"⟩ ∈ lw_g := mg (List.mem_of_getElem? (i := 819) (by decide +kernel)) rfl
theorem q1749 : Cond.code ⟨"EbbWreckModel", "cell", "(II)I"⟩ prog_14_method_53_code 3 (some .int) ∈ lw_g := mg (List.mem_of_getElem? (i := 1749) (by decide +kernel)) rfl
theorem q1747 : Cond.instanceMethod ⟨"EbbWreckModel", "cell", "(II)I"⟩ ∈ lw_g := mg (List.mem_of_getElem? (i := 1747) (by decide +kernel)) rfl
theorem q1748 : Cond.selects "EbbWreckModel" ⟨"EbbWreckModel", "cell", "(II)I"⟩ ⟨"EbbWreckModel", "cell", "(II)I"⟩ ∈ lw_g := mg (List.mem_of_getElem? (i := 1748) (by decide +kernel)) rfl
theorem q1746 : Cond.methodLink "EbbWreckLaw" 36 ⟨"EbbWreckModel", "cell", "(II)I"⟩ ∈ lw_g := mg (List.mem_of_getElem? (i := 1746) (by decide +kernel)) rfl
theorem q831 : Cond.code ⟨"EbbWreck", "thing", "(II)I"⟩ prog_1_method_8_code 3 (some .int) ∈ lw_g := mg (List.mem_of_getElem? (i := 831) (by decide +kernel)) rfl
theorem q829 : Cond.instanceMethod ⟨"EbbWreck", "thing", "(II)I"⟩ ∈ lw_g := mg (List.mem_of_getElem? (i := 829) (by decide +kernel)) rfl
theorem q830 : Cond.selects "EbbWreck" ⟨"EbbWreck", "thing", "(II)I"⟩ ⟨"EbbWreck", "thing", "(II)I"⟩ ∈ lw_g := mg (List.mem_of_getElem? (i := 830) (by decide +kernel)) rfl
theorem q828 : Cond.methodLink "EbbWreckLaw" 37 ⟨"EbbWreck", "thing", "(II)I"⟩ ∈ lw_g := mg (List.mem_of_getElem? (i := 828) (by decide +kernel)) rfl
theorem q1765 : Cond.code ⟨"EbbWreckModel", "thing", "(II)I"⟩ prog_14_method_54_code 3 (some .int) ∈ lw_g := mg (List.mem_of_getElem? (i := 1765) (by decide +kernel)) rfl
theorem q1763 : Cond.instanceMethod ⟨"EbbWreckModel", "thing", "(II)I"⟩ ∈ lw_g := mg (List.mem_of_getElem? (i := 1763) (by decide +kernel)) rfl
theorem q1764 : Cond.selects "EbbWreckModel" ⟨"EbbWreckModel", "thing", "(II)I"⟩ ⟨"EbbWreckModel", "thing", "(II)I"⟩ ∈ lw_g := mg (List.mem_of_getElem? (i := 1764) (by decide +kernel)) rfl
theorem q1762 : Cond.methodLink "EbbWreckLaw" 40 ⟨"EbbWreckModel", "thing", "(II)I"⟩ ∈ lw_g := mg (List.mem_of_getElem? (i := 1762) (by decide +kernel)) rfl
theorem q839 : Cond.code ⟨"EbbWreck", "rule", "(II)I"⟩ prog_1_method_9_code 4 (some .int) ∈ lw_g := mg (List.mem_of_getElem? (i := 839) (by decide +kernel)) rfl
theorem q837 : Cond.instanceMethod ⟨"EbbWreck", "rule", "(II)I"⟩ ∈ lw_g := mg (List.mem_of_getElem? (i := 837) (by decide +kernel)) rfl
theorem q838 : Cond.selects "EbbWreck" ⟨"EbbWreck", "rule", "(II)I"⟩ ⟨"EbbWreck", "rule", "(II)I"⟩ ∈ lw_g := mg (List.mem_of_getElem? (i := 838) (by decide +kernel)) rfl
theorem q836 : Cond.methodLink "EbbWreckLaw" 41 ⟨"EbbWreck", "rule", "(II)I"⟩ ∈ lw_g := mg (List.mem_of_getElem? (i := 836) (by decide +kernel)) rfl
theorem q1773 : Cond.code ⟨"EbbWreckModel", "rule", "(II)I"⟩ prog_14_method_55_code 3 (some .int) ∈ lw_g := mg (List.mem_of_getElem? (i := 1773) (by decide +kernel)) rfl
theorem q1771 : Cond.instanceMethod ⟨"EbbWreckModel", "rule", "(II)I"⟩ ∈ lw_g := mg (List.mem_of_getElem? (i := 1771) (by decide +kernel)) rfl
theorem q1772 : Cond.selects "EbbWreckModel" ⟨"EbbWreckModel", "rule", "(II)I"⟩ ⟨"EbbWreckModel", "rule", "(II)I"⟩ ∈ lw_g := mg (List.mem_of_getElem? (i := 1772) (by decide +kernel)) rfl
theorem q1770 : Cond.methodLink "EbbWreckLaw" 44 ⟨"EbbWreckModel", "rule", "(II)I"⟩ ∈ lw_g := mg (List.mem_of_getElem? (i := 1770) (by decide +kernel)) rfl
theorem q847 : Cond.code ⟨"EbbWreck", "sitter", "(I)I"⟩ prog_1_method_10_code 2 (some .int) ∈ lw_g := mg (List.mem_of_getElem? (i := 847) (by decide +kernel)) rfl
theorem q845 : Cond.instanceMethod ⟨"EbbWreck", "sitter", "(I)I"⟩ ∈ lw_g := mg (List.mem_of_getElem? (i := 845) (by decide +kernel)) rfl
theorem q846 : Cond.selects "EbbWreck" ⟨"EbbWreck", "sitter", "(I)I"⟩ ⟨"EbbWreck", "sitter", "(I)I"⟩ ∈ lw_g := mg (List.mem_of_getElem? (i := 846) (by decide +kernel)) rfl
theorem q844 : Cond.methodLink "EbbWreckLaw" 45 ⟨"EbbWreck", "sitter", "(I)I"⟩ ∈ lw_g := mg (List.mem_of_getElem? (i := 844) (by decide +kernel)) rfl
theorem q1815 : Cond.code ⟨"EbbWreckModel", "sitter", "(I)I"⟩ prog_14_method_66_code 2 (some .int) ∈ lw_g := mg (List.mem_of_getElem? (i := 1815) (by decide +kernel)) rfl
theorem q1813 : Cond.instanceMethod ⟨"EbbWreckModel", "sitter", "(I)I"⟩ ∈ lw_g := mg (List.mem_of_getElem? (i := 1813) (by decide +kernel)) rfl
theorem q1814 : Cond.selects "EbbWreckModel" ⟨"EbbWreckModel", "sitter", "(I)I"⟩ ⟨"EbbWreckModel", "sitter", "(I)I"⟩ ∈ lw_g := mg (List.mem_of_getElem? (i := 1814) (by decide +kernel)) rfl
theorem q1812 : Cond.methodLink "EbbWreckLaw" 48 ⟨"EbbWreckModel", "sitter", "(I)I"⟩ ∈ lw_g := mg (List.mem_of_getElem? (i := 1812) (by decide +kernel)) rfl
theorem q873 : Cond.code ⟨"EbbWreck", "phase", "(I)I"⟩ prog_1_method_12_code 2 (some .int) ∈ lw_g := mg (List.mem_of_getElem? (i := 873) (by decide +kernel)) rfl
theorem q871 : Cond.instanceMethod ⟨"EbbWreck", "phase", "(I)I"⟩ ∈ lw_g := mg (List.mem_of_getElem? (i := 871) (by decide +kernel)) rfl
theorem q872 : Cond.selects "EbbWreck" ⟨"EbbWreck", "phase", "(I)I"⟩ ⟨"EbbWreck", "phase", "(I)I"⟩ ∈ lw_g := mg (List.mem_of_getElem? (i := 872) (by decide +kernel)) rfl
theorem q870 : Cond.methodLink "EbbWreckLaw" 49 ⟨"EbbWreck", "phase", "(I)I"⟩ ∈ lw_g := mg (List.mem_of_getElem? (i := 870) (by decide +kernel)) rfl
theorem q1781 : Cond.code ⟨"EbbWreckModel", "phase", "(I)I"⟩ prog_14_method_56_code 2 (some .int) ∈ lw_g := mg (List.mem_of_getElem? (i := 1781) (by decide +kernel)) rfl
theorem q1779 : Cond.instanceMethod ⟨"EbbWreckModel", "phase", "(I)I"⟩ ∈ lw_g := mg (List.mem_of_getElem? (i := 1779) (by decide +kernel)) rfl
theorem q1780 : Cond.selects "EbbWreckModel" ⟨"EbbWreckModel", "phase", "(I)I"⟩ ⟨"EbbWreckModel", "phase", "(I)I"⟩ ∈ lw_g := mg (List.mem_of_getElem? (i := 1780) (by decide +kernel)) rfl
theorem q1778 : Cond.methodLink "EbbWreckLaw" 52 ⟨"EbbWreckModel", "phase", "(I)I"⟩ ∈ lw_g := mg (List.mem_of_getElem? (i := 1778) (by decide +kernel)) rfl
theorem q890 : Cond.code ⟨"EbbWreck", "next", "(II)I"⟩ prog_1_method_13_code 3 (some .int) ∈ lw_g := mg (List.mem_of_getElem? (i := 890) (by decide +kernel)) rfl
theorem q888 : Cond.instanceMethod ⟨"EbbWreck", "next", "(II)I"⟩ ∈ lw_g := mg (List.mem_of_getElem? (i := 888) (by decide +kernel)) rfl
theorem q889 : Cond.selects "EbbWreck" ⟨"EbbWreck", "next", "(II)I"⟩ ⟨"EbbWreck", "next", "(II)I"⟩ ∈ lw_g := mg (List.mem_of_getElem? (i := 889) (by decide +kernel)) rfl
theorem q887 : Cond.methodLink "EbbWreckLaw" 53 ⟨"EbbWreck", "next", "(II)I"⟩ ∈ lw_g := mg (List.mem_of_getElem? (i := 887) (by decide +kernel)) rfl
theorem q1798 : Cond.code ⟨"EbbWreckModel", "next", "(II)I"⟩ prog_14_method_57_code 4 (some .int) ∈ lw_g := mg (List.mem_of_getElem? (i := 1798) (by decide +kernel)) rfl
theorem q1796 : Cond.instanceMethod ⟨"EbbWreckModel", "next", "(II)I"⟩ ∈ lw_g := mg (List.mem_of_getElem? (i := 1796) (by decide +kernel)) rfl
theorem q1797 : Cond.selects "EbbWreckModel" ⟨"EbbWreckModel", "next", "(II)I"⟩ ⟨"EbbWreckModel", "next", "(II)I"⟩ ∈ lw_g := mg (List.mem_of_getElem? (i := 1797) (by decide +kernel)) rfl
theorem q1795 : Cond.methodLink "EbbWreckLaw" 56 ⟨"EbbWreckModel", "next", "(II)I"⟩ ∈ lw_g := mg (List.mem_of_getElem? (i := 1795) (by decide +kernel)) rfl
theorem q921 : Cond.code ⟨"EbbWreck", "drifts", "(II)I"⟩ prog_1_method_16_code 3 (some .int) ∈ lw_g := mg (List.mem_of_getElem? (i := 921) (by decide +kernel)) rfl
theorem q919 : Cond.instanceMethod ⟨"EbbWreck", "drifts", "(II)I"⟩ ∈ lw_g := mg (List.mem_of_getElem? (i := 919) (by decide +kernel)) rfl
theorem q920 : Cond.selects "EbbWreck" ⟨"EbbWreck", "drifts", "(II)I"⟩ ⟨"EbbWreck", "drifts", "(II)I"⟩ ∈ lw_g := mg (List.mem_of_getElem? (i := 920) (by decide +kernel)) rfl
theorem q918 : Cond.methodLink "EbbWreckLaw" 57 ⟨"EbbWreck", "drifts", "(II)I"⟩ ∈ lw_g := mg (List.mem_of_getElem? (i := 918) (by decide +kernel)) rfl
theorem q1803 : Cond.code ⟨"EbbWreckModel", "drifts", "(II)I"⟩ prog_14_method_58_code 3 (some .int) ∈ lw_g := mg (List.mem_of_getElem? (i := 1803) (by decide +kernel)) rfl
theorem q1801 : Cond.instanceMethod ⟨"EbbWreckModel", "drifts", "(II)I"⟩ ∈ lw_g := mg (List.mem_of_getElem? (i := 1801) (by decide +kernel)) rfl
theorem q1802 : Cond.selects "EbbWreckModel" ⟨"EbbWreckModel", "drifts", "(II)I"⟩ ⟨"EbbWreckModel", "drifts", "(II)I"⟩ ∈ lw_g := mg (List.mem_of_getElem? (i := 1802) (by decide +kernel)) rfl
theorem q1800 : Cond.methodLink "EbbWreckLaw" 60 ⟨"EbbWreckModel", "drifts", "(II)I"⟩ ∈ lw_g := mg (List.mem_of_getElem? (i := 1800) (by decide +kernel)) rfl
theorem q926 : Cond.code ⟨"EbbWreck", "at", "(II)I"⟩ prog_1_method_21_code 3 (some .int) ∈ lw_g := mg (List.mem_of_getElem? (i := 926) (by decide +kernel)) rfl
theorem q924 : Cond.instanceMethod ⟨"EbbWreck", "at", "(II)I"⟩ ∈ lw_g := mg (List.mem_of_getElem? (i := 924) (by decide +kernel)) rfl
theorem q925 : Cond.selects "EbbWreck" ⟨"EbbWreck", "at", "(II)I"⟩ ⟨"EbbWreck", "at", "(II)I"⟩ ∈ lw_g := mg (List.mem_of_getElem? (i := 925) (by decide +kernel)) rfl
theorem q923 : Cond.methodLink "EbbWreckLaw" 61 ⟨"EbbWreck", "at", "(II)I"⟩ ∈ lw_g := mg (List.mem_of_getElem? (i := 923) (by decide +kernel)) rfl
theorem q1827 : Cond.code ⟨"EbbWreckModel", "at", "(II)I"⟩ prog_14_method_67_code 3 (some .int) ∈ lw_g := mg (List.mem_of_getElem? (i := 1827) (by decide +kernel)) rfl
theorem q1825 : Cond.instanceMethod ⟨"EbbWreckModel", "at", "(II)I"⟩ ∈ lw_g := mg (List.mem_of_getElem? (i := 1825) (by decide +kernel)) rfl
theorem q1826 : Cond.selects "EbbWreckModel" ⟨"EbbWreckModel", "at", "(II)I"⟩ ⟨"EbbWreckModel", "at", "(II)I"⟩ ∈ lw_g := mg (List.mem_of_getElem? (i := 1826) (by decide +kernel)) rfl
theorem q1824 : Cond.methodLink "EbbWreckLaw" 64 ⟨"EbbWreckModel", "at", "(II)I"⟩ ∈ lw_g := mg (List.mem_of_getElem? (i := 1824) (by decide +kernel)) rfl
theorem q934 : Cond.code ⟨"EbbWreck", "comes", "(I)I"⟩ prog_1_method_22_code 2 (some .int) ∈ lw_g := mg (List.mem_of_getElem? (i := 934) (by decide +kernel)) rfl
theorem q932 : Cond.instanceMethod ⟨"EbbWreck", "comes", "(I)I"⟩ ∈ lw_g := mg (List.mem_of_getElem? (i := 932) (by decide +kernel)) rfl
theorem q933 : Cond.selects "EbbWreck" ⟨"EbbWreck", "comes", "(I)I"⟩ ⟨"EbbWreck", "comes", "(I)I"⟩ ∈ lw_g := mg (List.mem_of_getElem? (i := 933) (by decide +kernel)) rfl
theorem q931 : Cond.methodLink "EbbWreckLaw" 65 ⟨"EbbWreck", "comes", "(I)I"⟩ ∈ lw_g := mg (List.mem_of_getElem? (i := 931) (by decide +kernel)) rfl
theorem q1845 : Cond.code ⟨"EbbWreckModel", "comes", "(I)I"⟩ prog_14_method_68_code 2 (some .int) ∈ lw_g := mg (List.mem_of_getElem? (i := 1845) (by decide +kernel)) rfl
theorem q1843 : Cond.instanceMethod ⟨"EbbWreckModel", "comes", "(I)I"⟩ ∈ lw_g := mg (List.mem_of_getElem? (i := 1843) (by decide +kernel)) rfl
theorem q1844 : Cond.selects "EbbWreckModel" ⟨"EbbWreckModel", "comes", "(I)I"⟩ ⟨"EbbWreckModel", "comes", "(I)I"⟩ ∈ lw_g := mg (List.mem_of_getElem? (i := 1844) (by decide +kernel)) rfl
theorem q1842 : Cond.methodLink "EbbWreckLaw" 68 ⟨"EbbWreckModel", "comes", "(I)I"⟩ ∈ lw_g := mg (List.mem_of_getElem? (i := 1842) (by decide +kernel)) rfl
theorem q938 : Cond.code ⟨"EbbWreck", "beach", "(I)I"⟩ prog_1_method_23_code 2 (some .int) ∈ lw_g := mg (List.mem_of_getElem? (i := 938) (by decide +kernel)) rfl
theorem q936 : Cond.instanceMethod ⟨"EbbWreck", "beach", "(I)I"⟩ ∈ lw_g := mg (List.mem_of_getElem? (i := 936) (by decide +kernel)) rfl
theorem q937 : Cond.selects "EbbWreck" ⟨"EbbWreck", "beach", "(I)I"⟩ ⟨"EbbWreck", "beach", "(I)I"⟩ ∈ lw_g := mg (List.mem_of_getElem? (i := 937) (by decide +kernel)) rfl
theorem q935 : Cond.methodLink "EbbWreckLaw" 69 ⟨"EbbWreck", "beach", "(I)I"⟩ ∈ lw_g := mg (List.mem_of_getElem? (i := 935) (by decide +kernel)) rfl
theorem q1853 : Cond.code ⟨"EbbWreckModel", "beach", "(I)I"⟩ prog_14_method_69_code 2 (some .int) ∈ lw_g := mg (List.mem_of_getElem? (i := 1853) (by decide +kernel)) rfl
theorem q1851 : Cond.instanceMethod ⟨"EbbWreckModel", "beach", "(I)I"⟩ ∈ lw_g := mg (List.mem_of_getElem? (i := 1851) (by decide +kernel)) rfl
theorem q1852 : Cond.selects "EbbWreckModel" ⟨"EbbWreckModel", "beach", "(I)I"⟩ ⟨"EbbWreckModel", "beach", "(I)I"⟩ ∈ lw_g := mg (List.mem_of_getElem? (i := 1852) (by decide +kernel)) rfl
theorem q1850 : Cond.methodLink "EbbWreckLaw" 72 ⟨"EbbWreckModel", "beach", "(I)I"⟩ ∈ lw_g := mg (List.mem_of_getElem? (i := 1850) (by decide +kernel)) rfl
theorem q942 : Cond.code ⟨"EbbWreck", "whose", "(I)I"⟩ prog_1_method_24_code 2 (some .int) ∈ lw_g := mg (List.mem_of_getElem? (i := 942) (by decide +kernel)) rfl
theorem q940 : Cond.instanceMethod ⟨"EbbWreck", "whose", "(I)I"⟩ ∈ lw_g := mg (List.mem_of_getElem? (i := 940) (by decide +kernel)) rfl
theorem q941 : Cond.selects "EbbWreck" ⟨"EbbWreck", "whose", "(I)I"⟩ ⟨"EbbWreck", "whose", "(I)I"⟩ ∈ lw_g := mg (List.mem_of_getElem? (i := 941) (by decide +kernel)) rfl
theorem q939 : Cond.methodLink "EbbWreckLaw" 73 ⟨"EbbWreck", "whose", "(I)I"⟩ ∈ lw_g := mg (List.mem_of_getElem? (i := 939) (by decide +kernel)) rfl
theorem q1857 : Cond.code ⟨"EbbWreckModel", "whose", "(I)I"⟩ prog_14_method_70_code 2 (some .int) ∈ lw_g := mg (List.mem_of_getElem? (i := 1857) (by decide +kernel)) rfl
theorem q1855 : Cond.instanceMethod ⟨"EbbWreckModel", "whose", "(I)I"⟩ ∈ lw_g := mg (List.mem_of_getElem? (i := 1855) (by decide +kernel)) rfl
theorem q1856 : Cond.selects "EbbWreckModel" ⟨"EbbWreckModel", "whose", "(I)I"⟩ ⟨"EbbWreckModel", "whose", "(I)I"⟩ ∈ lw_g := mg (List.mem_of_getElem? (i := 1856) (by decide +kernel)) rfl
theorem q1854 : Cond.methodLink "EbbWreckLaw" 76 ⟨"EbbWreckModel", "whose", "(I)I"⟩ ∈ lw_g := mg (List.mem_of_getElem? (i := 1854) (by decide +kernel)) rfl
theorem q962 : Cond.code ⟨"EbbWreck", "has", "(I)I"⟩ prog_1_method_25_code 2 (some .int) ∈ lw_g := mg (List.mem_of_getElem? (i := 962) (by decide +kernel)) rfl
theorem q960 : Cond.instanceMethod ⟨"EbbWreck", "has", "(I)I"⟩ ∈ lw_g := mg (List.mem_of_getElem? (i := 960) (by decide +kernel)) rfl
theorem q961 : Cond.selects "EbbWreck" ⟨"EbbWreck", "has", "(I)I"⟩ ⟨"EbbWreck", "has", "(I)I"⟩ ∈ lw_g := mg (List.mem_of_getElem? (i := 961) (by decide +kernel)) rfl
theorem q959 : Cond.methodLink "EbbWreckLaw" 77 ⟨"EbbWreck", "has", "(I)I"⟩ ∈ lw_g := mg (List.mem_of_getElem? (i := 959) (by decide +kernel)) rfl
theorem q1873 : Cond.code ⟨"EbbWreckModel", "has", "(I)I"⟩ prog_14_method_72_code 2 (some .int) ∈ lw_g := mg (List.mem_of_getElem? (i := 1873) (by decide +kernel)) rfl
theorem q1871 : Cond.instanceMethod ⟨"EbbWreckModel", "has", "(I)I"⟩ ∈ lw_g := mg (List.mem_of_getElem? (i := 1871) (by decide +kernel)) rfl
theorem q1872 : Cond.selects "EbbWreckModel" ⟨"EbbWreckModel", "has", "(I)I"⟩ ⟨"EbbWreckModel", "has", "(I)I"⟩ ∈ lw_g := mg (List.mem_of_getElem? (i := 1872) (by decide +kernel)) rfl
theorem q1870 : Cond.methodLink "EbbWreckLaw" 80 ⟨"EbbWreckModel", "has", "(I)I"⟩ ∈ lw_g := mg (List.mem_of_getElem? (i := 1870) (by decide +kernel)) rfl
theorem q975 : Cond.code ⟨"EbbWreck", "line", "(I)I"⟩ prog_1_method_26_code 2 (some .int) ∈ lw_g := mg (List.mem_of_getElem? (i := 975) (by decide +kernel)) rfl
theorem q973 : Cond.instanceMethod ⟨"EbbWreck", "line", "(I)I"⟩ ∈ lw_g := mg (List.mem_of_getElem? (i := 973) (by decide +kernel)) rfl
theorem q974 : Cond.selects "EbbWreck" ⟨"EbbWreck", "line", "(I)I"⟩ ⟨"EbbWreck", "line", "(I)I"⟩ ∈ lw_g := mg (List.mem_of_getElem? (i := 974) (by decide +kernel)) rfl
theorem q972 : Cond.methodLink "EbbWreckLaw" 81 ⟨"EbbWreck", "line", "(I)I"⟩ ∈ lw_g := mg (List.mem_of_getElem? (i := 972) (by decide +kernel)) rfl
theorem q1890 : Cond.code ⟨"EbbWreckModel", "line", "(I)I"⟩ prog_14_method_73_code 4 (some .int) ∈ lw_g := mg (List.mem_of_getElem? (i := 1890) (by decide +kernel)) rfl
theorem q1888 : Cond.instanceMethod ⟨"EbbWreckModel", "line", "(I)I"⟩ ∈ lw_g := mg (List.mem_of_getElem? (i := 1888) (by decide +kernel)) rfl
theorem q1889 : Cond.selects "EbbWreckModel" ⟨"EbbWreckModel", "line", "(I)I"⟩ ⟨"EbbWreckModel", "line", "(I)I"⟩ ∈ lw_g := mg (List.mem_of_getElem? (i := 1889) (by decide +kernel)) rfl
theorem q1887 : Cond.methodLink "EbbWreckLaw" 84 ⟨"EbbWreckModel", "line", "(I)I"⟩ ∈ lw_g := mg (List.mem_of_getElem? (i := 1887) (by decide +kernel)) rfl
theorem q1000 : Cond.code ⟨"EbbWreck", "argued", "()I"⟩ prog_1_method_29_code 1 (some .int) ∈ lw_g := mg (List.mem_of_getElem? (i := 1000) (by decide +kernel)) rfl
theorem q998 : Cond.instanceMethod ⟨"EbbWreck", "argued", "()I"⟩ ∈ lw_g := mg (List.mem_of_getElem? (i := 998) (by decide +kernel)) rfl
theorem q999 : Cond.selects "EbbWreck" ⟨"EbbWreck", "argued", "()I"⟩ ⟨"EbbWreck", "argued", "()I"⟩ ∈ lw_g := mg (List.mem_of_getElem? (i := 999) (by decide +kernel)) rfl
theorem q997 : Cond.methodLink "EbbWreckLaw" 85 ⟨"EbbWreck", "argued", "()I"⟩ ∈ lw_g := mg (List.mem_of_getElem? (i := 997) (by decide +kernel)) rfl
theorem q1894 : Cond.code ⟨"EbbWreckModel", "argued", "()I"⟩ prog_14_method_74_code 5 (some .int) ∈ lw_g := mg (List.mem_of_getElem? (i := 1894) (by decide +kernel)) rfl
theorem q1892 : Cond.instanceMethod ⟨"EbbWreckModel", "argued", "()I"⟩ ∈ lw_g := mg (List.mem_of_getElem? (i := 1892) (by decide +kernel)) rfl
theorem q1893 : Cond.selects "EbbWreckModel" ⟨"EbbWreckModel", "argued", "()I"⟩ ⟨"EbbWreckModel", "argued", "()I"⟩ ∈ lw_g := mg (List.mem_of_getElem? (i := 1893) (by decide +kernel)) rfl
theorem q1891 : Cond.methodLink "EbbWreckLaw" 88 ⟨"EbbWreckModel", "argued", "()I"⟩ ∈ lw_g := mg (List.mem_of_getElem? (i := 1891) (by decide +kernel)) rfl
theorem q1018 : Cond.code ⟨"EbbWreck", "gaps", "(I)I"⟩ prog_1_method_30_code 4 (some .int) ∈ lw_g := mg (List.mem_of_getElem? (i := 1018) (by decide +kernel)) rfl
theorem q1016 : Cond.instanceMethod ⟨"EbbWreck", "gaps", "(I)I"⟩ ∈ lw_g := mg (List.mem_of_getElem? (i := 1016) (by decide +kernel)) rfl
theorem q1017 : Cond.selects "EbbWreck" ⟨"EbbWreck", "gaps", "(I)I"⟩ ⟨"EbbWreck", "gaps", "(I)I"⟩ ∈ lw_g := mg (List.mem_of_getElem? (i := 1017) (by decide +kernel)) rfl
theorem q1015 : Cond.methodLink "EbbWreckLaw" 89 ⟨"EbbWreck", "gaps", "(I)I"⟩ ∈ lw_g := mg (List.mem_of_getElem? (i := 1015) (by decide +kernel)) rfl
theorem q1901 : Cond.code ⟨"EbbWreckModel", "gaps", "(I)I"⟩ prog_14_method_75_code 4 (some .int) ∈ lw_g := mg (List.mem_of_getElem? (i := 1901) (by decide +kernel)) rfl
theorem q1899 : Cond.instanceMethod ⟨"EbbWreckModel", "gaps", "(I)I"⟩ ∈ lw_g := mg (List.mem_of_getElem? (i := 1899) (by decide +kernel)) rfl
theorem q1900 : Cond.selects "EbbWreckModel" ⟨"EbbWreckModel", "gaps", "(I)I"⟩ ⟨"EbbWreckModel", "gaps", "(I)I"⟩ ∈ lw_g := mg (List.mem_of_getElem? (i := 1900) (by decide +kernel)) rfl
theorem q1898 : Cond.methodLink "EbbWreckLaw" 92 ⟨"EbbWreckModel", "gaps", "(I)I"⟩ ∈ lw_g := mg (List.mem_of_getElem? (i := 1898) (by decide +kernel)) rfl
theorem q1023 : Cond.code ⟨"EbbWreck", "idle", "()I"⟩ prog_1_method_31_code 5 (some .int) ∈ lw_g := mg (List.mem_of_getElem? (i := 1023) (by decide +kernel)) rfl
theorem q1021 : Cond.instanceMethod ⟨"EbbWreck", "idle", "()I"⟩ ∈ lw_g := mg (List.mem_of_getElem? (i := 1021) (by decide +kernel)) rfl
theorem q1022 : Cond.selects "EbbWreck" ⟨"EbbWreck", "idle", "()I"⟩ ⟨"EbbWreck", "idle", "()I"⟩ ∈ lw_g := mg (List.mem_of_getElem? (i := 1022) (by decide +kernel)) rfl
theorem q1020 : Cond.methodLink "EbbWreckLaw" 93 ⟨"EbbWreck", "idle", "()I"⟩ ∈ lw_g := mg (List.mem_of_getElem? (i := 1020) (by decide +kernel)) rfl
theorem q1905 : Cond.code ⟨"EbbWreckModel", "idle", "()I"⟩ prog_14_method_77_code 3 (some .int) ∈ lw_g := mg (List.mem_of_getElem? (i := 1905) (by decide +kernel)) rfl
theorem q1903 : Cond.instanceMethod ⟨"EbbWreckModel", "idle", "()I"⟩ ∈ lw_g := mg (List.mem_of_getElem? (i := 1903) (by decide +kernel)) rfl
theorem q1904 : Cond.selects "EbbWreckModel" ⟨"EbbWreckModel", "idle", "()I"⟩ ⟨"EbbWreckModel", "idle", "()I"⟩ ∈ lw_g := mg (List.mem_of_getElem? (i := 1904) (by decide +kernel)) rfl
theorem q1902 : Cond.methodLink "EbbWreckLaw" 96 ⟨"EbbWreckModel", "idle", "()I"⟩ ∈ lw_g := mg (List.mem_of_getElem? (i := 1902) (by decide +kernel)) rfl
theorem q1027 : Cond.code ⟨"EbbWreck", "without", "(II)I"⟩ prog_1_method_32_code 3 (some .int) ∈ lw_g := mg (List.mem_of_getElem? (i := 1027) (by decide +kernel)) rfl
theorem q1025 : Cond.instanceMethod ⟨"EbbWreck", "without", "(II)I"⟩ ∈ lw_g := mg (List.mem_of_getElem? (i := 1025) (by decide +kernel)) rfl
theorem q1026 : Cond.selects "EbbWreck" ⟨"EbbWreck", "without", "(II)I"⟩ ⟨"EbbWreck", "without", "(II)I"⟩ ∈ lw_g := mg (List.mem_of_getElem? (i := 1026) (by decide +kernel)) rfl
theorem q1024 : Cond.methodLink "EbbWreckLaw" 97 ⟨"EbbWreck", "without", "(II)I"⟩ ∈ lw_g := mg (List.mem_of_getElem? (i := 1024) (by decide +kernel)) rfl
theorem q1913 : Cond.code ⟨"EbbWreckModel", "without", "(II)I"⟩ prog_14_method_78_code 3 (some .int) ∈ lw_g := mg (List.mem_of_getElem? (i := 1913) (by decide +kernel)) rfl
theorem q1911 : Cond.instanceMethod ⟨"EbbWreckModel", "without", "(II)I"⟩ ∈ lw_g := mg (List.mem_of_getElem? (i := 1911) (by decide +kernel)) rfl
theorem q1912 : Cond.selects "EbbWreckModel" ⟨"EbbWreckModel", "without", "(II)I"⟩ ⟨"EbbWreckModel", "without", "(II)I"⟩ ∈ lw_g := mg (List.mem_of_getElem? (i := 1912) (by decide +kernel)) rfl
theorem q1910 : Cond.methodLink "EbbWreckLaw" 100 ⟨"EbbWreckModel", "without", "(II)I"⟩ ∈ lw_g := mg (List.mem_of_getElem? (i := 1910) (by decide +kernel)) rfl
theorem q1031 : Cond.code ⟨"EbbWreck", "strike", "(I)I"⟩ prog_1_method_33_code 6 (some .int) ∈ lw_g := mg (List.mem_of_getElem? (i := 1031) (by decide +kernel)) rfl
theorem q1029 : Cond.instanceMethod ⟨"EbbWreck", "strike", "(I)I"⟩ ∈ lw_g := mg (List.mem_of_getElem? (i := 1029) (by decide +kernel)) rfl
theorem q1030 : Cond.selects "EbbWreck" ⟨"EbbWreck", "strike", "(I)I"⟩ ⟨"EbbWreck", "strike", "(I)I"⟩ ∈ lw_g := mg (List.mem_of_getElem? (i := 1030) (by decide +kernel)) rfl
theorem q1028 : Cond.methodLink "EbbWreckLaw" 101 ⟨"EbbWreck", "strike", "(I)I"⟩ ∈ lw_g := mg (List.mem_of_getElem? (i := 1028) (by decide +kernel)) rfl
theorem q1917 : Cond.code ⟨"EbbWreckModel", "strike", "(I)I"⟩ prog_14_method_79_code 6 (some .int) ∈ lw_g := mg (List.mem_of_getElem? (i := 1917) (by decide +kernel)) rfl
theorem q1915 : Cond.instanceMethod ⟨"EbbWreckModel", "strike", "(I)I"⟩ ∈ lw_g := mg (List.mem_of_getElem? (i := 1915) (by decide +kernel)) rfl
theorem q1916 : Cond.selects "EbbWreckModel" ⟨"EbbWreckModel", "strike", "(I)I"⟩ ⟨"EbbWreckModel", "strike", "(I)I"⟩ ∈ lw_g := mg (List.mem_of_getElem? (i := 1916) (by decide +kernel)) rfl
theorem q1914 : Cond.methodLink "EbbWreckLaw" 104 ⟨"EbbWreckModel", "strike", "(I)I"⟩ ∈ lw_g := mg (List.mem_of_getElem? (i := 1914) (by decide +kernel)) rfl
theorem q1043 : Cond.code ⟨"EbbWreck", "pushes", "(II)I"⟩ prog_1_method_37_code 3 (some .int) ∈ lw_g := mg (List.mem_of_getElem? (i := 1043) (by decide +kernel)) rfl
theorem q1041 : Cond.instanceMethod ⟨"EbbWreck", "pushes", "(II)I"⟩ ∈ lw_g := mg (List.mem_of_getElem? (i := 1041) (by decide +kernel)) rfl
theorem q1042 : Cond.selects "EbbWreck" ⟨"EbbWreck", "pushes", "(II)I"⟩ ⟨"EbbWreck", "pushes", "(II)I"⟩ ∈ lw_g := mg (List.mem_of_getElem? (i := 1042) (by decide +kernel)) rfl
theorem q1040 : Cond.methodLink "EbbWreckLaw" 105 ⟨"EbbWreck", "pushes", "(II)I"⟩ ∈ lw_g := mg (List.mem_of_getElem? (i := 1040) (by decide +kernel)) rfl
theorem q1921 : Cond.code ⟨"EbbWreckModel", "pushes", "(II)I"⟩ prog_14_method_84_code 3 (some .int) ∈ lw_g := mg (List.mem_of_getElem? (i := 1921) (by decide +kernel)) rfl
theorem q1919 : Cond.instanceMethod ⟨"EbbWreckModel", "pushes", "(II)I"⟩ ∈ lw_g := mg (List.mem_of_getElem? (i := 1919) (by decide +kernel)) rfl
theorem q1920 : Cond.selects "EbbWreckModel" ⟨"EbbWreckModel", "pushes", "(II)I"⟩ ⟨"EbbWreckModel", "pushes", "(II)I"⟩ ∈ lw_g := mg (List.mem_of_getElem? (i := 1920) (by decide +kernel)) rfl
theorem q1918 : Cond.methodLink "EbbWreckLaw" 108 ⟨"EbbWreckModel", "pushes", "(II)I"⟩ ∈ lw_g := mg (List.mem_of_getElem? (i := 1918) (by decide +kernel)) rfl
theorem q1076 : Cond.code ⟨"EbbWreck", "push", "(III)I"⟩ prog_1_method_38_code 5 (some .int) ∈ lw_g := mg (List.mem_of_getElem? (i := 1076) (by decide +kernel)) rfl
theorem q1074 : Cond.instanceMethod ⟨"EbbWreck", "push", "(III)I"⟩ ∈ lw_g := mg (List.mem_of_getElem? (i := 1074) (by decide +kernel)) rfl
theorem q1075 : Cond.selects "EbbWreck" ⟨"EbbWreck", "push", "(III)I"⟩ ⟨"EbbWreck", "push", "(III)I"⟩ ∈ lw_g := mg (List.mem_of_getElem? (i := 1075) (by decide +kernel)) rfl
theorem q1073 : Cond.methodLink "EbbWreckLaw" 109 ⟨"EbbWreck", "push", "(III)I"⟩ ∈ lw_g := mg (List.mem_of_getElem? (i := 1073) (by decide +kernel)) rfl
theorem q1941 : Cond.code ⟨"EbbWreckModel", "push", "(III)I"⟩ prog_14_method_86_code 4 (some .int) ∈ lw_g := mg (List.mem_of_getElem? (i := 1941) (by decide +kernel)) rfl
theorem q1939 : Cond.instanceMethod ⟨"EbbWreckModel", "push", "(III)I"⟩ ∈ lw_g := mg (List.mem_of_getElem? (i := 1939) (by decide +kernel)) rfl
theorem q1940 : Cond.selects "EbbWreckModel" ⟨"EbbWreckModel", "push", "(III)I"⟩ ⟨"EbbWreckModel", "push", "(III)I"⟩ ∈ lw_g := mg (List.mem_of_getElem? (i := 1940) (by decide +kernel)) rfl
theorem q1938 : Cond.methodLink "EbbWreckLaw" 113 ⟨"EbbWreckModel", "push", "(III)I"⟩ ∈ lw_g := mg (List.mem_of_getElem? (i := 1938) (by decide +kernel)) rfl
theorem q1088 : Cond.code ⟨"EbbWreck", "way", "(III)I"⟩ prog_1_method_39_code 5 (some .int) ∈ lw_g := mg (List.mem_of_getElem? (i := 1088) (by decide +kernel)) rfl
theorem q1086 : Cond.instanceMethod ⟨"EbbWreck", "way", "(III)I"⟩ ∈ lw_g := mg (List.mem_of_getElem? (i := 1086) (by decide +kernel)) rfl
theorem q1087 : Cond.selects "EbbWreck" ⟨"EbbWreck", "way", "(III)I"⟩ ⟨"EbbWreck", "way", "(III)I"⟩ ∈ lw_g := mg (List.mem_of_getElem? (i := 1087) (by decide +kernel)) rfl
theorem q1085 : Cond.methodLink "EbbWreckLaw" 114 ⟨"EbbWreck", "way", "(III)I"⟩ ∈ lw_g := mg (List.mem_of_getElem? (i := 1085) (by decide +kernel)) rfl
theorem q1949 : Cond.code ⟨"EbbWreckModel", "way", "(III)I"⟩ prog_14_method_87_code 4 (some .int) ∈ lw_g := mg (List.mem_of_getElem? (i := 1949) (by decide +kernel)) rfl
theorem q1947 : Cond.instanceMethod ⟨"EbbWreckModel", "way", "(III)I"⟩ ∈ lw_g := mg (List.mem_of_getElem? (i := 1947) (by decide +kernel)) rfl
theorem q1948 : Cond.selects "EbbWreckModel" ⟨"EbbWreckModel", "way", "(III)I"⟩ ⟨"EbbWreckModel", "way", "(III)I"⟩ ∈ lw_g := mg (List.mem_of_getElem? (i := 1948) (by decide +kernel)) rfl
theorem q1946 : Cond.methodLink "EbbWreckLaw" 117 ⟨"EbbWreckModel", "way", "(III)I"⟩ ∈ lw_g := mg (List.mem_of_getElem? (i := 1946) (by decide +kernel)) rfl
theorem q1092 : Cond.code ⟨"EbbWreck", "soonest", "(II)I"⟩ prog_1_method_40_code 3 (some .int) ∈ lw_g := mg (List.mem_of_getElem? (i := 1092) (by decide +kernel)) rfl
theorem q1090 : Cond.instanceMethod ⟨"EbbWreck", "soonest", "(II)I"⟩ ∈ lw_g := mg (List.mem_of_getElem? (i := 1090) (by decide +kernel)) rfl
theorem q1091 : Cond.selects "EbbWreck" ⟨"EbbWreck", "soonest", "(II)I"⟩ ⟨"EbbWreck", "soonest", "(II)I"⟩ ∈ lw_g := mg (List.mem_of_getElem? (i := 1091) (by decide +kernel)) rfl
theorem q1089 : Cond.methodLink "EbbWreckLaw" 118 ⟨"EbbWreck", "soonest", "(II)I"⟩ ∈ lw_g := mg (List.mem_of_getElem? (i := 1089) (by decide +kernel)) rfl
theorem q1953 : Cond.code ⟨"EbbWreckModel", "soonest", "(II)I"⟩ prog_14_method_88_code 9 (some .int) ∈ lw_g := mg (List.mem_of_getElem? (i := 1953) (by decide +kernel)) rfl
theorem q1951 : Cond.instanceMethod ⟨"EbbWreckModel", "soonest", "(II)I"⟩ ∈ lw_g := mg (List.mem_of_getElem? (i := 1951) (by decide +kernel)) rfl
theorem q1952 : Cond.selects "EbbWreckModel" ⟨"EbbWreckModel", "soonest", "(II)I"⟩ ⟨"EbbWreckModel", "soonest", "(II)I"⟩ ∈ lw_g := mg (List.mem_of_getElem? (i := 1952) (by decide +kernel)) rfl
theorem q1950 : Cond.methodLink "EbbWreckLaw" 121 ⟨"EbbWreckModel", "soonest", "(II)I"⟩ ∈ lw_g := mg (List.mem_of_getElem? (i := 1950) (by decide +kernel)) rfl
theorem q1108 : Cond.code ⟨"EbbWreck", "ward", "(II)I"⟩ prog_1_method_41_code 3 (some .int) ∈ lw_g := mg (List.mem_of_getElem? (i := 1108) (by decide +kernel)) rfl
theorem q1106 : Cond.instanceMethod ⟨"EbbWreck", "ward", "(II)I"⟩ ∈ lw_g := mg (List.mem_of_getElem? (i := 1106) (by decide +kernel)) rfl
theorem q1107 : Cond.selects "EbbWreck" ⟨"EbbWreck", "ward", "(II)I"⟩ ⟨"EbbWreck", "ward", "(II)I"⟩ ∈ lw_g := mg (List.mem_of_getElem? (i := 1107) (by decide +kernel)) rfl
theorem q1105 : Cond.methodLink "EbbWreckLaw" 122 ⟨"EbbWreck", "ward", "(II)I"⟩ ∈ lw_g := mg (List.mem_of_getElem? (i := 1105) (by decide +kernel)) rfl
theorem q1957 : Cond.code ⟨"EbbWreckModel", "ward", "(II)I"⟩ prog_14_method_90_code 7 (some .int) ∈ lw_g := mg (List.mem_of_getElem? (i := 1957) (by decide +kernel)) rfl
theorem q1955 : Cond.instanceMethod ⟨"EbbWreckModel", "ward", "(II)I"⟩ ∈ lw_g := mg (List.mem_of_getElem? (i := 1955) (by decide +kernel)) rfl
theorem q1956 : Cond.selects "EbbWreckModel" ⟨"EbbWreckModel", "ward", "(II)I"⟩ ⟨"EbbWreckModel", "ward", "(II)I"⟩ ∈ lw_g := mg (List.mem_of_getElem? (i := 1956) (by decide +kernel)) rfl
theorem q1954 : Cond.methodLink "EbbWreckLaw" 125 ⟨"EbbWreckModel", "ward", "(II)I"⟩ ∈ lw_g := mg (List.mem_of_getElem? (i := 1954) (by decide +kernel)) rfl
theorem q1112 : Cond.code ⟨"EbbWreck", "all", "(I)I"⟩ prog_1_method_42_code 2 (some .int) ∈ lw_g := mg (List.mem_of_getElem? (i := 1112) (by decide +kernel)) rfl
theorem q1110 : Cond.instanceMethod ⟨"EbbWreck", "all", "(I)I"⟩ ∈ lw_g := mg (List.mem_of_getElem? (i := 1110) (by decide +kernel)) rfl
theorem q1111 : Cond.selects "EbbWreck" ⟨"EbbWreck", "all", "(I)I"⟩ ⟨"EbbWreck", "all", "(I)I"⟩ ∈ lw_g := mg (List.mem_of_getElem? (i := 1111) (by decide +kernel)) rfl
theorem q1109 : Cond.methodLink "EbbWreckLaw" 126 ⟨"EbbWreck", "all", "(I)I"⟩ ∈ lw_g := mg (List.mem_of_getElem? (i := 1109) (by decide +kernel)) rfl
theorem q1965 : Cond.code ⟨"EbbWreckModel", "all", "(I)I"⟩ prog_14_method_91_code 4 (some .int) ∈ lw_g := mg (List.mem_of_getElem? (i := 1965) (by decide +kernel)) rfl
theorem q1963 : Cond.instanceMethod ⟨"EbbWreckModel", "all", "(I)I"⟩ ∈ lw_g := mg (List.mem_of_getElem? (i := 1963) (by decide +kernel)) rfl
theorem q1964 : Cond.selects "EbbWreckModel" ⟨"EbbWreckModel", "all", "(I)I"⟩ ⟨"EbbWreckModel", "all", "(I)I"⟩ ∈ lw_g := mg (List.mem_of_getElem? (i := 1964) (by decide +kernel)) rfl
theorem q1962 : Cond.methodLink "EbbWreckLaw" 129 ⟨"EbbWreckModel", "all", "(I)I"⟩ ∈ lw_g := mg (List.mem_of_getElem? (i := 1962) (by decide +kernel)) rfl
theorem q983 : Cond.code ⟨"EbbWreck", "richest", "()I"⟩ prog_1_method_27_code 5 (some .int) ∈ lw_g := mg (List.mem_of_getElem? (i := 983) (by decide +kernel)) rfl
theorem q981 : Cond.instanceMethod ⟨"EbbWreck", "richest", "()I"⟩ ∈ lw_g := mg (List.mem_of_getElem? (i := 981) (by decide +kernel)) rfl
theorem q982 : Cond.selects "EbbWreck" ⟨"EbbWreck", "richest", "()I"⟩ ⟨"EbbWreck", "richest", "()I"⟩ ∈ lw_g := mg (List.mem_of_getElem? (i := 982) (by decide +kernel)) rfl
theorem q980 : Cond.methodLink "EbbWreckLaw" 130 ⟨"EbbWreck", "richest", "()I"⟩ ∈ lw_g := mg (List.mem_of_getElem? (i := 980) (by decide +kernel)) rfl
theorem q1969 : Cond.code ⟨"EbbWreckModel", "richest", "()I"⟩ prog_14_method_92_code 3 (some .int) ∈ lw_g := mg (List.mem_of_getElem? (i := 1969) (by decide +kernel)) rfl
theorem q1967 : Cond.instanceMethod ⟨"EbbWreckModel", "richest", "()I"⟩ ∈ lw_g := mg (List.mem_of_getElem? (i := 1967) (by decide +kernel)) rfl
theorem q1968 : Cond.selects "EbbWreckModel" ⟨"EbbWreckModel", "richest", "()I"⟩ ⟨"EbbWreckModel", "richest", "()I"⟩ ∈ lw_g := mg (List.mem_of_getElem? (i := 1968) (by decide +kernel)) rfl
theorem q1966 : Cond.methodLink "EbbWreckLaw" 133 ⟨"EbbWreckModel", "richest", "()I"⟩ ∈ lw_g := mg (List.mem_of_getElem? (i := 1966) (by decide +kernel)) rfl
theorem q987 : Cond.code ⟨"EbbWreck", "meet", "(II)I"⟩ prog_1_method_28_code 3 (some .int) ∈ lw_g := mg (List.mem_of_getElem? (i := 987) (by decide +kernel)) rfl
theorem q985 : Cond.instanceMethod ⟨"EbbWreck", "meet", "(II)I"⟩ ∈ lw_g := mg (List.mem_of_getElem? (i := 985) (by decide +kernel)) rfl
theorem q986 : Cond.selects "EbbWreck" ⟨"EbbWreck", "meet", "(II)I"⟩ ⟨"EbbWreck", "meet", "(II)I"⟩ ∈ lw_g := mg (List.mem_of_getElem? (i := 986) (by decide +kernel)) rfl
theorem q984 : Cond.methodLink "EbbWreckLaw" 134 ⟨"EbbWreck", "meet", "(II)I"⟩ ∈ lw_g := mg (List.mem_of_getElem? (i := 984) (by decide +kernel)) rfl
theorem q1973 : Cond.code ⟨"EbbWreckModel", "meet", "(II)I"⟩ prog_14_method_93_code 6 (some .int) ∈ lw_g := mg (List.mem_of_getElem? (i := 1973) (by decide +kernel)) rfl
theorem q1971 : Cond.instanceMethod ⟨"EbbWreckModel", "meet", "(II)I"⟩ ∈ lw_g := mg (List.mem_of_getElem? (i := 1971) (by decide +kernel)) rfl
theorem q1972 : Cond.selects "EbbWreckModel" ⟨"EbbWreckModel", "meet", "(II)I"⟩ ⟨"EbbWreckModel", "meet", "(II)I"⟩ ∈ lw_g := mg (List.mem_of_getElem? (i := 1972) (by decide +kernel)) rfl
theorem q1970 : Cond.methodLink "EbbWreckLaw" 137 ⟨"EbbWreckModel", "meet", "(II)I"⟩ ∈ lw_g := mg (List.mem_of_getElem? (i := 1970) (by decide +kernel)) rfl
theorem q903 : Cond.code ⟨"EbbWreck", "lasts", "(I)I"⟩ prog_1_method_14_code 2 (some .int) ∈ lw_g := mg (List.mem_of_getElem? (i := 903) (by decide +kernel)) rfl
theorem q901 : Cond.instanceMethod ⟨"EbbWreck", "lasts", "(I)I"⟩ ∈ lw_g := mg (List.mem_of_getElem? (i := 901) (by decide +kernel)) rfl
theorem q902 : Cond.selects "EbbWreck" ⟨"EbbWreck", "lasts", "(I)I"⟩ ⟨"EbbWreck", "lasts", "(I)I"⟩ ∈ lw_g := mg (List.mem_of_getElem? (i := 902) (by decide +kernel)) rfl
theorem q900 : Cond.methodLink "EbbWreckLaw" 138 ⟨"EbbWreck", "lasts", "(I)I"⟩ ∈ lw_g := mg (List.mem_of_getElem? (i := 900) (by decide +kernel)) rfl
theorem q1977 : Cond.code ⟨"EbbWreckModel", "lasts", "(I)I"⟩ prog_14_method_94_code 3 (some .int) ∈ lw_g := mg (List.mem_of_getElem? (i := 1977) (by decide +kernel)) rfl
theorem q1975 : Cond.instanceMethod ⟨"EbbWreckModel", "lasts", "(I)I"⟩ ∈ lw_g := mg (List.mem_of_getElem? (i := 1975) (by decide +kernel)) rfl
theorem q1976 : Cond.selects "EbbWreckModel" ⟨"EbbWreckModel", "lasts", "(I)I"⟩ ⟨"EbbWreckModel", "lasts", "(I)I"⟩ ∈ lw_g := mg (List.mem_of_getElem? (i := 1976) (by decide +kernel)) rfl
theorem q1974 : Cond.methodLink "EbbWreckLaw" 141 ⟨"EbbWreckModel", "lasts", "(I)I"⟩ ∈ lw_g := mg (List.mem_of_getElem? (i := 1974) (by decide +kernel)) rfl
theorem q911 : Cond.code ⟨"EbbWreck", "slacks", "(I)I"⟩ prog_1_method_15_code 2 (some .int) ∈ lw_g := mg (List.mem_of_getElem? (i := 911) (by decide +kernel)) rfl
theorem q909 : Cond.instanceMethod ⟨"EbbWreck", "slacks", "(I)I"⟩ ∈ lw_g := mg (List.mem_of_getElem? (i := 909) (by decide +kernel)) rfl
theorem q910 : Cond.selects "EbbWreck" ⟨"EbbWreck", "slacks", "(I)I"⟩ ⟨"EbbWreck", "slacks", "(I)I"⟩ ∈ lw_g := mg (List.mem_of_getElem? (i := 910) (by decide +kernel)) rfl
theorem q908 : Cond.methodLink "EbbWreckLaw" 142 ⟨"EbbWreck", "slacks", "(I)I"⟩ ∈ lw_g := mg (List.mem_of_getElem? (i := 908) (by decide +kernel)) rfl
theorem q1981 : Cond.code ⟨"EbbWreckModel", "slacks", "(I)I"⟩ prog_14_method_95_code 4 (some .int) ∈ lw_g := mg (List.mem_of_getElem? (i := 1981) (by decide +kernel)) rfl
theorem q1979 : Cond.instanceMethod ⟨"EbbWreckModel", "slacks", "(I)I"⟩ ∈ lw_g := mg (List.mem_of_getElem? (i := 1979) (by decide +kernel)) rfl
theorem q1980 : Cond.selects "EbbWreckModel" ⟨"EbbWreckModel", "slacks", "(I)I"⟩ ⟨"EbbWreckModel", "slacks", "(I)I"⟩ ∈ lw_g := mg (List.mem_of_getElem? (i := 1980) (by decide +kernel)) rfl
theorem q1978 : Cond.methodLink "EbbWreckLaw" 145 ⟨"EbbWreckModel", "slacks", "(I)I"⟩ ∈ lw_g := mg (List.mem_of_getElem? (i := 1978) (by decide +kernel)) rfl
theorem q1120 : Cond.code ⟨"EbbWreck", "eddy", "(I)I"⟩ prog_1_method_43_code 2 (some .int) ∈ lw_g := mg (List.mem_of_getElem? (i := 1120) (by decide +kernel)) rfl
theorem q1118 : Cond.instanceMethod ⟨"EbbWreck", "eddy", "(I)I"⟩ ∈ lw_g := mg (List.mem_of_getElem? (i := 1118) (by decide +kernel)) rfl
theorem q1119 : Cond.selects "EbbWreck" ⟨"EbbWreck", "eddy", "(I)I"⟩ ⟨"EbbWreck", "eddy", "(I)I"⟩ ∈ lw_g := mg (List.mem_of_getElem? (i := 1119) (by decide +kernel)) rfl
theorem q1117 : Cond.methodLink "EbbWreckLaw" 146 ⟨"EbbWreck", "eddy", "(I)I"⟩ ∈ lw_g := mg (List.mem_of_getElem? (i := 1117) (by decide +kernel)) rfl
theorem q1985 : Cond.code ⟨"EbbWreckModel", "eddy", "(I)I"⟩ prog_14_method_96_code 4 (some .int) ∈ lw_g := mg (List.mem_of_getElem? (i := 1985) (by decide +kernel)) rfl
theorem q1983 : Cond.instanceMethod ⟨"EbbWreckModel", "eddy", "(I)I"⟩ ∈ lw_g := mg (List.mem_of_getElem? (i := 1983) (by decide +kernel)) rfl
theorem q1984 : Cond.selects "EbbWreckModel" ⟨"EbbWreckModel", "eddy", "(I)I"⟩ ⟨"EbbWreckModel", "eddy", "(I)I"⟩ ∈ lw_g := mg (List.mem_of_getElem? (i := 1984) (by decide +kernel)) rfl
theorem q1982 : Cond.methodLink "EbbWreckLaw" 149 ⟨"EbbWreckModel", "eddy", "(I)I"⟩ ∈ lw_g := mg (List.mem_of_getElem? (i := 1982) (by decide +kernel)) rfl
theorem q1130 : Cond.code ⟨"EbbWreck", "stuck", "()I"⟩ prog_1_method_44_code 1 (some .int) ∈ lw_g := mg (List.mem_of_getElem? (i := 1130) (by decide +kernel)) rfl
theorem q1128 : Cond.instanceMethod ⟨"EbbWreck", "stuck", "()I"⟩ ∈ lw_g := mg (List.mem_of_getElem? (i := 1128) (by decide +kernel)) rfl
theorem q1129 : Cond.selects "EbbWreck" ⟨"EbbWreck", "stuck", "()I"⟩ ⟨"EbbWreck", "stuck", "()I"⟩ ∈ lw_g := mg (List.mem_of_getElem? (i := 1129) (by decide +kernel)) rfl
theorem q1127 : Cond.methodLink "EbbWreckLaw" 150 ⟨"EbbWreck", "stuck", "()I"⟩ ∈ lw_g := mg (List.mem_of_getElem? (i := 1127) (by decide +kernel)) rfl
theorem q1993 : Cond.code ⟨"EbbWreckModel", "stuck", "()I"⟩ prog_14_method_97_code 3 (some .int) ∈ lw_g := mg (List.mem_of_getElem? (i := 1993) (by decide +kernel)) rfl
theorem q1991 : Cond.instanceMethod ⟨"EbbWreckModel", "stuck", "()I"⟩ ∈ lw_g := mg (List.mem_of_getElem? (i := 1991) (by decide +kernel)) rfl
theorem q1992 : Cond.selects "EbbWreckModel" ⟨"EbbWreckModel", "stuck", "()I"⟩ ⟨"EbbWreckModel", "stuck", "()I"⟩ ∈ lw_g := mg (List.mem_of_getElem? (i := 1992) (by decide +kernel)) rfl
theorem q1990 : Cond.methodLink "EbbWreckLaw" 153 ⟨"EbbWreckModel", "stuck", "()I"⟩ ∈ lw_g := mg (List.mem_of_getElem? (i := 1990) (by decide +kernel)) rfl
theorem q1157 : Cond.code ⟨"EbbWreck", "drop", "(II)I"⟩ prog_1_method_45_code 3 (some .int) ∈ lw_g := mg (List.mem_of_getElem? (i := 1157) (by decide +kernel)) rfl
theorem q1155 : Cond.instanceMethod ⟨"EbbWreck", "drop", "(II)I"⟩ ∈ lw_g := mg (List.mem_of_getElem? (i := 1155) (by decide +kernel)) rfl
theorem q1156 : Cond.selects "EbbWreck" ⟨"EbbWreck", "drop", "(II)I"⟩ ⟨"EbbWreck", "drop", "(II)I"⟩ ∈ lw_g := mg (List.mem_of_getElem? (i := 1156) (by decide +kernel)) rfl
theorem q1154 : Cond.methodLink "EbbWreckLaw" 154 ⟨"EbbWreck", "drop", "(II)I"⟩ ∈ lw_g := mg (List.mem_of_getElem? (i := 1154) (by decide +kernel)) rfl
theorem q1997 : Cond.code ⟨"EbbWreckModel", "drop", "(II)I"⟩ prog_14_method_99_code 3 (some .int) ∈ lw_g := mg (List.mem_of_getElem? (i := 1997) (by decide +kernel)) rfl
theorem q1995 : Cond.instanceMethod ⟨"EbbWreckModel", "drop", "(II)I"⟩ ∈ lw_g := mg (List.mem_of_getElem? (i := 1995) (by decide +kernel)) rfl
theorem q1996 : Cond.selects "EbbWreckModel" ⟨"EbbWreckModel", "drop", "(II)I"⟩ ⟨"EbbWreckModel", "drop", "(II)I"⟩ ∈ lw_g := mg (List.mem_of_getElem? (i := 1996) (by decide +kernel)) rfl
theorem q1994 : Cond.methodLink "EbbWreckLaw" 157 ⟨"EbbWreckModel", "drop", "(II)I"⟩ ∈ lw_g := mg (List.mem_of_getElem? (i := 1994) (by decide +kernel)) rfl
theorem q1165 : Cond.code ⟨"EbbWreck", "drops", "(I)I"⟩ prog_1_method_46_code 2 (some .int) ∈ lw_g := mg (List.mem_of_getElem? (i := 1165) (by decide +kernel)) rfl
theorem q1163 : Cond.instanceMethod ⟨"EbbWreck", "drops", "(I)I"⟩ ∈ lw_g := mg (List.mem_of_getElem? (i := 1163) (by decide +kernel)) rfl
theorem q1164 : Cond.selects "EbbWreck" ⟨"EbbWreck", "drops", "(I)I"⟩ ⟨"EbbWreck", "drops", "(I)I"⟩ ∈ lw_g := mg (List.mem_of_getElem? (i := 1164) (by decide +kernel)) rfl
theorem q1162 : Cond.methodLink "EbbWreckLaw" 158 ⟨"EbbWreck", "drops", "(I)I"⟩ ∈ lw_g := mg (List.mem_of_getElem? (i := 1162) (by decide +kernel)) rfl
theorem q2006 : Cond.code ⟨"EbbWreckModel", "drops", "(I)I"⟩ prog_14_method_100_code 6 (some .int) ∈ lw_g := mg (List.mem_of_getElem? (i := 2006) (by decide +kernel)) rfl
theorem q2004 : Cond.instanceMethod ⟨"EbbWreckModel", "drops", "(I)I"⟩ ∈ lw_g := mg (List.mem_of_getElem? (i := 2004) (by decide +kernel)) rfl
theorem q2005 : Cond.selects "EbbWreckModel" ⟨"EbbWreckModel", "drops", "(I)I"⟩ ⟨"EbbWreckModel", "drops", "(I)I"⟩ ∈ lw_g := mg (List.mem_of_getElem? (i := 2005) (by decide +kernel)) rfl
theorem q2003 : Cond.methodLink "EbbWreckLaw" 161 ⟨"EbbWreckModel", "drops", "(I)I"⟩ ∈ lw_g := mg (List.mem_of_getElem? (i := 2003) (by decide +kernel)) rfl
theorem q1275 : Cond.code ⟨"EbbWreck", "share", "(I)I"⟩ prog_1_method_53_code 2 (some .int) ∈ lw_g := mg (List.mem_of_getElem? (i := 1275) (by decide +kernel)) rfl
theorem q1273 : Cond.instanceMethod ⟨"EbbWreck", "share", "(I)I"⟩ ∈ lw_g := mg (List.mem_of_getElem? (i := 1273) (by decide +kernel)) rfl
theorem q1274 : Cond.selects "EbbWreck" ⟨"EbbWreck", "share", "(I)I"⟩ ⟨"EbbWreck", "share", "(I)I"⟩ ∈ lw_g := mg (List.mem_of_getElem? (i := 1274) (by decide +kernel)) rfl
theorem q1272 : Cond.methodLink "EbbWreckLaw" 162 ⟨"EbbWreck", "share", "(I)I"⟩ ∈ lw_g := mg (List.mem_of_getElem? (i := 1272) (by decide +kernel)) rfl
theorem q2073 : Cond.code ⟨"EbbWreckModel", "share", "(I)I"⟩ prog_14_method_118_code 2 (some .int) ∈ lw_g := mg (List.mem_of_getElem? (i := 2073) (by decide +kernel)) rfl
theorem q2071 : Cond.instanceMethod ⟨"EbbWreckModel", "share", "(I)I"⟩ ∈ lw_g := mg (List.mem_of_getElem? (i := 2071) (by decide +kernel)) rfl
theorem q2072 : Cond.selects "EbbWreckModel" ⟨"EbbWreckModel", "share", "(I)I"⟩ ⟨"EbbWreckModel", "share", "(I)I"⟩ ∈ lw_g := mg (List.mem_of_getElem? (i := 2072) (by decide +kernel)) rfl
theorem q2070 : Cond.methodLink "EbbWreckLaw" 165 ⟨"EbbWreckModel", "share", "(I)I"⟩ ∈ lw_g := mg (List.mem_of_getElem? (i := 2070) (by decide +kernel)) rfl
theorem q1174 : Cond.code ⟨"EbbWreck", "origins", "(III)I"⟩ prog_1_method_47_code 4 (some .int) ∈ lw_g := mg (List.mem_of_getElem? (i := 1174) (by decide +kernel)) rfl
theorem q1172 : Cond.instanceMethod ⟨"EbbWreck", "origins", "(III)I"⟩ ∈ lw_g := mg (List.mem_of_getElem? (i := 1172) (by decide +kernel)) rfl
theorem q1173 : Cond.selects "EbbWreck" ⟨"EbbWreck", "origins", "(III)I"⟩ ⟨"EbbWreck", "origins", "(III)I"⟩ ∈ lw_g := mg (List.mem_of_getElem? (i := 1173) (by decide +kernel)) rfl
theorem q1171 : Cond.methodLink "EbbWreckLaw" 166 ⟨"EbbWreck", "origins", "(III)I"⟩ ∈ lw_g := mg (List.mem_of_getElem? (i := 1171) (by decide +kernel)) rfl
theorem q2010 : Cond.code ⟨"EbbWreckModel", "origins", "(III)I"⟩ prog_14_method_102_code 6 (some .int) ∈ lw_g := mg (List.mem_of_getElem? (i := 2010) (by decide +kernel)) rfl
theorem q2008 : Cond.instanceMethod ⟨"EbbWreckModel", "origins", "(III)I"⟩ ∈ lw_g := mg (List.mem_of_getElem? (i := 2008) (by decide +kernel)) rfl
theorem q2009 : Cond.selects "EbbWreckModel" ⟨"EbbWreckModel", "origins", "(III)I"⟩ ⟨"EbbWreckModel", "origins", "(III)I"⟩ ∈ lw_g := mg (List.mem_of_getElem? (i := 2009) (by decide +kernel)) rfl
theorem q2007 : Cond.methodLink "EbbWreckLaw" 169 ⟨"EbbWreckModel", "origins", "(III)I"⟩ ∈ lw_g := mg (List.mem_of_getElem? (i := 2007) (by decide +kernel)) rfl
theorem q1186 : Cond.code ⟨"EbbWreck", "when", "(III)I"⟩ prog_1_method_48_code 4 (some .int) ∈ lw_g := mg (List.mem_of_getElem? (i := 1186) (by decide +kernel)) rfl
theorem q1184 : Cond.instanceMethod ⟨"EbbWreck", "when", "(III)I"⟩ ∈ lw_g := mg (List.mem_of_getElem? (i := 1184) (by decide +kernel)) rfl
theorem q1185 : Cond.selects "EbbWreck" ⟨"EbbWreck", "when", "(III)I"⟩ ⟨"EbbWreck", "when", "(III)I"⟩ ∈ lw_g := mg (List.mem_of_getElem? (i := 1185) (by decide +kernel)) rfl
theorem q1183 : Cond.methodLink "EbbWreckLaw" 170 ⟨"EbbWreck", "when", "(III)I"⟩ ∈ lw_g := mg (List.mem_of_getElem? (i := 1183) (by decide +kernel)) rfl
theorem q2014 : Cond.code ⟨"EbbWreckModel", "when", "(III)I"⟩ prog_14_method_103_code 5 (some .int) ∈ lw_g := mg (List.mem_of_getElem? (i := 2014) (by decide +kernel)) rfl
theorem q2012 : Cond.instanceMethod ⟨"EbbWreckModel", "when", "(III)I"⟩ ∈ lw_g := mg (List.mem_of_getElem? (i := 2012) (by decide +kernel)) rfl
theorem q2013 : Cond.selects "EbbWreckModel" ⟨"EbbWreckModel", "when", "(III)I"⟩ ⟨"EbbWreckModel", "when", "(III)I"⟩ ∈ lw_g := mg (List.mem_of_getElem? (i := 2013) (by decide +kernel)) rfl
theorem q2011 : Cond.methodLink "EbbWreckLaw" 173 ⟨"EbbWreckModel", "when", "(III)I"⟩ ∈ lw_g := mg (List.mem_of_getElem? (i := 2011) (by decide +kernel)) rfl
theorem q1194 : Cond.code ⟨"EbbWreck", "fits", "(I)I"⟩ prog_1_method_49_code 2 (some .int) ∈ lw_g := mg (List.mem_of_getElem? (i := 1194) (by decide +kernel)) rfl
theorem q1192 : Cond.instanceMethod ⟨"EbbWreck", "fits", "(I)I"⟩ ∈ lw_g := mg (List.mem_of_getElem? (i := 1192) (by decide +kernel)) rfl
theorem q1193 : Cond.selects "EbbWreck" ⟨"EbbWreck", "fits", "(I)I"⟩ ⟨"EbbWreck", "fits", "(I)I"⟩ ∈ lw_g := mg (List.mem_of_getElem? (i := 1193) (by decide +kernel)) rfl
theorem q1191 : Cond.methodLink "EbbWreckLaw" 174 ⟨"EbbWreck", "fits", "(I)I"⟩ ∈ lw_g := mg (List.mem_of_getElem? (i := 1191) (by decide +kernel)) rfl
theorem q2018 : Cond.code ⟨"EbbWreckModel", "fits", "(I)I"⟩ prog_14_method_108_code 3 (some .int) ∈ lw_g := mg (List.mem_of_getElem? (i := 2018) (by decide +kernel)) rfl
theorem q2016 : Cond.instanceMethod ⟨"EbbWreckModel", "fits", "(I)I"⟩ ∈ lw_g := mg (List.mem_of_getElem? (i := 2016) (by decide +kernel)) rfl
theorem q2017 : Cond.selects "EbbWreckModel" ⟨"EbbWreckModel", "fits", "(I)I"⟩ ⟨"EbbWreckModel", "fits", "(I)I"⟩ ∈ lw_g := mg (List.mem_of_getElem? (i := 2017) (by decide +kernel)) rfl
theorem q2015 : Cond.methodLink "EbbWreckLaw" 177 ⟨"EbbWreckModel", "fits", "(I)I"⟩ ∈ lw_g := mg (List.mem_of_getElem? (i := 2015) (by decide +kernel)) rfl
theorem q1240 : Cond.code ⟨"EbbWreck", "fit", "(II)I"⟩ prog_1_method_50_code 3 (some .int) ∈ lw_g := mg (List.mem_of_getElem? (i := 1240) (by decide +kernel)) rfl
theorem q1238 : Cond.instanceMethod ⟨"EbbWreck", "fit", "(II)I"⟩ ∈ lw_g := mg (List.mem_of_getElem? (i := 1238) (by decide +kernel)) rfl
theorem q1239 : Cond.selects "EbbWreck" ⟨"EbbWreck", "fit", "(II)I"⟩ ⟨"EbbWreck", "fit", "(II)I"⟩ ∈ lw_g := mg (List.mem_of_getElem? (i := 1239) (by decide +kernel)) rfl
theorem q1237 : Cond.methodLink "EbbWreckLaw" 178 ⟨"EbbWreck", "fit", "(II)I"⟩ ∈ lw_g := mg (List.mem_of_getElem? (i := 1237) (by decide +kernel)) rfl
theorem q2038 : Cond.code ⟨"EbbWreckModel", "fit", "(II)I"⟩ prog_14_method_110_code 6 (some .int) ∈ lw_g := mg (List.mem_of_getElem? (i := 2038) (by decide +kernel)) rfl
theorem q2036 : Cond.instanceMethod ⟨"EbbWreckModel", "fit", "(II)I"⟩ ∈ lw_g := mg (List.mem_of_getElem? (i := 2036) (by decide +kernel)) rfl
theorem q2037 : Cond.selects "EbbWreckModel" ⟨"EbbWreckModel", "fit", "(II)I"⟩ ⟨"EbbWreckModel", "fit", "(II)I"⟩ ∈ lw_g := mg (List.mem_of_getElem? (i := 2037) (by decide +kernel)) rfl
theorem q2035 : Cond.methodLink "EbbWreckLaw" 181 ⟨"EbbWreckModel", "fit", "(II)I"⟩ ∈ lw_g := mg (List.mem_of_getElem? (i := 2035) (by decide +kernel)) rfl
theorem q1256 : Cond.code ⟨"EbbWreck", "ask", "(I)I"⟩ prog_1_method_51_code 3 (some .int) ∈ lw_g := mg (List.mem_of_getElem? (i := 1256) (by decide +kernel)) rfl
theorem q1254 : Cond.instanceMethod ⟨"EbbWreck", "ask", "(I)I"⟩ ∈ lw_g := mg (List.mem_of_getElem? (i := 1254) (by decide +kernel)) rfl
theorem q1255 : Cond.selects "EbbWreck" ⟨"EbbWreck", "ask", "(I)I"⟩ ⟨"EbbWreck", "ask", "(I)I"⟩ ∈ lw_g := mg (List.mem_of_getElem? (i := 1255) (by decide +kernel)) rfl
theorem q1253 : Cond.methodLink "EbbWreckLaw" 182 ⟨"EbbWreck", "ask", "(I)I"⟩ ∈ lw_g := mg (List.mem_of_getElem? (i := 1253) (by decide +kernel)) rfl
theorem q2045 : Cond.code ⟨"EbbWreckModel", "ask", "(I)I"⟩ prog_14_method_112_code 3 (some .int) ∈ lw_g := mg (List.mem_of_getElem? (i := 2045) (by decide +kernel)) rfl
theorem q2043 : Cond.instanceMethod ⟨"EbbWreckModel", "ask", "(I)I"⟩ ∈ lw_g := mg (List.mem_of_getElem? (i := 2043) (by decide +kernel)) rfl
theorem q2044 : Cond.selects "EbbWreckModel" ⟨"EbbWreckModel", "ask", "(I)I"⟩ ⟨"EbbWreckModel", "ask", "(I)I"⟩ ∈ lw_g := mg (List.mem_of_getElem? (i := 2044) (by decide +kernel)) rfl
theorem q2042 : Cond.methodLink "EbbWreckLaw" 185 ⟨"EbbWreckModel", "ask", "(I)I"⟩ ∈ lw_g := mg (List.mem_of_getElem? (i := 2042) (by decide +kernel)) rfl
theorem q1270 : Cond.code ⟨"EbbWreck", "leaves", "(I)I"⟩ prog_1_method_52_code 4 (some .int) ∈ lw_g := mg (List.mem_of_getElem? (i := 1270) (by decide +kernel)) rfl
theorem q1268 : Cond.instanceMethod ⟨"EbbWreck", "leaves", "(I)I"⟩ ∈ lw_g := mg (List.mem_of_getElem? (i := 1268) (by decide +kernel)) rfl
theorem q1269 : Cond.selects "EbbWreck" ⟨"EbbWreck", "leaves", "(I)I"⟩ ⟨"EbbWreck", "leaves", "(I)I"⟩ ∈ lw_g := mg (List.mem_of_getElem? (i := 1269) (by decide +kernel)) rfl
theorem q1267 : Cond.methodLink "EbbWreckLaw" 186 ⟨"EbbWreck", "leaves", "(I)I"⟩ ∈ lw_g := mg (List.mem_of_getElem? (i := 1267) (by decide +kernel)) rfl
theorem q2053 : Cond.code ⟨"EbbWreckModel", "leaves", "(I)I"⟩ prog_14_method_113_code 3 (some .int) ∈ lw_g := mg (List.mem_of_getElem? (i := 2053) (by decide +kernel)) rfl
theorem q2051 : Cond.instanceMethod ⟨"EbbWreckModel", "leaves", "(I)I"⟩ ∈ lw_g := mg (List.mem_of_getElem? (i := 2051) (by decide +kernel)) rfl
theorem q2052 : Cond.selects "EbbWreckModel" ⟨"EbbWreckModel", "leaves", "(I)I"⟩ ⟨"EbbWreckModel", "leaves", "(I)I"⟩ ∈ lw_g := mg (List.mem_of_getElem? (i := 2052) (by decide +kernel)) rfl
theorem q2050 : Cond.methodLink "EbbWreckLaw" 189 ⟨"EbbWreckModel", "leaves", "(I)I"⟩ ∈ lw_g := mg (List.mem_of_getElem? (i := 2050) (by decide +kernel)) rfl
theorem q1293 : Cond.code ⟨"EbbWreck", "seat", "(II)I"⟩ prog_1_method_54_code 3 (some .int) ∈ lw_g := mg (List.mem_of_getElem? (i := 1293) (by decide +kernel)) rfl
theorem q1291 : Cond.instanceMethod ⟨"EbbWreck", "seat", "(II)I"⟩ ∈ lw_g := mg (List.mem_of_getElem? (i := 1291) (by decide +kernel)) rfl
theorem q1292 : Cond.selects "EbbWreck" ⟨"EbbWreck", "seat", "(II)I"⟩ ⟨"EbbWreck", "seat", "(II)I"⟩ ∈ lw_g := mg (List.mem_of_getElem? (i := 1292) (by decide +kernel)) rfl
theorem q1290 : Cond.methodLink "EbbWreckLaw" 190 ⟨"EbbWreck", "seat", "(II)I"⟩ ∈ lw_g := mg (List.mem_of_getElem? (i := 1290) (by decide +kernel)) rfl
theorem q2057 : Cond.code ⟨"EbbWreckModel", "seat", "(II)I"⟩ prog_14_method_116_code 3 (some .int) ∈ lw_g := mg (List.mem_of_getElem? (i := 2057) (by decide +kernel)) rfl
theorem q2055 : Cond.instanceMethod ⟨"EbbWreckModel", "seat", "(II)I"⟩ ∈ lw_g := mg (List.mem_of_getElem? (i := 2055) (by decide +kernel)) rfl
theorem q2056 : Cond.selects "EbbWreckModel" ⟨"EbbWreckModel", "seat", "(II)I"⟩ ⟨"EbbWreckModel", "seat", "(II)I"⟩ ∈ lw_g := mg (List.mem_of_getElem? (i := 2056) (by decide +kernel)) rfl
theorem q2054 : Cond.methodLink "EbbWreckLaw" 193 ⟨"EbbWreckModel", "seat", "(II)I"⟩ ∈ lw_g := mg (List.mem_of_getElem? (i := 2054) (by decide +kernel)) rfl
theorem q1297 : Cond.code ⟨"EbbWreck", "seats", "(I)I"⟩ prog_1_method_55_code 2 (some .int) ∈ lw_g := mg (List.mem_of_getElem? (i := 1297) (by decide +kernel)) rfl
theorem q1295 : Cond.instanceMethod ⟨"EbbWreck", "seats", "(I)I"⟩ ∈ lw_g := mg (List.mem_of_getElem? (i := 1295) (by decide +kernel)) rfl
theorem q1296 : Cond.selects "EbbWreck" ⟨"EbbWreck", "seats", "(I)I"⟩ ⟨"EbbWreck", "seats", "(I)I"⟩ ∈ lw_g := mg (List.mem_of_getElem? (i := 1296) (by decide +kernel)) rfl
theorem q1294 : Cond.methodLink "EbbWreckLaw" 194 ⟨"EbbWreck", "seats", "(I)I"⟩ ∈ lw_g := mg (List.mem_of_getElem? (i := 1294) (by decide +kernel)) rfl
theorem q2069 : Cond.code ⟨"EbbWreckModel", "seats", "(I)I"⟩ prog_14_method_117_code 4 (some .int) ∈ lw_g := mg (List.mem_of_getElem? (i := 2069) (by decide +kernel)) rfl
theorem q2067 : Cond.instanceMethod ⟨"EbbWreckModel", "seats", "(I)I"⟩ ∈ lw_g := mg (List.mem_of_getElem? (i := 2067) (by decide +kernel)) rfl
theorem q2068 : Cond.selects "EbbWreckModel" ⟨"EbbWreckModel", "seats", "(I)I"⟩ ⟨"EbbWreckModel", "seats", "(I)I"⟩ ∈ lw_g := mg (List.mem_of_getElem? (i := 2068) (by decide +kernel)) rfl
theorem q2066 : Cond.methodLink "EbbWreckLaw" 197 ⟨"EbbWreckModel", "seats", "(I)I"⟩ ∈ lw_g := mg (List.mem_of_getElem? (i := 2066) (by decide +kernel)) rfl
theorem q1306 : Cond.code ⟨"EbbWreck", "rests", "()I"⟩ prog_1_method_56_code 1 (some .int) ∈ lw_g := mg (List.mem_of_getElem? (i := 1306) (by decide +kernel)) rfl
theorem q1304 : Cond.instanceMethod ⟨"EbbWreck", "rests", "()I"⟩ ∈ lw_g := mg (List.mem_of_getElem? (i := 1304) (by decide +kernel)) rfl
theorem q1305 : Cond.selects "EbbWreck" ⟨"EbbWreck", "rests", "()I"⟩ ⟨"EbbWreck", "rests", "()I"⟩ ∈ lw_g := mg (List.mem_of_getElem? (i := 1305) (by decide +kernel)) rfl
theorem q1303 : Cond.methodLink "EbbWreckLaw" 198 ⟨"EbbWreck", "rests", "()I"⟩ ∈ lw_g := mg (List.mem_of_getElem? (i := 1303) (by decide +kernel)) rfl
theorem q2077 : Cond.code ⟨"EbbWreckModel", "rests", "()I"⟩ prog_14_method_121_code 1 (some .int) ∈ lw_g := mg (List.mem_of_getElem? (i := 2077) (by decide +kernel)) rfl
theorem q2075 : Cond.instanceMethod ⟨"EbbWreckModel", "rests", "()I"⟩ ∈ lw_g := mg (List.mem_of_getElem? (i := 2075) (by decide +kernel)) rfl
theorem q2076 : Cond.selects "EbbWreckModel" ⟨"EbbWreckModel", "rests", "()I"⟩ ⟨"EbbWreckModel", "rests", "()I"⟩ ∈ lw_g := mg (List.mem_of_getElem? (i := 2076) (by decide +kernel)) rfl
theorem q2074 : Cond.methodLink "EbbWreckLaw" 201 ⟨"EbbWreckModel", "rests", "()I"⟩ ∈ lw_g := mg (List.mem_of_getElem? (i := 2074) (by decide +kernel)) rfl
theorem q1336 : Cond.code ⟨"EbbWreck", "rest", "(I)I"⟩ prog_1_method_57_code 2 (some .int) ∈ lw_g := mg (List.mem_of_getElem? (i := 1336) (by decide +kernel)) rfl
theorem q1334 : Cond.instanceMethod ⟨"EbbWreck", "rest", "(I)I"⟩ ∈ lw_g := mg (List.mem_of_getElem? (i := 1334) (by decide +kernel)) rfl
theorem q1335 : Cond.selects "EbbWreck" ⟨"EbbWreck", "rest", "(I)I"⟩ ⟨"EbbWreck", "rest", "(I)I"⟩ ∈ lw_g := mg (List.mem_of_getElem? (i := 1335) (by decide +kernel)) rfl
theorem q1333 : Cond.methodLink "EbbWreckLaw" 202 ⟨"EbbWreck", "rest", "(I)I"⟩ ∈ lw_g := mg (List.mem_of_getElem? (i := 1333) (by decide +kernel)) rfl
theorem q2089 : Cond.code ⟨"EbbWreckModel", "rest", "(I)I"⟩ prog_14_method_122_code 2 (some .int) ∈ lw_g := mg (List.mem_of_getElem? (i := 2089) (by decide +kernel)) rfl
theorem q2087 : Cond.instanceMethod ⟨"EbbWreckModel", "rest", "(I)I"⟩ ∈ lw_g := mg (List.mem_of_getElem? (i := 2087) (by decide +kernel)) rfl
theorem q2088 : Cond.selects "EbbWreckModel" ⟨"EbbWreckModel", "rest", "(I)I"⟩ ⟨"EbbWreckModel", "rest", "(I)I"⟩ ∈ lw_g := mg (List.mem_of_getElem? (i := 2088) (by decide +kernel)) rfl
theorem q2086 : Cond.methodLink "EbbWreckLaw" 205 ⟨"EbbWreckModel", "rest", "(I)I"⟩ ∈ lw_g := mg (List.mem_of_getElem? (i := 2086) (by decide +kernel)) rfl
theorem q1035 : Cond.code ⟨"EbbWreck", "clock", "(II)I"⟩ prog_1_method_34_code 3 (some .int) ∈ lw_g := mg (List.mem_of_getElem? (i := 1035) (by decide +kernel)) rfl
theorem q1033 : Cond.instanceMethod ⟨"EbbWreck", "clock", "(II)I"⟩ ∈ lw_g := mg (List.mem_of_getElem? (i := 1033) (by decide +kernel)) rfl
theorem q1034 : Cond.selects "EbbWreck" ⟨"EbbWreck", "clock", "(II)I"⟩ ⟨"EbbWreck", "clock", "(II)I"⟩ ∈ lw_g := mg (List.mem_of_getElem? (i := 1034) (by decide +kernel)) rfl
theorem q1032 : Cond.methodLink "EbbWreckLaw" 206 ⟨"EbbWreck", "clock", "(II)I"⟩ ∈ lw_g := mg (List.mem_of_getElem? (i := 1032) (by decide +kernel)) rfl
theorem q2093 : Cond.code ⟨"EbbWreckModel", "clock", "(II)I"⟩ prog_14_method_123_code 3 (some .int) ∈ lw_g := mg (List.mem_of_getElem? (i := 2093) (by decide +kernel)) rfl
theorem q2091 : Cond.instanceMethod ⟨"EbbWreckModel", "clock", "(II)I"⟩ ∈ lw_g := mg (List.mem_of_getElem? (i := 2091) (by decide +kernel)) rfl
theorem q2092 : Cond.selects "EbbWreckModel" ⟨"EbbWreckModel", "clock", "(II)I"⟩ ⟨"EbbWreckModel", "clock", "(II)I"⟩ ∈ lw_g := mg (List.mem_of_getElem? (i := 2092) (by decide +kernel)) rfl
theorem q2090 : Cond.methodLink "EbbWreckLaw" 209 ⟨"EbbWreckModel", "clock", "(II)I"⟩ ∈ lw_g := mg (List.mem_of_getElem? (i := 2090) (by decide +kernel)) rfl
theorem q1039 : Cond.code ⟨"EbbWreck", "set", "(I)I"⟩ prog_1_method_35_code 7 (some .int) ∈ lw_g := mg (List.mem_of_getElem? (i := 1039) (by decide +kernel)) rfl
theorem q1037 : Cond.instanceMethod ⟨"EbbWreck", "set", "(I)I"⟩ ∈ lw_g := mg (List.mem_of_getElem? (i := 1037) (by decide +kernel)) rfl
theorem q1038 : Cond.selects "EbbWreck" ⟨"EbbWreck", "set", "(I)I"⟩ ⟨"EbbWreck", "set", "(I)I"⟩ ∈ lw_g := mg (List.mem_of_getElem? (i := 1038) (by decide +kernel)) rfl
theorem q1036 : Cond.methodLink "EbbWreckLaw" 210 ⟨"EbbWreck", "set", "(I)I"⟩ ∈ lw_g := mg (List.mem_of_getElem? (i := 1036) (by decide +kernel)) rfl
theorem q2099 : Cond.code ⟨"EbbWreckModel", "set", "(I)I"⟩ prog_14_method_124_code 4 (some .int) ∈ lw_g := mg (List.mem_of_getElem? (i := 2099) (by decide +kernel)) rfl
theorem q2097 : Cond.instanceMethod ⟨"EbbWreckModel", "set", "(I)I"⟩ ∈ lw_g := mg (List.mem_of_getElem? (i := 2097) (by decide +kernel)) rfl
theorem q2098 : Cond.selects "EbbWreckModel" ⟨"EbbWreckModel", "set", "(I)I"⟩ ⟨"EbbWreckModel", "set", "(I)I"⟩ ∈ lw_g := mg (List.mem_of_getElem? (i := 2098) (by decide +kernel)) rfl
theorem q2096 : Cond.methodLink "EbbWreckLaw" 213 ⟨"EbbWreckModel", "set", "(I)I"⟩ ∈ lw_g := mg (List.mem_of_getElem? (i := 2096) (by decide +kernel)) rfl
theorem q1344 : Cond.code ⟨"EbbWreck", "sit", "(II)I"⟩ prog_1_method_58_code 4 (some .int) ∈ lw_g := mg (List.mem_of_getElem? (i := 1344) (by decide +kernel)) rfl
theorem q1342 : Cond.instanceMethod ⟨"EbbWreck", "sit", "(II)I"⟩ ∈ lw_g := mg (List.mem_of_getElem? (i := 1342) (by decide +kernel)) rfl
theorem q1343 : Cond.selects "EbbWreck" ⟨"EbbWreck", "sit", "(II)I"⟩ ⟨"EbbWreck", "sit", "(II)I"⟩ ∈ lw_g := mg (List.mem_of_getElem? (i := 1343) (by decide +kernel)) rfl
theorem q1341 : Cond.methodLink "EbbWreckLaw" 214 ⟨"EbbWreck", "sit", "(II)I"⟩ ∈ lw_g := mg (List.mem_of_getElem? (i := 1341) (by decide +kernel)) rfl
theorem q2103 : Cond.code ⟨"EbbWreckModel", "sit", "(II)I"⟩ prog_14_method_127_code 3 (some .int) ∈ lw_g := mg (List.mem_of_getElem? (i := 2103) (by decide +kernel)) rfl
theorem q2101 : Cond.instanceMethod ⟨"EbbWreckModel", "sit", "(II)I"⟩ ∈ lw_g := mg (List.mem_of_getElem? (i := 2101) (by decide +kernel)) rfl
theorem q2102 : Cond.selects "EbbWreckModel" ⟨"EbbWreckModel", "sit", "(II)I"⟩ ⟨"EbbWreckModel", "sit", "(II)I"⟩ ∈ lw_g := mg (List.mem_of_getElem? (i := 2102) (by decide +kernel)) rfl
theorem q2100 : Cond.methodLink "EbbWreckLaw" 217 ⟨"EbbWreckModel", "sit", "(II)I"⟩ ∈ lw_g := mg (List.mem_of_getElem? (i := 2100) (by decide +kernel)) rfl
theorem q1361 : Cond.code ⟨"EbbWreck", "shove", "(III)I"⟩ prog_1_method_59_code 4 (some .int) ∈ lw_g := mg (List.mem_of_getElem? (i := 1361) (by decide +kernel)) rfl
theorem q1359 : Cond.instanceMethod ⟨"EbbWreck", "shove", "(III)I"⟩ ∈ lw_g := mg (List.mem_of_getElem? (i := 1359) (by decide +kernel)) rfl
theorem q1360 : Cond.selects "EbbWreck" ⟨"EbbWreck", "shove", "(III)I"⟩ ⟨"EbbWreck", "shove", "(III)I"⟩ ∈ lw_g := mg (List.mem_of_getElem? (i := 1360) (by decide +kernel)) rfl
theorem q1358 : Cond.methodLink "EbbWreckLaw" 218 ⟨"EbbWreck", "shove", "(III)I"⟩ ∈ lw_g := mg (List.mem_of_getElem? (i := 1358) (by decide +kernel)) rfl
theorem q2115 : Cond.code ⟨"EbbWreckModel", "shove", "(III)I"⟩ prog_14_method_128_code 6 (some .int) ∈ lw_g := mg (List.mem_of_getElem? (i := 2115) (by decide +kernel)) rfl
theorem q2113 : Cond.instanceMethod ⟨"EbbWreckModel", "shove", "(III)I"⟩ ∈ lw_g := mg (List.mem_of_getElem? (i := 2113) (by decide +kernel)) rfl
theorem q2114 : Cond.selects "EbbWreckModel" ⟨"EbbWreckModel", "shove", "(III)I"⟩ ⟨"EbbWreckModel", "shove", "(III)I"⟩ ∈ lw_g := mg (List.mem_of_getElem? (i := 2114) (by decide +kernel)) rfl
theorem q2112 : Cond.methodLink "EbbWreckLaw" 221 ⟨"EbbWreckModel", "shove", "(III)I"⟩ ∈ lw_g := mg (List.mem_of_getElem? (i := 2112) (by decide +kernel)) rfl
theorem q1379 : Cond.code ⟨"EbbWreck", "undo", "()I"⟩ prog_1_method_60_code 2 (some .int) ∈ lw_g := mg (List.mem_of_getElem? (i := 1379) (by decide +kernel)) rfl
theorem q1377 : Cond.instanceMethod ⟨"EbbWreck", "undo", "()I"⟩ ∈ lw_g := mg (List.mem_of_getElem? (i := 1377) (by decide +kernel)) rfl
theorem q1378 : Cond.selects "EbbWreck" ⟨"EbbWreck", "undo", "()I"⟩ ⟨"EbbWreck", "undo", "()I"⟩ ∈ lw_g := mg (List.mem_of_getElem? (i := 1378) (by decide +kernel)) rfl
theorem q1376 : Cond.methodLink "EbbWreckLaw" 222 ⟨"EbbWreck", "undo", "()I"⟩ ∈ lw_g := mg (List.mem_of_getElem? (i := 1376) (by decide +kernel)) rfl
theorem q2119 : Cond.code ⟨"EbbWreckModel", "undo", "()I"⟩ prog_14_method_129_code 1 (some .int) ∈ lw_g := mg (List.mem_of_getElem? (i := 2119) (by decide +kernel)) rfl
theorem q2117 : Cond.instanceMethod ⟨"EbbWreckModel", "undo", "()I"⟩ ∈ lw_g := mg (List.mem_of_getElem? (i := 2117) (by decide +kernel)) rfl
theorem q2118 : Cond.selects "EbbWreckModel" ⟨"EbbWreckModel", "undo", "()I"⟩ ⟨"EbbWreckModel", "undo", "()I"⟩ ∈ lw_g := mg (List.mem_of_getElem? (i := 2118) (by decide +kernel)) rfl
theorem q2116 : Cond.methodLink "EbbWreckLaw" 225 ⟨"EbbWreckModel", "undo", "()I"⟩ ∈ lw_g := mg (List.mem_of_getElem? (i := 2116) (by decide +kernel)) rfl
theorem q1387 : Cond.code ⟨"EbbWreck", "anew", "()I"⟩ prog_1_method_61_code 3 (some .int) ∈ lw_g := mg (List.mem_of_getElem? (i := 1387) (by decide +kernel)) rfl
theorem q1385 : Cond.instanceMethod ⟨"EbbWreck", "anew", "()I"⟩ ∈ lw_g := mg (List.mem_of_getElem? (i := 1385) (by decide +kernel)) rfl
theorem q1386 : Cond.selects "EbbWreck" ⟨"EbbWreck", "anew", "()I"⟩ ⟨"EbbWreck", "anew", "()I"⟩ ∈ lw_g := mg (List.mem_of_getElem? (i := 1386) (by decide +kernel)) rfl
theorem q1384 : Cond.methodLink "EbbWreckLaw" 226 ⟨"EbbWreck", "anew", "()I"⟩ ∈ lw_g := mg (List.mem_of_getElem? (i := 1384) (by decide +kernel)) rfl
theorem q2123 : Cond.code ⟨"EbbWreckModel", "anew", "()I"⟩ prog_14_method_130_code 2 (some .int) ∈ lw_g := mg (List.mem_of_getElem? (i := 2123) (by decide +kernel)) rfl
theorem q2121 : Cond.instanceMethod ⟨"EbbWreckModel", "anew", "()I"⟩ ∈ lw_g := mg (List.mem_of_getElem? (i := 2121) (by decide +kernel)) rfl
theorem q2122 : Cond.selects "EbbWreckModel" ⟨"EbbWreckModel", "anew", "()I"⟩ ⟨"EbbWreckModel", "anew", "()I"⟩ ∈ lw_g := mg (List.mem_of_getElem? (i := 2122) (by decide +kernel)) rfl
theorem q2120 : Cond.methodLink "EbbWreckLaw" 229 ⟨"EbbWreckModel", "anew", "()I"⟩ ∈ lw_g := mg (List.mem_of_getElem? (i := 2120) (by decide +kernel)) rfl
theorem q1395 : Cond.code ⟨"EbbWreck", "drawn", "(III)I"⟩ prog_1_method_65_code 4 (some .int) ∈ lw_g := mg (List.mem_of_getElem? (i := 1395) (by decide +kernel)) rfl
theorem q1393 : Cond.instanceMethod ⟨"EbbWreck", "drawn", "(III)I"⟩ ∈ lw_g := mg (List.mem_of_getElem? (i := 1393) (by decide +kernel)) rfl
theorem q1394 : Cond.selects "EbbWreck" ⟨"EbbWreck", "drawn", "(III)I"⟩ ⟨"EbbWreck", "drawn", "(III)I"⟩ ∈ lw_g := mg (List.mem_of_getElem? (i := 1394) (by decide +kernel)) rfl
theorem q1392 : Cond.methodLink "EbbWreckLaw" 230 ⟨"EbbWreck", "drawn", "(III)I"⟩ ∈ lw_g := mg (List.mem_of_getElem? (i := 1392) (by decide +kernel)) rfl
theorem q2127 : Cond.code ⟨"EbbWreckModel", "drawn", "(III)I"⟩ prog_14_method_132_code 4 (some .int) ∈ lw_g := mg (List.mem_of_getElem? (i := 2127) (by decide +kernel)) rfl
theorem q2125 : Cond.instanceMethod ⟨"EbbWreckModel", "drawn", "(III)I"⟩ ∈ lw_g := mg (List.mem_of_getElem? (i := 2125) (by decide +kernel)) rfl
theorem q2126 : Cond.selects "EbbWreckModel" ⟨"EbbWreckModel", "drawn", "(III)I"⟩ ⟨"EbbWreckModel", "drawn", "(III)I"⟩ ∈ lw_g := mg (List.mem_of_getElem? (i := 2126) (by decide +kernel)) rfl
theorem q2124 : Cond.methodLink "EbbWreckLaw" 233 ⟨"EbbWreckModel", "drawn", "(III)I"⟩ ∈ lw_g := mg (List.mem_of_getElem? (i := 2124) (by decide +kernel)) rfl
theorem q1409 : Cond.code ⟨"EbbWreck", "luck", "(IIII)I"⟩ prog_1_method_66_code 7 (some .int) ∈ lw_g := mg (List.mem_of_getElem? (i := 1409) (by decide +kernel)) rfl
theorem q1407 : Cond.instanceMethod ⟨"EbbWreck", "luck", "(IIII)I"⟩ ∈ lw_g := mg (List.mem_of_getElem? (i := 1407) (by decide +kernel)) rfl
theorem q1408 : Cond.selects "EbbWreck" ⟨"EbbWreck", "luck", "(IIII)I"⟩ ⟨"EbbWreck", "luck", "(IIII)I"⟩ ∈ lw_g := mg (List.mem_of_getElem? (i := 1408) (by decide +kernel)) rfl
theorem q1406 : Cond.methodLink "EbbWreckLaw" 234 ⟨"EbbWreck", "luck", "(IIII)I"⟩ ∈ lw_g := mg (List.mem_of_getElem? (i := 1406) (by decide +kernel)) rfl
theorem q2135 : Cond.code ⟨"EbbWreckModel", "luck", "(IIII)I"⟩ prog_14_method_133_code 7 (some .int) ∈ lw_g := mg (List.mem_of_getElem? (i := 2135) (by decide +kernel)) rfl
theorem q2133 : Cond.instanceMethod ⟨"EbbWreckModel", "luck", "(IIII)I"⟩ ∈ lw_g := mg (List.mem_of_getElem? (i := 2133) (by decide +kernel)) rfl
theorem q2134 : Cond.selects "EbbWreckModel" ⟨"EbbWreckModel", "luck", "(IIII)I"⟩ ⟨"EbbWreckModel", "luck", "(IIII)I"⟩ ∈ lw_g := mg (List.mem_of_getElem? (i := 2134) (by decide +kernel)) rfl
theorem q2132 : Cond.methodLink "EbbWreckLaw" 238 ⟨"EbbWreckModel", "luck", "(IIII)I"⟩ ∈ lw_g := mg (List.mem_of_getElem? (i := 2132) (by decide +kernel)) rfl
theorem q1416 : Cond.code ⟨"EbbWreck", "waits", "(III)I"⟩ prog_1_method_67_code 4 (some .int) ∈ lw_g := mg (List.mem_of_getElem? (i := 1416) (by decide +kernel)) rfl
theorem q1414 : Cond.instanceMethod ⟨"EbbWreck", "waits", "(III)I"⟩ ∈ lw_g := mg (List.mem_of_getElem? (i := 1414) (by decide +kernel)) rfl
theorem q1415 : Cond.selects "EbbWreck" ⟨"EbbWreck", "waits", "(III)I"⟩ ⟨"EbbWreck", "waits", "(III)I"⟩ ∈ lw_g := mg (List.mem_of_getElem? (i := 1415) (by decide +kernel)) rfl
theorem q1413 : Cond.methodLink "EbbWreckLaw" 239 ⟨"EbbWreck", "waits", "(III)I"⟩ ∈ lw_g := mg (List.mem_of_getElem? (i := 1413) (by decide +kernel)) rfl
theorem q2139 : Cond.code ⟨"EbbWreckModel", "waits", "(III)I"⟩ prog_14_method_134_code 7 (some .int) ∈ lw_g := mg (List.mem_of_getElem? (i := 2139) (by decide +kernel)) rfl
theorem q2137 : Cond.instanceMethod ⟨"EbbWreckModel", "waits", "(III)I"⟩ ∈ lw_g := mg (List.mem_of_getElem? (i := 2137) (by decide +kernel)) rfl
theorem q2138 : Cond.selects "EbbWreckModel" ⟨"EbbWreckModel", "waits", "(III)I"⟩ ⟨"EbbWreckModel", "waits", "(III)I"⟩ ∈ lw_g := mg (List.mem_of_getElem? (i := 2138) (by decide +kernel)) rfl
theorem q2136 : Cond.methodLink "EbbWreckLaw" 242 ⟨"EbbWreckModel", "waits", "(III)I"⟩ ∈ lw_g := mg (List.mem_of_getElem? (i := 2136) (by decide +kernel)) rfl
theorem q1391 : Cond.code ⟨"EbbWreck", "rate", "(II)I"⟩ prog_1_method_62_code 4 (some .int) ∈ lw_g := mg (List.mem_of_getElem? (i := 1391) (by decide +kernel)) rfl
theorem q1389 : Cond.instanceMethod ⟨"EbbWreck", "rate", "(II)I"⟩ ∈ lw_g := mg (List.mem_of_getElem? (i := 1389) (by decide +kernel)) rfl
theorem q1390 : Cond.selects "EbbWreck" ⟨"EbbWreck", "rate", "(II)I"⟩ ⟨"EbbWreck", "rate", "(II)I"⟩ ∈ lw_g := mg (List.mem_of_getElem? (i := 1390) (by decide +kernel)) rfl
theorem q1388 : Cond.methodLink "EbbWreckLaw" 243 ⟨"EbbWreck", "rate", "(II)I"⟩ ∈ lw_g := mg (List.mem_of_getElem? (i := 1388) (by decide +kernel)) rfl
theorem q2143 : Cond.code ⟨"EbbWreckModel", "rate", "(II)I"⟩ prog_14_method_135_code 4 (some .int) ∈ lw_g := mg (List.mem_of_getElem? (i := 2143) (by decide +kernel)) rfl
theorem q2141 : Cond.instanceMethod ⟨"EbbWreckModel", "rate", "(II)I"⟩ ∈ lw_g := mg (List.mem_of_getElem? (i := 2141) (by decide +kernel)) rfl
theorem q2142 : Cond.selects "EbbWreckModel" ⟨"EbbWreckModel", "rate", "(II)I"⟩ ⟨"EbbWreckModel", "rate", "(II)I"⟩ ∈ lw_g := mg (List.mem_of_getElem? (i := 2142) (by decide +kernel)) rfl
theorem q2140 : Cond.methodLink "EbbWreckLaw" 246 ⟨"EbbWreckModel", "rate", "(II)I"⟩ ∈ lw_g := mg (List.mem_of_getElem? (i := 2140) (by decide +kernel)) rfl
theorem q855 : Cond.code ⟨"EbbWreck", "count", "(I)I"⟩ prog_1_method_11_code 2 (some .int) ∈ lw_g := mg (List.mem_of_getElem? (i := 855) (by decide +kernel)) rfl
theorem q853 : Cond.instanceMethod ⟨"EbbWreck", "count", "(I)I"⟩ ∈ lw_g := mg (List.mem_of_getElem? (i := 853) (by decide +kernel)) rfl
theorem q854 : Cond.selects "EbbWreck" ⟨"EbbWreck", "count", "(I)I"⟩ ⟨"EbbWreck", "count", "(I)I"⟩ ∈ lw_g := mg (List.mem_of_getElem? (i := 854) (by decide +kernel)) rfl
theorem q852 : Cond.methodLink "EbbWreckLaw" 247 ⟨"EbbWreck", "count", "(I)I"⟩ ∈ lw_g := mg (List.mem_of_getElem? (i := 852) (by decide +kernel)) rfl
theorem q2148 : Cond.code ⟨"EbbWreckModel", "count", "(I)I"⟩ prog_14_method_136_code 4 (some .int) ∈ lw_g := mg (List.mem_of_getElem? (i := 2148) (by decide +kernel)) rfl
theorem q2146 : Cond.instanceMethod ⟨"EbbWreckModel", "count", "(I)I"⟩ ∈ lw_g := mg (List.mem_of_getElem? (i := 2146) (by decide +kernel)) rfl
theorem q2147 : Cond.selects "EbbWreckModel" ⟨"EbbWreckModel", "count", "(I)I"⟩ ⟨"EbbWreckModel", "count", "(I)I"⟩ ∈ lw_g := mg (List.mem_of_getElem? (i := 2147) (by decide +kernel)) rfl
theorem q2145 : Cond.methodLink "EbbWreckLaw" 250 ⟨"EbbWreckModel", "count", "(I)I"⟩ ∈ lw_g := mg (List.mem_of_getElem? (i := 2145) (by decide +kernel)) rfl
theorem q1424 : Cond.code ⟨"EbbWreck", "image", "(I)I"⟩ prog_1_method_68_code 2 (some .int) ∈ lw_g := mg (List.mem_of_getElem? (i := 1424) (by decide +kernel)) rfl
theorem q1422 : Cond.instanceMethod ⟨"EbbWreck", "image", "(I)I"⟩ ∈ lw_g := mg (List.mem_of_getElem? (i := 1422) (by decide +kernel)) rfl
theorem q1423 : Cond.selects "EbbWreck" ⟨"EbbWreck", "image", "(I)I"⟩ ⟨"EbbWreck", "image", "(I)I"⟩ ∈ lw_g := mg (List.mem_of_getElem? (i := 1423) (by decide +kernel)) rfl
theorem q1421 : Cond.methodLink "EbbWreckLaw" 251 ⟨"EbbWreck", "image", "(I)I"⟩ ∈ lw_g := mg (List.mem_of_getElem? (i := 1421) (by decide +kernel)) rfl
theorem q2153 : Cond.code ⟨"EbbWreckModel", "image", "(I)I"⟩ prog_14_method_137_code 2 (some .int) ∈ lw_g := mg (List.mem_of_getElem? (i := 2153) (by decide +kernel)) rfl
theorem q2151 : Cond.instanceMethod ⟨"EbbWreckModel", "image", "(I)I"⟩ ∈ lw_g := mg (List.mem_of_getElem? (i := 2151) (by decide +kernel)) rfl
theorem q2152 : Cond.selects "EbbWreckModel" ⟨"EbbWreckModel", "image", "(I)I"⟩ ⟨"EbbWreckModel", "image", "(I)I"⟩ ∈ lw_g := mg (List.mem_of_getElem? (i := 2152) (by decide +kernel)) rfl
theorem q2150 : Cond.methodLink "EbbWreckLaw" 254 ⟨"EbbWreckModel", "image", "(I)I"⟩ ∈ lw_g := mg (List.mem_of_getElem? (i := 2150) (by decide +kernel)) rfl
theorem q1428 : Cond.code ⟨"EbbWreck", "back", "(I)I"⟩ prog_1_method_69_code 2 (some .int) ∈ lw_g := mg (List.mem_of_getElem? (i := 1428) (by decide +kernel)) rfl
theorem q1426 : Cond.instanceMethod ⟨"EbbWreck", "back", "(I)I"⟩ ∈ lw_g := mg (List.mem_of_getElem? (i := 1426) (by decide +kernel)) rfl
theorem q1427 : Cond.selects "EbbWreck" ⟨"EbbWreck", "back", "(I)I"⟩ ⟨"EbbWreck", "back", "(I)I"⟩ ∈ lw_g := mg (List.mem_of_getElem? (i := 1427) (by decide +kernel)) rfl
theorem q1425 : Cond.methodLink "EbbWreckLaw" 255 ⟨"EbbWreck", "back", "(I)I"⟩ ∈ lw_g := mg (List.mem_of_getElem? (i := 1425) (by decide +kernel)) rfl
theorem q2157 : Cond.code ⟨"EbbWreckModel", "back", "(I)I"⟩ prog_14_method_138_code 2 (some .int) ∈ lw_g := mg (List.mem_of_getElem? (i := 2157) (by decide +kernel)) rfl
theorem q2155 : Cond.instanceMethod ⟨"EbbWreckModel", "back", "(I)I"⟩ ∈ lw_g := mg (List.mem_of_getElem? (i := 2155) (by decide +kernel)) rfl
theorem q2156 : Cond.selects "EbbWreckModel" ⟨"EbbWreckModel", "back", "(I)I"⟩ ⟨"EbbWreckModel", "back", "(I)I"⟩ ∈ lw_g := mg (List.mem_of_getElem? (i := 2156) (by decide +kernel)) rfl
theorem q2154 : Cond.methodLink "EbbWreckLaw" 258 ⟨"EbbWreckModel", "back", "(I)I"⟩ ∈ lw_g := mg (List.mem_of_getElem? (i := 2154) (by decide +kernel)) rfl
theorem q1432 : Cond.code ⟨"EbbWreck", "row", "(III)I"⟩ prog_1_method_70_code 4 (some .int) ∈ lw_g := mg (List.mem_of_getElem? (i := 1432) (by decide +kernel)) rfl
theorem q1430 : Cond.instanceMethod ⟨"EbbWreck", "row", "(III)I"⟩ ∈ lw_g := mg (List.mem_of_getElem? (i := 1430) (by decide +kernel)) rfl
theorem q1431 : Cond.selects "EbbWreck" ⟨"EbbWreck", "row", "(III)I"⟩ ⟨"EbbWreck", "row", "(III)I"⟩ ∈ lw_g := mg (List.mem_of_getElem? (i := 1431) (by decide +kernel)) rfl
theorem q1429 : Cond.methodLink "EbbWreckLaw" 259 ⟨"EbbWreck", "row", "(III)I"⟩ ∈ lw_g := mg (List.mem_of_getElem? (i := 1429) (by decide +kernel)) rfl
theorem q1586 : Cond.code ⟨"EbbWreckModel", "row", "(III)I"⟩ prog_14_method_5_code 5 (some .int) ∈ lw_g := mg (List.mem_of_getElem? (i := 1586) (by decide +kernel)) rfl
theorem q1584 : Cond.instanceMethod ⟨"EbbWreckModel", "row", "(III)I"⟩ ∈ lw_g := mg (List.mem_of_getElem? (i := 1584) (by decide +kernel)) rfl
theorem q1585 : Cond.selects "EbbWreckModel" ⟨"EbbWreckModel", "row", "(III)I"⟩ ⟨"EbbWreckModel", "row", "(III)I"⟩ ∈ lw_g := mg (List.mem_of_getElem? (i := 1585) (by decide +kernel)) rfl
theorem q1583 : Cond.methodLink "EbbWreckLaw" 262 ⟨"EbbWreckModel", "row", "(III)I"⟩ ∈ lw_g := mg (List.mem_of_getElem? (i := 1583) (by decide +kernel)) rfl
theorem q2158 : Cond.constantLong "EbbWreckLaw" 263 4294967295 ∈ lw_g := mg (List.mem_of_getElem? (i := 2158) (by decide +kernel)) rfl
theorem q1444 : Cond.code ⟨"EbbWreck", "write", "(IIJ)I"⟩ prog_1_method_71_code 5 (some .int) ∈ lw_g := mg (List.mem_of_getElem? (i := 1444) (by decide +kernel)) rfl
theorem q1442 : Cond.instanceMethod ⟨"EbbWreck", "write", "(IIJ)I"⟩ ∈ lw_g := mg (List.mem_of_getElem? (i := 1442) (by decide +kernel)) rfl
theorem q1443 : Cond.selects "EbbWreck" ⟨"EbbWreck", "write", "(IIJ)I"⟩ ⟨"EbbWreck", "write", "(IIJ)I"⟩ ∈ lw_g := mg (List.mem_of_getElem? (i := 1443) (by decide +kernel)) rfl
theorem q1441 : Cond.methodLink "EbbWreckLaw" 265 ⟨"EbbWreck", "write", "(IIJ)I"⟩ ∈ lw_g := mg (List.mem_of_getElem? (i := 1441) (by decide +kernel)) rfl
theorem q1597 : Cond.code ⟨"EbbWreckModel", "write", "(IIJ)I"⟩ prog_14_method_7_code 5 (some .int) ∈ lw_g := mg (List.mem_of_getElem? (i := 1597) (by decide +kernel)) rfl
theorem q1595 : Cond.instanceMethod ⟨"EbbWreckModel", "write", "(IIJ)I"⟩ ∈ lw_g := mg (List.mem_of_getElem? (i := 1595) (by decide +kernel)) rfl
theorem q1596 : Cond.selects "EbbWreckModel" ⟨"EbbWreckModel", "write", "(IIJ)I"⟩ ⟨"EbbWreckModel", "write", "(IIJ)I"⟩ ∈ lw_g := mg (List.mem_of_getElem? (i := 1596) (by decide +kernel)) rfl
theorem q1594 : Cond.methodLink "EbbWreckLaw" 269 ⟨"EbbWreckModel", "write", "(IIJ)I"⟩ ∈ lw_g := mg (List.mem_of_getElem? (i := 1594) (by decide +kernel)) rfl
theorem q1456 : Cond.code ⟨"EbbWreck", "paste", "(IIIII)I"⟩ prog_1_method_72_code 6 (some .int) ∈ lw_g := mg (List.mem_of_getElem? (i := 1456) (by decide +kernel)) rfl
theorem q1454 : Cond.instanceMethod ⟨"EbbWreck", "paste", "(IIIII)I"⟩ ∈ lw_g := mg (List.mem_of_getElem? (i := 1454) (by decide +kernel)) rfl
theorem q1455 : Cond.selects "EbbWreck" ⟨"EbbWreck", "paste", "(IIIII)I"⟩ ⟨"EbbWreck", "paste", "(IIIII)I"⟩ ∈ lw_g := mg (List.mem_of_getElem? (i := 1455) (by decide +kernel)) rfl
theorem q1453 : Cond.methodLink "EbbWreckLaw" 270 ⟨"EbbWreck", "paste", "(IIIII)I"⟩ ∈ lw_g := mg (List.mem_of_getElem? (i := 1453) (by decide +kernel)) rfl
theorem q1604 : Cond.code ⟨"EbbWreckModel", "paste", "(IIIII)I"⟩ prog_14_method_8_code 7 (some .int) ∈ lw_g := mg (List.mem_of_getElem? (i := 1604) (by decide +kernel)) rfl
theorem q1602 : Cond.instanceMethod ⟨"EbbWreckModel", "paste", "(IIIII)I"⟩ ∈ lw_g := mg (List.mem_of_getElem? (i := 1602) (by decide +kernel)) rfl
theorem q1603 : Cond.selects "EbbWreckModel" ⟨"EbbWreckModel", "paste", "(IIIII)I"⟩ ⟨"EbbWreckModel", "paste", "(IIIII)I"⟩ ∈ lw_g := mg (List.mem_of_getElem? (i := 1603) (by decide +kernel)) rfl
theorem q1601 : Cond.methodLink "EbbWreckLaw" 273 ⟨"EbbWreckModel", "paste", "(IIIII)I"⟩ ∈ lw_g := mg (List.mem_of_getElem? (i := 1601) (by decide +kernel)) rfl
theorem q135 : Cond.classLink "EbbWreckLaw" 7 "EbbWreck" ∈ lw_g := mg (List.mem_of_getElem? (i := 135) (by decide +kernel)) rfl
theorem q136 : Cond.instantiable "EbbWreck" 15 ∈ lw_g := mg (List.mem_of_getElem? (i := 136) (by decide +kernel)) rfl
theorem q137 : Cond.methodLink "EbbWreckLaw" 9 ⟨"EbbWreck", "<init>", "()V"⟩ ∈ lw_g := mg (List.mem_of_getElem? (i := 137) (by decide +kernel)) rfl
theorem q138 : Cond.instanceMethod ⟨"EbbWreck", "<init>", "()V"⟩ ∈ lw_g := mg (List.mem_of_getElem? (i := 138) (by decide +kernel)) rfl
theorem q139 : Cond.code ⟨"EbbWreck", "<init>", "()V"⟩ prog_1_method_1_code 2 none ∈ lw_g := mg (List.mem_of_getElem? (i := 139) (by decide +kernel)) rfl
theorem q1462 : Cond.classLink "EbbWreckLaw" 10 "EbbWreckModel" ∈ lw_g := mg (List.mem_of_getElem? (i := 1462) (by decide +kernel)) rfl
theorem q1463 : Cond.instantiable "EbbWreckModel" 38 ∈ lw_g := mg (List.mem_of_getElem? (i := 1463) (by decide +kernel)) rfl
theorem q1464 : Cond.methodLink "EbbWreckLaw" 12 ⟨"EbbWreckModel", "<init>", "()V"⟩ ∈ lw_g := mg (List.mem_of_getElem? (i := 1464) (by decide +kernel)) rfl
theorem q1465 : Cond.instanceMethod ⟨"EbbWreckModel", "<init>", "()V"⟩ ∈ lw_g := mg (List.mem_of_getElem? (i := 1465) (by decide +kernel)) rfl
theorem q1466 : Cond.code ⟨"EbbWreckModel", "<init>", "()V"⟩ prog_14_method_1_code 2 none ∈ lw_g := mg (List.mem_of_getElem? (i := 1466) (by decide +kernel)) rfl
theorem mX11_feed : CmV "EbbWreck" yX11_feed cX11_feed 6 (some .int) 5 := ⟨q563, q564, q114, q565, ⟨rfl, by decide, by decide, by decide +kernel⟩⟩
theorem mX12_feed : CmV "EbbWreckModel" yX12_feed cX12_feed 6 (some .int) 5 := ⟨q1606, q1607, q127, q1608, ⟨rfl, by decide, by decide, by decide +kernel⟩⟩
theorem mX11_end : CmV "EbbWreck" yX11_end cX11_end 2 (some .int) 1 := ⟨q571, q572, q114, q573, ⟨rfl, by decide, by decide, by decide +kernel⟩⟩
theorem mX12_end : CmV "EbbWreckModel" yX12_end cX12_end 2 (some .int) 1 := ⟨q1614, q1615, q127, q1616, ⟨rfl, by decide, by decide, by decide +kernel⟩⟩
theorem mX11_shore : CmV "EbbWreck" yX11_shore cX11_shore 1 (some .int) 0 := ⟨q575, q576, q114, q577, ⟨rfl, by decide, by decide, by decide +kernel⟩⟩
theorem mX12_shore : CmV "EbbWreckModel" yX12_shore cX12_shore 1 (some .int) 0 := ⟨q1622, q1623, q127, q1624, ⟨rfl, by decide, by decide, by decide +kernel⟩⟩
theorem mX11_fault : CmV "EbbWreck" yX11_fault cX11_fault 2 (some .int) 1 := ⟨q816, q817, q114, q818, ⟨rfl, by decide, by decide, by decide +kernel⟩⟩
theorem mX12_fault : CmV "EbbWreckModel" yX12_fault cX12_fault 2 (some .int) 1 := ⟨q1618, q1619, q127, q1620, ⟨rfl, by decide, by decide, by decide +kernel⟩⟩
theorem mX11_cell : CmV "EbbWreck" yX11_cell cX11_cell 3 (some .int) 2 := ⟨q820, q821, q114, q822, ⟨rfl, by decide, by decide, by decide +kernel⟩⟩
theorem mX12_cell : CmV "EbbWreckModel" yX12_cell cX12_cell 3 (some .int) 2 := ⟨q1747, q1748, q127, q1749, ⟨rfl, by decide, by decide, by decide +kernel⟩⟩
theorem mX11_thing : CmV "EbbWreck" yX11_thing cX11_thing 3 (some .int) 2 := ⟨q829, q830, q114, q831, ⟨rfl, by decide, by decide, by decide +kernel⟩⟩
theorem mX12_thing : CmV "EbbWreckModel" yX12_thing cX12_thing 3 (some .int) 2 := ⟨q1763, q1764, q127, q1765, ⟨rfl, by decide, by decide, by decide +kernel⟩⟩
theorem mX11_rule : CmV "EbbWreck" yX11_rule cX11_rule 4 (some .int) 2 := ⟨q837, q838, q114, q839, ⟨rfl, by decide, by decide, by decide +kernel⟩⟩
theorem mX12_rule : CmV "EbbWreckModel" yX12_rule cX12_rule 3 (some .int) 2 := ⟨q1771, q1772, q127, q1773, ⟨rfl, by decide, by decide, by decide +kernel⟩⟩
theorem mX11_sitter : CmV "EbbWreck" yX11_sitter cX11_sitter 2 (some .int) 1 := ⟨q845, q846, q114, q847, ⟨rfl, by decide, by decide, by decide +kernel⟩⟩
theorem mX12_sitter : CmV "EbbWreckModel" yX12_sitter cX12_sitter 2 (some .int) 1 := ⟨q1813, q1814, q127, q1815, ⟨rfl, by decide, by decide, by decide +kernel⟩⟩
theorem mX11_phase : CmV "EbbWreck" yX11_phase cX11_phase 2 (some .int) 1 := ⟨q871, q872, q114, q873, ⟨rfl, by decide, by decide, by decide +kernel⟩⟩
theorem mX12_phase : CmV "EbbWreckModel" yX12_phase cX12_phase 2 (some .int) 1 := ⟨q1779, q1780, q127, q1781, ⟨rfl, by decide, by decide, by decide +kernel⟩⟩
theorem mX11_next : CmV "EbbWreck" yX11_next cX11_next 3 (some .int) 2 := ⟨q888, q889, q114, q890, ⟨rfl, by decide, by decide, by decide +kernel⟩⟩
theorem mX12_next_ : CmV "EbbWreckModel" yX12_next_ cX12_next_ 4 (some .int) 2 := ⟨q1796, q1797, q127, q1798, ⟨rfl, by decide, by decide, by decide +kernel⟩⟩
theorem mX11_drifts : CmV "EbbWreck" yX11_drifts cX11_drifts 3 (some .int) 2 := ⟨q919, q920, q114, q921, ⟨rfl, by decide, by decide, by decide +kernel⟩⟩
theorem mX12_drifts : CmV "EbbWreckModel" yX12_drifts cX12_drifts 3 (some .int) 2 := ⟨q1801, q1802, q127, q1803, ⟨rfl, by decide, by decide, by decide +kernel⟩⟩
theorem mX11_at : CmV "EbbWreck" yX11_at cX11_at 3 (some .int) 2 := ⟨q924, q925, q114, q926, ⟨rfl, by decide, by decide, by decide +kernel⟩⟩
theorem mX12_at : CmV "EbbWreckModel" yX12_at cX12_at 3 (some .int) 2 := ⟨q1825, q1826, q127, q1827, ⟨rfl, by decide, by decide, by decide +kernel⟩⟩
theorem mX11_comes : CmV "EbbWreck" yX11_comes cX11_comes 2 (some .int) 1 := ⟨q932, q933, q114, q934, ⟨rfl, by decide, by decide, by decide +kernel⟩⟩
theorem mX12_comes : CmV "EbbWreckModel" yX12_comes cX12_comes 2 (some .int) 1 := ⟨q1843, q1844, q127, q1845, ⟨rfl, by decide, by decide, by decide +kernel⟩⟩
theorem mX11_beach : CmV "EbbWreck" yX11_beach cX11_beach 2 (some .int) 1 := ⟨q936, q937, q114, q938, ⟨rfl, by decide, by decide, by decide +kernel⟩⟩
theorem mX12_beach : CmV "EbbWreckModel" yX12_beach cX12_beach 2 (some .int) 1 := ⟨q1851, q1852, q127, q1853, ⟨rfl, by decide, by decide, by decide +kernel⟩⟩
theorem mX11_whose : CmV "EbbWreck" yX11_whose cX11_whose 2 (some .int) 1 := ⟨q940, q941, q114, q942, ⟨rfl, by decide, by decide, by decide +kernel⟩⟩
theorem mX12_whose : CmV "EbbWreckModel" yX12_whose cX12_whose 2 (some .int) 1 := ⟨q1855, q1856, q127, q1857, ⟨rfl, by decide, by decide, by decide +kernel⟩⟩
theorem mX11_has : CmV "EbbWreck" yX11_has cX11_has 2 (some .int) 1 := ⟨q960, q961, q114, q962, ⟨rfl, by decide, by decide, by decide +kernel⟩⟩
theorem mX12_has : CmV "EbbWreckModel" yX12_has cX12_has 2 (some .int) 1 := ⟨q1871, q1872, q127, q1873, ⟨rfl, by decide, by decide, by decide +kernel⟩⟩
theorem mX11_line : CmV "EbbWreck" yX11_line cX11_line 2 (some .int) 1 := ⟨q973, q974, q114, q975, ⟨rfl, by decide, by decide, by decide +kernel⟩⟩
theorem mX12_line_ : CmV "EbbWreckModel" yX12_line_ cX12_line_ 4 (some .int) 1 := ⟨q1888, q1889, q127, q1890, ⟨rfl, by decide, by decide, by decide +kernel⟩⟩
theorem mX11_argued : CmV "EbbWreck" yX11_argued cX11_argued 1 (some .int) 0 := ⟨q998, q999, q114, q1000, ⟨rfl, by decide, by decide, by decide +kernel⟩⟩
theorem mX12_argued : CmV "EbbWreckModel" yX12_argued cX12_argued 5 (some .int) 0 := ⟨q1892, q1893, q127, q1894, ⟨rfl, by decide, by decide, by decide +kernel⟩⟩
theorem mX11_gaps : CmV "EbbWreck" yX11_gaps cX11_gaps 4 (some .int) 1 := ⟨q1016, q1017, q114, q1018, ⟨rfl, by decide, by decide, by decide +kernel⟩⟩
theorem mX12_gaps : CmV "EbbWreckModel" yX12_gaps cX12_gaps 4 (some .int) 1 := ⟨q1899, q1900, q127, q1901, ⟨rfl, by decide, by decide, by decide +kernel⟩⟩
theorem mX11_idle : CmV "EbbWreck" yX11_idle cX11_idle 5 (some .int) 0 := ⟨q1021, q1022, q114, q1023, ⟨rfl, by decide, by decide, by decide +kernel⟩⟩
theorem mX12_idle : CmV "EbbWreckModel" yX12_idle cX12_idle 3 (some .int) 0 := ⟨q1903, q1904, q127, q1905, ⟨rfl, by decide, by decide, by decide +kernel⟩⟩
theorem mX11_without : CmV "EbbWreck" yX11_without cX11_without 3 (some .int) 2 := ⟨q1025, q1026, q114, q1027, ⟨rfl, by decide, by decide, by decide +kernel⟩⟩
theorem mX12_without : CmV "EbbWreckModel" yX12_without cX12_without 3 (some .int) 2 := ⟨q1911, q1912, q127, q1913, ⟨rfl, by decide, by decide, by decide +kernel⟩⟩
theorem mX11_strike : CmV "EbbWreck" yX11_strike cX11_strike 6 (some .int) 1 := ⟨q1029, q1030, q114, q1031, ⟨rfl, by decide, by decide, by decide +kernel⟩⟩
theorem mX12_strike : CmV "EbbWreckModel" yX12_strike cX12_strike 6 (some .int) 1 := ⟨q1915, q1916, q127, q1917, ⟨rfl, by decide, by decide, by decide +kernel⟩⟩
theorem mX11_pushes : CmV "EbbWreck" yX11_pushes cX11_pushes 3 (some .int) 2 := ⟨q1041, q1042, q114, q1043, ⟨rfl, by decide, by decide, by decide +kernel⟩⟩
theorem mX12_pushes : CmV "EbbWreckModel" yX12_pushes cX12_pushes 3 (some .int) 2 := ⟨q1919, q1920, q127, q1921, ⟨rfl, by decide, by decide, by decide +kernel⟩⟩
theorem mX11_push : CmV "EbbWreck" yX11_push cX11_push 5 (some .int) 3 := ⟨q1074, q1075, q114, q1076, ⟨rfl, by decide, by decide, by decide +kernel⟩⟩
theorem mX12_push : CmV "EbbWreckModel" yX12_push cX12_push 4 (some .int) 3 := ⟨q1939, q1940, q127, q1941, ⟨rfl, by decide, by decide, by decide +kernel⟩⟩
theorem mX11_way : CmV "EbbWreck" yX11_way cX11_way 5 (some .int) 3 := ⟨q1086, q1087, q114, q1088, ⟨rfl, by decide, by decide, by decide +kernel⟩⟩
theorem mX12_way : CmV "EbbWreckModel" yX12_way cX12_way 4 (some .int) 3 := ⟨q1947, q1948, q127, q1949, ⟨rfl, by decide, by decide, by decide +kernel⟩⟩
theorem mX11_soonest : CmV "EbbWreck" yX11_soonest cX11_soonest 3 (some .int) 2 := ⟨q1090, q1091, q114, q1092, ⟨rfl, by decide, by decide, by decide +kernel⟩⟩
theorem mX12_soonest : CmV "EbbWreckModel" yX12_soonest cX12_soonest 9 (some .int) 2 := ⟨q1951, q1952, q127, q1953, ⟨rfl, by decide, by decide, by decide +kernel⟩⟩
theorem mX11_ward : CmV "EbbWreck" yX11_ward cX11_ward 3 (some .int) 2 := ⟨q1106, q1107, q114, q1108, ⟨rfl, by decide, by decide, by decide +kernel⟩⟩
theorem mX12_ward : CmV "EbbWreckModel" yX12_ward cX12_ward 7 (some .int) 2 := ⟨q1955, q1956, q127, q1957, ⟨rfl, by decide, by decide, by decide +kernel⟩⟩
theorem mX11_all : CmV "EbbWreck" yX11_all cX11_all 2 (some .int) 1 := ⟨q1110, q1111, q114, q1112, ⟨rfl, by decide, by decide, by decide +kernel⟩⟩
theorem mX12_all : CmV "EbbWreckModel" yX12_all cX12_all 4 (some .int) 1 := ⟨q1963, q1964, q127, q1965, ⟨rfl, by decide, by decide, by decide +kernel⟩⟩
theorem mX11_richest : CmV "EbbWreck" yX11_richest cX11_richest 5 (some .int) 0 := ⟨q981, q982, q114, q983, ⟨rfl, by decide, by decide, by decide +kernel⟩⟩
theorem mX12_richest : CmV "EbbWreckModel" yX12_richest cX12_richest 3 (some .int) 0 := ⟨q1967, q1968, q127, q1969, ⟨rfl, by decide, by decide, by decide +kernel⟩⟩
theorem mX11_meet : CmV "EbbWreck" yX11_meet cX11_meet 3 (some .int) 2 := ⟨q985, q986, q114, q987, ⟨rfl, by decide, by decide, by decide +kernel⟩⟩
theorem mX12_meet : CmV "EbbWreckModel" yX12_meet cX12_meet 6 (some .int) 2 := ⟨q1971, q1972, q127, q1973, ⟨rfl, by decide, by decide, by decide +kernel⟩⟩
theorem mX11_lasts : CmV "EbbWreck" yX11_lasts cX11_lasts 2 (some .int) 1 := ⟨q901, q902, q114, q903, ⟨rfl, by decide, by decide, by decide +kernel⟩⟩
theorem mX12_lasts : CmV "EbbWreckModel" yX12_lasts cX12_lasts 3 (some .int) 1 := ⟨q1975, q1976, q127, q1977, ⟨rfl, by decide, by decide, by decide +kernel⟩⟩
theorem mX11_slacks : CmV "EbbWreck" yX11_slacks cX11_slacks 2 (some .int) 1 := ⟨q909, q910, q114, q911, ⟨rfl, by decide, by decide, by decide +kernel⟩⟩
theorem mX12_slacks : CmV "EbbWreckModel" yX12_slacks cX12_slacks 4 (some .int) 1 := ⟨q1979, q1980, q127, q1981, ⟨rfl, by decide, by decide, by decide +kernel⟩⟩
theorem mX11_eddy : CmV "EbbWreck" yX11_eddy cX11_eddy 2 (some .int) 1 := ⟨q1118, q1119, q114, q1120, ⟨rfl, by decide, by decide, by decide +kernel⟩⟩
theorem mX12_eddy : CmV "EbbWreckModel" yX12_eddy cX12_eddy 4 (some .int) 1 := ⟨q1983, q1984, q127, q1985, ⟨rfl, by decide, by decide, by decide +kernel⟩⟩
theorem mX11_stuck : CmV "EbbWreck" yX11_stuck cX11_stuck 1 (some .int) 0 := ⟨q1128, q1129, q114, q1130, ⟨rfl, by decide, by decide, by decide +kernel⟩⟩
theorem mX12_stuck : CmV "EbbWreckModel" yX12_stuck cX12_stuck 3 (some .int) 0 := ⟨q1991, q1992, q127, q1993, ⟨rfl, by decide, by decide, by decide +kernel⟩⟩
theorem mX11_drop : CmV "EbbWreck" yX11_drop cX11_drop 3 (some .int) 2 := ⟨q1155, q1156, q114, q1157, ⟨rfl, by decide, by decide, by decide +kernel⟩⟩
theorem mX12_drop : CmV "EbbWreckModel" yX12_drop cX12_drop 3 (some .int) 2 := ⟨q1995, q1996, q127, q1997, ⟨rfl, by decide, by decide, by decide +kernel⟩⟩
theorem mX11_drops : CmV "EbbWreck" yX11_drops cX11_drops 2 (some .int) 1 := ⟨q1163, q1164, q114, q1165, ⟨rfl, by decide, by decide, by decide +kernel⟩⟩
theorem mX12_drops : CmV "EbbWreckModel" yX12_drops cX12_drops 6 (some .int) 1 := ⟨q2004, q2005, q127, q2006, ⟨rfl, by decide, by decide, by decide +kernel⟩⟩
theorem mX11_share : CmV "EbbWreck" yX11_share cX11_share 2 (some .int) 1 := ⟨q1273, q1274, q114, q1275, ⟨rfl, by decide, by decide, by decide +kernel⟩⟩
theorem mX12_share : CmV "EbbWreckModel" yX12_share cX12_share 2 (some .int) 1 := ⟨q2071, q2072, q127, q2073, ⟨rfl, by decide, by decide, by decide +kernel⟩⟩
theorem mX11_origins : CmV "EbbWreck" yX11_origins cX11_origins 4 (some .int) 3 := ⟨q1172, q1173, q114, q1174, ⟨rfl, by decide, by decide, by decide +kernel⟩⟩
theorem mX12_origins : CmV "EbbWreckModel" yX12_origins cX12_origins 6 (some .int) 3 := ⟨q2008, q2009, q127, q2010, ⟨rfl, by decide, by decide, by decide +kernel⟩⟩
theorem mX11_when : CmV "EbbWreck" yX11_when cX11_when 4 (some .int) 3 := ⟨q1184, q1185, q114, q1186, ⟨rfl, by decide, by decide, by decide +kernel⟩⟩
theorem mX12_when : CmV "EbbWreckModel" yX12_when cX12_when 5 (some .int) 3 := ⟨q2012, q2013, q127, q2014, ⟨rfl, by decide, by decide, by decide +kernel⟩⟩
theorem mX11_fits : CmV "EbbWreck" yX11_fits cX11_fits 2 (some .int) 1 := ⟨q1192, q1193, q114, q1194, ⟨rfl, by decide, by decide, by decide +kernel⟩⟩
theorem mX12_fits : CmV "EbbWreckModel" yX12_fits cX12_fits 3 (some .int) 1 := ⟨q2016, q2017, q127, q2018, ⟨rfl, by decide, by decide, by decide +kernel⟩⟩
theorem mX11_fit : CmV "EbbWreck" yX11_fit cX11_fit 3 (some .int) 2 := ⟨q1238, q1239, q114, q1240, ⟨rfl, by decide, by decide, by decide +kernel⟩⟩
theorem mX12_fit : CmV "EbbWreckModel" yX12_fit cX12_fit 6 (some .int) 2 := ⟨q2036, q2037, q127, q2038, ⟨rfl, by decide, by decide, by decide +kernel⟩⟩
theorem mX11_ask : CmV "EbbWreck" yX11_ask cX11_ask 3 (some .int) 1 := ⟨q1254, q1255, q114, q1256, ⟨rfl, by decide, by decide, by decide +kernel⟩⟩
theorem mX12_ask : CmV "EbbWreckModel" yX12_ask cX12_ask 3 (some .int) 1 := ⟨q2043, q2044, q127, q2045, ⟨rfl, by decide, by decide, by decide +kernel⟩⟩
theorem mX11_leaves : CmV "EbbWreck" yX11_leaves cX11_leaves 4 (some .int) 1 := ⟨q1268, q1269, q114, q1270, ⟨rfl, by decide, by decide, by decide +kernel⟩⟩
theorem mX12_leaves : CmV "EbbWreckModel" yX12_leaves cX12_leaves 3 (some .int) 1 := ⟨q2051, q2052, q127, q2053, ⟨rfl, by decide, by decide, by decide +kernel⟩⟩
theorem mX11_seat : CmV "EbbWreck" yX11_seat cX11_seat 3 (some .int) 2 := ⟨q1291, q1292, q114, q1293, ⟨rfl, by decide, by decide, by decide +kernel⟩⟩
theorem mX12_seat : CmV "EbbWreckModel" yX12_seat cX12_seat 3 (some .int) 2 := ⟨q2055, q2056, q127, q2057, ⟨rfl, by decide, by decide, by decide +kernel⟩⟩
theorem mX11_seats : CmV "EbbWreck" yX11_seats cX11_seats 2 (some .int) 1 := ⟨q1295, q1296, q114, q1297, ⟨rfl, by decide, by decide, by decide +kernel⟩⟩
theorem mX12_seats : CmV "EbbWreckModel" yX12_seats cX12_seats 4 (some .int) 1 := ⟨q2067, q2068, q127, q2069, ⟨rfl, by decide, by decide, by decide +kernel⟩⟩
theorem mX11_rests : CmV "EbbWreck" yX11_rests cX11_rests 1 (some .int) 0 := ⟨q1304, q1305, q114, q1306, ⟨rfl, by decide, by decide, by decide +kernel⟩⟩
theorem mX12_rests_ : CmV "EbbWreckModel" yX12_rests_ cX12_rests_ 1 (some .int) 0 := ⟨q2075, q2076, q127, q2077, ⟨rfl, by decide, by decide, by decide +kernel⟩⟩
theorem mX11_rest : CmV "EbbWreck" yX11_rest cX11_rest 2 (some .int) 1 := ⟨q1334, q1335, q114, q1336, ⟨rfl, by decide, by decide, by decide +kernel⟩⟩
theorem mX12_rest : CmV "EbbWreckModel" yX12_rest cX12_rest 2 (some .int) 1 := ⟨q2087, q2088, q127, q2089, ⟨rfl, by decide, by decide, by decide +kernel⟩⟩
theorem mX11_clock : CmV "EbbWreck" yX11_clock cX11_clock 3 (some .int) 2 := ⟨q1033, q1034, q114, q1035, ⟨rfl, by decide, by decide, by decide +kernel⟩⟩
theorem mX12_clock : CmV "EbbWreckModel" yX12_clock cX12_clock 3 (some .int) 2 := ⟨q2091, q2092, q127, q2093, ⟨rfl, by decide, by decide, by decide +kernel⟩⟩
theorem mX11_set : CmV "EbbWreck" yX11_set cX11_set 7 (some .int) 1 := ⟨q1037, q1038, q114, q1039, ⟨rfl, by decide, by decide, by decide +kernel⟩⟩
theorem mX12_set : CmV "EbbWreckModel" yX12_set cX12_set 4 (some .int) 1 := ⟨q2097, q2098, q127, q2099, ⟨rfl, by decide, by decide, by decide +kernel⟩⟩
theorem mX11_sit : CmV "EbbWreck" yX11_sit cX11_sit 4 (some .int) 2 := ⟨q1342, q1343, q114, q1344, ⟨rfl, by decide, by decide, by decide +kernel⟩⟩
theorem mX12_sit : CmV "EbbWreckModel" yX12_sit cX12_sit 3 (some .int) 2 := ⟨q2101, q2102, q127, q2103, ⟨rfl, by decide, by decide, by decide +kernel⟩⟩
theorem mX11_shove : CmV "EbbWreck" yX11_shove cX11_shove 4 (some .int) 3 := ⟨q1359, q1360, q114, q1361, ⟨rfl, by decide, by decide, by decide +kernel⟩⟩
theorem mX12_shove : CmV "EbbWreckModel" yX12_shove cX12_shove 6 (some .int) 3 := ⟨q2113, q2114, q127, q2115, ⟨rfl, by decide, by decide, by decide +kernel⟩⟩
theorem mX11_undo : CmV "EbbWreck" yX11_undo cX11_undo 2 (some .int) 0 := ⟨q1377, q1378, q114, q1379, ⟨rfl, by decide, by decide, by decide +kernel⟩⟩
theorem mX12_undo : CmV "EbbWreckModel" yX12_undo cX12_undo 1 (some .int) 0 := ⟨q2117, q2118, q127, q2119, ⟨rfl, by decide, by decide, by decide +kernel⟩⟩
theorem mX11_anew : CmV "EbbWreck" yX11_anew cX11_anew 3 (some .int) 0 := ⟨q1385, q1386, q114, q1387, ⟨rfl, by decide, by decide, by decide +kernel⟩⟩
theorem mX12_anew : CmV "EbbWreckModel" yX12_anew cX12_anew 2 (some .int) 0 := ⟨q2121, q2122, q127, q2123, ⟨rfl, by decide, by decide, by decide +kernel⟩⟩
theorem mX11_drawn : CmV "EbbWreck" yX11_drawn cX11_drawn 4 (some .int) 3 := ⟨q1393, q1394, q114, q1395, ⟨rfl, by decide, by decide, by decide +kernel⟩⟩
theorem mX12_drawn : CmV "EbbWreckModel" yX12_drawn cX12_drawn 4 (some .int) 3 := ⟨q2125, q2126, q127, q2127, ⟨rfl, by decide, by decide, by decide +kernel⟩⟩
theorem mX11_luck : CmV "EbbWreck" yX11_luck cX11_luck 7 (some .int) 4 := ⟨q1407, q1408, q114, q1409, ⟨rfl, by decide, by decide, by decide +kernel⟩⟩
theorem mX12_luck : CmV "EbbWreckModel" yX12_luck cX12_luck 7 (some .int) 4 := ⟨q2133, q2134, q127, q2135, ⟨rfl, by decide, by decide, by decide +kernel⟩⟩
theorem mX11_waits : CmV "EbbWreck" yX11_waits cX11_waits 4 (some .int) 3 := ⟨q1414, q1415, q114, q1416, ⟨rfl, by decide, by decide, by decide +kernel⟩⟩
theorem mX12_waits : CmV "EbbWreckModel" yX12_waits cX12_waits 7 (some .int) 3 := ⟨q2137, q2138, q127, q2139, ⟨rfl, by decide, by decide, by decide +kernel⟩⟩
theorem mX11_rate : CmV "EbbWreck" yX11_rate cX11_rate 4 (some .int) 2 := ⟨q1389, q1390, q114, q1391, ⟨rfl, by decide, by decide, by decide +kernel⟩⟩
theorem mX12_rate : CmV "EbbWreckModel" yX12_rate cX12_rate 4 (some .int) 2 := ⟨q2141, q2142, q127, q2143, ⟨rfl, by decide, by decide, by decide +kernel⟩⟩
theorem mX11_count : CmV "EbbWreck" yX11_count cX11_count 2 (some .int) 1 := ⟨q853, q854, q114, q855, ⟨rfl, by decide, by decide, by decide +kernel⟩⟩
theorem mX12_count : CmV "EbbWreckModel" yX12_count cX12_count 4 (some .int) 1 := ⟨q2146, q2147, q127, q2148, ⟨rfl, by decide, by decide, by decide +kernel⟩⟩
theorem mX11_image : CmV "EbbWreck" yX11_image cX11_image 2 (some .int) 1 := ⟨q1422, q1423, q114, q1424, ⟨rfl, by decide, by decide, by decide +kernel⟩⟩
theorem mX12_image : CmV "EbbWreckModel" yX12_image cX12_image 2 (some .int) 1 := ⟨q2151, q2152, q127, q2153, ⟨rfl, by decide, by decide, by decide +kernel⟩⟩
theorem mX11_back : CmV "EbbWreck" yX11_back cX11_back 2 (some .int) 1 := ⟨q1426, q1427, q114, q1428, ⟨rfl, by decide, by decide, by decide +kernel⟩⟩
theorem mX12_back : CmV "EbbWreckModel" yX12_back cX12_back 2 (some .int) 1 := ⟨q2155, q2156, q127, q2157, ⟨rfl, by decide, by decide, by decide +kernel⟩⟩
theorem mX11_row : CmV "EbbWreck" yX11_row cX11_row 4 (some .int) 3 := ⟨q1430, q1431, q114, q1432, ⟨rfl, by decide, by decide, by decide +kernel⟩⟩
theorem mX12_row : CmV "EbbWreckModel" yX12_row cX12_row 5 (some .int) 3 := ⟨q1584, q1585, q127, q1586, ⟨rfl, by decide, by decide, by decide +kernel⟩⟩
theorem mX11_write : CmV "EbbWreck" yX11_write cX11_write 5 (some .int) 3 := ⟨q1442, q1443, q114, q1444, ⟨rfl, by decide, by decide, by decide +kernel⟩⟩
theorem mX12_write : CmV "EbbWreckModel" yX12_write cX12_write 5 (some .int) 3 := ⟨q1595, q1596, q127, q1597, ⟨rfl, by decide, by decide, by decide +kernel⟩⟩
theorem mX11_paste : CmV "EbbWreck" yX11_paste cX11_paste 6 (some .int) 5 := ⟨q1454, q1455, q114, q1456, ⟨rfl, by decide, by decide, by decide +kernel⟩⟩
theorem mX12_paste : CmV "EbbWreckModel" yX12_paste cX12_paste 7 (some .int) 5 := ⟨q1602, q1603, q127, q1604, ⟨rfl, by decide, by decide, by decide +kernel⟩⟩
