theorem dL_law_328 : decode cL_law 328 = .ok (.aload_n 1, 1) := by decide +kernel
theorem dL_law_329 : decode cL_law 329 = .ok (.aload_n 0, 1) := by decide +kernel
theorem dL_law_330 : decode cL_law 330 = .ok (.iload_n 3, 1) := by decide +kernel
theorem dL_law_331 : decode cL_law 331 = .ok (.iconst 1, 1) := by decide +kernel
theorem dL_law_332 : decode cL_law 332 = .ok (.iadd, 1) := by decide +kernel
theorem dL_law_333 : decode cL_law 333 = .ok (.iaload, 1) := by decide +kernel
theorem dL_law_334 : decode cL_law 334 = .ok (.aload_n 0, 1) := by decide +kernel
theorem dL_law_335 : decode cL_law 335 = .ok (.iload_n 3, 1) := by decide +kernel
theorem dL_law_336 : decode cL_law 336 = .ok (.iconst 2, 1) := by decide +kernel
theorem dL_law_337 : decode cL_law 337 = .ok (.iadd, 1) := by decide +kernel
theorem dL_law_338 : decode cL_law 338 = .ok (.iaload, 1) := by decide +kernel
theorem dL_law_339 : decode cL_law 339 = .ok (.aload_n 0, 1) := by decide +kernel
theorem dL_law_340 : decode cL_law 340 = .ok (.iload_n 3, 1) := by decide +kernel
theorem dL_law_341 : decode cL_law 341 = .ok (.iconst 3, 1) := by decide +kernel
theorem dL_law_342 : decode cL_law 342 = .ok (.iadd, 1) := by decide +kernel
theorem dL_law_343 : decode cL_law 343 = .ok (.iaload, 1) := by decide +kernel
theorem dL_law_344 : decode cL_law 344 = .ok (.aload_n 0, 1) := by decide +kernel
theorem dL_law_345 : decode cL_law 345 = .ok (.iload_n 3, 1) := by decide +kernel
theorem dL_law_346 : decode cL_law 346 = .ok (.iconst 4, 1) := by decide +kernel
theorem dL_law_347 : decode cL_law 347 = .ok (.iadd, 1) := by decide +kernel
theorem dL_law_348 : decode cL_law 348 = .ok (.iaload, 1) := by decide +kernel
theorem dL_law_349 : decode cL_law 349 = .ok (.aload_n 0, 1) := by decide +kernel
theorem dL_law_350 : decode cL_law 350 = .ok (.iload_n 3, 1) := by decide +kernel
theorem dL_law_351 : decode cL_law 351 = .ok (.iconst 5, 1) := by decide +kernel
theorem dL_law_352 : decode cL_law 352 = .ok (.iadd, 1) := by decide +kernel
theorem dL_law_353 : decode cL_law 353 = .ok (.iaload, 1) := by decide +kernel
theorem dL_law_354 : decode cL_law 354 = .ok (.invokevirtual 13, 3) := by decide +kernel
theorem dL_law_357 : decode cL_law 357 = .ok (.pop, 1) := by decide +kernel
theorem dL_law_358 : decode cL_law 358 = .ok (.aload_n 2, 1) := by decide +kernel
theorem dL_law_359 : decode cL_law 359 = .ok (.aload_n 0, 1) := by decide +kernel
theorem dL_law_360 : decode cL_law 360 = .ok (.iload_n 3, 1) := by decide +kernel
theorem dL_law_361 : decode cL_law 361 = .ok (.iconst 1, 1) := by decide +kernel
theorem dL_law_362 : decode cL_law 362 = .ok (.iadd, 1) := by decide +kernel
theorem dL_law_363 : decode cL_law 363 = .ok (.iaload, 1) := by decide +kernel
theorem dL_law_364 : decode cL_law 364 = .ok (.aload_n 0, 1) := by decide +kernel
theorem dL_law_365 : decode cL_law 365 = .ok (.iload_n 3, 1) := by decide +kernel
theorem dL_law_366 : decode cL_law 366 = .ok (.iconst 2, 1) := by decide +kernel
theorem dL_law_367 : decode cL_law 367 = .ok (.iadd, 1) := by decide +kernel
theorem dL_law_368 : decode cL_law 368 = .ok (.iaload, 1) := by decide +kernel
theorem dL_law_369 : decode cL_law 369 = .ok (.aload_n 0, 1) := by decide +kernel
theorem dL_law_370 : decode cL_law 370 = .ok (.iload_n 3, 1) := by decide +kernel
theorem dL_law_371 : decode cL_law 371 = .ok (.iconst 3, 1) := by decide +kernel
theorem dL_law_372 : decode cL_law 372 = .ok (.iadd, 1) := by decide +kernel
theorem dL_law_373 : decode cL_law 373 = .ok (.iaload, 1) := by decide +kernel
theorem dL_law_374 : decode cL_law 374 = .ok (.aload_n 0, 1) := by decide +kernel
theorem dL_law_375 : decode cL_law 375 = .ok (.iload_n 3, 1) := by decide +kernel
theorem dL_law_376 : decode cL_law 376 = .ok (.iconst 4, 1) := by decide +kernel
theorem dL_law_377 : decode cL_law 377 = .ok (.iadd, 1) := by decide +kernel
theorem dL_law_378 : decode cL_law 378 = .ok (.iaload, 1) := by decide +kernel
theorem dL_law_379 : decode cL_law 379 = .ok (.aload_n 0, 1) := by decide +kernel
theorem dL_law_380 : decode cL_law 380 = .ok (.iload_n 3, 1) := by decide +kernel
theorem dL_law_381 : decode cL_law 381 = .ok (.iconst 5, 1) := by decide +kernel
theorem dL_law_382 : decode cL_law 382 = .ok (.iadd, 1) := by decide +kernel
theorem dL_law_383 : decode cL_law 383 = .ok (.iaload, 1) := by decide +kernel
theorem dL_law_384 : decode cL_law 384 = .ok (.invokevirtual 17, 3) := by decide +kernel
theorem dL_law_387 : decode cL_law 387 = .ok (.pop, 1) := by decide +kernel
theorem dL_law_388 : decode cL_law 388 = .ok (.goto 1730, 3) := by decide +kernel
theorem dL_law_391 : decode cL_law 391 = .ok (.aload_n 1, 1) := by decide +kernel
theorem dL_law_392 : decode cL_law 392 = .ok (.aload_n 0, 1) := by decide +kernel
theorem dL_law_393 : decode cL_law 393 = .ok (.iload_n 3, 1) := by decide +kernel
theorem dL_law_394 : decode cL_law 394 = .ok (.iconst 1, 1) := by decide +kernel
theorem dL_law_395 : decode cL_law 395 = .ok (.iadd, 1) := by decide +kernel
theorem dL_law_396 : decode cL_law 396 = .ok (.iaload, 1) := by decide +kernel
theorem dL_law_397 : decode cL_law 397 = .ok (.invokevirtual 18, 3) := by decide +kernel
theorem dL_law_400 : decode cL_law 400 = .ok (.pop, 1) := by decide +kernel
theorem dL_law_401 : decode cL_law 401 = .ok (.aload_n 2, 1) := by decide +kernel
theorem dL_law_402 : decode cL_law 402 = .ok (.aload_n 0, 1) := by decide +kernel
theorem dL_law_403 : decode cL_law 403 = .ok (.iload_n 3, 1) := by decide +kernel
theorem dL_law_404 : decode cL_law 404 = .ok (.iconst 1, 1) := by decide +kernel
theorem dL_law_405 : decode cL_law 405 = .ok (.iadd, 1) := by decide +kernel
theorem dL_law_406 : decode cL_law 406 = .ok (.iaload, 1) := by decide +kernel
theorem dL_law_407 : decode cL_law 407 = .ok (.invokevirtual 22, 3) := by decide +kernel
theorem dL_law_410 : decode cL_law 410 = .ok (.pop, 1) := by decide +kernel
theorem dL_law_411 : decode cL_law 411 = .ok (.goto 1707, 3) := by decide +kernel
theorem dL_law_414 : decode cL_law 414 = .ok (.aload_n 1, 1) := by decide +kernel
theorem dL_law_415 : decode cL_law 415 = .ok (.invokevirtual 23, 3) := by decide +kernel
theorem dL_law_418 : decode cL_law 418 = .ok (.pop, 1) := by decide +kernel
theorem dL_law_419 : decode cL_law 419 = .ok (.aload_n 2, 1) := by decide +kernel
theorem dL_law_420 : decode cL_law 420 = .ok (.invokevirtual 27, 3) := by decide +kernel
theorem dL_law_423 : decode cL_law 423 = .ok (.pop, 1) := by decide +kernel
theorem dL_law_424 : decode cL_law 424 = .ok (.goto 1694, 3) := by decide +kernel
theorem dL_law_427 : decode cL_law 427 = .ok (.aload_n 1, 1) := by decide +kernel
theorem dL_law_428 : decode cL_law 428 = .ok (.aload_n 0, 1) := by decide +kernel
theorem dL_law_429 : decode cL_law 429 = .ok (.iload_n 3, 1) := by decide +kernel
theorem dL_law_430 : decode cL_law 430 = .ok (.iconst 1, 1) := by decide +kernel
theorem dL_law_431 : decode cL_law 431 = .ok (.iadd, 1) := by decide +kernel
theorem dL_law_432 : decode cL_law 432 = .ok (.iaload, 1) := by decide +kernel
theorem dL_law_433 : decode cL_law 433 = .ok (.invokevirtual 28, 3) := by decide +kernel
theorem dL_law_436 : decode cL_law 436 = .ok (.pop, 1) := by decide +kernel
theorem dL_law_437 : decode cL_law 437 = .ok (.aload_n 2, 1) := by decide +kernel
theorem dL_law_438 : decode cL_law 438 = .ok (.aload_n 0, 1) := by decide +kernel
theorem dL_law_439 : decode cL_law 439 = .ok (.iload_n 3, 1) := by decide +kernel
theorem dL_law_440 : decode cL_law 440 = .ok (.iconst 1, 1) := by decide +kernel
theorem dL_law_441 : decode cL_law 441 = .ok (.iadd, 1) := by decide +kernel
theorem dL_law_442 : decode cL_law 442 = .ok (.iaload, 1) := by decide +kernel
theorem dL_law_443 : decode cL_law 443 = .ok (.invokevirtual 31, 3) := by decide +kernel
theorem dL_law_446 : decode cL_law 446 = .ok (.pop, 1) := by decide +kernel
theorem dL_law_447 : decode cL_law 447 = .ok (.goto 1671, 3) := by decide +kernel
theorem dL_law_450 : decode cL_law 450 = .ok (.aload_n 1, 1) := by decide +kernel
theorem dL_law_451 : decode cL_law 451 = .ok (.aload_n 0, 1) := by decide +kernel
theorem dL_law_452 : decode cL_law 452 = .ok (.iload_n 3, 1) := by decide +kernel
theorem dL_law_453 : decode cL_law 453 = .ok (.iconst 1, 1) := by decide +kernel
theorem dL_law_454 : decode cL_law 454 = .ok (.iadd, 1) := by decide +kernel
theorem dL_law_455 : decode cL_law 455 = .ok (.iaload, 1) := by decide +kernel
theorem dL_law_456 : decode cL_law 456 = .ok (.aload_n 0, 1) := by decide +kernel
theorem dL_law_457 : decode cL_law 457 = .ok (.iload_n 3, 1) := by decide +kernel
theorem dL_law_458 : decode cL_law 458 = .ok (.iconst 2, 1) := by decide +kernel
theorem dL_law_459 : decode cL_law 459 = .ok (.iadd, 1) := by decide +kernel
theorem dL_law_460 : decode cL_law 460 = .ok (.iaload, 1) := by decide +kernel
theorem dL_law_461 : decode cL_law 461 = .ok (.invokevirtual 32, 3) := by decide +kernel
theorem dL_law_464 : decode cL_law 464 = .ok (.pop, 1) := by decide +kernel
theorem dL_law_465 : decode cL_law 465 = .ok (.aload_n 2, 1) := by decide +kernel
theorem dL_law_466 : decode cL_law 466 = .ok (.aload_n 0, 1) := by decide +kernel
theorem dL_law_467 : decode cL_law 467 = .ok (.iload_n 3, 1) := by decide +kernel
theorem dL_law_468 : decode cL_law 468 = .ok (.iconst 1, 1) := by decide +kernel
theorem dL_law_469 : decode cL_law 469 = .ok (.iadd, 1) := by decide +kernel
theorem dL_law_470 : decode cL_law 470 = .ok (.iaload, 1) := by decide +kernel
theorem dL_law_471 : decode cL_law 471 = .ok (.aload_n 0, 1) := by decide +kernel
theorem dL_law_472 : decode cL_law 472 = .ok (.iload_n 3, 1) := by decide +kernel
theorem dL_law_473 : decode cL_law 473 = .ok (.iconst 2, 1) := by decide +kernel
theorem dL_law_474 : decode cL_law 474 = .ok (.iadd, 1) := by decide +kernel
theorem dL_law_475 : decode cL_law 475 = .ok (.iaload, 1) := by decide +kernel
theorem dL_law_476 : decode cL_law 476 = .ok (.invokevirtual 36, 3) := by decide +kernel
theorem dL_law_479 : decode cL_law 479 = .ok (.pop, 1) := by decide +kernel
theorem dL_law_480 : decode cL_law 480 = .ok (.goto 1638, 3) := by decide +kernel
theorem dL_law_483 : decode cL_law 483 = .ok (.aload_n 1, 1) := by decide +kernel
theorem dL_law_484 : decode cL_law 484 = .ok (.aload_n 0, 1) := by decide +kernel
theorem dL_law_485 : decode cL_law 485 = .ok (.iload_n 3, 1) := by decide +kernel
theorem dL_law_486 : decode cL_law 486 = .ok (.iconst 1, 1) := by decide +kernel
theorem dL_law_487 : decode cL_law 487 = .ok (.iadd, 1) := by decide +kernel
theorem dL_law_488 : decode cL_law 488 = .ok (.iaload, 1) := by decide +kernel
theorem dL_law_489 : decode cL_law 489 = .ok (.aload_n 0, 1) := by decide +kernel
theorem dL_law_490 : decode cL_law 490 = .ok (.iload_n 3, 1) := by decide +kernel
theorem dL_law_491 : decode cL_law 491 = .ok (.iconst 2, 1) := by decide +kernel
theorem dL_law_492 : decode cL_law 492 = .ok (.iadd, 1) := by decide +kernel
theorem dL_law_493 : decode cL_law 493 = .ok (.iaload, 1) := by decide +kernel
theorem dL_law_494 : decode cL_law 494 = .ok (.invokevirtual 37, 3) := by decide +kernel
theorem dL_law_497 : decode cL_law 497 = .ok (.pop, 1) := by decide +kernel
theorem dL_law_498 : decode cL_law 498 = .ok (.aload_n 2, 1) := by decide +kernel
theorem dL_law_499 : decode cL_law 499 = .ok (.aload_n 0, 1) := by decide +kernel
theorem dL_law_500 : decode cL_law 500 = .ok (.iload_n 3, 1) := by decide +kernel
theorem dL_law_501 : decode cL_law 501 = .ok (.iconst 1, 1) := by decide +kernel
theorem dL_law_502 : decode cL_law 502 = .ok (.iadd, 1) := by decide +kernel
theorem dL_law_503 : decode cL_law 503 = .ok (.iaload, 1) := by decide +kernel
theorem dL_law_504 : decode cL_law 504 = .ok (.aload_n 0, 1) := by decide +kernel
theorem dL_law_505 : decode cL_law 505 = .ok (.iload_n 3, 1) := by decide +kernel
theorem dL_law_506 : decode cL_law 506 = .ok (.iconst 2, 1) := by decide +kernel
theorem dL_law_507 : decode cL_law 507 = .ok (.iadd, 1) := by decide +kernel
theorem dL_law_508 : decode cL_law 508 = .ok (.iaload, 1) := by decide +kernel
theorem dL_law_509 : decode cL_law 509 = .ok (.invokevirtual 40, 3) := by decide +kernel
theorem dL_law_512 : decode cL_law 512 = .ok (.pop, 1) := by decide +kernel
theorem dL_law_513 : decode cL_law 513 = .ok (.goto 1605, 3) := by decide +kernel
theorem dL_law_516 : decode cL_law 516 = .ok (.aload_n 1, 1) := by decide +kernel
theorem dL_law_517 : decode cL_law 517 = .ok (.invokevirtual 41, 3) := by decide +kernel
theorem dL_law_520 : decode cL_law 520 = .ok (.pop, 1) := by decide +kernel
theorem dL_law_521 : decode cL_law 521 = .ok (.aload_n 2, 1) := by decide +kernel
theorem dL_law_522 : decode cL_law 522 = .ok (.invokevirtual 44, 3) := by decide +kernel
theorem dL_law_525 : decode cL_law 525 = .ok (.pop, 1) := by decide +kernel
theorem dL_law_526 : decode cL_law 526 = .ok (.goto 1592, 3) := by decide +kernel
theorem dL_law_529 : decode cL_law 529 = .ok (.aload_n 1, 1) := by decide +kernel
theorem dL_law_530 : decode cL_law 530 = .ok (.aload_n 0, 1) := by decide +kernel
theorem dL_law_531 : decode cL_law 531 = .ok (.iload_n 3, 1) := by decide +kernel
theorem dL_law_532 : decode cL_law 532 = .ok (.iconst 1, 1) := by decide +kernel
theorem dL_law_533 : decode cL_law 533 = .ok (.iadd, 1) := by decide +kernel
theorem dL_law_534 : decode cL_law 534 = .ok (.iaload, 1) := by decide +kernel
theorem dL_law_535 : decode cL_law 535 = .ok (.aload_n 0, 1) := by decide +kernel
theorem dL_law_536 : decode cL_law 536 = .ok (.iload_n 3, 1) := by decide +kernel
theorem dL_law_537 : decode cL_law 537 = .ok (.iconst 2, 1) := by decide +kernel
theorem dL_law_538 : decode cL_law 538 = .ok (.iadd, 1) := by decide +kernel
theorem dL_law_539 : decode cL_law 539 = .ok (.iaload, 1) := by decide +kernel
theorem dL_law_540 : decode cL_law 540 = .ok (.invokevirtual 45, 3) := by decide +kernel
theorem dL_law_543 : decode cL_law 543 = .ok (.pop, 1) := by decide +kernel
theorem dL_law_544 : decode cL_law 544 = .ok (.aload_n 2, 1) := by decide +kernel
theorem dL_law_545 : decode cL_law 545 = .ok (.aload_n 0, 1) := by decide +kernel
theorem dL_law_546 : decode cL_law 546 = .ok (.iload_n 3, 1) := by decide +kernel
theorem dL_law_547 : decode cL_law 547 = .ok (.iconst 1, 1) := by decide +kernel
theorem dL_law_548 : decode cL_law 548 = .ok (.iadd, 1) := by decide +kernel
theorem dL_law_549 : decode cL_law 549 = .ok (.iaload, 1) := by decide +kernel
theorem dL_law_550 : decode cL_law 550 = .ok (.aload_n 0, 1) := by decide +kernel
theorem dL_law_551 : decode cL_law 551 = .ok (.iload_n 3, 1) := by decide +kernel
theorem dL_law_552 : decode cL_law 552 = .ok (.iconst 2, 1) := by decide +kernel
theorem dL_law_553 : decode cL_law 553 = .ok (.iadd, 1) := by decide +kernel
theorem dL_law_554 : decode cL_law 554 = .ok (.iaload, 1) := by decide +kernel
theorem dL_law_555 : decode cL_law 555 = .ok (.invokevirtual 48, 3) := by decide +kernel
theorem dL_law_558 : decode cL_law 558 = .ok (.pop, 1) := by decide +kernel
theorem dL_law_559 : decode cL_law 559 = .ok (.goto 1559, 3) := by decide +kernel
theorem dL_law_562 : decode cL_law 562 = .ok (.aload_n 1, 1) := by decide +kernel
theorem dL_law_563 : decode cL_law 563 = .ok (.aload_n 0, 1) := by decide +kernel
theorem dL_law_564 : decode cL_law 564 = .ok (.iload_n 3, 1) := by decide +kernel
theorem dL_law_565 : decode cL_law 565 = .ok (.iconst 1, 1) := by decide +kernel
theorem dL_law_566 : decode cL_law 566 = .ok (.iadd, 1) := by decide +kernel
theorem dL_law_567 : decode cL_law 567 = .ok (.iaload, 1) := by decide +kernel
theorem dL_law_568 : decode cL_law 568 = .ok (.aload_n 0, 1) := by decide +kernel
theorem dL_law_569 : decode cL_law 569 = .ok (.iload_n 3, 1) := by decide +kernel
theorem dL_law_570 : decode cL_law 570 = .ok (.iconst 2, 1) := by decide +kernel
theorem dL_law_571 : decode cL_law 571 = .ok (.iadd, 1) := by decide +kernel
theorem dL_law_572 : decode cL_law 572 = .ok (.iaload, 1) := by decide +kernel
theorem dL_law_573 : decode cL_law 573 = .ok (.invokevirtual 49, 3) := by decide +kernel
theorem dL_law_576 : decode cL_law 576 = .ok (.pop, 1) := by decide +kernel
theorem dL_law_577 : decode cL_law 577 = .ok (.aload_n 2, 1) := by decide +kernel
theorem dL_law_578 : decode cL_law 578 = .ok (.aload_n 0, 1) := by decide +kernel
theorem dL_law_579 : decode cL_law 579 = .ok (.iload_n 3, 1) := by decide +kernel
theorem dL_law_580 : decode cL_law 580 = .ok (.iconst 1, 1) := by decide +kernel
theorem dL_law_581 : decode cL_law 581 = .ok (.iadd, 1) := by decide +kernel
theorem dL_law_582 : decode cL_law 582 = .ok (.iaload, 1) := by decide +kernel
theorem dL_law_583 : decode cL_law 583 = .ok (.aload_n 0, 1) := by decide +kernel
theorem dL_law_584 : decode cL_law 584 = .ok (.iload_n 3, 1) := by decide +kernel
theorem dL_law_585 : decode cL_law 585 = .ok (.iconst 2, 1) := by decide +kernel
theorem dL_law_586 : decode cL_law 586 = .ok (.iadd, 1) := by decide +kernel
theorem dL_law_587 : decode cL_law 587 = .ok (.iaload, 1) := by decide +kernel
theorem dL_law_588 : decode cL_law 588 = .ok (.invokevirtual 52, 3) := by decide +kernel
theorem dL_law_591 : decode cL_law 591 = .ok (.pop, 1) := by decide +kernel
theorem dL_law_592 : decode cL_law 592 = .ok (.goto 1526, 3) := by decide +kernel
theorem dL_law_595 : decode cL_law 595 = .ok (.aload_n 1, 1) := by decide +kernel
theorem dL_law_596 : decode cL_law 596 = .ok (.aload_n 0, 1) := by decide +kernel
theorem dL_law_597 : decode cL_law 597 = .ok (.iload_n 3, 1) := by decide +kernel
theorem dL_law_598 : decode cL_law 598 = .ok (.iconst 1, 1) := by decide +kernel
theorem dL_law_599 : decode cL_law 599 = .ok (.iadd, 1) := by decide +kernel
theorem dL_law_600 : decode cL_law 600 = .ok (.iaload, 1) := by decide +kernel
theorem dL_law_601 : decode cL_law 601 = .ok (.invokevirtual 53, 3) := by decide +kernel
theorem dL_law_604 : decode cL_law 604 = .ok (.pop, 1) := by decide +kernel
theorem dL_law_605 : decode cL_law 605 = .ok (.aload_n 2, 1) := by decide +kernel
theorem dL_law_606 : decode cL_law 606 = .ok (.aload_n 0, 1) := by decide +kernel
theorem dL_law_607 : decode cL_law 607 = .ok (.iload_n 3, 1) := by decide +kernel
theorem dL_law_608 : decode cL_law 608 = .ok (.iconst 1, 1) := by decide +kernel
theorem dL_law_609 : decode cL_law 609 = .ok (.iadd, 1) := by decide +kernel
theorem dL_law_610 : decode cL_law 610 = .ok (.iaload, 1) := by decide +kernel
theorem dL_law_611 : decode cL_law 611 = .ok (.invokevirtual 56, 3) := by decide +kernel
theorem dL_law_614 : decode cL_law 614 = .ok (.pop, 1) := by decide +kernel
theorem dL_law_615 : decode cL_law 615 = .ok (.goto 1503, 3) := by decide +kernel
theorem dL_law_618 : decode cL_law 618 = .ok (.aload_n 1, 1) := by decide +kernel
theorem dL_law_619 : decode cL_law 619 = .ok (.aload_n 0, 1) := by decide +kernel
theorem dL_law_620 : decode cL_law 620 = .ok (.iload_n 3, 1) := by decide +kernel
theorem dL_law_621 : decode cL_law 621 = .ok (.iconst 1, 1) := by decide +kernel
theorem dL_law_622 : decode cL_law 622 = .ok (.iadd, 1) := by decide +kernel
theorem dL_law_623 : decode cL_law 623 = .ok (.iaload, 1) := by decide +kernel
theorem dL_law_624 : decode cL_law 624 = .ok (.invokevirtual 57, 3) := by decide +kernel
theorem dL_law_627 : decode cL_law 627 = .ok (.pop, 1) := by decide +kernel
theorem dL_law_628 : decode cL_law 628 = .ok (.aload_n 2, 1) := by decide +kernel
theorem dL_law_629 : decode cL_law 629 = .ok (.aload_n 0, 1) := by decide +kernel
theorem dL_law_630 : decode cL_law 630 = .ok (.iload_n 3, 1) := by decide +kernel
theorem dL_law_631 : decode cL_law 631 = .ok (.iconst 1, 1) := by decide +kernel
theorem dL_law_632 : decode cL_law 632 = .ok (.iadd, 1) := by decide +kernel
theorem dL_law_633 : decode cL_law 633 = .ok (.iaload, 1) := by decide +kernel
theorem dL_law_634 : decode cL_law 634 = .ok (.invokevirtual 60, 3) := by decide +kernel
theorem dL_law_637 : decode cL_law 637 = .ok (.pop, 1) := by decide +kernel
theorem dL_law_638 : decode cL_law 638 = .ok (.goto 1480, 3) := by decide +kernel
theorem dL_law_641 : decode cL_law 641 = .ok (.aload_n 1, 1) := by decide +kernel
theorem dL_law_642 : decode cL_law 642 = .ok (.aload_n 0, 1) := by decide +kernel
theorem dL_law_643 : decode cL_law 643 = .ok (.iload_n 3, 1) := by decide +kernel
theorem dL_law_644 : decode cL_law 644 = .ok (.iconst 1, 1) := by decide +kernel
theorem dL_law_645 : decode cL_law 645 = .ok (.iadd, 1) := by decide +kernel
theorem dL_law_646 : decode cL_law 646 = .ok (.iaload, 1) := by decide +kernel
theorem dL_law_647 : decode cL_law 647 = .ok (.invokevirtual 61, 3) := by decide +kernel
theorem dL_law_650 : decode cL_law 650 = .ok (.pop, 1) := by decide +kernel
theorem dL_law_651 : decode cL_law 651 = .ok (.aload_n 2, 1) := by decide +kernel
theorem dL_law_652 : decode cL_law 652 = .ok (.aload_n 0, 1) := by decide +kernel
theorem dL_law_653 : decode cL_law 653 = .ok (.iload_n 3, 1) := by decide +kernel
theorem dL_law_654 : decode cL_law 654 = .ok (.iconst 1, 1) := by decide +kernel
theorem dL_law_655 : decode cL_law 655 = .ok (.iadd, 1) := by decide +kernel
theorem dL_law_656 : decode cL_law 656 = .ok (.iaload, 1) := by decide +kernel
theorem dL_law_657 : decode cL_law 657 = .ok (.invokevirtual 64, 3) := by decide +kernel
theorem dL_law_660 : decode cL_law 660 = .ok (.pop, 1) := by decide +kernel
theorem dL_law_661 : decode cL_law 661 = .ok (.goto 1457, 3) := by decide +kernel
theorem dL_law_664 : decode cL_law 664 = .ok (.aload_n 1, 1) := by decide +kernel
theorem dL_law_665 : decode cL_law 665 = .ok (.aload_n 0, 1) := by decide +kernel
theorem dL_law_666 : decode cL_law 666 = .ok (.iload_n 3, 1) := by decide +kernel
theorem dL_law_667 : decode cL_law 667 = .ok (.iconst 1, 1) := by decide +kernel
theorem dL_law_668 : decode cL_law 668 = .ok (.iadd, 1) := by decide +kernel
theorem dL_law_669 : decode cL_law 669 = .ok (.iaload, 1) := by decide +kernel
theorem dL_law_670 : decode cL_law 670 = .ok (.invokevirtual 65, 3) := by decide +kernel
theorem dL_law_673 : decode cL_law 673 = .ok (.pop, 1) := by decide +kernel
theorem dL_law_674 : decode cL_law 674 = .ok (.aload_n 2, 1) := by decide +kernel
theorem dL_law_675 : decode cL_law 675 = .ok (.aload_n 0, 1) := by decide +kernel
theorem dL_law_676 : decode cL_law 676 = .ok (.iload_n 3, 1) := by decide +kernel
theorem dL_law_677 : decode cL_law 677 = .ok (.iconst 1, 1) := by decide +kernel
theorem dL_law_678 : decode cL_law 678 = .ok (.iadd, 1) := by decide +kernel
theorem dL_law_679 : decode cL_law 679 = .ok (.iaload, 1) := by decide +kernel
theorem dL_law_680 : decode cL_law 680 = .ok (.invokevirtual 68, 3) := by decide +kernel
theorem dL_law_683 : decode cL_law 683 = .ok (.pop, 1) := by decide +kernel
theorem dL_law_684 : decode cL_law 684 = .ok (.goto 1434, 3) := by decide +kernel
theorem dL_law_687 : decode cL_law 687 = .ok (.aload_n 1, 1) := by decide +kernel
theorem dL_law_688 : decode cL_law 688 = .ok (.aload_n 0, 1) := by decide +kernel
theorem dL_law_689 : decode cL_law 689 = .ok (.iload_n 3, 1) := by decide +kernel
theorem dL_law_690 : decode cL_law 690 = .ok (.iconst 1, 1) := by decide +kernel
theorem dL_law_691 : decode cL_law 691 = .ok (.iadd, 1) := by decide +kernel
theorem dL_law_692 : decode cL_law 692 = .ok (.iaload, 1) := by decide +kernel
theorem dL_law_693 : decode cL_law 693 = .ok (.aload_n 0, 1) := by decide +kernel
theorem dL_law_694 : decode cL_law 694 = .ok (.iload_n 3, 1) := by decide +kernel
theorem dL_law_695 : decode cL_law 695 = .ok (.iconst 2, 1) := by decide +kernel
theorem dL_law_696 : decode cL_law 696 = .ok (.iadd, 1) := by decide +kernel
theorem dL_law_697 : decode cL_law 697 = .ok (.iaload, 1) := by decide +kernel
theorem dL_law_698 : decode cL_law 698 = .ok (.invokevirtual 69, 3) := by decide +kernel
theorem dL_law_701 : decode cL_law 701 = .ok (.pop, 1) := by decide +kernel
theorem dL_law_702 : decode cL_law 702 = .ok (.aload_n 2, 1) := by decide +kernel
theorem dL_law_703 : decode cL_law 703 = .ok (.aload_n 0, 1) := by decide +kernel
theorem dL_law_704 : decode cL_law 704 = .ok (.iload_n 3, 1) := by decide +kernel
theorem dL_law_705 : decode cL_law 705 = .ok (.iconst 1, 1) := by decide +kernel
theorem dL_law_706 : decode cL_law 706 = .ok (.iadd, 1) := by decide +kernel
theorem dL_law_707 : decode cL_law 707 = .ok (.iaload, 1) := by decide +kernel
theorem dL_law_708 : decode cL_law 708 = .ok (.aload_n 0, 1) := by decide +kernel
theorem dL_law_709 : decode cL_law 709 = .ok (.iload_n 3, 1) := by decide +kernel
theorem dL_law_710 : decode cL_law 710 = .ok (.iconst 2, 1) := by decide +kernel
theorem dL_law_711 : decode cL_law 711 = .ok (.iadd, 1) := by decide +kernel
theorem dL_law_712 : decode cL_law 712 = .ok (.iaload, 1) := by decide +kernel
theorem dL_law_713 : decode cL_law 713 = .ok (.invokevirtual 72, 3) := by decide +kernel
theorem dL_law_716 : decode cL_law 716 = .ok (.pop, 1) := by decide +kernel
theorem dL_law_717 : decode cL_law 717 = .ok (.goto 1401, 3) := by decide +kernel
theorem dL_law_2118 : decode cL_law 2118 = .ok (.iinc 3 6, 3) := by decide +kernel
theorem wd1230 : Cond.instanceMethod yX9_feed ∈ gW := gm (tm_2 133 (by decide +kernel)) rfl
theorem wd1231 : Cond.selects RX9 yX9_feed yX9_feed ∈ gW := gm (tm_2 134 (by decide +kernel)) rfl
theorem wd1232 : Cond.code yX9_feed cX9_feed 6 (some .int) ∈ gW := gm (tm_2 135 (by decide +kernel)) rfl
theorem wd1233 : Cond.methodLink RL 13 yX9_feed ∈ gW := gm (tm_2 132 (by decide +kernel)) rfl
theorem wd1234 : Cond.instanceMethod yX10_feed ∈ gW := gm (tm_7 11 (by decide +kernel)) rfl
theorem wd1235 : Cond.selects RX10 yX10_feed yX10_feed ∈ gW := gm (tm_7 12 (by decide +kernel)) rfl
theorem wd1236 : Cond.code yX10_feed cX10_feed 6 (some .int) ∈ gW := gm (tm_7 13 (by decide +kernel)) rfl
theorem wd1237 : Cond.methodLink RL 17 yX10_feed ∈ gW := gm (tm_7 10 (by decide +kernel)) rfl
theorem wd1238 : Cond.instanceMethod yX9_end ∈ gW := gm (tm_2 141 (by decide +kernel)) rfl
theorem wd1239 : Cond.selects RX9 yX9_end yX9_end ∈ gW := gm (tm_2 142 (by decide +kernel)) rfl
theorem wd1240 : Cond.code yX9_end cX9_end 2 (some .int) ∈ gW := gm (tm_2 143 (by decide +kernel)) rfl
theorem wd1241 : Cond.methodLink RL 18 yX9_end ∈ gW := gm (tm_2 140 (by decide +kernel)) rfl
theorem wd1242 : Cond.instanceMethod yX10_end ∈ gW := gm (tm_7 19 (by decide +kernel)) rfl
theorem wd1243 : Cond.selects RX10 yX10_end yX10_end ∈ gW := gm (tm_7 20 (by decide +kernel)) rfl
theorem wd1244 : Cond.code yX10_end cX10_end 2 (some .int) ∈ gW := gm (tm_7 21 (by decide +kernel)) rfl
theorem wd1245 : Cond.methodLink RL 22 yX10_end ∈ gW := gm (tm_7 18 (by decide +kernel)) rfl
theorem wd1246 : Cond.instanceMethod yX9_land ∈ gW := gm (tm_2 145 (by decide +kernel)) rfl
theorem wd1247 : Cond.selects RX9 yX9_land yX9_land ∈ gW := gm (tm_2 146 (by decide +kernel)) rfl
theorem wd1248 : Cond.code yX9_land cX9_land 1 (some .int) ∈ gW := gm (tm_2 147 (by decide +kernel)) rfl
theorem wd1249 : Cond.methodLink RL 23 yX9_land ∈ gW := gm (tm_2 144 (by decide +kernel)) rfl
theorem wd1250 : Cond.instanceMethod yX10_land ∈ gW := gm (tm_7 27 (by decide +kernel)) rfl
theorem wd1251 : Cond.selects RX10 yX10_land yX10_land ∈ gW := gm (tm_7 28 (by decide +kernel)) rfl
theorem wd1252 : Cond.code yX10_land cX10_land 1 (some .int) ∈ gW := gm (tm_7 29 (by decide +kernel)) rfl
theorem wd1253 : Cond.methodLink RL 27 yX10_land ∈ gW := gm (tm_7 26 (by decide +kernel)) rfl
theorem wd1254 : Cond.instanceMethod yX9_fault ∈ gW := gm (tm_3 56 (by decide +kernel)) rfl
theorem wd1255 : Cond.selects RX9 yX9_fault yX9_fault ∈ gW := gm (tm_3 57 (by decide +kernel)) rfl
theorem wd1256 : Cond.code yX9_fault cX9_fault 2 (some .int) ∈ gW := gm (tm_3 58 (by decide +kernel)) rfl
theorem wd1257 : Cond.methodLink RL 28 yX9_fault ∈ gW := gm (tm_3 55 (by decide +kernel)) rfl
theorem wd1258 : Cond.instanceMethod yX10_fault ∈ gW := gm (tm_7 23 (by decide +kernel)) rfl
theorem wd1259 : Cond.selects RX10 yX10_fault yX10_fault ∈ gW := gm (tm_7 24 (by decide +kernel)) rfl
theorem wd1260 : Cond.code yX10_fault cX10_fault 2 (some .int) ∈ gW := gm (tm_7 25 (by decide +kernel)) rfl
theorem wd1261 : Cond.methodLink RL 31 yX10_fault ∈ gW := gm (tm_7 22 (by decide +kernel)) rfl
theorem wd1262 : Cond.instanceMethod yX9_flight ∈ gW := gm (tm_3 60 (by decide +kernel)) rfl
theorem wd1263 : Cond.selects RX9 yX9_flight yX9_flight ∈ gW := gm (tm_3 61 (by decide +kernel)) rfl
theorem wd1264 : Cond.code yX9_flight cX9_flight 3 (some .int) ∈ gW := gm (tm_3 62 (by decide +kernel)) rfl
theorem wd1265 : Cond.methodLink RL 32 yX9_flight ∈ gW := gm (tm_3 59 (by decide +kernel)) rfl
theorem wd1266 : Cond.instanceMethod yX10_flight ∈ gW := gm (tm_7 141 (by decide +kernel)) rfl
theorem wd1267 : Cond.selects RX10 yX10_flight yX10_flight ∈ gW := gm (tm_7 142 (by decide +kernel)) rfl
theorem wd1268 : Cond.code yX10_flight cX10_flight 3 (some .int) ∈ gW := gm (tm_7 143 (by decide +kernel)) rfl
theorem wd1269 : Cond.methodLink RL 36 yX10_flight ∈ gW := gm (tm_7 140 (by decide +kernel)) rfl
theorem wd1270 : Cond.instanceMethod yX9_member ∈ gW := gm (tm_3 68 (by decide +kernel)) rfl
theorem wd1271 : Cond.selects RX9 yX9_member yX9_member ∈ gW := gm (tm_3 69 (by decide +kernel)) rfl
theorem wd1272 : Cond.code yX9_member cX9_member 3 (some .int) ∈ gW := gm (tm_3 70 (by decide +kernel)) rfl
theorem wd1273 : Cond.methodLink RL 37 yX9_member ∈ gW := gm (tm_3 67 (by decide +kernel)) rfl
theorem wd1274 : Cond.instanceMethod yX10_member ∈ gW := gm (tm_7 158 (by decide +kernel)) rfl
theorem wd1275 : Cond.selects RX10 yX10_member yX10_member ∈ gW := gm (tm_7 159 (by decide +kernel)) rfl
theorem wd1276 : Cond.code yX10_member cX10_member 3 (some .int) ∈ gW := gm (tm_7 160 (by decide +kernel)) rfl
theorem wd1277 : Cond.methodLink RL 40 yX10_member ∈ gW := gm (tm_7 157 (by decide +kernel)) rfl
theorem wd1278 : Cond.instanceMethod yX9_lamps ∈ gW := gm (tm_3 76 (by decide +kernel)) rfl
theorem wd1279 : Cond.selects RX9 yX9_lamps yX9_lamps ∈ gW := gm (tm_3 77 (by decide +kernel)) rfl
theorem wd1280 : Cond.code yX9_lamps cX9_lamps 1 (some .int) ∈ gW := gm (tm_3 78 (by decide +kernel)) rfl
theorem wd1281 : Cond.methodLink RL 41 yX9_lamps ∈ gW := gm (tm_3 75 (by decide +kernel)) rfl
theorem wd1282 : Cond.instanceMethod yX10_lamps ∈ gW := gm (tm_7 170 (by decide +kernel)) rfl
theorem wd1283 : Cond.selects RX10 yX10_lamps yX10_lamps ∈ gW := gm (tm_7 171 (by decide +kernel)) rfl
theorem wd1284 : Cond.code yX10_lamps cX10_lamps 1 (some .int) ∈ gW := gm (tm_7 172 (by decide +kernel)) rfl
theorem wd1285 : Cond.methodLink RL 44 yX10_lamps ∈ gW := gm (tm_7 169 (by decide +kernel)) rfl
theorem wd1286 : Cond.instanceMethod yX9_at ∈ gW := gm (tm_3 84 (by decide +kernel)) rfl
theorem wd1287 : Cond.selects RX9 yX9_at yX9_at ∈ gW := gm (tm_3 85 (by decide +kernel)) rfl
theorem wd1288 : Cond.code yX9_at cX9_at 3 (some .int) ∈ gW := gm (tm_3 86 (by decide +kernel)) rfl
theorem wd1289 : Cond.methodLink RL 45 yX9_at ∈ gW := gm (tm_3 83 (by decide +kernel)) rfl
theorem wd1290 : Cond.instanceMethod yX10_at ∈ gW := gm (tm_7 178 (by decide +kernel)) rfl
theorem wd1291 : Cond.selects RX10 yX10_at yX10_at ∈ gW := gm (tm_7 179 (by decide +kernel)) rfl
theorem wd1292 : Cond.code yX10_at cX10_at 3 (some .int) ∈ gW := gm (tm_7 180 (by decide +kernel)) rfl
theorem wd1293 : Cond.methodLink RL 48 yX10_at ∈ gW := gm (tm_7 177 (by decide +kernel)) rfl
theorem wd1294 : Cond.instanceMethod yX9_heads ∈ gW := gm (tm_3 118 (by decide +kernel)) rfl
theorem wd1295 : Cond.selects RX9 yX9_heads yX9_heads ∈ gW := gm (tm_3 119 (by decide +kernel)) rfl
theorem wd1296 : Cond.code yX9_heads cX9_heads 3 (some .int) ∈ gW := gm (tm_3 120 (by decide +kernel)) rfl
theorem wd1297 : Cond.methodLink RL 49 yX9_heads ∈ gW := gm (tm_3 117 (by decide +kernel)) rfl
theorem wd1298 : Cond.instanceMethod yX10_heads ∈ gW := gm (tm_7 229 (by decide +kernel)) rfl
theorem wd1299 : Cond.selects RX10 yX10_heads yX10_heads ∈ gW := gm (tm_7 230 (by decide +kernel)) rfl
theorem wd1300 : Cond.code yX10_heads cX10_heads 3 (some .int) ∈ gW := gm (tm_7 231 (by decide +kernel)) rfl
theorem wd1301 : Cond.methodLink RL 52 yX10_heads ∈ gW := gm (tm_7 228 (by decide +kernel)) rfl
theorem wd1302 : Cond.instanceMethod yX9_out ∈ gW := gm (tm_3 126 (by decide +kernel)) rfl
theorem wd1303 : Cond.selects RX9 yX9_out yX9_out ∈ gW := gm (tm_3 127 (by decide +kernel)) rfl
theorem wd1304 : Cond.code yX9_out cX9_out 2 (some .int) ∈ gW := gm (tm_3 128 (by decide +kernel)) rfl
theorem wd1305 : Cond.methodLink RL 53 yX9_out ∈ gW := gm (tm_3 125 (by decide +kernel)) rfl
theorem wd1306 : Cond.instanceMethod yX10_out ∈ gW := gm (tm_7 233 (by decide +kernel)) rfl
theorem wd1307 : Cond.selects RX10 yX10_out yX10_out ∈ gW := gm (tm_7 234 (by decide +kernel)) rfl
theorem wd1308 : Cond.code yX10_out cX10_out 2 (some .int) ∈ gW := gm (tm_7 235 (by decide +kernel)) rfl
theorem wd1309 : Cond.methodLink RL 56 yX10_out ∈ gW := gm (tm_7 232 (by decide +kernel)) rfl
theorem wd1310 : Cond.instanceMethod yX9_bends ∈ gW := gm (tm_3 134 (by decide +kernel)) rfl
theorem wd1311 : Cond.selects RX9 yX9_bends yX9_bends ∈ gW := gm (tm_3 135 (by decide +kernel)) rfl
theorem wd1312 : Cond.code yX9_bends cX9_bends 2 (some .int) ∈ gW := gm (tm_3 136 (by decide +kernel)) rfl
theorem wd1313 : Cond.methodLink RL 57 yX9_bends ∈ gW := gm (tm_3 133 (by decide +kernel)) rfl
theorem wd1314 : Cond.instanceMethod yX10_bends ∈ gW := gm (tm_8 1 (by decide +kernel)) rfl
theorem wd1315 : Cond.selects RX10 yX10_bends yX10_bends ∈ gW := gm (tm_8 2 (by decide +kernel)) rfl
theorem wd1316 : Cond.code yX10_bends cX10_bends 2 (some .int) ∈ gW := gm (tm_8 3 (by decide +kernel)) rfl
theorem wd1317 : Cond.methodLink RL 60 yX10_bends ∈ gW := gm (tm_8 0 (by decide +kernel)) rfl
theorem wd1318 : Cond.instanceMethod yX9_way ∈ gW := gm (tm_3 138 (by decide +kernel)) rfl
theorem wd1319 : Cond.selects RX9 yX9_way yX9_way ∈ gW := gm (tm_3 139 (by decide +kernel)) rfl
theorem wd1320 : Cond.code yX9_way cX9_way 2 (some .int) ∈ gW := gm (tm_3 140 (by decide +kernel)) rfl
theorem wd1321 : Cond.methodLink RL 61 yX9_way ∈ gW := gm (tm_3 137 (by decide +kernel)) rfl
theorem wd1322 : Cond.instanceMethod yX10_way ∈ gW := gm (tm_8 5 (by decide +kernel)) rfl
theorem wd1323 : Cond.selects RX10 yX10_way yX10_way ∈ gW := gm (tm_8 6 (by decide +kernel)) rfl
theorem wd1324 : Cond.code yX10_way cX10_way 2 (some .int) ∈ gW := gm (tm_8 7 (by decide +kernel)) rfl
theorem wd1325 : Cond.methodLink RL 64 yX10_way ∈ gW := gm (tm_8 4 (by decide +kernel)) rfl
theorem wd1326 : Cond.instanceMethod yX9_over ∈ gW := gm (tm_3 146 (by decide +kernel)) rfl
theorem wd1327 : Cond.selects RX9 yX9_over yX9_over ∈ gW := gm (tm_3 147 (by decide +kernel)) rfl
theorem wd1328 : Cond.code yX9_over cX9_over 2 (some .int) ∈ gW := gm (tm_3 148 (by decide +kernel)) rfl
theorem wd1329 : Cond.methodLink RL 65 yX9_over ∈ gW := gm (tm_3 145 (by decide +kernel)) rfl
theorem wd1330 : Cond.instanceMethod yX10_over ∈ gW := gm (tm_8 13 (by decide +kernel)) rfl
theorem wd1331 : Cond.selects RX10 yX10_over yX10_over ∈ gW := gm (tm_8 14 (by decide +kernel)) rfl
theorem wd1332 : Cond.code yX10_over cX10_over 4 (some .int) ∈ gW := gm (tm_8 15 (by decide +kernel)) rfl
theorem wd1333 : Cond.methodLink RL 68 yX10_over ∈ gW := gm (tm_8 12 (by decide +kernel)) rfl
theorem wd1334 : Cond.instanceMethod yX9_geese ∈ gW := gm (tm_3 158 (by decide +kernel)) rfl
theorem wd1335 : Cond.selects RX9 yX9_geese yX9_geese ∈ gW := gm (tm_3 159 (by decide +kernel)) rfl
theorem wd1336 : Cond.code yX9_geese cX9_geese 3 (some .int) ∈ gW := gm (tm_3 160 (by decide +kernel)) rfl
theorem wd1337 : Cond.methodLink RL 69 yX9_geese ∈ gW := gm (tm_3 157 (by decide +kernel)) rfl
theorem wd1338 : Cond.instanceMethod yX10_geese ∈ gW := gm (tm_8 21 (by decide +kernel)) rfl
theorem wd1339 : Cond.selects RX10 yX10_geese yX10_geese ∈ gW := gm (tm_8 22 (by decide +kernel)) rfl
theorem wd1340 : Cond.code yX10_geese cX10_geese 5 (some .int) ∈ gW := gm (tm_8 23 (by decide +kernel)) rfl
theorem wd1341 : Cond.methodLink RL 72 yX10_geese ∈ gW := gm (tm_8 20 (by decide +kernel)) rfl
theorem my_X9_feed : gWV RX9 yX9_feed cX9_feed 6 (some .int) 5 := ⟨⟨wd1230, wd1231, wd2, wd1232⟩, ⟨rfl, by decide +kernel, by decide +kernel, by decide +kernel⟩⟩
theorem my_X10_feed : gWV RX10 yX10_feed cX10_feed 6 (some .int) 5 := ⟨⟨wd1234, wd1235, wd742, wd1236⟩, ⟨rfl, by decide +kernel, by decide +kernel, by decide +kernel⟩⟩
theorem my_X9_end : gWV RX9 yX9_end cX9_end 2 (some .int) 1 := ⟨⟨wd1238, wd1239, wd2, wd1240⟩, ⟨rfl, by decide +kernel, by decide +kernel, by decide +kernel⟩⟩
theorem my_X10_end : gWV RX10 yX10_end cX10_end 2 (some .int) 1 := ⟨⟨wd1242, wd1243, wd742, wd1244⟩, ⟨rfl, by decide +kernel, by decide +kernel, by decide +kernel⟩⟩
theorem my_X9_land : gWV RX9 yX9_land cX9_land 1 (some .int) 0 := ⟨⟨wd1246, wd1247, wd2, wd1248⟩, ⟨rfl, by decide +kernel, by decide +kernel, by decide +kernel⟩⟩
theorem my_X10_land : gWV RX10 yX10_land cX10_land 1 (some .int) 0 := ⟨⟨wd1250, wd1251, wd742, wd1252⟩, ⟨rfl, by decide +kernel, by decide +kernel, by decide +kernel⟩⟩
theorem my_X9_fault : gWV RX9 yX9_fault cX9_fault 2 (some .int) 1 := ⟨⟨wd1254, wd1255, wd2, wd1256⟩, ⟨rfl, by decide +kernel, by decide +kernel, by decide +kernel⟩⟩
theorem my_X10_fault : gWV RX10 yX10_fault cX10_fault 2 (some .int) 1 := ⟨⟨wd1258, wd1259, wd742, wd1260⟩, ⟨rfl, by decide +kernel, by decide +kernel, by decide +kernel⟩⟩
theorem my_X9_flight : gWV RX9 yX9_flight cX9_flight 3 (some .int) 2 := ⟨⟨wd1262, wd1263, wd2, wd1264⟩, ⟨rfl, by decide +kernel, by decide +kernel, by decide +kernel⟩⟩
theorem my_X10_flight : gWV RX10 yX10_flight cX10_flight 3 (some .int) 2 := ⟨⟨wd1266, wd1267, wd742, wd1268⟩, ⟨rfl, by decide +kernel, by decide +kernel, by decide +kernel⟩⟩
theorem my_X9_member : gWV RX9 yX9_member cX9_member 3 (some .int) 2 := ⟨⟨wd1270, wd1271, wd2, wd1272⟩, ⟨rfl, by decide +kernel, by decide +kernel, by decide +kernel⟩⟩
theorem my_X10_member : gWV RX10 yX10_member cX10_member 3 (some .int) 2 := ⟨⟨wd1274, wd1275, wd742, wd1276⟩, ⟨rfl, by decide +kernel, by decide +kernel, by decide +kernel⟩⟩
theorem my_X9_lamps : gWV RX9 yX9_lamps cX9_lamps 1 (some .int) 0 := ⟨⟨wd1278, wd1279, wd2, wd1280⟩, ⟨rfl, by decide +kernel, by decide +kernel, by decide +kernel⟩⟩
theorem my_X10_lamps : gWV RX10 yX10_lamps cX10_lamps 1 (some .int) 0 := ⟨⟨wd1282, wd1283, wd742, wd1284⟩, ⟨rfl, by decide +kernel, by decide +kernel, by decide +kernel⟩⟩
theorem my_X9_at : gWV RX9 yX9_at cX9_at 3 (some .int) 2 := ⟨⟨wd1286, wd1287, wd2, wd1288⟩, ⟨rfl, by decide +kernel, by decide +kernel, by decide +kernel⟩⟩
theorem my_X10_at : gWV RX10 yX10_at cX10_at 3 (some .int) 2 := ⟨⟨wd1290, wd1291, wd742, wd1292⟩, ⟨rfl, by decide +kernel, by decide +kernel, by decide +kernel⟩⟩
theorem my_X9_heads : gWV RX9 yX9_heads cX9_heads 3 (some .int) 2 := ⟨⟨wd1294, wd1295, wd2, wd1296⟩, ⟨rfl, by decide +kernel, by decide +kernel, by decide +kernel⟩⟩
theorem my_X10_heads : gWV RX10 yX10_heads cX10_heads 3 (some .int) 2 := ⟨⟨wd1298, wd1299, wd742, wd1300⟩, ⟨rfl, by decide +kernel, by decide +kernel, by decide +kernel⟩⟩
theorem my_X9_out : gWV RX9 yX9_out cX9_out 2 (some .int) 1 := ⟨⟨wd1302, wd1303, wd2, wd1304⟩, ⟨rfl, by decide +kernel, by decide +kernel, by decide +kernel⟩⟩
theorem my_X10_out : gWV RX10 yX10_out cX10_out 2 (some .int) 1 := ⟨⟨wd1306, wd1307, wd742, wd1308⟩, ⟨rfl, by decide +kernel, by decide +kernel, by decide +kernel⟩⟩
theorem my_X9_bends : gWV RX9 yX9_bends cX9_bends 2 (some .int) 1 := ⟨⟨wd1310, wd1311, wd2, wd1312⟩, ⟨rfl, by decide +kernel, by decide +kernel, by decide +kernel⟩⟩
theorem my_X10_bends : gWV RX10 yX10_bends cX10_bends 2 (some .int) 1 := ⟨⟨wd1314, wd1315, wd742, wd1316⟩, ⟨rfl, by decide +kernel, by decide +kernel, by decide +kernel⟩⟩
theorem my_X9_way : gWV RX9 yX9_way cX9_way 2 (some .int) 1 := ⟨⟨wd1318, wd1319, wd2, wd1320⟩, ⟨rfl, by decide +kernel, by decide +kernel, by decide +kernel⟩⟩
theorem my_X10_way : gWV RX10 yX10_way cX10_way 2 (some .int) 1 := ⟨⟨wd1322, wd1323, wd742, wd1324⟩, ⟨rfl, by decide +kernel, by decide +kernel, by decide +kernel⟩⟩
theorem my_X9_over : gWV RX9 yX9_over cX9_over 2 (some .int) 1 := ⟨⟨wd1326, wd1327, wd2, wd1328⟩, ⟨rfl, by decide +kernel, by decide +kernel, by decide +kernel⟩⟩
theorem my_X10_over : gWV RX10 yX10_over cX10_over 4 (some .int) 1 := ⟨⟨wd1330, wd1331, wd742, wd1332⟩, ⟨rfl, by decide +kernel, by decide +kernel, by decide +kernel⟩⟩
theorem my_X9_geese : gWV RX9 yX9_geese cX9_geese 3 (some .int) 2 := ⟨⟨wd1334, wd1335, wd2, wd1336⟩, ⟨rfl, by decide +kernel, by decide +kernel, by decide +kernel⟩⟩
theorem my_X10_geese : gWV RX10 yX10_geese cX10_geese 5 (some .int) 2 := ⟨⟨wd1338, wd1339, wd742, wd1340⟩, ⟨rfl, by decide +kernel, by decide +kernel, by decide +kernel⟩⟩
