theorem d_LA_law_324 : decode code 324 = .ok (.ireturn, 1) := by decide +kernel
theorem d_LA_law_325 : decode code 325 = .ok (.aload_n 1, 1) := by decide +kernel
theorem d_LA_law_326 : decode code 326 = .ok (.aload_n 0, 1) := by decide +kernel
theorem d_LA_law_327 : decode code 327 = .ok (.iload 4, 2) := by decide +kernel
theorem d_LA_law_329 : decode code 329 = .ok (.iconst 1, 1) := by decide +kernel
theorem d_LA_law_330 : decode code 330 = .ok (.iadd, 1) := by decide +kernel
theorem d_LA_law_331 : decode code 331 = .ok (.iaload, 1) := by decide +kernel
theorem d_LA_law_332 : decode code 332 = .ok (.aload_n 3, 1) := by decide +kernel
theorem d_LA_law_333 : decode code 333 = .ok (.invokestatic 81, 3) := by decide +kernel
theorem d_LA_law_336 : decode code 336 = .ok (.istore 5, 2) := by decide +kernel
theorem d_LA_law_338 : decode code 338 = .ok (.aload_n 2, 1) := by decide +kernel
theorem d_LA_law_339 : decode code 339 = .ok (.aload_n 0, 1) := by decide +kernel
theorem d_LA_law_340 : decode code 340 = .ok (.iload 4, 2) := by decide +kernel
theorem d_LA_law_342 : decode code 342 = .ok (.iconst 1, 1) := by decide +kernel
theorem d_LA_law_343 : decode code 343 = .ok (.iadd, 1) := by decide +kernel
theorem d_LA_law_344 : decode code 344 = .ok (.iaload, 1) := by decide +kernel
theorem d_LA_law_345 : decode code 345 = .ok (.invokevirtual 84, 3) := by decide +kernel
theorem d_LA_law_348 : decode code 348 = .ok (.istore 6, 2) := by decide +kernel
theorem d_LA_law_350 : decode code 350 = .ok (.aload_n 2, 1) := by decide +kernel
theorem d_LA_law_351 : decode code 351 = .ok (.invokevirtual 66, 3) := by decide +kernel
theorem d_LA_law_354 : decode code 354 = .ok (.iload 5, 2) := by decide +kernel
theorem d_LA_law_356 : decode code 356 = .ok (.if_icmp .eq (5), 3) := by decide +kernel
theorem d_LA_law_359 : decode code 359 = .ok (.iconst 0, 1) := by decide +kernel
theorem d_LA_law_360 : decode code 360 = .ok (.ireturn, 1) := by decide +kernel
theorem d_LA_law_361 : decode code 361 = .ok (.iload 5, 2) := by decide +kernel
theorem d_LA_law_363 : decode code 363 = .ok (.ifCond .ne (15), 3) := by decide +kernel
theorem d_LA_law_366 : decode code 366 = .ok (.aload_n 3, 1) := by decide +kernel
theorem d_LA_law_367 : decode code 367 = .ok (.iconst 0, 1) := by decide +kernel
theorem d_LA_law_368 : decode code 368 = .ok (.laload, 1) := by decide +kernel
theorem d_LA_law_369 : decode code 369 = .ok (.iload 6, 2) := by decide +kernel
theorem d_LA_law_371 : decode code 371 = .ok (.i2l, 1) := by decide +kernel
theorem d_LA_law_372 : decode code 372 = .ok (.lcmp, 1) := by decide +kernel
theorem d_LA_law_373 : decode code 373 = .ok (.ifCond .eq (5), 3) := by decide +kernel
theorem d_LA_law_376 : decode code 376 = .ok (.iconst 0, 1) := by decide +kernel
theorem d_LA_law_377 : decode code 377 = .ok (.ireturn, 1) := by decide +kernel
theorem d_LA_law_378 : decode code 378 = .ok (.goto (455), 3) := by decide +kernel
theorem d_LA_law_381 : decode code 381 = .ok (.aload_n 1, 1) := by decide +kernel
theorem d_LA_law_382 : decode code 382 = .ok (.aload_n 3, 1) := by decide +kernel
theorem d_LA_law_383 : decode code 383 = .ok (.invokestatic 85, 3) := by decide +kernel
theorem d_LA_law_386 : decode code 386 = .ok (.istore 5, 2) := by decide +kernel
theorem d_LA_law_388 : decode code 388 = .ok (.aload_n 2, 1) := by decide +kernel
theorem d_LA_law_389 : decode code 389 = .ok (.invokevirtual 88, 3) := by decide +kernel
theorem d_LA_law_392 : decode code 392 = .ok (.istore 6, 2) := by decide +kernel
theorem d_LA_law_394 : decode code 394 = .ok (.aload_n 2, 1) := by decide +kernel
theorem d_LA_law_395 : decode code 395 = .ok (.invokevirtual 66, 3) := by decide +kernel
theorem d_LA_law_398 : decode code 398 = .ok (.iload 5, 2) := by decide +kernel
theorem d_LA_law_400 : decode code 400 = .ok (.if_icmp .eq (5), 3) := by decide +kernel
theorem d_LA_law_403 : decode code 403 = .ok (.iconst 0, 1) := by decide +kernel
theorem d_LA_law_404 : decode code 404 = .ok (.ireturn, 1) := by decide +kernel
theorem d_LA_law_405 : decode code 405 = .ok (.iload 5, 2) := by decide +kernel
theorem d_LA_law_407 : decode code 407 = .ok (.ifCond .ne (15), 3) := by decide +kernel
theorem d_LA_law_410 : decode code 410 = .ok (.aload_n 3, 1) := by decide +kernel
theorem d_LA_law_411 : decode code 411 = .ok (.iconst 0, 1) := by decide +kernel
theorem d_LA_law_412 : decode code 412 = .ok (.laload, 1) := by decide +kernel
theorem d_LA_law_413 : decode code 413 = .ok (.iload 6, 2) := by decide +kernel
theorem d_LA_law_415 : decode code 415 = .ok (.i2l, 1) := by decide +kernel
theorem d_LA_law_416 : decode code 416 = .ok (.lcmp, 1) := by decide +kernel
theorem d_LA_law_417 : decode code 417 = .ok (.ifCond .eq (5), 3) := by decide +kernel
theorem d_LA_law_420 : decode code 420 = .ok (.iconst 0, 1) := by decide +kernel
theorem d_LA_law_421 : decode code 421 = .ok (.ireturn, 1) := by decide +kernel
theorem d_LA_law_422 : decode code 422 = .ok (.goto (411), 3) := by decide +kernel
theorem d_LA_law_425 : decode code 425 = .ok (.aload_n 1, 1) := by decide +kernel
theorem d_LA_law_426 : decode code 426 = .ok (.aload_n 0, 1) := by decide +kernel
theorem d_LA_law_427 : decode code 427 = .ok (.iload 4, 2) := by decide +kernel
theorem d_LA_law_429 : decode code 429 = .ok (.iconst 1, 1) := by decide +kernel
theorem d_LA_law_430 : decode code 430 = .ok (.iadd, 1) := by decide +kernel
theorem d_LA_law_431 : decode code 431 = .ok (.iaload, 1) := by decide +kernel
theorem d_LA_law_432 : decode code 432 = .ok (.aload_n 0, 1) := by decide +kernel
theorem d_LA_law_433 : decode code 433 = .ok (.iload 4, 2) := by decide +kernel
theorem d_LA_law_435 : decode code 435 = .ok (.iconst 2, 1) := by decide +kernel
theorem d_LA_law_436 : decode code 436 = .ok (.iadd, 1) := by decide +kernel
theorem d_LA_law_437 : decode code 437 = .ok (.iaload, 1) := by decide +kernel
theorem d_LA_law_438 : decode code 438 = .ok (.aload_n 0, 1) := by decide +kernel
theorem d_LA_law_439 : decode code 439 = .ok (.iload 4, 2) := by decide +kernel
theorem d_LA_law_441 : decode code 441 = .ok (.iconst 3, 1) := by decide +kernel
theorem d_LA_law_442 : decode code 442 = .ok (.iadd, 1) := by decide +kernel
theorem d_LA_law_443 : decode code 443 = .ok (.iaload, 1) := by decide +kernel
theorem d_LA_law_444 : decode code 444 = .ok (.aload_n 3, 1) := by decide +kernel
theorem d_LA_law_445 : decode code 445 = .ok (.invokestatic 89, 3) := by decide +kernel
theorem d_LA_law_448 : decode code 448 = .ok (.istore 5, 2) := by decide +kernel
theorem d_LA_law_450 : decode code 450 = .ok (.aload_n 2, 1) := by decide +kernel
theorem d_LA_law_451 : decode code 451 = .ok (.aload_n 0, 1) := by decide +kernel
theorem d_LA_law_452 : decode code 452 = .ok (.iload 4, 2) := by decide +kernel
theorem d_LA_law_454 : decode code 454 = .ok (.iconst 1, 1) := by decide +kernel
theorem d_LA_law_455 : decode code 455 = .ok (.iadd, 1) := by decide +kernel
theorem d_LA_law_456 : decode code 456 = .ok (.iaload, 1) := by decide +kernel
theorem d_LA_law_457 : decode code 457 = .ok (.aload_n 0, 1) := by decide +kernel
theorem d_LA_law_458 : decode code 458 = .ok (.iload 4, 2) := by decide +kernel
theorem d_LA_law_460 : decode code 460 = .ok (.iconst 2, 1) := by decide +kernel
theorem d_LA_law_461 : decode code 461 = .ok (.iadd, 1) := by decide +kernel
theorem d_LA_law_462 : decode code 462 = .ok (.iaload, 1) := by decide +kernel
theorem d_LA_law_463 : decode code 463 = .ok (.aload_n 0, 1) := by decide +kernel
theorem d_LA_law_464 : decode code 464 = .ok (.iload 4, 2) := by decide +kernel
theorem d_LA_law_466 : decode code 466 = .ok (.iconst 3, 1) := by decide +kernel
theorem d_LA_law_467 : decode code 467 = .ok (.iadd, 1) := by decide +kernel
theorem d_LA_law_468 : decode code 468 = .ok (.iaload, 1) := by decide +kernel
theorem d_LA_law_469 : decode code 469 = .ok (.invokevirtual 92, 3) := by decide +kernel
theorem d_LA_law_472 : decode code 472 = .ok (.istore 6, 2) := by decide +kernel
theorem d_LA_law_474 : decode code 474 = .ok (.aload_n 2, 1) := by decide +kernel
theorem d_LA_law_475 : decode code 475 = .ok (.invokevirtual 66, 3) := by decide +kernel
theorem d_LA_law_478 : decode code 478 = .ok (.iload 5, 2) := by decide +kernel
theorem d_LA_law_480 : decode code 480 = .ok (.if_icmp .eq (5), 3) := by decide +kernel
theorem d_LA_law_483 : decode code 483 = .ok (.iconst 0, 1) := by decide +kernel
theorem d_LA_law_484 : decode code 484 = .ok (.ireturn, 1) := by decide +kernel
theorem d_LA_law_485 : decode code 485 = .ok (.iload 5, 2) := by decide +kernel
theorem d_LA_law_487 : decode code 487 = .ok (.ifCond .ne (15), 3) := by decide +kernel
theorem d_LA_law_490 : decode code 490 = .ok (.aload_n 3, 1) := by decide +kernel
theorem d_LA_law_491 : decode code 491 = .ok (.iconst 0, 1) := by decide +kernel
theorem d_LA_law_492 : decode code 492 = .ok (.laload, 1) := by decide +kernel
theorem d_LA_law_493 : decode code 493 = .ok (.iload 6, 2) := by decide +kernel
theorem d_LA_law_495 : decode code 495 = .ok (.i2l, 1) := by decide +kernel
theorem d_LA_law_496 : decode code 496 = .ok (.lcmp, 1) := by decide +kernel
theorem d_LA_law_497 : decode code 497 = .ok (.ifCond .eq (5), 3) := by decide +kernel
theorem d_LA_law_500 : decode code 500 = .ok (.iconst 0, 1) := by decide +kernel
theorem d_LA_law_501 : decode code 501 = .ok (.ireturn, 1) := by decide +kernel
theorem d_LA_law_502 : decode code 502 = .ok (.goto (331), 3) := by decide +kernel
theorem d_LA_law_505 : decode code 505 = .ok (.aload_n 1, 1) := by decide +kernel
theorem d_LA_law_506 : decode code 506 = .ok (.aload_n 0, 1) := by decide +kernel
theorem d_LA_law_507 : decode code 507 = .ok (.iload 4, 2) := by decide +kernel
theorem d_LA_law_509 : decode code 509 = .ok (.iconst 1, 1) := by decide +kernel
theorem d_LA_law_510 : decode code 510 = .ok (.iadd, 1) := by decide +kernel
theorem d_LA_law_511 : decode code 511 = .ok (.iaload, 1) := by decide +kernel
theorem d_LA_law_512 : decode code 512 = .ok (.aload_n 3, 1) := by decide +kernel
theorem d_LA_law_513 : decode code 513 = .ok (.invokestatic 93, 3) := by decide +kernel
theorem d_LA_law_516 : decode code 516 = .ok (.istore 5, 2) := by decide +kernel
theorem d_LA_law_518 : decode code 518 = .ok (.aload_n 2, 1) := by decide +kernel
theorem d_LA_law_519 : decode code 519 = .ok (.aload_n 0, 1) := by decide +kernel
theorem d_LA_law_520 : decode code 520 = .ok (.iload 4, 2) := by decide +kernel
theorem d_LA_law_522 : decode code 522 = .ok (.iconst 1, 1) := by decide +kernel
theorem d_LA_law_523 : decode code 523 = .ok (.iadd, 1) := by decide +kernel
theorem d_LA_law_524 : decode code 524 = .ok (.iaload, 1) := by decide +kernel
theorem d_LA_law_525 : decode code 525 = .ok (.invokevirtual 95, 3) := by decide +kernel
theorem d_LA_law_528 : decode code 528 = .ok (.istore 6, 2) := by decide +kernel
theorem d_LA_law_530 : decode code 530 = .ok (.aload_n 2, 1) := by decide +kernel
theorem d_LA_law_531 : decode code 531 = .ok (.invokevirtual 66, 3) := by decide +kernel
theorem d_LA_law_534 : decode code 534 = .ok (.iload 5, 2) := by decide +kernel
theorem d_LA_law_536 : decode code 536 = .ok (.if_icmp .eq (5), 3) := by decide +kernel
theorem d_LA_law_539 : decode code 539 = .ok (.iconst 0, 1) := by decide +kernel
theorem d_LA_law_540 : decode code 540 = .ok (.ireturn, 1) := by decide +kernel
theorem d_LA_law_541 : decode code 541 = .ok (.iload 5, 2) := by decide +kernel
theorem d_LA_law_543 : decode code 543 = .ok (.ifCond .ne (15), 3) := by decide +kernel
theorem d_LA_law_546 : decode code 546 = .ok (.aload_n 3, 1) := by decide +kernel
theorem d_LA_law_547 : decode code 547 = .ok (.iconst 0, 1) := by decide +kernel
theorem d_LA_law_548 : decode code 548 = .ok (.laload, 1) := by decide +kernel
theorem d_LA_law_549 : decode code 549 = .ok (.iload 6, 2) := by decide +kernel
theorem d_LA_law_551 : decode code 551 = .ok (.i2l, 1) := by decide +kernel
theorem d_LA_law_552 : decode code 552 = .ok (.lcmp, 1) := by decide +kernel
theorem d_LA_law_553 : decode code 553 = .ok (.ifCond .eq (5), 3) := by decide +kernel
theorem d_LA_law_556 : decode code 556 = .ok (.iconst 0, 1) := by decide +kernel
theorem d_LA_law_557 : decode code 557 = .ok (.ireturn, 1) := by decide +kernel
theorem d_LA_law_558 : decode code 558 = .ok (.goto (275), 3) := by decide +kernel
theorem d_LA_law_561 : decode code 561 = .ok (.aload_n 1, 1) := by decide +kernel
theorem d_LA_law_562 : decode code 562 = .ok (.aload_n 0, 1) := by decide +kernel
theorem d_LA_law_563 : decode code 563 = .ok (.iload 4, 2) := by decide +kernel
theorem d_LA_law_565 : decode code 565 = .ok (.iconst 1, 1) := by decide +kernel
theorem d_LA_law_566 : decode code 566 = .ok (.iadd, 1) := by decide +kernel
theorem d_LA_law_567 : decode code 567 = .ok (.iaload, 1) := by decide +kernel
theorem d_LA_law_568 : decode code 568 = .ok (.aload_n 0, 1) := by decide +kernel
theorem d_LA_law_569 : decode code 569 = .ok (.iload 4, 2) := by decide +kernel
theorem d_LA_law_571 : decode code 571 = .ok (.iconst 2, 1) := by decide +kernel
theorem d_LA_law_572 : decode code 572 = .ok (.iadd, 1) := by decide +kernel
theorem d_LA_law_573 : decode code 573 = .ok (.iaload, 1) := by decide +kernel
theorem d_LA_law_574 : decode code 574 = .ok (.aload_n 3, 1) := by decide +kernel
theorem d_LA_law_575 : decode code 575 = .ok (.invokestatic 96, 3) := by decide +kernel
theorem d_LA_law_578 : decode code 578 = .ok (.istore 5, 2) := by decide +kernel
theorem d_LA_law_580 : decode code 580 = .ok (.aload_n 2, 1) := by decide +kernel
theorem d_LA_law_581 : decode code 581 = .ok (.aload_n 0, 1) := by decide +kernel
theorem d_LA_law_582 : decode code 582 = .ok (.iload 4, 2) := by decide +kernel
theorem d_LA_law_584 : decode code 584 = .ok (.iconst 1, 1) := by decide +kernel
theorem d_LA_law_585 : decode code 585 = .ok (.iadd, 1) := by decide +kernel
