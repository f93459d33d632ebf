theorem dL_areLaid_297 : decode cL_areLaid 297 = .ok (.goto (-62), 3) := by decide +kernel
theorem dL_areLaid_300 : decode cL_areLaid 300 = .ok (.iload 11, 2) := by decide +kernel
theorem dL_areLaid_302 : decode cL_areLaid 302 = .ok (.ifCond .ne 5, 3) := by decide +kernel
theorem dL_areLaid_305 : decode cL_areLaid 305 = .ok (.iconst 0, 1) := by decide +kernel
theorem dL_areLaid_306 : decode cL_areLaid 306 = .ok (.ireturn, 1) := by decide +kernel
theorem dL_areLaid_307 : decode cL_areLaid 307 = .ok (.iinc 6 1, 3) := by decide +kernel
theorem dL_areLaid_310 : decode cL_areLaid 310 = .ok (.goto (-297), 3) := by decide +kernel
theorem dL_areLaid_313 : decode cL_areLaid 313 = .ok (.iconst 0, 1) := by decide +kernel
theorem dL_areLaid_314 : decode cL_areLaid 314 = .ok (.istore 6, 2) := by decide +kernel
theorem dL_areLaid_316 : decode cL_areLaid 316 = .ok (.iload 6, 2) := by decide +kernel
theorem dL_areLaid_318 : decode cL_areLaid 318 = .ok (.aload 4, 2) := by decide +kernel
theorem dL_areLaid_320 : decode cL_areLaid 320 = .ok (.invokestatic 100, 3) := by decide +kernel
theorem dL_areLaid_323 : decode cL_areLaid 323 = .ok (.if_icmp .ge 27, 3) := by decide +kernel
theorem dL_areLaid_326 : decode cL_areLaid 326 = .ok (.aload_n 0, 1) := by decide +kernel
theorem dL_areLaid_327 : decode cL_areLaid 327 = .ok (.iload 6, 2) := by decide +kernel
theorem dL_areLaid_329 : decode cL_areLaid 329 = .ok (.invokestatic 131, 3) := by decide +kernel
theorem dL_areLaid_332 : decode cL_areLaid 332 = .ok (.iload 5, 2) := by decide +kernel
theorem dL_areLaid_334 : decode cL_areLaid 334 = .ok (.iload 6, 2) := by decide +kernel
theorem dL_areLaid_336 : decode cL_areLaid 336 = .ok (.ishr, 1) := by decide +kernel
theorem dL_areLaid_337 : decode cL_areLaid 337 = .ok (.iconst 1, 1) := by decide +kernel
theorem dL_areLaid_338 : decode cL_areLaid 338 = .ok (.iand, 1) := by decide +kernel
theorem dL_areLaid_339 : decode cL_areLaid 339 = .ok (.if_icmp .eq 5, 3) := by decide +kernel
theorem dL_areLaid_342 : decode cL_areLaid 342 = .ok (.iconst 0, 1) := by decide +kernel
theorem dL_areLaid_343 : decode cL_areLaid 343 = .ok (.ireturn, 1) := by decide +kernel
theorem dL_areLaid_344 : decode cL_areLaid 344 = .ok (.iinc 6 1, 3) := by decide +kernel
theorem dL_areLaid_347 : decode cL_areLaid 347 = .ok (.goto (-31), 3) := by decide +kernel
theorem dL_areLaid_350 : decode cL_areLaid 350 = .ok (.iconst 0, 1) := by decide +kernel
theorem dL_areLaid_351 : decode cL_areLaid 351 = .ok (.istore 6, 2) := by decide +kernel
theorem dL_areLaid_353 : decode cL_areLaid 353 = .ok (.iload 6, 2) := by decide +kernel
theorem dL_areLaid_355 : decode cL_areLaid 355 = .ok (.bipush 8, 2) := by decide +kernel
theorem dL_areLaid_357 : decode cL_areLaid 357 = .ok (.if_icmp .ge 36, 3) := by decide +kernel
theorem dL_areLaid_360 : decode cL_areLaid 360 = .ok (.aload_n 0, 1) := by decide +kernel
theorem dL_areLaid_361 : decode cL_areLaid 361 = .ok (.iload 6, 2) := by decide +kernel
theorem dL_areLaid_363 : decode cL_areLaid 363 = .ok (.invokestatic 133, 3) := by decide +kernel
theorem dL_areLaid_366 : decode cL_areLaid 366 = .ok (.aload_n 3, 1) := by decide +kernel
theorem dL_areLaid_367 : decode cL_areLaid 367 = .ok (.aload 4, 2) := by decide +kernel
theorem dL_areLaid_369 : decode cL_areLaid 369 = .ok (.iload 6, 2) := by decide +kernel
theorem dL_areLaid_371 : decode cL_areLaid 371 = .ok (.invokestatic 94, 3) := by decide +kernel
theorem dL_areLaid_374 : decode cL_areLaid 374 = .ok (.ifCond .eq 7, 3) := by decide +kernel
theorem dL_areLaid_377 : decode cL_areLaid 377 = .ok (.iconst 1, 1) := by decide +kernel
theorem dL_areLaid_378 : decode cL_areLaid 378 = .ok (.goto 4, 3) := by decide +kernel
theorem dL_areLaid_381 : decode cL_areLaid 381 = .ok (.iconst 0, 1) := by decide +kernel
theorem dL_areLaid_382 : decode cL_areLaid 382 = .ok (.if_icmp .eq 5, 3) := by decide +kernel
theorem dL_areLaid_385 : decode cL_areLaid 385 = .ok (.iconst 0, 1) := by decide +kernel
theorem dL_areLaid_386 : decode cL_areLaid 386 = .ok (.ireturn, 1) := by decide +kernel
theorem dL_areLaid_387 : decode cL_areLaid 387 = .ok (.iinc 6 1, 3) := by decide +kernel
theorem dL_areLaid_390 : decode cL_areLaid 390 = .ok (.goto (-37), 3) := by decide +kernel
theorem dL_areLaid_393 : decode cL_areLaid 393 = .ok (.aload_n 0, 1) := by decide +kernel
theorem dL_areLaid_394 : decode cL_areLaid 394 = .ok (.invokevirtual 135, 3) := by decide +kernel
theorem dL_areLaid_397 : decode cL_areLaid 397 = .ok (.aload 4, 2) := by decide +kernel
theorem dL_areLaid_399 : decode cL_areLaid 399 = .ok (.iconst 0, 1) := by decide +kernel
theorem dL_areLaid_400 : decode cL_areLaid 400 = .ok (.iaload, 1) := by decide +kernel
theorem dL_areLaid_401 : decode cL_areLaid 401 = .ok (.if_icmp .ne 212, 3) := by decide +kernel
theorem dL_areLaid_404 : decode cL_areLaid 404 = .ok (.aload_n 0, 1) := by decide +kernel
theorem dL_areLaid_405 : decode cL_areLaid 405 = .ok (.invokevirtual 138, 3) := by decide +kernel
theorem dL_areLaid_408 : decode cL_areLaid 408 = .ok (.aload 4, 2) := by decide +kernel
theorem dL_areLaid_410 : decode cL_areLaid 410 = .ok (.iconst 2, 1) := by decide +kernel
theorem dL_areLaid_411 : decode cL_areLaid 411 = .ok (.iaload, 1) := by decide +kernel
theorem dL_areLaid_412 : decode cL_areLaid 412 = .ok (.if_icmp .ne 201, 3) := by decide +kernel
theorem dL_areLaid_415 : decode cL_areLaid 415 = .ok (.aload_n 0, 1) := by decide +kernel
theorem dL_areLaid_416 : decode cL_areLaid 416 = .ok (.invokevirtual 141, 3) := by decide +kernel
theorem dL_areLaid_419 : decode cL_areLaid 419 = .ok (.aload 4, 2) := by decide +kernel
theorem dL_areLaid_421 : decode cL_areLaid 421 = .ok (.invokestatic 100, 3) := by decide +kernel
theorem dL_areLaid_424 : decode cL_areLaid 424 = .ok (.if_icmp .ne 189, 3) := by decide +kernel
theorem dL_areLaid_427 : decode cL_areLaid 427 = .ok (.aload_n 0, 1) := by decide +kernel
theorem dL_areLaid_428 : decode cL_areLaid 428 = .ok (.invokevirtual 143, 3) := by decide +kernel
theorem dL_areLaid_431 : decode cL_areLaid 431 = .ok (.aload_n 0, 1) := by decide +kernel
theorem dL_areLaid_432 : decode cL_areLaid 432 = .ok (.invokevirtual 115, 3) := by decide +kernel
theorem dL_areLaid_435 : decode cL_areLaid 435 = .ok (.imul, 1) := by decide +kernel
theorem dL_areLaid_436 : decode cL_areLaid 436 = .ok (.aload 4, 2) := by decide +kernel
theorem dL_areLaid_438 : decode cL_areLaid 438 = .ok (.iconst 3, 1) := by decide +kernel
theorem dL_areLaid_439 : decode cL_areLaid 439 = .ok (.iaload, 1) := by decide +kernel
theorem dL_areLaid_440 : decode cL_areLaid 440 = .ok (.if_icmp .ne 173, 3) := by decide +kernel
theorem dL_areLaid_443 : decode cL_areLaid 443 = .ok (.aload_n 0, 1) := by decide +kernel
theorem dL_areLaid_444 : decode cL_areLaid 444 = .ok (.invokevirtual 146, 3) := by decide +kernel
theorem dL_areLaid_447 : decode cL_areLaid 447 = .ok (.aload 4, 2) := by decide +kernel
theorem dL_areLaid_449 : decode cL_areLaid 449 = .ok (.iconst 4, 1) := by decide +kernel
theorem dL_areLaid_450 : decode cL_areLaid 450 = .ok (.iaload, 1) := by decide +kernel
theorem dL_areLaid_451 : decode cL_areLaid 451 = .ok (.if_icmp .ne 162, 3) := by decide +kernel
theorem dL_areLaid_454 : decode cL_areLaid 454 = .ok (.aload_n 0, 1) := by decide +kernel
theorem dL_areLaid_455 : decode cL_areLaid 455 = .ok (.aload 4, 2) := by decide +kernel
theorem dL_areLaid_457 : decode cL_areLaid 457 = .ok (.invokestatic 100, 3) := by decide +kernel
theorem dL_areLaid_460 : decode cL_areLaid 460 = .ok (.invokestatic 131, 3) := by decide +kernel
theorem dL_areLaid_463 : decode cL_areLaid 463 = .ok (.ldc 18, 2) := by decide +kernel
theorem dL_areLaid_465 : decode cL_areLaid 465 = .ok (.if_icmp .ne 148, 3) := by decide +kernel
theorem dL_areLaid_468 : decode cL_areLaid 468 = .ok (.aload_n 0, 1) := by decide +kernel
theorem dL_areLaid_469 : decode cL_areLaid 469 = .ok (.aload 4, 2) := by decide +kernel
theorem dL_areLaid_471 : decode cL_areLaid 471 = .ok (.iconst 0, 1) := by decide +kernel
theorem dL_areLaid_472 : decode cL_areLaid 472 = .ok (.iaload, 1) := by decide +kernel
theorem dL_areLaid_473 : decode cL_areLaid 473 = .ok (.invokestatic 112, 3) := by decide +kernel
theorem dL_areLaid_476 : decode cL_areLaid 476 = .ok (.ldc 18, 2) := by decide +kernel
theorem dL_areLaid_478 : decode cL_areLaid 478 = .ok (.if_icmp .ne 135, 3) := by decide +kernel
theorem dL_areLaid_481 : decode cL_areLaid 481 = .ok (.aload_n 0, 1) := by decide +kernel
theorem dL_areLaid_482 : decode cL_areLaid 482 = .ok (.iconst (-1), 1) := by decide +kernel
theorem dL_areLaid_483 : decode cL_areLaid 483 = .ok (.invokestatic 126, 3) := by decide +kernel
theorem dL_areLaid_486 : decode cL_areLaid 486 = .ok (.ldc 18, 2) := by decide +kernel
theorem dL_areLaid_488 : decode cL_areLaid 488 = .ok (.if_icmp .ne 125, 3) := by decide +kernel
theorem dL_areLaid_491 : decode cL_areLaid 491 = .ok (.aload_n 0, 1) := by decide +kernel
theorem dL_areLaid_492 : decode cL_areLaid 492 = .ok (.aload 4, 2) := by decide +kernel
theorem dL_areLaid_494 : decode cL_areLaid 494 = .ok (.iconst 0, 1) := by decide +kernel
theorem dL_areLaid_495 : decode cL_areLaid 495 = .ok (.iaload, 1) := by decide +kernel
theorem dL_areLaid_496 : decode cL_areLaid 496 = .ok (.invokestatic 124, 3) := by decide +kernel
theorem dL_areLaid_499 : decode cL_areLaid 499 = .ok (.ldc 18, 2) := by decide +kernel
theorem dL_areLaid_501 : decode cL_areLaid 501 = .ok (.if_icmp .ne 112, 3) := by decide +kernel
theorem dL_areLaid_504 : decode cL_areLaid 504 = .ok (.aload_n 0, 1) := by decide +kernel
theorem dL_areLaid_505 : decode cL_areLaid 505 = .ok (.aload 4, 2) := by decide +kernel
theorem dL_areLaid_507 : decode cL_areLaid 507 = .ok (.iconst 0, 1) := by decide +kernel
theorem dL_areLaid_508 : decode cL_areLaid 508 = .ok (.iaload, 1) := by decide +kernel
theorem dL_areLaid_509 : decode cL_areLaid 509 = .ok (.iconst 4, 1) := by decide +kernel
theorem dL_areLaid_510 : decode cL_areLaid 510 = .ok (.invokestatic 128, 3) := by decide +kernel
theorem dL_areLaid_513 : decode cL_areLaid 513 = .ok (.ldc 18, 2) := by decide +kernel
theorem dL_areLaid_515 : decode cL_areLaid 515 = .ok (.if_icmp .ne 98, 3) := by decide +kernel
theorem dL_areLaid_518 : decode cL_areLaid 518 = .ok (.aload_n 0, 1) := by decide +kernel
theorem dL_areLaid_519 : decode cL_areLaid 519 = .ok (.bipush 8, 2) := by decide +kernel
theorem dL_areLaid_521 : decode cL_areLaid 521 = .ok (.invokestatic 133, 3) := by decide +kernel
theorem dL_areLaid_524 : decode cL_areLaid 524 = .ok (.ldc 21, 2) := by decide +kernel
theorem dL_areLaid_526 : decode cL_areLaid 526 = .ok (.if_icmp .ne 87, 3) := by decide +kernel
theorem dL_areLaid_529 : decode cL_areLaid 529 = .ok (.aload_n 0, 1) := by decide +kernel
theorem dL_areLaid_530 : decode cL_areLaid 530 = .ok (.aload 4, 2) := by decide +kernel
theorem dL_areLaid_532 : decode cL_areLaid 532 = .ok (.invokestatic 100, 3) := by decide +kernel
theorem dL_areLaid_535 : decode cL_areLaid 535 = .ok (.iconst 2, 1) := by decide +kernel
theorem dL_areLaid_536 : decode cL_areLaid 536 = .ok (.iconst 0, 1) := by decide +kernel
theorem dL_areLaid_537 : decode cL_areLaid 537 = .ok (.iconst 0, 1) := by decide +kernel
theorem dL_areLaid_538 : decode cL_areLaid 538 = .ok (.invokestatic 119, 3) := by decide +kernel
theorem dL_areLaid_541 : decode cL_areLaid 541 = .ok (.ldc 18, 2) := by decide +kernel
theorem dL_areLaid_543 : decode cL_areLaid 543 = .ok (.if_icmp .ne 70, 3) := by decide +kernel
theorem dL_areLaid_546 : decode cL_areLaid 546 = .ok (.aload_n 0, 1) := by decide +kernel
theorem dL_areLaid_547 : decode cL_areLaid 547 = .ok (.iconst 0, 1) := by decide +kernel
theorem dL_areLaid_548 : decode cL_areLaid 548 = .ok (.iconst 0, 1) := by decide +kernel
theorem dL_areLaid_549 : decode cL_areLaid 549 = .ok (.aload_n 0, 1) := by decide +kernel
theorem dL_areLaid_550 : decode cL_areLaid 550 = .ok (.invokevirtual 143, 3) := by decide +kernel
theorem dL_areLaid_553 : decode cL_areLaid 553 = .ok (.iconst 0, 1) := by decide +kernel
theorem dL_areLaid_554 : decode cL_areLaid 554 = .ok (.invokestatic 122, 3) := by decide +kernel
theorem dL_areLaid_557 : decode cL_areLaid 557 = .ok (.ldc 18, 2) := by decide +kernel
theorem dL_areLaid_559 : decode cL_areLaid 559 = .ok (.if_icmp .ne 54, 3) := by decide +kernel
theorem dL_areLaid_562 : decode cL_areLaid 562 = .ok (.aload_n 0, 1) := by decide +kernel
theorem dL_areLaid_563 : decode cL_areLaid 563 = .ok (.iconst 0, 1) := by decide +kernel
theorem dL_areLaid_564 : decode cL_areLaid 564 = .ok (.iconst 0, 1) := by decide +kernel
theorem dL_areLaid_565 : decode cL_areLaid 565 = .ok (.iconst 0, 1) := by decide +kernel
theorem dL_areLaid_566 : decode cL_areLaid 566 = .ok (.aload_n 0, 1) := by decide +kernel
theorem dL_areLaid_567 : decode cL_areLaid 567 = .ok (.invokevirtual 115, 3) := by decide +kernel
theorem dL_areLaid_570 : decode cL_areLaid 570 = .ok (.invokestatic 119, 3) := by decide +kernel
theorem dL_areLaid_573 : decode cL_areLaid 573 = .ok (.ldc 18, 2) := by decide +kernel
theorem dL_areLaid_575 : decode cL_areLaid 575 = .ok (.if_icmp .ne 38, 3) := by decide +kernel
theorem dL_areLaid_578 : decode cL_areLaid 578 = .ok (.aload 4, 2) := by decide +kernel
theorem dL_areLaid_580 : decode cL_areLaid 580 = .ok (.iconst 0, 1) := by decide +kernel
theorem dL_areLaid_581 : decode cL_areLaid 581 = .ok (.iaload, 1) := by decide +kernel
theorem dL_areLaid_582 : decode cL_areLaid 582 = .ok (.ifCond .eq 27, 3) := by decide +kernel
theorem dL_areLaid_585 : decode cL_areLaid 585 = .ok (.aload_n 0, 1) := by decide +kernel
theorem dL_areLaid_586 : decode cL_areLaid 586 = .ok (.iconst 0, 1) := by decide +kernel
theorem dL_areLaid_587 : decode cL_areLaid 587 = .ok (.iconst 2, 1) := by decide +kernel
theorem dL_areLaid_588 : decode cL_areLaid 588 = .ok (.iconst 0, 1) := by decide +kernel
theorem dL_areLaid_589 : decode cL_areLaid 589 = .ok (.iconst 0, 1) := by decide +kernel
theorem dL_areLaid_590 : decode cL_areLaid 590 = .ok (.invokestatic 119, 3) := by decide +kernel
theorem dL_areLaid_593 : decode cL_areLaid 593 = .ok (.ldc 21, 2) := by decide +kernel
theorem dL_areLaid_595 : decode cL_areLaid 595 = .ok (.if_icmp .ne 18, 3) := by decide +kernel
theorem dL_areLaid_598 : decode cL_areLaid 598 = .ok (.aload_n 0, 1) := by decide +kernel
theorem dL_areLaid_599 : decode cL_areLaid 599 = .ok (.iconst 0, 1) := by decide +kernel
theorem dL_areLaid_600 : decode cL_areLaid 600 = .ok (.iconst 4, 1) := by decide +kernel
theorem dL_areLaid_601 : decode cL_areLaid 601 = .ok (.invokestatic 128, 3) := by decide +kernel
theorem dL_areLaid_604 : decode cL_areLaid 604 = .ok (.ldc 21, 2) := by decide +kernel
theorem dL_areLaid_606 : decode cL_areLaid 606 = .ok (.if_icmp .ne 7, 3) := by decide +kernel
theorem dL_areLaid_609 : decode cL_areLaid 609 = .ok (.iconst 1, 1) := by decide +kernel
theorem dL_areLaid_610 : decode cL_areLaid 610 = .ok (.goto 4, 3) := by decide +kernel
theorem dL_areLaid_613 : decode cL_areLaid 613 = .ok (.iconst 0, 1) := by decide +kernel
theorem dL_areLaid_614 : decode cL_areLaid 614 = .ok (.ireturn, 1) := by decide +kernel
