theorem dL_law_374_c : decode cL_law 374 = .ok (.iload 4, 2) ∧ decode cL_law 376 = .ok (.iconst 2, 1) ∧ decode cL_law 377 = .ok (.iadd, 1) ∧ decode cL_law 378 = .ok (.iaload, 1) ∧ decode cL_law 379 = .ok (.aload_n 3, 1) ∧ decode cL_law 380 = .ok (.invokestatic 133, 3) ∧ decode cL_law 383 = .ok (.istore 5, 2) ∧ decode cL_law 385 = .ok (.aload_n 2, 1) ∧ decode cL_law 386 = .ok (.aload_n 0, 1) ∧ decode cL_law 387 = .ok (.iload 4, 2) ∧ decode cL_law 389 = .ok (.iconst 1, 1) ∧ decode cL_law 390 = .ok (.iadd, 1) ∧ decode cL_law 391 = .ok (.iaload, 1) ∧ decode cL_law 392 = .ok (.aload_n 0, 1) ∧ decode cL_law 393 = .ok (.iload 4, 2) ∧ decode cL_law 395 = .ok (.iconst 2, 1) := by decide +kernel
theorem dL_law_374 : decode cL_law 374 = .ok (.iload 4, 2) := dL_law_374_c.1
theorem dL_law_376 : decode cL_law 376 = .ok (.iconst 2, 1) := dL_law_374_c.2.1
theorem dL_law_377 : decode cL_law 377 = .ok (.iadd, 1) := dL_law_374_c.2.2.1
theorem dL_law_378 : decode cL_law 378 = .ok (.iaload, 1) := dL_law_374_c.2.2.2.1
theorem dL_law_379 : decode cL_law 379 = .ok (.aload_n 3, 1) := dL_law_374_c.2.2.2.2.1
theorem dL_law_380 : decode cL_law 380 = .ok (.invokestatic 133, 3) := dL_law_374_c.2.2.2.2.2.1
theorem dL_law_383 : decode cL_law 383 = .ok (.istore 5, 2) := dL_law_374_c.2.2.2.2.2.2.1
theorem dL_law_385 : decode cL_law 385 = .ok (.aload_n 2, 1) := dL_law_374_c.2.2.2.2.2.2.2.1
theorem dL_law_386 : decode cL_law 386 = .ok (.aload_n 0, 1) := dL_law_374_c.2.2.2.2.2.2.2.2.1
theorem dL_law_387 : decode cL_law 387 = .ok (.iload 4, 2) := dL_law_374_c.2.2.2.2.2.2.2.2.2.1
theorem dL_law_389 : decode cL_law 389 = .ok (.iconst 1, 1) := dL_law_374_c.2.2.2.2.2.2.2.2.2.2.1
theorem dL_law_390 : decode cL_law 390 = .ok (.iadd, 1) := dL_law_374_c.2.2.2.2.2.2.2.2.2.2.2.1
theorem dL_law_391 : decode cL_law 391 = .ok (.iaload, 1) := dL_law_374_c.2.2.2.2.2.2.2.2.2.2.2.2.1
theorem dL_law_392 : decode cL_law 392 = .ok (.aload_n 0, 1) := dL_law_374_c.2.2.2.2.2.2.2.2.2.2.2.2.2.1
theorem dL_law_393 : decode cL_law 393 = .ok (.iload 4, 2) := dL_law_374_c.2.2.2.2.2.2.2.2.2.2.2.2.2.2.1
theorem dL_law_395 : decode cL_law 395 = .ok (.iconst 2, 1) := dL_law_374_c.2.2.2.2.2.2.2.2.2.2.2.2.2.2.2
theorem dL_law_396_c : decode cL_law 396 = .ok (.iadd, 1) ∧ decode cL_law 397 = .ok (.iaload, 1) ∧ decode cL_law 398 = .ok (.invokevirtual 136, 3) ∧ decode cL_law 401 = .ok (.istore 6, 2) ∧ decode cL_law 403 = .ok (.goto 1270, 3) ∧ decode cL_law 406 = .ok (.aload_n 1, 1) ∧ decode cL_law 407 = .ok (.aload_n 0, 1) ∧ decode cL_law 408 = .ok (.iload 4, 2) ∧ decode cL_law 410 = .ok (.iconst 1, 1) ∧ decode cL_law 411 = .ok (.iadd, 1) ∧ decode cL_law 412 = .ok (.iaload, 1) ∧ decode cL_law 413 = .ok (.aload_n 0, 1) ∧ decode cL_law 414 = .ok (.iload 4, 2) ∧ decode cL_law 416 = .ok (.iconst 2, 1) ∧ decode cL_law 417 = .ok (.iadd, 1) ∧ decode cL_law 418 = .ok (.iaload, 1) := by decide +kernel
theorem dL_law_396 : decode cL_law 396 = .ok (.iadd, 1) := dL_law_396_c.1
theorem dL_law_397 : decode cL_law 397 = .ok (.iaload, 1) := dL_law_396_c.2.1
theorem dL_law_398 : decode cL_law 398 = .ok (.invokevirtual 136, 3) := dL_law_396_c.2.2.1
theorem dL_law_401 : decode cL_law 401 = .ok (.istore 6, 2) := dL_law_396_c.2.2.2.1
theorem dL_law_403 : decode cL_law 403 = .ok (.goto 1270, 3) := dL_law_396_c.2.2.2.2.1
theorem dL_law_406 : decode cL_law 406 = .ok (.aload_n 1, 1) := dL_law_396_c.2.2.2.2.2.1
theorem dL_law_407 : decode cL_law 407 = .ok (.aload_n 0, 1) := dL_law_396_c.2.2.2.2.2.2.1
theorem dL_law_408 : decode cL_law 408 = .ok (.iload 4, 2) := dL_law_396_c.2.2.2.2.2.2.2.1
theorem dL_law_410 : decode cL_law 410 = .ok (.iconst 1, 1) := dL_law_396_c.2.2.2.2.2.2.2.2.1
theorem dL_law_411 : decode cL_law 411 = .ok (.iadd, 1) := dL_law_396_c.2.2.2.2.2.2.2.2.2.1
theorem dL_law_412 : decode cL_law 412 = .ok (.iaload, 1) := dL_law_396_c.2.2.2.2.2.2.2.2.2.2.1
theorem dL_law_413 : decode cL_law 413 = .ok (.aload_n 0, 1) := dL_law_396_c.2.2.2.2.2.2.2.2.2.2.2.1
theorem dL_law_414 : decode cL_law 414 = .ok (.iload 4, 2) := dL_law_396_c.2.2.2.2.2.2.2.2.2.2.2.2.1
theorem dL_law_416 : decode cL_law 416 = .ok (.iconst 2, 1) := dL_law_396_c.2.2.2.2.2.2.2.2.2.2.2.2.2.1
theorem dL_law_417 : decode cL_law 417 = .ok (.iadd, 1) := dL_law_396_c.2.2.2.2.2.2.2.2.2.2.2.2.2.2.1
theorem dL_law_418 : decode cL_law 418 = .ok (.iaload, 1) := dL_law_396_c.2.2.2.2.2.2.2.2.2.2.2.2.2.2.2
theorem dL_law_419_c : decode cL_law 419 = .ok (.aload_n 3, 1) ∧ decode cL_law 420 = .ok (.invokestatic 137, 3) ∧ decode cL_law 423 = .ok (.istore 5, 2) ∧ decode cL_law 425 = .ok (.aload_n 2, 1) ∧ decode cL_law 426 = .ok (.aload_n 0, 1) ∧ decode cL_law 427 = .ok (.iload 4, 2) ∧ decode cL_law 429 = .ok (.iconst 1, 1) ∧ decode cL_law 430 = .ok (.iadd, 1) ∧ decode cL_law 431 = .ok (.iaload, 1) ∧ decode cL_law 432 = .ok (.aload_n 0, 1) ∧ decode cL_law 433 = .ok (.iload 4, 2) ∧ decode cL_law 435 = .ok (.iconst 2, 1) ∧ decode cL_law 436 = .ok (.iadd, 1) ∧ decode cL_law 437 = .ok (.iaload, 1) ∧ decode cL_law 438 = .ok (.invokevirtual 139, 3) ∧ decode cL_law 441 = .ok (.istore 6, 2) := by decide +kernel
theorem dL_law_419 : decode cL_law 419 = .ok (.aload_n 3, 1) := dL_law_419_c.1
theorem dL_law_420 : decode cL_law 420 = .ok (.invokestatic 137, 3) := dL_law_419_c.2.1
theorem dL_law_423 : decode cL_law 423 = .ok (.istore 5, 2) := dL_law_419_c.2.2.1
theorem dL_law_425 : decode cL_law 425 = .ok (.aload_n 2, 1) := dL_law_419_c.2.2.2.1
theorem dL_law_426 : decode cL_law 426 = .ok (.aload_n 0, 1) := dL_law_419_c.2.2.2.2.1
theorem dL_law_427 : decode cL_law 427 = .ok (.iload 4, 2) := dL_law_419_c.2.2.2.2.2.1
theorem dL_law_429 : decode cL_law 429 = .ok (.iconst 1, 1) := dL_law_419_c.2.2.2.2.2.2.1
theorem dL_law_430 : decode cL_law 430 = .ok (.iadd, 1) := dL_law_419_c.2.2.2.2.2.2.2.1
theorem dL_law_431 : decode cL_law 431 = .ok (.iaload, 1) := dL_law_419_c.2.2.2.2.2.2.2.2.1
theorem dL_law_432 : decode cL_law 432 = .ok (.aload_n 0, 1) := dL_law_419_c.2.2.2.2.2.2.2.2.2.1
theorem dL_law_433 : decode cL_law 433 = .ok (.iload 4, 2) := dL_law_419_c.2.2.2.2.2.2.2.2.2.2.1
theorem dL_law_435 : decode cL_law 435 = .ok (.iconst 2, 1) := dL_law_419_c.2.2.2.2.2.2.2.2.2.2.2.1
theorem dL_law_436 : decode cL_law 436 = .ok (.iadd, 1) := dL_law_419_c.2.2.2.2.2.2.2.2.2.2.2.2.1
theorem dL_law_437 : decode cL_law 437 = .ok (.iaload, 1) := dL_law_419_c.2.2.2.2.2.2.2.2.2.2.2.2.2.1
theorem dL_law_438 : decode cL_law 438 = .ok (.invokevirtual 139, 3) := dL_law_419_c.2.2.2.2.2.2.2.2.2.2.2.2.2.2.1
theorem dL_law_441 : decode cL_law 441 = .ok (.istore 6, 2) := dL_law_419_c.2.2.2.2.2.2.2.2.2.2.2.2.2.2.2
theorem dL_law_443_c : decode cL_law 443 = .ok (.goto 1230, 3) ∧ decode cL_law 446 = .ok (.aload_n 1, 1) ∧ decode cL_law 447 = .ok (.aload_n 0, 1) ∧ decode cL_law 448 = .ok (.iload 4, 2) ∧ decode cL_law 450 = .ok (.iconst 1, 1) ∧ decode cL_law 451 = .ok (.iadd, 1) ∧ decode cL_law 452 = .ok (.iaload, 1) ∧ decode cL_law 453 = .ok (.aload_n 0, 1) ∧ decode cL_law 454 = .ok (.iload 4, 2) ∧ decode cL_law 456 = .ok (.iconst 2, 1) ∧ decode cL_law 457 = .ok (.iadd, 1) ∧ decode cL_law 458 = .ok (.iaload, 1) ∧ decode cL_law 459 = .ok (.aload_n 3, 1) ∧ decode cL_law 460 = .ok (.invokestatic 140, 3) ∧ decode cL_law 463 = .ok (.istore 5, 2) ∧ decode cL_law 465 = .ok (.aload_n 2, 1) := by decide +kernel
theorem dL_law_443 : decode cL_law 443 = .ok (.goto 1230, 3) := dL_law_443_c.1
theorem dL_law_446 : decode cL_law 446 = .ok (.aload_n 1, 1) := dL_law_443_c.2.1
theorem dL_law_447 : decode cL_law 447 = .ok (.aload_n 0, 1) := dL_law_443_c.2.2.1
theorem dL_law_448 : decode cL_law 448 = .ok (.iload 4, 2) := dL_law_443_c.2.2.2.1
theorem dL_law_450 : decode cL_law 450 = .ok (.iconst 1, 1) := dL_law_443_c.2.2.2.2.1
theorem dL_law_451 : decode cL_law 451 = .ok (.iadd, 1) := dL_law_443_c.2.2.2.2.2.1
theorem dL_law_452 : decode cL_law 452 = .ok (.iaload, 1) := dL_law_443_c.2.2.2.2.2.2.1
theorem dL_law_453 : decode cL_law 453 = .ok (.aload_n 0, 1) := dL_law_443_c.2.2.2.2.2.2.2.1
theorem dL_law_454 : decode cL_law 454 = .ok (.iload 4, 2) := dL_law_443_c.2.2.2.2.2.2.2.2.1
theorem dL_law_456 : decode cL_law 456 = .ok (.iconst 2, 1) := dL_law_443_c.2.2.2.2.2.2.2.2.2.1
theorem dL_law_457 : decode cL_law 457 = .ok (.iadd, 1) := dL_law_443_c.2.2.2.2.2.2.2.2.2.2.1
theorem dL_law_458 : decode cL_law 458 = .ok (.iaload, 1) := dL_law_443_c.2.2.2.2.2.2.2.2.2.2.2.1
theorem dL_law_459 : decode cL_law 459 = .ok (.aload_n 3, 1) := dL_law_443_c.2.2.2.2.2.2.2.2.2.2.2.2.1
theorem dL_law_460 : decode cL_law 460 = .ok (.invokestatic 140, 3) := dL_law_443_c.2.2.2.2.2.2.2.2.2.2.2.2.2.1
theorem dL_law_463 : decode cL_law 463 = .ok (.istore 5, 2) := dL_law_443_c.2.2.2.2.2.2.2.2.2.2.2.2.2.2.1
theorem dL_law_465 : decode cL_law 465 = .ok (.aload_n 2, 1) := dL_law_443_c.2.2.2.2.2.2.2.2.2.2.2.2.2.2.2
theorem dL_law_466_c : decode cL_law 466 = .ok (.aload_n 0, 1) ∧ decode cL_law 467 = .ok (.iload 4, 2) ∧ decode cL_law 469 = .ok (.iconst 1, 1) ∧ decode cL_law 470 = .ok (.iadd, 1) ∧ decode cL_law 471 = .ok (.iaload, 1) ∧ decode cL_law 472 = .ok (.aload_n 0, 1) ∧ decode cL_law 473 = .ok (.iload 4, 2) ∧ decode cL_law 475 = .ok (.iconst 2, 1) ∧ decode cL_law 476 = .ok (.iadd, 1) ∧ decode cL_law 477 = .ok (.iaload, 1) ∧ decode cL_law 478 = .ok (.invokevirtual 142, 3) ∧ decode cL_law 481 = .ok (.istore 6, 2) ∧ decode cL_law 483 = .ok (.aload_n 2, 1) ∧ decode cL_law 484 = .ok (.invokevirtual 143, 3) ∧ decode cL_law 487 = .ok (.iload 5, 2) ∧ decode cL_law 489 = .ok (.if_icmp .eq 5, 3) := by decide +kernel
theorem dL_law_466 : decode cL_law 466 = .ok (.aload_n 0, 1) := dL_law_466_c.1
theorem dL_law_467 : decode cL_law 467 = .ok (.iload 4, 2) := dL_law_466_c.2.1
theorem dL_law_469 : decode cL_law 469 = .ok (.iconst 1, 1) := dL_law_466_c.2.2.1
theorem dL_law_470 : decode cL_law 470 = .ok (.iadd, 1) := dL_law_466_c.2.2.2.1
theorem dL_law_471 : decode cL_law 471 = .ok (.iaload, 1) := dL_law_466_c.2.2.2.2.1
theorem dL_law_472 : decode cL_law 472 = .ok (.aload_n 0, 1) := dL_law_466_c.2.2.2.2.2.1
theorem dL_law_473 : decode cL_law 473 = .ok (.iload 4, 2) := dL_law_466_c.2.2.2.2.2.2.1
theorem dL_law_475 : decode cL_law 475 = .ok (.iconst 2, 1) := dL_law_466_c.2.2.2.2.2.2.2.1
theorem dL_law_476 : decode cL_law 476 = .ok (.iadd, 1) := dL_law_466_c.2.2.2.2.2.2.2.2.1
theorem dL_law_477 : decode cL_law 477 = .ok (.iaload, 1) := dL_law_466_c.2.2.2.2.2.2.2.2.2.1
theorem dL_law_478 : decode cL_law 478 = .ok (.invokevirtual 142, 3) := dL_law_466_c.2.2.2.2.2.2.2.2.2.2.1
theorem dL_law_481 : decode cL_law 481 = .ok (.istore 6, 2) := dL_law_466_c.2.2.2.2.2.2.2.2.2.2.2.1
theorem dL_law_483 : decode cL_law 483 = .ok (.aload_n 2, 1) := dL_law_466_c.2.2.2.2.2.2.2.2.2.2.2.2.1
theorem dL_law_484 : decode cL_law 484 = .ok (.invokevirtual 143, 3) := dL_law_466_c.2.2.2.2.2.2.2.2.2.2.2.2.2.1
theorem dL_law_487 : decode cL_law 487 = .ok (.iload 5, 2) := dL_law_466_c.2.2.2.2.2.2.2.2.2.2.2.2.2.2.1
theorem dL_law_489 : decode cL_law 489 = .ok (.if_icmp .eq 5, 3) := dL_law_466_c.2.2.2.2.2.2.2.2.2.2.2.2.2.2.2
theorem dL_law_492_c : decode cL_law 492 = .ok (.iconst 0, 1) ∧ decode cL_law 493 = .ok (.ireturn, 1) ∧ decode cL_law 494 = .ok (.iload 5, 2) ∧ decode cL_law 496 = .ok (.ifCond .ne 22, 3) ∧ decode cL_law 499 = .ok (.aload_n 3, 1) ∧ decode cL_law 500 = .ok (.iconst 0, 1) ∧ decode cL_law 501 = .ok (.laload, 1) ∧ decode cL_law 502 = .ok (.iload 6, 2) ∧ decode cL_law 504 = .ok (.ifCond .eq 7, 3) ∧ decode cL_law 507 = .ok (.lconst 1, 1) ∧ decode cL_law 508 = .ok (.goto 4, 3) ∧ decode cL_law 511 = .ok (.lconst 0, 1) ∧ decode cL_law 512 = .ok (.lcmp, 1) ∧ decode cL_law 513 = .ok (.ifCond .eq 5, 3) ∧ decode cL_law 516 = .ok (.iconst 0, 1) ∧ decode cL_law 517 = .ok (.ireturn, 1) := by decide +kernel
theorem dL_law_492 : decode cL_law 492 = .ok (.iconst 0, 1) := dL_law_492_c.1
theorem dL_law_493 : decode cL_law 493 = .ok (.ireturn, 1) := dL_law_492_c.2.1
theorem dL_law_494 : decode cL_law 494 = .ok (.iload 5, 2) := dL_law_492_c.2.2.1
theorem dL_law_496 : decode cL_law 496 = .ok (.ifCond .ne 22, 3) := dL_law_492_c.2.2.2.1
theorem dL_law_499 : decode cL_law 499 = .ok (.aload_n 3, 1) := dL_law_492_c.2.2.2.2.1
theorem dL_law_500 : decode cL_law 500 = .ok (.iconst 0, 1) := dL_law_492_c.2.2.2.2.2.1
theorem dL_law_501 : decode cL_law 501 = .ok (.laload, 1) := dL_law_492_c.2.2.2.2.2.2.1
theorem dL_law_502 : decode cL_law 502 = .ok (.iload 6, 2) := dL_law_492_c.2.2.2.2.2.2.2.1
theorem dL_law_504 : decode cL_law 504 = .ok (.ifCond .eq 7, 3) := dL_law_492_c.2.2.2.2.2.2.2.2.1
theorem dL_law_507 : decode cL_law 507 = .ok (.lconst 1, 1) := dL_law_492_c.2.2.2.2.2.2.2.2.2.1
theorem dL_law_508 : decode cL_law 508 = .ok (.goto 4, 3) := dL_law_492_c.2.2.2.2.2.2.2.2.2.2.1
theorem dL_law_511 : decode cL_law 511 = .ok (.lconst 0, 1) := dL_law_492_c.2.2.2.2.2.2.2.2.2.2.2.1
theorem dL_law_512 : decode cL_law 512 = .ok (.lcmp, 1) := dL_law_492_c.2.2.2.2.2.2.2.2.2.2.2.2.1
theorem dL_law_513 : decode cL_law 513 = .ok (.ifCond .eq 5, 3) := dL_law_492_c.2.2.2.2.2.2.2.2.2.2.2.2.2.1
theorem dL_law_516 : decode cL_law 516 = .ok (.iconst 0, 1) := dL_law_492_c.2.2.2.2.2.2.2.2.2.2.2.2.2.2.1
theorem dL_law_517 : decode cL_law 517 = .ok (.ireturn, 1) := dL_law_492_c.2.2.2.2.2.2.2.2.2.2.2.2.2.2.2
theorem dL_law_518_c : decode cL_law 518 = .ok (.goto 1155, 3) ∧ decode cL_law 521 = .ok (.aload_n 1, 1) ∧ decode cL_law 522 = .ok (.aload_n 0, 1) ∧ decode cL_law 523 = .ok (.iload 4, 2) ∧ decode cL_law 525 = .ok (.iconst 1, 1) ∧ decode cL_law 526 = .ok (.iadd, 1) ∧ decode cL_law 527 = .ok (.iaload, 1) ∧ decode cL_law 528 = .ok (.aload_n 0, 1) ∧ decode cL_law 529 = .ok (.iload 4, 2) ∧ decode cL_law 531 = .ok (.iconst 2, 1) ∧ decode cL_law 532 = .ok (.iadd, 1) ∧ decode cL_law 533 = .ok (.iaload, 1) ∧ decode cL_law 534 = .ok (.aload_n 3, 1) ∧ decode cL_law 535 = .ok (.invokestatic 146, 3) ∧ decode cL_law 538 = .ok (.istore 5, 2) ∧ decode cL_law 540 = .ok (.aload_n 2, 1) := by decide +kernel
theorem dL_law_518 : decode cL_law 518 = .ok (.goto 1155, 3) := dL_law_518_c.1
theorem dL_law_521 : decode cL_law 521 = .ok (.aload_n 1, 1) := dL_law_518_c.2.1
theorem dL_law_522 : decode cL_law 522 = .ok (.aload_n 0, 1) := dL_law_518_c.2.2.1
theorem dL_law_523 : decode cL_law 523 = .ok (.iload 4, 2) := dL_law_518_c.2.2.2.1
theorem dL_law_525 : decode cL_law 525 = .ok (.iconst 1, 1) := dL_law_518_c.2.2.2.2.1
theorem dL_law_526 : decode cL_law 526 = .ok (.iadd, 1) := dL_law_518_c.2.2.2.2.2.1
theorem dL_law_527 : decode cL_law 527 = .ok (.iaload, 1) := dL_law_518_c.2.2.2.2.2.2.1
theorem dL_law_528 : decode cL_law 528 = .ok (.aload_n 0, 1) := dL_law_518_c.2.2.2.2.2.2.2.1
theorem dL_law_529 : decode cL_law 529 = .ok (.iload 4, 2) := dL_law_518_c.2.2.2.2.2.2.2.2.1
theorem dL_law_531 : decode cL_law 531 = .ok (.iconst 2, 1) := dL_law_518_c.2.2.2.2.2.2.2.2.2.1
theorem dL_law_532 : decode cL_law 532 = .ok (.iadd, 1) := dL_law_518_c.2.2.2.2.2.2.2.2.2.2.1
theorem dL_law_533 : decode cL_law 533 = .ok (.iaload, 1) := dL_law_518_c.2.2.2.2.2.2.2.2.2.2.2.1
theorem dL_law_534 : decode cL_law 534 = .ok (.aload_n 3, 1) := dL_law_518_c.2.2.2.2.2.2.2.2.2.2.2.2.1
theorem dL_law_535 : decode cL_law 535 = .ok (.invokestatic 146, 3) := dL_law_518_c.2.2.2.2.2.2.2.2.2.2.2.2.2.1
theorem dL_law_538 : decode cL_law 538 = .ok (.istore 5, 2) := dL_law_518_c.2.2.2.2.2.2.2.2.2.2.2.2.2.2.1
theorem dL_law_540 : decode cL_law 540 = .ok (.aload_n 2, 1) := dL_law_518_c.2.2.2.2.2.2.2.2.2.2.2.2.2.2.2
theorem dL_law_541_c : decode cL_law 541 = .ok (.aload_n 0, 1) ∧ decode cL_law 542 = .ok (.iload 4, 2) ∧ decode cL_law 544 = .ok (.iconst 1, 1) ∧ decode cL_law 545 = .ok (.iadd, 1) ∧ decode cL_law 546 = .ok (.iaload, 1) ∧ decode cL_law 547 = .ok (.aload_n 0, 1) ∧ decode cL_law 548 = .ok (.iload 4, 2) ∧ decode cL_law 550 = .ok (.iconst 2, 1) ∧ decode cL_law 551 = .ok (.iadd, 1) ∧ decode cL_law 552 = .ok (.iaload, 1) ∧ decode cL_law 553 = .ok (.invokevirtual 148, 3) ∧ decode cL_law 556 = .ok (.istore 6, 2) ∧ decode cL_law 558 = .ok (.goto 1115, 3) ∧ decode cL_law 561 = .ok (.aload_n 1, 1) ∧ decode cL_law 562 = .ok (.aload_n 0, 1) ∧ decode cL_law 563 = .ok (.iload 4, 2) := by decide +kernel
theorem dL_law_541 : decode cL_law 541 = .ok (.aload_n 0, 1) := dL_law_541_c.1
theorem dL_law_542 : decode cL_law 542 = .ok (.iload 4, 2) := dL_law_541_c.2.1
theorem dL_law_544 : decode cL_law 544 = .ok (.iconst 1, 1) := dL_law_541_c.2.2.1
theorem dL_law_545 : decode cL_law 545 = .ok (.iadd, 1) := dL_law_541_c.2.2.2.1
theorem dL_law_546 : decode cL_law 546 = .ok (.iaload, 1) := dL_law_541_c.2.2.2.2.1
theorem dL_law_547 : decode cL_law 547 = .ok (.aload_n 0, 1) := dL_law_541_c.2.2.2.2.2.1
theorem dL_law_548 : decode cL_law 548 = .ok (.iload 4, 2) := dL_law_541_c.2.2.2.2.2.2.1
theorem dL_law_550 : decode cL_law 550 = .ok (.iconst 2, 1) := dL_law_541_c.2.2.2.2.2.2.2.1
theorem dL_law_551 : decode cL_law 551 = .ok (.iadd, 1) := dL_law_541_c.2.2.2.2.2.2.2.2.1
theorem dL_law_552 : decode cL_law 552 = .ok (.iaload, 1) := dL_law_541_c.2.2.2.2.2.2.2.2.2.1
theorem dL_law_553 : decode cL_law 553 = .ok (.invokevirtual 148, 3) := dL_law_541_c.2.2.2.2.2.2.2.2.2.2.1
theorem dL_law_556 : decode cL_law 556 = .ok (.istore 6, 2) := dL_law_541_c.2.2.2.2.2.2.2.2.2.2.2.1
theorem dL_law_558 : decode cL_law 558 = .ok (.goto 1115, 3) := dL_law_541_c.2.2.2.2.2.2.2.2.2.2.2.2.1
theorem dL_law_561 : decode cL_law 561 = .ok (.aload_n 1, 1) := dL_law_541_c.2.2.2.2.2.2.2.2.2.2.2.2.2.1
theorem dL_law_562 : decode cL_law 562 = .ok (.aload_n 0, 1) := dL_law_541_c.2.2.2.2.2.2.2.2.2.2.2.2.2.2.1
theorem dL_law_563 : decode cL_law 563 = .ok (.iload 4, 2) := dL_law_541_c.2.2.2.2.2.2.2.2.2.2.2.2.2.2.2
theorem dL_law_565_c : decode cL_law 565 = .ok (.iconst 1, 1) ∧ decode cL_law 566 = .ok (.iadd, 1) ∧ decode cL_law 567 = .ok (.iaload, 1) ∧ decode cL_law 568 = .ok (.aload_n 0, 1) ∧ decode cL_law 569 = .ok (.iload 4, 2) ∧ decode cL_law 571 = .ok (.iconst 2, 1) ∧ decode cL_law 572 = .ok (.iadd, 1) ∧ decode cL_law 573 = .ok (.iaload, 1) ∧ decode cL_law 574 = .ok (.aload_n 3, 1) ∧ decode cL_law 575 = .ok (.invokestatic 149, 3) ∧ decode cL_law 578 = .ok (.istore 5, 2) ∧ decode cL_law 580 = .ok (.aload_n 2, 1) ∧ decode cL_law 581 = .ok (.aload_n 0, 1) ∧ decode cL_law 582 = .ok (.iload 4, 2) ∧ decode cL_law 584 = .ok (.iconst 1, 1) ∧ decode cL_law 585 = .ok (.iadd, 1) := by decide +kernel
theorem dL_law_565 : decode cL_law 565 = .ok (.iconst 1, 1) := dL_law_565_c.1
theorem dL_law_566 : decode cL_law 566 = .ok (.iadd, 1) := dL_law_565_c.2.1
theorem dL_law_567 : decode cL_law 567 = .ok (.iaload, 1) := dL_law_565_c.2.2.1
theorem dL_law_568 : decode cL_law 568 = .ok (.aload_n 0, 1) := dL_law_565_c.2.2.2.1
theorem dL_law_569 : decode cL_law 569 = .ok (.iload 4, 2) := dL_law_565_c.2.2.2.2.1
theorem dL_law_571 : decode cL_law 571 = .ok (.iconst 2, 1) := dL_law_565_c.2.2.2.2.2.1
theorem dL_law_572 : decode cL_law 572 = .ok (.iadd, 1) := dL_law_565_c.2.2.2.2.2.2.1
theorem dL_law_573 : decode cL_law 573 = .ok (.iaload, 1) := dL_law_565_c.2.2.2.2.2.2.2.1
theorem dL_law_574 : decode cL_law 574 = .ok (.aload_n 3, 1) := dL_law_565_c.2.2.2.2.2.2.2.2.1
theorem dL_law_575 : decode cL_law 575 = .ok (.invokestatic 149, 3) := dL_law_565_c.2.2.2.2.2.2.2.2.2.1
theorem dL_law_578 : decode cL_law 578 = .ok (.istore 5, 2) := dL_law_565_c.2.2.2.2.2.2.2.2.2.2.1
theorem dL_law_580 : decode cL_law 580 = .ok (.aload_n 2, 1) := dL_law_565_c.2.2.2.2.2.2.2.2.2.2.2.1
theorem dL_law_581 : decode cL_law 581 = .ok (.aload_n 0, 1) := dL_law_565_c.2.2.2.2.2.2.2.2.2.2.2.2.1
theorem dL_law_582 : decode cL_law 582 = .ok (.iload 4, 2) := dL_law_565_c.2.2.2.2.2.2.2.2.2.2.2.2.2.1
theorem dL_law_584 : decode cL_law 584 = .ok (.iconst 1, 1) := dL_law_565_c.2.2.2.2.2.2.2.2.2.2.2.2.2.2.1
theorem dL_law_585 : decode cL_law 585 = .ok (.iadd, 1) := dL_law_565_c.2.2.2.2.2.2.2.2.2.2.2.2.2.2.2
theorem dL_law_586_c : decode cL_law 586 = .ok (.iaload, 1) ∧ decode cL_law 587 = .ok (.aload_n 0, 1) ∧ decode cL_law 588 = .ok (.iload 4, 2) ∧ decode cL_law 590 = .ok (.iconst 2, 1) ∧ decode cL_law 591 = .ok (.iadd, 1) ∧ decode cL_law 592 = .ok (.iaload, 1) := by decide +kernel
theorem dL_law_586 : decode cL_law 586 = .ok (.iaload, 1) := dL_law_586_c.1
theorem dL_law_587 : decode cL_law 587 = .ok (.aload_n 0, 1) := dL_law_586_c.2.1
theorem dL_law_588 : decode cL_law 588 = .ok (.iload 4, 2) := dL_law_586_c.2.2.1
theorem dL_law_590 : decode cL_law 590 = .ok (.iconst 2, 1) := dL_law_586_c.2.2.2.1
theorem dL_law_591 : decode cL_law 591 = .ok (.iadd, 1) := dL_law_586_c.2.2.2.2.1
theorem dL_law_592 : decode cL_law 592 = .ok (.iaload, 1) := dL_law_586_c.2.2.2.2.2
