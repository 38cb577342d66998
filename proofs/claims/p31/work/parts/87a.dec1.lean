theorem dL_law_376 : decode cL_law 376 = .ok (.aload_n 1, 1) := by decide +kernel
theorem dL_law_377 : decode cL_law 377 = .ok (.aload_n 0, 1) := by decide +kernel
theorem dL_law_378 : decode cL_law 378 = .ok (.iload_n 3, 1) := by decide +kernel
theorem dL_law_379 : decode cL_law 379 = .ok (.iconst 1, 1) := by decide +kernel
theorem dL_law_380 : decode cL_law 380 = .ok (.iadd, 1) := by decide +kernel
theorem dL_law_381 : decode cL_law 381 = .ok (.iaload, 1) := by decide +kernel
theorem dL_law_382 : decode cL_law 382 = .ok (.aload_n 0, 1) := by decide +kernel
theorem dL_law_383 : decode cL_law 383 = .ok (.iload_n 3, 1) := by decide +kernel
theorem dL_law_384 : decode cL_law 384 = .ok (.iconst 2, 1) := by decide +kernel
theorem dL_law_385 : decode cL_law 385 = .ok (.iadd, 1) := by decide +kernel
theorem dL_law_386 : decode cL_law 386 = .ok (.iaload, 1) := by decide +kernel
theorem dL_law_387 : decode cL_law 387 = .ok (.aload_n 0, 1) := by decide +kernel
theorem dL_law_388 : decode cL_law 388 = .ok (.iload_n 3, 1) := by decide +kernel
theorem dL_law_389 : decode cL_law 389 = .ok (.iconst 3, 1) := by decide +kernel
theorem dL_law_390 : decode cL_law 390 = .ok (.iadd, 1) := by decide +kernel
theorem dL_law_391 : decode cL_law 391 = .ok (.iaload, 1) := by decide +kernel
theorem dL_law_392 : decode cL_law 392 = .ok (.invokevirtual 48, 3) := by decide +kernel
theorem wd_760 : Cond.methodLink RL 48 yX9_send ∈ BG := BG_in (by decide +kernel) rfl
theorem wd_761 : Cond.code yX9_send cX9_send 6 (some .int) ∈ BG := BG_in (by decide +kernel) rfl
theorem wd_762 : Cond.instanceMethod yX9_send ∈ BG := BG_in (by decide +kernel) rfl
theorem wd_763 : Cond.selects RX9 yX9_send yX9_send ∈ BG := BG_in (by decide +kernel) rfl
theorem okV_X9_send : okV yX9_send cX9_send 6 (some .int) 3 := ⟨⟨wd_761, wd_71, by decide +kernel⟩, wd_762, wd_763⟩
theorem dL_law_395 : decode cL_law 395 = .ok (.pop, 1) := by decide +kernel
theorem dL_law_396 : decode cL_law 396 = .ok (.aload_n 2, 1) := by decide +kernel
theorem dL_law_397 : decode cL_law 397 = .ok (.aload_n 0, 1) := by decide +kernel
theorem dL_law_398 : decode cL_law 398 = .ok (.iload_n 3, 1) := by decide +kernel
theorem dL_law_399 : decode cL_law 399 = .ok (.iconst 1, 1) := by decide +kernel
theorem dL_law_400 : decode cL_law 400 = .ok (.iadd, 1) := by decide +kernel
theorem dL_law_401 : decode cL_law 401 = .ok (.iaload, 1) := by decide +kernel
theorem dL_law_402 : decode cL_law 402 = .ok (.aload_n 0, 1) := by decide +kernel
theorem dL_law_403 : decode cL_law 403 = .ok (.iload_n 3, 1) := by decide +kernel
theorem dL_law_404 : decode cL_law 404 = .ok (.iconst 2, 1) := by decide +kernel
theorem dL_law_405 : decode cL_law 405 = .ok (.iadd, 1) := by decide +kernel
theorem dL_law_406 : decode cL_law 406 = .ok (.iaload, 1) := by decide +kernel
theorem dL_law_407 : decode cL_law 407 = .ok (.aload_n 0, 1) := by decide +kernel
theorem dL_law_408 : decode cL_law 408 = .ok (.iload_n 3, 1) := by decide +kernel
theorem dL_law_409 : decode cL_law 409 = .ok (.iconst 3, 1) := by decide +kernel
theorem dL_law_410 : decode cL_law 410 = .ok (.iadd, 1) := by decide +kernel
theorem dL_law_411 : decode cL_law 411 = .ok (.iaload, 1) := by decide +kernel
theorem dL_law_412 : decode cL_law 412 = .ok (.invokevirtual 52, 3) := by decide +kernel
theorem wd_764 : Cond.methodLink RL 52 yX10_send ∈ BG := BG_in (by decide +kernel) rfl
theorem wd_765 : Cond.code yX10_send cX10_send 6 (some .int) ∈ BG := BG_in (by decide +kernel) rfl
theorem wd_766 : Cond.instanceMethod yX10_send ∈ BG := BG_in (by decide +kernel) rfl
theorem wd_767 : Cond.selects RX10 yX10_send yX10_send ∈ BG := BG_in (by decide +kernel) rfl
theorem okV_X10_send : okV yX10_send cX10_send 6 (some .int) 3 := ⟨⟨wd_765, wd_497, by decide +kernel⟩, wd_766, wd_767⟩
theorem dL_law_415 : decode cL_law 415 = .ok (.pop, 1) := by decide +kernel
theorem dL_law_416 : decode cL_law 416 = .ok (.goto 599, 3) := by decide +kernel
theorem dL_law_419 : decode cL_law 419 = .ok (.aload_n 1, 1) := by decide +kernel
theorem dL_law_420 : decode cL_law 420 = .ok (.aload_n 0, 1) := by decide +kernel
theorem dL_law_421 : decode cL_law 421 = .ok (.iload_n 3, 1) := by decide +kernel
theorem dL_law_422 : decode cL_law 422 = .ok (.iconst 1, 1) := by decide +kernel
theorem dL_law_423 : decode cL_law 423 = .ok (.iadd, 1) := by decide +kernel
theorem dL_law_424 : decode cL_law 424 = .ok (.iaload, 1) := by decide +kernel
theorem dL_law_425 : decode cL_law 425 = .ok (.invokevirtual 53, 3) := by decide +kernel
theorem wd_768 : Cond.methodLink RL 53 yX9_home ∈ BG := BG_in (by decide +kernel) rfl
theorem wd_769 : Cond.code yX9_home cX9_home 3 (some .int) ∈ BG := BG_in (by decide +kernel) rfl
theorem wd_770 : Cond.instanceMethod yX9_home ∈ BG := BG_in (by decide +kernel) rfl
theorem wd_771 : Cond.selects RX9 yX9_home yX9_home ∈ BG := BG_in (by decide +kernel) rfl
theorem okV_X9_home : okV yX9_home cX9_home 3 (some .int) 1 := ⟨⟨wd_769, wd_71, by decide +kernel⟩, wd_770, wd_771⟩
theorem dL_law_428 : decode cL_law 428 = .ok (.pop, 1) := by decide +kernel
theorem dL_law_429 : decode cL_law 429 = .ok (.aload_n 2, 1) := by decide +kernel
theorem dL_law_430 : decode cL_law 430 = .ok (.aload_n 0, 1) := by decide +kernel
theorem dL_law_431 : decode cL_law 431 = .ok (.iload_n 3, 1) := by decide +kernel
theorem dL_law_432 : decode cL_law 432 = .ok (.iconst 1, 1) := by decide +kernel
theorem dL_law_433 : decode cL_law 433 = .ok (.iadd, 1) := by decide +kernel
theorem dL_law_434 : decode cL_law 434 = .ok (.iaload, 1) := by decide +kernel
theorem dL_law_435 : decode cL_law 435 = .ok (.invokevirtual 56, 3) := by decide +kernel
theorem wd_772 : Cond.methodLink RL 56 yX10_home ∈ BG := BG_in (by decide +kernel) rfl
theorem wd_773 : Cond.code yX10_home cX10_home 3 (some .int) ∈ BG := BG_in (by decide +kernel) rfl
theorem wd_774 : Cond.instanceMethod yX10_home ∈ BG := BG_in (by decide +kernel) rfl
theorem wd_775 : Cond.selects RX10 yX10_home yX10_home ∈ BG := BG_in (by decide +kernel) rfl
theorem okV_X10_home : okV yX10_home cX10_home 3 (some .int) 1 := ⟨⟨wd_773, wd_497, by decide +kernel⟩, wd_774, wd_775⟩
theorem dL_law_438 : decode cL_law 438 = .ok (.pop, 1) := by decide +kernel
theorem dL_law_439 : decode cL_law 439 = .ok (.goto 576, 3) := by decide +kernel
theorem dL_law_442 : decode cL_law 442 = .ok (.aload_n 1, 1) := by decide +kernel
theorem dL_law_443 : decode cL_law 443 = .ok (.aload_n 0, 1) := by decide +kernel
theorem dL_law_444 : decode cL_law 444 = .ok (.iload_n 3, 1) := by decide +kernel
theorem dL_law_445 : decode cL_law 445 = .ok (.iconst 1, 1) := by decide +kernel
theorem dL_law_446 : decode cL_law 446 = .ok (.iadd, 1) := by decide +kernel
theorem dL_law_447 : decode cL_law 447 = .ok (.iaload, 1) := by decide +kernel
theorem dL_law_448 : decode cL_law 448 = .ok (.invokevirtual 57, 3) := by decide +kernel
theorem wd_776 : Cond.methodLink RL 57 yX9_pass ∈ BG := BG_in (by decide +kernel) rfl
theorem wd_777 : Cond.code yX9_pass cX9_pass 4 (some .int) ∈ BG := BG_in (by decide +kernel) rfl
theorem wd_778 : Cond.instanceMethod yX9_pass ∈ BG := BG_in (by decide +kernel) rfl
theorem wd_779 : Cond.selects RX9 yX9_pass yX9_pass ∈ BG := BG_in (by decide +kernel) rfl
theorem okV_X9_pass : okV yX9_pass cX9_pass 4 (some .int) 1 := ⟨⟨wd_777, wd_71, by decide +kernel⟩, wd_778, wd_779⟩
theorem dL_law_451 : decode cL_law 451 = .ok (.pop, 1) := by decide +kernel
theorem dL_law_452 : decode cL_law 452 = .ok (.aload_n 2, 1) := by decide +kernel
theorem dL_law_453 : decode cL_law 453 = .ok (.aload_n 0, 1) := by decide +kernel
theorem dL_law_454 : decode cL_law 454 = .ok (.iload_n 3, 1) := by decide +kernel
theorem dL_law_455 : decode cL_law 455 = .ok (.iconst 1, 1) := by decide +kernel
theorem dL_law_456 : decode cL_law 456 = .ok (.iadd, 1) := by decide +kernel
theorem dL_law_457 : decode cL_law 457 = .ok (.iaload, 1) := by decide +kernel
theorem dL_law_458 : decode cL_law 458 = .ok (.invokevirtual 60, 3) := by decide +kernel
theorem wd_780 : Cond.methodLink RL 60 yX10_pass ∈ BG := BG_in (by decide +kernel) rfl
theorem wd_781 : Cond.code yX10_pass cX10_pass 2 (some .int) ∈ BG := BG_in (by decide +kernel) rfl
theorem wd_782 : Cond.instanceMethod yX10_pass ∈ BG := BG_in (by decide +kernel) rfl
theorem wd_783 : Cond.selects RX10 yX10_pass yX10_pass ∈ BG := BG_in (by decide +kernel) rfl
theorem okV_X10_pass : okV yX10_pass cX10_pass 2 (some .int) 1 := ⟨⟨wd_781, wd_497, by decide +kernel⟩, wd_782, wd_783⟩
theorem dL_law_461 : decode cL_law 461 = .ok (.pop, 1) := by decide +kernel
theorem dL_law_462 : decode cL_law 462 = .ok (.goto 553, 3) := by decide +kernel
theorem dL_law_465 : decode cL_law 465 = .ok (.aload_n 1, 1) := by decide +kernel
theorem dL_law_466 : decode cL_law 466 = .ok (.aload_n 0, 1) := by decide +kernel
theorem dL_law_467 : decode cL_law 467 = .ok (.iload_n 3, 1) := by decide +kernel
theorem dL_law_468 : decode cL_law 468 = .ok (.iconst 1, 1) := by decide +kernel
theorem dL_law_469 : decode cL_law 469 = .ok (.iadd, 1) := by decide +kernel
theorem dL_law_470 : decode cL_law 470 = .ok (.iaload, 1) := by decide +kernel
theorem dL_law_471 : decode cL_law 471 = .ok (.aload_n 0, 1) := by decide +kernel
theorem dL_law_472 : decode cL_law 472 = .ok (.iload_n 3, 1) := by decide +kernel
theorem dL_law_473 : decode cL_law 473 = .ok (.iconst 2, 1) := by decide +kernel
theorem dL_law_474 : decode cL_law 474 = .ok (.iadd, 1) := by decide +kernel
theorem dL_law_475 : decode cL_law 475 = .ok (.iaload, 1) := by decide +kernel
theorem dL_law_476 : decode cL_law 476 = .ok (.invokevirtual 61, 3) := by decide +kernel
theorem wd_784 : Cond.methodLink RL 61 yX9_grieve ∈ BG := BG_in (by decide +kernel) rfl
theorem wd_785 : Cond.code yX9_grieve cX9_grieve 3 (some .int) ∈ BG := BG_in (by decide +kernel) rfl
theorem wd_786 : Cond.instanceMethod yX9_grieve ∈ BG := BG_in (by decide +kernel) rfl
theorem wd_787 : Cond.selects RX9 yX9_grieve yX9_grieve ∈ BG := BG_in (by decide +kernel) rfl
theorem okV_X9_grieve : okV yX9_grieve cX9_grieve 3 (some .int) 2 := ⟨⟨wd_785, wd_71, by decide +kernel⟩, wd_786, wd_787⟩
theorem dL_law_479 : decode cL_law 479 = .ok (.pop, 1) := by decide +kernel
theorem dL_law_480 : decode cL_law 480 = .ok (.aload_n 2, 1) := by decide +kernel
theorem dL_law_481 : decode cL_law 481 = .ok (.aload_n 0, 1) := by decide +kernel
theorem dL_law_482 : decode cL_law 482 = .ok (.iload_n 3, 1) := by decide +kernel
theorem dL_law_483 : decode cL_law 483 = .ok (.iconst 1, 1) := by decide +kernel
theorem dL_law_484 : decode cL_law 484 = .ok (.iadd, 1) := by decide +kernel
theorem dL_law_485 : decode cL_law 485 = .ok (.iaload, 1) := by decide +kernel
theorem dL_law_486 : decode cL_law 486 = .ok (.aload_n 0, 1) := by decide +kernel
theorem dL_law_487 : decode cL_law 487 = .ok (.iload_n 3, 1) := by decide +kernel
theorem dL_law_488 : decode cL_law 488 = .ok (.iconst 2, 1) := by decide +kernel
theorem dL_law_489 : decode cL_law 489 = .ok (.iadd, 1) := by decide +kernel
theorem dL_law_490 : decode cL_law 490 = .ok (.iaload, 1) := by decide +kernel
theorem dL_law_491 : decode cL_law 491 = .ok (.invokevirtual 64, 3) := by decide +kernel
theorem wd_788 : Cond.methodLink RL 64 yX10_grieve ∈ BG := BG_in (by decide +kernel) rfl
theorem wd_789 : Cond.code yX10_grieve cX10_grieve 3 (some .int) ∈ BG := BG_in (by decide +kernel) rfl
theorem wd_790 : Cond.instanceMethod yX10_grieve ∈ BG := BG_in (by decide +kernel) rfl
theorem wd_791 : Cond.selects RX10 yX10_grieve yX10_grieve ∈ BG := BG_in (by decide +kernel) rfl
theorem okV_X10_grieve : okV yX10_grieve cX10_grieve 3 (some .int) 2 := ⟨⟨wd_789, wd_497, by decide +kernel⟩, wd_790, wd_791⟩
theorem dL_law_494 : decode cL_law 494 = .ok (.pop, 1) := by decide +kernel
theorem dL_law_495 : decode cL_law 495 = .ok (.goto 520, 3) := by decide +kernel
theorem dL_law_498 : decode cL_law 498 = .ok (.aload_n 1, 1) := by decide +kernel
theorem dL_law_499 : decode cL_law 499 = .ok (.aload_n 0, 1) := by decide +kernel
theorem dL_law_500 : decode cL_law 500 = .ok (.iload_n 3, 1) := by decide +kernel
theorem dL_law_501 : decode cL_law 501 = .ok (.iconst 1, 1) := by decide +kernel
theorem dL_law_502 : decode cL_law 502 = .ok (.iadd, 1) := by decide +kernel
theorem dL_law_503 : decode cL_law 503 = .ok (.iaload, 1) := by decide +kernel
theorem dL_law_504 : decode cL_law 504 = .ok (.invokevirtual 65, 3) := by decide +kernel
theorem wd_792 : Cond.methodLink RL 65 yX9_drift ∈ BG := BG_in (by decide +kernel) rfl
theorem wd_793 : Cond.code yX9_drift cX9_drift 5 (some .int) ∈ BG := BG_in (by decide +kernel) rfl
theorem wd_794 : Cond.instanceMethod yX9_drift ∈ BG := BG_in (by decide +kernel) rfl
theorem wd_795 : Cond.selects RX9 yX9_drift yX9_drift ∈ BG := BG_in (by decide +kernel) rfl
theorem okV_X9_drift : okV yX9_drift cX9_drift 5 (some .int) 1 := ⟨⟨wd_793, wd_71, by decide +kernel⟩, wd_794, wd_795⟩
theorem dL_law_507 : decode cL_law 507 = .ok (.pop, 1) := by decide +kernel
theorem dL_law_508 : decode cL_law 508 = .ok (.aload_n 2, 1) := by decide +kernel
theorem dL_law_509 : decode cL_law 509 = .ok (.aload_n 0, 1) := by decide +kernel
theorem dL_law_510 : decode cL_law 510 = .ok (.iload_n 3, 1) := by decide +kernel
theorem dL_law_511 : decode cL_law 511 = .ok (.iconst 1, 1) := by decide +kernel
theorem dL_law_512 : decode cL_law 512 = .ok (.iadd, 1) := by decide +kernel
theorem dL_law_513 : decode cL_law 513 = .ok (.iaload, 1) := by decide +kernel
theorem dL_law_514 : decode cL_law 514 = .ok (.invokevirtual 68, 3) := by decide +kernel
theorem wd_796 : Cond.methodLink RL 68 yX10_drift ∈ BG := BG_in (by decide +kernel) rfl
theorem wd_797 : Cond.code yX10_drift cX10_drift 4 (some .int) ∈ BG := BG_in (by decide +kernel) rfl
theorem wd_798 : Cond.instanceMethod yX10_drift ∈ BG := BG_in (by decide +kernel) rfl
theorem wd_799 : Cond.selects RX10 yX10_drift yX10_drift ∈ BG := BG_in (by decide +kernel) rfl
theorem okV_X10_drift : okV yX10_drift cX10_drift 4 (some .int) 1 := ⟨⟨wd_797, wd_497, by decide +kernel⟩, wd_798, wd_799⟩
theorem dL_law_517 : decode cL_law 517 = .ok (.pop, 1) := by decide +kernel
theorem dL_law_518 : decode cL_law 518 = .ok (.goto 497, 3) := by decide +kernel
theorem dL_law_521 : decode cL_law 521 = .ok (.aload_n 1, 1) := by decide +kernel
theorem dL_law_522 : decode cL_law 522 = .ok (.invokevirtual 69, 3) := by decide +kernel
theorem wd_800 : Cond.methodLink RL 69 yX9_undo ∈ BG := BG_in (by decide +kernel) rfl
theorem wd_801 : Cond.code yX9_undo cX9_undo 1 (some .int) ∈ BG := BG_in (by decide +kernel) rfl
theorem wd_802 : Cond.instanceMethod yX9_undo ∈ BG := BG_in (by decide +kernel) rfl
theorem wd_803 : Cond.selects RX9 yX9_undo yX9_undo ∈ BG := BG_in (by decide +kernel) rfl
theorem okV_X9_undo : okV yX9_undo cX9_undo 1 (some .int) 0 := ⟨⟨wd_801, wd_71, by decide +kernel⟩, wd_802, wd_803⟩
theorem dL_law_525 : decode cL_law 525 = .ok (.pop, 1) := by decide +kernel
theorem dL_law_526 : decode cL_law 526 = .ok (.aload_n 2, 1) := by decide +kernel
theorem dL_law_527 : decode cL_law 527 = .ok (.invokevirtual 72, 3) := by decide +kernel
theorem wd_804 : Cond.methodLink RL 72 yX10_undo ∈ BG := BG_in (by decide +kernel) rfl
theorem wd_805 : Cond.code yX10_undo cX10_undo 2 (some .int) ∈ BG := BG_in (by decide +kernel) rfl
theorem wd_806 : Cond.instanceMethod yX10_undo ∈ BG := BG_in (by decide +kernel) rfl
theorem wd_807 : Cond.selects RX10 yX10_undo yX10_undo ∈ BG := BG_in (by decide +kernel) rfl
theorem okV_X10_undo : okV yX10_undo cX10_undo 2 (some .int) 0 := ⟨⟨wd_805, wd_497, by decide +kernel⟩, wd_806, wd_807⟩
theorem dL_law_530 : decode cL_law 530 = .ok (.pop, 1) := by decide +kernel
theorem dL_law_531 : decode cL_law 531 = .ok (.goto 484, 3) := by decide +kernel
theorem dL_law_534 : decode cL_law 534 = .ok (.aload_n 1, 1) := by decide +kernel
theorem dL_law_535 : decode cL_law 535 = .ok (.aload_n 0, 1) := by decide +kernel
theorem dL_law_536 : decode cL_law 536 = .ok (.iload_n 3, 1) := by decide +kernel
theorem dL_law_537 : decode cL_law 537 = .ok (.iconst 1, 1) := by decide +kernel
theorem dL_law_538 : decode cL_law 538 = .ok (.iadd, 1) := by decide +kernel
theorem dL_law_539 : decode cL_law 539 = .ok (.iaload, 1) := by decide +kernel
theorem dL_law_540 : decode cL_law 540 = .ok (.aload_n 0, 1) := by decide +kernel
theorem dL_law_541 : decode cL_law 541 = .ok (.iload_n 3, 1) := by decide +kernel
theorem dL_law_542 : decode cL_law 542 = .ok (.iconst 2, 1) := by decide +kernel
theorem dL_law_543 : decode cL_law 543 = .ok (.iadd, 1) := by decide +kernel
theorem dL_law_544 : decode cL_law 544 = .ok (.iaload, 1) := by decide +kernel
theorem dL_law_545 : decode cL_law 545 = .ok (.aload_n 0, 1) := by decide +kernel
theorem dL_law_546 : decode cL_law 546 = .ok (.iload_n 3, 1) := by decide +kernel
theorem dL_law_547 : decode cL_law 547 = .ok (.iconst 3, 1) := by decide +kernel
theorem dL_law_548 : decode cL_law 548 = .ok (.iadd, 1) := by decide +kernel
theorem dL_law_549 : decode cL_law 549 = .ok (.iaload, 1) := by decide +kernel
theorem dL_law_550 : decode cL_law 550 = .ok (.aload_n 0, 1) := by decide +kernel
theorem dL_law_551 : decode cL_law 551 = .ok (.iload_n 3, 1) := by decide +kernel
theorem dL_law_552 : decode cL_law 552 = .ok (.iconst 4, 1) := by decide +kernel
theorem dL_law_553 : decode cL_law 553 = .ok (.iadd, 1) := by decide +kernel
theorem dL_law_554 : decode cL_law 554 = .ok (.iaload, 1) := by decide +kernel
theorem dL_law_555 : decode cL_law 555 = .ok (.invokevirtual 73, 3) := by decide +kernel
theorem wd_808 : Cond.methodLink RL 73 yX9_could ∈ BG := BG_in (by decide +kernel) rfl
theorem wd_809 : Cond.code yX9_could cX9_could 5 (some .int) ∈ BG := BG_in (by decide +kernel) rfl
theorem wd_810 : Cond.instanceMethod yX9_could ∈ BG := BG_in (by decide +kernel) rfl
theorem wd_811 : Cond.selects RX9 yX9_could yX9_could ∈ BG := BG_in (by decide +kernel) rfl
theorem okV_X9_could : okV yX9_could cX9_could 5 (some .int) 4 := ⟨⟨wd_809, wd_71, by decide +kernel⟩, wd_810, wd_811⟩
theorem dL_law_558 : decode cL_law 558 = .ok (.pop, 1) := by decide +kernel
theorem dL_law_559 : decode cL_law 559 = .ok (.aload_n 2, 1) := by decide +kernel
theorem dL_law_560 : decode cL_law 560 = .ok (.aload_n 0, 1) := by decide +kernel
theorem dL_law_561 : decode cL_law 561 = .ok (.iload_n 3, 1) := by decide +kernel
theorem dL_law_562 : decode cL_law 562 = .ok (.iconst 1, 1) := by decide +kernel
theorem dL_law_563 : decode cL_law 563 = .ok (.iadd, 1) := by decide +kernel
theorem dL_law_564 : decode cL_law 564 = .ok (.iaload, 1) := by decide +kernel
theorem dL_law_565 : decode cL_law 565 = .ok (.aload_n 0, 1) := by decide +kernel
theorem dL_law_566 : decode cL_law 566 = .ok (.iload_n 3, 1) := by decide +kernel
theorem dL_law_567 : decode cL_law 567 = .ok (.iconst 2, 1) := by decide +kernel
theorem dL_law_568 : decode cL_law 568 = .ok (.iadd, 1) := by decide +kernel
theorem dL_law_569 : decode cL_law 569 = .ok (.iaload, 1) := by decide +kernel
theorem dL_law_570 : decode cL_law 570 = .ok (.aload_n 0, 1) := by decide +kernel
theorem dL_law_571 : decode cL_law 571 = .ok (.iload_n 3, 1) := by decide +kernel
theorem dL_law_572 : decode cL_law 572 = .ok (.iconst 3, 1) := by decide +kernel
theorem dL_law_573 : decode cL_law 573 = .ok (.iadd, 1) := by decide +kernel
theorem dL_law_574 : decode cL_law 574 = .ok (.iaload, 1) := by decide +kernel
theorem dL_law_575 : decode cL_law 575 = .ok (.aload_n 0, 1) := by decide +kernel
theorem dL_law_576 : decode cL_law 576 = .ok (.iload_n 3, 1) := by decide +kernel
theorem dL_law_577 : decode cL_law 577 = .ok (.iconst 4, 1) := by decide +kernel
theorem dL_law_578 : decode cL_law 578 = .ok (.iadd, 1) := by decide +kernel
theorem dL_law_579 : decode cL_law 579 = .ok (.iaload, 1) := by decide +kernel
theorem dL_law_580 : decode cL_law 580 = .ok (.invokevirtual 77, 3) := by decide +kernel
theorem wd_812 : Cond.methodLink RL 77 yX10_could ∈ BG := BG_in (by decide +kernel) rfl
theorem wd_813 : Cond.code yX10_could cX10_could 5 (some .int) ∈ BG := BG_in (by decide +kernel) rfl
theorem wd_814 : Cond.instanceMethod yX10_could ∈ BG := BG_in (by decide +kernel) rfl
theorem wd_815 : Cond.selects RX10 yX10_could yX10_could ∈ BG := BG_in (by decide +kernel) rfl
theorem okV_X10_could : okV yX10_could cX10_could 5 (some .int) 4 := ⟨⟨wd_813, wd_497, by decide +kernel⟩, wd_814, wd_815⟩
theorem dL_law_583 : decode cL_law 583 = .ok (.pop, 1) := by decide +kernel
theorem dL_law_584 : decode cL_law 584 = .ok (.goto 431, 3) := by decide +kernel
theorem dL_law_587 : decode cL_law 587 = .ok (.aload_n 1, 1) := by decide +kernel
theorem dL_law_588 : decode cL_law 588 = .ok (.aload_n 0, 1) := by decide +kernel
theorem dL_law_589 : decode cL_law 589 = .ok (.iload_n 3, 1) := by decide +kernel
theorem dL_law_590 : decode cL_law 590 = .ok (.iconst 1, 1) := by decide +kernel
theorem dL_law_591 : decode cL_law 591 = .ok (.iadd, 1) := by decide +kernel
theorem dL_law_592 : decode cL_law 592 = .ok (.iaload, 1) := by decide +kernel
theorem dL_law_593 : decode cL_law 593 = .ok (.aload_n 0, 1) := by decide +kernel
theorem dL_law_594 : decode cL_law 594 = .ok (.iload_n 3, 1) := by decide +kernel
theorem dL_law_595 : decode cL_law 595 = .ok (.iconst 2, 1) := by decide +kernel
theorem dL_law_596 : decode cL_law 596 = .ok (.iadd, 1) := by decide +kernel
theorem dL_law_597 : decode cL_law 597 = .ok (.iaload, 1) := by decide +kernel
theorem dL_law_598 : decode cL_law 598 = .ok (.invokevirtual 78, 3) := by decide +kernel
theorem wd_816 : Cond.methodLink RL 78 yX9_bestTheme ∈ BG := BG_in (by decide +kernel) rfl
theorem wd_817 : Cond.code yX9_bestTheme cX9_bestTheme 3 (some .int) ∈ BG := BG_in (by decide +kernel) rfl
theorem wd_818 : Cond.instanceMethod yX9_bestTheme ∈ BG := BG_in (by decide +kernel) rfl
theorem wd_819 : Cond.selects RX9 yX9_bestTheme yX9_bestTheme ∈ BG := BG_in (by decide +kernel) rfl
theorem okV_X9_bestTheme : okV yX9_bestTheme cX9_bestTheme 3 (some .int) 2 := ⟨⟨wd_817, wd_71, by decide +kernel⟩, wd_818, wd_819⟩
theorem dL_law_601 : decode cL_law 601 = .ok (.pop, 1) := by decide +kernel
theorem dL_law_602 : decode cL_law 602 = .ok (.aload_n 2, 1) := by decide +kernel
theorem dL_law_603 : decode cL_law 603 = .ok (.aload_n 0, 1) := by decide +kernel
theorem dL_law_604 : decode cL_law 604 = .ok (.iload_n 3, 1) := by decide +kernel
theorem dL_law_605 : decode cL_law 605 = .ok (.iconst 1, 1) := by decide +kernel
theorem dL_law_606 : decode cL_law 606 = .ok (.iadd, 1) := by decide +kernel
theorem dL_law_607 : decode cL_law 607 = .ok (.iaload, 1) := by decide +kernel
theorem dL_law_608 : decode cL_law 608 = .ok (.aload_n 0, 1) := by decide +kernel
theorem dL_law_609 : decode cL_law 609 = .ok (.iload_n 3, 1) := by decide +kernel
theorem dL_law_610 : decode cL_law 610 = .ok (.iconst 2, 1) := by decide +kernel
theorem dL_law_611 : decode cL_law 611 = .ok (.iadd, 1) := by decide +kernel
theorem dL_law_612 : decode cL_law 612 = .ok (.iaload, 1) := by decide +kernel
theorem dL_law_613 : decode cL_law 613 = .ok (.invokevirtual 81, 3) := by decide +kernel
theorem wd_820 : Cond.methodLink RL 81 yX10_bestTheme ∈ BG := BG_in (by decide +kernel) rfl
theorem wd_821 : Cond.code yX10_bestTheme cX10_bestTheme 3 (some .int) ∈ BG := BG_in (by decide +kernel) rfl
theorem wd_822 : Cond.instanceMethod yX10_bestTheme ∈ BG := BG_in (by decide +kernel) rfl
theorem wd_823 : Cond.selects RX10 yX10_bestTheme yX10_bestTheme ∈ BG := BG_in (by decide +kernel) rfl
theorem okV_X10_bestTheme : okV yX10_bestTheme cX10_bestTheme 3 (some .int) 2 := ⟨⟨wd_821, wd_497, by decide +kernel⟩, wd_822, wd_823⟩
theorem dL_law_616 : decode cL_law 616 = .ok (.pop, 1) := by decide +kernel
theorem dL_law_617 : decode cL_law 617 = .ok (.goto 398, 3) := by decide +kernel
