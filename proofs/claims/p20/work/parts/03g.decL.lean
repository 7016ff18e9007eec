theorem dL_act_132 : decode cL_act 132 = .ok (.iload_n 1, 1) := by decide +kernel
theorem dL_act_133 : decode cL_act 133 = .ok (.bipush 17, 2) := by decide +kernel
theorem dL_act_135 : decode cL_act 135 = .ok (.ishr, 1) := by decide +kernel
theorem dL_act_136 : decode cL_act 136 = .ok (.bipush 7, 2) := by decide +kernel
theorem dL_act_138 : decode cL_act 138 = .ok (.invokestatic 76, 3) := by decide +kernel
theorem dL_act_141 : decode cL_act 141 = .ok (.iconst 1, 1) := by decide +kernel
theorem dL_act_142 : decode cL_act 142 = .ok (.isub, 1) := by decide +kernel
theorem dL_act_143 : decode cL_act 143 = .ok (.goto 11, 3) := by decide +kernel
theorem dL_act_146 : decode cL_act 146 = .ok (.iload_n 1, 1) := by decide +kernel
theorem dL_act_147 : decode cL_act 147 = .ok (.bipush 17, 2) := by decide +kernel
theorem dL_act_149 : decode cL_act 149 = .ok (.ishr, 1) := by decide +kernel
theorem dL_act_150 : decode cL_act 150 = .ok (.iconst 2, 1) := by decide +kernel
theorem dL_act_151 : decode cL_act 151 = .ok (.invokestatic 76, 3) := by decide +kernel
theorem dL_act_154 : decode cL_act 154 = .ok (.istore 7, 2) := by decide +kernel
theorem dL_act_156 : decode cL_act 156 = .ok (.iload_n 2, 1) := by decide +kernel
theorem dL_act_157 : decode cL_act 157 = .ok (.ifCond .eq 17, 3) := by decide +kernel
theorem dL_act_160 : decode cL_act 160 = .ok (.iload_n 1, 1) := by decide +kernel
theorem dL_act_161 : decode cL_act 161 = .ok (.bipush 17, 2) := by decide +kernel
theorem dL_act_163 : decode cL_act 163 = .ok (.ishr, 1) := by decide +kernel
theorem dL_act_164 : decode cL_act 164 = .ok (.bipush 16, 2) := by decide +kernel
theorem dL_act_166 : decode cL_act 166 = .ok (.invokestatic 76, 3) := by decide +kernel
theorem dL_act_169 : decode cL_act 169 = .ok (.iconst 2, 1) := by decide +kernel
theorem dL_act_170 : decode cL_act 170 = .ok (.isub, 1) := by decide +kernel
theorem dL_act_171 : decode cL_act 171 = .ok (.goto 11, 3) := by decide +kernel
theorem dL_act_174 : decode cL_act 174 = .ok (.iload_n 1, 1) := by decide +kernel
theorem dL_act_175 : decode cL_act 175 = .ok (.bipush 17, 2) := by decide +kernel
theorem dL_act_177 : decode cL_act 177 = .ok (.ishr, 1) := by decide +kernel
theorem dL_act_178 : decode cL_act 178 = .ok (.iconst 3, 1) := by decide +kernel
theorem dL_act_179 : decode cL_act 179 = .ok (.invokestatic 76, 3) := by decide +kernel
theorem dL_act_182 : decode cL_act 182 = .ok (.istore 8, 2) := by decide +kernel
theorem dL_act_184 : decode cL_act 184 = .ok (.iload_n 2, 1) := by decide +kernel
theorem dL_act_185 : decode cL_act 185 = .ok (.ifCond .eq 10, 3) := by decide +kernel
theorem dL_act_188 : decode cL_act 188 = .ok (.iload_n 1, 1) := by decide +kernel
theorem dL_act_189 : decode cL_act 189 = .ok (.bipush 9, 2) := by decide +kernel
theorem dL_act_191 : decode cL_act 191 = .ok (.ishr, 1) := by decide +kernel
theorem dL_act_192 : decode cL_act 192 = .ok (.goto 13, 3) := by decide +kernel
theorem dL_act_195 : decode cL_act 195 = .ok (.iload_n 1, 1) := by decide +kernel
theorem dL_act_196 : decode cL_act 196 = .ok (.bipush 9, 2) := by decide +kernel
theorem dL_act_198 : decode cL_act 198 = .ok (.ishr, 1) := by decide +kernel
theorem dL_act_199 : decode cL_act 199 = .ok (.sipush 400, 3) := by decide +kernel
theorem dL_act_202 : decode cL_act 202 = .ok (.invokestatic 76, 3) := by decide +kernel
theorem dL_act_205 : decode cL_act 205 = .ok (.istore 9, 2) := by decide +kernel
theorem dL_act_207 : decode cL_act 207 = .ok (.iload_n 1, 1) := by decide +kernel
theorem dL_act_208 : decode cL_act 208 = .ok (.bipush 30, 2) := by decide +kernel
theorem dL_act_210 : decode cL_act 210 = .ok (.invokestatic 76, 3) := by decide +kernel
theorem dL_act_213 : decode cL_act 213 = .ok (.tableswitch 533 0 28 #[131, 131, 131, 163, 163, 163, 163, 163, 230, 239, 239, 239, 248, 274, 274, 274, 285, 293, 293, 368, 368, 368, 395, 402, 428, 452, 479, 503, 527], 131) := by decide +kernel
theorem dL_act_344 : decode cL_act 344 = .ok (.aload_n 0, 1) := by decide +kernel
theorem dL_act_345 : decode cL_act 345 = .ok (.iload_n 2, 1) := by decide +kernel
theorem dL_act_346 : decode cL_act 346 = .ok (.ifCond .eq 8, 3) := by decide +kernel
theorem dL_act_349 : decode cL_act 349 = .ok (.iload 9, 2) := by decide +kernel
theorem dL_act_351 : decode cL_act 351 = .ok (.goto 12, 3) := by decide +kernel
theorem dL_act_354 : decode cL_act 354 = .ok (.iload_n 1, 1) := by decide +kernel
theorem dL_act_355 : decode cL_act 355 = .ok (.bipush 9, 2) := by decide +kernel
theorem dL_act_357 : decode cL_act 357 = .ok (.ishr, 1) := by decide +kernel
theorem dL_act_358 : decode cL_act 358 = .ok (.bipush 100, 2) := by decide +kernel
theorem dL_act_360 : decode cL_act 360 = .ok (.invokestatic 76, 3) := by decide +kernel
theorem dL_act_363 : decode cL_act 363 = .ok (.iload_n 1, 1) := by decide +kernel
theorem dL_act_364 : decode cL_act 364 = .ok (.bipush 16, 2) := by decide +kernel
theorem dL_act_366 : decode cL_act 366 = .ok (.ishr, 1) := by decide +kernel
theorem dL_act_367 : decode cL_act 367 = .ok (.bipush 100, 2) := by decide +kernel
theorem dL_act_369 : decode cL_act 369 = .ok (.invokestatic 76, 3) := by decide +kernel
theorem dL_act_372 : decode cL_act 372 = .ok (.invokestatic 81, 3) := by decide +kernel
theorem dL_act_375 : decode cL_act 375 = .ok (.lreturn, 1) := by decide +kernel
theorem dL_act_376 : decode cL_act 376 = .ok (.aload_n 0, 1) := by decide +kernel
theorem dL_act_377 : decode cL_act 377 = .ok (.iload_n 3, 1) := by decide +kernel
theorem dL_act_378 : decode cL_act 378 = .ok (.iload 4, 2) := by decide +kernel
theorem dL_act_380 : decode cL_act 380 = .ok (.iload_n 2, 1) := by decide +kernel
theorem dL_act_381 : decode cL_act 381 = .ok (.ifCond .eq 8, 3) := by decide +kernel
theorem dL_act_384 : decode cL_act 384 = .ok (.iload 6, 2) := by decide +kernel
theorem dL_act_386 : decode cL_act 386 = .ok (.goto 14, 3) := by decide +kernel
theorem dL_act_389 : decode cL_act 389 = .ok (.iconst 1, 1) := by decide +kernel
theorem dL_act_390 : decode cL_act 390 = .ok (.iload_n 1, 1) := by decide +kernel
theorem dL_act_391 : decode cL_act 391 = .ok (.bipush 14, 2) := by decide +kernel
theorem dL_act_393 : decode cL_act 393 = .ok (.ishr, 1) := by decide +kernel
theorem dL_act_394 : decode cL_act 394 = .ok (.bipush 8, 2) := by decide +kernel
theorem dL_act_396 : decode cL_act 396 = .ok (.invokestatic 76, 3) := by decide +kernel
theorem dL_act_399 : decode cL_act 399 = .ok (.iadd, 1) := by decide +kernel
theorem dL_act_400 : decode cL_act 400 = .ok (.iload_n 2, 1) := by decide +kernel
theorem dL_act_401 : decode cL_act 401 = .ok (.ifCond .eq 8, 3) := by decide +kernel
theorem dL_act_404 : decode cL_act 404 = .ok (.iload 9, 2) := by decide +kernel
theorem dL_act_406 : decode cL_act 406 = .ok (.goto 15, 3) := by decide +kernel
theorem dL_act_409 : decode cL_act 409 = .ok (.iconst 1, 1) := by decide +kernel
theorem dL_act_410 : decode cL_act 410 = .ok (.iload_n 1, 1) := by decide +kernel
theorem dL_act_411 : decode cL_act 411 = .ok (.bipush 9, 2) := by decide +kernel
theorem dL_act_413 : decode cL_act 413 = .ok (.ishr, 1) := by decide +kernel
theorem dL_act_414 : decode cL_act 414 = .ok (.sipush 300, 3) := by decide +kernel
theorem dL_act_417 : decode cL_act 417 = .ok (.invokestatic 76, 3) := by decide +kernel
theorem dL_act_420 : decode cL_act 420 = .ok (.iadd, 1) := by decide +kernel
theorem dL_act_421 : decode cL_act 421 = .ok (.iload_n 2, 1) := by decide +kernel
theorem dL_act_422 : decode cL_act 422 = .ok (.ifCond .eq 9, 3) := by decide +kernel
theorem dL_act_425 : decode cL_act 425 = .ok (.iload_n 1, 1) := by decide +kernel
theorem dL_act_426 : decode cL_act 426 = .ok (.iconst 3, 1) := by decide +kernel
theorem dL_act_427 : decode cL_act 427 = .ok (.ishr, 1) := by decide +kernel
theorem dL_act_428 : decode cL_act 428 = .ok (.goto 11, 3) := by decide +kernel
theorem dL_act_431 : decode cL_act 431 = .ok (.iload_n 1, 1) := by decide +kernel
theorem dL_act_432 : decode cL_act 432 = .ok (.iconst 3, 1) := by decide +kernel
theorem dL_act_433 : decode cL_act 433 = .ok (.ishr, 1) := by decide +kernel
theorem dL_act_434 : decode cL_act 434 = .ok (.bipush 50, 2) := by decide +kernel
theorem dL_act_436 : decode cL_act 436 = .ok (.invokestatic 76, 3) := by decide +kernel
theorem dL_act_439 : decode cL_act 439 = .ok (.invokestatic 84, 3) := by decide +kernel
theorem dL_act_442 : decode cL_act 442 = .ok (.lreturn, 1) := by decide +kernel
theorem dL_act_443 : decode cL_act 443 = .ok (.aload_n 0, 1) := by decide +kernel
theorem dL_act_444 : decode cL_act 444 = .ok (.iload 5, 2) := by decide +kernel
theorem dL_act_446 : decode cL_act 446 = .ok (.iload 9, 2) := by decide +kernel
theorem dL_act_448 : decode cL_act 448 = .ok (.invokestatic 87, 3) := by decide +kernel
theorem dL_act_451 : decode cL_act 451 = .ok (.lreturn, 1) := by decide +kernel
theorem dL_act_452 : decode cL_act 452 = .ok (.aload_n 0, 1) := by decide +kernel
theorem dL_act_453 : decode cL_act 453 = .ok (.iload 5, 2) := by decide +kernel
theorem dL_act_455 : decode cL_act 455 = .ok (.iload 6, 2) := by decide +kernel
theorem dL_act_457 : decode cL_act 457 = .ok (.invokestatic 89, 3) := by decide +kernel
theorem dL_act_460 : decode cL_act 460 = .ok (.lreturn, 1) := by decide +kernel
theorem dL_act_461 : decode cL_act 461 = .ok (.aload_n 0, 1) := by decide +kernel
theorem dL_act_462 : decode cL_act 462 = .ok (.iload_n 3, 1) := by decide +kernel
theorem dL_act_463 : decode cL_act 463 = .ok (.iload_n 2, 1) := by decide +kernel
theorem dL_act_464 : decode cL_act 464 = .ok (.ifCond .eq 8, 3) := by decide +kernel
theorem dL_act_467 : decode cL_act 467 = .ok (.iload 9, 2) := by decide +kernel
theorem dL_act_469 : decode cL_act 469 = .ok (.goto 14, 3) := by decide +kernel
theorem dL_act_472 : decode cL_act 472 = .ok (.iconst 1, 1) := by decide +kernel
theorem dL_act_473 : decode cL_act 473 = .ok (.iload_n 1, 1) := by decide +kernel
theorem dL_act_474 : decode cL_act 474 = .ok (.bipush 9, 2) := by decide +kernel
theorem dL_act_476 : decode cL_act 476 = .ok (.ishr, 1) := by decide +kernel
theorem dL_act_477 : decode cL_act 477 = .ok (.bipush 20, 2) := by decide +kernel
theorem dL_act_479 : decode cL_act 479 = .ok (.invokestatic 76, 3) := by decide +kernel
theorem dL_act_482 : decode cL_act 482 = .ok (.iadd, 1) := by decide +kernel
theorem dL_act_483 : decode cL_act 483 = .ok (.invokestatic 91, 3) := by decide +kernel
theorem dL_act_486 : decode cL_act 486 = .ok (.lreturn, 1) := by decide +kernel
theorem dL_act_487 : decode cL_act 487 = .ok (.aload_n 0, 1) := by decide +kernel
theorem dL_act_488 : decode cL_act 488 = .ok (.iload 7, 2) := by decide +kernel
theorem dL_act_490 : decode cL_act 490 = .ok (.iload 5, 2) := by decide +kernel
theorem dL_act_492 : decode cL_act 492 = .ok (.iload 6, 2) := by decide +kernel
theorem dL_act_494 : decode cL_act 494 = .ok (.invokestatic 93, 3) := by decide +kernel
theorem dL_act_497 : decode cL_act 497 = .ok (.lreturn, 1) := by decide +kernel
theorem dL_act_498 : decode cL_act 498 = .ok (.aload_n 0, 1) := by decide +kernel
theorem dL_act_499 : decode cL_act 499 = .ok (.iload 7, 2) := by decide +kernel
theorem dL_act_501 : decode cL_act 501 = .ok (.iload_n 3, 1) := by decide +kernel
theorem dL_act_502 : decode cL_act 502 = .ok (.invokestatic 96, 3) := by decide +kernel
theorem dL_act_505 : decode cL_act 505 = .ok (.lreturn, 1) := by decide +kernel
theorem dL_act_506 : decode cL_act 506 = .ok (.aload_n 0, 1) := by decide +kernel
theorem dL_act_507 : decode cL_act 507 = .ok (.iload_n 3, 1) := by decide +kernel
theorem dL_act_508 : decode cL_act 508 = .ok (.iload 4, 2) := by decide +kernel
theorem dL_act_510 : decode cL_act 510 = .ok (.iload_n 2, 1) := by decide +kernel
theorem dL_act_511 : decode cL_act 511 = .ok (.ifCond .eq 8, 3) := by decide +kernel
theorem dL_act_514 : decode cL_act 514 = .ok (.iload 9, 2) := by decide +kernel
theorem dL_act_516 : decode cL_act 516 = .ok (.goto 15, 3) := by decide +kernel
theorem dL_act_519 : decode cL_act 519 = .ok (.iconst 1, 1) := by decide +kernel
theorem dL_act_520 : decode cL_act 520 = .ok (.iload_n 1, 1) := by decide +kernel
theorem dL_act_521 : decode cL_act 521 = .ok (.bipush 9, 2) := by decide +kernel
theorem dL_act_523 : decode cL_act 523 = .ok (.ishr, 1) := by decide +kernel
theorem dL_act_524 : decode cL_act 524 = .ok (.sipush 900, 3) := by decide +kernel
theorem dL_act_527 : decode cL_act 527 = .ok (.invokestatic 76, 3) := by decide +kernel
theorem dL_act_530 : decode cL_act 530 = .ok (.iadd, 1) := by decide +kernel
theorem dL_act_531 : decode cL_act 531 = .ok (.iload_n 2, 1) := by decide +kernel
theorem dL_act_532 : decode cL_act 532 = .ok (.ifCond .eq 9, 3) := by decide +kernel
theorem dL_act_535 : decode cL_act 535 = .ok (.iload_n 1, 1) := by decide +kernel
theorem dL_act_536 : decode cL_act 536 = .ok (.iconst 4, 1) := by decide +kernel
theorem dL_act_537 : decode cL_act 537 = .ok (.ishr, 1) := by decide +kernel
theorem dL_act_538 : decode cL_act 538 = .ok (.goto 11, 3) := by decide +kernel
theorem dL_act_541 : decode cL_act 541 = .ok (.iload_n 1, 1) := by decide +kernel
theorem dL_act_542 : decode cL_act 542 = .ok (.iconst 4, 1) := by decide +kernel
theorem dL_act_543 : decode cL_act 543 = .ok (.ishr, 1) := by decide +kernel
theorem dL_act_544 : decode cL_act 544 = .ok (.bipush 90, 2) := by decide +kernel
theorem dL_act_546 : decode cL_act 546 = .ok (.invokestatic 76, 3) := by decide +kernel
theorem dL_act_549 : decode cL_act 549 = .ok (.iload_n 1, 1) := by decide +kernel
theorem dL_act_550 : decode cL_act 550 = .ok (.bipush 6, 2) := by decide +kernel
theorem dL_act_552 : decode cL_act 552 = .ok (.ishr, 1) := by decide +kernel
theorem dL_act_553 : decode cL_act 553 = .ok (.bipush 60, 2) := by decide +kernel
theorem dL_act_555 : decode cL_act 555 = .ok (.invokestatic 76, 3) := by decide +kernel
theorem dL_act_558 : decode cL_act 558 = .ok (.iload_n 2, 1) := by decide +kernel
theorem dL_act_559 : decode cL_act 559 = .ok (.ifCond .eq 9, 3) := by decide +kernel
theorem dL_act_562 : decode cL_act 562 = .ok (.iload_n 1, 1) := by decide +kernel
theorem dL_act_563 : decode cL_act 563 = .ok (.iconst 2, 1) := by decide +kernel
theorem dL_act_564 : decode cL_act 564 = .ok (.ishr, 1) := by decide +kernel
theorem dL_act_565 : decode cL_act 565 = .ok (.goto 12, 3) := by decide +kernel
theorem dL_act_568 : decode cL_act 568 = .ok (.iload_n 1, 1) := by decide +kernel
theorem dL_act_569 : decode cL_act 569 = .ok (.iconst 2, 1) := by decide +kernel
theorem dL_act_570 : decode cL_act 570 = .ok (.ishr, 1) := by decide +kernel
theorem dL_act_571 : decode cL_act 571 = .ok (.sipush 3000, 3) := by decide +kernel
theorem dL_act_574 : decode cL_act 574 = .ok (.invokestatic 76, 3) := by decide +kernel
theorem dL_act_577 : decode cL_act 577 = .ok (.invokestatic 98, 3) := by decide +kernel
theorem dL_act_580 : decode cL_act 580 = .ok (.lreturn, 1) := by decide +kernel
theorem dL_act_581 : decode cL_act 581 = .ok (.aload_n 0, 1) := by decide +kernel
theorem dL_act_582 : decode cL_act 582 = .ok (.iload_n 2, 1) := by decide +kernel
theorem dL_act_583 : decode cL_act 583 = .ok (.ifCond .eq 10, 3) := by decide +kernel
theorem dL_act_586 : decode cL_act 586 = .ok (.iload_n 1, 1) := by decide +kernel
theorem dL_act_587 : decode cL_act 587 = .ok (.bipush 9, 2) := by decide +kernel
theorem dL_act_589 : decode cL_act 589 = .ok (.ishr, 1) := by decide +kernel
theorem dL_act_590 : decode cL_act 590 = .ok (.goto 14, 3) := by decide +kernel
theorem dL_act_593 : decode cL_act 593 = .ok (.iconst 1, 1) := by decide +kernel
theorem dL_act_594 : decode cL_act 594 = .ok (.iload_n 1, 1) := by decide +kernel
theorem dL_act_595 : decode cL_act 595 = .ok (.bipush 9, 2) := by decide +kernel
theorem dL_act_597 : decode cL_act 597 = .ok (.ishr, 1) := by decide +kernel
theorem dL_act_598 : decode cL_act 598 = .ok (.bipush 12, 2) := by decide +kernel
theorem dL_act_600 : decode cL_act 600 = .ok (.invokestatic 76, 3) := by decide +kernel
theorem dL_act_603 : decode cL_act 603 = .ok (.iadd, 1) := by decide +kernel
theorem dL_act_604 : decode cL_act 604 = .ok (.invokestatic 101, 3) := by decide +kernel
theorem dL_act_607 : decode cL_act 607 = .ok (.lreturn, 1) := by decide +kernel
theorem dL_act_608 : decode cL_act 608 = .ok (.aload_n 0, 1) := by decide +kernel
theorem dL_act_609 : decode cL_act 609 = .ok (.iload 5, 2) := by decide +kernel
theorem dL_act_611 : decode cL_act 611 = .ok (.invokestatic 104, 3) := by decide +kernel
theorem dL_act_614 : decode cL_act 614 = .ok (.lreturn, 1) := by decide +kernel
theorem dL_act_615 : decode cL_act 615 = .ok (.aload_n 0, 1) := by decide +kernel
theorem dL_act_616 : decode cL_act 616 = .ok (.iload_n 2, 1) := by decide +kernel
theorem dL_act_617 : decode cL_act 617 = .ok (.ifCond .eq 11, 3) := by decide +kernel
theorem dL_act_620 : decode cL_act 620 = .ok (.iload 9, 2) := by decide +kernel
theorem dL_act_622 : decode cL_act 622 = .ok (.bipush 9, 2) := by decide +kernel
theorem dL_act_624 : decode cL_act 624 = .ok (.isub, 1) := by decide +kernel
theorem dL_act_625 : decode cL_act 625 = .ok (.goto 12, 3) := by decide +kernel
theorem dL_act_628 : decode cL_act 628 = .ok (.iload_n 1, 1) := by decide +kernel
theorem dL_act_629 : decode cL_act 629 = .ok (.bipush 9, 2) := by decide +kernel
theorem dL_act_631 : decode cL_act 631 = .ok (.ishr, 1) := by decide +kernel
theorem dL_act_632 : decode cL_act 632 = .ok (.bipush 6, 2) := by decide +kernel
theorem dL_act_634 : decode cL_act 634 = .ok (.invokestatic 76, 3) := by decide +kernel
theorem dL_act_637 : decode cL_act 637 = .ok (.invokestatic 106, 3) := by decide +kernel
theorem dL_act_640 : decode cL_act 640 = .ok (.lreturn, 1) := by decide +kernel
theorem dL_act_641 : decode cL_act 641 = .ok (.aload_n 0, 1) := by decide +kernel
theorem dL_act_642 : decode cL_act 642 = .ok (.iload 7, 2) := by decide +kernel
theorem dL_act_644 : decode cL_act 644 = .ok (.iload_n 2, 1) := by decide +kernel
theorem dL_act_645 : decode cL_act 645 = .ok (.ifCond .eq 8, 3) := by decide +kernel
theorem dL_act_648 : decode cL_act 648 = .ok (.iload 9, 2) := by decide +kernel
theorem dL_act_650 : decode cL_act 650 = .ok (.goto 11, 3) := by decide +kernel
theorem dL_act_653 : decode cL_act 653 = .ok (.iload_n 1, 1) := by decide +kernel
theorem dL_act_654 : decode cL_act 654 = .ok (.bipush 9, 2) := by decide +kernel
theorem dL_act_656 : decode cL_act 656 = .ok (.ishr, 1) := by decide +kernel
theorem dL_act_657 : decode cL_act 657 = .ok (.iconst 5, 1) := by decide +kernel
theorem dL_act_658 : decode cL_act 658 = .ok (.invokestatic 76, 3) := by decide +kernel
theorem dL_act_661 : decode cL_act 661 = .ok (.invokestatic 108, 3) := by decide +kernel
theorem dL_act_664 : decode cL_act 664 = .ok (.lreturn, 1) := by decide +kernel
theorem dL_act_665 : decode cL_act 665 = .ok (.aload_n 0, 1) := by decide +kernel
theorem dL_act_666 : decode cL_act 666 = .ok (.iload 8, 2) := by decide +kernel
theorem dL_act_668 : decode cL_act 668 = .ok (.iload_n 2, 1) := by decide +kernel
theorem dL_act_669 : decode cL_act 669 = .ok (.ifCond .eq 11, 3) := by decide +kernel
theorem dL_act_672 : decode cL_act 672 = .ok (.iload 9, 2) := by decide +kernel
theorem dL_act_674 : decode cL_act 674 = .ok (.bipush 9, 2) := by decide +kernel
theorem dL_act_676 : decode cL_act 676 = .ok (.isub, 1) := by decide +kernel
theorem dL_act_677 : decode cL_act 677 = .ok (.goto 11, 3) := by decide +kernel
theorem dL_act_680 : decode cL_act 680 = .ok (.iload_n 1, 1) := by decide +kernel
theorem dL_act_681 : decode cL_act 681 = .ok (.bipush 9, 2) := by decide +kernel
theorem dL_act_683 : decode cL_act 683 = .ok (.ishr, 1) := by decide +kernel
theorem dL_act_684 : decode cL_act 684 = .ok (.iconst 4, 1) := by decide +kernel
theorem dL_act_685 : decode cL_act 685 = .ok (.invokestatic 76, 3) := by decide +kernel
theorem dL_act_688 : decode cL_act 688 = .ok (.invokestatic 110, 3) := by decide +kernel
theorem dL_act_691 : decode cL_act 691 = .ok (.lreturn, 1) := by decide +kernel
theorem dL_act_692 : decode cL_act 692 = .ok (.aload_n 0, 1) := by decide +kernel
theorem dL_act_693 : decode cL_act 693 = .ok (.iload 8, 2) := by decide +kernel
theorem dL_act_695 : decode cL_act 695 = .ok (.iload_n 2, 1) := by decide +kernel
theorem dL_act_696 : decode cL_act 696 = .ok (.ifCond .eq 8, 3) := by decide +kernel
theorem dL_act_699 : decode cL_act 699 = .ok (.iload 9, 2) := by decide +kernel
theorem dL_act_701 : decode cL_act 701 = .ok (.goto 11, 3) := by decide +kernel
theorem dL_act_704 : decode cL_act 704 = .ok (.iload_n 1, 1) := by decide +kernel
theorem dL_act_705 : decode cL_act 705 = .ok (.bipush 9, 2) := by decide +kernel
theorem dL_act_707 : decode cL_act 707 = .ok (.ishr, 1) := by decide +kernel
theorem dL_act_708 : decode cL_act 708 = .ok (.iconst 3, 1) := by decide +kernel
theorem dL_act_709 : decode cL_act 709 = .ok (.invokestatic 76, 3) := by decide +kernel
theorem dL_act_712 : decode cL_act 712 = .ok (.invokestatic 112, 3) := by decide +kernel
theorem dL_act_715 : decode cL_act 715 = .ok (.lreturn, 1) := by decide +kernel
theorem dL_act_716 : decode cL_act 716 = .ok (.aload_n 0, 1) := by decide +kernel
theorem dL_act_717 : decode cL_act 717 = .ok (.iload 8, 2) := by decide +kernel
theorem dL_act_719 : decode cL_act 719 = .ok (.iload_n 2, 1) := by decide +kernel
theorem dL_act_720 : decode cL_act 720 = .ok (.ifCond .eq 8, 3) := by decide +kernel
theorem dL_act_723 : decode cL_act 723 = .ok (.iload 9, 2) := by decide +kernel
theorem dL_act_725 : decode cL_act 725 = .ok (.goto 11, 3) := by decide +kernel
theorem dL_act_728 : decode cL_act 728 = .ok (.iload_n 1, 1) := by decide +kernel
theorem dL_act_729 : decode cL_act 729 = .ok (.bipush 9, 2) := by decide +kernel
theorem dL_act_731 : decode cL_act 731 = .ok (.ishr, 1) := by decide +kernel
theorem dL_act_732 : decode cL_act 732 = .ok (.iconst 4, 1) := by decide +kernel
theorem dL_act_733 : decode cL_act 733 = .ok (.invokestatic 76, 3) := by decide +kernel
theorem dL_act_736 : decode cL_act 736 = .ok (.invokestatic 114, 3) := by decide +kernel
theorem dL_act_739 : decode cL_act 739 = .ok (.lreturn, 1) := by decide +kernel
theorem dL_act_740 : decode cL_act 740 = .ok (.aload_n 0, 1) := by decide +kernel
theorem dL_act_741 : decode cL_act 741 = .ok (.iload_n 3, 1) := by decide +kernel
theorem dL_act_742 : decode cL_act 742 = .ok (.invokestatic 116, 3) := by decide +kernel
theorem dL_act_745 : decode cL_act 745 = .ok (.lreturn, 1) := by decide +kernel
theorem dL_act_746 : decode cL_act 746 = .ok (.aload_n 0, 1) := by decide +kernel
theorem dL_act_747 : decode cL_act 747 = .ok (.iload 8, 2) := by decide +kernel
theorem dL_act_749 : decode cL_act 749 = .ok (.invokestatic 118, 3) := by decide +kernel
theorem dL_act_752 : decode cL_act 752 = .ok (.lreturn, 1) := by decide +kernel
theorem dL_areAlike_0 : decode cL_areAlike 0 = .ok (.aload_n 0, 1) := by decide +kernel
theorem dL_areAlike_1 : decode cL_areAlike 1 = .ok (.iload_n 2, 1) := by decide +kernel
theorem dL_areAlike_2 : decode cL_areAlike 2 = .ok (.iconst 4, 1) := by decide +kernel
theorem dL_areAlike_3 : decode cL_areAlike 3 = .ok (.invokestatic 76, 3) := by decide +kernel
theorem dL_areAlike_6 : decode cL_areAlike 6 = .ok (.invokestatic 106, 3) := by decide +kernel
theorem dL_areAlike_9 : decode cL_areAlike 9 = .ok (.aload_n 1, 1) := by decide +kernel
theorem dL_areAlike_10 : decode cL_areAlike 10 = .ok (.iload_n 2, 1) := by decide +kernel
theorem dL_areAlike_11 : decode cL_areAlike 11 = .ok (.iconst 4, 1) := by decide +kernel
theorem dL_areAlike_12 : decode cL_areAlike 12 = .ok (.invokestatic 76, 3) := by decide +kernel
theorem dL_areAlike_15 : decode cL_areAlike 15 = .ok (.invokestatic 106, 3) := by decide +kernel
theorem dL_areAlike_18 : decode cL_areAlike 18 = .ok (.lcmp, 1) := by decide +kernel
theorem dL_areAlike_19 : decode cL_areAlike 19 = .ok (.ifCond .ne 7, 3) := by decide +kernel
theorem dL_areAlike_22 : decode cL_areAlike 22 = .ok (.iconst 1, 1) := by decide +kernel
theorem dL_areAlike_23 : decode cL_areAlike 23 = .ok (.goto 4, 3) := by decide +kernel
theorem dL_areAlike_26 : decode cL_areAlike 26 = .ok (.iconst 0, 1) := by decide +kernel
theorem dL_areAlike_27 : decode cL_areAlike 27 = .ok (.istore_n 3, 1) := by decide +kernel
theorem dL_areAlike_28 : decode cL_areAlike 28 = .ok (.iconst 0, 1) := by decide +kernel
theorem dL_areAlike_29 : decode cL_areAlike 29 = .ok (.istore 4, 2) := by decide +kernel
theorem dL_areAlike_31 : decode cL_areAlike 31 = .ok (.iload 4, 2) := by decide +kernel
theorem dL_areAlike_33 : decode cL_areAlike 33 = .ok (.iconst 5, 1) := by decide +kernel
theorem dL_areAlike_34 : decode cL_areAlike 34 = .ok (.if_icmp .ge 169, 3) := by decide +kernel
theorem dL_areAlike_37 : decode cL_areAlike 37 = .ok (.iload_n 3, 1) := by decide +kernel
theorem dL_areAlike_38 : decode cL_areAlike 38 = .ok (.ifCond .eq 165, 3) := by decide +kernel
theorem dL_areAlike_41 : decode cL_areAlike 41 = .ok (.aload_n 0, 1) := by decide +kernel
