theorem dL_act_268 : decode cL_act 268 = .ok (.iload 8, 2) := by decide +kernel
theorem dL_act_270 : decode cL_act 270 = .ok (.iload 6, 2) := by decide +kernel
theorem dL_act_272 : decode cL_act 272 = .ok (.if_icmp .gt 7, 3) := by decide +kernel
theorem dL_act_275 : decode cL_act 275 = .ok (.iconst 1, 1) := by decide +kernel
theorem dL_act_276 : decode cL_act 276 = .ok (.goto 4, 3) := by decide +kernel
theorem dL_act_279 : decode cL_act 279 = .ok (.iconst 0, 1) := by decide +kernel
theorem dL_act_280 : decode cL_act 280 = .ok (.if_icmp .ne 7, 3) := by decide +kernel
theorem dL_act_283 : decode cL_act 283 = .ok (.iconst 1, 1) := by decide +kernel
theorem dL_act_284 : decode cL_act 284 = .ok (.goto 4, 3) := by decide +kernel
theorem dL_act_287 : decode cL_act 287 = .ok (.iconst 0, 1) := by decide +kernel
theorem dL_act_288 : decode cL_act 288 = .ok (.ireturn, 1) := by decide +kernel
theorem dL_act_289 : decode cL_act 289 = .ok (.iload_n 2, 1) := by decide +kernel
theorem dL_act_290 : decode cL_act 290 = .ok (.ifCond .ne 7, 3) := by decide +kernel
theorem dL_act_293 : decode cL_act 293 = .ok (.iconst 0, 1) := by decide +kernel
theorem dL_act_294 : decode cL_act 294 = .ok (.goto 9, 3) := by decide +kernel
theorem dL_act_297 : decode cL_act 297 = .ok (.aload_n 0, 1) := by decide +kernel
theorem dL_act_298 : decode cL_act 298 = .ok (.iload 4, 2) := by decide +kernel
theorem dL_act_300 : decode cL_act 300 = .ok (.invokevirtual 153, 3) := by decide +kernel
theorem dL_act_303 : decode cL_act 303 = .ok (.istore 12, 2) := by decide +kernel
theorem dL_act_305 : decode cL_act 305 = .ok (.aload_n 0, 1) := by decide +kernel
theorem dL_act_306 : decode cL_act 306 = .ok (.invokevirtual 162, 3) := by decide +kernel
theorem dL_act_309 : decode cL_act 309 = .ok (.istore 13, 2) := by decide +kernel
theorem dL_act_311 : decode cL_act 311 = .ok (.aload_n 0, 1) := by decide +kernel
theorem dL_act_312 : decode cL_act 312 = .ok (.iload 4, 2) := by decide +kernel
theorem dL_act_314 : decode cL_act 314 = .ok (.invokestatic 229, 3) := by decide +kernel
theorem dL_act_317 : decode cL_act 317 = .ok (.istore 14, 2) := by decide +kernel
theorem dL_act_319 : decode cL_act 319 = .ok (.iload_n 2, 1) := by decide +kernel
theorem dL_act_320 : decode cL_act 320 = .ok (.ifCond .eq 8, 3) := by decide +kernel
theorem dL_act_323 : decode cL_act 323 = .ok (.iload 12, 2) := by decide +kernel
theorem dL_act_325 : decode cL_act 325 = .ok (.ifCond .eq 36, 3) := by decide +kernel
theorem dL_act_328 : decode cL_act 328 = .ok (.iload 14, 2) := by decide +kernel
theorem dL_act_330 : decode cL_act 330 = .ok (.iload_n 2, 1) := by decide +kernel
theorem dL_act_331 : decode cL_act 331 = .ok (.ifCond .ne 8, 3) := by decide +kernel
theorem dL_act_334 : decode cL_act 334 = .ok (.bipush (-5), 2) := by decide +kernel
theorem dL_act_336 : decode cL_act 336 = .ok (.goto 5, 3) := by decide +kernel
theorem dL_act_339 : decode cL_act 339 = .ok (.bipush (-3), 2) := by decide +kernel
theorem dL_act_341 : decode cL_act 341 = .ok (.if_icmp .ne 16, 3) := by decide +kernel
theorem dL_act_344 : decode cL_act 344 = .ok (.aload_n 0, 1) := by decide +kernel
theorem dL_act_345 : decode cL_act 345 = .ok (.iload 4, 2) := by decide +kernel
theorem dL_act_347 : decode cL_act 347 = .ok (.invokestatic 232, 3) := by decide +kernel
theorem dL_act_350 : decode cL_act 350 = .ok (.ifCond .lt 7, 3) := by decide +kernel
theorem dL_act_353 : decode cL_act 353 = .ok (.iconst 1, 1) := by decide +kernel
theorem dL_act_354 : decode cL_act 354 = .ok (.goto 37, 3) := by decide +kernel
theorem dL_act_357 : decode cL_act 357 = .ok (.iconst 0, 1) := by decide +kernel
theorem dL_act_358 : decode cL_act 358 = .ok (.goto 33, 3) := by decide +kernel
theorem dL_act_361 : decode cL_act 361 = .ok (.iload 14, 2) := by decide +kernel
theorem dL_act_363 : decode cL_act 363 = .ok (.ifCond .le 27, 3) := by decide +kernel
theorem dL_act_366 : decode cL_act 366 = .ok (.aload_n 0, 1) := by decide +kernel
theorem dL_act_367 : decode cL_act 367 = .ok (.iload 4, 2) := by decide +kernel
theorem dL_act_369 : decode cL_act 369 = .ok (.invokevirtual 109, 3) := by decide +kernel
theorem dL_act_372 : decode cL_act 372 = .ok (.ifCond .eq 18, 3) := by decide +kernel
theorem dL_act_375 : decode cL_act 375 = .ok (.aload_n 0, 1) := by decide +kernel
theorem dL_act_376 : decode cL_act 376 = .ok (.invokevirtual 162, 3) := by decide +kernel
theorem dL_act_379 : decode cL_act 379 = .ok (.iload 13, 2) := by decide +kernel
theorem dL_act_381 : decode cL_act 381 = .ok (.iconst 1, 1) := by decide +kernel
theorem dL_act_382 : decode cL_act 382 = .ok (.isub, 1) := by decide +kernel
theorem dL_act_383 : decode cL_act 383 = .ok (.if_icmp .ne 7, 3) := by decide +kernel
theorem dL_act_386 : decode cL_act 386 = .ok (.iconst 1, 1) := by decide +kernel
theorem dL_act_387 : decode cL_act 387 = .ok (.goto 4, 3) := by decide +kernel
theorem dL_act_390 : decode cL_act 390 = .ok (.iconst 0, 1) := by decide +kernel
theorem dL_act_391 : decode cL_act 391 = .ok (.ireturn, 1) := by decide +kernel
theorem dL_act_392 : decode cL_act 392 = .ok (.iload_n 2, 1) := by decide +kernel
theorem dL_act_393 : decode cL_act 393 = .ok (.ifCond .le 16, 3) := by decide +kernel
theorem dL_act_396 : decode cL_act 396 = .ok (.aload_n 0, 1) := by decide +kernel
theorem dL_act_397 : decode cL_act 397 = .ok (.iload 4, 2) := by decide +kernel
theorem dL_act_399 : decode cL_act 399 = .ok (.invokevirtual 109, 3) := by decide +kernel
theorem dL_act_402 : decode cL_act 402 = .ok (.ifCond .eq 7, 3) := by decide +kernel
theorem dL_act_405 : decode cL_act 405 = .ok (.iconst 1, 1) := by decide +kernel
theorem dL_act_406 : decode cL_act 406 = .ok (.goto 4, 3) := by decide +kernel
theorem dL_act_409 : decode cL_act 409 = .ok (.iconst 0, 1) := by decide +kernel
theorem dL_act_410 : decode cL_act 410 = .ok (.istore 15, 2) := by decide +kernel
theorem dL_act_412 : decode cL_act 412 = .ok (.aload_n 0, 1) := by decide +kernel
theorem dL_act_413 : decode cL_act 413 = .ok (.iload 4, 2) := by decide +kernel
theorem dL_act_415 : decode cL_act 415 = .ok (.invokestatic 235, 3) := by decide +kernel
theorem dL_act_418 : decode cL_act 418 = .ok (.istore 16, 2) := by decide +kernel
theorem dL_act_420 : decode cL_act 420 = .ok (.iload 15, 2) := by decide +kernel
theorem dL_act_422 : decode cL_act 422 = .ok (.ifCond .eq 25, 3) := by decide +kernel
theorem dL_act_425 : decode cL_act 425 = .ok (.iload 16, 2) := by decide +kernel
theorem dL_act_427 : decode cL_act 427 = .ok (.ifCond .lt 16, 3) := by decide +kernel
theorem dL_act_430 : decode cL_act 430 = .ok (.aload_n 0, 1) := by decide +kernel
theorem dL_act_431 : decode cL_act 431 = .ok (.iload 4, 2) := by decide +kernel
theorem dL_act_433 : decode cL_act 433 = .ok (.invokevirtual 109, 3) := by decide +kernel
theorem dL_act_436 : decode cL_act 436 = .ok (.ifCond .ne 7, 3) := by decide +kernel
theorem dL_act_439 : decode cL_act 439 = .ok (.iconst 1, 1) := by decide +kernel
theorem dL_act_440 : decode cL_act 440 = .ok (.goto 41, 3) := by decide +kernel
theorem dL_act_443 : decode cL_act 443 = .ok (.iconst 0, 1) := by decide +kernel
theorem dL_act_444 : decode cL_act 444 = .ok (.goto 37, 3) := by decide +kernel
theorem dL_act_447 : decode cL_act 447 = .ok (.iload 16, 2) := by decide +kernel
theorem dL_act_449 : decode cL_act 449 = .ok (.iload_n 2, 1) := by decide +kernel
theorem dL_act_450 : decode cL_act 450 = .ok (.ifCond .ne 8, 3) := by decide +kernel
theorem dL_act_453 : decode cL_act 453 = .ok (.bipush (-5), 2) := by decide +kernel
theorem dL_act_455 : decode cL_act 455 = .ok (.goto 5, 3) := by decide +kernel
theorem dL_act_458 : decode cL_act 458 = .ok (.bipush (-3), 2) := by decide +kernel
theorem dL_act_460 : decode cL_act 460 = .ok (.if_icmp .ne 20, 3) := by decide +kernel
theorem dL_act_463 : decode cL_act 463 = .ok (.iload_n 2, 1) := by decide +kernel
theorem dL_act_464 : decode cL_act 464 = .ok (.ifCond .eq 12, 3) := by decide +kernel
theorem dL_act_467 : decode cL_act 467 = .ok (.aload_n 0, 1) := by decide +kernel
theorem dL_act_468 : decode cL_act 468 = .ok (.iload 4, 2) := by decide +kernel
theorem dL_act_470 : decode cL_act 470 = .ok (.invokestatic 232, 3) := by decide +kernel
theorem dL_act_473 : decode cL_act 473 = .ok (.ifCond .lt 7, 3) := by decide +kernel
theorem dL_act_476 : decode cL_act 476 = .ok (.iconst 1, 1) := by decide +kernel
theorem dL_act_477 : decode cL_act 477 = .ok (.goto 4, 3) := by decide +kernel
theorem dL_act_480 : decode cL_act 480 = .ok (.iconst 0, 1) := by decide +kernel
theorem dL_act_481 : decode cL_act 481 = .ok (.ireturn, 1) := by decide +kernel
theorem dL_act_482 : decode cL_act 482 = .ok (.iload_n 2, 1) := by decide +kernel
theorem dL_act_483 : decode cL_act 483 = .ok (.ifCond .le 16, 3) := by decide +kernel
theorem dL_act_486 : decode cL_act 486 = .ok (.aload_n 0, 1) := by decide +kernel
theorem dL_act_487 : decode cL_act 487 = .ok (.iload 4, 2) := by decide +kernel
theorem dL_act_489 : decode cL_act 489 = .ok (.invokevirtual 137, 3) := by decide +kernel
theorem dL_act_492 : decode cL_act 492 = .ok (.ifCond .lt 7, 3) := by decide +kernel
theorem dL_act_495 : decode cL_act 495 = .ok (.iconst 1, 1) := by decide +kernel
theorem dL_act_496 : decode cL_act 496 = .ok (.goto 4, 3) := by decide +kernel
theorem dL_act_499 : decode cL_act 499 = .ok (.iconst 0, 1) := by decide +kernel
theorem dL_act_500 : decode cL_act 500 = .ok (.istore 17, 2) := by decide +kernel
theorem dL_act_502 : decode cL_act 502 = .ok (.iload_n 2, 1) := by decide +kernel
theorem dL_act_503 : decode cL_act 503 = .ok (.ifCond .ne 8, 3) := by decide +kernel
theorem dL_act_506 : decode cL_act 506 = .ok (.bipush (-5), 2) := by decide +kernel
theorem dL_act_508 : decode cL_act 508 = .ok (.goto 9, 3) := by decide +kernel
theorem dL_act_511 : decode cL_act 511 = .ok (.aload_n 0, 1) := by decide +kernel
theorem dL_act_512 : decode cL_act 512 = .ok (.iload 4, 2) := by decide +kernel
theorem dL_act_514 : decode cL_act 514 = .ok (.invokevirtual 106, 3) := by decide +kernel
theorem dL_act_517 : decode cL_act 517 = .ok (.istore 18, 2) := by decide +kernel
theorem dL_act_519 : decode cL_act 519 = .ok (.aload_n 0, 1) := by decide +kernel
theorem dL_act_520 : decode cL_act 520 = .ok (.iload 4, 2) := by decide +kernel
theorem dL_act_522 : decode cL_act 522 = .ok (.invokestatic 238, 3) := by decide +kernel
theorem dL_act_525 : decode cL_act 525 = .ok (.istore 19, 2) := by decide +kernel
theorem dL_act_527 : decode cL_act 527 = .ok (.iload 17, 2) := by decide +kernel
theorem dL_act_529 : decode cL_act 529 = .ok (.ifCond .eq 27, 3) := by decide +kernel
theorem dL_act_532 : decode cL_act 532 = .ok (.iload 19, 2) := by decide +kernel
theorem dL_act_534 : decode cL_act 534 = .ok (.bipush (-3), 2) := by decide +kernel
theorem dL_act_536 : decode cL_act 536 = .ok (.if_icmp .ne 16, 3) := by decide +kernel
theorem dL_act_539 : decode cL_act 539 = .ok (.aload_n 0, 1) := by decide +kernel
theorem dL_act_540 : decode cL_act 540 = .ok (.iload 4, 2) := by decide +kernel
theorem dL_act_542 : decode cL_act 542 = .ok (.invokestatic 232, 3) := by decide +kernel
theorem dL_act_545 : decode cL_act 545 = .ok (.ifCond .ne 7, 3) := by decide +kernel
theorem dL_act_548 : decode cL_act 548 = .ok (.iconst 1, 1) := by decide +kernel
theorem dL_act_549 : decode cL_act 549 = .ok (.goto 32, 3) := by decide +kernel
theorem dL_act_552 : decode cL_act 552 = .ok (.iconst 0, 1) := by decide +kernel
theorem dL_act_553 : decode cL_act 553 = .ok (.goto 28, 3) := by decide +kernel
theorem dL_act_556 : decode cL_act 556 = .ok (.iload 19, 2) := by decide +kernel
theorem dL_act_558 : decode cL_act 558 = .ok (.iload 18, 2) := by decide +kernel
theorem dL_act_560 : decode cL_act 560 = .ok (.if_icmp .ne 20, 3) := by decide +kernel
theorem dL_act_563 : decode cL_act 563 = .ok (.iload_n 2, 1) := by decide +kernel
theorem dL_act_564 : decode cL_act 564 = .ok (.ifCond .eq 12, 3) := by decide +kernel
theorem dL_act_567 : decode cL_act 567 = .ok (.aload_n 0, 1) := by decide +kernel
theorem dL_act_568 : decode cL_act 568 = .ok (.iload 4, 2) := by decide +kernel
theorem dL_act_570 : decode cL_act 570 = .ok (.invokevirtual 106, 3) := by decide +kernel
theorem dL_act_573 : decode cL_act 573 = .ok (.ifCond .ne 7, 3) := by decide +kernel
theorem dL_act_576 : decode cL_act 576 = .ok (.iconst 1, 1) := by decide +kernel
theorem dL_act_577 : decode cL_act 577 = .ok (.goto 4, 3) := by decide +kernel
theorem dL_act_580 : decode cL_act 580 = .ok (.iconst 0, 1) := by decide +kernel
theorem dL_act_581 : decode cL_act 581 = .ok (.ireturn, 1) := by decide +kernel
theorem dL_act_582 : decode cL_act 582 = .ok (.iload_n 2, 1) := by decide +kernel
theorem dL_act_583 : decode cL_act 583 = .ok (.ifCond .ne 8, 3) := by decide +kernel
theorem dL_act_586 : decode cL_act 586 = .ok (.bipush (-5), 2) := by decide +kernel
theorem dL_act_588 : decode cL_act 588 = .ok (.goto 9, 3) := by decide +kernel
theorem dL_act_591 : decode cL_act 591 = .ok (.aload_n 0, 1) := by decide +kernel
theorem dL_act_592 : decode cL_act 592 = .ok (.iload 4, 2) := by decide +kernel
theorem dL_act_594 : decode cL_act 594 = .ok (.invokevirtual 113, 3) := by decide +kernel
theorem dL_act_597 : decode cL_act 597 = .ok (.istore 20, 2) := by decide +kernel
theorem dL_act_599 : decode cL_act 599 = .ok (.aload_n 0, 1) := by decide +kernel
theorem dL_act_600 : decode cL_act 600 = .ok (.iload 4, 2) := by decide +kernel
theorem dL_act_602 : decode cL_act 602 = .ok (.invokestatic 232, 3) := by decide +kernel
theorem dL_act_605 : decode cL_act 605 = .ok (.iload 20, 2) := by decide +kernel
theorem dL_act_607 : decode cL_act 607 = .ok (.if_icmp .ne 20, 3) := by decide +kernel
theorem dL_act_610 : decode cL_act 610 = .ok (.iload_n 2, 1) := by decide +kernel
theorem dL_act_611 : decode cL_act 611 = .ok (.ifCond .eq 12, 3) := by decide +kernel
theorem dL_act_614 : decode cL_act 614 = .ok (.aload_n 0, 1) := by decide +kernel
theorem dL_act_615 : decode cL_act 615 = .ok (.iload 4, 2) := by decide +kernel
theorem dL_act_617 : decode cL_act 617 = .ok (.invokevirtual 113, 3) := by decide +kernel
theorem dL_act_620 : decode cL_act 620 = .ok (.ifCond .ne 7, 3) := by decide +kernel
theorem dL_act_623 : decode cL_act 623 = .ok (.iconst 1, 1) := by decide +kernel
theorem dL_act_624 : decode cL_act 624 = .ok (.goto 4, 3) := by decide +kernel
theorem dL_act_627 : decode cL_act 627 = .ok (.iconst 0, 1) := by decide +kernel
theorem dL_act_628 : decode cL_act 628 = .ok (.ireturn, 1) := by decide +kernel
theorem dL_act_629 : decode cL_act 629 = .ok (.iload_n 3, 1) := by decide +kernel
theorem dL_act_630 : decode cL_act 630 = .ok (.ifCond .ne 7, 3) := by decide +kernel
theorem dL_act_633 : decode cL_act 633 = .ok (.iconst 0, 1) := by decide +kernel
theorem dL_act_634 : decode cL_act 634 = .ok (.goto 9, 3) := by decide +kernel
theorem dL_act_637 : decode cL_act 637 = .ok (.aload_n 0, 1) := by decide +kernel
theorem dL_act_638 : decode cL_act 638 = .ok (.iload 5, 2) := by decide +kernel
theorem dL_act_640 : decode cL_act 640 = .ok (.invokevirtual 125, 3) := by decide +kernel
theorem dL_act_643 : decode cL_act 643 = .ok (.istore 21, 2) := by decide +kernel
theorem dL_act_645 : decode cL_act 645 = .ok (.iconst 1, 1) := by decide +kernel
theorem dL_act_646 : decode cL_act 646 = .ok (.aload_n 1, 1) := by decide +kernel
theorem dL_act_647 : decode cL_act 647 = .ok (.invokestatic 77, 3) := by decide +kernel
theorem dL_act_650 : decode cL_act 650 = .ok (.bipush 11, 2) := by decide +kernel
theorem dL_act_652 : decode cL_act 652 = .ok (.irem, 1) := by decide +kernel
theorem dL_act_653 : decode cL_act 653 = .ok (.iadd, 1) := by decide +kernel
theorem dL_act_654 : decode cL_act 654 = .ok (.istore 22, 2) := by decide +kernel
theorem dL_act_656 : decode cL_act 656 = .ok (.aload_n 0, 1) := by decide +kernel
theorem dL_act_657 : decode cL_act 657 = .ok (.iload 5, 2) := by decide +kernel
theorem dL_act_659 : decode cL_act 659 = .ok (.iload 22, 2) := by decide +kernel
theorem dL_act_661 : decode cL_act 661 = .ok (.invokestatic 241, 3) := by decide +kernel
theorem dL_act_664 : decode cL_act 664 = .ok (.istore 23, 2) := by decide +kernel
theorem dL_act_666 : decode cL_act 666 = .ok (.iload_n 3, 1) := by decide +kernel
theorem dL_act_667 : decode cL_act 667 = .ok (.ifCond .ne 8, 3) := by decide +kernel
theorem dL_act_670 : decode cL_act 670 = .ok (.bipush (-5), 2) := by decide +kernel
theorem dL_act_672 : decode cL_act 672 = .ok (.goto 9, 3) := by decide +kernel
theorem dL_act_675 : decode cL_act 675 = .ok (.aload_n 0, 1) := by decide +kernel
theorem dL_act_676 : decode cL_act 676 = .ok (.iload 5, 2) := by decide +kernel
theorem dL_act_678 : decode cL_act 678 = .ok (.invokevirtual 128, 3) := by decide +kernel
theorem dL_act_681 : decode cL_act 681 = .ok (.istore 24, 2) := by decide +kernel
theorem dL_act_683 : decode cL_act 683 = .ok (.iload 23, 2) := by decide +kernel
theorem dL_act_685 : decode cL_act 685 = .ok (.iload_n 3, 1) := by decide +kernel
theorem dL_act_686 : decode cL_act 686 = .ok (.ifCond .ne 8, 3) := by decide +kernel
theorem dL_act_689 : decode cL_act 689 = .ok (.bipush (-5), 2) := by decide +kernel
theorem dL_act_691 : decode cL_act 691 = .ok (.goto 23, 3) := by decide +kernel
theorem dL_act_694 : decode cL_act 694 = .ok (.iload 21, 2) := by decide +kernel
theorem dL_act_696 : decode cL_act 696 = .ok (.iload 22, 2) := by decide +kernel
theorem dL_act_698 : decode cL_act 698 = .ok (.iadd, 1) := by decide +kernel
theorem dL_act_699 : decode cL_act 699 = .ok (.bipush 12, 2) := by decide +kernel
theorem dL_act_701 : decode cL_act 701 = .ok (.if_icmp .le 8, 3) := by decide +kernel
theorem dL_act_704 : decode cL_act 704 = .ok (.bipush (-3), 2) := by decide +kernel
theorem dL_act_706 : decode cL_act 706 = .ok (.goto 8, 3) := by decide +kernel
theorem dL_act_709 : decode cL_act 709 = .ok (.iload 21, 2) := by decide +kernel
theorem dL_act_711 : decode cL_act 711 = .ok (.iload 22, 2) := by decide +kernel
theorem dL_act_713 : decode cL_act 713 = .ok (.iadd, 1) := by decide +kernel
theorem dL_act_714 : decode cL_act 714 = .ok (.if_icmp .ne 55, 3) := by decide +kernel
theorem dL_act_717 : decode cL_act 717 = .ok (.aload_n 0, 1) := by decide +kernel
theorem dL_act_718 : decode cL_act 718 = .ok (.iload 5, 2) := by decide +kernel
theorem dL_act_720 : decode cL_act 720 = .ok (.iconst 1, 1) := by decide +kernel
theorem dL_act_721 : decode cL_act 721 = .ok (.iload 22, 2) := by decide +kernel
theorem dL_act_723 : decode cL_act 723 = .ok (.iconst 5, 1) := by decide +kernel
theorem dL_act_724 : decode cL_act 724 = .ok (.irem, 1) := by decide +kernel
theorem dL_act_725 : decode cL_act 725 = .ok (.iadd, 1) := by decide +kernel
theorem dL_act_726 : decode cL_act 726 = .ok (.invokestatic 245, 3) := by decide +kernel
theorem dL_act_729 : decode cL_act 729 = .ok (.iload 24, 2) := by decide +kernel
theorem dL_act_731 : decode cL_act 731 = .ok (.if_icmp .ne 38, 3) := by decide +kernel
theorem dL_act_734 : decode cL_act 734 = .ok (.iload_n 3, 1) := by decide +kernel
theorem dL_act_735 : decode cL_act 735 = .ok (.ifCond .ne 15, 3) := by decide +kernel
theorem dL_act_738 : decode cL_act 738 = .ok (.aload_n 0, 1) := by decide +kernel
theorem dL_act_739 : decode cL_act 739 = .ok (.iload 4, 2) := by decide +kernel
theorem dL_act_741 : decode cL_act 741 = .ok (.invokestatic 232, 3) := by decide +kernel
theorem dL_act_744 : decode cL_act 744 = .ok (.ifCond .lt 25, 3) := by decide +kernel
theorem dL_act_747 : decode cL_act 747 = .ok (.goto 18, 3) := by decide +kernel
theorem dL_act_750 : decode cL_act 750 = .ok (.aload_n 0, 1) := by decide +kernel
theorem dL_act_751 : decode cL_act 751 = .ok (.iload 5, 2) := by decide +kernel
theorem dL_act_753 : decode cL_act 753 = .ok (.invokevirtual 128, 3) := by decide +kernel
theorem dL_act_756 : decode cL_act 756 = .ok (.iconst 1, 1) := by decide +kernel
theorem dL_act_757 : decode cL_act 757 = .ok (.iload 22, 2) := by decide +kernel
theorem dL_act_759 : decode cL_act 759 = .ok (.iconst 5, 1) := by decide +kernel
theorem dL_act_760 : decode cL_act 760 = .ok (.irem, 1) := by decide +kernel
theorem dL_act_761 : decode cL_act 761 = .ok (.iadd, 1) := by decide +kernel
theorem dL_act_762 : decode cL_act 762 = .ok (.if_icmp .ne 7, 3) := by decide +kernel
theorem dL_act_765 : decode cL_act 765 = .ok (.iconst 1, 1) := by decide +kernel
theorem dL_act_766 : decode cL_act 766 = .ok (.goto 4, 3) := by decide +kernel
theorem dL_act_769 : decode cL_act 769 = .ok (.iconst 0, 1) := by decide +kernel
theorem dL_act_770 : decode cL_act 770 = .ok (.ireturn, 1) := by decide +kernel
theorem dL_law_0 : decode cL_law 0 = .ok (.new 19, 3) := by decide +kernel
theorem dL_law_3 : decode cL_law 3 = .ok (.dup, 1) := by decide +kernel
theorem dL_law_4 : decode cL_law 4 = .ok (.invokespecial 248, 3) := by decide +kernel
theorem dL_law_7 : decode cL_law 7 = .ok (.astore_n 1, 1) := by decide +kernel
theorem dL_law_8 : decode cL_law 8 = .ok (.iconst 1, 1) := by decide +kernel
theorem dL_law_9 : decode cL_law 9 = .ok (.newarray .int, 2) := by decide +kernel
theorem dL_law_11 : decode cL_law 11 = .ok (.dup, 1) := by decide +kernel
theorem dL_law_12 : decode cL_law 12 = .ok (.iconst 0, 1) := by decide +kernel
theorem dL_law_13 : decode cL_law 13 = .ok (.aload_n 0, 1) := by decide +kernel
theorem dL_law_14 : decode cL_law 14 = .ok (.arraylength, 1) := by decide +kernel
theorem dL_law_15 : decode cL_law 15 = .ok (.ifCond .ne 9, 3) := by decide +kernel
theorem dL_law_18 : decode cL_law 18 = .ok (.sipush 1270, 3) := by decide +kernel
theorem dL_law_21 : decode cL_law 21 = .ok (.goto 6, 3) := by decide +kernel
theorem dL_law_24 : decode cL_law 24 = .ok (.aload_n 0, 1) := by decide +kernel
theorem dL_law_25 : decode cL_law 25 = .ok (.iconst 0, 1) := by decide +kernel
theorem dL_law_26 : decode cL_law 26 = .ok (.iaload, 1) := by decide +kernel
theorem dL_law_27 : decode cL_law 27 = .ok (.iastore, 1) := by decide +kernel
theorem dL_law_28 : decode cL_law 28 = .ok (.astore_n 2, 1) := by decide +kernel
theorem dL_law_29 : decode cL_law 29 = .ok (.iconst 1, 1) := by decide +kernel
theorem dL_law_30 : decode cL_law 30 = .ok (.istore_n 3, 1) := by decide +kernel
theorem dL_law_31 : decode cL_law 31 = .ok (.iconst 0, 1) := by decide +kernel
theorem dL_law_32 : decode cL_law 32 = .ok (.istore 4, 2) := by decide +kernel
theorem dL_law_34 : decode cL_law 34 = .ok (.iload 4, 2) := by decide +kernel
theorem dL_law_36 : decode cL_law 36 = .ok (.iconst 2, 1) := by decide +kernel
theorem dL_law_37 : decode cL_law 37 = .ok (.if_icmp .ge 346, 3) := by decide +kernel
theorem dL_law_40 : decode cL_law 40 = .ok (.iload_n 3, 1) := by decide +kernel
theorem dL_law_41 : decode cL_law 41 = .ok (.ifCond .eq 342, 3) := by decide +kernel
theorem dL_law_44 : decode cL_law 44 = .ok (.aload_n 2, 1) := by decide +kernel
theorem dL_law_45 : decode cL_law 45 = .ok (.iconst 0, 1) := by decide +kernel
theorem dL_law_46 : decode cL_law 46 = .ok (.dup2, 1) := by decide +kernel
theorem dL_law_47 : decode cL_law 47 = .ok (.iaload, 1) := by decide +kernel
theorem dL_law_48 : decode cL_law 48 = .ok (.iload 4, 2) := by decide +kernel
theorem dL_law_50 : decode cL_law 50 = .ok (.aload_n 0, 1) := by decide +kernel
theorem dL_law_51 : decode cL_law 51 = .ok (.arraylength, 1) := by decide +kernel
theorem dL_law_52 : decode cL_law 52 = .ok (.if_icmp .ge 10, 3) := by decide +kernel
theorem dL_law_55 : decode cL_law 55 = .ok (.aload_n 0, 1) := by decide +kernel
theorem dL_law_56 : decode cL_law 56 = .ok (.iload 4, 2) := by decide +kernel
theorem dL_law_58 : decode cL_law 58 = .ok (.iaload, 1) := by decide +kernel
theorem dL_law_59 : decode cL_law 59 = .ok (.goto 4, 3) := by decide +kernel
theorem dL_law_62 : decode cL_law 62 = .ok (.iconst 0, 1) := by decide +kernel
theorem dL_law_63 : decode cL_law 63 = .ok (.ixor, 1) := by decide +kernel
theorem dL_law_64 : decode cL_law 64 = .ok (.iastore, 1) := by decide +kernel
theorem dL_law_65 : decode cL_law 65 = .ok (.iconst 1, 1) := by decide +kernel
theorem dL_law_66 : decode cL_law 66 = .ok (.aload_n 2, 1) := by decide +kernel
theorem dL_law_67 : decode cL_law 67 = .ok (.invokestatic 77, 3) := by decide +kernel
theorem dL_law_70 : decode cL_law 70 = .ok (.bipush 10, 2) := by decide +kernel
theorem dL_law_72 : decode cL_law 72 = .ok (.irem, 1) := by decide +kernel
theorem dL_law_73 : decode cL_law 73 = .ok (.iadd, 1) := by decide +kernel
theorem dL_law_74 : decode cL_law 74 = .ok (.istore 5, 2) := by decide +kernel
theorem dL_law_76 : decode cL_law 76 = .ok (.aload_n 1, 1) := by decide +kernel
theorem dL_law_77 : decode cL_law 77 = .ok (.iload 5, 2) := by decide +kernel
theorem dL_law_79 : decode cL_law 79 = .ok (.aload_n 2, 1) := by decide +kernel
theorem dL_law_80 : decode cL_law 80 = .ok (.invokestatic 77, 3) := by decide +kernel
theorem dL_law_83 : decode cL_law 83 = .ok (.iload 5, 2) := by decide +kernel
theorem dL_law_85 : decode cL_law 85 = .ok (.iconst 1, 1) := by decide +kernel
theorem dL_law_86 : decode cL_law 86 = .ok (.iadd, 1) := by decide +kernel
theorem dL_law_87 : decode cL_law 87 = .ok (.iconst 2, 1) := by decide +kernel
theorem dL_law_88 : decode cL_law 88 = .ok (.idiv, 1) := by decide +kernel
theorem dL_law_89 : decode cL_law 89 = .ok (.iconst 1, 1) := by decide +kernel
theorem dL_law_90 : decode cL_law 90 = .ok (.iadd, 1) := by decide +kernel
theorem dL_law_91 : decode cL_law 91 = .ok (.irem, 1) := by decide +kernel
theorem dL_law_92 : decode cL_law 92 = .ok (.aload_n 2, 1) := by decide +kernel
theorem dL_law_93 : decode cL_law 93 = .ok (.invokestatic 249, 3) := by decide +kernel
theorem dL_law_96 : decode cL_law 96 = .ok (.invokestatic 252, 3) := by decide +kernel
theorem dL_law_99 : decode cL_law 99 = .ok (.iload 5, 2) := by decide +kernel
theorem dL_law_101 : decode cL_law 101 = .ok (.if_icmp .ne 16, 3) := by decide +kernel
theorem dL_law_104 : decode cL_law 104 = .ok (.aload_n 1, 1) := by decide +kernel
theorem dL_law_105 : decode cL_law 105 = .ok (.iload 4, 2) := by decide +kernel
theorem dL_law_107 : decode cL_law 107 = .ok (.invokevirtual 254, 3) := by decide +kernel
theorem dL_law_110 : decode cL_law 110 = .ok (.ifCond .ne 7, 3) := by decide +kernel
theorem dL_law_113 : decode cL_law 113 = .ok (.iconst 1, 1) := by decide +kernel
theorem dL_law_114 : decode cL_law 114 = .ok (.goto 4, 3) := by decide +kernel
theorem dL_law_117 : decode cL_law 117 = .ok (.iconst 0, 1) := by decide +kernel
theorem dL_law_118 : decode cL_law 118 = .ok (.istore_n 3, 1) := by decide +kernel
theorem dL_law_119 : decode cL_law 119 = .ok (.aload_n 1, 1) := by decide +kernel
theorem dL_law_120 : decode cL_law 120 = .ok (.invokestatic 257, 3) := by decide +kernel
theorem dL_law_123 : decode cL_law 123 = .ok (.lstore 6, 2) := by decide +kernel
theorem dL_law_125 : decode cL_law 125 = .ok (.iconst 0, 1) := by decide +kernel
theorem dL_law_126 : decode cL_law 126 = .ok (.istore 8, 2) := by decide +kernel
theorem dL_law_128 : decode cL_law 128 = .ok (.iload 8, 2) := by decide +kernel
theorem dL_law_130 : decode cL_law 130 = .ok (.bipush 16, 2) := by decide +kernel
theorem dL_law_132 : decode cL_law 132 = .ok (.if_icmp .ge 169, 3) := by decide +kernel
theorem dL_law_135 : decode cL_law 135 = .ok (.iload_n 3, 1) := by decide +kernel
theorem dL_law_136 : decode cL_law 136 = .ok (.ifCond .eq 165, 3) := by decide +kernel
theorem dL_law_139 : decode cL_law 139 = .ok (.aload_n 1, 1) := by decide +kernel
theorem dL_law_140 : decode cL_law 140 = .ok (.invokestatic 257, 3) := by decide +kernel
theorem dL_law_143 : decode cL_law 143 = .ok (.lstore 9, 2) := by decide +kernel
theorem dL_law_145 : decode cL_law 145 = .ok (.aload_n 1, 1) := by decide +kernel
theorem dL_law_146 : decode cL_law 146 = .ok (.bipush 100, 2) := by decide +kernel
theorem dL_law_148 : decode cL_law 148 = .ok (.invokestatic 225, 3) := by decide +kernel
theorem dL_law_151 : decode cL_law 151 = .ok (.bipush (-2), 2) := by decide +kernel
theorem dL_law_153 : decode cL_law 153 = .ok (.if_icmp .ne 82, 3) := by decide +kernel
theorem dL_law_156 : decode cL_law 156 = .ok (.aload_n 1, 1) := by decide +kernel
theorem dL_law_157 : decode cL_law 157 = .ok (.bipush 10, 2) := by decide +kernel
theorem dL_law_159 : decode cL_law 159 = .ok (.invokestatic 229, 3) := by decide +kernel
theorem dL_law_162 : decode cL_law 162 = .ok (.bipush (-5), 2) := by decide +kernel
theorem dL_law_164 : decode cL_law 164 = .ok (.if_icmp .ne 71, 3) := by decide +kernel
theorem dL_law_167 : decode cL_law 167 = .ok (.aload_n 1, 1) := by decide +kernel
theorem dL_law_168 : decode cL_law 168 = .ok (.iconst (-1), 1) := by decide +kernel
theorem dL_law_169 : decode cL_law 169 = .ok (.invokestatic 235, 3) := by decide +kernel
theorem dL_law_172 : decode cL_law 172 = .ok (.bipush (-5), 2) := by decide +kernel
theorem dL_law_174 : decode cL_law 174 = .ok (.if_icmp .ne 61, 3) := by decide +kernel
theorem dL_law_177 : decode cL_law 177 = .ok (.aload_n 1, 1) := by decide +kernel
theorem dL_law_178 : decode cL_law 178 = .ok (.bipush 10, 2) := by decide +kernel
theorem dL_law_180 : decode cL_law 180 = .ok (.invokestatic 238, 3) := by decide +kernel
theorem dL_law_183 : decode cL_law 183 = .ok (.bipush (-5), 2) := by decide +kernel
theorem dL_law_185 : decode cL_law 185 = .ok (.if_icmp .ne 50, 3) := by decide +kernel
theorem dL_law_188 : decode cL_law 188 = .ok (.aload_n 1, 1) := by decide +kernel
theorem dL_law_189 : decode cL_law 189 = .ok (.bipush 10, 2) := by decide +kernel
theorem dL_law_191 : decode cL_law 191 = .ok (.invokestatic 232, 3) := by decide +kernel
theorem dL_law_194 : decode cL_law 194 = .ok (.bipush (-5), 2) := by decide +kernel
theorem dL_law_196 : decode cL_law 196 = .ok (.if_icmp .ne 39, 3) := by decide +kernel
theorem dL_law_199 : decode cL_law 199 = .ok (.aload_n 1, 1) := by decide +kernel
theorem dL_law_200 : decode cL_law 200 = .ok (.iconst 5, 1) := by decide +kernel
theorem dL_law_201 : decode cL_law 201 = .ok (.iconst 1, 1) := by decide +kernel
theorem dL_law_202 : decode cL_law 202 = .ok (.invokestatic 241, 3) := by decide +kernel
theorem dL_law_205 : decode cL_law 205 = .ok (.bipush (-5), 2) := by decide +kernel
theorem dL_law_207 : decode cL_law 207 = .ok (.if_icmp .ne 28, 3) := by decide +kernel
theorem dL_law_210 : decode cL_law 210 = .ok (.aload_n 1, 1) := by decide +kernel
theorem dL_law_211 : decode cL_law 211 = .ok (.iconst 5, 1) := by decide +kernel
theorem dL_law_212 : decode cL_law 212 = .ok (.iconst 1, 1) := by decide +kernel
theorem dL_law_213 : decode cL_law 213 = .ok (.invokestatic 245, 3) := by decide +kernel
theorem dL_law_216 : decode cL_law 216 = .ok (.bipush (-5), 2) := by decide +kernel
theorem dL_law_218 : decode cL_law 218 = .ok (.if_icmp .ne 17, 3) := by decide +kernel
theorem dL_law_221 : decode cL_law 221 = .ok (.aload_n 1, 1) := by decide +kernel
theorem dL_law_222 : decode cL_law 222 = .ok (.invokestatic 257, 3) := by decide +kernel
theorem dL_law_225 : decode cL_law 225 = .ok (.lload 9, 2) := by decide +kernel
theorem dL_law_227 : decode cL_law 227 = .ok (.lcmp, 1) := by decide +kernel
theorem dL_law_228 : decode cL_law 228 = .ok (.ifCond .ne 7, 3) := by decide +kernel
theorem dL_law_231 : decode cL_law 231 = .ok (.iconst 1, 1) := by decide +kernel
theorem dL_law_232 : decode cL_law 232 = .ok (.goto 4, 3) := by decide +kernel
theorem dL_law_235 : decode cL_law 235 = .ok (.iconst 0, 1) := by decide +kernel
theorem dL_law_236 : decode cL_law 236 = .ok (.istore_n 3, 1) := by decide +kernel
theorem dL_law_237 : decode cL_law 237 = .ok (.iload_n 3, 1) := by decide +kernel
theorem dL_law_238 : decode cL_law 238 = .ok (.ifCond .eq 29, 3) := by decide +kernel
theorem dL_law_241 : decode cL_law 241 = .ok (.aload_n 1, 1) := by decide +kernel
theorem dL_law_242 : decode cL_law 242 = .ok (.aload_n 2, 1) := by decide +kernel
theorem dL_law_243 : decode cL_law 243 = .ok (.invokestatic 261, 3) := by decide +kernel
theorem dL_law_246 : decode cL_law 246 = .ok (.ifCond .eq 21, 3) := by decide +kernel
theorem dL_law_249 : decode cL_law 249 = .ok (.aload_n 1, 1) := by decide +kernel
theorem dL_law_250 : decode cL_law 250 = .ok (.invokestatic 265, 3) := by decide +kernel
theorem dL_law_253 : decode cL_law 253 = .ok (.ifCond .eq 14, 3) := by decide +kernel
theorem dL_law_256 : decode cL_law 256 = .ok (.aload_n 1, 1) := by decide +kernel
theorem dL_law_257 : decode cL_law 257 = .ok (.invokestatic 269, 3) := by decide +kernel
theorem dL_law_260 : decode cL_law 260 = .ok (.ifCond .eq 7, 3) := by decide +kernel
theorem dL_law_263 : decode cL_law 263 = .ok (.iconst 1, 1) := by decide +kernel
theorem dL_law_264 : decode cL_law 264 = .ok (.goto 4, 3) := by decide +kernel
theorem dL_law_267 : decode cL_law 267 = .ok (.iconst 0, 1) := by decide +kernel
theorem dL_law_268 : decode cL_law 268 = .ok (.istore_n 3, 1) := by decide +kernel
theorem dL_law_269 : decode cL_law 269 = .ok (.iload_n 3, 1) := by decide +kernel
theorem dL_law_270 : decode cL_law 270 = .ok (.ifCond .eq 25, 3) := by decide +kernel
theorem dL_law_273 : decode cL_law 273 = .ok (.aload_n 2, 1) := by decide +kernel
theorem dL_law_274 : decode cL_law 274 = .ok (.invokestatic 77, 3) := by decide +kernel
theorem dL_law_277 : decode cL_law 277 = .ok (.iconst 5, 1) := by decide +kernel
theorem dL_law_278 : decode cL_law 278 = .ok (.irem, 1) := by decide +kernel
theorem dL_law_279 : decode cL_law 279 = .ok (.ifCond .ne 16, 3) := by decide +kernel
theorem dL_law_282 : decode cL_law 282 = .ok (.aload_n 1, 1) := by decide +kernel
theorem dL_law_283 : decode cL_law 283 = .ok (.invokestatic 272, 3) := by decide +kernel
theorem dL_law_286 : decode cL_law 286 = .ok (.ifCond .lt 7, 3) := by decide +kernel
theorem dL_law_289 : decode cL_law 289 = .ok (.iconst 1, 1) := by decide +kernel
theorem dL_law_290 : decode cL_law 290 = .ok (.goto 4, 3) := by decide +kernel
theorem dL_law_293 : decode cL_law 293 = .ok (.iconst 0, 1) := by decide +kernel
theorem dL_law_294 : decode cL_law 294 = .ok (.istore_n 3, 1) := by decide +kernel
theorem dL_law_295 : decode cL_law 295 = .ok (.iinc 8 1, 3) := by decide +kernel
theorem dL_law_298 : decode cL_law 298 = .ok (.goto (-170), 3) := by decide +kernel
theorem dL_law_301 : decode cL_law 301 = .ok (.iload_n 3, 1) := by decide +kernel
theorem dL_law_302 : decode cL_law 302 = .ok (.ifCond .eq 75, 3) := by decide +kernel
theorem dL_law_305 : decode cL_law 305 = .ok (.aload_n 2, 1) := by decide +kernel
theorem dL_law_306 : decode cL_law 306 = .ok (.invokestatic 77, 3) := by decide +kernel
theorem dL_law_309 : decode cL_law 309 = .ok (.iconst 2, 1) := by decide +kernel
theorem dL_law_310 : decode cL_law 310 = .ok (.irem, 1) := by decide +kernel
theorem dL_law_311 : decode cL_law 311 = .ok (.ifCond .ne 66, 3) := by decide +kernel
theorem dL_law_314 : decode cL_law 314 = .ok (.aload_n 1, 1) := by decide +kernel
theorem dL_law_315 : decode cL_law 315 = .ok (.iload 4, 2) := by decide +kernel
theorem dL_law_317 : decode cL_law 317 = .ok (.invokevirtual 276, 3) := by decide +kernel
theorem dL_law_320 : decode cL_law 320 = .ok (.ifCond .ne 17, 3) := by decide +kernel
theorem dL_law_323 : decode cL_law 323 = .ok (.aload_n 1, 1) := by decide +kernel
theorem dL_law_324 : decode cL_law 324 = .ok (.invokestatic 257, 3) := by decide +kernel
theorem dL_law_327 : decode cL_law 327 = .ok (.lload 6, 2) := by decide +kernel
theorem dL_law_329 : decode cL_law 329 = .ok (.lcmp, 1) := by decide +kernel
theorem dL_law_330 : decode cL_law 330 = .ok (.ifCond .ne 7, 3) := by decide +kernel
theorem dL_law_333 : decode cL_law 333 = .ok (.iconst 1, 1) := by decide +kernel
theorem dL_law_334 : decode cL_law 334 = .ok (.goto 4, 3) := by decide +kernel
theorem dL_law_337 : decode cL_law 337 = .ok (.iconst 0, 1) := by decide +kernel
theorem dL_law_338 : decode cL_law 338 = .ok (.istore_n 3, 1) := by decide +kernel
theorem dL_law_339 : decode cL_law 339 = .ok (.iload_n 3, 1) := by decide +kernel
theorem dL_law_340 : decode cL_law 340 = .ok (.ifCond .eq 35, 3) := by decide +kernel
theorem dL_law_343 : decode cL_law 343 = .ok (.aload_n 1, 1) := by decide +kernel
theorem dL_law_344 : decode cL_law 344 = .ok (.iload 5, 2) := by decide +kernel
theorem dL_law_346 : decode cL_law 346 = .ok (.iconst 1, 1) := by decide +kernel
theorem dL_law_347 : decode cL_law 347 = .ok (.isub, 1) := by decide +kernel
theorem dL_law_348 : decode cL_law 348 = .ok (.invokestatic 238, 3) := by decide +kernel
theorem dL_law_351 : decode cL_law 351 = .ok (.bipush (-3), 2) := by decide +kernel
theorem dL_law_353 : decode cL_law 353 = .ok (.if_icmp .lt 22, 3) := by decide +kernel
theorem dL_law_356 : decode cL_law 356 = .ok (.aload_n 1, 1) := by decide +kernel
theorem dL_law_357 : decode cL_law 357 = .ok (.iconst 0, 1) := by decide +kernel
theorem dL_law_358 : decode cL_law 358 = .ok (.invokestatic 232, 3) := by decide +kernel
theorem dL_law_361 : decode cL_law 361 = .ok (.ifCond .ne 14, 3) := by decide +kernel
theorem dL_law_364 : decode cL_law 364 = .ok (.aload_n 1, 1) := by decide +kernel
theorem dL_law_365 : decode cL_law 365 = .ok (.invokestatic 272, 3) := by decide +kernel
theorem dL_law_368 : decode cL_law 368 = .ok (.ifCond .lt 7, 3) := by decide +kernel
theorem dL_law_371 : decode cL_law 371 = .ok (.iconst 1, 1) := by decide +kernel
theorem dL_law_372 : decode cL_law 372 = .ok (.goto 4, 3) := by decide +kernel
theorem dL_law_375 : decode cL_law 375 = .ok (.iconst 0, 1) := by decide +kernel
theorem dL_law_376 : decode cL_law 376 = .ok (.istore_n 3, 1) := by decide +kernel
theorem dL_law_377 : decode cL_law 377 = .ok (.iinc 4 1, 3) := by decide +kernel
theorem dL_law_380 : decode cL_law 380 = .ok (.goto (-346), 3) := by decide +kernel
theorem dL_law_383 : decode cL_law 383 = .ok (.iload_n 3, 1) := by decide +kernel
theorem dL_law_384 : decode cL_law 384 = .ok (.ireturn, 1) := by decide +kernel
