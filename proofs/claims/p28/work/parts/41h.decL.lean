theorem dL_acts_438 : decode cL_acts 438 = .ok (.if_icmp .ne 7, 3) := by decide +kernel
theorem dL_acts_441 : decode cL_acts 441 = .ok (.iconst 1, 1) := by decide +kernel
theorem dL_acts_442 : decode cL_acts 442 = .ok (.goto 4, 3) := by decide +kernel
theorem dL_acts_445 : decode cL_acts 445 = .ok (.iconst 0, 1) := by decide +kernel
theorem dL_acts_446 : decode cL_acts 446 = .ok (.ireturn, 1) := by decide +kernel
theorem dL_acts_447 : decode cL_acts 447 = .ok (.aload_n 0, 1) := by decide +kernel
theorem dL_acts_448 : decode cL_acts 448 = .ok (.invokestatic 72, 3) := by decide +kernel
theorem dL_acts_451 : decode cL_acts 451 = .ok (.ifCond .eq 44, 3) := by decide +kernel
theorem dL_acts_454 : decode cL_acts 454 = .ok (.aload_n 0, 1) := by decide +kernel
theorem dL_acts_455 : decode cL_acts 455 = .ok (.invokestatic 72, 3) := by decide +kernel
theorem dL_acts_458 : decode cL_acts 458 = .ok (.ifCond .eq 37, 3) := by decide +kernel
theorem dL_acts_461 : decode cL_acts 461 = .ok (.iload_n 1, 1) := by decide +kernel
theorem dL_acts_462 : decode cL_acts 462 = .ok (.bipush 12, 2) := by decide +kernel
theorem dL_acts_464 : decode cL_acts 464 = .ok (.ishr, 1) := by decide +kernel
theorem dL_acts_465 : decode cL_acts 465 = .ok (.iconst 3, 1) := by decide +kernel
theorem dL_acts_466 : decode cL_acts 466 = .ok (.irem, 1) := by decide +kernel
theorem dL_acts_467 : decode cL_acts 467 = .ok (.ifCond .gt 24, 3) := by decide +kernel
theorem dL_acts_470 : decode cL_acts 470 = .ok (.aload_n 0, 1) := by decide +kernel
theorem dL_acts_471 : decode cL_acts 471 = .ok (.invokestatic 72, 3) := by decide +kernel
theorem dL_acts_474 : decode cL_acts 474 = .ok (.ifCond .eq 21, 3) := by decide +kernel
theorem dL_acts_477 : decode cL_acts 477 = .ok (.aload_n 0, 1) := by decide +kernel
theorem dL_acts_478 : decode cL_acts 478 = .ok (.invokestatic 72, 3) := by decide +kernel
theorem dL_acts_481 : decode cL_acts 481 = .ok (.ifCond .eq 14, 3) := by decide +kernel
theorem dL_acts_484 : decode cL_acts 484 = .ok (.aload_n 0, 1) := by decide +kernel
theorem dL_acts_485 : decode cL_acts 485 = .ok (.invokestatic 72, 3) := by decide +kernel
theorem dL_acts_488 : decode cL_acts 488 = .ok (.ifCond .eq 7, 3) := by decide +kernel
theorem dL_acts_491 : decode cL_acts 491 = .ok (.iconst 1, 1) := by decide +kernel
theorem dL_acts_492 : decode cL_acts 492 = .ok (.goto 4, 3) := by decide +kernel
theorem dL_acts_495 : decode cL_acts 495 = .ok (.iconst 0, 1) := by decide +kernel
theorem dL_acts_496 : decode cL_acts 496 = .ok (.ireturn, 1) := by decide +kernel
theorem dL_acts_497 : decode cL_acts 497 = .ok (.aload_n 0, 1) := by decide +kernel
theorem dL_acts_498 : decode cL_acts 498 = .ok (.bipush 8, 2) := by decide +kernel
theorem dL_acts_500 : decode cL_acts 500 = .ok (.invokevirtual 23, 3) := by decide +kernel
theorem dL_acts_503 : decode cL_acts 503 = .ok (.istore 15, 2) := by decide +kernel
theorem dL_acts_505 : decode cL_acts 505 = .ok (.aload_n 0, 1) := by decide +kernel
theorem dL_acts_506 : decode cL_acts 506 = .ok (.invokevirtual 75, 3) := by decide +kernel
theorem dL_acts_509 : decode cL_acts 509 = .ok (.istore 16, 2) := by decide +kernel
theorem dL_acts_511 : decode cL_acts 511 = .ok (.iload 16, 2) := by decide +kernel
theorem dL_acts_513 : decode cL_acts 513 = .ok (.bipush (-5), 2) := by decide +kernel
theorem dL_acts_515 : decode cL_acts 515 = .ok (.if_icmp .ne 32, 3) := by decide +kernel
theorem dL_acts_518 : decode cL_acts 518 = .ok (.aload_n 0, 1) := by decide +kernel
theorem dL_acts_519 : decode cL_acts 519 = .ok (.iconst 2, 1) := by decide +kernel
theorem dL_acts_520 : decode cL_acts 520 = .ok (.invokevirtual 23, 3) := by decide +kernel
theorem dL_acts_523 : decode cL_acts 523 = .ok (.iload 6, 2) := by decide +kernel
theorem dL_acts_525 : decode cL_acts 525 = .ok (.if_icmp .ne 18, 3) := by decide +kernel
theorem dL_acts_528 : decode cL_acts 528 = .ok (.aload_n 0, 1) := by decide +kernel
theorem dL_acts_529 : decode cL_acts 529 = .ok (.bipush 8, 2) := by decide +kernel
theorem dL_acts_531 : decode cL_acts 531 = .ok (.invokevirtual 23, 3) := by decide +kernel
theorem dL_acts_534 : decode cL_acts 534 = .ok (.iload 15, 2) := by decide +kernel
theorem dL_acts_536 : decode cL_acts 536 = .ok (.if_icmp .ne 7, 3) := by decide +kernel
theorem dL_acts_539 : decode cL_acts 539 = .ok (.iconst 1, 1) := by decide +kernel
theorem dL_acts_540 : decode cL_acts 540 = .ok (.goto 65, 3) := by decide +kernel
theorem dL_acts_543 : decode cL_acts 543 = .ok (.iconst 0, 1) := by decide +kernel
theorem dL_acts_544 : decode cL_acts 544 = .ok (.goto 61, 3) := by decide +kernel
theorem dL_acts_547 : decode cL_acts 547 = .ok (.iload 16, 2) := by decide +kernel
theorem dL_acts_549 : decode cL_acts 549 = .ok (.ifCond .le 55, 3) := by decide +kernel
theorem dL_acts_552 : decode cL_acts 552 = .ok (.iload 16, 2) := by decide +kernel
theorem dL_acts_554 : decode cL_acts 554 = .ok (.iload 6, 2) := by decide +kernel
theorem dL_acts_556 : decode cL_acts 556 = .ok (.if_icmp .gt 48, 3) := by decide +kernel
theorem dL_acts_559 : decode cL_acts 559 = .ok (.aload_n 0, 1) := by decide +kernel
theorem dL_acts_560 : decode cL_acts 560 = .ok (.iconst 2, 1) := by decide +kernel
theorem dL_acts_561 : decode cL_acts 561 = .ok (.invokevirtual 23, 3) := by decide +kernel
theorem dL_acts_564 : decode cL_acts 564 = .ok (.iload 6, 2) := by decide +kernel
theorem dL_acts_566 : decode cL_acts 566 = .ok (.iload 16, 2) := by decide +kernel
theorem dL_acts_568 : decode cL_acts 568 = .ok (.isub, 1) := by decide +kernel
theorem dL_acts_569 : decode cL_acts 569 = .ok (.if_icmp .ne 35, 3) := by decide +kernel
theorem dL_acts_572 : decode cL_acts 572 = .ok (.aload_n 0, 1) := by decide +kernel
theorem dL_acts_573 : decode cL_acts 573 = .ok (.bipush 8, 2) := by decide +kernel
theorem dL_acts_575 : decode cL_acts 575 = .ok (.invokevirtual 23, 3) := by decide +kernel
theorem dL_acts_578 : decode cL_acts 578 = .ok (.iload 15, 2) := by decide +kernel
theorem dL_acts_580 : decode cL_acts 580 = .ok (.if_icmp .gt 24, 3) := by decide +kernel
theorem dL_acts_583 : decode cL_acts 583 = .ok (.aload_n 0, 1) := by decide +kernel
theorem dL_acts_584 : decode cL_acts 584 = .ok (.iconst 2, 1) := by decide +kernel
theorem dL_acts_585 : decode cL_acts 585 = .ok (.invokevirtual 23, 3) := by decide +kernel
theorem dL_acts_588 : decode cL_acts 588 = .ok (.ifCond .eq 12, 3) := by decide +kernel
theorem dL_acts_591 : decode cL_acts 591 = .ok (.aload_n 0, 1) := by decide +kernel
theorem dL_acts_592 : decode cL_acts 592 = .ok (.invokevirtual 75, 3) := by decide +kernel
theorem dL_acts_595 : decode cL_acts 595 = .ok (.bipush (-5), 2) := by decide +kernel
theorem dL_acts_597 : decode cL_acts 597 = .ok (.if_icmp .ne 7, 3) := by decide +kernel
theorem dL_acts_600 : decode cL_acts 600 = .ok (.iconst 1, 1) := by decide +kernel
theorem dL_acts_601 : decode cL_acts 601 = .ok (.goto 4, 3) := by decide +kernel
theorem dL_acts_604 : decode cL_acts 604 = .ok (.iconst 0, 1) := by decide +kernel
theorem dL_acts_605 : decode cL_acts 605 = .ok (.ireturn, 1) := by decide +kernel
theorem dL_acts_606 : decode cL_acts 606 = .ok (.aload_n 0, 1) := by decide +kernel
theorem dL_acts_607 : decode cL_acts 607 = .ok (.iload_n 3, 1) := by decide +kernel
theorem dL_acts_608 : decode cL_acts 608 = .ok (.iconst 0, 1) := by decide +kernel
theorem dL_acts_609 : decode cL_acts 609 = .ok (.invokevirtual 19, 3) := by decide +kernel
theorem dL_acts_612 : decode cL_acts 612 = .ok (.istore 17, 2) := by decide +kernel
theorem dL_acts_614 : decode cL_acts 614 = .ok (.iload_n 1, 1) := by decide +kernel
theorem dL_acts_615 : decode cL_acts 615 = .ok (.bipush 12, 2) := by decide +kernel
theorem dL_acts_617 : decode cL_acts 617 = .ok (.ishr, 1) := by decide +kernel
theorem dL_acts_618 : decode cL_acts 618 = .ok (.bipush 101, 2) := by decide +kernel
theorem dL_acts_620 : decode cL_acts 620 = .ok (.irem, 1) := by decide +kernel
theorem dL_acts_621 : decode cL_acts 621 = .ok (.istore 18, 2) := by decide +kernel
theorem dL_acts_623 : decode cL_acts 623 = .ok (.aload_n 0, 1) := by decide +kernel
theorem dL_acts_624 : decode cL_acts 624 = .ok (.iload_n 3, 1) := by decide +kernel
theorem dL_acts_625 : decode cL_acts 625 = .ok (.iload 18, 2) := by decide +kernel
theorem dL_acts_627 : decode cL_acts 627 = .ok (.invokevirtual 78, 3) := by decide +kernel
theorem dL_acts_630 : decode cL_acts 630 = .ok (.iload 17, 2) := by decide +kernel
theorem dL_acts_632 : decode cL_acts 632 = .ok (.iload 18, 2) := by decide +kernel
theorem dL_acts_634 : decode cL_acts 634 = .ok (.if_icmp .ne 8, 3) := by decide +kernel
theorem dL_acts_637 : decode cL_acts 637 = .ok (.bipush (-5), 2) := by decide +kernel
theorem dL_acts_639 : decode cL_acts 639 = .ok (.goto 5, 3) := by decide +kernel
theorem dL_acts_642 : decode cL_acts 642 = .ok (.iload 17, 2) := by decide +kernel
theorem dL_acts_644 : decode cL_acts 644 = .ok (.if_icmp .ne 56, 3) := by decide +kernel
theorem dL_acts_647 : decode cL_acts 647 = .ok (.aload_n 0, 1) := by decide +kernel
theorem dL_acts_648 : decode cL_acts 648 = .ok (.iload_n 3, 1) := by decide +kernel
theorem dL_acts_649 : decode cL_acts 649 = .ok (.iconst 0, 1) := by decide +kernel
theorem dL_acts_650 : decode cL_acts 650 = .ok (.invokevirtual 19, 3) := by decide +kernel
theorem dL_acts_653 : decode cL_acts 653 = .ok (.iload 18, 2) := by decide +kernel
theorem dL_acts_655 : decode cL_acts 655 = .ok (.if_icmp .ne 45, 3) := by decide +kernel
theorem dL_acts_658 : decode cL_acts 658 = .ok (.iload 5, 2) := by decide +kernel
theorem dL_acts_660 : decode cL_acts 660 = .ok (.bipush 8, 2) := by decide +kernel
theorem dL_acts_662 : decode cL_acts 662 = .ok (.if_icmp .lt 34, 3) := by decide +kernel
theorem dL_acts_665 : decode cL_acts 665 = .ok (.iload_n 1, 1) := by decide +kernel
theorem dL_acts_666 : decode cL_acts 666 = .ok (.bipush 20, 2) := by decide +kernel
theorem dL_acts_668 : decode cL_acts 668 = .ok (.ishr, 1) := by decide +kernel
theorem dL_acts_669 : decode cL_acts 669 = .ok (.iconst 2, 1) := by decide +kernel
theorem dL_acts_670 : decode cL_acts 670 = .ok (.irem, 1) := by decide +kernel
theorem dL_acts_671 : decode cL_acts 671 = .ok (.ifCond .eq 25, 3) := by decide +kernel
theorem dL_acts_674 : decode cL_acts 674 = .ok (.aload_n 0, 1) := by decide +kernel
theorem dL_acts_675 : decode cL_acts 675 = .ok (.iload_n 2, 1) := by decide +kernel
theorem dL_acts_676 : decode cL_acts 676 = .ok (.iconst 0, 1) := by decide +kernel
theorem dL_acts_677 : decode cL_acts 677 = .ok (.invokevirtual 81, 3) := by decide +kernel
theorem dL_acts_680 : decode cL_acts 680 = .ok (.iload 4, 2) := by decide +kernel
theorem dL_acts_682 : decode cL_acts 682 = .ok (.iconst 3, 1) := by decide +kernel
theorem dL_acts_683 : decode cL_acts 683 = .ok (.if_icmp .ne 8, 3) := by decide +kernel
theorem dL_acts_686 : decode cL_acts 686 = .ok (.bipush (-4), 2) := by decide +kernel
theorem dL_acts_688 : decode cL_acts 688 = .ok (.goto 5, 3) := by decide +kernel
theorem dL_acts_691 : decode cL_acts 691 = .ok (.bipush 7, 2) := by decide +kernel
theorem dL_acts_693 : decode cL_acts 693 = .ok (.if_icmp .ne 7, 3) := by decide +kernel
theorem dL_acts_696 : decode cL_acts 696 = .ok (.iconst 1, 1) := by decide +kernel
theorem dL_acts_697 : decode cL_acts 697 = .ok (.goto 4, 3) := by decide +kernel
theorem dL_acts_700 : decode cL_acts 700 = .ok (.iconst 0, 1) := by decide +kernel
theorem dL_acts_701 : decode cL_acts 701 = .ok (.ireturn, 1) := by decide +kernel
theorem dL_law_0 : decode cL_law 0 = .ok (.new 10, 3) := by decide +kernel
theorem dL_law_3 : decode cL_law 3 = .ok (.dup, 1) := by decide +kernel
theorem dL_law_4 : decode cL_law 4 = .ok (.invokespecial 84, 3) := by decide +kernel
theorem dL_law_7 : decode cL_law 7 = .ok (.astore_n 1, 1) := by decide +kernel
theorem dL_law_8 : decode cL_law 8 = .ok (.aload_n 1, 1) := by decide +kernel
