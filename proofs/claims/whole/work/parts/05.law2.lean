/-! decode rows, by program -/
theorem d_L_law_411 : decode code 411 = .ok (.invokestatic 71, 3) := by decide +kernel
theorem d_L_law_414 : decode code 414 = .ok (.istore 5, 2) := by decide +kernel
theorem d_L_law_416 : decode code 416 = .ok (.aload_n 2, 1) := by decide +kernel
theorem d_L_law_417 : decode code 417 = .ok (.aload_n 0, 1) := by decide +kernel
theorem d_L_law_418 : decode code 418 = .ok (.iload 4, 2) := by decide +kernel
theorem d_L_law_420 : decode code 420 = .ok (.iconst 1, 1) := by decide +kernel
theorem d_L_law_421 : decode code 421 = .ok (.iadd, 1) := by decide +kernel
theorem d_L_law_422 : decode code 422 = .ok (.iaload, 1) := by decide +kernel
theorem d_L_law_423 : decode code 423 = .ok (.aload_n 0, 1) := by decide +kernel
theorem d_L_law_424 : decode code 424 = .ok (.iload 4, 2) := by decide +kernel
theorem d_L_law_426 : decode code 426 = .ok (.iconst 2, 1) := by decide +kernel
theorem d_L_law_427 : decode code 427 = .ok (.iadd, 1) := by decide +kernel
theorem d_L_law_428 : decode code 428 = .ok (.iaload, 1) := by decide +kernel
theorem d_L_law_429 : decode code 429 = .ok (.aload_n 0, 1) := by decide +kernel
theorem d_L_law_430 : decode code 430 = .ok (.iload 4, 2) := by decide +kernel
theorem d_L_law_432 : decode code 432 = .ok (.iconst 3, 1) := by decide +kernel
theorem d_L_law_433 : decode code 433 = .ok (.iadd, 1) := by decide +kernel
theorem d_L_law_434 : decode code 434 = .ok (.iaload, 1) := by decide +kernel
theorem d_L_law_435 : decode code 435 = .ok (.invokevirtual 74, 3) := by decide +kernel
theorem d_L_law_438 : decode code 438 = .ok (.istore 6, 2) := by decide +kernel
theorem d_L_law_440 : decode code 440 = .ok (.aload_n 2, 1) := by decide +kernel
theorem d_L_law_441 : decode code 441 = .ok (.invokevirtual 56, 3) := by decide +kernel
theorem d_L_law_444 : decode code 444 = .ok (.iload 5, 2) := by decide +kernel
theorem d_L_law_446 : decode code 446 = .ok (.if_icmp .eq 5, 3) := by decide +kernel
theorem d_L_law_449 : decode code 449 = .ok (.iconst 0, 1) := by decide +kernel
theorem d_L_law_450 : decode code 450 = .ok (.ireturn, 1) := by decide +kernel
theorem d_L_law_451 : decode code 451 = .ok (.iload 5, 2) := by decide +kernel
theorem d_L_law_453 : decode code 453 = .ok (.ifCond .ne 15, 3) := by decide +kernel
theorem d_L_law_456 : decode code 456 = .ok (.aload_n 3, 1) := by decide +kernel
theorem d_L_law_457 : decode code 457 = .ok (.iconst 0, 1) := by decide +kernel
theorem d_L_law_458 : decode code 458 = .ok (.laload, 1) := by decide +kernel
theorem d_L_law_459 : decode code 459 = .ok (.iload 6, 2) := by decide +kernel
theorem d_L_law_461 : decode code 461 = .ok (.i2l, 1) := by decide +kernel
theorem d_L_law_462 : decode code 462 = .ok (.lcmp, 1) := by decide +kernel
theorem d_L_law_463 : decode code 463 = .ok (.ifCond .eq 5, 3) := by decide +kernel
theorem d_L_law_466 : decode code 466 = .ok (.iconst 0, 1) := by decide +kernel
theorem d_L_law_467 : decode code 467 = .ok (.ireturn, 1) := by decide +kernel
theorem d_L_law_468 : decode code 468 = .ok (.goto 300, 3) := by decide +kernel
theorem d_L_law_471 : decode code 471 = .ok (.aload_n 1, 1) := by decide +kernel
theorem d_L_law_472 : decode code 472 = .ok (.invokevirtual 75, 3) := by decide +kernel
theorem d_L_law_475 : decode code 475 = .ok (.aload_n 2, 1) := by decide +kernel
theorem d_L_law_476 : decode code 476 = .ok (.invokevirtual 78, 3) := by decide +kernel
theorem d_L_law_479 : decode code 479 = .ok (.if_icmp .eq 289, 3) := by decide +kernel
theorem d_L_law_482 : decode code 482 = .ok (.iconst 0, 1) := by decide +kernel
theorem d_L_law_483 : decode code 483 = .ok (.ireturn, 1) := by decide +kernel
theorem d_L_law_484 : decode code 484 = .ok (.aload_n 1, 1) := by decide +kernel
theorem d_L_law_485 : decode code 485 = .ok (.aload_n 0, 1) := by decide +kernel
theorem d_L_law_486 : decode code 486 = .ok (.iload 4, 2) := by decide +kernel
theorem d_L_law_488 : decode code 488 = .ok (.iconst 1, 1) := by decide +kernel
theorem d_L_law_489 : decode code 489 = .ok (.iadd, 1) := by decide +kernel
theorem d_L_law_490 : decode code 490 = .ok (.iaload, 1) := by decide +kernel
theorem d_L_law_491 : decode code 491 = .ok (.aload_n 0, 1) := by decide +kernel
theorem d_L_law_492 : decode code 492 = .ok (.iload 4, 2) := by decide +kernel
theorem d_L_law_494 : decode code 494 = .ok (.iconst 2, 1) := by decide +kernel
theorem d_L_law_495 : decode code 495 = .ok (.iadd, 1) := by decide +kernel
theorem d_L_law_496 : decode code 496 = .ok (.iaload, 1) := by decide +kernel
theorem d_L_law_497 : decode code 497 = .ok (.aload_n 0, 1) := by decide +kernel
theorem d_L_law_498 : decode code 498 = .ok (.iload 4, 2) := by decide +kernel
theorem d_L_law_500 : decode code 500 = .ok (.iconst 3, 1) := by decide +kernel
theorem d_L_law_501 : decode code 501 = .ok (.iadd, 1) := by decide +kernel
theorem d_L_law_502 : decode code 502 = .ok (.iaload, 1) := by decide +kernel
theorem d_L_law_503 : decode code 503 = .ok (.aload_n 3, 1) := by decide +kernel
theorem d_L_law_504 : decode code 504 = .ok (.invokestatic 79, 3) := by decide +kernel
theorem d_L_law_507 : decode code 507 = .ok (.istore 5, 2) := by decide +kernel
theorem d_L_law_509 : decode code 509 = .ok (.aload_n 2, 1) := by decide +kernel
theorem d_L_law_510 : decode code 510 = .ok (.aload_n 0, 1) := by decide +kernel
theorem d_L_law_511 : decode code 511 = .ok (.iload 4, 2) := by decide +kernel
theorem d_L_law_513 : decode code 513 = .ok (.iconst 1, 1) := by decide +kernel
theorem d_L_law_514 : decode code 514 = .ok (.iadd, 1) := by decide +kernel
theorem d_L_law_515 : decode code 515 = .ok (.iaload, 1) := by decide +kernel
theorem d_L_law_516 : decode code 516 = .ok (.aload_n 0, 1) := by decide +kernel
theorem d_L_law_517 : decode code 517 = .ok (.iload 4, 2) := by decide +kernel
theorem d_L_law_519 : decode code 519 = .ok (.iconst 2, 1) := by decide +kernel
theorem d_L_law_520 : decode code 520 = .ok (.iadd, 1) := by decide +kernel
theorem d_L_law_521 : decode code 521 = .ok (.iaload, 1) := by decide +kernel
theorem d_L_law_522 : decode code 522 = .ok (.aload_n 0, 1) := by decide +kernel
theorem d_L_law_523 : decode code 523 = .ok (.iload 4, 2) := by decide +kernel
theorem d_L_law_525 : decode code 525 = .ok (.iconst 3, 1) := by decide +kernel
theorem d_L_law_526 : decode code 526 = .ok (.iadd, 1) := by decide +kernel
theorem d_L_law_527 : decode code 527 = .ok (.iaload, 1) := by decide +kernel
theorem d_L_law_528 : decode code 528 = .ok (.invokevirtual 81, 3) := by decide +kernel
theorem d_L_law_531 : decode code 531 = .ok (.lstore 6, 2) := by decide +kernel
theorem d_L_law_533 : decode code 533 = .ok (.aload_n 2, 1) := by decide +kernel
theorem d_L_law_534 : decode code 534 = .ok (.invokevirtual 56, 3) := by decide +kernel
theorem d_L_law_537 : decode code 537 = .ok (.iload 5, 2) := by decide +kernel
theorem d_L_law_539 : decode code 539 = .ok (.if_icmp .eq 5, 3) := by decide +kernel
theorem d_L_law_542 : decode code 542 = .ok (.iconst 0, 1) := by decide +kernel
theorem d_L_law_543 : decode code 543 = .ok (.ireturn, 1) := by decide +kernel
theorem d_L_law_544 : decode code 544 = .ok (.iload 5, 2) := by decide +kernel
theorem d_L_law_546 : decode code 546 = .ok (.ifCond .ne 14, 3) := by decide +kernel
theorem d_L_law_549 : decode code 549 = .ok (.aload_n 3, 1) := by decide +kernel
theorem d_L_law_550 : decode code 550 = .ok (.iconst 0, 1) := by decide +kernel
theorem d_L_law_551 : decode code 551 = .ok (.laload, 1) := by decide +kernel
theorem d_L_law_552 : decode code 552 = .ok (.lload 6, 2) := by decide +kernel
theorem d_L_law_554 : decode code 554 = .ok (.lcmp, 1) := by decide +kernel
theorem d_L_law_555 : decode code 555 = .ok (.ifCond .eq 5, 3) := by decide +kernel
theorem d_L_law_558 : decode code 558 = .ok (.iconst 0, 1) := by decide +kernel
theorem d_L_law_559 : decode code 559 = .ok (.ireturn, 1) := by decide +kernel
theorem d_L_law_560 : decode code 560 = .ok (.goto 208, 3) := by decide +kernel
theorem d_L_law_563 : decode code 563 = .ok (.aload_n 1, 1) := by decide +kernel
theorem d_L_law_564 : decode code 564 = .ok (.aload_n 0, 1) := by decide +kernel
theorem d_L_law_565 : decode code 565 = .ok (.iload 4, 2) := by decide +kernel
theorem d_L_law_567 : decode code 567 = .ok (.iconst 1, 1) := by decide +kernel
theorem d_L_law_568 : decode code 568 = .ok (.iadd, 1) := by decide +kernel
theorem d_L_law_569 : decode code 569 = .ok (.iaload, 1) := by decide +kernel
theorem d_L_law_570 : decode code 570 = .ok (.aload_n 3, 1) := by decide +kernel
theorem d_L_law_571 : decode code 571 = .ok (.invokestatic 82, 3) := by decide +kernel
theorem d_L_law_574 : decode code 574 = .ok (.istore 5, 2) := by decide +kernel
theorem d_L_law_576 : decode code 576 = .ok (.aload_n 2, 1) := by decide +kernel
theorem d_L_law_577 : decode code 577 = .ok (.aload_n 0, 1) := by decide +kernel
theorem d_L_law_578 : decode code 578 = .ok (.iload 4, 2) := by decide +kernel
theorem d_L_law_580 : decode code 580 = .ok (.iconst 1, 1) := by decide +kernel
theorem d_L_law_581 : decode code 581 = .ok (.iadd, 1) := by decide +kernel
theorem d_L_law_582 : decode code 582 = .ok (.iaload, 1) := by decide +kernel
theorem d_L_law_583 : decode code 583 = .ok (.invokevirtual 84, 3) := by decide +kernel
theorem d_L_law_586 : decode code 586 = .ok (.istore 6, 2) := by decide +kernel
theorem d_L_law_588 : decode code 588 = .ok (.aload_n 2, 1) := by decide +kernel
theorem d_L_law_589 : decode code 589 = .ok (.invokevirtual 56, 3) := by decide +kernel
theorem d_L_law_592 : decode code 592 = .ok (.iload 5, 2) := by decide +kernel
theorem d_L_law_594 : decode code 594 = .ok (.if_icmp .eq 5, 3) := by decide +kernel
theorem d_L_law_597 : decode code 597 = .ok (.iconst 0, 1) := by decide +kernel
theorem d_L_law_598 : decode code 598 = .ok (.ireturn, 1) := by decide +kernel
theorem d_L_law_599 : decode code 599 = .ok (.iload 5, 2) := by decide +kernel
theorem d_L_law_601 : decode code 601 = .ok (.ifCond .ne 15, 3) := by decide +kernel
theorem d_L_law_604 : decode code 604 = .ok (.aload_n 3, 1) := by decide +kernel
theorem d_L_law_605 : decode code 605 = .ok (.iconst 0, 1) := by decide +kernel
theorem d_L_law_606 : decode code 606 = .ok (.laload, 1) := by decide +kernel
theorem d_L_law_607 : decode code 607 = .ok (.iload 6, 2) := by decide +kernel
theorem d_L_law_609 : decode code 609 = .ok (.i2l, 1) := by decide +kernel
theorem d_L_law_610 : decode code 610 = .ok (.lcmp, 1) := by decide +kernel
theorem d_L_law_611 : decode code 611 = .ok (.ifCond .eq 5, 3) := by decide +kernel
theorem d_L_law_614 : decode code 614 = .ok (.iconst 0, 1) := by decide +kernel
theorem d_L_law_615 : decode code 615 = .ok (.ireturn, 1) := by decide +kernel
theorem d_L_law_616 : decode code 616 = .ok (.goto 152, 3) := by decide +kernel
theorem d_L_law_619 : decode code 619 = .ok (.aload_n 1, 1) := by decide +kernel
theorem d_L_law_620 : decode code 620 = .ok (.aload_n 0, 1) := by decide +kernel
theorem d_L_law_621 : decode code 621 = .ok (.iload 4, 2) := by decide +kernel
theorem d_L_law_623 : decode code 623 = .ok (.iconst 1, 1) := by decide +kernel
theorem d_L_law_624 : decode code 624 = .ok (.iadd, 1) := by decide +kernel
theorem d_L_law_625 : decode code 625 = .ok (.iaload, 1) := by decide +kernel
theorem d_L_law_626 : decode code 626 = .ok (.aload_n 3, 1) := by decide +kernel
theorem d_L_law_627 : decode code 627 = .ok (.invokestatic 85, 3) := by decide +kernel
theorem d_L_law_630 : decode code 630 = .ok (.istore 5, 2) := by decide +kernel
theorem d_L_law_632 : decode code 632 = .ok (.aload_n 2, 1) := by decide +kernel
theorem d_L_law_633 : decode code 633 = .ok (.aload_n 0, 1) := by decide +kernel
theorem d_L_law_634 : decode code 634 = .ok (.iload 4, 2) := by decide +kernel
theorem d_L_law_636 : decode code 636 = .ok (.iconst 1, 1) := by decide +kernel
theorem d_L_law_637 : decode code 637 = .ok (.iadd, 1) := by decide +kernel
theorem d_L_law_638 : decode code 638 = .ok (.iaload, 1) := by decide +kernel
theorem d_L_law_639 : decode code 639 = .ok (.invokevirtual 87, 3) := by decide +kernel
theorem d_L_law_642 : decode code 642 = .ok (.istore 6, 2) := by decide +kernel
theorem d_L_law_644 : decode code 644 = .ok (.aload_n 2, 1) := by decide +kernel
theorem d_L_law_645 : decode code 645 = .ok (.invokevirtual 56, 3) := by decide +kernel
theorem d_L_law_648 : decode code 648 = .ok (.iload 5, 2) := by decide +kernel
theorem d_L_law_650 : decode code 650 = .ok (.if_icmp .eq 5, 3) := by decide +kernel
theorem d_L_law_653 : decode code 653 = .ok (.iconst 0, 1) := by decide +kernel
theorem d_L_law_654 : decode code 654 = .ok (.ireturn, 1) := by decide +kernel
theorem d_L_law_655 : decode code 655 = .ok (.iload 5, 2) := by decide +kernel
theorem d_L_law_657 : decode code 657 = .ok (.ifCond .ne 15, 3) := by decide +kernel
theorem d_L_law_660 : decode code 660 = .ok (.aload_n 3, 1) := by decide +kernel
theorem d_L_law_661 : decode code 661 = .ok (.iconst 0, 1) := by decide +kernel
theorem d_L_law_662 : decode code 662 = .ok (.laload, 1) := by decide +kernel
theorem d_L_law_663 : decode code 663 = .ok (.iload 6, 2) := by decide +kernel
theorem d_L_law_665 : decode code 665 = .ok (.i2l, 1) := by decide +kernel
theorem d_L_law_666 : decode code 666 = .ok (.lcmp, 1) := by decide +kernel
theorem d_L_law_667 : decode code 667 = .ok (.ifCond .eq 5, 3) := by decide +kernel
theorem d_L_law_670 : decode code 670 = .ok (.iconst 0, 1) := by decide +kernel
theorem d_L_law_671 : decode code 671 = .ok (.ireturn, 1) := by decide +kernel
theorem d_L_law_672 : decode code 672 = .ok (.goto 96, 3) := by decide +kernel
theorem d_L_law_675 : decode code 675 = .ok (.aload_n 1, 1) := by decide +kernel
theorem d_L_law_676 : decode code 676 = .ok (.aload_n 0, 1) := by decide +kernel
theorem d_L_law_677 : decode code 677 = .ok (.iload 4, 2) := by decide +kernel
theorem d_L_law_679 : decode code 679 = .ok (.iconst 1, 1) := by decide +kernel
theorem d_L_law_680 : decode code 680 = .ok (.iadd, 1) := by decide +kernel
theorem d_L_law_681 : decode code 681 = .ok (.iaload, 1) := by decide +kernel
theorem d_L_law_682 : decode code 682 = .ok (.aload_n 0, 1) := by decide +kernel
theorem d_L_law_683 : decode code 683 = .ok (.iload 4, 2) := by decide +kernel
theorem d_L_law_685 : decode code 685 = .ok (.iconst 2, 1) := by decide +kernel
theorem d_L_law_686 : decode code 686 = .ok (.iadd, 1) := by decide +kernel
theorem d_L_law_687 : decode code 687 = .ok (.iaload, 1) := by decide +kernel
theorem d_L_law_688 : decode code 688 = .ok (.aload_n 3, 1) := by decide +kernel
theorem d_L_law_689 : decode code 689 = .ok (.invokestatic 88, 3) := by decide +kernel
theorem d_L_law_692 : decode code 692 = .ok (.istore 5, 2) := by decide +kernel
theorem d_L_law_694 : decode code 694 = .ok (.aload_n 2, 1) := by decide +kernel
theorem d_L_law_695 : decode code 695 = .ok (.aload_n 0, 1) := by decide +kernel
theorem d_L_law_696 : decode code 696 = .ok (.iload 4, 2) := by decide +kernel
theorem d_L_law_698 : decode code 698 = .ok (.iconst 1, 1) := by decide +kernel
theorem d_L_law_699 : decode code 699 = .ok (.iadd, 1) := by decide +kernel
theorem d_L_law_700 : decode code 700 = .ok (.iaload, 1) := by decide +kernel
theorem d_L_law_701 : decode code 701 = .ok (.aload_n 0, 1) := by decide +kernel
theorem d_L_law_702 : decode code 702 = .ok (.iload 4, 2) := by decide +kernel
theorem d_L_law_704 : decode code 704 = .ok (.iconst 2, 1) := by decide +kernel
theorem d_L_law_705 : decode code 705 = .ok (.iadd, 1) := by decide +kernel
theorem d_L_law_706 : decode code 706 = .ok (.iaload, 1) := by decide +kernel
theorem d_L_law_707 : decode code 707 = .ok (.invokevirtual 91, 3) := by decide +kernel
theorem d_L_law_710 : decode code 710 = .ok (.istore 6, 2) := by decide +kernel
theorem d_L_law_712 : decode code 712 = .ok (.aload_n 2, 1) := by decide +kernel
theorem d_L_law_713 : decode code 713 = .ok (.invokevirtual 56, 3) := by decide +kernel
theorem d_L_law_716 : decode code 716 = .ok (.iload 5, 2) := by decide +kernel
theorem d_L_law_718 : decode code 718 = .ok (.if_icmp .eq 5, 3) := by decide +kernel
theorem d_L_law_721 : decode code 721 = .ok (.iconst 0, 1) := by decide +kernel
theorem d_L_law_722 : decode code 722 = .ok (.ireturn, 1) := by decide +kernel
theorem d_L_law_723 : decode code 723 = .ok (.iload 5, 2) := by decide +kernel
theorem d_L_law_725 : decode code 725 = .ok (.ifCond .ne 15, 3) := by decide +kernel
theorem d_L_law_728 : decode code 728 = .ok (.aload_n 3, 1) := by decide +kernel
theorem d_L_law_729 : decode code 729 = .ok (.iconst 0, 1) := by decide +kernel
theorem d_L_law_730 : decode code 730 = .ok (.laload, 1) := by decide +kernel
theorem d_L_law_731 : decode code 731 = .ok (.iload 6, 2) := by decide +kernel
theorem d_L_law_733 : decode code 733 = .ok (.i2l, 1) := by decide +kernel
theorem d_L_law_734 : decode code 734 = .ok (.lcmp, 1) := by decide +kernel
theorem d_L_law_735 : decode code 735 = .ok (.ifCond .eq 5, 3) := by decide +kernel
theorem d_L_law_738 : decode code 738 = .ok (.iconst 0, 1) := by decide +kernel
theorem d_L_law_739 : decode code 739 = .ok (.ireturn, 1) := by decide +kernel
theorem d_L_law_740 : decode code 740 = .ok (.goto 28, 3) := by decide +kernel
theorem d_L_law_743 : decode code 743 = .ok (.aload_n 1, 1) := by decide +kernel
theorem d_L_law_744 : decode code 744 = .ok (.aload_n 0, 1) := by decide +kernel
theorem d_L_law_745 : decode code 745 = .ok (.iload 4, 2) := by decide +kernel
theorem d_L_law_747 : decode code 747 = .ok (.iconst 1, 1) := by decide +kernel
theorem d_L_law_748 : decode code 748 = .ok (.iadd, 1) := by decide +kernel
theorem d_L_law_749 : decode code 749 = .ok (.iaload, 1) := by decide +kernel
theorem d_L_law_750 : decode code 750 = .ok (.invokevirtual 92, 3) := by decide +kernel
theorem d_L_law_753 : decode code 753 = .ok (.aload_n 2, 1) := by decide +kernel
theorem d_L_law_754 : decode code 754 = .ok (.aload_n 0, 1) := by decide +kernel
theorem d_L_law_755 : decode code 755 = .ok (.iload 4, 2) := by decide +kernel
theorem d_L_law_757 : decode code 757 = .ok (.iconst 1, 1) := by decide +kernel
theorem d_L_law_758 : decode code 758 = .ok (.iadd, 1) := by decide +kernel
theorem d_L_law_759 : decode code 759 = .ok (.iaload, 1) := by decide +kernel
theorem d_L_law_760 : decode code 760 = .ok (.invokevirtual 95, 3) := by decide +kernel
theorem d_L_law_763 : decode code 763 = .ok (.if_icmp .eq 5, 3) := by decide +kernel
theorem d_L_law_766 : decode code 766 = .ok (.iconst 0, 1) := by decide +kernel
theorem d_L_law_767 : decode code 767 = .ok (.ireturn, 1) := by decide +kernel
theorem d_L_law_768 : decode code 768 = .ok (.iinc 4 6, 3) := by decide +kernel
theorem d_L_law_771 : decode code 771 = .ok (.goto (-748), 3) := by decide +kernel
theorem d_L_law_774 : decode code 774 = .ok (.iconst 1, 1) := by decide +kernel
theorem d_L_law_775 : decode code 775 = .ok (.ireturn, 1) := by decide +kernel
