theorem d_LW_law_409 : decode b_LW_law 409 = .ok (.aload_n 3, 1) := by decide +kernel
theorem d_LW_law_410 : decode b_LW_law 410 = .ok (.invokestatic 81, 3) := by decide +kernel
theorem d_LW_law_413 : decode b_LW_law 413 = .ok (.istore 5, 2) := by decide +kernel
theorem d_LW_law_415 : decode b_LW_law 415 = .ok (.aload_n 2, 1) := by decide +kernel
theorem d_LW_law_416 : decode b_LW_law 416 = .ok (.aload_n 0, 1) := by decide +kernel
theorem d_LW_law_417 : decode b_LW_law 417 = .ok (.iload 4, 2) := by decide +kernel
theorem d_LW_law_419 : decode b_LW_law 419 = .ok (.iconst 1, 1) := by decide +kernel
theorem d_LW_law_420 : decode b_LW_law 420 = .ok (.iadd, 1) := by decide +kernel
theorem d_LW_law_421 : decode b_LW_law 421 = .ok (.iaload, 1) := by decide +kernel
theorem d_LW_law_422 : decode b_LW_law 422 = .ok (.ifCond .eq 7, 3) := by decide +kernel
theorem d_LW_law_425 : decode b_LW_law 425 = .ok (.iconst 1, 1) := by decide +kernel
theorem d_LW_law_426 : decode b_LW_law 426 = .ok (.goto 4, 3) := by decide +kernel
theorem d_LW_law_429 : decode b_LW_law 429 = .ok (.iconst 0, 1) := by decide +kernel
theorem d_LW_law_430 : decode b_LW_law 430 = .ok (.invokevirtual 84, 3) := by decide +kernel
theorem d_LW_law_433 : decode b_LW_law 433 = .ok (.istore 6, 2) := by decide +kernel
theorem d_LW_law_435 : decode b_LW_law 435 = .ok (.aload_n 2, 1) := by decide +kernel
theorem d_LW_law_436 : decode b_LW_law 436 = .ok (.invokevirtual 57, 3) := by decide +kernel
theorem d_LW_law_439 : decode b_LW_law 439 = .ok (.iload 5, 2) := by decide +kernel
theorem d_LW_law_441 : decode b_LW_law 441 = .ok (.if_icmp .eq 5, 3) := by decide +kernel
theorem d_LW_law_444 : decode b_LW_law 444 = .ok (.iconst 0, 1) := by decide +kernel
theorem d_LW_law_445 : decode b_LW_law 445 = .ok (.ireturn, 1) := by decide +kernel
theorem d_LW_law_446 : decode b_LW_law 446 = .ok (.iload 5, 2) := by decide +kernel
theorem d_LW_law_448 : decode b_LW_law 448 = .ok (.ifCond .ne 22, 3) := by decide +kernel
theorem d_LW_law_451 : decode b_LW_law 451 = .ok (.aload_n 3, 1) := by decide +kernel
theorem d_LW_law_452 : decode b_LW_law 452 = .ok (.iconst 0, 1) := by decide +kernel
theorem d_LW_law_453 : decode b_LW_law 453 = .ok (.laload, 1) := by decide +kernel
theorem d_LW_law_454 : decode b_LW_law 454 = .ok (.iload 6, 2) := by decide +kernel
theorem d_LW_law_456 : decode b_LW_law 456 = .ok (.ifCond .eq 7, 3) := by decide +kernel
theorem d_LW_law_459 : decode b_LW_law 459 = .ok (.lconst 1, 1) := by decide +kernel
theorem d_LW_law_460 : decode b_LW_law 460 = .ok (.goto 4, 3) := by decide +kernel
theorem d_LW_law_463 : decode b_LW_law 463 = .ok (.lconst 0, 1) := by decide +kernel
theorem d_LW_law_464 : decode b_LW_law 464 = .ok (.lcmp, 1) := by decide +kernel
theorem d_LW_law_465 : decode b_LW_law 465 = .ok (.ifCond .eq 5, 3) := by decide +kernel
theorem d_LW_law_468 : decode b_LW_law 468 = .ok (.iconst 0, 1) := by decide +kernel
theorem d_LW_law_469 : decode b_LW_law 469 = .ok (.ireturn, 1) := by decide +kernel
theorem d_LW_law_470 : decode b_LW_law 470 = .ok (.goto 306, 3) := by decide +kernel
theorem d_LW_law_473 : decode b_LW_law 473 = .ok (.aload_n 1, 1) := by decide +kernel
theorem d_LW_law_474 : decode b_LW_law 474 = .ok (.aload_n 0, 1) := by decide +kernel
theorem d_LW_law_475 : decode b_LW_law 475 = .ok (.iload 4, 2) := by decide +kernel
theorem d_LW_law_477 : decode b_LW_law 477 = .ok (.iconst 1, 1) := by decide +kernel
theorem d_LW_law_478 : decode b_LW_law 478 = .ok (.iadd, 1) := by decide +kernel
theorem d_LW_law_479 : decode b_LW_law 479 = .ok (.iaload, 1) := by decide +kernel
theorem d_LW_law_480 : decode b_LW_law 480 = .ok (.ifCond .eq 7, 3) := by decide +kernel
theorem d_LW_law_483 : decode b_LW_law 483 = .ok (.iconst 1, 1) := by decide +kernel
theorem d_LW_law_484 : decode b_LW_law 484 = .ok (.goto 4, 3) := by decide +kernel
theorem d_LW_law_487 : decode b_LW_law 487 = .ok (.iconst 0, 1) := by decide +kernel
theorem d_LW_law_488 : decode b_LW_law 488 = .ok (.aload_n 3, 1) := by decide +kernel
theorem d_LW_law_489 : decode b_LW_law 489 = .ok (.invokestatic 85, 3) := by decide +kernel
theorem d_LW_law_492 : decode b_LW_law 492 = .ok (.istore 5, 2) := by decide +kernel
theorem d_LW_law_494 : decode b_LW_law 494 = .ok (.aload_n 2, 1) := by decide +kernel
theorem d_LW_law_495 : decode b_LW_law 495 = .ok (.aload_n 0, 1) := by decide +kernel
theorem d_LW_law_496 : decode b_LW_law 496 = .ok (.iload 4, 2) := by decide +kernel
theorem d_LW_law_498 : decode b_LW_law 498 = .ok (.iconst 1, 1) := by decide +kernel
theorem d_LW_law_499 : decode b_LW_law 499 = .ok (.iadd, 1) := by decide +kernel
theorem d_LW_law_500 : decode b_LW_law 500 = .ok (.iaload, 1) := by decide +kernel
theorem d_LW_law_501 : decode b_LW_law 501 = .ok (.ifCond .eq 7, 3) := by decide +kernel
theorem d_LW_law_504 : decode b_LW_law 504 = .ok (.iconst 1, 1) := by decide +kernel
theorem d_LW_law_505 : decode b_LW_law 505 = .ok (.goto 4, 3) := by decide +kernel
theorem d_LW_law_508 : decode b_LW_law 508 = .ok (.iconst 0, 1) := by decide +kernel
theorem d_LW_law_509 : decode b_LW_law 509 = .ok (.invokevirtual 87, 3) := by decide +kernel
theorem d_LW_law_512 : decode b_LW_law 512 = .ok (.istore 6, 2) := by decide +kernel
theorem d_LW_law_514 : decode b_LW_law 514 = .ok (.aload_n 2, 1) := by decide +kernel
theorem d_LW_law_515 : decode b_LW_law 515 = .ok (.invokevirtual 57, 3) := by decide +kernel
theorem d_LW_law_518 : decode b_LW_law 518 = .ok (.iload 5, 2) := by decide +kernel
theorem d_LW_law_520 : decode b_LW_law 520 = .ok (.if_icmp .eq 5, 3) := by decide +kernel
theorem d_LW_law_523 : decode b_LW_law 523 = .ok (.iconst 0, 1) := by decide +kernel
theorem d_LW_law_524 : decode b_LW_law 524 = .ok (.ireturn, 1) := by decide +kernel
theorem d_LW_law_525 : decode b_LW_law 525 = .ok (.iload 5, 2) := by decide +kernel
theorem d_LW_law_527 : decode b_LW_law 527 = .ok (.ifCond .ne 15, 3) := by decide +kernel
theorem d_LW_law_530 : decode b_LW_law 530 = .ok (.aload_n 3, 1) := by decide +kernel
theorem d_LW_law_531 : decode b_LW_law 531 = .ok (.iconst 0, 1) := by decide +kernel
theorem d_LW_law_532 : decode b_LW_law 532 = .ok (.laload, 1) := by decide +kernel
theorem d_LW_law_533 : decode b_LW_law 533 = .ok (.iload 6, 2) := by decide +kernel
theorem d_LW_law_535 : decode b_LW_law 535 = .ok (.i2l, 1) := by decide +kernel
theorem d_LW_law_536 : decode b_LW_law 536 = .ok (.lcmp, 1) := by decide +kernel
theorem d_LW_law_537 : decode b_LW_law 537 = .ok (.ifCond .eq 5, 3) := by decide +kernel
theorem d_LW_law_540 : decode b_LW_law 540 = .ok (.iconst 0, 1) := by decide +kernel
theorem d_LW_law_541 : decode b_LW_law 541 = .ok (.ireturn, 1) := by decide +kernel
theorem d_LW_law_542 : decode b_LW_law 542 = .ok (.goto 234, 3) := by decide +kernel
theorem d_LW_law_545 : decode b_LW_law 545 = .ok (.aload_n 1, 1) := by decide +kernel
theorem d_LW_law_546 : decode b_LW_law 546 = .ok (.aload_n 0, 1) := by decide +kernel
theorem d_LW_law_547 : decode b_LW_law 547 = .ok (.iload 4, 2) := by decide +kernel
theorem d_LW_law_549 : decode b_LW_law 549 = .ok (.iconst 1, 1) := by decide +kernel
theorem d_LW_law_550 : decode b_LW_law 550 = .ok (.iadd, 1) := by decide +kernel
theorem d_LW_law_551 : decode b_LW_law 551 = .ok (.iaload, 1) := by decide +kernel
theorem d_LW_law_552 : decode b_LW_law 552 = .ok (.ifCond .eq 7, 3) := by decide +kernel
theorem d_LW_law_555 : decode b_LW_law 555 = .ok (.iconst 1, 1) := by decide +kernel
theorem d_LW_law_556 : decode b_LW_law 556 = .ok (.goto 4, 3) := by decide +kernel
theorem d_LW_law_559 : decode b_LW_law 559 = .ok (.iconst 0, 1) := by decide +kernel
theorem d_LW_law_560 : decode b_LW_law 560 = .ok (.aload_n 3, 1) := by decide +kernel
theorem d_LW_law_561 : decode b_LW_law 561 = .ok (.invokestatic 88, 3) := by decide +kernel
theorem d_LW_law_564 : decode b_LW_law 564 = .ok (.istore 5, 2) := by decide +kernel
theorem d_LW_law_566 : decode b_LW_law 566 = .ok (.aload_n 2, 1) := by decide +kernel
theorem d_LW_law_567 : decode b_LW_law 567 = .ok (.aload_n 0, 1) := by decide +kernel
theorem d_LW_law_568 : decode b_LW_law 568 = .ok (.iload 4, 2) := by decide +kernel
theorem d_LW_law_570 : decode b_LW_law 570 = .ok (.iconst 1, 1) := by decide +kernel
theorem d_LW_law_571 : decode b_LW_law 571 = .ok (.iadd, 1) := by decide +kernel
theorem d_LW_law_572 : decode b_LW_law 572 = .ok (.iaload, 1) := by decide +kernel
theorem d_LW_law_573 : decode b_LW_law 573 = .ok (.ifCond .eq 7, 3) := by decide +kernel
theorem d_LW_law_576 : decode b_LW_law 576 = .ok (.iconst 1, 1) := by decide +kernel
theorem d_LW_law_577 : decode b_LW_law 577 = .ok (.goto 4, 3) := by decide +kernel
theorem d_LW_law_580 : decode b_LW_law 580 = .ok (.iconst 0, 1) := by decide +kernel
theorem d_LW_law_581 : decode b_LW_law 581 = .ok (.invokevirtual 90, 3) := by decide +kernel
theorem d_LW_law_584 : decode b_LW_law 584 = .ok (.istore 6, 2) := by decide +kernel
theorem d_LW_law_586 : decode b_LW_law 586 = .ok (.aload_n 2, 1) := by decide +kernel
theorem d_LW_law_587 : decode b_LW_law 587 = .ok (.invokevirtual 57, 3) := by decide +kernel
theorem d_LW_law_590 : decode b_LW_law 590 = .ok (.iload 5, 2) := by decide +kernel
theorem d_LW_law_592 : decode b_LW_law 592 = .ok (.if_icmp .eq 5, 3) := by decide +kernel
theorem d_LW_law_595 : decode b_LW_law 595 = .ok (.iconst 0, 1) := by decide +kernel
theorem d_LW_law_596 : decode b_LW_law 596 = .ok (.ireturn, 1) := by decide +kernel
theorem d_LW_law_597 : decode b_LW_law 597 = .ok (.iload 5, 2) := by decide +kernel
theorem d_LW_law_599 : decode b_LW_law 599 = .ok (.ifCond .ne 15, 3) := by decide +kernel
theorem d_LW_law_602 : decode b_LW_law 602 = .ok (.aload_n 3, 1) := by decide +kernel
theorem d_LW_law_603 : decode b_LW_law 603 = .ok (.iconst 0, 1) := by decide +kernel
theorem d_LW_law_604 : decode b_LW_law 604 = .ok (.laload, 1) := by decide +kernel
theorem d_LW_law_605 : decode b_LW_law 605 = .ok (.iload 6, 2) := by decide +kernel
theorem d_LW_law_607 : decode b_LW_law 607 = .ok (.i2l, 1) := by decide +kernel
theorem d_LW_law_608 : decode b_LW_law 608 = .ok (.lcmp, 1) := by decide +kernel
theorem d_LW_law_609 : decode b_LW_law 609 = .ok (.ifCond .eq 5, 3) := by decide +kernel
theorem d_LW_law_612 : decode b_LW_law 612 = .ok (.iconst 0, 1) := by decide +kernel
theorem d_LW_law_613 : decode b_LW_law 613 = .ok (.ireturn, 1) := by decide +kernel
theorem d_LW_law_614 : decode b_LW_law 614 = .ok (.goto 162, 3) := by decide +kernel
theorem d_LW_law_617 : decode b_LW_law 617 = .ok (.aload_n 1, 1) := by decide +kernel
theorem d_LW_law_618 : decode b_LW_law 618 = .ok (.aload_n 0, 1) := by decide +kernel
theorem d_LW_law_619 : decode b_LW_law 619 = .ok (.iload 4, 2) := by decide +kernel
theorem d_LW_law_621 : decode b_LW_law 621 = .ok (.iconst 1, 1) := by decide +kernel
theorem d_LW_law_622 : decode b_LW_law 622 = .ok (.iadd, 1) := by decide +kernel
theorem d_LW_law_623 : decode b_LW_law 623 = .ok (.iaload, 1) := by decide +kernel
theorem d_LW_law_624 : decode b_LW_law 624 = .ok (.ifCond .eq 7, 3) := by decide +kernel
theorem d_LW_law_627 : decode b_LW_law 627 = .ok (.iconst 1, 1) := by decide +kernel
theorem d_LW_law_628 : decode b_LW_law 628 = .ok (.goto 4, 3) := by decide +kernel
theorem d_LW_law_631 : decode b_LW_law 631 = .ok (.iconst 0, 1) := by decide +kernel
theorem d_LW_law_632 : decode b_LW_law 632 = .ok (.aload_n 3, 1) := by decide +kernel
theorem d_LW_law_633 : decode b_LW_law 633 = .ok (.invokestatic 91, 3) := by decide +kernel
theorem d_LW_law_636 : decode b_LW_law 636 = .ok (.istore 5, 2) := by decide +kernel
theorem d_LW_law_638 : decode b_LW_law 638 = .ok (.aload_n 2, 1) := by decide +kernel
theorem d_LW_law_639 : decode b_LW_law 639 = .ok (.aload_n 0, 1) := by decide +kernel
theorem d_LW_law_640 : decode b_LW_law 640 = .ok (.iload 4, 2) := by decide +kernel
theorem d_LW_law_642 : decode b_LW_law 642 = .ok (.iconst 1, 1) := by decide +kernel
theorem d_LW_law_643 : decode b_LW_law 643 = .ok (.iadd, 1) := by decide +kernel
theorem d_LW_law_644 : decode b_LW_law 644 = .ok (.iaload, 1) := by decide +kernel
theorem d_LW_law_645 : decode b_LW_law 645 = .ok (.ifCond .eq 7, 3) := by decide +kernel
theorem d_LW_law_648 : decode b_LW_law 648 = .ok (.iconst 1, 1) := by decide +kernel
theorem d_LW_law_649 : decode b_LW_law 649 = .ok (.goto 4, 3) := by decide +kernel
theorem d_LW_law_652 : decode b_LW_law 652 = .ok (.iconst 0, 1) := by decide +kernel
theorem d_LW_law_653 : decode b_LW_law 653 = .ok (.invokevirtual 93, 3) := by decide +kernel
theorem d_LW_law_656 : decode b_LW_law 656 = .ok (.istore 6, 2) := by decide +kernel
theorem d_LW_law_658 : decode b_LW_law 658 = .ok (.aload_n 2, 1) := by decide +kernel
theorem d_LW_law_659 : decode b_LW_law 659 = .ok (.invokevirtual 57, 3) := by decide +kernel
theorem d_LW_law_662 : decode b_LW_law 662 = .ok (.iload 5, 2) := by decide +kernel
theorem d_LW_law_664 : decode b_LW_law 664 = .ok (.if_icmp .eq 5, 3) := by decide +kernel
theorem d_LW_law_667 : decode b_LW_law 667 = .ok (.iconst 0, 1) := by decide +kernel
theorem d_LW_law_668 : decode b_LW_law 668 = .ok (.ireturn, 1) := by decide +kernel
theorem d_LW_law_669 : decode b_LW_law 669 = .ok (.iload 5, 2) := by decide +kernel
theorem d_LW_law_671 : decode b_LW_law 671 = .ok (.ifCond .ne 15, 3) := by decide +kernel
theorem d_LW_law_674 : decode b_LW_law 674 = .ok (.aload_n 3, 1) := by decide +kernel
theorem d_LW_law_675 : decode b_LW_law 675 = .ok (.iconst 0, 1) := by decide +kernel
theorem d_LW_law_676 : decode b_LW_law 676 = .ok (.laload, 1) := by decide +kernel
theorem d_LW_law_677 : decode b_LW_law 677 = .ok (.iload 6, 2) := by decide +kernel
theorem d_LW_law_679 : decode b_LW_law 679 = .ok (.i2l, 1) := by decide +kernel
theorem d_LW_law_680 : decode b_LW_law 680 = .ok (.lcmp, 1) := by decide +kernel
theorem d_LW_law_681 : decode b_LW_law 681 = .ok (.ifCond .eq 5, 3) := by decide +kernel
theorem d_LW_law_684 : decode b_LW_law 684 = .ok (.iconst 0, 1) := by decide +kernel
theorem d_LW_law_685 : decode b_LW_law 685 = .ok (.ireturn, 1) := by decide +kernel
theorem d_LW_law_686 : decode b_LW_law 686 = .ok (.goto 90, 3) := by decide +kernel
theorem d_LW_law_689 : decode b_LW_law 689 = .ok (.aload_n 1, 1) := by decide +kernel
theorem d_LW_law_690 : decode b_LW_law 690 = .ok (.aload_n 0, 1) := by decide +kernel
theorem d_LW_law_691 : decode b_LW_law 691 = .ok (.iload 4, 2) := by decide +kernel
theorem d_LW_law_693 : decode b_LW_law 693 = .ok (.iconst 1, 1) := by decide +kernel
theorem d_LW_law_694 : decode b_LW_law 694 = .ok (.iadd, 1) := by decide +kernel
theorem d_LW_law_695 : decode b_LW_law 695 = .ok (.iaload, 1) := by decide +kernel
theorem d_LW_law_696 : decode b_LW_law 696 = .ok (.aload_n 0, 1) := by decide +kernel
theorem d_LW_law_697 : decode b_LW_law 697 = .ok (.iload 4, 2) := by decide +kernel
theorem d_LW_law_699 : decode b_LW_law 699 = .ok (.iconst 2, 1) := by decide +kernel
theorem d_LW_law_700 : decode b_LW_law 700 = .ok (.iadd, 1) := by decide +kernel
theorem d_LW_law_701 : decode b_LW_law 701 = .ok (.iaload, 1) := by decide +kernel
theorem d_LW_law_702 : decode b_LW_law 702 = .ok (.aload_n 0, 1) := by decide +kernel
theorem d_LW_law_703 : decode b_LW_law 703 = .ok (.iload 4, 2) := by decide +kernel
theorem d_LW_law_705 : decode b_LW_law 705 = .ok (.iconst 3, 1) := by decide +kernel
theorem d_LW_law_706 : decode b_LW_law 706 = .ok (.iadd, 1) := by decide +kernel
theorem d_LW_law_707 : decode b_LW_law 707 = .ok (.iaload, 1) := by decide +kernel
theorem d_LW_law_708 : decode b_LW_law 708 = .ok (.aload_n 3, 1) := by decide +kernel
theorem d_LW_law_709 : decode b_LW_law 709 = .ok (.invokestatic 94, 3) := by decide +kernel
theorem d_LW_law_712 : decode b_LW_law 712 = .ok (.istore 5, 2) := by decide +kernel
theorem d_LW_law_714 : decode b_LW_law 714 = .ok (.aload_n 2, 1) := by decide +kernel
theorem d_LW_law_715 : decode b_LW_law 715 = .ok (.aload_n 0, 1) := by decide +kernel
theorem d_LW_law_716 : decode b_LW_law 716 = .ok (.iload 4, 2) := by decide +kernel
theorem d_LW_law_718 : decode b_LW_law 718 = .ok (.iconst 1, 1) := by decide +kernel
theorem d_LW_law_719 : decode b_LW_law 719 = .ok (.iadd, 1) := by decide +kernel
theorem d_LW_law_720 : decode b_LW_law 720 = .ok (.iaload, 1) := by decide +kernel
theorem d_LW_law_721 : decode b_LW_law 721 = .ok (.aload_n 0, 1) := by decide +kernel
theorem d_LW_law_722 : decode b_LW_law 722 = .ok (.iload 4, 2) := by decide +kernel
theorem d_LW_law_724 : decode b_LW_law 724 = .ok (.iconst 2, 1) := by decide +kernel
theorem d_LW_law_725 : decode b_LW_law 725 = .ok (.iadd, 1) := by decide +kernel
theorem d_LW_law_726 : decode b_LW_law 726 = .ok (.iaload, 1) := by decide +kernel
theorem d_LW_law_727 : decode b_LW_law 727 = .ok (.aload_n 0, 1) := by decide +kernel
theorem d_LW_law_728 : decode b_LW_law 728 = .ok (.iload 4, 2) := by decide +kernel
theorem d_LW_law_730 : decode b_LW_law 730 = .ok (.iconst 3, 1) := by decide +kernel
theorem d_LW_law_731 : decode b_LW_law 731 = .ok (.iadd, 1) := by decide +kernel
theorem d_LW_law_732 : decode b_LW_law 732 = .ok (.iaload, 1) := by decide +kernel
theorem d_LW_law_733 : decode b_LW_law 733 = .ok (.invokevirtual 97, 3) := by decide +kernel
theorem d_LW_law_736 : decode b_LW_law 736 = .ok (.istore 6, 2) := by decide +kernel
theorem d_LW_law_738 : decode b_LW_law 738 = .ok (.aload_n 2, 1) := by decide +kernel
theorem d_LW_law_739 : decode b_LW_law 739 = .ok (.invokevirtual 57, 3) := by decide +kernel
theorem d_LW_law_742 : decode b_LW_law 742 = .ok (.iload 5, 2) := by decide +kernel
theorem d_LW_law_744 : decode b_LW_law 744 = .ok (.if_icmp .eq 5, 3) := by decide +kernel
theorem d_LW_law_747 : decode b_LW_law 747 = .ok (.iconst 0, 1) := by decide +kernel
theorem d_LW_law_748 : decode b_LW_law 748 = .ok (.ireturn, 1) := by decide +kernel
theorem d_LW_law_749 : decode b_LW_law 749 = .ok (.iload 5, 2) := by decide +kernel
theorem d_LW_law_751 : decode b_LW_law 751 = .ok (.ifCond .ne 22, 3) := by decide +kernel
theorem d_LW_law_754 : decode b_LW_law 754 = .ok (.aload_n 3, 1) := by decide +kernel
theorem d_LW_law_755 : decode b_LW_law 755 = .ok (.iconst 0, 1) := by decide +kernel
theorem d_LW_law_756 : decode b_LW_law 756 = .ok (.laload, 1) := by decide +kernel
theorem d_LW_law_757 : decode b_LW_law 757 = .ok (.iload 6, 2) := by decide +kernel
theorem d_LW_law_759 : decode b_LW_law 759 = .ok (.ifCond .eq 7, 3) := by decide +kernel
theorem d_LW_law_762 : decode b_LW_law 762 = .ok (.lconst 1, 1) := by decide +kernel
theorem d_LW_law_763 : decode b_LW_law 763 = .ok (.goto 4, 3) := by decide +kernel
theorem d_LW_law_766 : decode b_LW_law 766 = .ok (.lconst 0, 1) := by decide +kernel
theorem d_LW_law_767 : decode b_LW_law 767 = .ok (.lcmp, 1) := by decide +kernel
theorem d_LW_law_768 : decode b_LW_law 768 = .ok (.ifCond .eq 5, 3) := by decide +kernel
theorem d_LW_law_771 : decode b_LW_law 771 = .ok (.iconst 0, 1) := by decide +kernel
theorem d_LW_law_772 : decode b_LW_law 772 = .ok (.ireturn, 1) := by decide +kernel
theorem d_LW_law_773 : decode b_LW_law 773 = .ok (.goto 3, 3) := by decide +kernel
theorem d_LW_law_776 : decode b_LW_law 776 = .ok (.iinc 4 4, 3) := by decide +kernel
theorem d_LW_law_779 : decode b_LW_law 779 = .ok (.goto (-756), 3) := by decide +kernel
theorem d_LW_law_782 : decode b_LW_law 782 = .ok (.iconst 1, 1) := by decide +kernel
theorem d_LW_law_783 : decode b_LW_law 783 = .ok (.ireturn, 1) := by decide +kernel
