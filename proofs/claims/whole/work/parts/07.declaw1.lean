/-! OWN DECODE ROWS of the law, by program (wip/whole/gen/names.py) -/
theorem d_L_law_429 : decode b_L_law 429 = .ok (.goto 682, 3) := by decide +kernel
theorem d_L_law_432 : decode b_L_law 432 = .ok (.aload_n 1, 1) := by decide +kernel
theorem d_L_law_433 : decode b_L_law 433 = .ok (.invokevirtual 87, 3) := by decide +kernel
theorem d_L_law_436 : decode b_L_law 436 = .ok (.aload_n 2, 1) := by decide +kernel
theorem d_L_law_437 : decode b_L_law 437 = .ok (.invokevirtual 90, 3) := by decide +kernel
theorem d_L_law_440 : decode b_L_law 440 = .ok (.if_icmp .eq 671, 3) := by decide +kernel
theorem d_L_law_443 : decode b_L_law 443 = .ok (.iconst 0, 1) := by decide +kernel
theorem d_L_law_444 : decode b_L_law 444 = .ok (.ireturn, 1) := by decide +kernel
theorem d_L_law_445 : decode b_L_law 445 = .ok (.aload_n 1, 1) := by decide +kernel
theorem d_L_law_446 : decode b_L_law 446 = .ok (.aload_n 0, 1) := by decide +kernel
theorem d_L_law_447 : decode b_L_law 447 = .ok (.iload 4, 2) := by decide +kernel
theorem d_L_law_449 : decode b_L_law 449 = .ok (.iconst 1, 1) := by decide +kernel
theorem d_L_law_450 : decode b_L_law 450 = .ok (.iadd, 1) := by decide +kernel
theorem d_L_law_451 : decode b_L_law 451 = .ok (.iaload, 1) := by decide +kernel
theorem d_L_law_452 : decode b_L_law 452 = .ok (.aload_n 3, 1) := by decide +kernel
theorem d_L_law_453 : decode b_L_law 453 = .ok (.invokestatic 91, 3) := by decide +kernel
theorem d_L_law_456 : decode b_L_law 456 = .ok (.istore 5, 2) := by decide +kernel
theorem d_L_law_458 : decode b_L_law 458 = .ok (.aload_n 2, 1) := by decide +kernel
theorem d_L_law_459 : decode b_L_law 459 = .ok (.aload_n 0, 1) := by decide +kernel
theorem d_L_law_460 : decode b_L_law 460 = .ok (.iload 4, 2) := by decide +kernel
theorem d_L_law_462 : decode b_L_law 462 = .ok (.iconst 1, 1) := by decide +kernel
theorem d_L_law_463 : decode b_L_law 463 = .ok (.iadd, 1) := by decide +kernel
theorem d_L_law_464 : decode b_L_law 464 = .ok (.iaload, 1) := by decide +kernel
theorem d_L_law_465 : decode b_L_law 465 = .ok (.invokevirtual 93, 3) := by decide +kernel
theorem d_L_law_468 : decode b_L_law 468 = .ok (.istore 6, 2) := by decide +kernel
theorem d_L_law_470 : decode b_L_law 470 = .ok (.aload_n 2, 1) := by decide +kernel
theorem d_L_law_471 : decode b_L_law 471 = .ok (.invokevirtual 72, 3) := by decide +kernel
theorem d_L_law_474 : decode b_L_law 474 = .ok (.iload 5, 2) := by decide +kernel
theorem d_L_law_476 : decode b_L_law 476 = .ok (.if_icmp .eq 5, 3) := by decide +kernel
theorem d_L_law_479 : decode b_L_law 479 = .ok (.iconst 0, 1) := by decide +kernel
theorem d_L_law_480 : decode b_L_law 480 = .ok (.ireturn, 1) := by decide +kernel
theorem d_L_law_481 : decode b_L_law 481 = .ok (.iload 5, 2) := by decide +kernel
theorem d_L_law_483 : decode b_L_law 483 = .ok (.ifCond .ne 22, 3) := by decide +kernel
theorem d_L_law_486 : decode b_L_law 486 = .ok (.aload_n 3, 1) := by decide +kernel
theorem d_L_law_487 : decode b_L_law 487 = .ok (.iconst 0, 1) := by decide +kernel
theorem d_L_law_488 : decode b_L_law 488 = .ok (.laload, 1) := by decide +kernel
theorem d_L_law_489 : decode b_L_law 489 = .ok (.iload 6, 2) := by decide +kernel
theorem d_L_law_491 : decode b_L_law 491 = .ok (.ifCond .eq 7, 3) := by decide +kernel
theorem d_L_law_494 : decode b_L_law 494 = .ok (.lconst 1, 1) := by decide +kernel
theorem d_L_law_495 : decode b_L_law 495 = .ok (.goto 4, 3) := by decide +kernel
theorem d_L_law_498 : decode b_L_law 498 = .ok (.lconst 0, 1) := by decide +kernel
theorem d_L_law_499 : decode b_L_law 499 = .ok (.lcmp, 1) := by decide +kernel
theorem d_L_law_500 : decode b_L_law 500 = .ok (.ifCond .eq 5, 3) := by decide +kernel
theorem d_L_law_503 : decode b_L_law 503 = .ok (.iconst 0, 1) := by decide +kernel
theorem d_L_law_504 : decode b_L_law 504 = .ok (.ireturn, 1) := by decide +kernel
theorem d_L_law_505 : decode b_L_law 505 = .ok (.goto 606, 3) := by decide +kernel
theorem d_L_law_508 : decode b_L_law 508 = .ok (.aload_n 1, 1) := by decide +kernel
theorem d_L_law_509 : decode b_L_law 509 = .ok (.aload_n 0, 1) := by decide +kernel
theorem d_L_law_510 : decode b_L_law 510 = .ok (.iload 4, 2) := by decide +kernel
theorem d_L_law_512 : decode b_L_law 512 = .ok (.iconst 1, 1) := by decide +kernel
theorem d_L_law_513 : decode b_L_law 513 = .ok (.iadd, 1) := by decide +kernel
theorem d_L_law_514 : decode b_L_law 514 = .ok (.iaload, 1) := by decide +kernel
theorem d_L_law_515 : decode b_L_law 515 = .ok (.aload_n 0, 1) := by decide +kernel
theorem d_L_law_516 : decode b_L_law 516 = .ok (.iload 4, 2) := by decide +kernel
theorem d_L_law_518 : decode b_L_law 518 = .ok (.iconst 2, 1) := by decide +kernel
theorem d_L_law_519 : decode b_L_law 519 = .ok (.iadd, 1) := by decide +kernel
theorem d_L_law_520 : decode b_L_law 520 = .ok (.iaload, 1) := by decide +kernel
theorem d_L_law_521 : decode b_L_law 521 = .ok (.aload_n 3, 1) := by decide +kernel
theorem d_L_law_522 : decode b_L_law 522 = .ok (.invokestatic 94, 3) := by decide +kernel
theorem d_L_law_525 : decode b_L_law 525 = .ok (.istore 5, 2) := by decide +kernel
theorem d_L_law_527 : decode b_L_law 527 = .ok (.aload_n 2, 1) := by decide +kernel
theorem d_L_law_528 : decode b_L_law 528 = .ok (.aload_n 0, 1) := by decide +kernel
theorem d_L_law_529 : decode b_L_law 529 = .ok (.iload 4, 2) := by decide +kernel
theorem d_L_law_531 : decode b_L_law 531 = .ok (.iconst 1, 1) := by decide +kernel
theorem d_L_law_532 : decode b_L_law 532 = .ok (.iadd, 1) := by decide +kernel
theorem d_L_law_533 : decode b_L_law 533 = .ok (.iaload, 1) := by decide +kernel
theorem d_L_law_534 : decode b_L_law 534 = .ok (.aload_n 0, 1) := by decide +kernel
theorem d_L_law_535 : decode b_L_law 535 = .ok (.iload 4, 2) := by decide +kernel
theorem d_L_law_537 : decode b_L_law 537 = .ok (.iconst 2, 1) := by decide +kernel
theorem d_L_law_538 : decode b_L_law 538 = .ok (.iadd, 1) := by decide +kernel
theorem d_L_law_539 : decode b_L_law 539 = .ok (.iaload, 1) := by decide +kernel
theorem d_L_law_540 : decode b_L_law 540 = .ok (.invokevirtual 96, 3) := by decide +kernel
theorem d_L_law_543 : decode b_L_law 543 = .ok (.istore 6, 2) := by decide +kernel
theorem d_L_law_545 : decode b_L_law 545 = .ok (.aload_n 2, 1) := by decide +kernel
theorem d_L_law_546 : decode b_L_law 546 = .ok (.invokevirtual 72, 3) := by decide +kernel
theorem d_L_law_549 : decode b_L_law 549 = .ok (.iload 5, 2) := by decide +kernel
theorem d_L_law_551 : decode b_L_law 551 = .ok (.if_icmp .eq 5, 3) := by decide +kernel
theorem d_L_law_554 : decode b_L_law 554 = .ok (.iconst 0, 1) := by decide +kernel
theorem d_L_law_555 : decode b_L_law 555 = .ok (.ireturn, 1) := by decide +kernel
theorem d_L_law_556 : decode b_L_law 556 = .ok (.iload 5, 2) := by decide +kernel
theorem d_L_law_558 : decode b_L_law 558 = .ok (.ifCond .ne 15, 3) := by decide +kernel
theorem d_L_law_561 : decode b_L_law 561 = .ok (.aload_n 3, 1) := by decide +kernel
theorem d_L_law_562 : decode b_L_law 562 = .ok (.iconst 0, 1) := by decide +kernel
theorem d_L_law_563 : decode b_L_law 563 = .ok (.laload, 1) := by decide +kernel
theorem d_L_law_564 : decode b_L_law 564 = .ok (.iload 6, 2) := by decide +kernel
theorem d_L_law_566 : decode b_L_law 566 = .ok (.i2l, 1) := by decide +kernel
theorem d_L_law_567 : decode b_L_law 567 = .ok (.lcmp, 1) := by decide +kernel
theorem d_L_law_568 : decode b_L_law 568 = .ok (.ifCond .eq 5, 3) := by decide +kernel
theorem d_L_law_571 : decode b_L_law 571 = .ok (.iconst 0, 1) := by decide +kernel
theorem d_L_law_572 : decode b_L_law 572 = .ok (.ireturn, 1) := by decide +kernel
theorem d_L_law_573 : decode b_L_law 573 = .ok (.goto 538, 3) := by decide +kernel
theorem d_L_law_576 : decode b_L_law 576 = .ok (.aload_n 1, 1) := by decide +kernel
theorem d_L_law_577 : decode b_L_law 577 = .ok (.aload_n 0, 1) := by decide +kernel
theorem d_L_law_578 : decode b_L_law 578 = .ok (.iload 4, 2) := by decide +kernel
theorem d_L_law_580 : decode b_L_law 580 = .ok (.iconst 1, 1) := by decide +kernel
theorem d_L_law_581 : decode b_L_law 581 = .ok (.iadd, 1) := by decide +kernel
theorem d_L_law_582 : decode b_L_law 582 = .ok (.iaload, 1) := by decide +kernel
theorem d_L_law_583 : decode b_L_law 583 = .ok (.aload_n 3, 1) := by decide +kernel
theorem d_L_law_584 : decode b_L_law 584 = .ok (.invokestatic 97, 3) := by decide +kernel
theorem d_L_law_587 : decode b_L_law 587 = .ok (.istore 5, 2) := by decide +kernel
theorem d_L_law_589 : decode b_L_law 589 = .ok (.aload_n 2, 1) := by decide +kernel
theorem d_L_law_590 : decode b_L_law 590 = .ok (.aload_n 0, 1) := by decide +kernel
theorem d_L_law_591 : decode b_L_law 591 = .ok (.iload 4, 2) := by decide +kernel
theorem d_L_law_593 : decode b_L_law 593 = .ok (.iconst 1, 1) := by decide +kernel
theorem d_L_law_594 : decode b_L_law 594 = .ok (.iadd, 1) := by decide +kernel
theorem d_L_law_595 : decode b_L_law 595 = .ok (.iaload, 1) := by decide +kernel
theorem d_L_law_596 : decode b_L_law 596 = .ok (.invokevirtual 99, 3) := by decide +kernel
theorem d_L_law_599 : decode b_L_law 599 = .ok (.istore 6, 2) := by decide +kernel
theorem d_L_law_601 : decode b_L_law 601 = .ok (.aload_n 2, 1) := by decide +kernel
theorem d_L_law_602 : decode b_L_law 602 = .ok (.invokevirtual 72, 3) := by decide +kernel
theorem d_L_law_605 : decode b_L_law 605 = .ok (.iload 5, 2) := by decide +kernel
theorem d_L_law_607 : decode b_L_law 607 = .ok (.if_icmp .eq 5, 3) := by decide +kernel
theorem d_L_law_610 : decode b_L_law 610 = .ok (.iconst 0, 1) := by decide +kernel
theorem d_L_law_611 : decode b_L_law 611 = .ok (.ireturn, 1) := by decide +kernel
theorem d_L_law_612 : decode b_L_law 612 = .ok (.iload 5, 2) := by decide +kernel
theorem d_L_law_614 : decode b_L_law 614 = .ok (.ifCond .ne 15, 3) := by decide +kernel
theorem d_L_law_617 : decode b_L_law 617 = .ok (.aload_n 3, 1) := by decide +kernel
theorem d_L_law_618 : decode b_L_law 618 = .ok (.iconst 0, 1) := by decide +kernel
theorem d_L_law_619 : decode b_L_law 619 = .ok (.laload, 1) := by decide +kernel
theorem d_L_law_620 : decode b_L_law 620 = .ok (.iload 6, 2) := by decide +kernel
theorem d_L_law_622 : decode b_L_law 622 = .ok (.i2l, 1) := by decide +kernel
theorem d_L_law_623 : decode b_L_law 623 = .ok (.lcmp, 1) := by decide +kernel
theorem d_L_law_624 : decode b_L_law 624 = .ok (.ifCond .eq 5, 3) := by decide +kernel
theorem d_L_law_627 : decode b_L_law 627 = .ok (.iconst 0, 1) := by decide +kernel
theorem d_L_law_628 : decode b_L_law 628 = .ok (.ireturn, 1) := by decide +kernel
theorem d_L_law_629 : decode b_L_law 629 = .ok (.goto 482, 3) := by decide +kernel
theorem d_L_law_632 : decode b_L_law 632 = .ok (.aload_n 1, 1) := by decide +kernel
theorem d_L_law_633 : decode b_L_law 633 = .ok (.aload_n 0, 1) := by decide +kernel
theorem d_L_law_634 : decode b_L_law 634 = .ok (.iload 4, 2) := by decide +kernel
theorem d_L_law_636 : decode b_L_law 636 = .ok (.iconst 1, 1) := by decide +kernel
theorem d_L_law_637 : decode b_L_law 637 = .ok (.iadd, 1) := by decide +kernel
theorem d_L_law_638 : decode b_L_law 638 = .ok (.iaload, 1) := by decide +kernel
theorem d_L_law_639 : decode b_L_law 639 = .ok (.aload_n 3, 1) := by decide +kernel
theorem d_L_law_640 : decode b_L_law 640 = .ok (.invokestatic 100, 3) := by decide +kernel
theorem d_L_law_643 : decode b_L_law 643 = .ok (.istore 5, 2) := by decide +kernel
theorem d_L_law_645 : decode b_L_law 645 = .ok (.aload_n 2, 1) := by decide +kernel
theorem d_L_law_646 : decode b_L_law 646 = .ok (.aload_n 0, 1) := by decide +kernel
theorem d_L_law_647 : decode b_L_law 647 = .ok (.iload 4, 2) := by decide +kernel
theorem d_L_law_649 : decode b_L_law 649 = .ok (.iconst 1, 1) := by decide +kernel
theorem d_L_law_650 : decode b_L_law 650 = .ok (.iadd, 1) := by decide +kernel
theorem d_L_law_651 : decode b_L_law 651 = .ok (.iaload, 1) := by decide +kernel
theorem d_L_law_652 : decode b_L_law 652 = .ok (.invokevirtual 102, 3) := by decide +kernel
theorem d_L_law_655 : decode b_L_law 655 = .ok (.istore 6, 2) := by decide +kernel
theorem d_L_law_657 : decode b_L_law 657 = .ok (.aload_n 2, 1) := by decide +kernel
theorem d_L_law_658 : decode b_L_law 658 = .ok (.invokevirtual 72, 3) := by decide +kernel
theorem d_L_law_661 : decode b_L_law 661 = .ok (.iload 5, 2) := by decide +kernel
theorem d_L_law_663 : decode b_L_law 663 = .ok (.if_icmp .eq 5, 3) := by decide +kernel
theorem d_L_law_666 : decode b_L_law 666 = .ok (.iconst 0, 1) := by decide +kernel
theorem d_L_law_667 : decode b_L_law 667 = .ok (.ireturn, 1) := by decide +kernel
theorem d_L_law_668 : decode b_L_law 668 = .ok (.iload 5, 2) := by decide +kernel
theorem d_L_law_670 : decode b_L_law 670 = .ok (.ifCond .ne 15, 3) := by decide +kernel
theorem d_L_law_673 : decode b_L_law 673 = .ok (.aload_n 3, 1) := by decide +kernel
theorem d_L_law_674 : decode b_L_law 674 = .ok (.iconst 0, 1) := by decide +kernel
theorem d_L_law_675 : decode b_L_law 675 = .ok (.laload, 1) := by decide +kernel
theorem d_L_law_676 : decode b_L_law 676 = .ok (.iload 6, 2) := by decide +kernel
theorem d_L_law_678 : decode b_L_law 678 = .ok (.i2l, 1) := by decide +kernel
theorem d_L_law_679 : decode b_L_law 679 = .ok (.lcmp, 1) := by decide +kernel
theorem d_L_law_680 : decode b_L_law 680 = .ok (.ifCond .eq 5, 3) := by decide +kernel
theorem d_L_law_683 : decode b_L_law 683 = .ok (.iconst 0, 1) := by decide +kernel
theorem d_L_law_684 : decode b_L_law 684 = .ok (.ireturn, 1) := by decide +kernel
theorem d_L_law_685 : decode b_L_law 685 = .ok (.goto 426, 3) := by decide +kernel
theorem d_L_law_688 : decode b_L_law 688 = .ok (.aload_n 1, 1) := by decide +kernel
theorem d_L_law_689 : decode b_L_law 689 = .ok (.aload_n 0, 1) := by decide +kernel
theorem d_L_law_690 : decode b_L_law 690 = .ok (.iload 4, 2) := by decide +kernel
theorem d_L_law_692 : decode b_L_law 692 = .ok (.iconst 1, 1) := by decide +kernel
theorem d_L_law_693 : decode b_L_law 693 = .ok (.iadd, 1) := by decide +kernel
theorem d_L_law_694 : decode b_L_law 694 = .ok (.iaload, 1) := by decide +kernel
theorem d_L_law_695 : decode b_L_law 695 = .ok (.aload_n 3, 1) := by decide +kernel
theorem d_L_law_696 : decode b_L_law 696 = .ok (.invokestatic 103, 3) := by decide +kernel
theorem d_L_law_699 : decode b_L_law 699 = .ok (.istore 5, 2) := by decide +kernel
theorem d_L_law_701 : decode b_L_law 701 = .ok (.aload_n 2, 1) := by decide +kernel
theorem d_L_law_702 : decode b_L_law 702 = .ok (.aload_n 0, 1) := by decide +kernel
theorem d_L_law_703 : decode b_L_law 703 = .ok (.iload 4, 2) := by decide +kernel
theorem d_L_law_705 : decode b_L_law 705 = .ok (.iconst 1, 1) := by decide +kernel
theorem d_L_law_706 : decode b_L_law 706 = .ok (.iadd, 1) := by decide +kernel
theorem d_L_law_707 : decode b_L_law 707 = .ok (.iaload, 1) := by decide +kernel
theorem d_L_law_708 : decode b_L_law 708 = .ok (.invokevirtual 105, 3) := by decide +kernel
theorem d_L_law_711 : decode b_L_law 711 = .ok (.istore 6, 2) := by decide +kernel
theorem d_L_law_713 : decode b_L_law 713 = .ok (.aload_n 2, 1) := by decide +kernel
theorem d_L_law_714 : decode b_L_law 714 = .ok (.invokevirtual 72, 3) := by decide +kernel
theorem d_L_law_717 : decode b_L_law 717 = .ok (.iload 5, 2) := by decide +kernel
theorem d_L_law_719 : decode b_L_law 719 = .ok (.if_icmp .eq 5, 3) := by decide +kernel
theorem d_L_law_722 : decode b_L_law 722 = .ok (.iconst 0, 1) := by decide +kernel
theorem d_L_law_723 : decode b_L_law 723 = .ok (.ireturn, 1) := by decide +kernel
theorem d_L_law_724 : decode b_L_law 724 = .ok (.iload 5, 2) := by decide +kernel
theorem d_L_law_726 : decode b_L_law 726 = .ok (.ifCond .ne 15, 3) := by decide +kernel
theorem d_L_law_729 : decode b_L_law 729 = .ok (.aload_n 3, 1) := by decide +kernel
theorem d_L_law_730 : decode b_L_law 730 = .ok (.iconst 0, 1) := by decide +kernel
theorem d_L_law_731 : decode b_L_law 731 = .ok (.laload, 1) := by decide +kernel
theorem d_L_law_732 : decode b_L_law 732 = .ok (.iload 6, 2) := by decide +kernel
theorem d_L_law_734 : decode b_L_law 734 = .ok (.i2l, 1) := by decide +kernel
theorem d_L_law_735 : decode b_L_law 735 = .ok (.lcmp, 1) := by decide +kernel
theorem d_L_law_736 : decode b_L_law 736 = .ok (.ifCond .eq 5, 3) := by decide +kernel
theorem d_L_law_739 : decode b_L_law 739 = .ok (.iconst 0, 1) := by decide +kernel
theorem d_L_law_740 : decode b_L_law 740 = .ok (.ireturn, 1) := by decide +kernel
theorem d_L_law_741 : decode b_L_law 741 = .ok (.goto 370, 3) := by decide +kernel
theorem d_L_law_744 : decode b_L_law 744 = .ok (.aload_n 1, 1) := by decide +kernel
theorem d_L_law_745 : decode b_L_law 745 = .ok (.invokevirtual 106, 3) := by decide +kernel
theorem d_L_law_748 : decode b_L_law 748 = .ok (.aload_n 2, 1) := by decide +kernel
theorem d_L_law_749 : decode b_L_law 749 = .ok (.invokevirtual 110, 3) := by decide +kernel
theorem d_L_law_752 : decode b_L_law 752 = .ok (.if_icmp .eq 359, 3) := by decide +kernel
theorem d_L_law_755 : decode b_L_law 755 = .ok (.iconst 0, 1) := by decide +kernel
theorem d_L_law_756 : decode b_L_law 756 = .ok (.ireturn, 1) := by decide +kernel
theorem d_L_law_757 : decode b_L_law 757 = .ok (.aload_n 1, 1) := by decide +kernel
theorem d_L_law_758 : decode b_L_law 758 = .ok (.invokevirtual 111, 3) := by decide +kernel
theorem d_L_law_761 : decode b_L_law 761 = .ok (.aload_n 2, 1) := by decide +kernel
theorem d_L_law_762 : decode b_L_law 762 = .ok (.invokevirtual 114, 3) := by decide +kernel
theorem d_L_law_765 : decode b_L_law 765 = .ok (.if_icmp .eq 346, 3) := by decide +kernel
theorem d_L_law_768 : decode b_L_law 768 = .ok (.iconst 0, 1) := by decide +kernel
theorem d_L_law_769 : decode b_L_law 769 = .ok (.ireturn, 1) := by decide +kernel
theorem d_L_law_770 : decode b_L_law 770 = .ok (.aload_n 1, 1) := by decide +kernel
theorem d_L_law_771 : decode b_L_law 771 = .ok (.aload_n 0, 1) := by decide +kernel
theorem d_L_law_772 : decode b_L_law 772 = .ok (.iload 4, 2) := by decide +kernel
theorem d_L_law_774 : decode b_L_law 774 = .ok (.iconst 1, 1) := by decide +kernel
theorem d_L_law_775 : decode b_L_law 775 = .ok (.iadd, 1) := by decide +kernel
theorem d_L_law_776 : decode b_L_law 776 = .ok (.iaload, 1) := by decide +kernel
theorem d_L_law_777 : decode b_L_law 777 = .ok (.aload_n 0, 1) := by decide +kernel
theorem d_L_law_778 : decode b_L_law 778 = .ok (.iload 4, 2) := by decide +kernel
theorem d_L_law_780 : decode b_L_law 780 = .ok (.iconst 2, 1) := by decide +kernel
theorem d_L_law_781 : decode b_L_law 781 = .ok (.iadd, 1) := by decide +kernel
