theorem d_Law_law_526 : decode code 526 = .ok (.i2l, 1) := by decide +kernel
theorem d_Law_law_527 : decode code 527 = .ok (.lcmp, 1) := by decide +kernel
theorem d_Law_law_528 : decode code 528 = .ok (.ifCond .eq 5, 3) := by decide +kernel
theorem d_Law_law_531 : decode code 531 = .ok (.iconst 0, 1) := by decide +kernel
theorem d_Law_law_532 : decode code 532 = .ok (.ireturn, 1) := by decide +kernel
theorem d_Law_law_533 : decode code 533 = .ok (.goto 464, 3) := by decide +kernel
theorem d_Law_law_536 : decode code 536 = .ok (.aload_n 1, 1) := by decide +kernel
theorem d_Law_law_537 : decode code 537 = .ok (.aload_n 0, 1) := by decide +kernel
theorem d_Law_law_538 : decode code 538 = .ok (.iload 5, 2) := by decide +kernel
theorem d_Law_law_540 : decode code 540 = .ok (.iconst 1, 1) := by decide +kernel
theorem d_Law_law_541 : decode code 541 = .ok (.iadd, 1) := by decide +kernel
theorem d_Law_law_542 : decode code 542 = .ok (.iaload, 1) := by decide +kernel
theorem d_Law_law_543 : decode code 543 = .ok (.ifCond .eq 7, 3) := by decide +kernel
theorem d_Law_law_546 : decode code 546 = .ok (.iconst 1, 1) := by decide +kernel
theorem d_Law_law_547 : decode code 547 = .ok (.goto 4, 3) := by decide +kernel
theorem d_Law_law_550 : decode code 550 = .ok (.iconst 0, 1) := by decide +kernel
theorem d_Law_law_551 : decode code 551 = .ok (.aload_n 3, 1) := by decide +kernel
theorem d_Law_law_552 : decode code 552 = .ok (.invokestatic 104, 3) := by decide +kernel
theorem d_Law_law_555 : decode code 555 = .ok (.istore 6, 2) := by decide +kernel
theorem d_Law_law_557 : decode code 557 = .ok (.aload_n 2, 1) := by decide +kernel
theorem d_Law_law_558 : decode code 558 = .ok (.aload_n 0, 1) := by decide +kernel
theorem d_Law_law_559 : decode code 559 = .ok (.iload 5, 2) := by decide +kernel
theorem d_Law_law_561 : decode code 561 = .ok (.iconst 1, 1) := by decide +kernel
theorem d_Law_law_562 : decode code 562 = .ok (.iadd, 1) := by decide +kernel
theorem d_Law_law_563 : decode code 563 = .ok (.iaload, 1) := by decide +kernel
theorem d_Law_law_564 : decode code 564 = .ok (.ifCond .eq 7, 3) := by decide +kernel
theorem d_Law_law_567 : decode code 567 = .ok (.iconst 1, 1) := by decide +kernel
theorem d_Law_law_568 : decode code 568 = .ok (.goto 4, 3) := by decide +kernel
theorem d_Law_law_571 : decode code 571 = .ok (.iconst 0, 1) := by decide +kernel
theorem d_Law_law_572 : decode code 572 = .ok (.invokevirtual 107, 3) := by decide +kernel
theorem d_Law_law_575 : decode code 575 = .ok (.istore 7, 2) := by decide +kernel
theorem d_Law_law_577 : decode code 577 = .ok (.aload_n 2, 1) := by decide +kernel
theorem d_Law_law_578 : decode code 578 = .ok (.invokevirtual 78, 3) := by decide +kernel
theorem d_Law_law_581 : decode code 581 = .ok (.iload 6, 2) := by decide +kernel
theorem d_Law_law_583 : decode code 583 = .ok (.if_icmp .eq 5, 3) := by decide +kernel
theorem d_Law_law_586 : decode code 586 = .ok (.iconst 0, 1) := by decide +kernel
theorem d_Law_law_587 : decode code 587 = .ok (.ireturn, 1) := by decide +kernel
theorem d_Law_law_588 : decode code 588 = .ok (.iload 6, 2) := by decide +kernel
theorem d_Law_law_590 : decode code 590 = .ok (.ifCond .ne 15, 3) := by decide +kernel
theorem d_Law_law_593 : decode code 593 = .ok (.aload_n 3, 1) := by decide +kernel
theorem d_Law_law_594 : decode code 594 = .ok (.iconst 0, 1) := by decide +kernel
theorem d_Law_law_595 : decode code 595 = .ok (.laload, 1) := by decide +kernel
theorem d_Law_law_596 : decode code 596 = .ok (.iload 7, 2) := by decide +kernel
theorem d_Law_law_598 : decode code 598 = .ok (.i2l, 1) := by decide +kernel
theorem d_Law_law_599 : decode code 599 = .ok (.lcmp, 1) := by decide +kernel
theorem d_Law_law_600 : decode code 600 = .ok (.ifCond .eq 5, 3) := by decide +kernel
theorem d_Law_law_603 : decode code 603 = .ok (.iconst 0, 1) := by decide +kernel
theorem d_Law_law_604 : decode code 604 = .ok (.ireturn, 1) := by decide +kernel
theorem d_Law_law_605 : decode code 605 = .ok (.goto 392, 3) := by decide +kernel
theorem d_Law_law_608 : decode code 608 = .ok (.aload_n 1, 1) := by decide +kernel
theorem d_Law_law_609 : decode code 609 = .ok (.aload_n 0, 1) := by decide +kernel
theorem d_Law_law_610 : decode code 610 = .ok (.iload 5, 2) := by decide +kernel
theorem d_Law_law_612 : decode code 612 = .ok (.iconst 1, 1) := by decide +kernel
theorem d_Law_law_613 : decode code 613 = .ok (.iadd, 1) := by decide +kernel
theorem d_Law_law_614 : decode code 614 = .ok (.iaload, 1) := by decide +kernel
theorem d_Law_law_615 : decode code 615 = .ok (.aload_n 3, 1) := by decide +kernel
theorem d_Law_law_616 : decode code 616 = .ok (.invokestatic 108, 3) := by decide +kernel
theorem d_Law_law_619 : decode code 619 = .ok (.istore 6, 2) := by decide +kernel
theorem d_Law_law_621 : decode code 621 = .ok (.aload_n 2, 1) := by decide +kernel
theorem d_Law_law_622 : decode code 622 = .ok (.aload_n 0, 1) := by decide +kernel
theorem d_Law_law_623 : decode code 623 = .ok (.iload 5, 2) := by decide +kernel
theorem d_Law_law_625 : decode code 625 = .ok (.iconst 1, 1) := by decide +kernel
theorem d_Law_law_626 : decode code 626 = .ok (.iadd, 1) := by decide +kernel
theorem d_Law_law_627 : decode code 627 = .ok (.iaload, 1) := by decide +kernel
theorem d_Law_law_628 : decode code 628 = .ok (.invokevirtual 110, 3) := by decide +kernel
theorem d_Law_law_631 : decode code 631 = .ok (.istore 7, 2) := by decide +kernel
theorem d_Law_law_633 : decode code 633 = .ok (.aload_n 2, 1) := by decide +kernel
theorem d_Law_law_634 : decode code 634 = .ok (.invokevirtual 78, 3) := by decide +kernel
theorem d_Law_law_637 : decode code 637 = .ok (.iload 6, 2) := by decide +kernel
theorem d_Law_law_639 : decode code 639 = .ok (.if_icmp .eq 5, 3) := by decide +kernel
theorem d_Law_law_642 : decode code 642 = .ok (.iconst 0, 1) := by decide +kernel
theorem d_Law_law_643 : decode code 643 = .ok (.ireturn, 1) := by decide +kernel
theorem d_Law_law_644 : decode code 644 = .ok (.iload 6, 2) := by decide +kernel
theorem d_Law_law_646 : decode code 646 = .ok (.ifCond .ne 15, 3) := by decide +kernel
theorem d_Law_law_649 : decode code 649 = .ok (.aload_n 3, 1) := by decide +kernel
theorem d_Law_law_650 : decode code 650 = .ok (.iconst 0, 1) := by decide +kernel
theorem d_Law_law_651 : decode code 651 = .ok (.laload, 1) := by decide +kernel
theorem d_Law_law_652 : decode code 652 = .ok (.iload 7, 2) := by decide +kernel
theorem d_Law_law_654 : decode code 654 = .ok (.i2l, 1) := by decide +kernel
theorem d_Law_law_655 : decode code 655 = .ok (.lcmp, 1) := by decide +kernel
theorem d_Law_law_656 : decode code 656 = .ok (.ifCond .eq 5, 3) := by decide +kernel
theorem d_Law_law_659 : decode code 659 = .ok (.iconst 0, 1) := by decide +kernel
theorem d_Law_law_660 : decode code 660 = .ok (.ireturn, 1) := by decide +kernel
theorem d_Law_law_661 : decode code 661 = .ok (.goto 336, 3) := by decide +kernel
theorem d_Law_law_664 : decode code 664 = .ok (.aload_n 1, 1) := by decide +kernel
theorem d_Law_law_665 : decode code 665 = .ok (.aload_n 0, 1) := by decide +kernel
theorem d_Law_law_666 : decode code 666 = .ok (.iload 5, 2) := by decide +kernel
theorem d_Law_law_668 : decode code 668 = .ok (.iconst 1, 1) := by decide +kernel
theorem d_Law_law_669 : decode code 669 = .ok (.iadd, 1) := by decide +kernel
theorem d_Law_law_670 : decode code 670 = .ok (.iaload, 1) := by decide +kernel
theorem d_Law_law_671 : decode code 671 = .ok (.aload_n 3, 1) := by decide +kernel
theorem d_Law_law_672 : decode code 672 = .ok (.invokestatic 111, 3) := by decide +kernel
theorem d_Law_law_675 : decode code 675 = .ok (.istore 6, 2) := by decide +kernel
theorem d_Law_law_677 : decode code 677 = .ok (.aload_n 2, 1) := by decide +kernel
theorem d_Law_law_678 : decode code 678 = .ok (.aload_n 0, 1) := by decide +kernel
theorem d_Law_law_679 : decode code 679 = .ok (.iload 5, 2) := by decide +kernel
theorem d_Law_law_681 : decode code 681 = .ok (.iconst 1, 1) := by decide +kernel
theorem d_Law_law_682 : decode code 682 = .ok (.iadd, 1) := by decide +kernel
theorem d_Law_law_683 : decode code 683 = .ok (.iaload, 1) := by decide +kernel
theorem d_Law_law_684 : decode code 684 = .ok (.invokevirtual 113, 3) := by decide +kernel
theorem d_Law_law_687 : decode code 687 = .ok (.istore 7, 2) := by decide +kernel
theorem d_Law_law_689 : decode code 689 = .ok (.aload_n 2, 1) := by decide +kernel
theorem d_Law_law_690 : decode code 690 = .ok (.invokevirtual 78, 3) := by decide +kernel
theorem d_Law_law_693 : decode code 693 = .ok (.iload 6, 2) := by decide +kernel
theorem d_Law_law_695 : decode code 695 = .ok (.if_icmp .eq 5, 3) := by decide +kernel
theorem d_Law_law_698 : decode code 698 = .ok (.iconst 0, 1) := by decide +kernel
theorem d_Law_law_699 : decode code 699 = .ok (.ireturn, 1) := by decide +kernel
theorem d_Law_law_700 : decode code 700 = .ok (.iload 6, 2) := by decide +kernel
theorem d_Law_law_702 : decode code 702 = .ok (.ifCond .ne 15, 3) := by decide +kernel
theorem d_Law_law_705 : decode code 705 = .ok (.aload_n 3, 1) := by decide +kernel
theorem d_Law_law_706 : decode code 706 = .ok (.iconst 0, 1) := by decide +kernel
theorem d_Law_law_707 : decode code 707 = .ok (.laload, 1) := by decide +kernel
theorem d_Law_law_708 : decode code 708 = .ok (.iload 7, 2) := by decide +kernel
theorem d_Law_law_710 : decode code 710 = .ok (.i2l, 1) := by decide +kernel
theorem d_Law_law_711 : decode code 711 = .ok (.lcmp, 1) := by decide +kernel
theorem d_Law_law_712 : decode code 712 = .ok (.ifCond .eq 5, 3) := by decide +kernel
theorem d_Law_law_715 : decode code 715 = .ok (.iconst 0, 1) := by decide +kernel
theorem d_Law_law_716 : decode code 716 = .ok (.ireturn, 1) := by decide +kernel
theorem d_Law_law_717 : decode code 717 = .ok (.goto 280, 3) := by decide +kernel
theorem d_Law_law_720 : decode code 720 = .ok (.aload_n 1, 1) := by decide +kernel
theorem d_Law_law_721 : decode code 721 = .ok (.aload_n 0, 1) := by decide +kernel
theorem d_Law_law_722 : decode code 722 = .ok (.iload 5, 2) := by decide +kernel
theorem d_Law_law_724 : decode code 724 = .ok (.iconst 1, 1) := by decide +kernel
theorem d_Law_law_725 : decode code 725 = .ok (.iadd, 1) := by decide +kernel
theorem d_Law_law_726 : decode code 726 = .ok (.iaload, 1) := by decide +kernel
theorem d_Law_law_727 : decode code 727 = .ok (.aload_n 0, 1) := by decide +kernel
theorem d_Law_law_728 : decode code 728 = .ok (.iload 5, 2) := by decide +kernel
theorem d_Law_law_730 : decode code 730 = .ok (.iconst 2, 1) := by decide +kernel
theorem d_Law_law_731 : decode code 731 = .ok (.iadd, 1) := by decide +kernel
theorem d_Law_law_732 : decode code 732 = .ok (.iaload, 1) := by decide +kernel
theorem d_Law_law_733 : decode code 733 = .ok (.aload_n 3, 1) := by decide +kernel
theorem d_Law_law_734 : decode code 734 = .ok (.invokestatic 114, 3) := by decide +kernel
theorem d_Law_law_737 : decode code 737 = .ok (.istore 6, 2) := by decide +kernel
theorem d_Law_law_739 : decode code 739 = .ok (.aload_n 2, 1) := by decide +kernel
theorem d_Law_law_740 : decode code 740 = .ok (.aload_n 0, 1) := by decide +kernel
theorem d_Law_law_741 : decode code 741 = .ok (.iload 5, 2) := by decide +kernel
theorem d_Law_law_743 : decode code 743 = .ok (.iconst 1, 1) := by decide +kernel
theorem d_Law_law_744 : decode code 744 = .ok (.iadd, 1) := by decide +kernel
theorem d_Law_law_745 : decode code 745 = .ok (.iaload, 1) := by decide +kernel
theorem d_Law_law_746 : decode code 746 = .ok (.aload_n 0, 1) := by decide +kernel
theorem d_Law_law_747 : decode code 747 = .ok (.iload 5, 2) := by decide +kernel
theorem d_Law_law_749 : decode code 749 = .ok (.iconst 2, 1) := by decide +kernel
theorem d_Law_law_750 : decode code 750 = .ok (.iadd, 1) := by decide +kernel
theorem d_Law_law_751 : decode code 751 = .ok (.iaload, 1) := by decide +kernel
theorem d_Law_law_752 : decode code 752 = .ok (.invokevirtual 117, 3) := by decide +kernel
theorem d_Law_law_755 : decode code 755 = .ok (.lstore 7, 2) := by decide +kernel
theorem d_Law_law_757 : decode code 757 = .ok (.aload_n 2, 1) := by decide +kernel
theorem d_Law_law_758 : decode code 758 = .ok (.invokevirtual 78, 3) := by decide +kernel
theorem d_Law_law_761 : decode code 761 = .ok (.iload 6, 2) := by decide +kernel
