/-! instructions of refuses -/
theorem dL_refuses_448 : decode cL_refuses 448 = .ok (.iadd, 1) := by decide +kernel
theorem dL_refuses_449 : decode cL_refuses 449 = .ok (.iload_n 2, 1) := by decide +kernel
theorem dL_refuses_450 : decode cL_refuses 450 = .ok (.iadd, 1) := by decide +kernel
theorem dL_refuses_451 : decode cL_refuses 451 = .ok (.invokestatic 200, 3) := by decide +kernel
theorem dL_refuses_454 : decode cL_refuses 454 = .ok (.ldc 18, 2) := by decide +kernel
theorem dL_refuses_456 : decode cL_refuses 456 = .ok (.if_icmp .ne 151, 3) := by decide +kernel
theorem dL_refuses_459 : decode cL_refuses 459 = .ok (.aload_n 0, 1) := by decide +kernel
theorem dL_refuses_460 : decode cL_refuses 460 = .ok (.iload 8, 2) := by decide +kernel
theorem dL_refuses_462 : decode cL_refuses 462 = .ok (.iconst (-1), 1) := by decide +kernel
theorem dL_refuses_463 : decode cL_refuses 463 = .ok (.iload_n 2, 1) := by decide +kernel
theorem dL_refuses_464 : decode cL_refuses 464 = .ok (.isub, 1) := by decide +kernel
theorem dL_refuses_465 : decode cL_refuses 465 = .ok (.invokestatic 205, 3) := by decide +kernel
theorem dL_refuses_468 : decode cL_refuses 468 = .ok (.ldc 18, 2) := by decide +kernel
theorem dL_refuses_470 : decode cL_refuses 470 = .ok (.if_icmp .ne 137, 3) := by decide +kernel
theorem dL_refuses_473 : decode cL_refuses 473 = .ok (.aload_n 0, 1) := by decide +kernel
theorem dL_refuses_474 : decode cL_refuses 474 = .ok (.iload 4, 2) := by decide +kernel
theorem dL_refuses_476 : decode cL_refuses 476 = .ok (.iconst 0, 1) := by decide +kernel
theorem dL_refuses_477 : decode cL_refuses 477 = .ok (.invokestatic 208, 3) := by decide +kernel
theorem dL_refuses_480 : decode cL_refuses 480 = .ok (.ldc 15, 2) := by decide +kernel
theorem dL_refuses_482 : decode cL_refuses 482 = .ok (.if_icmp .ne 125, 3) := by decide +kernel
theorem dL_refuses_485 : decode cL_refuses 485 = .ok (.aload_n 0, 1) := by decide +kernel
theorem dL_refuses_486 : decode cL_refuses 486 = .ok (.iload 8, 2) := by decide +kernel
theorem dL_refuses_488 : decode cL_refuses 488 = .ok (.aload_n 0, 1) := by decide +kernel
theorem dL_refuses_489 : decode cL_refuses 489 = .ok (.invokevirtual 202, 3) := by decide +kernel
theorem dL_refuses_492 : decode cL_refuses 492 = .ok (.iconst 1, 1) := by decide +kernel
theorem dL_refuses_493 : decode cL_refuses 493 = .ok (.iadd, 1) := by decide +kernel
theorem dL_refuses_494 : decode cL_refuses 494 = .ok (.invokestatic 208, 3) := by decide +kernel
theorem dL_refuses_497 : decode cL_refuses 497 = .ok (.ldc 18, 2) := by decide +kernel
theorem dL_refuses_499 : decode cL_refuses 499 = .ok (.if_icmp .ne 108, 3) := by decide +kernel
theorem dL_refuses_502 : decode cL_refuses 502 = .ok (.aload_n 0, 1) := by decide +kernel
theorem dL_refuses_503 : decode cL_refuses 503 = .ok (.iload 6, 2) := by decide +kernel
theorem dL_refuses_505 : decode cL_refuses 505 = .ok (.invokestatic 211, 3) := by decide +kernel
theorem dL_refuses_508 : decode cL_refuses 508 = .ok (.ldc 15, 2) := by decide +kernel
theorem dL_refuses_510 : decode cL_refuses 510 = .ok (.if_icmp .ne 97, 3) := by decide +kernel
theorem dL_refuses_513 : decode cL_refuses 513 = .ok (.aload_n 0, 1) := by decide +kernel
theorem dL_refuses_514 : decode cL_refuses 514 = .ok (.iload 6, 2) := by decide +kernel
theorem dL_refuses_516 : decode cL_refuses 516 = .ok (.invokestatic 213, 3) := by decide +kernel
theorem dL_refuses_519 : decode cL_refuses 519 = .ok (.ldc 15, 2) := by decide +kernel
theorem dL_refuses_521 : decode cL_refuses 521 = .ok (.if_icmp .ne 86, 3) := by decide +kernel
theorem dL_refuses_524 : decode cL_refuses 524 = .ok (.aload_n 0, 1) := by decide +kernel
theorem dL_refuses_525 : decode cL_refuses 525 = .ok (.iload 6, 2) := by decide +kernel
theorem dL_refuses_527 : decode cL_refuses 527 = .ok (.iconst 0, 1) := by decide +kernel
theorem dL_refuses_528 : decode cL_refuses 528 = .ok (.invokestatic 216, 3) := by decide +kernel
theorem dL_refuses_531 : decode cL_refuses 531 = .ok (.ldc 15, 2) := by decide +kernel
theorem dL_refuses_533 : decode cL_refuses 533 = .ok (.if_icmp .ne 74, 3) := by decide +kernel
theorem dL_refuses_536 : decode cL_refuses 536 = .ok (.aload_n 0, 1) := by decide +kernel
theorem dL_refuses_537 : decode cL_refuses 537 = .ok (.iload 5, 2) := by decide +kernel
theorem dL_refuses_539 : decode cL_refuses 539 = .ok (.invokestatic 218, 3) := by decide +kernel
theorem dL_refuses_542 : decode cL_refuses 542 = .ok (.ldc 15, 2) := by decide +kernel
theorem dL_refuses_544 : decode cL_refuses 544 = .ok (.if_icmp .ne 63, 3) := by decide +kernel
theorem dL_refuses_547 : decode cL_refuses 547 = .ok (.aload_n 0, 1) := by decide +kernel
theorem dL_refuses_548 : decode cL_refuses 548 = .ok (.iload 6, 2) := by decide +kernel
theorem dL_refuses_550 : decode cL_refuses 550 = .ok (.invokestatic 220, 3) := by decide +kernel
theorem dL_refuses_553 : decode cL_refuses 553 = .ok (.ldc 15, 2) := by decide +kernel
theorem dL_refuses_555 : decode cL_refuses 555 = .ok (.if_icmp .ne 52, 3) := by decide +kernel
theorem dL_refuses_558 : decode cL_refuses 558 = .ok (.aload_n 0, 1) := by decide +kernel
theorem dL_refuses_559 : decode cL_refuses 559 = .ok (.iload 6, 2) := by decide +kernel
theorem dL_refuses_561 : decode cL_refuses 561 = .ok (.invokestatic 222, 3) := by decide +kernel
theorem dL_refuses_564 : decode cL_refuses 564 = .ok (.ldc 15, 2) := by decide +kernel
theorem dL_refuses_566 : decode cL_refuses 566 = .ok (.if_icmp .ne 41, 3) := by decide +kernel
theorem dL_refuses_569 : decode cL_refuses 569 = .ok (.aload_n 0, 1) := by decide +kernel
theorem dL_refuses_570 : decode cL_refuses 570 = .ok (.iload 7, 2) := by decide +kernel
theorem dL_refuses_572 : decode cL_refuses 572 = .ok (.invokestatic 224, 3) := by decide +kernel
theorem dL_refuses_575 : decode cL_refuses 575 = .ok (.ldc 15, 2) := by decide +kernel
theorem dL_refuses_577 : decode cL_refuses 577 = .ok (.if_icmp .ne 30, 3) := by decide +kernel
theorem dL_refuses_580 : decode cL_refuses 580 = .ok (.aload_n 0, 1) := by decide +kernel
theorem dL_refuses_581 : decode cL_refuses 581 = .ok (.iload 5, 2) := by decide +kernel
theorem dL_refuses_583 : decode cL_refuses 583 = .ok (.invokestatic 226, 3) := by decide +kernel
theorem dL_refuses_586 : decode cL_refuses 586 = .ok (.ldc 15, 2) := by decide +kernel
theorem dL_refuses_588 : decode cL_refuses 588 = .ok (.if_icmp .ne 19, 3) := by decide +kernel
theorem dL_refuses_591 : decode cL_refuses 591 = .ok (.aload_n 0, 1) := by decide +kernel
theorem dL_refuses_592 : decode cL_refuses 592 = .ok (.iload 7, 2) := by decide +kernel
theorem dL_refuses_594 : decode cL_refuses 594 = .ok (.iconst 0, 1) := by decide +kernel
theorem dL_refuses_595 : decode cL_refuses 595 = .ok (.invokestatic 228, 3) := by decide +kernel
theorem dL_refuses_598 : decode cL_refuses 598 = .ok (.ldc 15, 2) := by decide +kernel
theorem dL_refuses_600 : decode cL_refuses 600 = .ok (.if_icmp .ne 7, 3) := by decide +kernel
theorem dL_refuses_603 : decode cL_refuses 603 = .ok (.iconst 1, 1) := by decide +kernel
theorem dL_refuses_604 : decode cL_refuses 604 = .ok (.goto 4, 3) := by decide +kernel
theorem dL_refuses_607 : decode cL_refuses 607 = .ok (.iconst 0, 1) := by decide +kernel
theorem dL_refuses_608 : decode cL_refuses 608 = .ok (.istore 9, 2) := by decide +kernel
theorem dL_refuses_610 : decode cL_refuses 610 = .ok (.iload 9, 2) := by decide +kernel
theorem dL_refuses_612 : decode cL_refuses 612 = .ok (.ifCond .eq 57, 3) := by decide +kernel
theorem dL_refuses_615 : decode cL_refuses 615 = .ok (.aload_n 1, 1) := by decide +kernel
theorem dL_refuses_616 : decode cL_refuses 616 = .ok (.iconst 0, 1) := by decide +kernel
theorem dL_refuses_617 : decode cL_refuses 617 = .ok (.iaload, 1) := by decide +kernel
theorem dL_refuses_618 : decode cL_refuses 618 = .ok (.bipush 16, 2) := by decide +kernel
theorem dL_refuses_620 : decode cL_refuses 620 = .ok (.if_icmp .lt 12, 3) := by decide +kernel
theorem dL_refuses_623 : decode cL_refuses 623 = .ok (.aload_n 0, 1) := by decide +kernel
theorem dL_refuses_624 : decode cL_refuses 624 = .ok (.invokestatic 230, 3) := by decide +kernel
theorem dL_refuses_627 : decode cL_refuses 627 = .ok (.ldc 21, 2) := by decide +kernel
theorem dL_refuses_629 : decode cL_refuses 629 = .ok (.if_icmp .ne 40, 3) := by decide +kernel
theorem dL_refuses_632 : decode cL_refuses 632 = .ok (.aload_n 0, 1) := by decide +kernel
theorem dL_refuses_633 : decode cL_refuses 633 = .ok (.invokevirtual 234, 3) := by decide +kernel
theorem dL_refuses_636 : decode cL_refuses 636 = .ok (.ifCond .eq 12, 3) := by decide +kernel
theorem dL_refuses_639 : decode cL_refuses 639 = .ok (.aload_n 0, 1) := by decide +kernel
theorem dL_refuses_640 : decode cL_refuses 640 = .ok (.invokestatic 230, 3) := by decide +kernel
theorem dL_refuses_643 : decode cL_refuses 643 = .ok (.ldc 21, 2) := by decide +kernel
theorem dL_refuses_645 : decode cL_refuses 645 = .ok (.if_icmp .ne 24, 3) := by decide +kernel
theorem dL_refuses_648 : decode cL_refuses 648 = .ok (.aload_n 1, 1) := by decide +kernel
theorem dL_refuses_649 : decode cL_refuses 649 = .ok (.iconst 1, 1) := by decide +kernel
theorem dL_refuses_650 : decode cL_refuses 650 = .ok (.iaload, 1) := by decide +kernel
theorem dL_refuses_651 : decode cL_refuses 651 = .ok (.bipush 8, 2) := by decide +kernel
theorem dL_refuses_653 : decode cL_refuses 653 = .ok (.if_icmp .lt 12, 3) := by decide +kernel
theorem dL_refuses_656 : decode cL_refuses 656 = .ok (.aload_n 0, 1) := by decide +kernel
theorem dL_refuses_657 : decode cL_refuses 657 = .ok (.invokestatic 237, 3) := by decide +kernel
theorem dL_refuses_660 : decode cL_refuses 660 = .ok (.ldc 21, 2) := by decide +kernel
theorem dL_refuses_662 : decode cL_refuses 662 = .ok (.if_icmp .ne 7, 3) := by decide +kernel
theorem dL_refuses_665 : decode cL_refuses 665 = .ok (.iconst 1, 1) := by decide +kernel
theorem dL_refuses_666 : decode cL_refuses 666 = .ok (.goto 4, 3) := by decide +kernel
theorem dL_refuses_669 : decode cL_refuses 669 = .ok (.iconst 0, 1) := by decide +kernel
theorem dL_refuses_670 : decode cL_refuses 670 = .ok (.istore 9, 2) := by decide +kernel
theorem dL_refuses_672 : decode cL_refuses 672 = .ok (.iload 9, 2) := by decide +kernel
theorem dL_refuses_674 : decode cL_refuses 674 = .ok (.ifCond .eq 255, 3) := by decide +kernel
theorem dL_refuses_677 : decode cL_refuses 677 = .ok (.aload_n 0, 1) := by decide +kernel
theorem dL_refuses_678 : decode cL_refuses 678 = .ok (.invokevirtual 133, 3) := by decide +kernel
theorem dL_refuses_681 : decode cL_refuses 681 = .ok (.ifCond .le 248, 3) := by decide +kernel
theorem dL_refuses_684 : decode cL_refuses 684 = .ok (.iload_n 2, 1) := by decide +kernel
theorem dL_refuses_685 : decode cL_refuses 685 = .ok (.iconst 2, 1) := by decide +kernel
theorem dL_refuses_686 : decode cL_refuses 686 = .ok (.idiv, 1) := by decide +kernel
theorem dL_refuses_687 : decode cL_refuses 687 = .ok (.aload_n 0, 1) := by decide +kernel
theorem dL_refuses_688 : decode cL_refuses 688 = .ok (.invokevirtual 133, 3) := by decide +kernel
theorem dL_refuses_691 : decode cL_refuses 691 = .ok (.irem, 1) := by decide +kernel
theorem dL_refuses_692 : decode cL_refuses 692 = .ok (.istore 10, 2) := by decide +kernel
theorem dL_refuses_694 : decode cL_refuses 694 = .ok (.aload_n 0, 1) := by decide +kernel
theorem dL_refuses_695 : decode cL_refuses 695 = .ok (.iload 10, 2) := by decide +kernel
theorem dL_refuses_697 : decode cL_refuses 697 = .ok (.iload 10, 2) := by decide +kernel
theorem dL_refuses_699 : decode cL_refuses 699 = .ok (.iconst 1, 1) := by decide +kernel
theorem dL_refuses_700 : decode cL_refuses 700 = .ok (.isub, 1) := by decide +kernel
theorem dL_refuses_701 : decode cL_refuses 701 = .ok (.invokestatic 152, 3) := by decide +kernel
theorem dL_refuses_704 : decode cL_refuses 704 = .ok (.iload 10, 2) := by decide +kernel
theorem dL_refuses_706 : decode cL_refuses 706 = .ok (.ifCond .ne 8, 3) := by decide +kernel
theorem dL_refuses_709 : decode cL_refuses 709 = .ok (.ldc 15, 2) := by decide +kernel
theorem dL_refuses_711 : decode cL_refuses 711 = .ok (.goto 5, 3) := by decide +kernel
theorem dL_refuses_714 : decode cL_refuses 714 = .ok (.ldc 18, 2) := by decide +kernel
theorem dL_refuses_716 : decode cL_refuses 716 = .ok (.if_icmp .ne 156, 3) := by decide +kernel
theorem dL_refuses_719 : decode cL_refuses 719 = .ok (.aload_n 0, 1) := by decide +kernel
theorem dL_refuses_720 : decode cL_refuses 720 = .ok (.iload 10, 2) := by decide +kernel
theorem dL_refuses_722 : decode cL_refuses 722 = .ok (.iconst 4, 1) := by decide +kernel
theorem dL_refuses_723 : decode cL_refuses 723 = .ok (.iload_n 2, 1) := by decide +kernel
theorem dL_refuses_724 : decode cL_refuses 724 = .ok (.iadd, 1) := by decide +kernel
theorem dL_refuses_725 : decode cL_refuses 725 = .ok (.iconst 0, 1) := by decide +kernel
theorem dL_refuses_726 : decode cL_refuses 726 = .ok (.invokestatic 156, 3) := by decide +kernel
theorem dL_refuses_729 : decode cL_refuses 729 = .ok (.ldc 18, 2) := by decide +kernel
theorem dL_refuses_731 : decode cL_refuses 731 = .ok (.if_icmp .ne 141, 3) := by decide +kernel
theorem dL_refuses_734 : decode cL_refuses 734 = .ok (.aload_n 0, 1) := by decide +kernel
theorem dL_refuses_735 : decode cL_refuses 735 = .ok (.iload 10, 2) := by decide +kernel
theorem dL_refuses_737 : decode cL_refuses 737 = .ok (.iconst 0, 1) := by decide +kernel
theorem dL_refuses_738 : decode cL_refuses 738 = .ok (.sipush 10001, 3) := by decide +kernel
theorem dL_refuses_741 : decode cL_refuses 741 = .ok (.iload_n 2, 1) := by decide +kernel
theorem dL_refuses_742 : decode cL_refuses 742 = .ok (.iadd, 1) := by decide +kernel
theorem dL_refuses_743 : decode cL_refuses 743 = .ok (.invokestatic 156, 3) := by decide +kernel
theorem dL_refuses_746 : decode cL_refuses 746 = .ok (.ldc 18, 2) := by decide +kernel
theorem dL_refuses_748 : decode cL_refuses 748 = .ok (.if_icmp .ne 124, 3) := by decide +kernel
theorem dL_refuses_751 : decode cL_refuses 751 = .ok (.aload_n 0, 1) := by decide +kernel
theorem dL_refuses_752 : decode cL_refuses 752 = .ok (.iload 10, 2) := by decide +kernel
theorem dL_refuses_754 : decode cL_refuses 754 = .ok (.sipush 10000, 3) := by decide +kernel
theorem dL_refuses_757 : decode cL_refuses 757 = .ok (.iload_n 2, 1) := by decide +kernel
theorem dL_refuses_758 : decode cL_refuses 758 = .ok (.iadd, 1) := by decide +kernel
theorem dL_refuses_759 : decode cL_refuses 759 = .ok (.invokestatic 196, 3) := by decide +kernel
theorem dL_refuses_762 : decode cL_refuses 762 = .ok (.ldc 18, 2) := by decide +kernel
theorem dL_refuses_764 : decode cL_refuses 764 = .ok (.if_icmp .ne 108, 3) := by decide +kernel
theorem dL_refuses_767 : decode cL_refuses 767 = .ok (.aload_n 0, 1) := by decide +kernel
theorem dL_refuses_768 : decode cL_refuses 768 = .ok (.iload 10, 2) := by decide +kernel
theorem dL_refuses_770 : decode cL_refuses 770 = .ok (.iload 4, 2) := by decide +kernel
theorem dL_refuses_772 : decode cL_refuses 772 = .ok (.invokestatic 198, 3) := by decide +kernel
theorem dL_refuses_775 : decode cL_refuses 775 = .ok (.ldc 15, 2) := by decide +kernel
theorem dL_refuses_777 : decode cL_refuses 777 = .ok (.if_icmp .ne 95, 3) := by decide +kernel
theorem dL_refuses_780 : decode cL_refuses 780 = .ok (.aload_n 0, 1) := by decide +kernel
theorem dL_refuses_781 : decode cL_refuses 781 = .ok (.iload 10, 2) := by decide +kernel
theorem dL_refuses_783 : decode cL_refuses 783 = .ok (.invokestatic 188, 3) := by decide +kernel
theorem dL_refuses_786 : decode cL_refuses 786 = .ok (.iconst 1, 1) := by decide +kernel
theorem dL_refuses_787 : decode cL_refuses 787 = .ok (.if_icmp .eq 14, 3) := by decide +kernel
theorem dL_refuses_790 : decode cL_refuses 790 = .ok (.aload_n 0, 1) := by decide +kernel
theorem dL_refuses_791 : decode cL_refuses 791 = .ok (.iload 10, 2) := by decide +kernel
theorem dL_refuses_793 : decode cL_refuses 793 = .ok (.invokestatic 146, 3) := by decide +kernel
theorem dL_refuses_796 : decode cL_refuses 796 = .ok (.ldc 21, 2) := by decide +kernel
theorem dL_refuses_798 : decode cL_refuses 798 = .ok (.if_icmp .ne 74, 3) := by decide +kernel
theorem dL_refuses_801 : decode cL_refuses 801 = .ok (.aload_n 0, 1) := by decide +kernel
theorem dL_refuses_802 : decode cL_refuses 802 = .ok (.iload 10, 2) := by decide +kernel
theorem dL_refuses_804 : decode cL_refuses 804 = .ok (.invokestatic 186, 3) := by decide +kernel
theorem dL_refuses_807 : decode cL_refuses 807 = .ok (.ifCond .eq 26, 3) := by decide +kernel
theorem dL_refuses_810 : decode cL_refuses 810 = .ok (.aload_n 0, 1) := by decide +kernel
theorem dL_refuses_811 : decode cL_refuses 811 = .ok (.iload 10, 2) := by decide +kernel
theorem dL_refuses_813 : decode cL_refuses 813 = .ok (.iconst 0, 1) := by decide +kernel
theorem dL_refuses_814 : decode cL_refuses 814 = .ok (.iconst 1, 1) := by decide +kernel
theorem dL_refuses_815 : decode cL_refuses 815 = .ok (.invokestatic 156, 3) := by decide +kernel
theorem dL_refuses_818 : decode cL_refuses 818 = .ok (.ldc 21, 2) := by decide +kernel
theorem dL_refuses_820 : decode cL_refuses 820 = .ok (.if_icmp .ne 52, 3) := by decide +kernel
theorem dL_refuses_823 : decode cL_refuses 823 = .ok (.aload_n 0, 1) := by decide +kernel
theorem dL_refuses_824 : decode cL_refuses 824 = .ok (.iload 10, 2) := by decide +kernel
theorem dL_refuses_826 : decode cL_refuses 826 = .ok (.invokestatic 190, 3) := by decide +kernel
theorem dL_refuses_829 : decode cL_refuses 829 = .ok (.iconst (-1), 1) := by decide +kernel
theorem dL_refuses_830 : decode cL_refuses 830 = .ok (.if_icmp .ne 42, 3) := by decide +kernel
theorem dL_refuses_833 : decode cL_refuses 833 = .ok (.aload_n 0, 1) := by decide +kernel
theorem dL_refuses_834 : decode cL_refuses 834 = .ok (.iload 10, 2) := by decide +kernel
theorem dL_refuses_836 : decode cL_refuses 836 = .ok (.invokestatic 194, 3) := by decide +kernel
theorem dL_refuses_839 : decode cL_refuses 839 = .ok (.ifCond .lt 29, 3) := by decide +kernel
theorem dL_refuses_842 : decode cL_refuses 842 = .ok (.aload_n 0, 1) := by decide +kernel
theorem dL_refuses_843 : decode cL_refuses 843 = .ok (.iload 10, 2) := by decide +kernel
theorem dL_refuses_845 : decode cL_refuses 845 = .ok (.invokestatic 146, 3) := by decide +kernel
theorem dL_refuses_848 : decode cL_refuses 848 = .ok (.ldc 21, 2) := by decide +kernel
theorem dL_refuses_850 : decode cL_refuses 850 = .ok (.if_icmp .ne 22, 3) := by decide +kernel
theorem dL_refuses_853 : decode cL_refuses 853 = .ok (.aload_n 0, 1) := by decide +kernel
theorem dL_refuses_854 : decode cL_refuses 854 = .ok (.aload_n 0, 1) := by decide +kernel
theorem dL_refuses_855 : decode cL_refuses 855 = .ok (.iload 10, 2) := by decide +kernel
theorem dL_refuses_857 : decode cL_refuses 857 = .ok (.invokestatic 194, 3) := by decide +kernel
theorem dL_refuses_860 : decode cL_refuses 860 = .ok (.invokestatic 146, 3) := by decide +kernel
theorem dL_refuses_863 : decode cL_refuses 863 = .ok (.ldc 21, 2) := by decide +kernel
theorem dL_refuses_865 : decode cL_refuses 865 = .ok (.if_icmp .ne 7, 3) := by decide +kernel
theorem dL_refuses_868 : decode cL_refuses 868 = .ok (.iconst 1, 1) := by decide +kernel
theorem dL_refuses_869 : decode cL_refuses 869 = .ok (.goto 4, 3) := by decide +kernel
theorem dL_refuses_872 : decode cL_refuses 872 = .ok (.iconst 0, 1) := by decide +kernel
theorem dL_refuses_873 : decode cL_refuses 873 = .ok (.istore 9, 2) := by decide +kernel
theorem dL_refuses_875 : decode cL_refuses 875 = .ok (.iconst 0, 1) := by decide +kernel
theorem dL_refuses_876 : decode cL_refuses 876 = .ok (.istore 11, 2) := by decide +kernel
theorem dL_refuses_878 : decode cL_refuses 878 = .ok (.iload 11, 2) := by decide +kernel
theorem dL_refuses_880 : decode cL_refuses 880 = .ok (.aload_n 1, 1) := by decide +kernel
theorem dL_refuses_881 : decode cL_refuses 881 = .ok (.iconst 1, 1) := by decide +kernel
theorem dL_refuses_882 : decode cL_refuses 882 = .ok (.iaload, 1) := by decide +kernel
theorem dL_refuses_883 : decode cL_refuses 883 = .ok (.if_icmp .ge 46, 3) := by decide +kernel
theorem dL_refuses_886 : decode cL_refuses 886 = .ok (.iload 9, 2) := by decide +kernel
theorem dL_refuses_888 : decode cL_refuses 888 = .ok (.ifCond .eq 41, 3) := by decide +kernel
theorem dL_refuses_891 : decode cL_refuses 891 = .ok (.aload_n 0, 1) := by decide +kernel
theorem dL_refuses_892 : decode cL_refuses 892 = .ok (.iload 11, 2) := by decide +kernel
theorem dL_refuses_894 : decode cL_refuses 894 = .ok (.iload 10, 2) := by decide +kernel
theorem dL_refuses_896 : decode cL_refuses 896 = .ok (.invokestatic 228, 3) := by decide +kernel
theorem dL_refuses_899 : decode cL_refuses 899 = .ok (.iconst 1, 1) := by decide +kernel
theorem dL_refuses_900 : decode cL_refuses 900 = .ok (.if_icmp .eq 16, 3) := by decide +kernel
theorem dL_refuses_903 : decode cL_refuses 903 = .ok (.aload_n 0, 1) := by decide +kernel
theorem dL_refuses_904 : decode cL_refuses 904 = .ok (.iload 11, 2) := by decide +kernel
theorem dL_refuses_906 : decode cL_refuses 906 = .ok (.iload 10, 2) := by decide +kernel
theorem dL_refuses_908 : decode cL_refuses 908 = .ok (.invokestatic 183, 3) := by decide +kernel
theorem dL_refuses_911 : decode cL_refuses 911 = .ok (.ldc 21, 2) := by decide +kernel
theorem dL_refuses_913 : decode cL_refuses 913 = .ok (.if_icmp .ne 7, 3) := by decide +kernel
theorem dL_refuses_916 : decode cL_refuses 916 = .ok (.iconst 1, 1) := by decide +kernel
theorem dL_refuses_917 : decode cL_refuses 917 = .ok (.goto 4, 3) := by decide +kernel
theorem dL_refuses_920 : decode cL_refuses 920 = .ok (.iconst 0, 1) := by decide +kernel
theorem dL_refuses_921 : decode cL_refuses 921 = .ok (.istore 9, 2) := by decide +kernel
theorem dL_refuses_923 : decode cL_refuses 923 = .ok (.iinc 11 1, 3) := by decide +kernel
theorem dL_refuses_926 : decode cL_refuses 926 = .ok (.goto (-48), 3) := by decide +kernel
