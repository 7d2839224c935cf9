theorem dL_holds_449 : decode cL_holds 449 = .ok (.iload 5, 2) := by decide +kernel
theorem dL_holds_451 : decode cL_holds 451 = .ok (.iconst 0, 1) := by decide +kernel
theorem dL_holds_452 : decode cL_holds 452 = .ok (.invokestatic 248, 3) := by decide +kernel
theorem dL_holds_455 : decode cL_holds 455 = .ok (.istore 13, 2) := by decide +kernel
theorem dL_holds_457 : decode cL_holds 457 = .ok (.iload 9, 2) := by decide +kernel
theorem dL_holds_459 : decode cL_holds 459 = .ok (.ifCond .eq 111, 3) := by decide +kernel
theorem dL_holds_462 : decode cL_holds 462 = .ok (.iload 12, 2) := by decide +kernel
theorem dL_holds_464 : decode cL_holds 464 = .ok (.iload 6, 2) := by decide +kernel
theorem dL_holds_466 : decode cL_holds 466 = .ok (.iload 7, 2) := by decide +kernel
theorem dL_holds_468 : decode cL_holds 468 = .ok (.iadd, 1) := by decide +kernel
theorem dL_holds_469 : decode cL_holds 469 = .ok (.if_icmp .gt 101, 3) := by decide +kernel
theorem dL_holds_472 : decode cL_holds 472 = .ok (.iload 12, 2) := by decide +kernel
theorem dL_holds_474 : decode cL_holds 474 = .ok (.iload 6, 2) := by decide +kernel
theorem dL_holds_476 : decode cL_holds 476 = .ok (.iload 7, 2) := by decide +kernel
theorem dL_holds_478 : decode cL_holds 478 = .ok (.if_icmp .le 8, 3) := by decide +kernel
theorem dL_holds_481 : decode cL_holds 481 = .ok (.iload 6, 2) := by decide +kernel
theorem dL_holds_483 : decode cL_holds 483 = .ok (.goto 5, 3) := by decide +kernel
theorem dL_holds_486 : decode cL_holds 486 = .ok (.iload 7, 2) := by decide +kernel
theorem dL_holds_488 : decode cL_holds 488 = .ok (.if_icmp .lt 82, 3) := by decide +kernel
theorem dL_holds_491 : decode cL_holds 491 = .ok (.iload 12, 2) := by decide +kernel
theorem dL_holds_493 : decode cL_holds 493 = .ok (.iload 6, 2) := by decide +kernel
theorem dL_holds_495 : decode cL_holds 495 = .ok (.iload 7, 2) := by decide +kernel
theorem dL_holds_497 : decode cL_holds 497 = .ok (.iadd, 1) := by decide +kernel
theorem dL_holds_498 : decode cL_holds 498 = .ok (.if_icmp .ge 7, 3) := by decide +kernel
theorem dL_holds_501 : decode cL_holds 501 = .ok (.iconst 1, 1) := by decide +kernel
theorem dL_holds_502 : decode cL_holds 502 = .ok (.goto 4, 3) := by decide +kernel
theorem dL_holds_505 : decode cL_holds 505 = .ok (.iconst 0, 1) := by decide +kernel
theorem dL_holds_506 : decode cL_holds 506 = .ok (.iload 13, 2) := by decide +kernel
theorem dL_holds_508 : decode cL_holds 508 = .ok (.iconst (-1), 1) := by decide +kernel
theorem dL_holds_509 : decode cL_holds 509 = .ok (.if_icmp .eq 7, 3) := by decide +kernel
theorem dL_holds_512 : decode cL_holds 512 = .ok (.iconst 1, 1) := by decide +kernel
theorem dL_holds_513 : decode cL_holds 513 = .ok (.goto 4, 3) := by decide +kernel
theorem dL_holds_516 : decode cL_holds 516 = .ok (.iconst 0, 1) := by decide +kernel
theorem dL_holds_517 : decode cL_holds 517 = .ok (.if_icmp .ne 53, 3) := by decide +kernel
theorem dL_holds_520 : decode cL_holds 520 = .ok (.iload 13, 2) := by decide +kernel
theorem dL_holds_522 : decode cL_holds 522 = .ok (.iconst (-1), 1) := by decide +kernel
theorem dL_holds_523 : decode cL_holds 523 = .ok (.if_icmp .eq 27, 3) := by decide +kernel
theorem dL_holds_526 : decode cL_holds 526 = .ok (.aload_n 0, 1) := by decide +kernel
theorem dL_holds_527 : decode cL_holds 527 = .ok (.iload 4, 2) := by decide +kernel
theorem dL_holds_529 : decode cL_holds 529 = .ok (.iload 13, 2) := by decide +kernel
theorem dL_holds_531 : decode cL_holds 531 = .ok (.invokestatic 252, 3) := by decide +kernel
theorem dL_holds_534 : decode cL_holds 534 = .ok (.iconst 1, 1) := by decide +kernel
theorem dL_holds_535 : decode cL_holds 535 = .ok (.if_icmp .ne 35, 3) := by decide +kernel
theorem dL_holds_538 : decode cL_holds 538 = .ok (.aload_n 0, 1) := by decide +kernel
theorem dL_holds_539 : decode cL_holds 539 = .ok (.iload 5, 2) := by decide +kernel
theorem dL_holds_541 : decode cL_holds 541 = .ok (.iload 13, 2) := by decide +kernel
theorem dL_holds_543 : decode cL_holds 543 = .ok (.invokestatic 252, 3) := by decide +kernel
theorem dL_holds_546 : decode cL_holds 546 = .ok (.iconst 1, 1) := by decide +kernel
theorem dL_holds_547 : decode cL_holds 547 = .ok (.if_icmp .ne 23, 3) := by decide +kernel
theorem dL_holds_550 : decode cL_holds 550 = .ok (.iload 13, 2) := by decide +kernel
theorem dL_holds_552 : decode cL_holds 552 = .ok (.aload_n 0, 1) := by decide +kernel
theorem dL_holds_553 : decode cL_holds 553 = .ok (.bipush 22, 2) := by decide +kernel
theorem dL_holds_555 : decode cL_holds 555 = .ok (.iload 5, 2) := by decide +kernel
theorem dL_holds_557 : decode cL_holds 557 = .ok (.iload 4, 2) := by decide +kernel
theorem dL_holds_559 : decode cL_holds 559 = .ok (.iconst 0, 1) := by decide +kernel
theorem dL_holds_560 : decode cL_holds 560 = .ok (.invokestatic 248, 3) := by decide +kernel
theorem dL_holds_563 : decode cL_holds 563 = .ok (.if_icmp .ne 7, 3) := by decide +kernel
theorem dL_holds_566 : decode cL_holds 566 = .ok (.iconst 1, 1) := by decide +kernel
theorem dL_holds_567 : decode cL_holds 567 = .ok (.goto 4, 3) := by decide +kernel
theorem dL_holds_570 : decode cL_holds 570 = .ok (.iconst 0, 1) := by decide +kernel
theorem dL_holds_571 : decode cL_holds 571 = .ok (.istore 9, 2) := by decide +kernel
theorem dL_holds_573 : decode cL_holds 573 = .ok (.aload_n 0, 1) := by decide +kernel
theorem dL_holds_574 : decode cL_holds 574 = .ok (.invokevirtual 263, 3) := by decide +kernel
theorem dL_holds_577 : decode cL_holds 577 = .ok (.istore 14, 2) := by decide +kernel
theorem dL_holds_579 : decode cL_holds 579 = .ok (.iconst 1, 1) := by decide +kernel
theorem dL_holds_580 : decode cL_holds 580 = .ok (.istore 15, 2) := by decide +kernel
theorem dL_holds_582 : decode cL_holds 582 = .ok (.iconst 0, 1) := by decide +kernel
theorem dL_holds_583 : decode cL_holds 583 = .ok (.istore 16, 2) := by decide +kernel
theorem dL_holds_585 : decode cL_holds 585 = .ok (.iload 16, 2) := by decide +kernel
theorem dL_holds_587 : decode cL_holds 587 = .ok (.iload_n 3, 1) := by decide +kernel
theorem dL_holds_588 : decode cL_holds 588 = .ok (.if_icmp .ge 167, 3) := by decide +kernel
theorem dL_holds_591 : decode cL_holds 591 = .ok (.iload 9, 2) := by decide +kernel
theorem dL_holds_593 : decode cL_holds 593 = .ok (.ifCond .eq 162, 3) := by decide +kernel
theorem dL_holds_596 : decode cL_holds 596 = .ok (.aload_n 0, 1) := by decide +kernel
theorem dL_holds_597 : decode cL_holds 597 = .ok (.bipush 24, 2) := by decide +kernel
theorem dL_holds_599 : decode cL_holds 599 = .ok (.iload 16, 2) := by decide +kernel
theorem dL_holds_601 : decode cL_holds 601 = .ok (.iconst 0, 1) := by decide +kernel
theorem dL_holds_602 : decode cL_holds 602 = .ok (.iconst 0, 1) := by decide +kernel
theorem dL_holds_603 : decode cL_holds 603 = .ok (.invokestatic 248, 3) := by decide +kernel
theorem dL_holds_606 : decode cL_holds 606 = .ok (.istore 17, 2) := by decide +kernel
theorem dL_holds_608 : decode cL_holds 608 = .ok (.aload_n 0, 1) := by decide +kernel
theorem dL_holds_609 : decode cL_holds 609 = .ok (.bipush 25, 2) := by decide +kernel
theorem dL_holds_611 : decode cL_holds 611 = .ok (.iload 16, 2) := by decide +kernel
theorem dL_holds_613 : decode cL_holds 613 = .ok (.iconst 0, 1) := by decide +kernel
theorem dL_holds_614 : decode cL_holds 614 = .ok (.iconst 0, 1) := by decide +kernel
theorem dL_holds_615 : decode cL_holds 615 = .ok (.invokestatic 248, 3) := by decide +kernel
theorem dL_holds_618 : decode cL_holds 618 = .ok (.istore 18, 2) := by decide +kernel
theorem dL_holds_620 : decode cL_holds 620 = .ok (.aload_n 0, 1) := by decide +kernel
theorem dL_holds_621 : decode cL_holds 621 = .ok (.bipush 26, 2) := by decide +kernel
theorem dL_holds_623 : decode cL_holds 623 = .ok (.iload 16, 2) := by decide +kernel
theorem dL_holds_625 : decode cL_holds 625 = .ok (.iconst 0, 1) := by decide +kernel
theorem dL_holds_626 : decode cL_holds 626 = .ok (.iconst 0, 1) := by decide +kernel
theorem dL_holds_627 : decode cL_holds 627 = .ok (.invokestatic 248, 3) := by decide +kernel
theorem dL_holds_630 : decode cL_holds 630 = .ok (.istore 19, 2) := by decide +kernel
theorem dL_holds_632 : decode cL_holds 632 = .ok (.iload 15, 2) := by decide +kernel
theorem dL_holds_634 : decode cL_holds 634 = .ok (.ifCond .eq 15, 3) := by decide +kernel
theorem dL_holds_637 : decode cL_holds 637 = .ok (.iload 17, 2) := by decide +kernel
theorem dL_holds_639 : decode cL_holds 639 = .ok (.iload_n 2, 1) := by decide +kernel
theorem dL_holds_640 : decode cL_holds 640 = .ok (.iconst 1, 1) := by decide +kernel
theorem dL_holds_641 : decode cL_holds 641 = .ok (.isub, 1) := by decide +kernel
theorem dL_holds_642 : decode cL_holds 642 = .ok (.if_icmp .eq 7, 3) := by decide +kernel
theorem dL_holds_645 : decode cL_holds 645 = .ok (.iconst 1, 1) := by decide +kernel
theorem dL_holds_646 : decode cL_holds 646 = .ok (.goto 4, 3) := by decide +kernel
theorem dL_holds_649 : decode cL_holds 649 = .ok (.iconst 0, 1) := by decide +kernel
theorem dL_holds_650 : decode cL_holds 650 = .ok (.istore 15, 2) := by decide +kernel
theorem dL_holds_652 : decode cL_holds 652 = .ok (.iload 17, 2) := by decide +kernel
theorem dL_holds_654 : decode cL_holds 654 = .ok (.ifCond .lt 92, 3) := by decide +kernel
theorem dL_holds_657 : decode cL_holds 657 = .ok (.iload 17, 2) := by decide +kernel
theorem dL_holds_659 : decode cL_holds 659 = .ok (.iload_n 2, 1) := by decide +kernel
theorem dL_holds_660 : decode cL_holds 660 = .ok (.if_icmp .ge 86, 3) := by decide +kernel
theorem dL_holds_663 : decode cL_holds 663 = .ok (.iload 18, 2) := by decide +kernel
theorem dL_holds_665 : decode cL_holds 665 = .ok (.ifCond .lt 81, 3) := by decide +kernel
theorem dL_holds_668 : decode cL_holds 668 = .ok (.iload 18, 2) := by decide +kernel
theorem dL_holds_670 : decode cL_holds 670 = .ok (.aload_n 0, 1) := by decide +kernel
theorem dL_holds_671 : decode cL_holds 671 = .ok (.bipush 20, 2) := by decide +kernel
theorem dL_holds_673 : decode cL_holds 673 = .ok (.iload 17, 2) := by decide +kernel
theorem dL_holds_675 : decode cL_holds 675 = .ok (.sipush 999, 3) := by decide +kernel
theorem dL_holds_678 : decode cL_holds 678 = .ok (.iconst 0, 1) := by decide +kernel
theorem dL_holds_679 : decode cL_holds 679 = .ok (.invokestatic 248, 3) := by decide +kernel
theorem dL_holds_682 : decode cL_holds 682 = .ok (.if_icmp .gt 64, 3) := by decide +kernel
theorem dL_holds_685 : decode cL_holds 685 = .ok (.iload 19, 2) := by decide +kernel
theorem dL_holds_687 : decode cL_holds 687 = .ok (.aload_n 0, 1) := by decide +kernel
theorem dL_holds_688 : decode cL_holds 688 = .ok (.bipush 17, 2) := by decide +kernel
theorem dL_holds_690 : decode cL_holds 690 = .ok (.iload 17, 2) := by decide +kernel
theorem dL_holds_692 : decode cL_holds 692 = .ok (.iload 18, 2) := by decide +kernel
theorem dL_holds_694 : decode cL_holds 694 = .ok (.iconst 0, 1) := by decide +kernel
theorem dL_holds_695 : decode cL_holds 695 = .ok (.invokestatic 248, 3) := by decide +kernel
theorem dL_holds_698 : decode cL_holds 698 = .ok (.if_icmp .ne 48, 3) := by decide +kernel
theorem dL_holds_701 : decode cL_holds 701 = .ok (.iload 19, 2) := by decide +kernel
theorem dL_holds_703 : decode cL_holds 703 = .ok (.iconst (-1), 1) := by decide +kernel
theorem dL_holds_704 : decode cL_holds 704 = .ok (.if_icmp .eq 38, 3) := by decide +kernel
theorem dL_holds_707 : decode cL_holds 707 = .ok (.iload 14, 2) := by decide +kernel
theorem dL_holds_709 : decode cL_holds 709 = .ok (.iconst (-1), 1) := by decide +kernel
theorem dL_holds_710 : decode cL_holds 710 = .ok (.if_icmp .eq 36, 3) := by decide +kernel
theorem dL_holds_713 : decode cL_holds 713 = .ok (.aload_n 0, 1) := by decide +kernel
theorem dL_holds_714 : decode cL_holds 714 = .ok (.bipush 26, 2) := by decide +kernel
theorem dL_holds_716 : decode cL_holds 716 = .ok (.iload 14, 2) := by decide +kernel
theorem dL_holds_718 : decode cL_holds 718 = .ok (.iconst 0, 1) := by decide +kernel
theorem dL_holds_719 : decode cL_holds 719 = .ok (.iconst 0, 1) := by decide +kernel
theorem dL_holds_720 : decode cL_holds 720 = .ok (.invokestatic 248, 3) := by decide +kernel
theorem dL_holds_723 : decode cL_holds 723 = .ok (.iload 19, 2) := by decide +kernel
theorem dL_holds_725 : decode cL_holds 725 = .ok (.if_icmp .gt 21, 3) := by decide +kernel
theorem dL_holds_728 : decode cL_holds 728 = .ok (.aload_n 0, 1) := by decide +kernel
theorem dL_holds_729 : decode cL_holds 729 = .ok (.bipush 31, 2) := by decide +kernel
theorem dL_holds_731 : decode cL_holds 731 = .ok (.iload 16, 2) := by decide +kernel
theorem dL_holds_733 : decode cL_holds 733 = .ok (.iload 19, 2) := by decide +kernel
theorem dL_holds_735 : decode cL_holds 735 = .ok (.iconst 0, 1) := by decide +kernel
theorem dL_holds_736 : decode cL_holds 736 = .ok (.invokestatic 248, 3) := by decide +kernel
theorem dL_holds_739 : decode cL_holds 739 = .ok (.ifCond .ne 7, 3) := by decide +kernel
theorem dL_holds_742 : decode cL_holds 742 = .ok (.iconst 1, 1) := by decide +kernel
theorem dL_holds_743 : decode cL_holds 743 = .ok (.goto 4, 3) := by decide +kernel
theorem dL_holds_746 : decode cL_holds 746 = .ok (.iconst 0, 1) := by decide +kernel
theorem dL_holds_747 : decode cL_holds 747 = .ok (.istore 9, 2) := by decide +kernel
theorem dL_holds_749 : decode cL_holds 749 = .ok (.iinc 16 1, 3) := by decide +kernel
theorem dL_holds_752 : decode cL_holds 752 = .ok (.goto (-167), 3) := by decide +kernel
theorem dL_holds_755 : decode cL_holds 755 = .ok (.iload_n 1, 1) := by decide +kernel
theorem dL_holds_756 : decode cL_holds 756 = .ok (.ldc 255, 2) := by decide +kernel
theorem dL_holds_758 : decode cL_holds 758 = .ok (.irem, 1) := by decide +kernel
theorem dL_holds_759 : decode cL_holds 759 = .ok (.istore 16, 2) := by decide +kernel
theorem dL_holds_761 : decode cL_holds 761 = .ok (.aload_n 0, 1) := by decide +kernel
theorem dL_holds_762 : decode cL_holds 762 = .ok (.bipush 27, 2) := by decide +kernel
theorem dL_holds_764 : decode cL_holds 764 = .ok (.iload 16, 2) := by decide +kernel
theorem dL_holds_766 : decode cL_holds 766 = .ok (.iconst 0, 1) := by decide +kernel
theorem dL_holds_767 : decode cL_holds 767 = .ok (.iconst 0, 1) := by decide +kernel
theorem dL_holds_768 : decode cL_holds 768 = .ok (.invokestatic 248, 3) := by decide +kernel
theorem dL_holds_771 : decode cL_holds 771 = .ok (.istore 17, 2) := by decide +kernel
theorem dL_holds_773 : decode cL_holds 773 = .ok (.iload 9, 2) := by decide +kernel
theorem dL_holds_775 : decode cL_holds 775 = .ok (.ifCond .eq 86, 3) := by decide +kernel
theorem dL_holds_778 : decode cL_holds 778 = .ok (.aload_n 0, 1) := by decide +kernel
theorem dL_holds_779 : decode cL_holds 779 = .ok (.invokevirtual 260, 3) := by decide +kernel
theorem dL_holds_782 : decode cL_holds 782 = .ok (.ifCond .ne 7, 3) := by decide +kernel
theorem dL_holds_785 : decode cL_holds 785 = .ok (.iconst 1, 1) := by decide +kernel
theorem dL_holds_786 : decode cL_holds 786 = .ok (.goto 4, 3) := by decide +kernel
theorem dL_holds_789 : decode cL_holds 789 = .ok (.iconst 0, 1) := by decide +kernel
theorem dL_holds_790 : decode cL_holds 790 = .ok (.iload 15, 2) := by decide +kernel
theorem dL_holds_792 : decode cL_holds 792 = .ok (.ifCond .eq 11, 3) := by decide +kernel
theorem dL_holds_795 : decode cL_holds 795 = .ok (.iload_n 2, 1) := by decide +kernel
theorem dL_holds_796 : decode cL_holds 796 = .ok (.ifCond .le 7, 3) := by decide +kernel
theorem dL_holds_799 : decode cL_holds 799 = .ok (.iconst 1, 1) := by decide +kernel
theorem dL_holds_800 : decode cL_holds 800 = .ok (.goto 4, 3) := by decide +kernel
theorem dL_holds_803 : decode cL_holds 803 = .ok (.iconst 0, 1) := by decide +kernel
theorem dL_holds_804 : decode cL_holds 804 = .ok (.if_icmp .ne 57, 3) := by decide +kernel
theorem dL_holds_807 : decode cL_holds 807 = .ok (.iload 17, 2) := by decide +kernel
theorem dL_holds_809 : decode cL_holds 809 = .ok (.ifCond .lt 52, 3) := by decide +kernel
theorem dL_holds_812 : decode cL_holds 812 = .ok (.aload_n 0, 1) := by decide +kernel
theorem dL_holds_813 : decode cL_holds 813 = .ok (.bipush 28, 2) := by decide +kernel
theorem dL_holds_815 : decode cL_holds 815 = .ok (.iload 16, 2) := by decide +kernel
theorem dL_holds_817 : decode cL_holds 817 = .ok (.iconst 0, 1) := by decide +kernel
theorem dL_holds_818 : decode cL_holds 818 = .ok (.iconst 0, 1) := by decide +kernel
theorem dL_holds_819 : decode cL_holds 819 = .ok (.invokestatic 248, 3) := by decide +kernel
theorem dL_holds_822 : decode cL_holds 822 = .ok (.iload 17, 2) := by decide +kernel
theorem dL_holds_824 : decode cL_holds 824 = .ok (.if_icmp .ne 37, 3) := by decide +kernel
theorem dL_holds_827 : decode cL_holds 827 = .ok (.iload 16, 2) := by decide +kernel
theorem dL_holds_829 : decode cL_holds 829 = .ok (.sipush 20000, 3) := by decide +kernel
theorem dL_holds_832 : decode cL_holds 832 = .ok (.if_icmp .gt 25, 3) := by decide +kernel
theorem dL_holds_835 : decode cL_holds 835 = .ok (.aload_n 0, 1) := by decide +kernel
theorem dL_holds_836 : decode cL_holds 836 = .ok (.bipush 29, 2) := by decide +kernel
theorem dL_holds_838 : decode cL_holds 838 = .ok (.iload 17, 2) := by decide +kernel
theorem dL_holds_840 : decode cL_holds 840 = .ok (.iload 16, 2) := by decide +kernel
theorem dL_holds_842 : decode cL_holds 842 = .ok (.invokestatic 266, 3) := by decide +kernel
theorem dL_holds_845 : decode cL_holds 845 = .ok (.iload 17, 2) := by decide +kernel
theorem dL_holds_847 : decode cL_holds 847 = .ok (.isub, 1) := by decide +kernel
theorem dL_holds_848 : decode cL_holds 848 = .ok (.iconst 0, 1) := by decide +kernel
theorem dL_holds_849 : decode cL_holds 849 = .ok (.invokestatic 248, 3) := by decide +kernel
theorem dL_holds_852 : decode cL_holds 852 = .ok (.iload 16, 2) := by decide +kernel
theorem dL_holds_854 : decode cL_holds 854 = .ok (.if_icmp .ne 7, 3) := by decide +kernel
theorem dL_holds_857 : decode cL_holds 857 = .ok (.iconst 1, 1) := by decide +kernel
theorem dL_holds_858 : decode cL_holds 858 = .ok (.goto 4, 3) := by decide +kernel
theorem dL_holds_861 : decode cL_holds 861 = .ok (.iconst 0, 1) := by decide +kernel
theorem dL_holds_862 : decode cL_holds 862 = .ok (.ireturn, 1) := by decide +kernel
theorem dL_corner_0 : decode cL_corner 0 = .ok (.iconst 0, 1) := by decide +kernel
theorem dL_corner_1 : decode cL_corner 1 = .ok (.istore_n 1, 1) := by decide +kernel
theorem dL_corner_2 : decode cL_corner 2 = .ok (.iload_n 1, 1) := by decide +kernel
theorem dL_corner_3 : decode cL_corner 3 = .ok (.iconst 1, 1) := by decide +kernel
theorem dL_corner_4 : decode cL_corner 4 = .ok (.iadd, 1) := by decide +kernel
theorem dL_corner_5 : decode cL_corner 5 = .ok (.iload_n 1, 1) := by decide +kernel
theorem dL_corner_6 : decode cL_corner 6 = .ok (.iconst 2, 1) := by decide +kernel
theorem dL_corner_7 : decode cL_corner 7 = .ok (.iadd, 1) := by decide +kernel
theorem dL_corner_8 : decode cL_corner 8 = .ok (.imul, 1) := by decide +kernel
theorem dL_corner_9 : decode cL_corner 9 = .ok (.iconst 2, 1) := by decide +kernel
theorem dL_corner_10 : decode cL_corner 10 = .ok (.idiv, 1) := by decide +kernel
theorem dL_corner_11 : decode cL_corner 11 = .ok (.iload_n 0, 1) := by decide +kernel
theorem dL_corner_12 : decode cL_corner 12 = .ok (.if_icmp .gt 9, 3) := by decide +kernel
theorem dL_corner_15 : decode cL_corner 15 = .ok (.iinc 1 1, 3) := by decide +kernel
theorem dL_corner_18 : decode cL_corner 18 = .ok (.goto (-16), 3) := by decide +kernel
theorem dL_corner_21 : decode cL_corner 21 = .ok (.iload_n 1, 1) := by decide +kernel
theorem dL_corner_22 : decode cL_corner 22 = .ok (.ireturn, 1) := by decide +kernel
theorem dL_act_0 : decode cL_act 0 = .ok (.iload_n 1, 1) := by decide +kernel
theorem dL_act_1 : decode cL_act 1 = .ok (.bipush 16, 2) := by decide +kernel
theorem dL_act_3 : decode cL_act 3 = .ok (.idiv, 1) := by decide +kernel
theorem dL_act_4 : decode cL_act 4 = .ok (.istore_n 2, 1) := by decide +kernel
theorem dL_act_5 : decode cL_act 5 = .ok (.aload_n 0, 1) := by decide +kernel
theorem dL_act_6 : decode cL_act 6 = .ok (.invokevirtual 242, 3) := by decide +kernel
theorem dL_act_9 : decode cL_act 9 = .ok (.istore_n 3, 1) := by decide +kernel
theorem dL_act_10 : decode cL_act 10 = .ok (.iload_n 2, 1) := by decide +kernel
theorem dL_act_11 : decode cL_act 11 = .ok (.iload_n 3, 1) := by decide +kernel
theorem dL_act_12 : decode cL_act 12 = .ok (.irem, 1) := by decide +kernel
theorem dL_act_13 : decode cL_act 13 = .ok (.istore 4, 2) := by decide +kernel
theorem dL_act_15 : decode cL_act 15 = .ok (.iload_n 2, 1) := by decide +kernel
theorem dL_act_16 : decode cL_act 16 = .ok (.bipush 12, 2) := by decide +kernel
theorem dL_act_18 : decode cL_act 18 = .ok (.idiv, 1) := by decide +kernel
theorem dL_act_19 : decode cL_act 19 = .ok (.iload_n 3, 1) := by decide +kernel
theorem dL_act_20 : decode cL_act 20 = .ok (.irem, 1) := by decide +kernel
theorem dL_act_21 : decode cL_act 21 = .ok (.istore 5, 2) := by decide +kernel
theorem dL_act_23 : decode cL_act 23 = .ok (.aload_n 0, 1) := by decide +kernel
theorem dL_act_24 : decode cL_act 24 = .ok (.invokevirtual 245, 3) := by decide +kernel
theorem dL_act_27 : decode cL_act 27 = .ok (.istore 6, 2) := by decide +kernel
theorem dL_act_29 : decode cL_act 29 = .ok (.iload 6, 2) := by decide +kernel
theorem dL_act_31 : decode cL_act 31 = .ok (.ifCond .ne 7, 3) := by decide +kernel
theorem dL_act_34 : decode cL_act 34 = .ok (.iconst 0, 1) := by decide +kernel
theorem dL_act_35 : decode cL_act 35 = .ok (.goto 7, 3) := by decide +kernel
theorem dL_act_38 : decode cL_act 38 = .ok (.iload_n 2, 1) := by decide +kernel
theorem dL_act_39 : decode cL_act 39 = .ok (.iload 6, 2) := by decide +kernel
theorem dL_act_41 : decode cL_act 41 = .ok (.irem, 1) := by decide +kernel
theorem dL_act_42 : decode cL_act 42 = .ok (.istore 7, 2) := by decide +kernel
theorem dL_act_44 : decode cL_act 44 = .ok (.iload_n 1, 1) := by decide +kernel
theorem dL_act_45 : decode cL_act 45 = .ok (.bipush 16, 2) := by decide +kernel
theorem dL_act_47 : decode cL_act 47 = .ok (.irem, 1) := by decide +kernel
theorem dL_act_48 : decode cL_act 48 = .ok (.tableswitch 389 0 14 #[76, 76, 120, 144, 155, 186, 197, 216, 227, 227, 238, 257, 296, 334, 353], 76) := by decide +kernel
theorem dL_act_124 : decode cL_act 124 = .ok (.aload_n 0, 1) := by decide +kernel
theorem dL_act_125 : decode cL_act 125 = .ok (.iconst 2, 1) := by decide +kernel
theorem dL_act_126 : decode cL_act 126 = .ok (.iload_n 2, 1) := by decide +kernel
theorem dL_act_127 : decode cL_act 127 = .ok (.iload_n 2, 1) := by decide +kernel
theorem dL_act_128 : decode cL_act 128 = .ok (.iconst 3, 1) := by decide +kernel
theorem dL_act_129 : decode cL_act 129 = .ok (.irem, 1) := by decide +kernel
theorem dL_act_130 : decode cL_act 130 = .ok (.ifCond .ne 9, 3) := by decide +kernel
theorem dL_act_133 : decode cL_act 133 = .ok (.sipush 1000, 3) := by decide +kernel
theorem dL_act_136 : decode cL_act 136 = .ok (.goto 5, 3) := by decide +kernel
theorem dL_act_139 : decode cL_act 139 = .ok (.bipush 60, 2) := by decide +kernel
theorem dL_act_141 : decode cL_act 141 = .ok (.irem, 1) := by decide +kernel
theorem dL_act_142 : decode cL_act 142 = .ok (.iconst 1, 1) := by decide +kernel
theorem dL_act_143 : decode cL_act 143 = .ok (.iload_n 2, 1) := by decide +kernel
theorem dL_act_144 : decode cL_act 144 = .ok (.sipush 1000, 3) := by decide +kernel
theorem dL_act_147 : decode cL_act 147 = .ok (.idiv, 1) := by decide +kernel
theorem dL_act_148 : decode cL_act 148 = .ok (.iload_n 2, 1) := by decide +kernel
theorem dL_act_149 : decode cL_act 149 = .ok (.iconst 2, 1) := by decide +kernel
theorem dL_act_150 : decode cL_act 150 = .ok (.irem, 1) := by decide +kernel
theorem dL_act_151 : decode cL_act 151 = .ok (.ifCond .ne 8, 3) := by decide +kernel
theorem dL_act_154 : decode cL_act 154 = .ok (.bipush 99, 2) := by decide +kernel
theorem dL_act_156 : decode cL_act 156 = .ok (.goto 5, 3) := by decide +kernel
theorem dL_act_159 : decode cL_act 159 = .ok (.bipush 12, 2) := by decide +kernel
theorem dL_act_161 : decode cL_act 161 = .ok (.irem, 1) := by decide +kernel
theorem dL_act_162 : decode cL_act 162 = .ok (.iadd, 1) := by decide +kernel
theorem dL_act_163 : decode cL_act 163 = .ok (.iconst 0, 1) := by decide +kernel
theorem dL_act_164 : decode cL_act 164 = .ok (.invokestatic 248, 3) := by decide +kernel
theorem dL_act_167 : decode cL_act 167 = .ok (.ireturn, 1) := by decide +kernel
theorem dL_act_168 : decode cL_act 168 = .ok (.aload_n 0, 1) := by decide +kernel
theorem dL_act_169 : decode cL_act 169 = .ok (.iconst 3, 1) := by decide +kernel
theorem dL_act_170 : decode cL_act 170 = .ok (.iload 4, 2) := by decide +kernel
theorem dL_act_172 : decode cL_act 172 = .ok (.iconst 1, 1) := by decide +kernel
theorem dL_act_173 : decode cL_act 173 = .ok (.iload_n 2, 1) := by decide +kernel
theorem dL_act_174 : decode cL_act 174 = .ok (.bipush 12, 2) := by decide +kernel
theorem dL_act_176 : decode cL_act 176 = .ok (.idiv, 1) := by decide +kernel
theorem dL_act_177 : decode cL_act 177 = .ok (.bipush 9, 2) := by decide +kernel
theorem dL_act_179 : decode cL_act 179 = .ok (.irem, 1) := by decide +kernel
theorem dL_act_180 : decode cL_act 180 = .ok (.iadd, 1) := by decide +kernel
theorem dL_act_181 : decode cL_act 181 = .ok (.iload_n 2, 1) := by decide +kernel
theorem dL_act_182 : decode cL_act 182 = .ok (.bipush 108, 2) := by decide +kernel
theorem dL_act_184 : decode cL_act 184 = .ok (.idiv, 1) := by decide +kernel
theorem dL_act_185 : decode cL_act 185 = .ok (.bipush 100, 2) := by decide +kernel
theorem dL_act_187 : decode cL_act 187 = .ok (.irem, 1) := by decide +kernel
theorem dL_act_188 : decode cL_act 188 = .ok (.invokestatic 248, 3) := by decide +kernel
theorem dL_act_191 : decode cL_act 191 = .ok (.ireturn, 1) := by decide +kernel
theorem dL_act_192 : decode cL_act 192 = .ok (.aload_n 0, 1) := by decide +kernel
theorem dL_act_193 : decode cL_act 193 = .ok (.iconst 4, 1) := by decide +kernel
theorem dL_act_194 : decode cL_act 194 = .ok (.iload 4, 2) := by decide +kernel
theorem dL_act_196 : decode cL_act 196 = .ok (.iload 5, 2) := by decide +kernel
theorem dL_act_198 : decode cL_act 198 = .ok (.iconst 0, 1) := by decide +kernel
theorem dL_act_199 : decode cL_act 199 = .ok (.invokestatic 248, 3) := by decide +kernel
theorem dL_act_202 : decode cL_act 202 = .ok (.ireturn, 1) := by decide +kernel
theorem dL_act_203 : decode cL_act 203 = .ok (.iload_n 2, 1) := by decide +kernel
theorem dL_act_204 : decode cL_act 204 = .ok (.iconst 2, 1) := by decide +kernel
theorem dL_act_205 : decode cL_act 205 = .ok (.irem, 1) := by decide +kernel
theorem dL_act_206 : decode cL_act 206 = .ok (.ifCond .ne 16, 3) := by decide +kernel
theorem dL_act_209 : decode cL_act 209 = .ok (.aload_n 0, 1) := by decide +kernel
theorem dL_act_210 : decode cL_act 210 = .ok (.iconst 5, 1) := by decide +kernel
theorem dL_act_211 : decode cL_act 211 = .ok (.iload 4, 2) := by decide +kernel
theorem dL_act_213 : decode cL_act 213 = .ok (.iload 5, 2) := by decide +kernel
theorem dL_act_215 : decode cL_act 215 = .ok (.iconst 0, 1) := by decide +kernel
theorem dL_act_216 : decode cL_act 216 = .ok (.invokestatic 248, 3) := by decide +kernel
theorem dL_act_219 : decode cL_act 219 = .ok (.goto 14, 3) := by decide +kernel
theorem dL_act_222 : decode cL_act 222 = .ok (.aload_n 0, 1) := by decide +kernel
theorem dL_act_223 : decode cL_act 223 = .ok (.bipush 6, 2) := by decide +kernel
theorem dL_act_225 : decode cL_act 225 = .ok (.iload 4, 2) := by decide +kernel
theorem dL_act_227 : decode cL_act 227 = .ok (.iload 5, 2) := by decide +kernel
theorem dL_act_229 : decode cL_act 229 = .ok (.iconst 0, 1) := by decide +kernel
theorem dL_act_230 : decode cL_act 230 = .ok (.invokestatic 248, 3) := by decide +kernel
theorem dL_act_233 : decode cL_act 233 = .ok (.ireturn, 1) := by decide +kernel
theorem dL_act_234 : decode cL_act 234 = .ok (.aload_n 0, 1) := by decide +kernel
theorem dL_act_235 : decode cL_act 235 = .ok (.bipush 7, 2) := by decide +kernel
theorem dL_act_237 : decode cL_act 237 = .ok (.iload 4, 2) := by decide +kernel
theorem dL_act_239 : decode cL_act 239 = .ok (.iconst 0, 1) := by decide +kernel
theorem dL_act_240 : decode cL_act 240 = .ok (.iconst 0, 1) := by decide +kernel
theorem dL_act_241 : decode cL_act 241 = .ok (.invokestatic 248, 3) := by decide +kernel
theorem dL_act_244 : decode cL_act 244 = .ok (.ireturn, 1) := by decide +kernel
theorem dL_act_245 : decode cL_act 245 = .ok (.aload_n 0, 1) := by decide +kernel
theorem dL_act_246 : decode cL_act 246 = .ok (.bipush 8, 2) := by decide +kernel
theorem dL_act_248 : decode cL_act 248 = .ok (.iload 4, 2) := by decide +kernel
theorem dL_act_250 : decode cL_act 250 = .ok (.iconst 1, 1) := by decide +kernel
theorem dL_act_251 : decode cL_act 251 = .ok (.iload_n 2, 1) := by decide +kernel
theorem dL_act_252 : decode cL_act 252 = .ok (.bipush 12, 2) := by decide +kernel
theorem dL_act_254 : decode cL_act 254 = .ok (.idiv, 1) := by decide +kernel
theorem dL_act_255 : decode cL_act 255 = .ok (.bipush 9, 2) := by decide +kernel
theorem dL_act_257 : decode cL_act 257 = .ok (.irem, 1) := by decide +kernel
theorem dL_act_258 : decode cL_act 258 = .ok (.iadd, 1) := by decide +kernel
theorem dL_act_259 : decode cL_act 259 = .ok (.iconst 0, 1) := by decide +kernel
theorem dL_act_260 : decode cL_act 260 = .ok (.invokestatic 248, 3) := by decide +kernel
theorem dL_act_263 : decode cL_act 263 = .ok (.ireturn, 1) := by decide +kernel
theorem dL_act_264 : decode cL_act 264 = .ok (.aload_n 0, 1) := by decide +kernel
theorem dL_act_265 : decode cL_act 265 = .ok (.bipush 9, 2) := by decide +kernel
theorem dL_act_267 : decode cL_act 267 = .ok (.iload 4, 2) := by decide +kernel
theorem dL_act_269 : decode cL_act 269 = .ok (.iconst 0, 1) := by decide +kernel
theorem dL_act_270 : decode cL_act 270 = .ok (.iconst 0, 1) := by decide +kernel
theorem dL_act_271 : decode cL_act 271 = .ok (.invokestatic 248, 3) := by decide +kernel
theorem dL_act_274 : decode cL_act 274 = .ok (.ireturn, 1) := by decide +kernel
theorem dL_act_275 : decode cL_act 275 = .ok (.aload_n 0, 1) := by decide +kernel
theorem dL_act_276 : decode cL_act 276 = .ok (.bipush 11, 2) := by decide +kernel
theorem dL_act_278 : decode cL_act 278 = .ok (.iload 4, 2) := by decide +kernel
theorem dL_act_280 : decode cL_act 280 = .ok (.iconst 0, 1) := by decide +kernel
theorem dL_act_281 : decode cL_act 281 = .ok (.iconst 0, 1) := by decide +kernel
theorem dL_act_282 : decode cL_act 282 = .ok (.invokestatic 248, 3) := by decide +kernel
theorem dL_act_285 : decode cL_act 285 = .ok (.ireturn, 1) := by decide +kernel
theorem dL_act_286 : decode cL_act 286 = .ok (.iload_n 3, 1) := by decide +kernel
theorem dL_act_287 : decode cL_act 287 = .ok (.iconst 3, 1) := by decide +kernel
theorem dL_act_288 : decode cL_act 288 = .ok (.if_icmp .ge 7, 3) := by decide +kernel
theorem dL_act_291 : decode cL_act 291 = .ok (.iconst (-1), 1) := by decide +kernel
theorem dL_act_292 : decode cL_act 292 = .ok (.goto 12, 3) := by decide +kernel
theorem dL_act_295 : decode cL_act 295 = .ok (.aload_n 0, 1) := by decide +kernel
theorem dL_act_296 : decode cL_act 296 = .ok (.bipush 10, 2) := by decide +kernel
theorem dL_act_298 : decode cL_act 298 = .ok (.iconst 0, 1) := by decide +kernel
theorem dL_act_299 : decode cL_act 299 = .ok (.iconst 0, 1) := by decide +kernel
theorem dL_act_300 : decode cL_act 300 = .ok (.iconst 0, 1) := by decide +kernel
theorem dL_act_301 : decode cL_act 301 = .ok (.invokestatic 248, 3) := by decide +kernel
theorem dL_act_304 : decode cL_act 304 = .ok (.ireturn, 1) := by decide +kernel
theorem dL_act_305 : decode cL_act 305 = .ok (.iload 6, 2) := by decide +kernel
theorem dL_act_307 : decode cL_act 307 = .ok (.ifCond .ne 7, 3) := by decide +kernel
theorem dL_act_310 : decode cL_act 310 = .ok (.iconst (-1), 1) := by decide +kernel
theorem dL_act_311 : decode cL_act 311 = .ok (.goto 32, 3) := by decide +kernel
theorem dL_act_314 : decode cL_act 314 = .ok (.iload_n 2, 1) := by decide +kernel
theorem dL_act_315 : decode cL_act 315 = .ok (.iconst 3, 1) := by decide +kernel
theorem dL_act_316 : decode cL_act 316 = .ok (.irem, 1) := by decide +kernel
theorem dL_act_317 : decode cL_act 317 = .ok (.ifCond .ne 16, 3) := by decide +kernel
theorem dL_act_320 : decode cL_act 320 = .ok (.aload_n 0, 1) := by decide +kernel
theorem dL_act_321 : decode cL_act 321 = .ok (.bipush 15, 2) := by decide +kernel
theorem dL_act_323 : decode cL_act 323 = .ok (.iload 7, 2) := by decide +kernel
theorem dL_act_325 : decode cL_act 325 = .ok (.iconst 0, 1) := by decide +kernel
theorem dL_act_326 : decode cL_act 326 = .ok (.iconst 0, 1) := by decide +kernel
theorem dL_act_327 : decode cL_act 327 = .ok (.invokestatic 248, 3) := by decide +kernel
theorem dL_act_330 : decode cL_act 330 = .ok (.goto 13, 3) := by decide +kernel
theorem dL_act_333 : decode cL_act 333 = .ok (.aload_n 0, 1) := by decide +kernel
theorem dL_act_334 : decode cL_act 334 = .ok (.bipush 14, 2) := by decide +kernel
theorem dL_act_336 : decode cL_act 336 = .ok (.iload 7, 2) := by decide +kernel
theorem dL_act_338 : decode cL_act 338 = .ok (.iconst 0, 1) := by decide +kernel
theorem dL_act_339 : decode cL_act 339 = .ok (.iconst 0, 1) := by decide +kernel
theorem dL_act_340 : decode cL_act 340 = .ok (.invokestatic 248, 3) := by decide +kernel
theorem dL_act_343 : decode cL_act 343 = .ok (.ireturn, 1) := by decide +kernel
theorem dL_act_344 : decode cL_act 344 = .ok (.iload 6, 2) := by decide +kernel
theorem dL_act_346 : decode cL_act 346 = .ok (.ifCond .ne 7, 3) := by decide +kernel
theorem dL_act_349 : decode cL_act 349 = .ok (.iconst (-1), 1) := by decide +kernel
theorem dL_act_350 : decode cL_act 350 = .ok (.goto 31, 3) := by decide +kernel
theorem dL_act_353 : decode cL_act 353 = .ok (.aload_n 0, 1) := by decide +kernel
theorem dL_act_354 : decode cL_act 354 = .ok (.bipush 13, 2) := by decide +kernel
theorem dL_act_356 : decode cL_act 356 = .ok (.iload 7, 2) := by decide +kernel
theorem dL_act_358 : decode cL_act 358 = .ok (.iconst 1, 1) := by decide +kernel
theorem dL_act_359 : decode cL_act 359 = .ok (.iload_n 2, 1) := by decide +kernel
theorem dL_act_360 : decode cL_act 360 = .ok (.iconst 4, 1) := by decide +kernel
theorem dL_act_361 : decode cL_act 361 = .ok (.idiv, 1) := by decide +kernel
theorem dL_act_362 : decode cL_act 362 = .ok (.iload_n 2, 1) := by decide +kernel
theorem dL_act_363 : decode cL_act 363 = .ok (.iconst 2, 1) := by decide +kernel
theorem dL_act_364 : decode cL_act 364 = .ok (.irem, 1) := by decide +kernel
theorem dL_act_365 : decode cL_act 365 = .ok (.ifCond .ne 8, 3) := by decide +kernel
theorem dL_act_368 : decode cL_act 368 = .ok (.bipush 99, 2) := by decide +kernel
theorem dL_act_370 : decode cL_act 370 = .ok (.goto 5, 3) := by decide +kernel
theorem dL_act_373 : decode cL_act 373 = .ok (.bipush 9, 2) := by decide +kernel
theorem dL_act_375 : decode cL_act 375 = .ok (.irem, 1) := by decide +kernel
theorem dL_act_376 : decode cL_act 376 = .ok (.iadd, 1) := by decide +kernel
theorem dL_act_377 : decode cL_act 377 = .ok (.iconst 0, 1) := by decide +kernel
theorem dL_act_378 : decode cL_act 378 = .ok (.invokestatic 248, 3) := by decide +kernel
theorem dL_act_381 : decode cL_act 381 = .ok (.ireturn, 1) := by decide +kernel
theorem dL_act_382 : decode cL_act 382 = .ok (.iload_n 3, 1) := by decide +kernel
theorem dL_act_383 : decode cL_act 383 = .ok (.iconst 3, 1) := by decide +kernel
theorem dL_act_384 : decode cL_act 384 = .ok (.if_icmp .ge 7, 3) := by decide +kernel
theorem dL_act_387 : decode cL_act 387 = .ok (.iconst (-1), 1) := by decide +kernel
theorem dL_act_388 : decode cL_act 388 = .ok (.goto 12, 3) := by decide +kernel
theorem dL_act_391 : decode cL_act 391 = .ok (.aload_n 0, 1) := by decide +kernel
theorem dL_act_392 : decode cL_act 392 = .ok (.bipush 16, 2) := by decide +kernel
theorem dL_act_394 : decode cL_act 394 = .ok (.iconst 0, 1) := by decide +kernel
theorem dL_act_395 : decode cL_act 395 = .ok (.iconst 0, 1) := by decide +kernel
theorem dL_act_396 : decode cL_act 396 = .ok (.iconst 0, 1) := by decide +kernel
theorem dL_act_397 : decode cL_act 397 = .ok (.invokestatic 248, 3) := by decide +kernel
theorem dL_act_400 : decode cL_act 400 = .ok (.ireturn, 1) := by decide +kernel
theorem dL_act_401 : decode cL_act 401 = .ok (.iload_n 2, 1) := by decide +kernel
theorem dL_act_402 : decode cL_act 402 = .ok (.iconst 2, 1) := by decide +kernel
theorem dL_act_403 : decode cL_act 403 = .ok (.irem, 1) := by decide +kernel
theorem dL_act_404 : decode cL_act 404 = .ok (.ifCond .ne 19, 3) := by decide +kernel
theorem dL_act_407 : decode cL_act 407 = .ok (.aload_n 0, 1) := by decide +kernel
theorem dL_act_408 : decode cL_act 408 = .ok (.bipush 32, 2) := by decide +kernel
theorem dL_act_410 : decode cL_act 410 = .ok (.iload_n 2, 1) := by decide +kernel
theorem dL_act_411 : decode cL_act 411 = .ok (.iconst 2, 1) := by decide +kernel
theorem dL_act_412 : decode cL_act 412 = .ok (.idiv, 1) := by decide +kernel
theorem dL_act_413 : decode cL_act 413 = .ok (.iconst 2, 1) := by decide +kernel
theorem dL_act_414 : decode cL_act 414 = .ok (.irem, 1) := by decide +kernel
theorem dL_act_415 : decode cL_act 415 = .ok (.iconst 0, 1) := by decide +kernel
theorem dL_act_416 : decode cL_act 416 = .ok (.iconst 0, 1) := by decide +kernel
theorem dL_act_417 : decode cL_act 417 = .ok (.invokestatic 248, 3) := by decide +kernel
theorem dL_act_420 : decode cL_act 420 = .ok (.goto 16, 3) := by decide +kernel
theorem dL_act_423 : decode cL_act 423 = .ok (.aload_n 0, 1) := by decide +kernel
theorem dL_act_424 : decode cL_act 424 = .ok (.bipush 33, 2) := by decide +kernel
theorem dL_act_426 : decode cL_act 426 = .ok (.iload_n 2, 1) := by decide +kernel
theorem dL_act_427 : decode cL_act 427 = .ok (.iconst 2, 1) := by decide +kernel
theorem dL_act_428 : decode cL_act 428 = .ok (.idiv, 1) := by decide +kernel
theorem dL_act_429 : decode cL_act 429 = .ok (.iconst 2, 1) := by decide +kernel
theorem dL_act_430 : decode cL_act 430 = .ok (.irem, 1) := by decide +kernel
theorem dL_act_431 : decode cL_act 431 = .ok (.iconst 0, 1) := by decide +kernel
theorem dL_act_432 : decode cL_act 432 = .ok (.iconst 0, 1) := by decide +kernel
theorem dL_act_433 : decode cL_act 433 = .ok (.invokestatic 248, 3) := by decide +kernel
theorem dL_act_436 : decode cL_act 436 = .ok (.ireturn, 1) := by decide +kernel
theorem dL_act_437 : decode cL_act 437 = .ok (.iload 6, 2) := by decide +kernel
theorem dL_act_439 : decode cL_act 439 = .ok (.ifCond .ne 7, 3) := by decide +kernel
theorem dL_act_442 : decode cL_act 442 = .ok (.iconst (-1), 1) := by decide +kernel
theorem dL_act_443 : decode cL_act 443 = .ok (.goto 13, 3) := by decide +kernel
theorem dL_act_446 : decode cL_act 446 = .ok (.aload_n 0, 1) := by decide +kernel
theorem dL_act_447 : decode cL_act 447 = .ok (.bipush 12, 2) := by decide +kernel
theorem dL_act_449 : decode cL_act 449 = .ok (.iload 7, 2) := by decide +kernel
theorem dL_act_451 : decode cL_act 451 = .ok (.iconst 0, 1) := by decide +kernel
theorem dL_act_452 : decode cL_act 452 = .ok (.iconst 0, 1) := by decide +kernel
theorem dL_act_453 : decode cL_act 453 = .ok (.invokestatic 248, 3) := by decide +kernel
theorem dL_act_456 : decode cL_act 456 = .ok (.ireturn, 1) := by decide +kernel
theorem dL_alike_0 : decode cL_alike 0 = .ok (.aload_n 0, 1) := by decide +kernel
theorem dL_alike_1 : decode cL_alike 1 = .ok (.iload_n 2, 1) := by decide +kernel
theorem dL_alike_2 : decode cL_alike 2 = .ok (.i2l, 1) := by decide +kernel
theorem dL_alike_3 : decode cL_alike 3 = .ok (.iconst 1, 1) := by decide +kernel
theorem dL_alike_4 : decode cL_alike 4 = .ok (.iload_n 2, 1) := by decide +kernel
theorem dL_alike_5 : decode cL_alike 5 = .ok (.bipush 30, 2) := by decide +kernel
theorem dL_alike_7 : decode cL_alike 7 = .ok (.irem, 1) := by decide +kernel
theorem dL_alike_8 : decode cL_alike 8 = .ok (.iadd, 1) := by decide +kernel
theorem dL_alike_9 : decode cL_alike 9 = .ok (.invokestatic 256, 3) := by decide +kernel
theorem dL_alike_12 : decode cL_alike 12 = .ok (.aload_n 1, 1) := by decide +kernel
theorem dL_alike_13 : decode cL_alike 13 = .ok (.iload_n 2, 1) := by decide +kernel
theorem dL_alike_14 : decode cL_alike 14 = .ok (.i2l, 1) := by decide +kernel
theorem dL_alike_15 : decode cL_alike 15 = .ok (.iconst 1, 1) := by decide +kernel
theorem dL_alike_16 : decode cL_alike 16 = .ok (.iload_n 2, 1) := by decide +kernel
theorem dL_alike_17 : decode cL_alike 17 = .ok (.bipush 30, 2) := by decide +kernel
theorem dL_alike_19 : decode cL_alike 19 = .ok (.irem, 1) := by decide +kernel
theorem dL_alike_20 : decode cL_alike 20 = .ok (.iadd, 1) := by decide +kernel
theorem dL_alike_21 : decode cL_alike 21 = .ok (.invokestatic 256, 3) := by decide +kernel
theorem dL_alike_24 : decode cL_alike 24 = .ok (.if_icmp .ne 62, 3) := by decide +kernel
theorem dL_alike_27 : decode cL_alike 27 = .ok (.aload_n 0, 1) := by decide +kernel
theorem dL_alike_28 : decode cL_alike 28 = .ok (.invokevirtual 242, 3) := by decide +kernel
theorem dL_alike_31 : decode cL_alike 31 = .ok (.aload_n 1, 1) := by decide +kernel
theorem dL_alike_32 : decode cL_alike 32 = .ok (.invokevirtual 242, 3) := by decide +kernel
theorem dL_alike_35 : decode cL_alike 35 = .ok (.if_icmp .ne 51, 3) := by decide +kernel
theorem dL_alike_38 : decode cL_alike 38 = .ok (.aload_n 0, 1) := by decide +kernel
theorem dL_alike_39 : decode cL_alike 39 = .ok (.invokevirtual 245, 3) := by decide +kernel
theorem dL_alike_42 : decode cL_alike 42 = .ok (.aload_n 1, 1) := by decide +kernel
theorem dL_alike_43 : decode cL_alike 43 = .ok (.invokevirtual 245, 3) := by decide +kernel
theorem dL_alike_46 : decode cL_alike 46 = .ok (.if_icmp .ne 40, 3) := by decide +kernel
theorem dL_alike_49 : decode cL_alike 49 = .ok (.aload_n 0, 1) := by decide +kernel
theorem dL_alike_50 : decode cL_alike 50 = .ok (.invokevirtual 269, 3) := by decide +kernel
theorem dL_alike_53 : decode cL_alike 53 = .ok (.aload_n 1, 1) := by decide +kernel
theorem dL_alike_54 : decode cL_alike 54 = .ok (.invokevirtual 269, 3) := by decide +kernel
theorem dL_alike_57 : decode cL_alike 57 = .ok (.if_icmp .ne 29, 3) := by decide +kernel
theorem dL_alike_60 : decode cL_alike 60 = .ok (.aload_n 0, 1) := by decide +kernel
theorem dL_alike_61 : decode cL_alike 61 = .ok (.invokevirtual 263, 3) := by decide +kernel
theorem dL_alike_64 : decode cL_alike 64 = .ok (.aload_n 1, 1) := by decide +kernel
theorem dL_alike_65 : decode cL_alike 65 = .ok (.invokevirtual 263, 3) := by decide +kernel
theorem dL_alike_68 : decode cL_alike 68 = .ok (.if_icmp .ne 18, 3) := by decide +kernel
theorem dL_alike_71 : decode cL_alike 71 = .ok (.aload_n 0, 1) := by decide +kernel
theorem dL_alike_72 : decode cL_alike 72 = .ok (.invokevirtual 260, 3) := by decide +kernel
theorem dL_alike_75 : decode cL_alike 75 = .ok (.aload_n 1, 1) := by decide +kernel
theorem dL_alike_76 : decode cL_alike 76 = .ok (.invokevirtual 260, 3) := by decide +kernel
theorem dL_alike_79 : decode cL_alike 79 = .ok (.if_icmp .ne 7, 3) := by decide +kernel
theorem dL_alike_82 : decode cL_alike 82 = .ok (.iconst 1, 1) := by decide +kernel
theorem dL_alike_83 : decode cL_alike 83 = .ok (.goto 4, 3) := by decide +kernel
theorem dL_alike_86 : decode cL_alike 86 = .ok (.iconst 0, 1) := by decide +kernel
theorem dL_alike_87 : decode cL_alike 87 = .ok (.istore 4, 2) := by decide +kernel
theorem dL_alike_89 : decode cL_alike 89 = .ok (.iconst 0, 1) := by decide +kernel
theorem dL_alike_90 : decode cL_alike 90 = .ok (.istore 5, 2) := by decide +kernel
theorem dL_alike_92 : decode cL_alike 92 = .ok (.iload 5, 2) := by decide +kernel
theorem dL_alike_94 : decode cL_alike 94 = .ok (.bipush 12, 2) := by decide +kernel
theorem dL_alike_96 : decode cL_alike 96 = .ok (.if_icmp .ge 209, 3) := by decide +kernel
theorem dL_alike_99 : decode cL_alike 99 = .ok (.iload 4, 2) := by decide +kernel
theorem dL_alike_101 : decode cL_alike 101 = .ok (.ifCond .eq 204, 3) := by decide +kernel
theorem dL_alike_104 : decode cL_alike 104 = .ok (.aload_n 0, 1) := by decide +kernel
theorem dL_alike_105 : decode cL_alike 105 = .ok (.bipush 20, 2) := by decide +kernel
theorem dL_alike_107 : decode cL_alike 107 = .ok (.iload 5, 2) := by decide +kernel
theorem dL_alike_109 : decode cL_alike 109 = .ok (.iload_n 2, 1) := by decide +kernel
theorem dL_alike_110 : decode cL_alike 110 = .ok (.sipush 1000, 3) := by decide +kernel
theorem dL_alike_113 : decode cL_alike 113 = .ok (.irem, 1) := by decide +kernel
theorem dL_alike_114 : decode cL_alike 114 = .ok (.iconst 0, 1) := by decide +kernel
theorem dL_alike_115 : decode cL_alike 115 = .ok (.invokestatic 248, 3) := by decide +kernel
theorem dL_alike_118 : decode cL_alike 118 = .ok (.aload_n 1, 1) := by decide +kernel
theorem dL_alike_119 : decode cL_alike 119 = .ok (.bipush 20, 2) := by decide +kernel
theorem dL_alike_121 : decode cL_alike 121 = .ok (.iload 5, 2) := by decide +kernel
theorem dL_alike_123 : decode cL_alike 123 = .ok (.iload_n 2, 1) := by decide +kernel
theorem dL_alike_124 : decode cL_alike 124 = .ok (.sipush 1000, 3) := by decide +kernel
theorem dL_alike_127 : decode cL_alike 127 = .ok (.irem, 1) := by decide +kernel
theorem dL_alike_128 : decode cL_alike 128 = .ok (.iconst 0, 1) := by decide +kernel
theorem dL_alike_129 : decode cL_alike 129 = .ok (.invokestatic 248, 3) := by decide +kernel
theorem dL_alike_132 : decode cL_alike 132 = .ok (.if_icmp .ne 164, 3) := by decide +kernel
theorem dL_alike_135 : decode cL_alike 135 = .ok (.iload_n 3, 1) := by decide +kernel
theorem dL_alike_136 : decode cL_alike 136 = .ok (.ifCond .ne 12, 3) := by decide +kernel
theorem dL_alike_139 : decode cL_alike 139 = .ok (.iload 5, 2) := by decide +kernel
theorem dL_alike_141 : decode cL_alike 141 = .ok (.iload_n 2, 1) := by decide +kernel
theorem dL_alike_142 : decode cL_alike 142 = .ok (.bipush 12, 2) := by decide +kernel
theorem dL_alike_144 : decode cL_alike 144 = .ok (.irem, 1) := by decide +kernel
theorem dL_alike_145 : decode cL_alike 145 = .ok (.if_icmp .ne 49, 3) := by decide +kernel
theorem dL_alike_148 : decode cL_alike 148 = .ok (.aload_n 0, 1) := by decide +kernel
theorem dL_alike_149 : decode cL_alike 149 = .ok (.bipush 21, 2) := by decide +kernel
theorem dL_alike_151 : decode cL_alike 151 = .ok (.iload 5, 2) := by decide +kernel
theorem dL_alike_153 : decode cL_alike 153 = .ok (.iconst 0, 1) := by decide +kernel
theorem dL_alike_154 : decode cL_alike 154 = .ok (.iconst 0, 1) := by decide +kernel
theorem dL_alike_155 : decode cL_alike 155 = .ok (.invokestatic 248, 3) := by decide +kernel
theorem dL_alike_158 : decode cL_alike 158 = .ok (.aload_n 1, 1) := by decide +kernel
theorem dL_alike_159 : decode cL_alike 159 = .ok (.bipush 21, 2) := by decide +kernel
theorem dL_alike_161 : decode cL_alike 161 = .ok (.iload 5, 2) := by decide +kernel
theorem dL_alike_163 : decode cL_alike 163 = .ok (.iconst 0, 1) := by decide +kernel
theorem dL_alike_164 : decode cL_alike 164 = .ok (.iconst 0, 1) := by decide +kernel
theorem dL_alike_165 : decode cL_alike 165 = .ok (.invokestatic 248, 3) := by decide +kernel
theorem dL_alike_168 : decode cL_alike 168 = .ok (.if_icmp .ne 128, 3) := by decide +kernel
theorem dL_alike_171 : decode cL_alike 171 = .ok (.aload_n 0, 1) := by decide +kernel
theorem dL_alike_172 : decode cL_alike 172 = .ok (.bipush 23, 2) := by decide +kernel
theorem dL_alike_174 : decode cL_alike 174 = .ok (.iload 5, 2) := by decide +kernel
theorem dL_alike_176 : decode cL_alike 176 = .ok (.iconst 0, 1) := by decide +kernel
theorem dL_alike_177 : decode cL_alike 177 = .ok (.iconst 0, 1) := by decide +kernel
theorem dL_alike_178 : decode cL_alike 178 = .ok (.invokestatic 248, 3) := by decide +kernel
theorem dL_alike_181 : decode cL_alike 181 = .ok (.aload_n 1, 1) := by decide +kernel
theorem dL_alike_182 : decode cL_alike 182 = .ok (.bipush 23, 2) := by decide +kernel
theorem dL_alike_184 : decode cL_alike 184 = .ok (.iload 5, 2) := by decide +kernel
theorem dL_alike_186 : decode cL_alike 186 = .ok (.iconst 0, 1) := by decide +kernel
theorem dL_alike_187 : decode cL_alike 187 = .ok (.iconst 0, 1) := by decide +kernel
theorem dL_alike_188 : decode cL_alike 188 = .ok (.invokestatic 248, 3) := by decide +kernel
theorem dL_alike_191 : decode cL_alike 191 = .ok (.if_icmp .ne 105, 3) := by decide +kernel
theorem dL_alike_194 : decode cL_alike 194 = .ok (.aload_n 0, 1) := by decide +kernel
theorem dL_alike_195 : decode cL_alike 195 = .ok (.bipush 17, 2) := by decide +kernel
theorem dL_alike_197 : decode cL_alike 197 = .ok (.iload 5, 2) := by decide +kernel
theorem dL_alike_199 : decode cL_alike 199 = .ok (.iload_n 2, 1) := by decide +kernel
theorem dL_alike_200 : decode cL_alike 200 = .ok (.bipush 40, 2) := by decide +kernel
theorem dL_alike_202 : decode cL_alike 202 = .ok (.irem, 1) := by decide +kernel
theorem dL_alike_203 : decode cL_alike 203 = .ok (.iconst 0, 1) := by decide +kernel
theorem dL_alike_204 : decode cL_alike 204 = .ok (.invokestatic 248, 3) := by decide +kernel
theorem dL_alike_207 : decode cL_alike 207 = .ok (.aload_n 1, 1) := by decide +kernel
theorem dL_alike_208 : decode cL_alike 208 = .ok (.bipush 17, 2) := by decide +kernel
theorem dL_alike_210 : decode cL_alike 210 = .ok (.iload 5, 2) := by decide +kernel
theorem dL_alike_212 : decode cL_alike 212 = .ok (.iload_n 2, 1) := by decide +kernel
theorem dL_alike_213 : decode cL_alike 213 = .ok (.bipush 40, 2) := by decide +kernel
theorem dL_alike_215 : decode cL_alike 215 = .ok (.irem, 1) := by decide +kernel
theorem dL_alike_216 : decode cL_alike 216 = .ok (.iconst 0, 1) := by decide +kernel
theorem dL_alike_217 : decode cL_alike 217 = .ok (.invokestatic 248, 3) := by decide +kernel
theorem dL_alike_220 : decode cL_alike 220 = .ok (.if_icmp .ne 76, 3) := by decide +kernel
theorem dL_alike_223 : decode cL_alike 223 = .ok (.aload_n 0, 1) := by decide +kernel
theorem dL_alike_224 : decode cL_alike 224 = .ok (.bipush 24, 2) := by decide +kernel
theorem dL_alike_226 : decode cL_alike 226 = .ok (.iload 5, 2) := by decide +kernel
theorem dL_alike_228 : decode cL_alike 228 = .ok (.iconst 0, 1) := by decide +kernel
theorem dL_alike_229 : decode cL_alike 229 = .ok (.iconst 0, 1) := by decide +kernel
theorem dL_alike_230 : decode cL_alike 230 = .ok (.invokestatic 248, 3) := by decide +kernel
theorem dL_alike_233 : decode cL_alike 233 = .ok (.aload_n 1, 1) := by decide +kernel
theorem dL_alike_234 : decode cL_alike 234 = .ok (.bipush 24, 2) := by decide +kernel
theorem dL_alike_236 : decode cL_alike 236 = .ok (.iload 5, 2) := by decide +kernel
theorem dL_alike_238 : decode cL_alike 238 = .ok (.iconst 0, 1) := by decide +kernel
theorem dL_alike_239 : decode cL_alike 239 = .ok (.iconst 0, 1) := by decide +kernel
theorem dL_alike_240 : decode cL_alike 240 = .ok (.invokestatic 248, 3) := by decide +kernel
theorem dL_alike_243 : decode cL_alike 243 = .ok (.if_icmp .ne 53, 3) := by decide +kernel
theorem dL_alike_246 : decode cL_alike 246 = .ok (.aload_n 0, 1) := by decide +kernel
theorem dL_alike_247 : decode cL_alike 247 = .ok (.bipush 25, 2) := by decide +kernel
theorem dL_alike_249 : decode cL_alike 249 = .ok (.iload 5, 2) := by decide +kernel
theorem dL_alike_251 : decode cL_alike 251 = .ok (.iconst 0, 1) := by decide +kernel
theorem dL_alike_252 : decode cL_alike 252 = .ok (.iconst 0, 1) := by decide +kernel
theorem dL_alike_253 : decode cL_alike 253 = .ok (.invokestatic 248, 3) := by decide +kernel
theorem dL_alike_256 : decode cL_alike 256 = .ok (.aload_n 1, 1) := by decide +kernel
theorem dL_alike_257 : decode cL_alike 257 = .ok (.bipush 25, 2) := by decide +kernel
theorem dL_alike_259 : decode cL_alike 259 = .ok (.iload 5, 2) := by decide +kernel
theorem dL_alike_261 : decode cL_alike 261 = .ok (.iconst 0, 1) := by decide +kernel
theorem dL_alike_262 : decode cL_alike 262 = .ok (.iconst 0, 1) := by decide +kernel
theorem dL_alike_263 : decode cL_alike 263 = .ok (.invokestatic 248, 3) := by decide +kernel
theorem dL_alike_266 : decode cL_alike 266 = .ok (.if_icmp .ne 30, 3) := by decide +kernel
theorem dL_alike_269 : decode cL_alike 269 = .ok (.aload_n 0, 1) := by decide +kernel
theorem dL_alike_270 : decode cL_alike 270 = .ok (.bipush 26, 2) := by decide +kernel
theorem dL_alike_272 : decode cL_alike 272 = .ok (.iload 5, 2) := by decide +kernel
theorem dL_alike_274 : decode cL_alike 274 = .ok (.iconst 0, 1) := by decide +kernel
theorem dL_alike_275 : decode cL_alike 275 = .ok (.iconst 0, 1) := by decide +kernel
theorem dL_alike_276 : decode cL_alike 276 = .ok (.invokestatic 248, 3) := by decide +kernel
theorem dL_alike_279 : decode cL_alike 279 = .ok (.aload_n 1, 1) := by decide +kernel
theorem dL_alike_280 : decode cL_alike 280 = .ok (.bipush 26, 2) := by decide +kernel
theorem dL_alike_282 : decode cL_alike 282 = .ok (.iload 5, 2) := by decide +kernel
theorem dL_alike_284 : decode cL_alike 284 = .ok (.iconst 0, 1) := by decide +kernel
theorem dL_alike_285 : decode cL_alike 285 = .ok (.iconst 0, 1) := by decide +kernel
theorem dL_alike_286 : decode cL_alike 286 = .ok (.invokestatic 248, 3) := by decide +kernel
theorem dL_alike_289 : decode cL_alike 289 = .ok (.if_icmp .ne 7, 3) := by decide +kernel
theorem dL_alike_292 : decode cL_alike 292 = .ok (.iconst 1, 1) := by decide +kernel
theorem dL_alike_293 : decode cL_alike 293 = .ok (.goto 4, 3) := by decide +kernel
theorem dL_alike_296 : decode cL_alike 296 = .ok (.iconst 0, 1) := by decide +kernel
theorem dL_alike_297 : decode cL_alike 297 = .ok (.istore 4, 2) := by decide +kernel
theorem dL_alike_299 : decode cL_alike 299 = .ok (.iinc 5 1, 3) := by decide +kernel
theorem dL_alike_302 : decode cL_alike 302 = .ok (.goto (-210), 3) := by decide +kernel
theorem dL_alike_305 : decode cL_alike 305 = .ok (.iload 4, 2) := by decide +kernel
theorem dL_alike_307 : decode cL_alike 307 = .ok (.ireturn, 1) := by decide +kernel
theorem dL_law_0 : decode cL_law 0 = .ok (.new 8, 3) := by decide +kernel
theorem dL_law_3 : decode cL_law 3 = .ok (.dup, 1) := by decide +kernel
theorem dL_law_4 : decode cL_law 4 = .ok (.invokespecial 272, 3) := by decide +kernel
theorem dL_law_7 : decode cL_law 7 = .ok (.astore_n 1, 1) := by decide +kernel
theorem dL_law_8 : decode cL_law 8 = .ok (.new 8, 3) := by decide +kernel
theorem dL_law_11 : decode cL_law 11 = .ok (.dup, 1) := by decide +kernel
theorem dL_law_12 : decode cL_law 12 = .ok (.invokespecial 272, 3) := by decide +kernel
theorem dL_law_15 : decode cL_law 15 = .ok (.astore_n 2, 1) := by decide +kernel
theorem dL_law_16 : decode cL_law 16 = .ok (.bipush 12, 2) := by decide +kernel
theorem dL_law_18 : decode cL_law 18 = .ok (.aload_n 0, 1) := by decide +kernel
theorem dL_law_19 : decode cL_law 19 = .ok (.iconst 0, 1) := by decide +kernel
theorem dL_law_20 : decode cL_law 20 = .ok (.invokestatic 273, 3) := by decide +kernel
theorem dL_law_23 : decode cL_law 23 = .ok (.bipush 19, 2) := by decide +kernel
theorem dL_law_25 : decode cL_law 25 = .ok (.irem, 1) := by decide +kernel
theorem dL_law_26 : decode cL_law 26 = .ok (.iadd, 1) := by decide +kernel
theorem dL_law_27 : decode cL_law 27 = .ok (.istore_n 3, 1) := by decide +kernel
theorem dL_law_28 : decode cL_law 28 = .ok (.aload_n 0, 1) := by decide +kernel
theorem dL_law_29 : decode cL_law 29 = .ok (.iconst 1, 1) := by decide +kernel
theorem dL_law_30 : decode cL_law 30 = .ok (.invokestatic 273, 3) := by decide +kernel
theorem dL_law_33 : decode cL_law 33 = .ok (.istore 4, 2) := by decide +kernel
theorem dL_law_35 : decode cL_law 35 = .ok (.iconst 1, 1) := by decide +kernel
theorem dL_law_36 : decode cL_law 36 = .ok (.istore 5, 2) := by decide +kernel
theorem dL_law_38 : decode cL_law 38 = .ok (.iconst 0, 1) := by decide +kernel
theorem dL_law_39 : decode cL_law 39 = .ok (.istore 6, 2) := by decide +kernel
theorem dL_law_41 : decode cL_law 41 = .ok (.iload 6, 2) := by decide +kernel
theorem dL_law_43 : decode cL_law 43 = .ok (.iconst 2, 1) := by decide +kernel
theorem dL_law_44 : decode cL_law 44 = .ok (.if_icmp .ge 80, 3) := by decide +kernel
theorem dL_law_47 : decode cL_law 47 = .ok (.iload 5, 2) := by decide +kernel
theorem dL_law_49 : decode cL_law 49 = .ok (.ifCond .eq 75, 3) := by decide +kernel
theorem dL_law_52 : decode cL_law 52 = .ok (.iload 4, 2) := by decide +kernel
theorem dL_law_54 : decode cL_law 54 = .ok (.iload 6, 2) := by decide +kernel
theorem dL_law_56 : decode cL_law 56 = .ok (.iconst 1, 1) := by decide +kernel
theorem dL_law_57 : decode cL_law 57 = .ok (.iadd, 1) := by decide +kernel
theorem dL_law_58 : decode cL_law 58 = .ok (.idiv, 1) := by decide +kernel
theorem dL_law_59 : decode cL_law 59 = .ok (.bipush 40, 2) := by decide +kernel
theorem dL_law_61 : decode cL_law 61 = .ok (.irem, 1) := by decide +kernel
theorem dL_law_62 : decode cL_law 62 = .ok (.istore 7, 2) := by decide +kernel
theorem dL_law_64 : decode cL_law 64 = .ok (.iconst 1, 1) := by decide +kernel
theorem dL_law_65 : decode cL_law 65 = .ok (.iload 4, 2) := by decide +kernel
theorem dL_law_67 : decode cL_law 67 = .ok (.bipush 40, 2) := by decide +kernel
theorem dL_law_69 : decode cL_law 69 = .ok (.idiv, 1) := by decide +kernel
theorem dL_law_70 : decode cL_law 70 = .ok (.iload 6, 2) := by decide +kernel
theorem dL_law_72 : decode cL_law 72 = .ok (.iconst 1, 1) := by decide +kernel
theorem dL_law_73 : decode cL_law 73 = .ok (.iadd, 1) := by decide +kernel
theorem dL_law_74 : decode cL_law 74 = .ok (.idiv, 1) := by decide +kernel
theorem dL_law_75 : decode cL_law 75 = .ok (.bipush 9, 2) := by decide +kernel
theorem dL_law_77 : decode cL_law 77 = .ok (.irem, 1) := by decide +kernel
theorem dL_law_78 : decode cL_law 78 = .ok (.iadd, 1) := by decide +kernel
theorem dL_law_79 : decode cL_law 79 = .ok (.istore 8, 2) := by decide +kernel
theorem dL_law_81 : decode cL_law 81 = .ok (.aload_n 1, 1) := by decide +kernel
theorem dL_law_82 : decode cL_law 82 = .ok (.iconst 2, 1) := by decide +kernel
theorem dL_law_83 : decode cL_law 83 = .ok (.iload 7, 2) := by decide +kernel
theorem dL_law_85 : decode cL_law 85 = .ok (.iload 8, 2) := by decide +kernel
theorem dL_law_87 : decode cL_law 87 = .ok (.iconst 0, 1) := by decide +kernel
theorem dL_law_88 : decode cL_law 88 = .ok (.invokestatic 248, 3) := by decide +kernel
theorem dL_law_91 : decode cL_law 91 = .ok (.iload 6, 2) := by decide +kernel
