theorem d_L_law_467 : decode code 467 = .ok (.istore 6, 2) := by decide +kernel
theorem d_L_law_469 : decode code 469 = .ok (.aload_n 2, 1) := by decide +kernel
theorem d_L_law_470 : decode code 470 = .ok (.invokevirtual 89, 3) := by decide +kernel
theorem d_L_law_473 : decode code 473 = .ok (.iload 5, 2) := by decide +kernel
theorem d_L_law_475 : decode code 475 = .ok (.if_icmp .eq 5, 3) := by decide +kernel
theorem d_L_law_478 : decode code 478 = .ok (.iconst 0, 1) := by decide +kernel
theorem d_L_law_479 : decode code 479 = .ok (.ireturn, 1) := by decide +kernel
theorem d_L_law_480 : decode code 480 = .ok (.iload 5, 2) := by decide +kernel
theorem d_L_law_482 : decode code 482 = .ok (.ifCond .ne 15, 3) := by decide +kernel
theorem d_L_law_485 : decode code 485 = .ok (.aload_n 3, 1) := by decide +kernel
theorem d_L_law_486 : decode code 486 = .ok (.iconst 0, 1) := by decide +kernel
theorem d_L_law_487 : decode code 487 = .ok (.laload, 1) := by decide +kernel
theorem d_L_law_488 : decode code 488 = .ok (.iload 6, 2) := by decide +kernel
theorem d_L_law_490 : decode code 490 = .ok (.i2l, 1) := by decide +kernel
theorem d_L_law_491 : decode code 491 = .ok (.lcmp, 1) := by decide +kernel
theorem d_L_law_492 : decode code 492 = .ok (.ifCond .eq 5, 3) := by decide +kernel
theorem d_L_law_495 : decode code 495 = .ok (.iconst 0, 1) := by decide +kernel
theorem d_L_law_496 : decode code 496 = .ok (.ireturn, 1) := by decide +kernel
theorem d_L_law_497 : decode code 497 = .ok (.goto 811, 3) := by decide +kernel
theorem d_L_law_500 : decode code 500 = .ok (.aload_n 1, 1) := by decide +kernel
theorem d_L_law_501 : decode code 501 = .ok (.aload_n 0, 1) := by decide +kernel
theorem d_L_law_502 : decode code 502 = .ok (.iload 4, 2) := by decide +kernel
theorem d_L_law_504 : decode code 504 = .ok (.iconst 1, 1) := by decide +kernel
theorem d_L_law_505 : decode code 505 = .ok (.iadd, 1) := by decide +kernel
theorem d_L_law_506 : decode code 506 = .ok (.iaload, 1) := by decide +kernel
theorem d_L_law_507 : decode code 507 = .ok (.aload_n 0, 1) := by decide +kernel
theorem d_L_law_508 : decode code 508 = .ok (.iload 4, 2) := by decide +kernel
theorem d_L_law_510 : decode code 510 = .ok (.iconst 2, 1) := by decide +kernel
theorem d_L_law_511 : decode code 511 = .ok (.iadd, 1) := by decide +kernel
theorem d_L_law_512 : decode code 512 = .ok (.iaload, 1) := by decide +kernel
theorem d_L_law_513 : decode code 513 = .ok (.aload_n 0, 1) := by decide +kernel
theorem d_L_law_514 : decode code 514 = .ok (.iload 4, 2) := by decide +kernel
theorem d_L_law_516 : decode code 516 = .ok (.iconst 3, 1) := by decide +kernel
theorem d_L_law_517 : decode code 517 = .ok (.iadd, 1) := by decide +kernel
theorem d_L_law_518 : decode code 518 = .ok (.iaload, 1) := by decide +kernel
theorem d_L_law_519 : decode code 519 = .ok (.ifCond .eq 7, 3) := by decide +kernel
theorem d_L_law_522 : decode code 522 = .ok (.iconst 1, 1) := by decide +kernel
theorem d_L_law_523 : decode code 523 = .ok (.goto 4, 3) := by decide +kernel
theorem d_L_law_526 : decode code 526 = .ok (.iconst 0, 1) := by decide +kernel
theorem d_L_law_527 : decode code 527 = .ok (.aload_n 3, 1) := by decide +kernel
theorem d_L_law_528 : decode code 528 = .ok (.invokestatic 112, 3) := by decide +kernel
theorem d_L_law_531 : decode code 531 = .ok (.istore 5, 2) := by decide +kernel
theorem d_L_law_533 : decode code 533 = .ok (.aload_n 2, 1) := by decide +kernel
theorem d_L_law_534 : decode code 534 = .ok (.aload_n 0, 1) := by decide +kernel
theorem d_L_law_535 : decode code 535 = .ok (.iload 4, 2) := by decide +kernel
theorem d_L_law_537 : decode code 537 = .ok (.iconst 1, 1) := by decide +kernel
theorem d_L_law_538 : decode code 538 = .ok (.iadd, 1) := by decide +kernel
theorem d_L_law_539 : decode code 539 = .ok (.iaload, 1) := by decide +kernel
theorem d_L_law_540 : decode code 540 = .ok (.aload_n 0, 1) := by decide +kernel
theorem d_L_law_541 : decode code 541 = .ok (.iload 4, 2) := by decide +kernel
theorem d_L_law_543 : decode code 543 = .ok (.iconst 2, 1) := by decide +kernel
theorem d_L_law_544 : decode code 544 = .ok (.iadd, 1) := by decide +kernel
theorem d_L_law_545 : decode code 545 = .ok (.iaload, 1) := by decide +kernel
theorem d_L_law_546 : decode code 546 = .ok (.aload_n 0, 1) := by decide +kernel
theorem d_L_law_547 : decode code 547 = .ok (.iload 4, 2) := by decide +kernel
theorem d_L_law_549 : decode code 549 = .ok (.iconst 3, 1) := by decide +kernel
theorem d_L_law_550 : decode code 550 = .ok (.iadd, 1) := by decide +kernel
theorem d_L_law_551 : decode code 551 = .ok (.iaload, 1) := by decide +kernel
theorem d_L_law_552 : decode code 552 = .ok (.ifCond .eq 7, 3) := by decide +kernel
theorem d_L_law_555 : decode code 555 = .ok (.iconst 1, 1) := by decide +kernel
theorem d_L_law_556 : decode code 556 = .ok (.goto 4, 3) := by decide +kernel
theorem d_L_law_559 : decode code 559 = .ok (.iconst 0, 1) := by decide +kernel
theorem d_L_law_560 : decode code 560 = .ok (.invokevirtual 114, 3) := by decide +kernel
theorem d_L_law_563 : decode code 563 = .ok (.istore 6, 2) := by decide +kernel
theorem d_L_law_565 : decode code 565 = .ok (.aload_n 2, 1) := by decide +kernel
theorem d_L_law_566 : decode code 566 = .ok (.invokevirtual 89, 3) := by decide +kernel
theorem d_L_law_569 : decode code 569 = .ok (.iload 5, 2) := by decide +kernel
theorem d_L_law_571 : decode code 571 = .ok (.if_icmp .eq 5, 3) := by decide +kernel
theorem d_L_law_574 : decode code 574 = .ok (.iconst 0, 1) := by decide +kernel
theorem d_L_law_575 : decode code 575 = .ok (.ireturn, 1) := by decide +kernel
theorem d_L_law_576 : decode code 576 = .ok (.iload 5, 2) := by decide +kernel
theorem d_L_law_578 : decode code 578 = .ok (.ifCond .ne 15, 3) := by decide +kernel
theorem d_L_law_581 : decode code 581 = .ok (.aload_n 3, 1) := by decide +kernel
theorem d_L_law_582 : decode code 582 = .ok (.iconst 0, 1) := by decide +kernel
theorem d_L_law_583 : decode code 583 = .ok (.laload, 1) := by decide +kernel
theorem d_L_law_584 : decode code 584 = .ok (.iload 6, 2) := by decide +kernel
theorem d_L_law_586 : decode code 586 = .ok (.i2l, 1) := by decide +kernel
theorem d_L_law_587 : decode code 587 = .ok (.lcmp, 1) := by decide +kernel
theorem d_L_law_588 : decode code 588 = .ok (.ifCond .eq 5, 3) := by decide +kernel
theorem d_L_law_591 : decode code 591 = .ok (.iconst 0, 1) := by decide +kernel
theorem d_L_law_592 : decode code 592 = .ok (.ireturn, 1) := by decide +kernel
theorem d_L_law_593 : decode code 593 = .ok (.goto 715, 3) := by decide +kernel
theorem d_L_law_596 : decode code 596 = .ok (.aload_n 1, 1) := by decide +kernel
theorem d_L_law_597 : decode code 597 = .ok (.aload_n 0, 1) := by decide +kernel
theorem d_L_law_598 : decode code 598 = .ok (.iload 4, 2) := by decide +kernel
theorem d_L_law_600 : decode code 600 = .ok (.iconst 1, 1) := by decide +kernel
theorem d_L_law_601 : decode code 601 = .ok (.iadd, 1) := by decide +kernel
theorem d_L_law_602 : decode code 602 = .ok (.iaload, 1) := by decide +kernel
theorem d_L_law_603 : decode code 603 = .ok (.aload_n 0, 1) := by decide +kernel
theorem d_L_law_604 : decode code 604 = .ok (.iload 4, 2) := by decide +kernel
theorem d_L_law_606 : decode code 606 = .ok (.iconst 2, 1) := by decide +kernel
theorem d_L_law_607 : decode code 607 = .ok (.iadd, 1) := by decide +kernel
theorem d_L_law_608 : decode code 608 = .ok (.iaload, 1) := by decide +kernel
theorem d_L_law_609 : decode code 609 = .ok (.aload_n 0, 1) := by decide +kernel
theorem d_L_law_610 : decode code 610 = .ok (.iload 4, 2) := by decide +kernel
theorem d_L_law_612 : decode code 612 = .ok (.iconst 3, 1) := by decide +kernel
theorem d_L_law_613 : decode code 613 = .ok (.iadd, 1) := by decide +kernel
theorem d_L_law_614 : decode code 614 = .ok (.iaload, 1) := by decide +kernel
theorem d_L_law_615 : decode code 615 = .ok (.aload_n 0, 1) := by decide +kernel
theorem d_L_law_616 : decode code 616 = .ok (.iload 4, 2) := by decide +kernel
theorem d_L_law_618 : decode code 618 = .ok (.iconst 4, 1) := by decide +kernel
theorem d_L_law_619 : decode code 619 = .ok (.iadd, 1) := by decide +kernel
theorem d_L_law_620 : decode code 620 = .ok (.iaload, 1) := by decide +kernel
theorem d_L_law_621 : decode code 621 = .ok (.aload_n 0, 1) := by decide +kernel
theorem d_L_law_622 : decode code 622 = .ok (.iload 4, 2) := by decide +kernel
theorem d_L_law_624 : decode code 624 = .ok (.iconst 5, 1) := by decide +kernel
theorem d_L_law_625 : decode code 625 = .ok (.iadd, 1) := by decide +kernel
theorem d_L_law_626 : decode code 626 = .ok (.iaload, 1) := by decide +kernel
theorem d_L_law_627 : decode code 627 = .ok (.ifCond .eq 7, 3) := by decide +kernel
theorem d_L_law_630 : decode code 630 = .ok (.iconst 1, 1) := by decide +kernel
theorem d_L_law_631 : decode code 631 = .ok (.goto 4, 3) := by decide +kernel
theorem d_L_law_634 : decode code 634 = .ok (.iconst 0, 1) := by decide +kernel
theorem d_L_law_635 : decode code 635 = .ok (.aload_n 3, 1) := by decide +kernel
theorem d_L_law_636 : decode code 636 = .ok (.invokestatic 115, 3) := by decide +kernel
theorem d_L_law_639 : decode code 639 = .ok (.istore 5, 2) := by decide +kernel
theorem d_L_law_641 : decode code 641 = .ok (.aload_n 2, 1) := by decide +kernel
theorem d_L_law_642 : decode code 642 = .ok (.aload_n 0, 1) := by decide +kernel
theorem d_L_law_643 : decode code 643 = .ok (.iload 4, 2) := by decide +kernel
theorem d_L_law_645 : decode code 645 = .ok (.iconst 1, 1) := by decide +kernel
theorem d_L_law_646 : decode code 646 = .ok (.iadd, 1) := by decide +kernel
theorem d_L_law_647 : decode code 647 = .ok (.iaload, 1) := by decide +kernel
theorem d_L_law_648 : decode code 648 = .ok (.aload_n 0, 1) := by decide +kernel
theorem d_L_law_649 : decode code 649 = .ok (.iload 4, 2) := by decide +kernel
theorem d_L_law_651 : decode code 651 = .ok (.iconst 2, 1) := by decide +kernel
theorem d_L_law_652 : decode code 652 = .ok (.iadd, 1) := by decide +kernel
theorem d_L_law_653 : decode code 653 = .ok (.iaload, 1) := by decide +kernel
theorem d_L_law_654 : decode code 654 = .ok (.aload_n 0, 1) := by decide +kernel
theorem d_L_law_655 : decode code 655 = .ok (.iload 4, 2) := by decide +kernel
theorem d_L_law_657 : decode code 657 = .ok (.iconst 3, 1) := by decide +kernel
theorem d_L_law_658 : decode code 658 = .ok (.iadd, 1) := by decide +kernel
theorem d_L_law_659 : decode code 659 = .ok (.iaload, 1) := by decide +kernel
theorem d_L_law_660 : decode code 660 = .ok (.aload_n 0, 1) := by decide +kernel
theorem d_L_law_661 : decode code 661 = .ok (.iload 4, 2) := by decide +kernel
theorem d_L_law_663 : decode code 663 = .ok (.iconst 4, 1) := by decide +kernel
theorem d_L_law_664 : decode code 664 = .ok (.iadd, 1) := by decide +kernel
theorem d_L_law_665 : decode code 665 = .ok (.iaload, 1) := by decide +kernel
theorem d_L_law_666 : decode code 666 = .ok (.aload_n 0, 1) := by decide +kernel
theorem d_L_law_667 : decode code 667 = .ok (.iload 4, 2) := by decide +kernel
theorem d_L_law_669 : decode code 669 = .ok (.iconst 5, 1) := by decide +kernel
theorem d_L_law_670 : decode code 670 = .ok (.iadd, 1) := by decide +kernel
theorem d_L_law_671 : decode code 671 = .ok (.iaload, 1) := by decide +kernel
theorem d_L_law_672 : decode code 672 = .ok (.ifCond .eq 7, 3) := by decide +kernel
theorem d_L_law_675 : decode code 675 = .ok (.iconst 1, 1) := by decide +kernel
theorem d_L_law_676 : decode code 676 = .ok (.goto 4, 3) := by decide +kernel
theorem d_L_law_679 : decode code 679 = .ok (.iconst 0, 1) := by decide +kernel
theorem d_L_law_680 : decode code 680 = .ok (.invokevirtual 118, 3) := by decide +kernel
theorem d_L_law_683 : decode code 683 = .ok (.istore 6, 2) := by decide +kernel
theorem d_L_law_685 : decode code 685 = .ok (.aload_n 2, 1) := by decide +kernel
theorem d_L_law_686 : decode code 686 = .ok (.invokevirtual 89, 3) := by decide +kernel
theorem d_L_law_689 : decode code 689 = .ok (.iload 5, 2) := by decide +kernel
theorem d_L_law_691 : decode code 691 = .ok (.if_icmp .eq 5, 3) := by decide +kernel
theorem d_L_law_694 : decode code 694 = .ok (.iconst 0, 1) := by decide +kernel
theorem d_L_law_695 : decode code 695 = .ok (.ireturn, 1) := by decide +kernel
theorem d_L_law_696 : decode code 696 = .ok (.iload 5, 2) := by decide +kernel
theorem d_L_law_698 : decode code 698 = .ok (.ifCond .ne 15, 3) := by decide +kernel
theorem d_L_law_701 : decode code 701 = .ok (.aload_n 3, 1) := by decide +kernel
theorem d_L_law_702 : decode code 702 = .ok (.iconst 0, 1) := by decide +kernel
theorem d_L_law_703 : decode code 703 = .ok (.laload, 1) := by decide +kernel
theorem d_L_law_704 : decode code 704 = .ok (.iload 6, 2) := by decide +kernel
theorem d_L_law_706 : decode code 706 = .ok (.i2l, 1) := by decide +kernel
theorem d_L_law_707 : decode code 707 = .ok (.lcmp, 1) := by decide +kernel
theorem d_L_law_708 : decode code 708 = .ok (.ifCond .eq 5, 3) := by decide +kernel
theorem d_L_law_711 : decode code 711 = .ok (.iconst 0, 1) := by decide +kernel
theorem d_L_law_712 : decode code 712 = .ok (.ireturn, 1) := by decide +kernel
theorem d_L_law_713 : decode code 713 = .ok (.goto 595, 3) := by decide +kernel
theorem d_L_law_716 : decode code 716 = .ok (.aload_n 1, 1) := by decide +kernel
theorem d_L_law_717 : decode code 717 = .ok (.aload_n 0, 1) := by decide +kernel
theorem d_L_law_718 : decode code 718 = .ok (.iload 4, 2) := by decide +kernel
theorem d_L_law_720 : decode code 720 = .ok (.iconst 1, 1) := by decide +kernel
theorem d_L_law_721 : decode code 721 = .ok (.iadd, 1) := by decide +kernel
theorem d_L_law_722 : decode code 722 = .ok (.iaload, 1) := by decide +kernel
theorem d_L_law_723 : decode code 723 = .ok (.aload_n 0, 1) := by decide +kernel
theorem d_L_law_724 : decode code 724 = .ok (.iload 4, 2) := by decide +kernel
theorem d_L_law_726 : decode code 726 = .ok (.iconst 2, 1) := by decide +kernel
theorem d_L_law_727 : decode code 727 = .ok (.iadd, 1) := by decide +kernel
theorem d_L_law_728 : decode code 728 = .ok (.iaload, 1) := by decide +kernel
theorem d_L_law_729 : decode code 729 = .ok (.aload_n 3, 1) := by decide +kernel
theorem d_L_law_730 : decode code 730 = .ok (.invokestatic 119, 3) := by decide +kernel
theorem d_L_law_733 : decode code 733 = .ok (.istore 5, 2) := by decide +kernel
theorem d_L_law_735 : decode code 735 = .ok (.aload_n 2, 1) := by decide +kernel
theorem d_L_law_736 : decode code 736 = .ok (.aload_n 0, 1) := by decide +kernel
theorem d_L_law_737 : decode code 737 = .ok (.iload 4, 2) := by decide +kernel
theorem d_L_law_739 : decode code 739 = .ok (.iconst 1, 1) := by decide +kernel
theorem d_L_law_740 : decode code 740 = .ok (.iadd, 1) := by decide +kernel
theorem d_L_law_741 : decode code 741 = .ok (.iaload, 1) := by decide +kernel
theorem d_L_law_742 : decode code 742 = .ok (.aload_n 0, 1) := by decide +kernel
theorem d_L_law_743 : decode code 743 = .ok (.iload 4, 2) := by decide +kernel
theorem d_L_law_745 : decode code 745 = .ok (.iconst 2, 1) := by decide +kernel
theorem d_L_law_746 : decode code 746 = .ok (.iadd, 1) := by decide +kernel
theorem d_L_law_747 : decode code 747 = .ok (.iaload, 1) := by decide +kernel
theorem d_L_law_748 : decode code 748 = .ok (.invokevirtual 122, 3) := by decide +kernel
theorem d_L_law_751 : decode code 751 = .ok (.istore 6, 2) := by decide +kernel
theorem d_L_law_753 : decode code 753 = .ok (.aload_n 2, 1) := by decide +kernel
theorem d_L_law_754 : decode code 754 = .ok (.invokevirtual 89, 3) := by decide +kernel
theorem d_L_law_757 : decode code 757 = .ok (.iload 5, 2) := by decide +kernel
theorem d_L_law_759 : decode code 759 = .ok (.if_icmp .eq 5, 3) := by decide +kernel
theorem d_L_law_762 : decode code 762 = .ok (.iconst 0, 1) := by decide +kernel
theorem d_L_law_763 : decode code 763 = .ok (.ireturn, 1) := by decide +kernel
theorem d_L_law_764 : decode code 764 = .ok (.iload 5, 2) := by decide +kernel
theorem d_L_law_766 : decode code 766 = .ok (.ifCond .ne 15, 3) := by decide +kernel
theorem d_L_law_769 : decode code 769 = .ok (.aload_n 3, 1) := by decide +kernel
theorem d_L_law_770 : decode code 770 = .ok (.iconst 0, 1) := by decide +kernel
theorem d_L_law_771 : decode code 771 = .ok (.laload, 1) := by decide +kernel
theorem d_L_law_772 : decode code 772 = .ok (.iload 6, 2) := by decide +kernel
theorem d_L_law_774 : decode code 774 = .ok (.i2l, 1) := by decide +kernel
theorem d_L_law_775 : decode code 775 = .ok (.lcmp, 1) := by decide +kernel
theorem d_L_law_776 : decode code 776 = .ok (.ifCond .eq 5, 3) := by decide +kernel
theorem d_L_law_779 : decode code 779 = .ok (.iconst 0, 1) := by decide +kernel
theorem d_L_law_780 : decode code 780 = .ok (.ireturn, 1) := by decide +kernel
theorem d_L_law_781 : decode code 781 = .ok (.goto 527, 3) := by decide +kernel
theorem d_L_law_784 : decode code 784 = .ok (.aload_n 1, 1) := by decide +kernel
theorem d_L_law_785 : decode code 785 = .ok (.aload_n 0, 1) := by decide +kernel
theorem d_L_law_786 : decode code 786 = .ok (.iload 4, 2) := by decide +kernel
theorem d_L_law_788 : decode code 788 = .ok (.iconst 1, 1) := by decide +kernel
theorem d_L_law_789 : decode code 789 = .ok (.iadd, 1) := by decide +kernel
theorem d_L_law_790 : decode code 790 = .ok (.iaload, 1) := by decide +kernel
theorem d_L_law_791 : decode code 791 = .ok (.aload_n 0, 1) := by decide +kernel
theorem d_L_law_792 : decode code 792 = .ok (.iload 4, 2) := by decide +kernel
theorem d_L_law_794 : decode code 794 = .ok (.iconst 2, 1) := by decide +kernel
theorem d_L_law_795 : decode code 795 = .ok (.iadd, 1) := by decide +kernel
theorem d_L_law_796 : decode code 796 = .ok (.iaload, 1) := by decide +kernel
theorem d_L_law_797 : decode code 797 = .ok (.invokestatic 123, 3) := by decide +kernel
theorem d_L_law_800 : decode code 800 = .ok (.istore 5, 2) := by decide +kernel
theorem d_L_law_802 : decode code 802 = .ok (.aload_n 2, 1) := by decide +kernel
theorem d_L_law_803 : decode code 803 = .ok (.aload_n 0, 1) := by decide +kernel
theorem d_L_law_804 : decode code 804 = .ok (.iload 4, 2) := by decide +kernel
theorem d_L_law_806 : decode code 806 = .ok (.iconst 1, 1) := by decide +kernel
theorem d_L_law_807 : decode code 807 = .ok (.iadd, 1) := by decide +kernel
theorem d_L_law_808 : decode code 808 = .ok (.iaload, 1) := by decide +kernel
theorem d_L_law_809 : decode code 809 = .ok (.aload_n 0, 1) := by decide +kernel
theorem d_L_law_810 : decode code 810 = .ok (.iload 4, 2) := by decide +kernel
theorem d_L_law_812 : decode code 812 = .ok (.iconst 2, 1) := by decide +kernel
theorem d_L_law_813 : decode code 813 = .ok (.iadd, 1) := by decide +kernel
theorem d_L_law_814 : decode code 814 = .ok (.iaload, 1) := by decide +kernel
theorem d_L_law_815 : decode code 815 = .ok (.invokevirtual 125, 3) := by decide +kernel
theorem d_L_law_818 : decode code 818 = .ok (.aload_n 2, 1) := by decide +kernel
theorem d_L_law_819 : decode code 819 = .ok (.invokevirtual 89, 3) := by decide +kernel
theorem d_L_law_822 : decode code 822 = .ok (.iload 5, 2) := by decide +kernel
theorem d_L_law_824 : decode code 824 = .ok (.if_icmp .eq 5, 3) := by decide +kernel
theorem d_L_law_827 : decode code 827 = .ok (.iconst 0, 1) := by decide +kernel
theorem d_L_law_828 : decode code 828 = .ok (.ireturn, 1) := by decide +kernel
theorem d_L_law_829 : decode code 829 = .ok (.goto 479, 3) := by decide +kernel
theorem d_L_law_832 : decode code 832 = .ok (.aload_n 1, 1) := by decide +kernel
theorem d_L_law_833 : decode code 833 = .ok (.aload_n 0, 1) := by decide +kernel
theorem d_L_law_834 : decode code 834 = .ok (.iload 4, 2) := by decide +kernel
theorem d_L_law_836 : decode code 836 = .ok (.iconst 1, 1) := by decide +kernel
theorem d_L_law_837 : decode code 837 = .ok (.iadd, 1) := by decide +kernel
theorem d_L_law_838 : decode code 838 = .ok (.iaload, 1) := by decide +kernel
theorem d_L_law_839 : decode code 839 = .ok (.aload_n 0, 1) := by decide +kernel
theorem d_L_law_840 : decode code 840 = .ok (.iload 4, 2) := by decide +kernel
