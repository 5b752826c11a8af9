theorem d_Law_532 : decode code 532 = .ok (.iaload, 1) := by decide +kernel
theorem d_Law_533 : decode code 533 = .ok (.aload_n 0, 1) := by decide +kernel
theorem d_Law_534 : decode code 534 = .ok (.iload_n 3, 1) := by decide +kernel
theorem d_Law_535 : decode code 535 = .ok (.iconst 2, 1) := by decide +kernel
theorem d_Law_536 : decode code 536 = .ok (.iadd, 1) := by decide +kernel
theorem d_Law_537 : decode code 537 = .ok (.iaload, 1) := by decide +kernel
theorem d_Law_538 : decode code 538 = .ok (.invokevirtual 60, 3) := by decide +kernel
theorem d_Law_541 : decode code 541 = .ok (.pop, 1) := by decide +kernel
theorem d_Law_542 : decode code 542 = .ok (.goto 968, 3) := by decide +kernel
theorem d_Law_545 : decode code 545 = .ok (.aload_n 1, 1) := by decide +kernel
theorem d_Law_546 : decode code 546 = .ok (.aload_n 0, 1) := by decide +kernel
theorem d_Law_547 : decode code 547 = .ok (.iload_n 3, 1) := by decide +kernel
theorem d_Law_548 : decode code 548 = .ok (.iconst 1, 1) := by decide +kernel
theorem d_Law_549 : decode code 549 = .ok (.iadd, 1) := by decide +kernel
theorem d_Law_550 : decode code 550 = .ok (.iaload, 1) := by decide +kernel
theorem d_Law_551 : decode code 551 = .ok (.aload_n 0, 1) := by decide +kernel
theorem d_Law_552 : decode code 552 = .ok (.iload_n 3, 1) := by decide +kernel
theorem d_Law_553 : decode code 553 = .ok (.iconst 2, 1) := by decide +kernel
theorem d_Law_554 : decode code 554 = .ok (.iadd, 1) := by decide +kernel
theorem d_Law_555 : decode code 555 = .ok (.iaload, 1) := by decide +kernel
theorem d_Law_556 : decode code 556 = .ok (.invokevirtual 61, 3) := by decide +kernel
theorem d_Law_559 : decode code 559 = .ok (.pop, 1) := by decide +kernel
theorem d_Law_560 : decode code 560 = .ok (.aload_n 2, 1) := by decide +kernel
theorem d_Law_561 : decode code 561 = .ok (.aload_n 0, 1) := by decide +kernel
theorem d_Law_562 : decode code 562 = .ok (.iload_n 3, 1) := by decide +kernel
theorem d_Law_563 : decode code 563 = .ok (.iconst 1, 1) := by decide +kernel
theorem d_Law_564 : decode code 564 = .ok (.iadd, 1) := by decide +kernel
theorem d_Law_565 : decode code 565 = .ok (.iaload, 1) := by decide +kernel
theorem d_Law_566 : decode code 566 = .ok (.aload_n 0, 1) := by decide +kernel
theorem d_Law_567 : decode code 567 = .ok (.iload_n 3, 1) := by decide +kernel
theorem d_Law_568 : decode code 568 = .ok (.iconst 2, 1) := by decide +kernel
theorem d_Law_569 : decode code 569 = .ok (.iadd, 1) := by decide +kernel
theorem d_Law_570 : decode code 570 = .ok (.iaload, 1) := by decide +kernel
theorem d_Law_571 : decode code 571 = .ok (.invokevirtual 64, 3) := by decide +kernel
theorem d_Law_574 : decode code 574 = .ok (.pop, 1) := by decide +kernel
theorem d_Law_575 : decode code 575 = .ok (.goto 935, 3) := by decide +kernel
theorem d_Law_578 : decode code 578 = .ok (.aload_n 1, 1) := by decide +kernel
theorem d_Law_579 : decode code 579 = .ok (.aload_n 0, 1) := by decide +kernel
theorem d_Law_580 : decode code 580 = .ok (.iload_n 3, 1) := by decide +kernel
theorem d_Law_581 : decode code 581 = .ok (.iconst 1, 1) := by decide +kernel
theorem d_Law_582 : decode code 582 = .ok (.iadd, 1) := by decide +kernel
theorem d_Law_583 : decode code 583 = .ok (.iaload, 1) := by decide +kernel
theorem d_Law_584 : decode code 584 = .ok (.aload_n 0, 1) := by decide +kernel
theorem d_Law_585 : decode code 585 = .ok (.iload_n 3, 1) := by decide +kernel
theorem d_Law_586 : decode code 586 = .ok (.iconst 2, 1) := by decide +kernel
theorem d_Law_587 : decode code 587 = .ok (.iadd, 1) := by decide +kernel
theorem d_Law_588 : decode code 588 = .ok (.iaload, 1) := by decide +kernel
theorem d_Law_589 : decode code 589 = .ok (.invokevirtual 65, 3) := by decide +kernel
theorem d_Law_592 : decode code 592 = .ok (.pop, 1) := by decide +kernel
theorem d_Law_593 : decode code 593 = .ok (.aload_n 2, 1) := by decide +kernel
theorem d_Law_594 : decode code 594 = .ok (.aload_n 0, 1) := by decide +kernel
theorem d_Law_595 : decode code 595 = .ok (.iload_n 3, 1) := by decide +kernel
theorem d_Law_596 : decode code 596 = .ok (.iconst 1, 1) := by decide +kernel
theorem d_Law_597 : decode code 597 = .ok (.iadd, 1) := by decide +kernel
theorem d_Law_598 : decode code 598 = .ok (.iaload, 1) := by decide +kernel
theorem d_Law_599 : decode code 599 = .ok (.aload_n 0, 1) := by decide +kernel
theorem d_Law_600 : decode code 600 = .ok (.iload_n 3, 1) := by decide +kernel
theorem d_Law_601 : decode code 601 = .ok (.iconst 2, 1) := by decide +kernel
theorem d_Law_602 : decode code 602 = .ok (.iadd, 1) := by decide +kernel
theorem d_Law_603 : decode code 603 = .ok (.iaload, 1) := by decide +kernel
theorem d_Law_604 : decode code 604 = .ok (.invokevirtual 68, 3) := by decide +kernel
theorem d_Law_607 : decode code 607 = .ok (.pop, 1) := by decide +kernel
theorem d_Law_608 : decode code 608 = .ok (.goto 902, 3) := by decide +kernel
theorem d_Law_611 : decode code 611 = .ok (.aload_n 1, 1) := by decide +kernel
theorem d_Law_612 : decode code 612 = .ok (.aload_n 0, 1) := by decide +kernel
theorem d_Law_613 : decode code 613 = .ok (.iload_n 3, 1) := by decide +kernel
theorem d_Law_614 : decode code 614 = .ok (.iconst 1, 1) := by decide +kernel
theorem d_Law_615 : decode code 615 = .ok (.iadd, 1) := by decide +kernel
theorem d_Law_616 : decode code 616 = .ok (.iaload, 1) := by decide +kernel
theorem d_Law_617 : decode code 617 = .ok (.aload_n 0, 1) := by decide +kernel
theorem d_Law_618 : decode code 618 = .ok (.iload_n 3, 1) := by decide +kernel
theorem d_Law_619 : decode code 619 = .ok (.iconst 2, 1) := by decide +kernel
theorem d_Law_620 : decode code 620 = .ok (.iadd, 1) := by decide +kernel
theorem d_Law_621 : decode code 621 = .ok (.iaload, 1) := by decide +kernel
theorem d_Law_622 : decode code 622 = .ok (.aload_n 0, 1) := by decide +kernel
theorem d_Law_623 : decode code 623 = .ok (.iload_n 3, 1) := by decide +kernel
theorem d_Law_624 : decode code 624 = .ok (.iconst 3, 1) := by decide +kernel
theorem d_Law_625 : decode code 625 = .ok (.iadd, 1) := by decide +kernel
theorem d_Law_626 : decode code 626 = .ok (.iaload, 1) := by decide +kernel
theorem d_Law_627 : decode code 627 = .ok (.invokevirtual 69, 3) := by decide +kernel
theorem d_Law_630 : decode code 630 = .ok (.pop, 1) := by decide +kernel
theorem d_Law_631 : decode code 631 = .ok (.aload_n 2, 1) := by decide +kernel
theorem d_Law_632 : decode code 632 = .ok (.aload_n 0, 1) := by decide +kernel
theorem d_Law_633 : decode code 633 = .ok (.iload_n 3, 1) := by decide +kernel
theorem d_Law_634 : decode code 634 = .ok (.iconst 1, 1) := by decide +kernel
theorem d_Law_635 : decode code 635 = .ok (.iadd, 1) := by decide +kernel
theorem d_Law_636 : decode code 636 = .ok (.iaload, 1) := by decide +kernel
theorem d_Law_637 : decode code 637 = .ok (.aload_n 0, 1) := by decide +kernel
theorem d_Law_638 : decode code 638 = .ok (.iload_n 3, 1) := by decide +kernel
theorem d_Law_639 : decode code 639 = .ok (.iconst 2, 1) := by decide +kernel
theorem d_Law_640 : decode code 640 = .ok (.iadd, 1) := by decide +kernel
theorem d_Law_641 : decode code 641 = .ok (.iaload, 1) := by decide +kernel
theorem d_Law_642 : decode code 642 = .ok (.aload_n 0, 1) := by decide +kernel
theorem d_Law_643 : decode code 643 = .ok (.iload_n 3, 1) := by decide +kernel
theorem d_Law_644 : decode code 644 = .ok (.iconst 3, 1) := by decide +kernel
theorem d_Law_645 : decode code 645 = .ok (.iadd, 1) := by decide +kernel
theorem d_Law_646 : decode code 646 = .ok (.iaload, 1) := by decide +kernel
theorem d_Law_647 : decode code 647 = .ok (.invokevirtual 73, 3) := by decide +kernel
theorem d_Law_650 : decode code 650 = .ok (.pop, 1) := by decide +kernel
theorem d_Law_651 : decode code 651 = .ok (.goto 859, 3) := by decide +kernel
theorem d_Law_654 : decode code 654 = .ok (.aload_n 1, 1) := by decide +kernel
theorem d_Law_655 : decode code 655 = .ok (.aload_n 0, 1) := by decide +kernel
theorem d_Law_656 : decode code 656 = .ok (.iload_n 3, 1) := by decide +kernel
theorem d_Law_657 : decode code 657 = .ok (.iconst 1, 1) := by decide +kernel
theorem d_Law_658 : decode code 658 = .ok (.iadd, 1) := by decide +kernel
theorem d_Law_659 : decode code 659 = .ok (.iaload, 1) := by decide +kernel
theorem d_Law_660 : decode code 660 = .ok (.aload_n 0, 1) := by decide +kernel
theorem d_Law_661 : decode code 661 = .ok (.iload_n 3, 1) := by decide +kernel
theorem d_Law_662 : decode code 662 = .ok (.iconst 2, 1) := by decide +kernel
theorem d_Law_663 : decode code 663 = .ok (.iadd, 1) := by decide +kernel
theorem d_Law_664 : decode code 664 = .ok (.iaload, 1) := by decide +kernel
theorem d_Law_665 : decode code 665 = .ok (.invokevirtual 74, 3) := by decide +kernel
theorem d_Law_668 : decode code 668 = .ok (.pop, 1) := by decide +kernel
theorem d_Law_669 : decode code 669 = .ok (.aload_n 2, 1) := by decide +kernel
theorem d_Law_670 : decode code 670 = .ok (.aload_n 0, 1) := by decide +kernel
theorem d_Law_671 : decode code 671 = .ok (.iload_n 3, 1) := by decide +kernel
theorem d_Law_672 : decode code 672 = .ok (.iconst 1, 1) := by decide +kernel
theorem d_Law_673 : decode code 673 = .ok (.iadd, 1) := by decide +kernel
theorem d_Law_674 : decode code 674 = .ok (.iaload, 1) := by decide +kernel
theorem d_Law_675 : decode code 675 = .ok (.aload_n 0, 1) := by decide +kernel
theorem d_Law_676 : decode code 676 = .ok (.iload_n 3, 1) := by decide +kernel
theorem d_Law_677 : decode code 677 = .ok (.iconst 2, 1) := by decide +kernel
theorem d_Law_678 : decode code 678 = .ok (.iadd, 1) := by decide +kernel
theorem d_Law_679 : decode code 679 = .ok (.iaload, 1) := by decide +kernel
theorem d_Law_680 : decode code 680 = .ok (.invokevirtual 77, 3) := by decide +kernel
theorem d_Law_683 : decode code 683 = .ok (.pop, 1) := by decide +kernel
theorem d_Law_684 : decode code 684 = .ok (.goto 826, 3) := by decide +kernel
theorem d_Law_687 : decode code 687 = .ok (.aload_n 1, 1) := by decide +kernel
theorem d_Law_688 : decode code 688 = .ok (.aload_n 0, 1) := by decide +kernel
theorem d_Law_689 : decode code 689 = .ok (.iload_n 3, 1) := by decide +kernel
theorem d_Law_690 : decode code 690 = .ok (.iconst 1, 1) := by decide +kernel
theorem d_Law_691 : decode code 691 = .ok (.iadd, 1) := by decide +kernel
theorem d_Law_692 : decode code 692 = .ok (.iaload, 1) := by decide +kernel
theorem d_Law_693 : decode code 693 = .ok (.aload_n 0, 1) := by decide +kernel
theorem d_Law_694 : decode code 694 = .ok (.iload_n 3, 1) := by decide +kernel
theorem d_Law_695 : decode code 695 = .ok (.iconst 2, 1) := by decide +kernel
theorem d_Law_696 : decode code 696 = .ok (.iadd, 1) := by decide +kernel
theorem d_Law_697 : decode code 697 = .ok (.iaload, 1) := by decide +kernel
theorem d_Law_698 : decode code 698 = .ok (.invokevirtual 78, 3) := by decide +kernel
theorem d_Law_701 : decode code 701 = .ok (.pop, 1) := by decide +kernel
theorem d_Law_702 : decode code 702 = .ok (.aload_n 2, 1) := by decide +kernel
theorem d_Law_703 : decode code 703 = .ok (.aload_n 0, 1) := by decide +kernel
theorem d_Law_704 : decode code 704 = .ok (.iload_n 3, 1) := by decide +kernel
theorem d_Law_705 : decode code 705 = .ok (.iconst 1, 1) := by decide +kernel
theorem d_Law_706 : decode code 706 = .ok (.iadd, 1) := by decide +kernel
theorem d_Law_707 : decode code 707 = .ok (.iaload, 1) := by decide +kernel
theorem d_Law_708 : decode code 708 = .ok (.aload_n 0, 1) := by decide +kernel
theorem d_Law_709 : decode code 709 = .ok (.iload_n 3, 1) := by decide +kernel
theorem d_Law_710 : decode code 710 = .ok (.iconst 2, 1) := by decide +kernel
theorem d_Law_711 : decode code 711 = .ok (.iadd, 1) := by decide +kernel
theorem d_Law_712 : decode code 712 = .ok (.iaload, 1) := by decide +kernel
theorem d_Law_713 : decode code 713 = .ok (.invokevirtual 81, 3) := by decide +kernel
theorem d_Law_716 : decode code 716 = .ok (.pop, 1) := by decide +kernel
theorem d_Law_717 : decode code 717 = .ok (.goto 793, 3) := by decide +kernel
theorem d_Law_720 : decode code 720 = .ok (.aload_n 1, 1) := by decide +kernel
theorem d_Law_721 : decode code 721 = .ok (.aload_n 0, 1) := by decide +kernel
theorem d_Law_722 : decode code 722 = .ok (.iload_n 3, 1) := by decide +kernel
theorem d_Law_723 : decode code 723 = .ok (.iconst 1, 1) := by decide +kernel
theorem d_Law_724 : decode code 724 = .ok (.iadd, 1) := by decide +kernel
theorem d_Law_725 : decode code 725 = .ok (.iaload, 1) := by decide +kernel
theorem d_Law_726 : decode code 726 = .ok (.invokevirtual 82, 3) := by decide +kernel
theorem d_Law_729 : decode code 729 = .ok (.pop, 1) := by decide +kernel
theorem d_Law_730 : decode code 730 = .ok (.aload_n 2, 1) := by decide +kernel
theorem d_Law_731 : decode code 731 = .ok (.aload_n 0, 1) := by decide +kernel
theorem d_Law_732 : decode code 732 = .ok (.iload_n 3, 1) := by decide +kernel
theorem d_Law_733 : decode code 733 = .ok (.iconst 1, 1) := by decide +kernel
theorem d_Law_734 : decode code 734 = .ok (.iadd, 1) := by decide +kernel
theorem d_Law_735 : decode code 735 = .ok (.iaload, 1) := by decide +kernel
theorem d_Law_736 : decode code 736 = .ok (.invokevirtual 85, 3) := by decide +kernel
theorem d_Law_739 : decode code 739 = .ok (.pop, 1) := by decide +kernel
theorem d_Law_740 : decode code 740 = .ok (.goto 770, 3) := by decide +kernel
theorem d_Law_743 : decode code 743 = .ok (.aload_n 1, 1) := by decide +kernel
theorem d_Law_744 : decode code 744 = .ok (.aload_n 0, 1) := by decide +kernel
theorem d_Law_745 : decode code 745 = .ok (.iload_n 3, 1) := by decide +kernel
theorem d_Law_746 : decode code 746 = .ok (.iconst 1, 1) := by decide +kernel
theorem d_Law_747 : decode code 747 = .ok (.iadd, 1) := by decide +kernel
theorem d_Law_748 : decode code 748 = .ok (.iaload, 1) := by decide +kernel
theorem d_Law_749 : decode code 749 = .ok (.invokevirtual 86, 3) := by decide +kernel
theorem d_Law_752 : decode code 752 = .ok (.pop, 1) := by decide +kernel
theorem d_Law_753 : decode code 753 = .ok (.aload_n 2, 1) := by decide +kernel
theorem d_Law_754 : decode code 754 = .ok (.aload_n 0, 1) := by decide +kernel
theorem d_Law_755 : decode code 755 = .ok (.iload_n 3, 1) := by decide +kernel
theorem d_Law_756 : decode code 756 = .ok (.iconst 1, 1) := by decide +kernel
theorem d_Law_757 : decode code 757 = .ok (.iadd, 1) := by decide +kernel
theorem d_Law_758 : decode code 758 = .ok (.iaload, 1) := by decide +kernel
theorem d_Law_759 : decode code 759 = .ok (.invokevirtual 89, 3) := by decide +kernel
theorem d_Law_762 : decode code 762 = .ok (.pop, 1) := by decide +kernel
theorem d_Law_763 : decode code 763 = .ok (.goto 747, 3) := by decide +kernel
theorem d_Law_766 : decode code 766 = .ok (.aload_n 1, 1) := by decide +kernel
theorem d_Law_767 : decode code 767 = .ok (.aload_n 0, 1) := by decide +kernel
theorem d_Law_768 : decode code 768 = .ok (.iload_n 3, 1) := by decide +kernel
theorem d_Law_769 : decode code 769 = .ok (.iconst 1, 1) := by decide +kernel
theorem d_Law_770 : decode code 770 = .ok (.iadd, 1) := by decide +kernel
theorem d_Law_771 : decode code 771 = .ok (.iaload, 1) := by decide +kernel
theorem d_Law_772 : decode code 772 = .ok (.aload_n 0, 1) := by decide +kernel
theorem d_Law_773 : decode code 773 = .ok (.iload_n 3, 1) := by decide +kernel
theorem d_Law_774 : decode code 774 = .ok (.iconst 2, 1) := by decide +kernel
theorem d_Law_775 : decode code 775 = .ok (.iadd, 1) := by decide +kernel
theorem d_Law_776 : decode code 776 = .ok (.iaload, 1) := by decide +kernel
theorem d_Law_777 : decode code 777 = .ok (.invokevirtual 90, 3) := by decide +kernel
theorem d_Law_780 : decode code 780 = .ok (.aload_n 2, 1) := by decide +kernel
theorem d_Law_781 : decode code 781 = .ok (.aload_n 0, 1) := by decide +kernel
theorem d_Law_782 : decode code 782 = .ok (.iload_n 3, 1) := by decide +kernel
theorem d_Law_783 : decode code 783 = .ok (.iconst 1, 1) := by decide +kernel
theorem d_Law_784 : decode code 784 = .ok (.iadd, 1) := by decide +kernel
theorem d_Law_785 : decode code 785 = .ok (.iaload, 1) := by decide +kernel
theorem d_Law_786 : decode code 786 = .ok (.aload_n 0, 1) := by decide +kernel
theorem d_Law_787 : decode code 787 = .ok (.iload_n 3, 1) := by decide +kernel
theorem d_Law_788 : decode code 788 = .ok (.iconst 2, 1) := by decide +kernel
theorem d_Law_789 : decode code 789 = .ok (.iadd, 1) := by decide +kernel
theorem d_Law_790 : decode code 790 = .ok (.iaload, 1) := by decide +kernel
theorem d_Law_791 : decode code 791 = .ok (.invokevirtual 93, 3) := by decide +kernel
theorem d_Law_794 : decode code 794 = .ok (.if_icmp .eq 716, 3) := by decide +kernel
theorem d_Law_799 : decode code 799 = .ok (.aload_n 1, 1) := by decide +kernel
theorem d_Law_800 : decode code 800 = .ok (.aload_n 0, 1) := by decide +kernel
theorem d_Law_801 : decode code 801 = .ok (.iload_n 3, 1) := by decide +kernel
theorem d_Law_802 : decode code 802 = .ok (.iconst 1, 1) := by decide +kernel
theorem d_Law_803 : decode code 803 = .ok (.iadd, 1) := by decide +kernel
theorem d_Law_804 : decode code 804 = .ok (.iaload, 1) := by decide +kernel
theorem d_Law_805 : decode code 805 = .ok (.aload_n 0, 1) := by decide +kernel
theorem d_Law_806 : decode code 806 = .ok (.iload_n 3, 1) := by decide +kernel
theorem d_Law_807 : decode code 807 = .ok (.iconst 2, 1) := by decide +kernel
theorem d_Law_808 : decode code 808 = .ok (.iadd, 1) := by decide +kernel
theorem d_Law_809 : decode code 809 = .ok (.iaload, 1) := by decide +kernel
theorem d_Law_810 : decode code 810 = .ok (.aload_n 0, 1) := by decide +kernel
theorem d_Law_811 : decode code 811 = .ok (.iload_n 3, 1) := by decide +kernel
theorem d_Law_812 : decode code 812 = .ok (.iconst 3, 1) := by decide +kernel
theorem d_Law_813 : decode code 813 = .ok (.iadd, 1) := by decide +kernel
theorem d_Law_814 : decode code 814 = .ok (.iaload, 1) := by decide +kernel
theorem d_Law_815 : decode code 815 = .ok (.invokevirtual 94, 3) := by decide +kernel
theorem d_Law_818 : decode code 818 = .ok (.pop, 1) := by decide +kernel
theorem d_Law_819 : decode code 819 = .ok (.aload_n 2, 1) := by decide +kernel
theorem d_Law_820 : decode code 820 = .ok (.aload_n 0, 1) := by decide +kernel
theorem d_Law_821 : decode code 821 = .ok (.iload_n 3, 1) := by decide +kernel
theorem d_Law_822 : decode code 822 = .ok (.iconst 1, 1) := by decide +kernel
theorem d_Law_823 : decode code 823 = .ok (.iadd, 1) := by decide +kernel
theorem d_Law_824 : decode code 824 = .ok (.iaload, 1) := by decide +kernel
theorem d_Law_825 : decode code 825 = .ok (.aload_n 0, 1) := by decide +kernel
theorem d_Law_826 : decode code 826 = .ok (.iload_n 3, 1) := by decide +kernel
theorem d_Law_827 : decode code 827 = .ok (.iconst 2, 1) := by decide +kernel
theorem d_Law_828 : decode code 828 = .ok (.iadd, 1) := by decide +kernel
theorem d_Law_829 : decode code 829 = .ok (.iaload, 1) := by decide +kernel
theorem d_Law_830 : decode code 830 = .ok (.aload_n 0, 1) := by decide +kernel
theorem d_Law_831 : decode code 831 = .ok (.iload_n 3, 1) := by decide +kernel
theorem d_Law_832 : decode code 832 = .ok (.iconst 3, 1) := by decide +kernel
theorem d_Law_833 : decode code 833 = .ok (.iadd, 1) := by decide +kernel
theorem d_Law_834 : decode code 834 = .ok (.iaload, 1) := by decide +kernel
theorem d_Law_835 : decode code 835 = .ok (.invokevirtual 97, 3) := by decide +kernel
theorem d_Law_838 : decode code 838 = .ok (.pop, 1) := by decide +kernel
theorem d_Law_839 : decode code 839 = .ok (.goto 671, 3) := by decide +kernel
theorem d_Law_842 : decode code 842 = .ok (.aload_n 1, 1) := by decide +kernel
theorem d_Law_843 : decode code 843 = .ok (.aload_n 0, 1) := by decide +kernel
theorem d_Law_844 : decode code 844 = .ok (.iload_n 3, 1) := by decide +kernel
theorem d_Law_845 : decode code 845 = .ok (.iconst 1, 1) := by decide +kernel
theorem d_Law_846 : decode code 846 = .ok (.iadd, 1) := by decide +kernel
theorem d_Law_847 : decode code 847 = .ok (.iaload, 1) := by decide +kernel
theorem d_Law_848 : decode code 848 = .ok (.invokevirtual 98, 3) := by decide +kernel
theorem d_Law_851 : decode code 851 = .ok (.pop, 1) := by decide +kernel
