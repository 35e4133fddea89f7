/-! the law: decoded -/
theorem d_Lw_law_600 : decode code 600 = .ok (.iaload, 1) := by decide +kernel
theorem d_Lw_law_601 : decode code 601 = .ok (.aload_n 0, 1) := by decide +kernel
theorem d_Lw_law_602 : decode code 602 = .ok (.iload_n 3, 1) := by decide +kernel
theorem d_Lw_law_603 : decode code 603 = .ok (.iconst 2, 1) := by decide +kernel
theorem d_Lw_law_604 : decode code 604 = .ok (.iadd, 1) := by decide +kernel
theorem d_Lw_law_605 : decode code 605 = .ok (.iaload, 1) := by decide +kernel
theorem d_Lw_law_606 : decode code 606 = .ok (.invokevirtual 68, 3) := by decide +kernel
theorem d_Lw_law_609 : decode code 609 = .ok (.if_icmp .eq 558, 3) := by decide +kernel
theorem d_Lw_law_612 : decode code 612 = .ok (.iconst 0, 1) := by decide +kernel
theorem d_Lw_law_613 : decode code 613 = .ok (.ireturn, 1) := by decide +kernel
theorem d_Lw_law_614 : decode code 614 = .ok (.aload_n 1, 1) := by decide +kernel
theorem d_Lw_law_615 : decode code 615 = .ok (.aload_n 0, 1) := by decide +kernel
theorem d_Lw_law_616 : decode code 616 = .ok (.iload_n 3, 1) := by decide +kernel
theorem d_Lw_law_617 : decode code 617 = .ok (.iconst 1, 1) := by decide +kernel
theorem d_Lw_law_618 : decode code 618 = .ok (.iadd, 1) := by decide +kernel
theorem d_Lw_law_619 : decode code 619 = .ok (.iaload, 1) := by decide +kernel
theorem d_Lw_law_620 : decode code 620 = .ok (.aload_n 0, 1) := by decide +kernel
theorem d_Lw_law_621 : decode code 621 = .ok (.iload_n 3, 1) := by decide +kernel
theorem d_Lw_law_622 : decode code 622 = .ok (.iconst 2, 1) := by decide +kernel
theorem d_Lw_law_623 : decode code 623 = .ok (.iadd, 1) := by decide +kernel
theorem d_Lw_law_624 : decode code 624 = .ok (.iaload, 1) := by decide +kernel
theorem d_Lw_law_625 : decode code 625 = .ok (.aload_n 0, 1) := by decide +kernel
theorem d_Lw_law_626 : decode code 626 = .ok (.iload_n 3, 1) := by decide +kernel
theorem d_Lw_law_627 : decode code 627 = .ok (.iconst 3, 1) := by decide +kernel
theorem d_Lw_law_628 : decode code 628 = .ok (.iadd, 1) := by decide +kernel
theorem d_Lw_law_629 : decode code 629 = .ok (.iaload, 1) := by decide +kernel
theorem d_Lw_law_630 : decode code 630 = .ok (.invokevirtual 69, 3) := by decide +kernel
theorem d_Lw_law_633 : decode code 633 = .ok (.aload_n 2, 1) := by decide +kernel
theorem d_Lw_law_634 : decode code 634 = .ok (.aload_n 0, 1) := by decide +kernel
theorem d_Lw_law_635 : decode code 635 = .ok (.iload_n 3, 1) := by decide +kernel
theorem d_Lw_law_636 : decode code 636 = .ok (.iconst 1, 1) := by decide +kernel
theorem d_Lw_law_637 : decode code 637 = .ok (.iadd, 1) := by decide +kernel
theorem d_Lw_law_638 : decode code 638 = .ok (.iaload, 1) := by decide +kernel
theorem d_Lw_law_639 : decode code 639 = .ok (.aload_n 0, 1) := by decide +kernel
theorem d_Lw_law_640 : decode code 640 = .ok (.iload_n 3, 1) := by decide +kernel
theorem d_Lw_law_641 : decode code 641 = .ok (.iconst 2, 1) := by decide +kernel
theorem d_Lw_law_642 : decode code 642 = .ok (.iadd, 1) := by decide +kernel
theorem d_Lw_law_643 : decode code 643 = .ok (.iaload, 1) := by decide +kernel
theorem d_Lw_law_644 : decode code 644 = .ok (.aload_n 0, 1) := by decide +kernel
theorem d_Lw_law_645 : decode code 645 = .ok (.iload_n 3, 1) := by decide +kernel
theorem d_Lw_law_646 : decode code 646 = .ok (.iconst 3, 1) := by decide +kernel
theorem d_Lw_law_647 : decode code 647 = .ok (.iadd, 1) := by decide +kernel
theorem d_Lw_law_648 : decode code 648 = .ok (.iaload, 1) := by decide +kernel
theorem d_Lw_law_649 : decode code 649 = .ok (.invokevirtual 73, 3) := by decide +kernel
theorem d_Lw_law_652 : decode code 652 = .ok (.lcmp, 1) := by decide +kernel
theorem d_Lw_law_653 : decode code 653 = .ok (.ifCond .eq 514, 3) := by decide +kernel
theorem d_Lw_law_656 : decode code 656 = .ok (.iconst 0, 1) := by decide +kernel
theorem d_Lw_law_657 : decode code 657 = .ok (.ireturn, 1) := by decide +kernel
theorem d_Lw_law_658 : decode code 658 = .ok (.aload_n 1, 1) := by decide +kernel
theorem d_Lw_law_659 : decode code 659 = .ok (.aload_n 0, 1) := by decide +kernel
theorem d_Lw_law_660 : decode code 660 = .ok (.iload_n 3, 1) := by decide +kernel
theorem d_Lw_law_661 : decode code 661 = .ok (.iconst 1, 1) := by decide +kernel
theorem d_Lw_law_662 : decode code 662 = .ok (.iadd, 1) := by decide +kernel
theorem d_Lw_law_663 : decode code 663 = .ok (.iaload, 1) := by decide +kernel
theorem d_Lw_law_664 : decode code 664 = .ok (.aload_n 0, 1) := by decide +kernel
theorem d_Lw_law_665 : decode code 665 = .ok (.iload_n 3, 1) := by decide +kernel
theorem d_Lw_law_666 : decode code 666 = .ok (.iconst 2, 1) := by decide +kernel
theorem d_Lw_law_667 : decode code 667 = .ok (.iadd, 1) := by decide +kernel
theorem d_Lw_law_668 : decode code 668 = .ok (.iaload, 1) := by decide +kernel
theorem d_Lw_law_669 : decode code 669 = .ok (.aload_n 0, 1) := by decide +kernel
theorem d_Lw_law_670 : decode code 670 = .ok (.iload_n 3, 1) := by decide +kernel
theorem d_Lw_law_671 : decode code 671 = .ok (.iconst 3, 1) := by decide +kernel
theorem d_Lw_law_672 : decode code 672 = .ok (.iadd, 1) := by decide +kernel
theorem d_Lw_law_673 : decode code 673 = .ok (.iaload, 1) := by decide +kernel
theorem d_Lw_law_674 : decode code 674 = .ok (.invokevirtual 74, 3) := by decide +kernel
theorem d_Lw_law_677 : decode code 677 = .ok (.aload_n 2, 1) := by decide +kernel
theorem d_Lw_law_678 : decode code 678 = .ok (.aload_n 0, 1) := by decide +kernel
theorem d_Lw_law_679 : decode code 679 = .ok (.iload_n 3, 1) := by decide +kernel
theorem d_Lw_law_680 : decode code 680 = .ok (.iconst 1, 1) := by decide +kernel
theorem d_Lw_law_681 : decode code 681 = .ok (.iadd, 1) := by decide +kernel
theorem d_Lw_law_682 : decode code 682 = .ok (.iaload, 1) := by decide +kernel
theorem d_Lw_law_683 : decode code 683 = .ok (.aload_n 0, 1) := by decide +kernel
theorem d_Lw_law_684 : decode code 684 = .ok (.iload_n 3, 1) := by decide +kernel
theorem d_Lw_law_685 : decode code 685 = .ok (.iconst 2, 1) := by decide +kernel
theorem d_Lw_law_686 : decode code 686 = .ok (.iadd, 1) := by decide +kernel
theorem d_Lw_law_687 : decode code 687 = .ok (.iaload, 1) := by decide +kernel
theorem d_Lw_law_688 : decode code 688 = .ok (.aload_n 0, 1) := by decide +kernel
theorem d_Lw_law_689 : decode code 689 = .ok (.iload_n 3, 1) := by decide +kernel
theorem d_Lw_law_690 : decode code 690 = .ok (.iconst 3, 1) := by decide +kernel
theorem d_Lw_law_691 : decode code 691 = .ok (.iadd, 1) := by decide +kernel
theorem d_Lw_law_692 : decode code 692 = .ok (.iaload, 1) := by decide +kernel
theorem d_Lw_law_693 : decode code 693 = .ok (.invokevirtual 77, 3) := by decide +kernel
theorem d_Lw_law_696 : decode code 696 = .ok (.lcmp, 1) := by decide +kernel
theorem d_Lw_law_697 : decode code 697 = .ok (.ifCond .eq 470, 3) := by decide +kernel
theorem d_Lw_law_700 : decode code 700 = .ok (.iconst 0, 1) := by decide +kernel
theorem d_Lw_law_701 : decode code 701 = .ok (.ireturn, 1) := by decide +kernel
theorem d_Lw_law_702 : decode code 702 = .ok (.aload_n 1, 1) := by decide +kernel
theorem d_Lw_law_703 : decode code 703 = .ok (.aload_n 0, 1) := by decide +kernel
theorem d_Lw_law_704 : decode code 704 = .ok (.iload_n 3, 1) := by decide +kernel
theorem d_Lw_law_705 : decode code 705 = .ok (.iconst 1, 1) := by decide +kernel
theorem d_Lw_law_706 : decode code 706 = .ok (.iadd, 1) := by decide +kernel
theorem d_Lw_law_707 : decode code 707 = .ok (.iaload, 1) := by decide +kernel
theorem d_Lw_law_708 : decode code 708 = .ok (.aload_n 0, 1) := by decide +kernel
theorem d_Lw_law_709 : decode code 709 = .ok (.iload_n 3, 1) := by decide +kernel
theorem d_Lw_law_710 : decode code 710 = .ok (.iconst 2, 1) := by decide +kernel
theorem d_Lw_law_711 : decode code 711 = .ok (.iadd, 1) := by decide +kernel
theorem d_Lw_law_712 : decode code 712 = .ok (.iaload, 1) := by decide +kernel
theorem d_Lw_law_713 : decode code 713 = .ok (.invokevirtual 78, 3) := by decide +kernel
theorem d_Lw_law_716 : decode code 716 = .ok (.aload_n 2, 1) := by decide +kernel
theorem d_Lw_law_717 : decode code 717 = .ok (.aload_n 0, 1) := by decide +kernel
theorem d_Lw_law_718 : decode code 718 = .ok (.iload_n 3, 1) := by decide +kernel
theorem d_Lw_law_719 : decode code 719 = .ok (.iconst 1, 1) := by decide +kernel
theorem d_Lw_law_720 : decode code 720 = .ok (.iadd, 1) := by decide +kernel
theorem d_Lw_law_721 : decode code 721 = .ok (.iaload, 1) := by decide +kernel
theorem d_Lw_law_722 : decode code 722 = .ok (.aload_n 0, 1) := by decide +kernel
theorem d_Lw_law_723 : decode code 723 = .ok (.iload_n 3, 1) := by decide +kernel
theorem d_Lw_law_724 : decode code 724 = .ok (.iconst 2, 1) := by decide +kernel
theorem d_Lw_law_725 : decode code 725 = .ok (.iadd, 1) := by decide +kernel
theorem d_Lw_law_726 : decode code 726 = .ok (.iaload, 1) := by decide +kernel
theorem d_Lw_law_727 : decode code 727 = .ok (.invokevirtual 82, 3) := by decide +kernel
theorem d_Lw_law_730 : decode code 730 = .ok (.lcmp, 1) := by decide +kernel
theorem d_Lw_law_731 : decode code 731 = .ok (.ifCond .eq 436, 3) := by decide +kernel
theorem d_Lw_law_734 : decode code 734 = .ok (.iconst 0, 1) := by decide +kernel
theorem d_Lw_law_735 : decode code 735 = .ok (.ireturn, 1) := by decide +kernel
theorem d_Lw_law_736 : decode code 736 = .ok (.aload_n 1, 1) := by decide +kernel
theorem d_Lw_law_737 : decode code 737 = .ok (.aload_n 0, 1) := by decide +kernel
theorem d_Lw_law_738 : decode code 738 = .ok (.iload_n 3, 1) := by decide +kernel
theorem d_Lw_law_739 : decode code 739 = .ok (.iconst 1, 1) := by decide +kernel
theorem d_Lw_law_740 : decode code 740 = .ok (.iadd, 1) := by decide +kernel
theorem d_Lw_law_741 : decode code 741 = .ok (.iaload, 1) := by decide +kernel
theorem d_Lw_law_742 : decode code 742 = .ok (.aload_n 0, 1) := by decide +kernel
theorem d_Lw_law_743 : decode code 743 = .ok (.iload_n 3, 1) := by decide +kernel
theorem d_Lw_law_744 : decode code 744 = .ok (.iconst 2, 1) := by decide +kernel
theorem d_Lw_law_745 : decode code 745 = .ok (.iadd, 1) := by decide +kernel
theorem d_Lw_law_746 : decode code 746 = .ok (.iaload, 1) := by decide +kernel
theorem d_Lw_law_747 : decode code 747 = .ok (.i2l, 1) := by decide +kernel
theorem d_Lw_law_748 : decode code 748 = .ok (.bipush 32, 2) := by decide +kernel

