/-! decode rows of the law -/
theorem dL_law_640 : decode mL.2.1 640 = .ok (.invokevirtual 80, 3) := by decide +kernel
theorem dL_law_643 : decode mL.2.1 643 = .ok (.if_icmp .eq 852, 3) := by decide +kernel
theorem dL_law_648 : decode mL.2.1 648 = .ok (.aload_n 1, 1) := by decide +kernel
theorem dL_law_649 : decode mL.2.1 649 = .ok (.invokevirtual 81, 3) := by decide +kernel
theorem dL_law_652 : decode mL.2.1 652 = .ok (.aload_n 2, 1) := by decide +kernel
theorem dL_law_653 : decode mL.2.1 653 = .ok (.invokevirtual 84, 3) := by decide +kernel
theorem dL_law_656 : decode mL.2.1 656 = .ok (.if_icmp .eq 839, 3) := by decide +kernel
theorem dL_law_661 : decode mL.2.1 661 = .ok (.aload_n 1, 1) := by decide +kernel
theorem dL_law_662 : decode mL.2.1 662 = .ok (.aload_n 0, 1) := by decide +kernel
theorem dL_law_663 : decode mL.2.1 663 = .ok (.iload_n 3, 1) := by decide +kernel
theorem dL_law_664 : decode mL.2.1 664 = .ok (.iconst 1, 1) := by decide +kernel
theorem dL_law_665 : decode mL.2.1 665 = .ok (.iadd, 1) := by decide +kernel
theorem dL_law_666 : decode mL.2.1 666 = .ok (.iaload, 1) := by decide +kernel
theorem dL_law_667 : decode mL.2.1 667 = .ok (.invokevirtual 85, 3) := by decide +kernel
theorem dL_law_670 : decode mL.2.1 670 = .ok (.aload_n 2, 1) := by decide +kernel
theorem dL_law_671 : decode mL.2.1 671 = .ok (.aload_n 0, 1) := by decide +kernel
theorem dL_law_672 : decode mL.2.1 672 = .ok (.iload_n 3, 1) := by decide +kernel
theorem dL_law_673 : decode mL.2.1 673 = .ok (.iconst 1, 1) := by decide +kernel
theorem dL_law_674 : decode mL.2.1 674 = .ok (.iadd, 1) := by decide +kernel
theorem dL_law_675 : decode mL.2.1 675 = .ok (.iaload, 1) := by decide +kernel
theorem dL_law_676 : decode mL.2.1 676 = .ok (.invokevirtual 88, 3) := by decide +kernel
theorem dL_law_679 : decode mL.2.1 679 = .ok (.if_icmp .eq 816, 3) := by decide +kernel
theorem dL_law_684 : decode mL.2.1 684 = .ok (.aload_n 1, 1) := by decide +kernel
theorem dL_law_685 : decode mL.2.1 685 = .ok (.aload_n 0, 1) := by decide +kernel
theorem dL_law_686 : decode mL.2.1 686 = .ok (.iload_n 3, 1) := by decide +kernel
theorem dL_law_687 : decode mL.2.1 687 = .ok (.iconst 1, 1) := by decide +kernel
theorem dL_law_688 : decode mL.2.1 688 = .ok (.iadd, 1) := by decide +kernel
theorem dL_law_689 : decode mL.2.1 689 = .ok (.iaload, 1) := by decide +kernel
theorem dL_law_690 : decode mL.2.1 690 = .ok (.invokevirtual 89, 3) := by decide +kernel
theorem dL_law_693 : decode mL.2.1 693 = .ok (.aload_n 2, 1) := by decide +kernel
theorem dL_law_694 : decode mL.2.1 694 = .ok (.aload_n 0, 1) := by decide +kernel
theorem dL_law_695 : decode mL.2.1 695 = .ok (.iload_n 3, 1) := by decide +kernel
theorem dL_law_696 : decode mL.2.1 696 = .ok (.iconst 1, 1) := by decide +kernel
theorem dL_law_697 : decode mL.2.1 697 = .ok (.iadd, 1) := by decide +kernel
theorem dL_law_698 : decode mL.2.1 698 = .ok (.iaload, 1) := by decide +kernel
theorem dL_law_699 : decode mL.2.1 699 = .ok (.invokevirtual 92, 3) := by decide +kernel
theorem dL_law_702 : decode mL.2.1 702 = .ok (.if_icmp .eq 793, 3) := by decide +kernel
theorem dL_law_707 : decode mL.2.1 707 = .ok (.aload_n 1, 1) := by decide +kernel
theorem dL_law_708 : decode mL.2.1 708 = .ok (.aload_n 0, 1) := by decide +kernel
theorem dL_law_709 : decode mL.2.1 709 = .ok (.iload_n 3, 1) := by decide +kernel
theorem dL_law_710 : decode mL.2.1 710 = .ok (.iconst 1, 1) := by decide +kernel
theorem dL_law_711 : decode mL.2.1 711 = .ok (.iadd, 1) := by decide +kernel
theorem dL_law_712 : decode mL.2.1 712 = .ok (.iaload, 1) := by decide +kernel
theorem dL_law_713 : decode mL.2.1 713 = .ok (.invokevirtual 93, 3) := by decide +kernel
theorem dL_law_716 : decode mL.2.1 716 = .ok (.aload_n 2, 1) := by decide +kernel
theorem dL_law_717 : decode mL.2.1 717 = .ok (.aload_n 0, 1) := by decide +kernel
theorem dL_law_718 : decode mL.2.1 718 = .ok (.iload_n 3, 1) := by decide +kernel
theorem dL_law_719 : decode mL.2.1 719 = .ok (.iconst 1, 1) := by decide +kernel
theorem dL_law_720 : decode mL.2.1 720 = .ok (.iadd, 1) := by decide +kernel
theorem dL_law_721 : decode mL.2.1 721 = .ok (.iaload, 1) := by decide +kernel
theorem dL_law_722 : decode mL.2.1 722 = .ok (.invokevirtual 96, 3) := by decide +kernel
theorem dL_law_725 : decode mL.2.1 725 = .ok (.if_icmp .eq 770, 3) := by decide +kernel
theorem dL_law_730 : decode mL.2.1 730 = .ok (.aload_n 1, 1) := by decide +kernel
theorem dL_law_731 : decode mL.2.1 731 = .ok (.aload_n 0, 1) := by decide +kernel
theorem dL_law_732 : decode mL.2.1 732 = .ok (.iload_n 3, 1) := by decide +kernel
theorem dL_law_733 : decode mL.2.1 733 = .ok (.iconst 1, 1) := by decide +kernel
theorem dL_law_734 : decode mL.2.1 734 = .ok (.iadd, 1) := by decide +kernel
theorem dL_law_735 : decode mL.2.1 735 = .ok (.iaload, 1) := by decide +kernel
theorem dL_law_736 : decode mL.2.1 736 = .ok (.invokevirtual 97, 3) := by decide +kernel
theorem dL_law_739 : decode mL.2.1 739 = .ok (.aload_n 2, 1) := by decide +kernel
theorem dL_law_740 : decode mL.2.1 740 = .ok (.aload_n 0, 1) := by decide +kernel
theorem dL_law_741 : decode mL.2.1 741 = .ok (.iload_n 3, 1) := by decide +kernel
theorem dL_law_742 : decode mL.2.1 742 = .ok (.iconst 1, 1) := by decide +kernel
theorem dL_law_743 : decode mL.2.1 743 = .ok (.iadd, 1) := by decide +kernel
theorem dL_law_744 : decode mL.2.1 744 = .ok (.iaload, 1) := by decide +kernel
theorem dL_law_745 : decode mL.2.1 745 = .ok (.invokevirtual 100, 3) := by decide +kernel
theorem dL_law_748 : decode mL.2.1 748 = .ok (.if_icmp .eq 747, 3) := by decide +kernel
theorem dL_law_753 : decode mL.2.1 753 = .ok (.aload_n 1, 1) := by decide +kernel
theorem dL_law_754 : decode mL.2.1 754 = .ok (.aload_n 0, 1) := by decide +kernel
theorem dL_law_755 : decode mL.2.1 755 = .ok (.iload_n 3, 1) := by decide +kernel
theorem dL_law_756 : decode mL.2.1 756 = .ok (.iconst 1, 1) := by decide +kernel
theorem dL_law_757 : decode mL.2.1 757 = .ok (.iadd, 1) := by decide +kernel
theorem dL_law_758 : decode mL.2.1 758 = .ok (.iaload, 1) := by decide +kernel
theorem dL_law_759 : decode mL.2.1 759 = .ok (.invokevirtual 101, 3) := by decide +kernel
theorem dL_law_762 : decode mL.2.1 762 = .ok (.aload_n 2, 1) := by decide +kernel
