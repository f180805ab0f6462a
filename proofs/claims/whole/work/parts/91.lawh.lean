/-! the law, decoded -/
theorem dL_648 : decode code 648 = .ok (.aload_n 0, 1) := by decide +kernel
theorem dL_649 : decode code 649 = .ok (.iload_n 3, 1) := by decide +kernel
theorem dL_650 : decode code 650 = .ok (.iconst 1, 1) := by decide +kernel
theorem dL_651 : decode code 651 = .ok (.iadd, 1) := by decide +kernel
theorem dL_652 : decode code 652 = .ok (.iaload, 1) := by decide +kernel
theorem dL_653 : decode code 653 = .ok (.aload_n 0, 1) := by decide +kernel
theorem dL_654 : decode code 654 = .ok (.iload_n 3, 1) := by decide +kernel
theorem dL_655 : decode code 655 = .ok (.iconst 2, 1) := by decide +kernel
theorem dL_656 : decode code 656 = .ok (.iadd, 1) := by decide +kernel
theorem dL_657 : decode code 657 = .ok (.iaload, 1) := by decide +kernel
theorem dL_658 : decode code 658 = .ok (.invokevirtual 87, 3) := by decide +kernel
theorem dL_661 : decode code 661 = .ok (.if_icmp .eq 54, 3) := by decide +kernel
theorem dL_664 : decode code 664 = .ok (.iconst 0, 1) := by decide +kernel
theorem dL_665 : decode code 665 = .ok (.ireturn, 1) := by decide +kernel
theorem dL_666 : decode code 666 = .ok (.aload_n 1, 1) := by decide +kernel
theorem dL_667 : decode code 667 = .ok (.invokevirtual 88, 3) := by decide +kernel
theorem dL_670 : decode code 670 = .ok (.aload_n 2, 1) := by decide +kernel
theorem dL_671 : decode code 671 = .ok (.invokevirtual 92, 3) := by decide +kernel
theorem dL_674 : decode code 674 = .ok (.if_icmp .eq 41, 3) := by decide +kernel
theorem dL_677 : decode code 677 = .ok (.iconst 0, 1) := by decide +kernel
theorem dL_678 : decode code 678 = .ok (.ireturn, 1) := by decide +kernel
theorem dL_679 : decode code 679 = .ok (.aload_n 1, 1) := by decide +kernel
theorem dL_680 : decode code 680 = .ok (.invokevirtual 93, 3) := by decide +kernel
theorem dL_683 : decode code 683 = .ok (.aload_n 2, 1) := by decide +kernel
theorem dL_684 : decode code 684 = .ok (.invokevirtual 96, 3) := by decide +kernel
theorem dL_687 : decode code 687 = .ok (.if_icmp .eq 28, 3) := by decide +kernel
theorem dL_690 : decode code 690 = .ok (.iconst 0, 1) := by decide +kernel
theorem dL_691 : decode code 691 = .ok (.ireturn, 1) := by decide +kernel
theorem dL_692 : decode code 692 = .ok (.aload_n 1, 1) := by decide +kernel
theorem dL_693 : decode code 693 = .ok (.aload_n 0, 1) := by decide +kernel
theorem dL_694 : decode code 694 = .ok (.iload_n 3, 1) := by decide +kernel
theorem dL_695 : decode code 695 = .ok (.iconst 1, 1) := by decide +kernel
theorem dL_696 : decode code 696 = .ok (.iadd, 1) := by decide +kernel
theorem dL_697 : decode code 697 = .ok (.iaload, 1) := by decide +kernel
theorem dL_698 : decode code 698 = .ok (.invokevirtual 97, 3) := by decide +kernel
theorem dL_701 : decode code 701 = .ok (.aload_n 2, 1) := by decide +kernel
theorem dL_702 : decode code 702 = .ok (.aload_n 0, 1) := by decide +kernel
theorem dL_703 : decode code 703 = .ok (.iload_n 3, 1) := by decide +kernel
theorem dL_704 : decode code 704 = .ok (.iconst 1, 1) := by decide +kernel
theorem dL_705 : decode code 705 = .ok (.iadd, 1) := by decide +kernel
theorem dL_706 : decode code 706 = .ok (.iaload, 1) := by decide +kernel
theorem dL_707 : decode code 707 = .ok (.invokevirtual 100, 3) := by decide +kernel
theorem dL_710 : decode code 710 = .ok (.if_icmp .eq 5, 3) := by decide +kernel
theorem dL_713 : decode code 713 = .ok (.iconst 0, 1) := by decide +kernel
theorem dL_714 : decode code 714 = .ok (.ireturn, 1) := by decide +kernel
theorem dL_715 : decode code 715 = .ok (.iinc 3 4, 3) := by decide +kernel
theorem dL_718 : decode code 718 = .ok (.goto (-700), 3) := by decide +kernel
theorem dL_721 : decode code 721 = .ok (.iconst 1, 1) := by decide +kernel
theorem dL_722 : decode code 722 = .ok (.ireturn, 1) := by decide +kernel
