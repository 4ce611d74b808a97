theorem d_law_646 : decode code 646 = .ok (.aload_n 2, 1) := by decide +kernel
theorem d_law_647 : decode code 647 = .ok (.invokevirtual 60, 3) := by decide +kernel
theorem d_law_650 : decode code 650 = .ok (.iload 5, 2) := by decide +kernel
theorem d_law_652 : decode code 652 = .ok (.if_icmp .eq 5, 3) := by decide +kernel
theorem d_law_655 : decode code 655 = .ok (.iconst 0, 1) := by decide +kernel
theorem d_law_656 : decode code 656 = .ok (.ireturn, 1) := by decide +kernel
theorem d_law_657 : decode code 657 = .ok (.iload 5, 2) := by decide +kernel
theorem d_law_659 : decode code 659 = .ok (.ifCond .ne 15, 3) := by decide +kernel
theorem d_law_662 : decode code 662 = .ok (.aload_n 3, 1) := by decide +kernel
theorem d_law_663 : decode code 663 = .ok (.iconst 0, 1) := by decide +kernel
theorem d_law_664 : decode code 664 = .ok (.laload, 1) := by decide +kernel
theorem d_law_665 : decode code 665 = .ok (.iload 6, 2) := by decide +kernel
theorem d_law_667 : decode code 667 = .ok (.i2l, 1) := by decide +kernel
theorem d_law_668 : decode code 668 = .ok (.lcmp, 1) := by decide +kernel
theorem d_law_669 : decode code 669 = .ok (.ifCond .eq 5, 3) := by decide +kernel
theorem d_law_672 : decode code 672 = .ok (.iconst 0, 1) := by decide +kernel
theorem d_law_673 : decode code 673 = .ok (.ireturn, 1) := by decide +kernel
theorem d_law_674 : decode code 674 = .ok (.goto 83, 3) := by decide +kernel
theorem d_law_677 : decode code 677 = .ok (.aload_n 1, 1) := by decide +kernel
theorem d_law_678 : decode code 678 = .ok (.aload_n 0, 1) := by decide +kernel
theorem d_law_679 : decode code 679 = .ok (.iload 4, 2) := by decide +kernel
theorem d_law_681 : decode code 681 = .ok (.iconst 1, 1) := by decide +kernel
theorem d_law_682 : decode code 682 = .ok (.iadd, 1) := by decide +kernel
theorem d_law_683 : decode code 683 = .ok (.iaload, 1) := by decide +kernel
theorem d_law_684 : decode code 684 = .ok (.aload_n 0, 1) := by decide +kernel
theorem d_law_685 : decode code 685 = .ok (.iload 4, 2) := by decide +kernel
theorem d_law_687 : decode code 687 = .ok (.iconst 2, 1) := by decide +kernel
theorem d_law_688 : decode code 688 = .ok (.iadd, 1) := by decide +kernel
theorem d_law_689 : decode code 689 = .ok (.iaload, 1) := by decide +kernel
theorem d_law_690 : decode code 690 = .ok (.aload_n 0, 1) := by decide +kernel
theorem d_law_691 : decode code 691 = .ok (.iload 4, 2) := by decide +kernel
theorem d_law_693 : decode code 693 = .ok (.iconst 3, 1) := by decide +kernel
theorem d_law_694 : decode code 694 = .ok (.iadd, 1) := by decide +kernel
theorem d_law_695 : decode code 695 = .ok (.iaload, 1) := by decide +kernel
theorem d_law_696 : decode code 696 = .ok (.aload_n 3, 1) := by decide +kernel
theorem d_law_697 : decode code 697 = .ok (.invokestatic 96, 3) := by decide +kernel
theorem d_law_700 : decode code 700 = .ok (.istore 5, 2) := by decide +kernel
theorem d_law_702 : decode code 702 = .ok (.aload_n 2, 1) := by decide +kernel
theorem d_law_703 : decode code 703 = .ok (.aload_n 0, 1) := by decide +kernel
theorem d_law_704 : decode code 704 = .ok (.iload 4, 2) := by decide +kernel
theorem d_law_706 : decode code 706 = .ok (.iconst 1, 1) := by decide +kernel
theorem d_law_707 : decode code 707 = .ok (.iadd, 1) := by decide +kernel
theorem d_law_708 : decode code 708 = .ok (.iaload, 1) := by decide +kernel
theorem d_law_709 : decode code 709 = .ok (.aload_n 0, 1) := by decide +kernel
theorem d_law_710 : decode code 710 = .ok (.iload 4, 2) := by decide +kernel
theorem d_law_712 : decode code 712 = .ok (.iconst 2, 1) := by decide +kernel
theorem d_law_713 : decode code 713 = .ok (.iadd, 1) := by decide +kernel
theorem d_law_714 : decode code 714 = .ok (.iaload, 1) := by decide +kernel
theorem d_law_715 : decode code 715 = .ok (.aload_n 0, 1) := by decide +kernel
theorem d_law_716 : decode code 716 = .ok (.iload 4, 2) := by decide +kernel
theorem d_law_718 : decode code 718 = .ok (.iconst 3, 1) := by decide +kernel
theorem d_law_719 : decode code 719 = .ok (.iadd, 1) := by decide +kernel
theorem d_law_720 : decode code 720 = .ok (.iaload, 1) := by decide +kernel
theorem d_law_721 : decode code 721 = .ok (.invokevirtual 98, 3) := by decide +kernel
theorem d_law_724 : decode code 724 = .ok (.istore 6, 2) := by decide +kernel
theorem d_law_726 : decode code 726 = .ok (.aload_n 2, 1) := by decide +kernel
theorem d_law_727 : decode code 727 = .ok (.invokevirtual 60, 3) := by decide +kernel
theorem d_law_730 : decode code 730 = .ok (.iload 5, 2) := by decide +kernel
theorem d_law_732 : decode code 732 = .ok (.if_icmp .eq 5, 3) := by decide +kernel
theorem d_law_735 : decode code 735 = .ok (.iconst 0, 1) := by decide +kernel
theorem d_law_736 : decode code 736 = .ok (.ireturn, 1) := by decide +kernel
theorem d_law_737 : decode code 737 = .ok (.iload 5, 2) := by decide +kernel
theorem d_law_739 : decode code 739 = .ok (.ifCond .ne 15, 3) := by decide +kernel
theorem d_law_742 : decode code 742 = .ok (.aload_n 3, 1) := by decide +kernel
theorem d_law_743 : decode code 743 = .ok (.iconst 0, 1) := by decide +kernel
