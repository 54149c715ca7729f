/-! the law's instructions -/
theorem dl_648 : decode code 648 = .ok (.iload_n 3, 1) := by decide +kernel
theorem dl_649 : decode code 649 = .ok (.iconst 1, 1) := by decide +kernel
theorem dl_650 : decode code 650 = .ok (.iadd, 1) := by decide +kernel
theorem dl_651 : decode code 651 = .ok (.iaload, 1) := by decide +kernel
theorem dl_652 : decode code 652 = .ok (.invokevirtual 84, 3) := by decide +kernel
theorem dl_655 : decode code 655 = .ok (.if_icmp .eq 255, 3) := by decide +kernel
theorem dl_658 : decode code 658 = .ok (.iconst 0, 1) := by decide +kernel
theorem dl_659 : decode code 659 = .ok (.ireturn, 1) := by decide +kernel
theorem dl_660 : decode code 660 = .ok (.aload_n 1, 1) := by decide +kernel
theorem dl_661 : decode code 661 = .ok (.aload_n 0, 1) := by decide +kernel
theorem dl_662 : decode code 662 = .ok (.iload_n 3, 1) := by decide +kernel
theorem dl_663 : decode code 663 = .ok (.iconst 1, 1) := by decide +kernel
theorem dl_664 : decode code 664 = .ok (.iadd, 1) := by decide +kernel
theorem dl_665 : decode code 665 = .ok (.iaload, 1) := by decide +kernel
theorem dl_666 : decode code 666 = .ok (.aload_n 0, 1) := by decide +kernel
theorem dl_667 : decode code 667 = .ok (.iload_n 3, 1) := by decide +kernel
theorem dl_668 : decode code 668 = .ok (.iconst 2, 1) := by decide +kernel
theorem dl_669 : decode code 669 = .ok (.iadd, 1) := by decide +kernel
theorem dl_670 : decode code 670 = .ok (.iaload, 1) := by decide +kernel
theorem dl_671 : decode code 671 = .ok (.aload_n 0, 1) := by decide +kernel
theorem dl_672 : decode code 672 = .ok (.iload_n 3, 1) := by decide +kernel
theorem dl_673 : decode code 673 = .ok (.iconst 3, 1) := by decide +kernel
theorem dl_674 : decode code 674 = .ok (.iadd, 1) := by decide +kernel
theorem dl_675 : decode code 675 = .ok (.iaload, 1) := by decide +kernel
theorem dl_676 : decode code 676 = .ok (.aload_n 0, 1) := by decide +kernel
theorem dl_677 : decode code 677 = .ok (.iload_n 3, 1) := by decide +kernel
theorem dl_678 : decode code 678 = .ok (.iconst 4, 1) := by decide +kernel
theorem dl_679 : decode code 679 = .ok (.iadd, 1) := by decide +kernel
theorem dl_680 : decode code 680 = .ok (.iaload, 1) := by decide +kernel
theorem dl_681 : decode code 681 = .ok (.invokevirtual 85, 3) := by decide +kernel
theorem dl_684 : decode code 684 = .ok (.aload_n 2, 1) := by decide +kernel
theorem dl_685 : decode code 685 = .ok (.aload_n 0, 1) := by decide +kernel
theorem dl_686 : decode code 686 = .ok (.iload_n 3, 1) := by decide +kernel
theorem dl_687 : decode code 687 = .ok (.iconst 1, 1) := by decide +kernel
theorem dl_688 : decode code 688 = .ok (.iadd, 1) := by decide +kernel
theorem dl_689 : decode code 689 = .ok (.iaload, 1) := by decide +kernel
theorem dl_690 : decode code 690 = .ok (.aload_n 0, 1) := by decide +kernel
theorem dl_691 : decode code 691 = .ok (.iload_n 3, 1) := by decide +kernel
theorem dl_692 : decode code 692 = .ok (.iconst 2, 1) := by decide +kernel
theorem dl_693 : decode code 693 = .ok (.iadd, 1) := by decide +kernel
theorem dl_694 : decode code 694 = .ok (.iaload, 1) := by decide +kernel
theorem dl_695 : decode code 695 = .ok (.aload_n 0, 1) := by decide +kernel
theorem dl_696 : decode code 696 = .ok (.iload_n 3, 1) := by decide +kernel
theorem dl_697 : decode code 697 = .ok (.iconst 3, 1) := by decide +kernel
theorem dl_698 : decode code 698 = .ok (.iadd, 1) := by decide +kernel
theorem dl_699 : decode code 699 = .ok (.iaload, 1) := by decide +kernel
theorem dl_700 : decode code 700 = .ok (.aload_n 0, 1) := by decide +kernel
theorem dl_701 : decode code 701 = .ok (.iload_n 3, 1) := by decide +kernel
theorem dl_702 : decode code 702 = .ok (.iconst 4, 1) := by decide +kernel
theorem dl_703 : decode code 703 = .ok (.iadd, 1) := by decide +kernel
theorem dl_704 : decode code 704 = .ok (.iaload, 1) := by decide +kernel
theorem dl_705 : decode code 705 = .ok (.invokevirtual 88, 3) := by decide +kernel
theorem dl_708 : decode code 708 = .ok (.if_icmp .eq 202, 3) := by decide +kernel
theorem dl_711 : decode code 711 = .ok (.iconst 0, 1) := by decide +kernel
theorem dl_712 : decode code 712 = .ok (.ireturn, 1) := by decide +kernel
theorem dl_713 : decode code 713 = .ok (.aload_n 1, 1) := by decide +kernel
theorem dl_714 : decode code 714 = .ok (.aload_n 0, 1) := by decide +kernel
theorem dl_715 : decode code 715 = .ok (.iload_n 3, 1) := by decide +kernel
theorem dl_716 : decode code 716 = .ok (.iconst 1, 1) := by decide +kernel
theorem dl_717 : decode code 717 = .ok (.iadd, 1) := by decide +kernel
theorem dl_718 : decode code 718 = .ok (.iaload, 1) := by decide +kernel
theorem dl_719 : decode code 719 = .ok (.invokevirtual 89, 3) := by decide +kernel
theorem dl_722 : decode code 722 = .ok (.aload_n 2, 1) := by decide +kernel
theorem dl_723 : decode code 723 = .ok (.aload_n 0, 1) := by decide +kernel
theorem dl_724 : decode code 724 = .ok (.iload_n 3, 1) := by decide +kernel
theorem dl_725 : decode code 725 = .ok (.iconst 1, 1) := by decide +kernel
theorem dl_726 : decode code 726 = .ok (.iadd, 1) := by decide +kernel
theorem dl_727 : decode code 727 = .ok (.iaload, 1) := by decide +kernel
theorem dl_728 : decode code 728 = .ok (.invokevirtual 92, 3) := by decide +kernel
theorem dl_731 : decode code 731 = .ok (.if_icmp .eq 179, 3) := by decide +kernel
