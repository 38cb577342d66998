theorem dL_law_620 : decode cL_law 620 = .ok (.aload_n 1, 1) := by decide +kernel
theorem dL_law_621 : decode cL_law 621 = .ok (.aload_n 0, 1) := by decide +kernel
theorem dL_law_622 : decode cL_law 622 = .ok (.iload_n 3, 1) := by decide +kernel
theorem dL_law_623 : decode cL_law 623 = .ok (.iconst 1, 1) := by decide +kernel
theorem dL_law_624 : decode cL_law 624 = .ok (.iadd, 1) := by decide +kernel
theorem dL_law_625 : decode cL_law 625 = .ok (.iaload, 1) := by decide +kernel
theorem dL_law_626 : decode cL_law 626 = .ok (.aload_n 0, 1) := by decide +kernel
theorem dL_law_627 : decode cL_law 627 = .ok (.iload_n 3, 1) := by decide +kernel
theorem dL_law_628 : decode cL_law 628 = .ok (.iconst 2, 1) := by decide +kernel
theorem dL_law_629 : decode cL_law 629 = .ok (.iadd, 1) := by decide +kernel
theorem dL_law_630 : decode cL_law 630 = .ok (.iaload, 1) := by decide +kernel
theorem dL_law_631 : decode cL_law 631 = .ok (.invokevirtual 82, 3) := by decide +kernel
theorem wd_824 : Cond.methodLink RL 82 yX9_who ∈ BG := BG_in (by decide +kernel) rfl
theorem wd_825 : Cond.code yX9_who cX9_who 5 (some .int) ∈ BG := BG_in (by decide +kernel) rfl
theorem wd_826 : Cond.instanceMethod yX9_who ∈ BG := BG_in (by decide +kernel) rfl
theorem wd_827 : Cond.selects RX9 yX9_who yX9_who ∈ BG := BG_in (by decide +kernel) rfl
theorem okV_X9_who : okV yX9_who cX9_who 5 (some .int) 2 := ⟨⟨wd_825, wd_71, by decide +kernel⟩, wd_826, wd_827⟩
theorem dL_law_634 : decode cL_law 634 = .ok (.pop, 1) := by decide +kernel
theorem dL_law_635 : decode cL_law 635 = .ok (.aload_n 2, 1) := by decide +kernel
theorem dL_law_636 : decode cL_law 636 = .ok (.aload_n 0, 1) := by decide +kernel
theorem dL_law_637 : decode cL_law 637 = .ok (.iload_n 3, 1) := by decide +kernel
theorem dL_law_638 : decode cL_law 638 = .ok (.iconst 1, 1) := by decide +kernel
theorem dL_law_639 : decode cL_law 639 = .ok (.iadd, 1) := by decide +kernel
theorem dL_law_640 : decode cL_law 640 = .ok (.iaload, 1) := by decide +kernel
theorem dL_law_641 : decode cL_law 641 = .ok (.aload_n 0, 1) := by decide +kernel
theorem dL_law_642 : decode cL_law 642 = .ok (.iload_n 3, 1) := by decide +kernel
theorem dL_law_643 : decode cL_law 643 = .ok (.iconst 2, 1) := by decide +kernel
theorem dL_law_644 : decode cL_law 644 = .ok (.iadd, 1) := by decide +kernel
theorem dL_law_645 : decode cL_law 645 = .ok (.iaload, 1) := by decide +kernel
theorem dL_law_646 : decode cL_law 646 = .ok (.invokevirtual 85, 3) := by decide +kernel
theorem wd_828 : Cond.methodLink RL 85 yX10_who ∈ BG := BG_in (by decide +kernel) rfl
theorem wd_829 : Cond.code yX10_who cX10_who 9 (some .int) ∈ BG := BG_in (by decide +kernel) rfl
theorem wd_830 : Cond.instanceMethod yX10_who ∈ BG := BG_in (by decide +kernel) rfl
theorem wd_831 : Cond.selects RX10 yX10_who yX10_who ∈ BG := BG_in (by decide +kernel) rfl
theorem okV_X10_who : okV yX10_who cX10_who 9 (some .int) 2 := ⟨⟨wd_829, wd_497, by decide +kernel⟩, wd_830, wd_831⟩
theorem dL_law_649 : decode cL_law 649 = .ok (.pop, 1) := by decide +kernel
theorem dL_law_650 : decode cL_law 650 = .ok (.goto 365, 3) := by decide +kernel
theorem dL_law_653 : decode cL_law 653 = .ok (.aload_n 1, 1) := by decide +kernel
theorem dL_law_654 : decode cL_law 654 = .ok (.aload_n 0, 1) := by decide +kernel
theorem dL_law_655 : decode cL_law 655 = .ok (.iload_n 3, 1) := by decide +kernel
theorem dL_law_656 : decode cL_law 656 = .ok (.iconst 1, 1) := by decide +kernel
theorem dL_law_657 : decode cL_law 657 = .ok (.iadd, 1) := by decide +kernel
theorem dL_law_658 : decode cL_law 658 = .ok (.iaload, 1) := by decide +kernel
theorem dL_law_659 : decode cL_law 659 = .ok (.invokevirtual 86, 3) := by decide +kernel
theorem wd_832 : Cond.methodLink RL 86 yX9_order ∈ BG := BG_in (by decide +kernel) rfl
theorem wd_833 : Cond.code yX9_order cX9_order 3 (some .int) ∈ BG := BG_in (by decide +kernel) rfl
theorem wd_834 : Cond.instanceMethod yX9_order ∈ BG := BG_in (by decide +kernel) rfl
theorem wd_835 : Cond.selects RX9 yX9_order yX9_order ∈ BG := BG_in (by decide +kernel) rfl
theorem okV_X9_order : okV yX9_order cX9_order 3 (some .int) 1 := ⟨⟨wd_833, wd_71, by decide +kernel⟩, wd_834, wd_835⟩
theorem dL_law_662 : decode cL_law 662 = .ok (.pop, 1) := by decide +kernel
theorem dL_law_663 : decode cL_law 663 = .ok (.aload_n 2, 1) := by decide +kernel
theorem dL_law_664 : decode cL_law 664 = .ok (.aload_n 0, 1) := by decide +kernel
theorem dL_law_665 : decode cL_law 665 = .ok (.iload_n 3, 1) := by decide +kernel
theorem dL_law_666 : decode cL_law 666 = .ok (.iconst 1, 1) := by decide +kernel
theorem dL_law_667 : decode cL_law 667 = .ok (.iadd, 1) := by decide +kernel
theorem dL_law_668 : decode cL_law 668 = .ok (.iaload, 1) := by decide +kernel
theorem dL_law_669 : decode cL_law 669 = .ok (.invokevirtual 89, 3) := by decide +kernel
theorem wd_836 : Cond.methodLink RL 89 yX10_order ∈ BG := BG_in (by decide +kernel) rfl
theorem wd_837 : Cond.code yX10_order cX10_order 2 (some .int) ∈ BG := BG_in (by decide +kernel) rfl
theorem wd_838 : Cond.instanceMethod yX10_order ∈ BG := BG_in (by decide +kernel) rfl
theorem wd_839 : Cond.selects RX10 yX10_order yX10_order ∈ BG := BG_in (by decide +kernel) rfl
theorem okV_X10_order : okV yX10_order cX10_order 2 (some .int) 1 := ⟨⟨wd_837, wd_497, by decide +kernel⟩, wd_838, wd_839⟩
theorem dL_law_672 : decode cL_law 672 = .ok (.pop, 1) := by decide +kernel
theorem dL_law_673 : decode cL_law 673 = .ok (.goto 342, 3) := by decide +kernel
theorem dL_law_676 : decode cL_law 676 = .ok (.aload_n 1, 1) := by decide +kernel
theorem dL_law_677 : decode cL_law 677 = .ok (.aload_n 0, 1) := by decide +kernel
theorem dL_law_678 : decode cL_law 678 = .ok (.iload_n 3, 1) := by decide +kernel
theorem dL_law_679 : decode cL_law 679 = .ok (.iconst 1, 1) := by decide +kernel
theorem dL_law_680 : decode cL_law 680 = .ok (.iadd, 1) := by decide +kernel
theorem dL_law_681 : decode cL_law 681 = .ok (.iaload, 1) := by decide +kernel
theorem dL_law_682 : decode cL_law 682 = .ok (.aload_n 0, 1) := by decide +kernel
theorem dL_law_683 : decode cL_law 683 = .ok (.iload_n 3, 1) := by decide +kernel
theorem dL_law_684 : decode cL_law 684 = .ok (.iconst 2, 1) := by decide +kernel
theorem dL_law_685 : decode cL_law 685 = .ok (.iadd, 1) := by decide +kernel
theorem dL_law_686 : decode cL_law 686 = .ok (.iaload, 1) := by decide +kernel
theorem dL_law_687 : decode cL_law 687 = .ok (.aload_n 0, 1) := by decide +kernel
theorem dL_law_688 : decode cL_law 688 = .ok (.iload_n 3, 1) := by decide +kernel
theorem dL_law_689 : decode cL_law 689 = .ok (.iconst 3, 1) := by decide +kernel
theorem dL_law_690 : decode cL_law 690 = .ok (.iadd, 1) := by decide +kernel
theorem dL_law_691 : decode cL_law 691 = .ok (.iaload, 1) := by decide +kernel
theorem dL_law_692 : decode cL_law 692 = .ok (.invokevirtual 90, 3) := by decide +kernel
theorem wd_840 : Cond.methodLink RL 90 yX9_toldHer ∈ BG := BG_in (by decide +kernel) rfl
theorem wd_841 : Cond.code yX9_toldHer cX9_toldHer 8 (some .int) ∈ BG := BG_in (by decide +kernel) rfl
theorem wd_842 : Cond.instanceMethod yX9_toldHer ∈ BG := BG_in (by decide +kernel) rfl
theorem wd_843 : Cond.selects RX9 yX9_toldHer yX9_toldHer ∈ BG := BG_in (by decide +kernel) rfl
theorem okV_X9_toldHer : okV yX9_toldHer cX9_toldHer 8 (some .int) 3 := ⟨⟨wd_841, wd_71, by decide +kernel⟩, wd_842, wd_843⟩
theorem dL_law_695 : decode cL_law 695 = .ok (.pop, 1) := by decide +kernel
theorem dL_law_696 : decode cL_law 696 = .ok (.aload_n 2, 1) := by decide +kernel
theorem dL_law_697 : decode cL_law 697 = .ok (.aload_n 0, 1) := by decide +kernel
theorem dL_law_698 : decode cL_law 698 = .ok (.iload_n 3, 1) := by decide +kernel
theorem dL_law_699 : decode cL_law 699 = .ok (.iconst 1, 1) := by decide +kernel
theorem dL_law_700 : decode cL_law 700 = .ok (.iadd, 1) := by decide +kernel
theorem dL_law_701 : decode cL_law 701 = .ok (.iaload, 1) := by decide +kernel
theorem dL_law_702 : decode cL_law 702 = .ok (.aload_n 0, 1) := by decide +kernel
theorem dL_law_703 : decode cL_law 703 = .ok (.iload_n 3, 1) := by decide +kernel
theorem dL_law_704 : decode cL_law 704 = .ok (.iconst 2, 1) := by decide +kernel
theorem dL_law_705 : decode cL_law 705 = .ok (.iadd, 1) := by decide +kernel
theorem dL_law_706 : decode cL_law 706 = .ok (.iaload, 1) := by decide +kernel
theorem dL_law_707 : decode cL_law 707 = .ok (.aload_n 0, 1) := by decide +kernel
theorem dL_law_708 : decode cL_law 708 = .ok (.iload_n 3, 1) := by decide +kernel
theorem dL_law_709 : decode cL_law 709 = .ok (.iconst 3, 1) := by decide +kernel
theorem dL_law_710 : decode cL_law 710 = .ok (.iadd, 1) := by decide +kernel
theorem dL_law_711 : decode cL_law 711 = .ok (.iaload, 1) := by decide +kernel
theorem dL_law_712 : decode cL_law 712 = .ok (.invokevirtual 93, 3) := by decide +kernel
theorem wd_844 : Cond.methodLink RL 93 yX10_toldHer ∈ BG := BG_in (by decide +kernel) rfl
theorem wd_845 : Cond.code yX10_toldHer cX10_toldHer 9 (some .int) ∈ BG := BG_in (by decide +kernel) rfl
theorem wd_846 : Cond.instanceMethod yX10_toldHer ∈ BG := BG_in (by decide +kernel) rfl
theorem wd_847 : Cond.selects RX10 yX10_toldHer yX10_toldHer ∈ BG := BG_in (by decide +kernel) rfl
theorem okV_X10_toldHer : okV yX10_toldHer cX10_toldHer 9 (some .int) 3 := ⟨⟨wd_845, wd_497, by decide +kernel⟩, wd_846, wd_847⟩
theorem dL_law_715 : decode cL_law 715 = .ok (.pop, 1) := by decide +kernel
theorem dL_law_716 : decode cL_law 716 = .ok (.goto 299, 3) := by decide +kernel
theorem dL_law_719 : decode cL_law 719 = .ok (.aload_n 1, 1) := by decide +kernel
theorem dL_law_720 : decode cL_law 720 = .ok (.aload_n 0, 1) := by decide +kernel
theorem dL_law_721 : decode cL_law 721 = .ok (.iload_n 3, 1) := by decide +kernel
theorem dL_law_722 : decode cL_law 722 = .ok (.iconst 1, 1) := by decide +kernel
theorem dL_law_723 : decode cL_law 723 = .ok (.iadd, 1) := by decide +kernel
theorem dL_law_724 : decode cL_law 724 = .ok (.iaload, 1) := by decide +kernel
theorem dL_law_725 : decode cL_law 725 = .ok (.aload_n 0, 1) := by decide +kernel
theorem dL_law_726 : decode cL_law 726 = .ok (.iload_n 3, 1) := by decide +kernel
theorem dL_law_727 : decode cL_law 727 = .ok (.iconst 2, 1) := by decide +kernel
theorem dL_law_728 : decode cL_law 728 = .ok (.iadd, 1) := by decide +kernel
theorem dL_law_729 : decode cL_law 729 = .ok (.iaload, 1) := by decide +kernel
theorem dL_law_730 : decode cL_law 730 = .ok (.invokevirtual 94, 3) := by decide +kernel
theorem wd_848 : Cond.methodLink RL 94 yX9_lasts ∈ BG := BG_in (by decide +kernel) rfl
theorem wd_849 : Cond.code yX9_lasts cX9_lasts 3 (some .int) ∈ BG := BG_in (by decide +kernel) rfl
theorem wd_850 : Cond.instanceMethod yX9_lasts ∈ BG := BG_in (by decide +kernel) rfl
theorem wd_851 : Cond.selects RX9 yX9_lasts yX9_lasts ∈ BG := BG_in (by decide +kernel) rfl
theorem okV_X9_lasts : okV yX9_lasts cX9_lasts 3 (some .int) 2 := ⟨⟨wd_849, wd_71, by decide +kernel⟩, wd_850, wd_851⟩
theorem dL_law_733 : decode cL_law 733 = .ok (.pop, 1) := by decide +kernel
theorem dL_law_734 : decode cL_law 734 = .ok (.aload_n 2, 1) := by decide +kernel
theorem dL_law_735 : decode cL_law 735 = .ok (.aload_n 0, 1) := by decide +kernel
theorem dL_law_736 : decode cL_law 736 = .ok (.iload_n 3, 1) := by decide +kernel
theorem dL_law_737 : decode cL_law 737 = .ok (.iconst 1, 1) := by decide +kernel
theorem dL_law_738 : decode cL_law 738 = .ok (.iadd, 1) := by decide +kernel
theorem dL_law_739 : decode cL_law 739 = .ok (.iaload, 1) := by decide +kernel
theorem dL_law_740 : decode cL_law 740 = .ok (.aload_n 0, 1) := by decide +kernel
theorem dL_law_741 : decode cL_law 741 = .ok (.iload_n 3, 1) := by decide +kernel
theorem dL_law_742 : decode cL_law 742 = .ok (.iconst 2, 1) := by decide +kernel
theorem dL_law_743 : decode cL_law 743 = .ok (.iadd, 1) := by decide +kernel
theorem dL_law_744 : decode cL_law 744 = .ok (.iaload, 1) := by decide +kernel
theorem dL_law_745 : decode cL_law 745 = .ok (.invokevirtual 97, 3) := by decide +kernel
theorem wd_852 : Cond.methodLink RL 97 yX10_lasts ∈ BG := BG_in (by decide +kernel) rfl
theorem wd_853 : Cond.code yX10_lasts cX10_lasts 3 (some .int) ∈ BG := BG_in (by decide +kernel) rfl
theorem wd_854 : Cond.instanceMethod yX10_lasts ∈ BG := BG_in (by decide +kernel) rfl
theorem wd_855 : Cond.selects RX10 yX10_lasts yX10_lasts ∈ BG := BG_in (by decide +kernel) rfl
theorem okV_X10_lasts : okV yX10_lasts cX10_lasts 3 (some .int) 2 := ⟨⟨wd_853, wd_497, by decide +kernel⟩, wd_854, wd_855⟩
theorem dL_law_748 : decode cL_law 748 = .ok (.pop, 1) := by decide +kernel
theorem dL_law_749 : decode cL_law 749 = .ok (.goto 266, 3) := by decide +kernel
theorem dL_law_752 : decode cL_law 752 = .ok (.aload_n 1, 1) := by decide +kernel
theorem dL_law_753 : decode cL_law 753 = .ok (.invokevirtual 98, 3) := by decide +kernel
theorem wd_856 : Cond.methodLink RL 98 yX9_wornOut ∈ BG := BG_in (by decide +kernel) rfl
theorem wd_857 : Cond.code yX9_wornOut cX9_wornOut 6 (some .int) ∈ BG := BG_in (by decide +kernel) rfl
theorem wd_858 : Cond.instanceMethod yX9_wornOut ∈ BG := BG_in (by decide +kernel) rfl
theorem wd_859 : Cond.selects RX9 yX9_wornOut yX9_wornOut ∈ BG := BG_in (by decide +kernel) rfl
theorem okV_X9_wornOut : okV yX9_wornOut cX9_wornOut 6 (some .int) 0 := ⟨⟨wd_857, wd_71, by decide +kernel⟩, wd_858, wd_859⟩
theorem dL_law_756 : decode cL_law 756 = .ok (.pop, 1) := by decide +kernel
theorem dL_law_757 : decode cL_law 757 = .ok (.aload_n 2, 1) := by decide +kernel
theorem dL_law_758 : decode cL_law 758 = .ok (.invokevirtual 101, 3) := by decide +kernel
theorem wd_860 : Cond.methodLink RL 101 yX10_wornOut ∈ BG := BG_in (by decide +kernel) rfl
theorem wd_861 : Cond.code yX10_wornOut cX10_wornOut 7 (some .int) ∈ BG := BG_in (by decide +kernel) rfl
theorem wd_862 : Cond.instanceMethod yX10_wornOut ∈ BG := BG_in (by decide +kernel) rfl
theorem wd_863 : Cond.selects RX10 yX10_wornOut yX10_wornOut ∈ BG := BG_in (by decide +kernel) rfl
theorem okV_X10_wornOut : okV yX10_wornOut cX10_wornOut 7 (some .int) 0 := ⟨⟨wd_861, wd_497, by decide +kernel⟩, wd_862, wd_863⟩
theorem dL_law_761 : decode cL_law 761 = .ok (.pop, 1) := by decide +kernel
theorem dL_law_762 : decode cL_law 762 = .ok (.goto 253, 3) := by decide +kernel
theorem dL_law_765 : decode cL_law 765 = .ok (.aload_n 1, 1) := by decide +kernel
theorem dL_law_766 : decode cL_law 766 = .ok (.aload_n 0, 1) := by decide +kernel
theorem dL_law_767 : decode cL_law 767 = .ok (.iload_n 3, 1) := by decide +kernel
theorem dL_law_768 : decode cL_law 768 = .ok (.iconst 1, 1) := by decide +kernel
theorem dL_law_769 : decode cL_law 769 = .ok (.iadd, 1) := by decide +kernel
theorem dL_law_770 : decode cL_law 770 = .ok (.iaload, 1) := by decide +kernel
theorem dL_law_771 : decode cL_law 771 = .ok (.invokevirtual 102, 3) := by decide +kernel
theorem wd_864 : Cond.methodLink RL 102 yX9_carried ∈ BG := BG_in (by decide +kernel) rfl
theorem wd_865 : Cond.code yX9_carried cX9_carried 5 (some .int) ∈ BG := BG_in (by decide +kernel) rfl
theorem wd_866 : Cond.instanceMethod yX9_carried ∈ BG := BG_in (by decide +kernel) rfl
theorem wd_867 : Cond.selects RX9 yX9_carried yX9_carried ∈ BG := BG_in (by decide +kernel) rfl
theorem okV_X9_carried : okV yX9_carried cX9_carried 5 (some .int) 1 := ⟨⟨wd_865, wd_71, by decide +kernel⟩, wd_866, wd_867⟩
theorem dL_law_774 : decode cL_law 774 = .ok (.pop, 1) := by decide +kernel
theorem dL_law_775 : decode cL_law 775 = .ok (.aload_n 2, 1) := by decide +kernel
theorem dL_law_776 : decode cL_law 776 = .ok (.aload_n 0, 1) := by decide +kernel
theorem dL_law_777 : decode cL_law 777 = .ok (.iload_n 3, 1) := by decide +kernel
theorem dL_law_778 : decode cL_law 778 = .ok (.iconst 1, 1) := by decide +kernel
theorem dL_law_779 : decode cL_law 779 = .ok (.iadd, 1) := by decide +kernel
theorem dL_law_780 : decode cL_law 780 = .ok (.iaload, 1) := by decide +kernel
theorem dL_law_781 : decode cL_law 781 = .ok (.invokevirtual 105, 3) := by decide +kernel
theorem wd_868 : Cond.methodLink RL 105 yX10_carried ∈ BG := BG_in (by decide +kernel) rfl
theorem wd_869 : Cond.code yX10_carried cX10_carried 7 (some .int) ∈ BG := BG_in (by decide +kernel) rfl
theorem wd_870 : Cond.instanceMethod yX10_carried ∈ BG := BG_in (by decide +kernel) rfl
theorem wd_871 : Cond.selects RX10 yX10_carried yX10_carried ∈ BG := BG_in (by decide +kernel) rfl
theorem okV_X10_carried : okV yX10_carried cX10_carried 7 (some .int) 1 := ⟨⟨wd_869, wd_497, by decide +kernel⟩, wd_870, wd_871⟩
theorem dL_law_784 : decode cL_law 784 = .ok (.pop, 1) := by decide +kernel
theorem dL_law_785 : decode cL_law 785 = .ok (.goto 230, 3) := by decide +kernel
theorem dL_law_788 : decode cL_law 788 = .ok (.aload_n 1, 1) := by decide +kernel
theorem dL_law_789 : decode cL_law 789 = .ok (.aload_n 0, 1) := by decide +kernel
theorem dL_law_790 : decode cL_law 790 = .ok (.iload_n 3, 1) := by decide +kernel
theorem dL_law_791 : decode cL_law 791 = .ok (.iconst 1, 1) := by decide +kernel
theorem dL_law_792 : decode cL_law 792 = .ok (.iadd, 1) := by decide +kernel
theorem dL_law_793 : decode cL_law 793 = .ok (.iaload, 1) := by decide +kernel
theorem dL_law_794 : decode cL_law 794 = .ok (.aload_n 0, 1) := by decide +kernel
theorem dL_law_795 : decode cL_law 795 = .ok (.iload_n 3, 1) := by decide +kernel
theorem dL_law_796 : decode cL_law 796 = .ok (.iconst 2, 1) := by decide +kernel
theorem dL_law_797 : decode cL_law 797 = .ok (.iadd, 1) := by decide +kernel
theorem dL_law_798 : decode cL_law 798 = .ok (.iaload, 1) := by decide +kernel
theorem dL_law_799 : decode cL_law 799 = .ok (.invokevirtual 106, 3) := by decide +kernel
theorem wd_872 : Cond.methodLink RL 106 yX9_hire ∈ BG := BG_in (by decide +kernel) rfl
theorem wd_873 : Cond.code yX9_hire cX9_hire 8 (some .int) ∈ BG := BG_in (by decide +kernel) rfl
theorem wd_874 : Cond.instanceMethod yX9_hire ∈ BG := BG_in (by decide +kernel) rfl
theorem wd_875 : Cond.selects RX9 yX9_hire yX9_hire ∈ BG := BG_in (by decide +kernel) rfl
theorem okV_X9_hire : okV yX9_hire cX9_hire 8 (some .int) 2 := ⟨⟨wd_873, wd_71, by decide +kernel⟩, wd_874, wd_875⟩
theorem dL_law_802 : decode cL_law 802 = .ok (.pop, 1) := by decide +kernel
theorem dL_law_803 : decode cL_law 803 = .ok (.aload_n 2, 1) := by decide +kernel
theorem dL_law_804 : decode cL_law 804 = .ok (.aload_n 0, 1) := by decide +kernel
theorem dL_law_805 : decode cL_law 805 = .ok (.iload_n 3, 1) := by decide +kernel
theorem dL_law_806 : decode cL_law 806 = .ok (.iconst 1, 1) := by decide +kernel
theorem dL_law_807 : decode cL_law 807 = .ok (.iadd, 1) := by decide +kernel
theorem dL_law_808 : decode cL_law 808 = .ok (.iaload, 1) := by decide +kernel
theorem dL_law_809 : decode cL_law 809 = .ok (.aload_n 0, 1) := by decide +kernel
theorem dL_law_810 : decode cL_law 810 = .ok (.iload_n 3, 1) := by decide +kernel
theorem dL_law_811 : decode cL_law 811 = .ok (.iconst 2, 1) := by decide +kernel
theorem dL_law_812 : decode cL_law 812 = .ok (.iadd, 1) := by decide +kernel
theorem dL_law_813 : decode cL_law 813 = .ok (.iaload, 1) := by decide +kernel
theorem dL_law_814 : decode cL_law 814 = .ok (.invokevirtual 109, 3) := by decide +kernel
theorem wd_876 : Cond.methodLink RL 109 yX10_hire ∈ BG := BG_in (by decide +kernel) rfl
theorem wd_877 : Cond.code yX10_hire cX10_hire 8 (some .int) ∈ BG := BG_in (by decide +kernel) rfl
theorem wd_878 : Cond.instanceMethod yX10_hire ∈ BG := BG_in (by decide +kernel) rfl
theorem wd_879 : Cond.selects RX10 yX10_hire yX10_hire ∈ BG := BG_in (by decide +kernel) rfl
theorem okV_X10_hire : okV yX10_hire cX10_hire 8 (some .int) 2 := ⟨⟨wd_877, wd_497, by decide +kernel⟩, wd_878, wd_879⟩
theorem dL_law_817 : decode cL_law 817 = .ok (.pop, 1) := by decide +kernel
theorem dL_law_818 : decode cL_law 818 = .ok (.goto 197, 3) := by decide +kernel
theorem dL_law_821 : decode cL_law 821 = .ok (.aload_n 1, 1) := by decide +kernel
theorem dL_law_822 : decode cL_law 822 = .ok (.aload_n 0, 1) := by decide +kernel
theorem dL_law_823 : decode cL_law 823 = .ok (.iload_n 3, 1) := by decide +kernel
theorem dL_law_824 : decode cL_law 824 = .ok (.iconst 1, 1) := by decide +kernel
theorem dL_law_825 : decode cL_law 825 = .ok (.iadd, 1) := by decide +kernel
theorem dL_law_826 : decode cL_law 826 = .ok (.iaload, 1) := by decide +kernel
theorem dL_law_827 : decode cL_law 827 = .ok (.aload_n 0, 1) := by decide +kernel
theorem dL_law_828 : decode cL_law 828 = .ok (.iload_n 3, 1) := by decide +kernel
theorem dL_law_829 : decode cL_law 829 = .ok (.iconst 2, 1) := by decide +kernel
theorem dL_law_830 : decode cL_law 830 = .ok (.iadd, 1) := by decide +kernel
theorem dL_law_831 : decode cL_law 831 = .ok (.iaload, 1) := by decide +kernel
theorem dL_law_832 : decode cL_law 832 = .ok (.aload_n 0, 1) := by decide +kernel
theorem dL_law_833 : decode cL_law 833 = .ok (.iload_n 3, 1) := by decide +kernel
theorem dL_law_834 : decode cL_law 834 = .ok (.iconst 3, 1) := by decide +kernel
theorem dL_law_835 : decode cL_law 835 = .ok (.iadd, 1) := by decide +kernel
theorem dL_law_836 : decode cL_law 836 = .ok (.iaload, 1) := by decide +kernel
theorem dL_law_837 : decode cL_law 837 = .ok (.invokevirtual 110, 3) := by decide +kernel
theorem wd_880 : Cond.methodLink RL 110 yX9_midstream ∈ BG := BG_in (by decide +kernel) rfl
theorem wd_881 : Cond.code yX9_midstream cX9_midstream 8 (some .int) ∈ BG := BG_in (by decide +kernel) rfl
theorem wd_882 : Cond.instanceMethod yX9_midstream ∈ BG := BG_in (by decide +kernel) rfl
theorem wd_883 : Cond.selects RX9 yX9_midstream yX9_midstream ∈ BG := BG_in (by decide +kernel) rfl
theorem okV_X9_midstream : okV yX9_midstream cX9_midstream 8 (some .int) 3 := ⟨⟨wd_881, wd_71, by decide +kernel⟩, wd_882, wd_883⟩
theorem dL_law_840 : decode cL_law 840 = .ok (.pop, 1) := by decide +kernel
theorem dL_law_841 : decode cL_law 841 = .ok (.aload_n 2, 1) := by decide +kernel
theorem dL_law_842 : decode cL_law 842 = .ok (.aload_n 0, 1) := by decide +kernel
theorem dL_law_843 : decode cL_law 843 = .ok (.iload_n 3, 1) := by decide +kernel
theorem dL_law_844 : decode cL_law 844 = .ok (.iconst 1, 1) := by decide +kernel
theorem dL_law_845 : decode cL_law 845 = .ok (.iadd, 1) := by decide +kernel
theorem dL_law_846 : decode cL_law 846 = .ok (.iaload, 1) := by decide +kernel
theorem dL_law_847 : decode cL_law 847 = .ok (.aload_n 0, 1) := by decide +kernel
theorem dL_law_848 : decode cL_law 848 = .ok (.iload_n 3, 1) := by decide +kernel
theorem dL_law_849 : decode cL_law 849 = .ok (.iconst 2, 1) := by decide +kernel
theorem dL_law_850 : decode cL_law 850 = .ok (.iadd, 1) := by decide +kernel
theorem dL_law_851 : decode cL_law 851 = .ok (.iaload, 1) := by decide +kernel
theorem dL_law_852 : decode cL_law 852 = .ok (.aload_n 0, 1) := by decide +kernel
theorem dL_law_853 : decode cL_law 853 = .ok (.iload_n 3, 1) := by decide +kernel
theorem dL_law_854 : decode cL_law 854 = .ok (.iconst 3, 1) := by decide +kernel
theorem dL_law_855 : decode cL_law 855 = .ok (.iadd, 1) := by decide +kernel
theorem dL_law_856 : decode cL_law 856 = .ok (.iaload, 1) := by decide +kernel
theorem dL_law_857 : decode cL_law 857 = .ok (.invokevirtual 113, 3) := by decide +kernel
theorem wd_884 : Cond.methodLink RL 113 yX10_midstream ∈ BG := BG_in (by decide +kernel) rfl
theorem wd_885 : Cond.code yX10_midstream cX10_midstream 8 (some .int) ∈ BG := BG_in (by decide +kernel) rfl
theorem wd_886 : Cond.instanceMethod yX10_midstream ∈ BG := BG_in (by decide +kernel) rfl
theorem wd_887 : Cond.selects RX10 yX10_midstream yX10_midstream ∈ BG := BG_in (by decide +kernel) rfl
theorem okV_X10_midstream : okV yX10_midstream cX10_midstream 8 (some .int) 3 := ⟨⟨wd_885, wd_497, by decide +kernel⟩, wd_886, wd_887⟩
theorem dL_law_860 : decode cL_law 860 = .ok (.pop, 1) := by decide +kernel
theorem dL_law_861 : decode cL_law 861 = .ok (.goto 154, 3) := by decide +kernel
