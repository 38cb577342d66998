section
theorem dL_law_620 : decode cL_law 620 = .ok (.aload_n 1, 1) := fq_43 fk_cL_law_38 12 rfl rfl
theorem dL_law_621 : decode cL_law 621 = .ok (.aload_n 0, 1) := fq_42 fk_cL_law_38 13 rfl rfl
theorem dL_law_622 : decode cL_law 622 = .ok (.iload_n 3, 1) := fq_29 fk_cL_law_38 14 rfl rfl
theorem dL_law_623 : decode cL_law 623 = .ok (.iconst 1, 1) := fq_4 fk_cL_law_38 15 rfl rfl
theorem fk_cL_law_39 : fq_ck cL_law 624 [96, 46, 42, 29, 5, 96, 46, 182, 0, 82, 87, 44, 42, 29, 4, 96, 46, 42] := fq_of fW_cL_law 39 rfl rfl
theorem dL_law_624 : decode cL_law 624 = .ok (.iadd, 1) := fq_96 fk_cL_law_39 0 rfl rfl
theorem dL_law_625 : decode cL_law 625 = .ok (.iaload, 1) := fq_46 fk_cL_law_39 1 rfl rfl
theorem dL_law_626 : decode cL_law 626 = .ok (.aload_n 0, 1) := fq_42 fk_cL_law_39 2 rfl rfl
theorem dL_law_627 : decode cL_law 627 = .ok (.iload_n 3, 1) := fq_29 fk_cL_law_39 3 rfl rfl
theorem dL_law_628 : decode cL_law 628 = .ok (.iconst 2, 1) := fq_5 fk_cL_law_39 4 rfl rfl
theorem dL_law_629 : decode cL_law 629 = .ok (.iadd, 1) := fq_96 fk_cL_law_39 5 rfl rfl
theorem dL_law_630 : decode cL_law 630 = .ok (.iaload, 1) := fq_46 fk_cL_law_39 6 rfl rfl
theorem dL_law_631 : decode cL_law 631 = .ok (.invokevirtual 82, 3) := fq_182 fk_cL_law_39 7 rfl rfl rfl rfl rfl
theorem wd_824 : Cond.methodLink RL 82 yX9_who ∈ BG := BG_at3 141 (by decide +kernel) rfl
theorem wd_825 : Cond.code yX9_who cX9_who 5 (some .int) ∈ BG := BG_at3 144 rfl rfl
theorem wd_826 : Cond.instanceMethod yX9_who ∈ BG := BG_at3 142 (by decide +kernel) rfl
theorem wd_827 : Cond.selects RX9 yX9_who yX9_who ∈ BG := BG_at3 143 (by decide +kernel) rfl
theorem okV_X9_who : okV yX9_who cX9_who 5 (some .int) 2 := ⟨⟨wd_825, wd_71, by decide +kernel⟩, wd_826, wd_827⟩
theorem dL_law_634 : decode cL_law 634 = .ok (.pop, 1) := fq_87 fk_cL_law_39 10 rfl rfl
theorem dL_law_635 : decode cL_law 635 = .ok (.aload_n 2, 1) := fq_44 fk_cL_law_39 11 rfl rfl
theorem dL_law_636 : decode cL_law 636 = .ok (.aload_n 0, 1) := fq_42 fk_cL_law_39 12 rfl rfl
theorem dL_law_637 : decode cL_law 637 = .ok (.iload_n 3, 1) := fq_29 fk_cL_law_39 13 rfl rfl
theorem dL_law_638 : decode cL_law 638 = .ok (.iconst 1, 1) := fq_4 fk_cL_law_39 14 rfl rfl
theorem dL_law_639 : decode cL_law 639 = .ok (.iadd, 1) := fq_96 fk_cL_law_39 15 rfl rfl
theorem fk_cL_law_40 : fq_ck cL_law 640 [46, 42, 29, 5, 96, 46, 182, 0, 85, 87, 167, 1, 109, 43, 42, 29, 4, 96] := fq_of fW_cL_law 40 rfl rfl
theorem dL_law_640 : decode cL_law 640 = .ok (.iaload, 1) := fq_46 fk_cL_law_40 0 rfl rfl
theorem dL_law_641 : decode cL_law 641 = .ok (.aload_n 0, 1) := fq_42 fk_cL_law_40 1 rfl rfl
theorem dL_law_642 : decode cL_law 642 = .ok (.iload_n 3, 1) := fq_29 fk_cL_law_40 2 rfl rfl
theorem dL_law_643 : decode cL_law 643 = .ok (.iconst 2, 1) := fq_5 fk_cL_law_40 3 rfl rfl
theorem dL_law_644 : decode cL_law 644 = .ok (.iadd, 1) := fq_96 fk_cL_law_40 4 rfl rfl
theorem dL_law_645 : decode cL_law 645 = .ok (.iaload, 1) := fq_46 fk_cL_law_40 5 rfl rfl
theorem dL_law_646 : decode cL_law 646 = .ok (.invokevirtual 85, 3) := fq_182 fk_cL_law_40 6 rfl rfl rfl rfl rfl
theorem wd_828 : Cond.methodLink RL 85 yX10_who ∈ BG := BG_at5 157 (by decide +kernel) rfl
theorem wd_829 : Cond.code yX10_who cX10_who 9 (some .int) ∈ BG := BG_at5 160 rfl rfl
theorem wd_830 : Cond.instanceMethod yX10_who ∈ BG := BG_at5 158 (by decide +kernel) rfl
theorem wd_831 : Cond.selects RX10 yX10_who yX10_who ∈ BG := BG_at5 159 (by decide +kernel) rfl
theorem okV_X10_who : okV yX10_who cX10_who 9 (some .int) 2 := ⟨⟨wd_829, wd_497, by decide +kernel⟩, wd_830, wd_831⟩
theorem dL_law_649 : decode cL_law 649 = .ok (.pop, 1) := fq_87 fk_cL_law_40 9 rfl rfl
theorem dL_law_650 : decode cL_law 650 = .ok (.goto 365, 3) := fq_167 fk_cL_law_40 10 rfl rfl rfl rfl rfl
theorem dL_law_653 : decode cL_law 653 = .ok (.aload_n 1, 1) := fq_43 fk_cL_law_40 13 rfl rfl
theorem dL_law_654 : decode cL_law 654 = .ok (.aload_n 0, 1) := fq_42 fk_cL_law_40 14 rfl rfl
theorem dL_law_655 : decode cL_law 655 = .ok (.iload_n 3, 1) := fq_29 fk_cL_law_40 15 rfl rfl
theorem fk_cL_law_41 : fq_ck cL_law 656 [4, 96, 46, 182, 0, 86, 87, 44, 42, 29, 4, 96, 46, 182, 0, 89, 87, 167] := fq_of fW_cL_law 41 rfl rfl
theorem dL_law_656 : decode cL_law 656 = .ok (.iconst 1, 1) := fq_4 fk_cL_law_41 0 rfl rfl
theorem dL_law_657 : decode cL_law 657 = .ok (.iadd, 1) := fq_96 fk_cL_law_41 1 rfl rfl
theorem dL_law_658 : decode cL_law 658 = .ok (.iaload, 1) := fq_46 fk_cL_law_41 2 rfl rfl
theorem dL_law_659 : decode cL_law 659 = .ok (.invokevirtual 86, 3) := fq_182 fk_cL_law_41 3 rfl rfl rfl rfl rfl
theorem wd_832 : Cond.methodLink RL 86 yX9_order ∈ BG := BG_at3 177 (by decide +kernel) rfl
theorem wd_833 : Cond.code yX9_order cX9_order 3 (some .int) ∈ BG := BG_at3 180 rfl rfl
theorem wd_834 : Cond.instanceMethod yX9_order ∈ BG := BG_at3 178 (by decide +kernel) rfl
theorem wd_835 : Cond.selects RX9 yX9_order yX9_order ∈ BG := BG_at3 179 (by decide +kernel) rfl
theorem okV_X9_order : okV yX9_order cX9_order 3 (some .int) 1 := ⟨⟨wd_833, wd_71, by decide +kernel⟩, wd_834, wd_835⟩
theorem dL_law_662 : decode cL_law 662 = .ok (.pop, 1) := fq_87 fk_cL_law_41 6 rfl rfl
theorem dL_law_663 : decode cL_law 663 = .ok (.aload_n 2, 1) := fq_44 fk_cL_law_41 7 rfl rfl
theorem dL_law_664 : decode cL_law 664 = .ok (.aload_n 0, 1) := fq_42 fk_cL_law_41 8 rfl rfl
theorem dL_law_665 : decode cL_law 665 = .ok (.iload_n 3, 1) := fq_29 fk_cL_law_41 9 rfl rfl
theorem dL_law_666 : decode cL_law 666 = .ok (.iconst 1, 1) := fq_4 fk_cL_law_41 10 rfl rfl
theorem dL_law_667 : decode cL_law 667 = .ok (.iadd, 1) := fq_96 fk_cL_law_41 11 rfl rfl
theorem dL_law_668 : decode cL_law 668 = .ok (.iaload, 1) := fq_46 fk_cL_law_41 12 rfl rfl
theorem dL_law_669 : decode cL_law 669 = .ok (.invokevirtual 89, 3) := fq_182 fk_cL_law_41 13 rfl rfl rfl rfl rfl
theorem wd_836 : Cond.methodLink RL 89 yX10_order ∈ BG := BG_at5 166 (by decide +kernel) rfl
theorem wd_837 : Cond.code yX10_order cX10_order 2 (some .int) ∈ BG := BG_at5 169 rfl rfl
theorem wd_838 : Cond.instanceMethod yX10_order ∈ BG := BG_at5 167 (by decide +kernel) rfl
theorem wd_839 : Cond.selects RX10 yX10_order yX10_order ∈ BG := BG_at5 168 (by decide +kernel) rfl
theorem okV_X10_order : okV yX10_order cX10_order 2 (some .int) 1 := ⟨⟨wd_837, wd_497, by decide +kernel⟩, wd_838, wd_839⟩
theorem fk_cL_law_42 : fq_ck cL_law 672 [87, 167, 1, 86, 43, 42, 29, 4, 96, 46, 42, 29, 5, 96, 46, 42, 29, 6] := fq_of fW_cL_law 42 rfl rfl
theorem dL_law_672 : decode cL_law 672 = .ok (.pop, 1) := fq_87 fk_cL_law_42 0 rfl rfl
theorem dL_law_673 : decode cL_law 673 = .ok (.goto 342, 3) := fq_167 fk_cL_law_42 1 rfl rfl rfl rfl rfl
theorem dL_law_676 : decode cL_law 676 = .ok (.aload_n 1, 1) := fq_43 fk_cL_law_42 4 rfl rfl
theorem dL_law_677 : decode cL_law 677 = .ok (.aload_n 0, 1) := fq_42 fk_cL_law_42 5 rfl rfl
theorem dL_law_678 : decode cL_law 678 = .ok (.iload_n 3, 1) := fq_29 fk_cL_law_42 6 rfl rfl
theorem dL_law_679 : decode cL_law 679 = .ok (.iconst 1, 1) := fq_4 fk_cL_law_42 7 rfl rfl
theorem dL_law_680 : decode cL_law 680 = .ok (.iadd, 1) := fq_96 fk_cL_law_42 8 rfl rfl
theorem dL_law_681 : decode cL_law 681 = .ok (.iaload, 1) := fq_46 fk_cL_law_42 9 rfl rfl
theorem dL_law_682 : decode cL_law 682 = .ok (.aload_n 0, 1) := fq_42 fk_cL_law_42 10 rfl rfl
theorem dL_law_683 : decode cL_law 683 = .ok (.iload_n 3, 1) := fq_29 fk_cL_law_42 11 rfl rfl
theorem dL_law_684 : decode cL_law 684 = .ok (.iconst 2, 1) := fq_5 fk_cL_law_42 12 rfl rfl
theorem dL_law_685 : decode cL_law 685 = .ok (.iadd, 1) := fq_96 fk_cL_law_42 13 rfl rfl
theorem dL_law_686 : decode cL_law 686 = .ok (.iaload, 1) := fq_46 fk_cL_law_42 14 rfl rfl
theorem dL_law_687 : decode cL_law 687 = .ok (.aload_n 0, 1) := fq_42 fk_cL_law_42 15 rfl rfl
theorem fk_cL_law_43 : fq_ck cL_law 688 [29, 6, 96, 46, 182, 0, 90, 87, 44, 42, 29, 4, 96, 46, 42, 29, 5, 96] := fq_of fW_cL_law 43 rfl rfl
theorem dL_law_688 : decode cL_law 688 = .ok (.iload_n 3, 1) := fq_29 fk_cL_law_43 0 rfl rfl
theorem dL_law_689 : decode cL_law 689 = .ok (.iconst 3, 1) := fq_6 fk_cL_law_43 1 rfl rfl
theorem dL_law_690 : decode cL_law 690 = .ok (.iadd, 1) := fq_96 fk_cL_law_43 2 rfl rfl
theorem dL_law_691 : decode cL_law 691 = .ok (.iaload, 1) := fq_46 fk_cL_law_43 3 rfl rfl
theorem dL_law_692 : decode cL_law 692 = .ok (.invokevirtual 90, 3) := fq_182 fk_cL_law_43 4 rfl rfl rfl rfl rfl
theorem wd_840 : Cond.methodLink RL 90 yX9_toldHer ∈ BG := BG_at3 214 (by decide +kernel) rfl
theorem wd_841 : Cond.code yX9_toldHer cX9_toldHer 8 (some .int) ∈ BG := BG_at3 217 rfl rfl
theorem wd_842 : Cond.instanceMethod yX9_toldHer ∈ BG := BG_at3 215 (by decide +kernel) rfl
theorem wd_843 : Cond.selects RX9 yX9_toldHer yX9_toldHer ∈ BG := BG_at3 216 (by decide +kernel) rfl
theorem okV_X9_toldHer : okV yX9_toldHer cX9_toldHer 8 (some .int) 3 := ⟨⟨wd_841, wd_71, by decide +kernel⟩, wd_842, wd_843⟩
theorem dL_law_695 : decode cL_law 695 = .ok (.pop, 1) := fq_87 fk_cL_law_43 7 rfl rfl
theorem dL_law_696 : decode cL_law 696 = .ok (.aload_n 2, 1) := fq_44 fk_cL_law_43 8 rfl rfl
theorem dL_law_697 : decode cL_law 697 = .ok (.aload_n 0, 1) := fq_42 fk_cL_law_43 9 rfl rfl
theorem dL_law_698 : decode cL_law 698 = .ok (.iload_n 3, 1) := fq_29 fk_cL_law_43 10 rfl rfl
theorem dL_law_699 : decode cL_law 699 = .ok (.iconst 1, 1) := fq_4 fk_cL_law_43 11 rfl rfl
theorem dL_law_700 : decode cL_law 700 = .ok (.iadd, 1) := fq_96 fk_cL_law_43 12 rfl rfl
theorem dL_law_701 : decode cL_law 701 = .ok (.iaload, 1) := fq_46 fk_cL_law_43 13 rfl rfl
theorem dL_law_702 : decode cL_law 702 = .ok (.aload_n 0, 1) := fq_42 fk_cL_law_43 14 rfl rfl
theorem dL_law_703 : decode cL_law 703 = .ok (.iload_n 3, 1) := fq_29 fk_cL_law_43 15 rfl rfl
theorem fk_cL_law_44 : fq_ck cL_law 704 [5, 96, 46, 42, 29, 6, 96, 46, 182, 0, 93, 87, 167, 1, 43, 43, 42, 29] := fq_of fW_cL_law 44 rfl rfl
theorem dL_law_704 : decode cL_law 704 = .ok (.iconst 2, 1) := fq_5 fk_cL_law_44 0 rfl rfl
theorem dL_law_705 : decode cL_law 705 = .ok (.iadd, 1) := fq_96 fk_cL_law_44 1 rfl rfl
theorem dL_law_706 : decode cL_law 706 = .ok (.iaload, 1) := fq_46 fk_cL_law_44 2 rfl rfl
theorem dL_law_707 : decode cL_law 707 = .ok (.aload_n 0, 1) := fq_42 fk_cL_law_44 3 rfl rfl
theorem dL_law_708 : decode cL_law 708 = .ok (.iload_n 3, 1) := fq_29 fk_cL_law_44 4 rfl rfl
theorem dL_law_709 : decode cL_law 709 = .ok (.iconst 3, 1) := fq_6 fk_cL_law_44 5 rfl rfl
theorem dL_law_710 : decode cL_law 710 = .ok (.iadd, 1) := fq_96 fk_cL_law_44 6 rfl rfl
theorem dL_law_711 : decode cL_law 711 = .ok (.iaload, 1) := fq_46 fk_cL_law_44 7 rfl rfl
theorem dL_law_712 : decode cL_law 712 = .ok (.invokevirtual 93, 3) := fq_182 fk_cL_law_44 8 rfl rfl rfl rfl rfl
theorem wd_844 : Cond.methodLink RL 93 yX10_toldHer ∈ BG := BG_at5 174 (by decide +kernel) rfl
theorem wd_845 : Cond.code yX10_toldHer cX10_toldHer 9 (some .int) ∈ BG := BG_at5 177 rfl rfl
theorem wd_846 : Cond.instanceMethod yX10_toldHer ∈ BG := BG_at5 175 (by decide +kernel) rfl
theorem wd_847 : Cond.selects RX10 yX10_toldHer yX10_toldHer ∈ BG := BG_at5 176 (by decide +kernel) rfl
theorem okV_X10_toldHer : okV yX10_toldHer cX10_toldHer 9 (some .int) 3 := ⟨⟨wd_845, wd_497, by decide +kernel⟩, wd_846, wd_847⟩
theorem dL_law_715 : decode cL_law 715 = .ok (.pop, 1) := fq_87 fk_cL_law_44 11 rfl rfl
theorem dL_law_716 : decode cL_law 716 = .ok (.goto 299, 3) := fq_167 fk_cL_law_44 12 rfl rfl rfl rfl rfl
theorem dL_law_719 : decode cL_law 719 = .ok (.aload_n 1, 1) := fq_43 fk_cL_law_44 15 rfl rfl
theorem fk_cL_law_45 : fq_ck cL_law 720 [42, 29, 4, 96, 46, 42, 29, 5, 96, 46, 182, 0, 94, 87, 44, 42, 29, 4] := fq_of fW_cL_law 45 rfl rfl
theorem dL_law_720 : decode cL_law 720 = .ok (.aload_n 0, 1) := fq_42 fk_cL_law_45 0 rfl rfl
theorem dL_law_721 : decode cL_law 721 = .ok (.iload_n 3, 1) := fq_29 fk_cL_law_45 1 rfl rfl
theorem dL_law_722 : decode cL_law 722 = .ok (.iconst 1, 1) := fq_4 fk_cL_law_45 2 rfl rfl
theorem dL_law_723 : decode cL_law 723 = .ok (.iadd, 1) := fq_96 fk_cL_law_45 3 rfl rfl
theorem dL_law_724 : decode cL_law 724 = .ok (.iaload, 1) := fq_46 fk_cL_law_45 4 rfl rfl
theorem dL_law_725 : decode cL_law 725 = .ok (.aload_n 0, 1) := fq_42 fk_cL_law_45 5 rfl rfl
theorem dL_law_726 : decode cL_law 726 = .ok (.iload_n 3, 1) := fq_29 fk_cL_law_45 6 rfl rfl
theorem dL_law_727 : decode cL_law 727 = .ok (.iconst 2, 1) := fq_5 fk_cL_law_45 7 rfl rfl
theorem dL_law_728 : decode cL_law 728 = .ok (.iadd, 1) := fq_96 fk_cL_law_45 8 rfl rfl
theorem dL_law_729 : decode cL_law 729 = .ok (.iaload, 1) := fq_46 fk_cL_law_45 9 rfl rfl
theorem dL_law_730 : decode cL_law 730 = .ok (.invokevirtual 94, 3) := fq_182 fk_cL_law_45 10 rfl rfl rfl rfl rfl
theorem wd_848 : Cond.methodLink RL 94 yX9_lasts ∈ BG := BG_at3 218 (by decide +kernel) rfl
theorem wd_849 : Cond.code yX9_lasts cX9_lasts 3 (some .int) ∈ BG := BG_at3 221 rfl rfl
theorem wd_850 : Cond.instanceMethod yX9_lasts ∈ BG := BG_at3 219 (by decide +kernel) rfl
theorem wd_851 : Cond.selects RX9 yX9_lasts yX9_lasts ∈ BG := BG_at3 220 (by decide +kernel) rfl
theorem okV_X9_lasts : okV yX9_lasts cX9_lasts 3 (some .int) 2 := ⟨⟨wd_849, wd_71, by decide +kernel⟩, wd_850, wd_851⟩
theorem dL_law_733 : decode cL_law 733 = .ok (.pop, 1) := fq_87 fk_cL_law_45 13 rfl rfl
theorem dL_law_734 : decode cL_law 734 = .ok (.aload_n 2, 1) := fq_44 fk_cL_law_45 14 rfl rfl
theorem dL_law_735 : decode cL_law 735 = .ok (.aload_n 0, 1) := fq_42 fk_cL_law_45 15 rfl rfl
theorem fk_cL_law_46 : fq_ck cL_law 736 [29, 4, 96, 46, 42, 29, 5, 96, 46, 182, 0, 97, 87, 167, 1, 10, 43, 182] := fq_of fW_cL_law 46 rfl rfl
theorem dL_law_736 : decode cL_law 736 = .ok (.iload_n 3, 1) := fq_29 fk_cL_law_46 0 rfl rfl
theorem dL_law_737 : decode cL_law 737 = .ok (.iconst 1, 1) := fq_4 fk_cL_law_46 1 rfl rfl
theorem dL_law_738 : decode cL_law 738 = .ok (.iadd, 1) := fq_96 fk_cL_law_46 2 rfl rfl
theorem dL_law_739 : decode cL_law 739 = .ok (.iaload, 1) := fq_46 fk_cL_law_46 3 rfl rfl
theorem dL_law_740 : decode cL_law 740 = .ok (.aload_n 0, 1) := fq_42 fk_cL_law_46 4 rfl rfl
theorem dL_law_741 : decode cL_law 741 = .ok (.iload_n 3, 1) := fq_29 fk_cL_law_46 5 rfl rfl
theorem dL_law_742 : decode cL_law 742 = .ok (.iconst 2, 1) := fq_5 fk_cL_law_46 6 rfl rfl
theorem dL_law_743 : decode cL_law 743 = .ok (.iadd, 1) := fq_96 fk_cL_law_46 7 rfl rfl
theorem dL_law_744 : decode cL_law 744 = .ok (.iaload, 1) := fq_46 fk_cL_law_46 8 rfl rfl
theorem dL_law_745 : decode cL_law 745 = .ok (.invokevirtual 97, 3) := fq_182 fk_cL_law_46 9 rfl rfl rfl rfl rfl
theorem wd_852 : Cond.methodLink RL 97 yX10_lasts ∈ BG := BG_at5 179 (by decide +kernel) rfl
theorem wd_853 : Cond.code yX10_lasts cX10_lasts 3 (some .int) ∈ BG := BG_at5 182 rfl rfl
theorem wd_854 : Cond.instanceMethod yX10_lasts ∈ BG := BG_at5 180 (by decide +kernel) rfl
theorem wd_855 : Cond.selects RX10 yX10_lasts yX10_lasts ∈ BG := BG_at5 181 (by decide +kernel) rfl
theorem okV_X10_lasts : okV yX10_lasts cX10_lasts 3 (some .int) 2 := ⟨⟨wd_853, wd_497, by decide +kernel⟩, wd_854, wd_855⟩
theorem dL_law_748 : decode cL_law 748 = .ok (.pop, 1) := fq_87 fk_cL_law_46 12 rfl rfl
theorem dL_law_749 : decode cL_law 749 = .ok (.goto 266, 3) := fq_167 fk_cL_law_46 13 rfl rfl rfl rfl rfl
theorem fk_cL_law_47 : fq_ck cL_law 752 [43, 182, 0, 98, 87, 44, 182, 0, 101, 87, 167, 0, 253, 43, 42, 29, 4, 96] := fq_of fW_cL_law 47 rfl rfl
theorem dL_law_752 : decode cL_law 752 = .ok (.aload_n 1, 1) := fq_43 fk_cL_law_47 0 rfl rfl
theorem dL_law_753 : decode cL_law 753 = .ok (.invokevirtual 98, 3) := fq_182 fk_cL_law_47 1 rfl rfl rfl rfl rfl
theorem wd_856 : Cond.methodLink RL 98 yX9_wornOut ∈ BG := BG_at3 226 (by decide +kernel) rfl
theorem wd_857 : Cond.code yX9_wornOut cX9_wornOut 6 (some .int) ∈ BG := BG_at3 229 rfl rfl
theorem wd_858 : Cond.instanceMethod yX9_wornOut ∈ BG := BG_at3 227 (by decide +kernel) rfl
theorem wd_859 : Cond.selects RX9 yX9_wornOut yX9_wornOut ∈ BG := BG_at3 228 (by decide +kernel) rfl
theorem okV_X9_wornOut : okV yX9_wornOut cX9_wornOut 6 (some .int) 0 := ⟨⟨wd_857, wd_71, by decide +kernel⟩, wd_858, wd_859⟩
theorem dL_law_756 : decode cL_law 756 = .ok (.pop, 1) := fq_87 fk_cL_law_47 4 rfl rfl
theorem dL_law_757 : decode cL_law 757 = .ok (.aload_n 2, 1) := fq_44 fk_cL_law_47 5 rfl rfl
theorem dL_law_758 : decode cL_law 758 = .ok (.invokevirtual 101, 3) := fq_182 fk_cL_law_47 6 rfl rfl rfl rfl rfl
theorem wd_860 : Cond.methodLink RL 101 yX10_wornOut ∈ BG := BG_at5 187 (by decide +kernel) rfl
theorem wd_861 : Cond.code yX10_wornOut cX10_wornOut 7 (some .int) ∈ BG := BG_at5 190 rfl rfl
theorem wd_862 : Cond.instanceMethod yX10_wornOut ∈ BG := BG_at5 188 (by decide +kernel) rfl
theorem wd_863 : Cond.selects RX10 yX10_wornOut yX10_wornOut ∈ BG := BG_at5 189 (by decide +kernel) rfl
theorem okV_X10_wornOut : okV yX10_wornOut cX10_wornOut 7 (some .int) 0 := ⟨⟨wd_861, wd_497, by decide +kernel⟩, wd_862, wd_863⟩
theorem dL_law_761 : decode cL_law 761 = .ok (.pop, 1) := fq_87 fk_cL_law_47 9 rfl rfl
theorem dL_law_762 : decode cL_law 762 = .ok (.goto 253, 3) := fq_167 fk_cL_law_47 10 rfl rfl rfl rfl rfl
theorem dL_law_765 : decode cL_law 765 = .ok (.aload_n 1, 1) := fq_43 fk_cL_law_47 13 rfl rfl
theorem dL_law_766 : decode cL_law 766 = .ok (.aload_n 0, 1) := fq_42 fk_cL_law_47 14 rfl rfl
theorem dL_law_767 : decode cL_law 767 = .ok (.iload_n 3, 1) := fq_29 fk_cL_law_47 15 rfl rfl
theorem fk_cL_law_48 : fq_ck cL_law 768 [4, 96, 46, 182, 0, 102, 87, 44, 42, 29, 4, 96, 46, 182, 0, 105, 87, 167] := fq_of fW_cL_law 48 rfl rfl
theorem dL_law_768 : decode cL_law 768 = .ok (.iconst 1, 1) := fq_4 fk_cL_law_48 0 rfl rfl
theorem dL_law_769 : decode cL_law 769 = .ok (.iadd, 1) := fq_96 fk_cL_law_48 1 rfl rfl
theorem dL_law_770 : decode cL_law 770 = .ok (.iaload, 1) := fq_46 fk_cL_law_48 2 rfl rfl
theorem dL_law_771 : decode cL_law 771 = .ok (.invokevirtual 102, 3) := fq_182 fk_cL_law_48 3 rfl rfl rfl rfl rfl
theorem wd_864 : Cond.methodLink RL 102 yX9_carried ∈ BG := BG_at3 231 (by decide +kernel) rfl
theorem wd_865 : Cond.code yX9_carried cX9_carried 5 (some .int) ∈ BG := BG_at3 234 rfl rfl
theorem wd_866 : Cond.instanceMethod yX9_carried ∈ BG := BG_at3 232 (by decide +kernel) rfl
theorem wd_867 : Cond.selects RX9 yX9_carried yX9_carried ∈ BG := BG_at3 233 (by decide +kernel) rfl
theorem okV_X9_carried : okV yX9_carried cX9_carried 5 (some .int) 1 := ⟨⟨wd_865, wd_71, by decide +kernel⟩, wd_866, wd_867⟩
theorem dL_law_774 : decode cL_law 774 = .ok (.pop, 1) := fq_87 fk_cL_law_48 6 rfl rfl
theorem dL_law_775 : decode cL_law 775 = .ok (.aload_n 2, 1) := fq_44 fk_cL_law_48 7 rfl rfl
theorem dL_law_776 : decode cL_law 776 = .ok (.aload_n 0, 1) := fq_42 fk_cL_law_48 8 rfl rfl
theorem dL_law_777 : decode cL_law 777 = .ok (.iload_n 3, 1) := fq_29 fk_cL_law_48 9 rfl rfl
theorem dL_law_778 : decode cL_law 778 = .ok (.iconst 1, 1) := fq_4 fk_cL_law_48 10 rfl rfl
theorem dL_law_779 : decode cL_law 779 = .ok (.iadd, 1) := fq_96 fk_cL_law_48 11 rfl rfl
theorem dL_law_780 : decode cL_law 780 = .ok (.iaload, 1) := fq_46 fk_cL_law_48 12 rfl rfl
theorem dL_law_781 : decode cL_law 781 = .ok (.invokevirtual 105, 3) := fq_182 fk_cL_law_48 13 rfl rfl rfl rfl rfl
theorem wd_868 : Cond.methodLink RL 105 yX10_carried ∈ BG := BG_at5 191 (by decide +kernel) rfl
theorem wd_869 : Cond.code yX10_carried cX10_carried 7 (some .int) ∈ BG := BG_at5 194 rfl rfl
theorem wd_870 : Cond.instanceMethod yX10_carried ∈ BG := BG_at5 192 (by decide +kernel) rfl
theorem wd_871 : Cond.selects RX10 yX10_carried yX10_carried ∈ BG := BG_at5 193 (by decide +kernel) rfl
theorem okV_X10_carried : okV yX10_carried cX10_carried 7 (some .int) 1 := ⟨⟨wd_869, wd_497, by decide +kernel⟩, wd_870, wd_871⟩
theorem fk_cL_law_49 : fq_ck cL_law 784 [87, 167, 0, 230, 43, 42, 29, 4, 96, 46, 42, 29, 5, 96, 46, 182, 0, 106] := fq_of fW_cL_law 49 rfl rfl
theorem dL_law_784 : decode cL_law 784 = .ok (.pop, 1) := fq_87 fk_cL_law_49 0 rfl rfl
theorem dL_law_785 : decode cL_law 785 = .ok (.goto 230, 3) := fq_167 fk_cL_law_49 1 rfl rfl rfl rfl rfl
theorem dL_law_788 : decode cL_law 788 = .ok (.aload_n 1, 1) := fq_43 fk_cL_law_49 4 rfl rfl
theorem dL_law_789 : decode cL_law 789 = .ok (.aload_n 0, 1) := fq_42 fk_cL_law_49 5 rfl rfl
theorem dL_law_790 : decode cL_law 790 = .ok (.iload_n 3, 1) := fq_29 fk_cL_law_49 6 rfl rfl
theorem dL_law_791 : decode cL_law 791 = .ok (.iconst 1, 1) := fq_4 fk_cL_law_49 7 rfl rfl
theorem dL_law_792 : decode cL_law 792 = .ok (.iadd, 1) := fq_96 fk_cL_law_49 8 rfl rfl
theorem dL_law_793 : decode cL_law 793 = .ok (.iaload, 1) := fq_46 fk_cL_law_49 9 rfl rfl
theorem dL_law_794 : decode cL_law 794 = .ok (.aload_n 0, 1) := fq_42 fk_cL_law_49 10 rfl rfl
theorem dL_law_795 : decode cL_law 795 = .ok (.iload_n 3, 1) := fq_29 fk_cL_law_49 11 rfl rfl
theorem dL_law_796 : decode cL_law 796 = .ok (.iconst 2, 1) := fq_5 fk_cL_law_49 12 rfl rfl
theorem dL_law_797 : decode cL_law 797 = .ok (.iadd, 1) := fq_96 fk_cL_law_49 13 rfl rfl
theorem dL_law_798 : decode cL_law 798 = .ok (.iaload, 1) := fq_46 fk_cL_law_49 14 rfl rfl
theorem dL_law_799 : decode cL_law 799 = .ok (.invokevirtual 106, 3) := fq_182 fk_cL_law_49 15 rfl rfl rfl rfl rfl
theorem wd_872 : Cond.methodLink RL 106 yX9_hire ∈ BG := BG_at3 236 (by decide +kernel) rfl
theorem wd_873 : Cond.code yX9_hire cX9_hire 8 (some .int) ∈ BG := BG_at3 239 rfl rfl
theorem wd_874 : Cond.instanceMethod yX9_hire ∈ BG := BG_at3 237 (by decide +kernel) rfl
theorem wd_875 : Cond.selects RX9 yX9_hire yX9_hire ∈ BG := BG_at3 238 (by decide +kernel) rfl
theorem okV_X9_hire : okV yX9_hire cX9_hire 8 (some .int) 2 := ⟨⟨wd_873, wd_71, by decide +kernel⟩, wd_874, wd_875⟩
theorem fk_cL_law_50 : fq_ck cL_law 800 [0, 106, 87, 44, 42, 29, 4, 96, 46, 42, 29, 5, 96, 46, 182, 0, 109, 87] := fq_of fW_cL_law 50 rfl rfl
theorem dL_law_802 : decode cL_law 802 = .ok (.pop, 1) := fq_87 fk_cL_law_50 2 rfl rfl
theorem dL_law_803 : decode cL_law 803 = .ok (.aload_n 2, 1) := fq_44 fk_cL_law_50 3 rfl rfl
theorem dL_law_804 : decode cL_law 804 = .ok (.aload_n 0, 1) := fq_42 fk_cL_law_50 4 rfl rfl
theorem dL_law_805 : decode cL_law 805 = .ok (.iload_n 3, 1) := fq_29 fk_cL_law_50 5 rfl rfl
theorem dL_law_806 : decode cL_law 806 = .ok (.iconst 1, 1) := fq_4 fk_cL_law_50 6 rfl rfl
theorem dL_law_807 : decode cL_law 807 = .ok (.iadd, 1) := fq_96 fk_cL_law_50 7 rfl rfl
theorem dL_law_808 : decode cL_law 808 = .ok (.iaload, 1) := fq_46 fk_cL_law_50 8 rfl rfl
theorem dL_law_809 : decode cL_law 809 = .ok (.aload_n 0, 1) := fq_42 fk_cL_law_50 9 rfl rfl
theorem dL_law_810 : decode cL_law 810 = .ok (.iload_n 3, 1) := fq_29 fk_cL_law_50 10 rfl rfl
theorem dL_law_811 : decode cL_law 811 = .ok (.iconst 2, 1) := fq_5 fk_cL_law_50 11 rfl rfl
theorem dL_law_812 : decode cL_law 812 = .ok (.iadd, 1) := fq_96 fk_cL_law_50 12 rfl rfl
theorem dL_law_813 : decode cL_law 813 = .ok (.iaload, 1) := fq_46 fk_cL_law_50 13 rfl rfl
theorem dL_law_814 : decode cL_law 814 = .ok (.invokevirtual 109, 3) := fq_182 fk_cL_law_50 14 rfl rfl rfl rfl rfl
theorem wd_876 : Cond.methodLink RL 109 yX10_hire ∈ BG := BG_at5 195 (by decide +kernel) rfl
theorem wd_877 : Cond.code yX10_hire cX10_hire 8 (some .int) ∈ BG := BG_at5 198 rfl rfl
theorem wd_878 : Cond.instanceMethod yX10_hire ∈ BG := BG_at5 196 (by decide +kernel) rfl
theorem wd_879 : Cond.selects RX10 yX10_hire yX10_hire ∈ BG := BG_at5 197 (by decide +kernel) rfl
theorem okV_X10_hire : okV yX10_hire cX10_hire 8 (some .int) 2 := ⟨⟨wd_877, wd_497, by decide +kernel⟩, wd_878, wd_879⟩
theorem fk_cL_law_51 : fq_ck cL_law 816 [109, 87, 167, 0, 197, 43, 42, 29, 4, 96, 46, 42, 29, 5, 96, 46, 42, 29] := fq_of fW_cL_law 51 rfl rfl
theorem dL_law_817 : decode cL_law 817 = .ok (.pop, 1) := fq_87 fk_cL_law_51 1 rfl rfl
theorem dL_law_818 : decode cL_law 818 = .ok (.goto 197, 3) := fq_167 fk_cL_law_51 2 rfl rfl rfl rfl rfl
theorem dL_law_821 : decode cL_law 821 = .ok (.aload_n 1, 1) := fq_43 fk_cL_law_51 5 rfl rfl
theorem dL_law_822 : decode cL_law 822 = .ok (.aload_n 0, 1) := fq_42 fk_cL_law_51 6 rfl rfl
theorem dL_law_823 : decode cL_law 823 = .ok (.iload_n 3, 1) := fq_29 fk_cL_law_51 7 rfl rfl
theorem dL_law_824 : decode cL_law 824 = .ok (.iconst 1, 1) := fq_4 fk_cL_law_51 8 rfl rfl
theorem dL_law_825 : decode cL_law 825 = .ok (.iadd, 1) := fq_96 fk_cL_law_51 9 rfl rfl
theorem dL_law_826 : decode cL_law 826 = .ok (.iaload, 1) := fq_46 fk_cL_law_51 10 rfl rfl
theorem dL_law_827 : decode cL_law 827 = .ok (.aload_n 0, 1) := fq_42 fk_cL_law_51 11 rfl rfl
theorem dL_law_828 : decode cL_law 828 = .ok (.iload_n 3, 1) := fq_29 fk_cL_law_51 12 rfl rfl
theorem dL_law_829 : decode cL_law 829 = .ok (.iconst 2, 1) := fq_5 fk_cL_law_51 13 rfl rfl
theorem dL_law_830 : decode cL_law 830 = .ok (.iadd, 1) := fq_96 fk_cL_law_51 14 rfl rfl
theorem dL_law_831 : decode cL_law 831 = .ok (.iaload, 1) := fq_46 fk_cL_law_51 15 rfl rfl
theorem fk_cL_law_52 : fq_ck cL_law 832 [42, 29, 6, 96, 46, 182, 0, 110, 87, 44, 42, 29, 4, 96, 46, 42, 29, 5] := fq_of fW_cL_law 52 rfl rfl
theorem dL_law_832 : decode cL_law 832 = .ok (.aload_n 0, 1) := fq_42 fk_cL_law_52 0 rfl rfl
theorem dL_law_833 : decode cL_law 833 = .ok (.iload_n 3, 1) := fq_29 fk_cL_law_52 1 rfl rfl
theorem dL_law_834 : decode cL_law 834 = .ok (.iconst 3, 1) := fq_6 fk_cL_law_52 2 rfl rfl
theorem dL_law_835 : decode cL_law 835 = .ok (.iadd, 1) := fq_96 fk_cL_law_52 3 rfl rfl
theorem dL_law_836 : decode cL_law 836 = .ok (.iaload, 1) := fq_46 fk_cL_law_52 4 rfl rfl
theorem dL_law_837 : decode cL_law 837 = .ok (.invokevirtual 110, 3) := fq_182 fk_cL_law_52 5 rfl rfl rfl rfl rfl
theorem wd_880 : Cond.methodLink RL 110 yX9_midstream ∈ BG := BG_at4 0 (by decide +kernel) rfl
theorem wd_881 : Cond.code yX9_midstream cX9_midstream 8 (some .int) ∈ BG := BG_at4 3 rfl rfl
theorem wd_882 : Cond.instanceMethod yX9_midstream ∈ BG := BG_at4 1 (by decide +kernel) rfl
theorem wd_883 : Cond.selects RX9 yX9_midstream yX9_midstream ∈ BG := BG_at4 2 (by decide +kernel) rfl
theorem okV_X9_midstream : okV yX9_midstream cX9_midstream 8 (some .int) 3 := ⟨⟨wd_881, wd_71, by decide +kernel⟩, wd_882, wd_883⟩
theorem dL_law_840 : decode cL_law 840 = .ok (.pop, 1) := fq_87 fk_cL_law_52 8 rfl rfl
theorem dL_law_841 : decode cL_law 841 = .ok (.aload_n 2, 1) := fq_44 fk_cL_law_52 9 rfl rfl
theorem dL_law_842 : decode cL_law 842 = .ok (.aload_n 0, 1) := fq_42 fk_cL_law_52 10 rfl rfl
theorem dL_law_843 : decode cL_law 843 = .ok (.iload_n 3, 1) := fq_29 fk_cL_law_52 11 rfl rfl
theorem dL_law_844 : decode cL_law 844 = .ok (.iconst 1, 1) := fq_4 fk_cL_law_52 12 rfl rfl
theorem dL_law_845 : decode cL_law 845 = .ok (.iadd, 1) := fq_96 fk_cL_law_52 13 rfl rfl
theorem dL_law_846 : decode cL_law 846 = .ok (.iaload, 1) := fq_46 fk_cL_law_52 14 rfl rfl
theorem dL_law_847 : decode cL_law 847 = .ok (.aload_n 0, 1) := fq_42 fk_cL_law_52 15 rfl rfl
theorem fk_cL_law_53 : fq_ck cL_law 848 [29, 5, 96, 46, 42, 29, 6, 96, 46, 182, 0, 113, 87, 167, 0, 154, 43, 42] := fq_of fW_cL_law 53 rfl rfl
theorem dL_law_848 : decode cL_law 848 = .ok (.iload_n 3, 1) := fq_29 fk_cL_law_53 0 rfl rfl
theorem dL_law_849 : decode cL_law 849 = .ok (.iconst 2, 1) := fq_5 fk_cL_law_53 1 rfl rfl
theorem dL_law_850 : decode cL_law 850 = .ok (.iadd, 1) := fq_96 fk_cL_law_53 2 rfl rfl
theorem dL_law_851 : decode cL_law 851 = .ok (.iaload, 1) := fq_46 fk_cL_law_53 3 rfl rfl
theorem dL_law_852 : decode cL_law 852 = .ok (.aload_n 0, 1) := fq_42 fk_cL_law_53 4 rfl rfl
theorem dL_law_853 : decode cL_law 853 = .ok (.iload_n 3, 1) := fq_29 fk_cL_law_53 5 rfl rfl
theorem dL_law_854 : decode cL_law 854 = .ok (.iconst 3, 1) := fq_6 fk_cL_law_53 6 rfl rfl
theorem dL_law_855 : decode cL_law 855 = .ok (.iadd, 1) := fq_96 fk_cL_law_53 7 rfl rfl
theorem dL_law_856 : decode cL_law 856 = .ok (.iaload, 1) := fq_46 fk_cL_law_53 8 rfl rfl
theorem dL_law_857 : decode cL_law 857 = .ok (.invokevirtual 113, 3) := fq_182 fk_cL_law_53 9 rfl rfl rfl rfl rfl
theorem wd_884 : Cond.methodLink RL 113 yX10_midstream ∈ BG := BG_at5 199 (by decide +kernel) rfl
theorem wd_885 : Cond.code yX10_midstream cX10_midstream 8 (some .int) ∈ BG := BG_at5 202 rfl rfl
theorem wd_886 : Cond.instanceMethod yX10_midstream ∈ BG := BG_at5 200 (by decide +kernel) rfl
theorem wd_887 : Cond.selects RX10 yX10_midstream yX10_midstream ∈ BG := BG_at5 201 (by decide +kernel) rfl
theorem okV_X10_midstream : okV yX10_midstream cX10_midstream 8 (some .int) 3 := ⟨⟨wd_885, wd_497, by decide +kernel⟩, wd_886, wd_887⟩
theorem dL_law_860 : decode cL_law 860 = .ok (.pop, 1) := fq_87 fk_cL_law_53 12 rfl rfl
theorem dL_law_861 : decode cL_law 861 = .ok (.goto 154, 3) := fq_167 fk_cL_law_53 13 rfl rfl rfl rfl rfl
end
section
def Wx_who (cI cZ : ClassId) (xh : Nat) (v_x : Nat) (v_q1 : Int32) (v_q2 : Int32) (v_rd : Nat) (v_t : Nat) (v_d : Nat) (v_nw : Nat) (v_ps : Nat) (v_im : Nat) (v_is_ : Nat) (v_q10 : Int32) (v_bk : Nat) (v_q12 : Int32) (v_qr : Nat) (v_pr : Nat) (v_cv : Nat) (v_ft : Nat) (v_t0 : Int32) (v_t1 : Int32) (v_t2 : Int32) (v_t3 : Int32) (v_t4 : Int32) (v_ta : Nat) (v_tb : Nat) (v_tc : Nat) (v_td : Nat) (v_te : Nat) (v_fta : Nat → Int32) (v_ftc : Nat → Int32) (v_nwc : Nat) (v_fn : Nat → Int32) (v_k0 : Int32) (v_k1 : Int32) (v_k2 : Int32) (v_k3 : Int32) (v_k4 : Int32) (v_pra : Nat) (v_prb : Nat) (v_prc : Nat) (v_fpa : Nat → Int32) (v_fpb : Nat → Int32) (v_fpc : Nat → Int32) : va_W := [(xh, .inr (9, [.ref v_x, .int v_q1, .int v_q2, .ref v_rd, .ref v_t, .ref v_d, .ref v_nw, .ref v_ps, .ref v_im, .ref v_is_, .int v_q10, .ref v_bk, .int v_q12, .ref v_qr, .ref v_pr, .ref v_cv, .ref v_ft])), (v_qr, .inr (4, [.int v_k0, .int v_k1, .int v_k2, .int v_k3, .int v_k4])), (v_t, .inr (8, [.int v_t0, .int v_t1, .int v_t2, .int v_t3, .int v_t4, .ref v_ta, .ref v_tb, .ref v_tc, .ref v_td, .ref v_te])), (v_ta, .inl (cI, 6, .inl v_fta)), (v_tc, .inl (cI, 30, .inl v_ftc)), (v_nw, .inr (7, [.ref v_nwc])), (v_nwc, .inl (cI, 41, .inl v_fn)), (v_pr, .inr (3, [.ref v_pra, .ref v_prb, .ref v_prc])), (v_pra, .inl (cI, 36, .inl v_fpa)), (v_prb, .inl (cI, 64, .inl v_fpb)), (v_prc, .inl (cI, 64, .inl v_fpc))]
def Wm_who (cI cZ : ClassId) (yh : Nat) (Rf : Nat → Nat) (G : Nat → Int32) (f0 : Nat → Int32) (f8 : Nat → Int32) (f10 : Nat → Int32) (f36 : Nat → Int32) (f37 : Nat → Int32) : va_W := [(yh, .inr (10, ML G Rf)), ((Rf 0), .inl (cI, 1302, .inl f0)), ((Rf 10), .inl (cI, 30, .inl f10)), ((Rf 8), .inl (cI, 6, .inl f8)), ((Rf 37), .inl (cI, 36, .inl f37)), ((Rf 36), .inl (cI, 448, .inl f36))]
set_option maxHeartbeats 4000000 in
set_option maxRecDepth 100000 in
theorem law_who {p : Program} {l : Launch} {e : Env} {s : State} {m : MethodId} {below : List Frame} {meth : Method} {c : Code} {D : va_G} {cI cZ : ClassId} {b : Nat} {xs : Nat → Int32} {L : Nat} (wr : va_W) (v_x : Nat) (v_q1 : Int32) (v_q2 : Int32) (v_rd : Nat) (v_t : Nat) (v_d : Nat) (v_nw : Nat) (v_ps : Nat) (v_im : Nat) (v_is_ : Nat) (v_q10 : Int32) (v_bk : Nat) (v_q12 : Int32) (v_qr : Nat) (v_pr : Nat) (v_cv : Nat) (v_ft : Nat) (v_t0 : Int32) (v_t1 : Int32) (v_t2 : Int32) (v_t3 : Int32) (v_t4 : Int32) (v_ta : Nat) (v_tb : Nat) (v_tc : Nat) (v_td : Nat) (v_te : Nat) (v_fta : Nat → Int32) (v_ftc : Nat → Int32) (v_nwc : Nat) (v_fn : Nat → Int32) (v_k0 : Int32) (v_k1 : Int32) (v_k2 : Int32) (v_k3 : Int32) (v_k4 : Int32) (v_pra : Nat) (v_prb : Nat) (v_prc : Nat) (v_fpa : Nat → Int32) (v_fpb : Nat → Int32) (v_fpc : Nat → Int32) (Rf : Nat → Nat) (G : Nat → Int32) (f0 : Nat → Int32) (f8 : Nat → Int32) (f10 : Nat → Int32) (f36 : Nat → Int32) (f37 : Nat → Int32) {xh yh : Nat} {iv : Int32} (C0 : lw_C p s m meth c b L xs) {H : Heap} {locs : List Loc} {ls : Array Slot} (hi1 : ¬ ((iv + 1) < 0 ∨ L ≤ (iv + 1 : Int32).toNatClampNeg)) (hi2 : ¬ ((iv + 2) < 0 ∨ L ≤ (iv + 2 : Int32).toNatClampNeg)) (hi3 : ¬ ((iv + 3) < 0 ∨ L ≤ (iv + 3 : Int32).toNatClampNeg)) (hi4 : ¬ ((iv + 4) < 0 ∨ L ≤ (iv + 4 : Int32).toNatClampNeg)) (hK : va_K D classes (TYS cI cZ) s) (hs : S_m_who G f0 f10 f8 f37 f36 (xs ((iv + 1) : Int32).toNatClampNeg) (xs ((iv + 2) : Int32).toNatClampNeg)) (hP : va_P D classes ((Wx_who cI cZ xh v_x v_q1 v_q2 v_rd v_t v_d v_nw v_ps v_im v_is_ v_q10 v_bk v_q12 v_qr v_pr v_cv v_ft v_t0 v_t1 v_t2 v_t3 v_t4 v_ta v_tb v_tc v_td v_te v_fta v_ftc v_nwc v_fn v_k0 v_k1 v_k2 v_k3 v_k4 v_pra v_prb v_prc v_fpa v_fpb v_fpc) ++ ((Wm_who cI cZ yh Rf G f0 f8 f10 f36 f37) ++ wr)) H) (hD : va_D (lw_A s) ((Wx_who cI cZ xh v_x v_q1 v_q2 v_rd v_t v_d v_nw v_ps v_im v_is_ v_q10 v_bk v_q12 v_qr v_pr v_cv v_ft v_t0 v_t1 v_t2 v_t3 v_t4 v_ta v_tb v_tc v_td v_te v_fta v_ftc v_nwc v_fn v_k0 v_k1 v_k2 v_k3 v_k4 v_pra v_prb v_prc v_fpa v_fpb v_fpc) ++ ((Wm_who cI cZ yh Rf G f0 f8 f10 f36 f37) ++ wr))) (hS : va_S (lw_A s) s.heap H locs) (hl : lv_has ls 4 [(0, .ref b), (1, .ref xh), (2, .ref yh), (3, .int iv)]) (hnext : ∀ (rx : Int32) (x0 : Int32) (x1 : Int32) (x2 : Int32) (x3 : Int32) (x4 : Int32) (x5 : (Nat → Int32)) (x6 : (Nat → Int32)) (x7 : (Nat → Int32)) (ry : Int32) (y0 : (Nat → Int32)) (y1 : (Nat → Int32)) (y2 : (Nat → Int32)) (H : Heap) (locs : List Loc) (ls : Array Slot), (rx, x0, x1, x2, x3, x4, x5, x6, x7) = (f_e_who_x9 v_q1 v_q2 v_q10 v_q12 v_k0 v_k1 v_k2 v_k3 v_k4 v_t0 v_t1 v_t2 v_t3 v_t4 v_fta v_ftc v_fn v_fpa v_fpb v_fpc (xs ((iv + 1) : Int32).toNatClampNeg) (xs ((iv + 2) : Int32).toNatClampNeg)) → (ry, y0, y1, y2) = (f_m_who G f0 f10 f8 f37 f36 (xs ((iv + 1) : Int32).toNatClampNeg) (xs ((iv + 2) : Int32).toNatClampNeg)) → va_P D classes ((Wx_who cI cZ xh v_x v_q1 v_q2 v_rd v_t v_d v_nw v_ps v_im v_is_ v_q10 v_bk v_q12 v_qr v_pr v_cv v_ft v_t0 v_t1 v_t2 v_t3 v_t4 v_ta v_tb v_tc v_td v_te v_fta v_ftc v_nwc v_fn x0 x1 x2 x3 x4 v_pra v_prb v_prc x5 x6 x7) ++ ((Wm_who cI cZ yh Rf y0 f0 f8 f10 y2 y1) ++ wr)) H → va_D (lw_A s) ((Wx_who cI cZ xh v_x v_q1 v_q2 v_rd v_t v_d v_nw v_ps v_im v_is_ v_q10 v_bk v_q12 v_qr v_pr v_cv v_ft v_t0 v_t1 v_t2 v_t3 v_t4 v_ta v_tb v_tc v_td v_te v_fta v_ftc v_nwc v_fn x0 x1 x2 x3 x4 v_pra v_prb v_prc x5 x6 x7) ++ ((Wm_who cI cZ yh Rf y0 f0 f8 f10 y2 y1) ++ wr)) → va_S (lw_A s) s.heap H locs → lv_has ls 4 [(0, .ref b), (1, .ref xh), (2, .ref yh), (3, .int iv)] → W p l e room_1 s m #[Value.ref b] below meth c H locs 60 4269 (lw_Z below #[Value.ref b] s) (F0 m 1015 ls [])) : W p l e room_1 s m #[Value.ref b] below meth c H locs 60 4269 (lw_Z below #[Value.ref b] s) (F0 m 620 ls []) := by
  obtain ⟨hx, hb, hr, hml, hown, hts, hX, hbl, hlocks, hN⟩ := C0
  have hA : ∀ q, s.heap.size ≤ q → lw_A s q := fun _ h => h
  have hbA : ¬ lw_A s b := Nat.not_le.mpr hbl
  refine lv_aload_n hx hb dL_law_620 rfl (lv_at hl 1 rfl) ?_
  refine lv_aload_n hx hb dL_law_621 rfl (lv_at hl 0 rfl) ?_
  refine lv_iload_n hx hb dL_law_622 rfl (lv_at hl 3 rfl) ?_
  refine lv_iconst (v := 1) hx hb dL_law_623 rfl ?_
  refine lv_iadd hx hb dL_law_624 ?_
  refine va_sld hx hb hX hbl hbA hS hi1 dL_law_625 ?_
  refine lv_aload_n hx hb dL_law_626 rfl (lv_at hl 0 rfl) ?_
  refine lv_iload_n hx hb dL_law_627 rfl (lv_at hl 3 rfl) ?_
  refine lv_iconst (v := 2) hx hb dL_law_628 rfl ?_
  refine lv_iadd hx hb dL_law_629 ?_
  refine va_sld hx hb hX hbl hbA hS hi2 dL_law_630 ?_
  refine cVa (wc := (Wx_who cI cZ xh v_x v_q1 v_q2 v_rd v_t v_d v_nw v_ps v_im v_is_ v_q10 v_bk v_q12 v_qr v_pr v_cv v_ft v_t0 v_t1 v_t2 v_t3 v_t4 v_ta v_tb v_tc v_td v_te v_fta v_ftc v_nwc v_fn v_k0 v_k1 v_k2 v_k3 v_k4 v_pra v_prb v_prc v_fpa v_fpb v_fpc)) (wr := ((Wm_who cI cZ yh Rf G f0 f8 f10 f36 f37) ++ wr)) (rest := []) (e_who_x9 xh v_x v_rd v_t v_d v_nw v_ps v_im v_is_ v_bk v_qr v_pr v_cv v_ft v_ta v_tb v_tc v_td v_te v_nwc v_pra v_prb v_prc v_q1 v_q2 v_q10 v_q12 v_k0 v_k1 v_k2 v_k3 v_k4 v_t0 v_t1 v_t2 v_t3 v_t4 v_fta v_ftc v_fn v_fpa v_fpb v_fpc (xs ((iv + 1) : Int32).toNatClampNeg) (xs ((iv + 2) : Int32).toNatClampNeg)) okV_X9_who wd_824 hx hb hml hown hts hK hP hD hS hA hN hl.1 rfl rfl rfl (Nat.le_of_ble_eq_true rfl) (Nat.le_of_ble_eq_true rfl) (Nat.le_of_ble_eq_true rfl) (Nat.le_of_ble_eq_true rfl) (Nat.le_of_ble_eq_true rfl) dL_law_631 (fun rx u1 H locs ex hP hD hS => ?_)
  obtain ⟨x0, x1, x2, x3, x4, x5, x6, x7⟩ := u1
  replace ex : (rx, x0, x1, x2, x3, x4, x5, x6, x7) = (f_e_who_x9 v_q1 v_q2 v_q10 v_q12 v_k0 v_k1 v_k2 v_k3 v_k4 v_t0 v_t1 v_t2 v_t3 v_t4 v_fta v_ftc v_fn v_fpa v_fpb v_fpc (xs ((iv + 1) : Int32).toNatClampNeg) (xs ((iv + 2) : Int32).toNatClampNeg)) := ex
  have hP : va_P D classes (((Wm_who cI cZ yh Rf G f0 f8 f10 f36 f37) ++ wr) ++ (Wx_who cI cZ xh v_x v_q1 v_q2 v_rd v_t v_d v_nw v_ps v_im v_is_ v_q10 v_bk v_q12 v_qr v_pr v_cv v_ft v_t0 v_t1 v_t2 v_t3 v_t4 v_ta v_tb v_tc v_td v_te v_fta v_ftc v_nwc v_fn x0 x1 x2 x3 x4 v_pra v_prb v_prc x5 x6 x7)) H := hP
  have hD : va_D (lw_A s) (((Wm_who cI cZ yh Rf G f0 f8 f10 f36 f37) ++ wr) ++ (Wx_who cI cZ xh v_x v_q1 v_q2 v_rd v_t v_d v_nw v_ps v_im v_is_ v_q10 v_bk v_q12 v_qr v_pr v_cv v_ft v_t0 v_t1 v_t2 v_t3 v_t4 v_ta v_tb v_tc v_td v_te v_fta v_ftc v_nwc v_fn x0 x1 x2 x3 x4 v_pra v_prb v_prc x5 x6 x7)) := hD
  rw [List.append_assoc] at hP hD
  refine lv_pop hx hb dL_law_634 rfl ?_
  refine lv_aload_n hx hb dL_law_635 rfl (lv_at hl 2 rfl) ?_
  refine lv_aload_n hx hb dL_law_636 rfl (lv_at hl 0 rfl) ?_
  refine lv_iload_n hx hb dL_law_637 rfl (lv_at hl 3 rfl) ?_
  refine lv_iconst (v := 1) hx hb dL_law_638 rfl ?_
  refine lv_iadd hx hb dL_law_639 ?_
  refine va_sld hx hb hX hbl hbA hS hi1 dL_law_640 ?_
  refine lv_aload_n hx hb dL_law_641 rfl (lv_at hl 0 rfl) ?_
  refine lv_iload_n hx hb dL_law_642 rfl (lv_at hl 3 rfl) ?_
  refine lv_iconst (v := 2) hx hb dL_law_643 rfl ?_
  refine lv_iadd hx hb dL_law_644 ?_
  refine va_sld hx hb hX hbl hbA hS hi2 dL_law_645 ?_
  refine cVa (wc := (Wm_who cI cZ yh Rf G f0 f8 f10 f36 f37)) (wr := (wr ++ (Wx_who cI cZ xh v_x v_q1 v_q2 v_rd v_t v_d v_nw v_ps v_im v_is_ v_q10 v_bk v_q12 v_qr v_pr v_cv v_ft v_t0 v_t1 v_t2 v_t3 v_t4 v_ta v_tb v_tc v_td v_te v_fta v_ftc v_nwc v_fn x0 x1 x2 x3 x4 v_pra v_prb v_prc x5 x6 x7))) (rest := []) (m_who Rf yh G f0 f10 f8 f37 f36 (xs ((iv + 1) : Int32).toNatClampNeg) (xs ((iv + 2) : Int32).toNatClampNeg) hs) okV_X10_who wd_828 hx hb hml hown hts hK hP hD hS hA hN hl.1 rfl rfl rfl (Nat.le_of_ble_eq_true rfl) (Nat.le_of_ble_eq_true rfl) (Nat.le_of_ble_eq_true rfl) (Nat.le_of_ble_eq_true rfl) (Nat.le_of_ble_eq_true rfl) dL_law_646 (fun ry u2 H locs em hP hD hS => ?_)
  obtain ⟨y0, y1, y2⟩ := u2
  replace em : (ry, y0, y1, y2) = (f_m_who G f0 f10 f8 f37 f36 (xs ((iv + 1) : Int32).toNatClampNeg) (xs ((iv + 2) : Int32).toNatClampNeg)) := em
  have hP : va_P D classes ((wr ++ (Wx_who cI cZ xh v_x v_q1 v_q2 v_rd v_t v_d v_nw v_ps v_im v_is_ v_q10 v_bk v_q12 v_qr v_pr v_cv v_ft v_t0 v_t1 v_t2 v_t3 v_t4 v_ta v_tb v_tc v_td v_te v_fta v_ftc v_nwc v_fn x0 x1 x2 x3 x4 v_pra v_prb v_prc x5 x6 x7)) ++ (Wm_who cI cZ yh Rf y0 f0 f8 f10 y2 y1)) H := hP
  have hD : va_D (lw_A s) ((wr ++ (Wx_who cI cZ xh v_x v_q1 v_q2 v_rd v_t v_d v_nw v_ps v_im v_is_ v_q10 v_bk v_q12 v_qr v_pr v_cv v_ft v_t0 v_t1 v_t2 v_t3 v_t4 v_ta v_tb v_tc v_td v_te v_fta v_ftc v_nwc v_fn x0 x1 x2 x3 x4 v_pra v_prb v_prc x5 x6 x7)) ++ (Wm_who cI cZ yh Rf y0 f0 f8 f10 y2 y1)) := hD
  refine lv_pop hx hb dL_law_649 rfl ?_
  refine lv_goto (tgt := 1015) hx hb dL_law_650 rfl ?_
  exact hnext rx x0 x1 x2 x3 x4 x5 x6 x7 ry y0 y1 y2 _ _ _ ex em (permP rot hP) (permD rot hD) hS hl
def Wx_order (cI cZ : ClassId) (xh : Nat) (v_x : Nat) (v_q1 : Int32) (v_q2 : Int32) (v_rd : Nat) (v_t : Nat) (v_d : Nat) (v_nw : Nat) (v_ps : Nat) (v_im : Nat) (v_is_ : Nat) (v_q10 : Int32) (v_bk : Nat) (v_q12 : Int32) (v_qr : Nat) (v_pr : Nat) (v_cv : Nat) (v_ft : Nat) (v_t0 : Int32) (v_t1 : Int32) (v_t2 : Int32) (v_t3 : Int32) (v_t4 : Int32) (v_ta : Nat) (v_tb : Nat) (v_tc : Nat) (v_td : Nat) (v_te : Nat) (v_fta : Nat → Int32) (v_ftc : Nat → Int32) (v_ftd : Nat → Int32) (v_fte : Nat → Int32) (v_nwc : Nat) (v_fn : Nat → Int32) (v_k0 : Int32) (v_k1 : Int32) (v_k2 : Int32) (v_k3 : Int32) (v_k4 : Int32) (v_v0 : Int32) (v_c1 : Nat) (v_c2 : Nat) (v_c3 : Nat) (v_c4 : Nat) (v_c5 : Nat) (v_c6 : Nat) (v_v7 : Int32) (v_v8 : Int32) (v_cvt : Value) (v_fc1 : Nat → Int32) (v_fc2 : Nat → Int32) (v_fc3 : Nat → Int32) (v_fc4 : Nat → Int32) (v_fc5 : Nat → Int32) (v_fc6 : Nat → Int32) : va_W := [(xh, .inr (9, [.ref v_x, .int v_q1, .int v_q2, .ref v_rd, .ref v_t, .ref v_d, .ref v_nw, .ref v_ps, .ref v_im, .ref v_is_, .int v_q10, .ref v_bk, .int v_q12, .ref v_qr, .ref v_pr, .ref v_cv, .ref v_ft])), (v_cv, .inr (1, [.int v_v0, .ref v_c1, .ref v_c2, .ref v_c3, .ref v_c4, .ref v_c5, .ref v_c6, .int v_v7, .int v_v8, v_cvt])), (v_c1, .inl (cI, 7, .inl v_fc1)), (v_c2, .inl (cI, 6, .inl v_fc2)), (v_c3, .inl (cI, 48, .inl v_fc3)), (v_c4, .inl (cI, 128, .inl v_fc4)), (v_c5, .inl (cI, 128, .inl v_fc5)), (v_c6, .inl (cI, 128, .inl v_fc6)), (v_qr, .inr (4, [.int v_k0, .int v_k1, .int v_k2, .int v_k3, .int v_k4])), (v_t, .inr (8, [.int v_t0, .int v_t1, .int v_t2, .int v_t3, .int v_t4, .ref v_ta, .ref v_tb, .ref v_tc, .ref v_td, .ref v_te])), (v_ta, .inl (cI, 6, .inl v_fta)), (v_tc, .inl (cI, 30, .inl v_ftc)), (v_td, .inl (cI, 7, .inl v_ftd)), (v_te, .inl (cI, 7, .inl v_fte)), (v_nw, .inr (7, [.ref v_nwc])), (v_nwc, .inl (cI, 41, .inl v_fn))]
def Wm_order (cI cZ : ClassId) (yh : Nat) (Rf : Nat → Nat) (G : Nat → Int32) (f0 : Nat → Int32) (f8 : Nat → Int32) (f10 : Nat → Int32) (f11 : Nat → Int32) (f12 : Nat → Int32) (f38 : Nat → Int32) (f39 : Nat → Int32) : va_W := [(yh, .inr (10, ML G Rf)), ((Rf 0), .inl (cI, 1302, .inl f0)), ((Rf 10), .inl (cI, 30, .inl f10)), ((Rf 8), .inl (cI, 6, .inl f8)), ((Rf 11), .inl (cI, 7, .inl f11)), ((Rf 12), .inl (cI, 7, .inl f12)), ((Rf 38), .inl (cI, 8, .inl f38)), ((Rf 39), .inl (cI, 7, .inl f39))]
set_option maxHeartbeats 4000000 in
set_option maxRecDepth 100000 in
theorem law_order {p : Program} {l : Launch} {e : Env} {s : State} {m : MethodId} {below : List Frame} {meth : Method} {c : Code} {D : va_G} {cI cZ : ClassId} {b : Nat} {xs : Nat → Int32} {L : Nat} (wr : va_W) (v_x : Nat) (v_q1 : Int32) (v_q2 : Int32) (v_rd : Nat) (v_t : Nat) (v_d : Nat) (v_nw : Nat) (v_ps : Nat) (v_im : Nat) (v_is_ : Nat) (v_q10 : Int32) (v_bk : Nat) (v_q12 : Int32) (v_qr : Nat) (v_pr : Nat) (v_cv : Nat) (v_ft : Nat) (v_t0 : Int32) (v_t1 : Int32) (v_t2 : Int32) (v_t3 : Int32) (v_t4 : Int32) (v_ta : Nat) (v_tb : Nat) (v_tc : Nat) (v_td : Nat) (v_te : Nat) (v_fta : Nat → Int32) (v_ftc : Nat → Int32) (v_ftd : Nat → Int32) (v_fte : Nat → Int32) (v_nwc : Nat) (v_fn : Nat → Int32) (v_k0 : Int32) (v_k1 : Int32) (v_k2 : Int32) (v_k3 : Int32) (v_k4 : Int32) (v_v0 : Int32) (v_c1 : Nat) (v_c2 : Nat) (v_c3 : Nat) (v_c4 : Nat) (v_c5 : Nat) (v_c6 : Nat) (v_v7 : Int32) (v_v8 : Int32) (v_cvt : Value) (v_fc1 : Nat → Int32) (v_fc2 : Nat → Int32) (v_fc3 : Nat → Int32) (v_fc4 : Nat → Int32) (v_fc5 : Nat → Int32) (v_fc6 : Nat → Int32) (Rf : Nat → Nat) (G : Nat → Int32) (f0 : Nat → Int32) (f8 : Nat → Int32) (f10 : Nat → Int32) (f11 : Nat → Int32) (f12 : Nat → Int32) (f38 : Nat → Int32) (f39 : Nat → Int32) {xh yh : Nat} {iv : Int32} (C0 : lw_C p s m meth c b L xs) {H : Heap} {locs : List Loc} {ls : Array Slot} (hi1 : ¬ ((iv + 1) < 0 ∨ L ≤ (iv + 1 : Int32).toNatClampNeg)) (hi2 : ¬ ((iv + 2) < 0 ∨ L ≤ (iv + 2 : Int32).toNatClampNeg)) (hi3 : ¬ ((iv + 3) < 0 ∨ L ≤ (iv + 3 : Int32).toNatClampNeg)) (hi4 : ¬ ((iv + 4) < 0 ∨ L ≤ (iv + 4 : Int32).toNatClampNeg)) (hK : va_K D classes (TYS cI cZ) s) (hs : S_m_order G f0 f10 f8 f11 f12 f38 f39 (xs ((iv + 1) : Int32).toNatClampNeg)) (hP : va_P D classes ((Wx_order cI cZ xh v_x v_q1 v_q2 v_rd v_t v_d v_nw v_ps v_im v_is_ v_q10 v_bk v_q12 v_qr v_pr v_cv v_ft v_t0 v_t1 v_t2 v_t3 v_t4 v_ta v_tb v_tc v_td v_te v_fta v_ftc v_ftd v_fte v_nwc v_fn v_k0 v_k1 v_k2 v_k3 v_k4 v_v0 v_c1 v_c2 v_c3 v_c4 v_c5 v_c6 v_v7 v_v8 v_cvt v_fc1 v_fc2 v_fc3 v_fc4 v_fc5 v_fc6) ++ ((Wm_order cI cZ yh Rf G f0 f8 f10 f11 f12 f38 f39) ++ wr)) H) (hD : va_D (lw_A s) ((Wx_order cI cZ xh v_x v_q1 v_q2 v_rd v_t v_d v_nw v_ps v_im v_is_ v_q10 v_bk v_q12 v_qr v_pr v_cv v_ft v_t0 v_t1 v_t2 v_t3 v_t4 v_ta v_tb v_tc v_td v_te v_fta v_ftc v_ftd v_fte v_nwc v_fn v_k0 v_k1 v_k2 v_k3 v_k4 v_v0 v_c1 v_c2 v_c3 v_c4 v_c5 v_c6 v_v7 v_v8 v_cvt v_fc1 v_fc2 v_fc3 v_fc4 v_fc5 v_fc6) ++ ((Wm_order cI cZ yh Rf G f0 f8 f10 f11 f12 f38 f39) ++ wr))) (hS : va_S (lw_A s) s.heap H locs) (hl : lv_has ls 4 [(0, .ref b), (1, .ref xh), (2, .ref yh), (3, .int iv)]) (hnext : ∀ (rx : Int32) (x0 : Int32) (x1 : Int32) (x2 : Int32) (x3 : Int32) (x4 : Int32) (x5 : Int32) (x6 : Int32) (x7 : Int32) (x8 : (Nat → Int32)) (x9 : (Nat → Int32)) (x10 : (Nat → Int32)) (x11 : (Nat → Int32)) (x12 : (Nat → Int32)) (x13 : (Nat → Int32)) (ry : Int32) (y0 : (Nat → Int32)) (y1 : (Nat → Int32)) (y2 : (Nat → Int32)) (y3 : (Nat → Int32)) (H : Heap) (locs : List Loc) (ls : Array Slot), (rx, x0, x1, x2, x3, x4, x5, x6, x7, x8, x9, x10, x11, x12, x13) = (f_e_order_x9 v_q1 v_q2 v_q10 v_q12 v_v0 v_v7 v_v8 v_fc1 v_fc2 v_fc3 v_fc4 v_fc5 v_fc6 v_k0 v_k1 v_k2 v_k3 v_k4 v_t0 v_t1 v_t2 v_t3 v_t4 v_fta v_ftc v_ftd v_fte v_fn (xs ((iv + 1) : Int32).toNatClampNeg)) → (ry, y0, y1, y2, y3) = (f_m_order G f0 f10 f8 f11 f12 f38 f39 (xs ((iv + 1) : Int32).toNatClampNeg)) → va_P D classes ((Wx_order cI cZ xh v_x v_q1 v_q2 v_rd v_t v_d v_nw v_ps v_im v_is_ v_q10 v_bk v_q12 v_qr v_pr v_cv v_ft v_t0 v_t1 v_t2 v_t3 v_t4 v_ta v_tb v_tc v_td v_te v_fta v_ftc v_ftd v_fte v_nwc v_fn x0 x1 x2 x3 x4 x5 v_c1 v_c2 v_c3 v_c4 v_c5 v_c6 x6 x7 (.ref v_t) x8 x9 x10 x11 x12 x13) ++ ((Wm_order cI cZ yh Rf y0 y1 f8 f10 f11 f12 y2 y3) ++ wr)) H → va_D (lw_A s) ((Wx_order cI cZ xh v_x v_q1 v_q2 v_rd v_t v_d v_nw v_ps v_im v_is_ v_q10 v_bk v_q12 v_qr v_pr v_cv v_ft v_t0 v_t1 v_t2 v_t3 v_t4 v_ta v_tb v_tc v_td v_te v_fta v_ftc v_ftd v_fte v_nwc v_fn x0 x1 x2 x3 x4 x5 v_c1 v_c2 v_c3 v_c4 v_c5 v_c6 x6 x7 (.ref v_t) x8 x9 x10 x11 x12 x13) ++ ((Wm_order cI cZ yh Rf y0 y1 f8 f10 f11 f12 y2 y3) ++ wr)) → va_S (lw_A s) s.heap H locs → lv_has ls 4 [(0, .ref b), (1, .ref xh), (2, .ref yh), (3, .int iv)] → W p l e room_1 s m #[Value.ref b] below meth c H locs 60 4269 (lw_Z below #[Value.ref b] s) (F0 m 1015 ls [])) : W p l e room_1 s m #[Value.ref b] below meth c H locs 60 4269 (lw_Z below #[Value.ref b] s) (F0 m 653 ls []) := by
  obtain ⟨hx, hb, hr, hml, hown, hts, hX, hbl, hlocks, hN⟩ := C0
  have hA : ∀ q, s.heap.size ≤ q → lw_A s q := fun _ h => h
  have hbA : ¬ lw_A s b := Nat.not_le.mpr hbl
  refine lv_aload_n hx hb dL_law_653 rfl (lv_at hl 1 rfl) ?_
  refine lv_aload_n hx hb dL_law_654 rfl (lv_at hl 0 rfl) ?_
  refine lv_iload_n hx hb dL_law_655 rfl (lv_at hl 3 rfl) ?_
  refine lv_iconst (v := 1) hx hb dL_law_656 rfl ?_
  refine lv_iadd hx hb dL_law_657 ?_
  refine va_sld hx hb hX hbl hbA hS hi1 dL_law_658 ?_
  refine cVa (wc := (Wx_order cI cZ xh v_x v_q1 v_q2 v_rd v_t v_d v_nw v_ps v_im v_is_ v_q10 v_bk v_q12 v_qr v_pr v_cv v_ft v_t0 v_t1 v_t2 v_t3 v_t4 v_ta v_tb v_tc v_td v_te v_fta v_ftc v_ftd v_fte v_nwc v_fn v_k0 v_k1 v_k2 v_k3 v_k4 v_v0 v_c1 v_c2 v_c3 v_c4 v_c5 v_c6 v_v7 v_v8 v_cvt v_fc1 v_fc2 v_fc3 v_fc4 v_fc5 v_fc6)) (wr := ((Wm_order cI cZ yh Rf G f0 f8 f10 f11 f12 f38 f39) ++ wr)) (rest := []) (e_order_x9 v_cvt xh v_x v_rd v_t v_d v_nw v_ps v_im v_is_ v_bk v_qr v_pr v_cv v_ft v_c1 v_c2 v_c3 v_c4 v_c5 v_c6 v_ta v_tb v_tc v_td v_te v_nwc v_q1 v_q2 v_q10 v_q12 v_v0 v_v7 v_v8 v_fc1 v_fc2 v_fc3 v_fc4 v_fc5 v_fc6 v_k0 v_k1 v_k2 v_k3 v_k4 v_t0 v_t1 v_t2 v_t3 v_t4 v_fta v_ftc v_ftd v_fte v_fn (xs ((iv + 1) : Int32).toNatClampNeg)) okV_X9_order wd_832 hx hb hml hown hts hK hP hD hS hA hN hl.1 rfl rfl rfl (Nat.le_of_ble_eq_true rfl) (Nat.le_of_ble_eq_true rfl) (Nat.le_of_ble_eq_true rfl) (Nat.le_of_ble_eq_true rfl) (Nat.le_of_ble_eq_true rfl) dL_law_659 (fun rx u1 H locs ex hP hD hS => ?_)
  obtain ⟨x0, x1, x2, x3, x4, x5, x6, x7, x8, x9, x10, x11, x12, x13⟩ := u1
  replace ex : (rx, x0, x1, x2, x3, x4, x5, x6, x7, x8, x9, x10, x11, x12, x13) = (f_e_order_x9 v_q1 v_q2 v_q10 v_q12 v_v0 v_v7 v_v8 v_fc1 v_fc2 v_fc3 v_fc4 v_fc5 v_fc6 v_k0 v_k1 v_k2 v_k3 v_k4 v_t0 v_t1 v_t2 v_t3 v_t4 v_fta v_ftc v_ftd v_fte v_fn (xs ((iv + 1) : Int32).toNatClampNeg)) := ex
  have hP : va_P D classes (((Wm_order cI cZ yh Rf G f0 f8 f10 f11 f12 f38 f39) ++ wr) ++ (Wx_order cI cZ xh v_x v_q1 v_q2 v_rd v_t v_d v_nw v_ps v_im v_is_ v_q10 v_bk v_q12 v_qr v_pr v_cv v_ft v_t0 v_t1 v_t2 v_t3 v_t4 v_ta v_tb v_tc v_td v_te v_fta v_ftc v_ftd v_fte v_nwc v_fn x0 x1 x2 x3 x4 x5 v_c1 v_c2 v_c3 v_c4 v_c5 v_c6 x6 x7 (.ref v_t) x8 x9 x10 x11 x12 x13)) H := hP
  have hD : va_D (lw_A s) (((Wm_order cI cZ yh Rf G f0 f8 f10 f11 f12 f38 f39) ++ wr) ++ (Wx_order cI cZ xh v_x v_q1 v_q2 v_rd v_t v_d v_nw v_ps v_im v_is_ v_q10 v_bk v_q12 v_qr v_pr v_cv v_ft v_t0 v_t1 v_t2 v_t3 v_t4 v_ta v_tb v_tc v_td v_te v_fta v_ftc v_ftd v_fte v_nwc v_fn x0 x1 x2 x3 x4 x5 v_c1 v_c2 v_c3 v_c4 v_c5 v_c6 x6 x7 (.ref v_t) x8 x9 x10 x11 x12 x13)) := hD
  rw [List.append_assoc] at hP hD
  refine lv_pop hx hb dL_law_662 rfl ?_
  refine lv_aload_n hx hb dL_law_663 rfl (lv_at hl 2 rfl) ?_
  refine lv_aload_n hx hb dL_law_664 rfl (lv_at hl 0 rfl) ?_
  refine lv_iload_n hx hb dL_law_665 rfl (lv_at hl 3 rfl) ?_
  refine lv_iconst (v := 1) hx hb dL_law_666 rfl ?_
  refine lv_iadd hx hb dL_law_667 ?_
  refine va_sld hx hb hX hbl hbA hS hi1 dL_law_668 ?_
  refine cVa (wc := (Wm_order cI cZ yh Rf G f0 f8 f10 f11 f12 f38 f39)) (wr := (wr ++ (Wx_order cI cZ xh v_x v_q1 v_q2 v_rd v_t v_d v_nw v_ps v_im v_is_ v_q10 v_bk v_q12 v_qr v_pr v_cv v_ft v_t0 v_t1 v_t2 v_t3 v_t4 v_ta v_tb v_tc v_td v_te v_fta v_ftc v_ftd v_fte v_nwc v_fn x0 x1 x2 x3 x4 x5 v_c1 v_c2 v_c3 v_c4 v_c5 v_c6 x6 x7 (.ref v_t) x8 x9 x10 x11 x12 x13))) (rest := []) (m_order Rf yh G f0 f10 f8 f11 f12 f38 f39 (xs ((iv + 1) : Int32).toNatClampNeg) hs) okV_X10_order wd_836 hx hb hml hown hts hK hP hD hS hA hN hl.1 rfl rfl rfl (Nat.le_of_ble_eq_true rfl) (Nat.le_of_ble_eq_true rfl) (Nat.le_of_ble_eq_true rfl) (Nat.le_of_ble_eq_true rfl) (Nat.le_of_ble_eq_true rfl) dL_law_669 (fun ry u2 H locs em hP hD hS => ?_)
  obtain ⟨y0, y1, y2, y3⟩ := u2
  replace em : (ry, y0, y1, y2, y3) = (f_m_order G f0 f10 f8 f11 f12 f38 f39 (xs ((iv + 1) : Int32).toNatClampNeg)) := em
  have hP : va_P D classes ((wr ++ (Wx_order cI cZ xh v_x v_q1 v_q2 v_rd v_t v_d v_nw v_ps v_im v_is_ v_q10 v_bk v_q12 v_qr v_pr v_cv v_ft v_t0 v_t1 v_t2 v_t3 v_t4 v_ta v_tb v_tc v_td v_te v_fta v_ftc v_ftd v_fte v_nwc v_fn x0 x1 x2 x3 x4 x5 v_c1 v_c2 v_c3 v_c4 v_c5 v_c6 x6 x7 (.ref v_t) x8 x9 x10 x11 x12 x13)) ++ (Wm_order cI cZ yh Rf y0 y1 f8 f10 f11 f12 y2 y3)) H := hP
  have hD : va_D (lw_A s) ((wr ++ (Wx_order cI cZ xh v_x v_q1 v_q2 v_rd v_t v_d v_nw v_ps v_im v_is_ v_q10 v_bk v_q12 v_qr v_pr v_cv v_ft v_t0 v_t1 v_t2 v_t3 v_t4 v_ta v_tb v_tc v_td v_te v_fta v_ftc v_ftd v_fte v_nwc v_fn x0 x1 x2 x3 x4 x5 v_c1 v_c2 v_c3 v_c4 v_c5 v_c6 x6 x7 (.ref v_t) x8 x9 x10 x11 x12 x13)) ++ (Wm_order cI cZ yh Rf y0 y1 f8 f10 f11 f12 y2 y3)) := hD
  refine lv_pop hx hb dL_law_672 rfl ?_
  refine lv_goto (tgt := 1015) hx hb dL_law_673 rfl ?_
  exact hnext rx x0 x1 x2 x3 x4 x5 x6 x7 x8 x9 x10 x11 x12 x13 ry y0 y1 y2 y3 _ _ _ ex em (permP rot hP) (permD rot hD) hS hl
def Wx_toldHer (cI cZ : ClassId) (xh : Nat) (v_x : Nat) (v_q1 : Int32) (v_q2 : Int32) (v_rd : Nat) (v_t : Nat) (v_d : Nat) (v_nw : Nat) (v_ps : Nat) (v_im : Nat) (v_is_ : Nat) (v_q10 : Int32) (v_bk : Nat) (v_q12 : Int32) (v_qr : Nat) (v_pr : Nat) (v_cv : Nat) (v_ft : Nat) (v_t0 : Int32) (v_t1 : Int32) (v_t2 : Int32) (v_t3 : Int32) (v_t4 : Int32) (v_ta : Nat) (v_tb : Nat) (v_tc : Nat) (v_td : Nat) (v_te : Nat) (v_fta : Nat → Int32) (v_ftb : Nat → Int32) (v_ftc : Nat → Int32) (v_k0 : Int32) (v_k1 : Int32) (v_k2 : Int32) (v_k3 : Int32) (v_k4 : Int32) (v_fft : Nat → Int32) : va_W := [(xh, .inr (9, [.ref v_x, .int v_q1, .int v_q2, .ref v_rd, .ref v_t, .ref v_d, .ref v_nw, .ref v_ps, .ref v_im, .ref v_is_, .int v_q10, .ref v_bk, .int v_q12, .ref v_qr, .ref v_pr, .ref v_cv, .ref v_ft])), (v_qr, .inr (4, [.int v_k0, .int v_k1, .int v_k2, .int v_k3, .int v_k4])), (v_t, .inr (8, [.int v_t0, .int v_t1, .int v_t2, .int v_t3, .int v_t4, .ref v_ta, .ref v_tb, .ref v_tc, .ref v_td, .ref v_te])), (v_ta, .inl (cI, 6, .inl v_fta)), (v_tb, .inl (cI, 6, .inl v_ftb)), (v_tc, .inl (cI, 30, .inl v_ftc)), (v_ft, .inl (cI, 30, .inl v_fft))]
def Wm_toldHer (cI cZ : ClassId) (yh : Nat) (Rf : Nat → Nat) (G : Nat → Int32) (f8 : Nat → Int32) (f9 : Nat → Int32) (f10 : Nat → Int32) : va_W := [(yh, .inr (10, ML G Rf)), ((Rf 9), .inl (cI, 6, .inl f9)), ((Rf 10), .inl (cI, 30, .inl f10)), ((Rf 8), .inl (cI, 6, .inl f8))]
set_option maxHeartbeats 4000000 in
set_option maxRecDepth 100000 in
theorem law_toldHer {p : Program} {l : Launch} {e : Env} {s : State} {m : MethodId} {below : List Frame} {meth : Method} {c : Code} {D : va_G} {cI cZ : ClassId} {b : Nat} {xs : Nat → Int32} {L : Nat} (wr : va_W) (v_x : Nat) (v_q1 : Int32) (v_q2 : Int32) (v_rd : Nat) (v_t : Nat) (v_d : Nat) (v_nw : Nat) (v_ps : Nat) (v_im : Nat) (v_is_ : Nat) (v_q10 : Int32) (v_bk : Nat) (v_q12 : Int32) (v_qr : Nat) (v_pr : Nat) (v_cv : Nat) (v_ft : Nat) (v_t0 : Int32) (v_t1 : Int32) (v_t2 : Int32) (v_t3 : Int32) (v_t4 : Int32) (v_ta : Nat) (v_tb : Nat) (v_tc : Nat) (v_td : Nat) (v_te : Nat) (v_fta : Nat → Int32) (v_ftb : Nat → Int32) (v_ftc : Nat → Int32) (v_k0 : Int32) (v_k1 : Int32) (v_k2 : Int32) (v_k3 : Int32) (v_k4 : Int32) (v_fft : Nat → Int32) (Rf : Nat → Nat) (G : Nat → Int32) (f8 : Nat → Int32) (f9 : Nat → Int32) (f10 : Nat → Int32) {xh yh : Nat} {iv : Int32} (C0 : lw_C p s m meth c b L xs) {H : Heap} {locs : List Loc} {ls : Array Slot} (hi1 : ¬ ((iv + 1) < 0 ∨ L ≤ (iv + 1 : Int32).toNatClampNeg)) (hi2 : ¬ ((iv + 2) < 0 ∨ L ≤ (iv + 2 : Int32).toNatClampNeg)) (hi3 : ¬ ((iv + 3) < 0 ∨ L ≤ (iv + 3 : Int32).toNatClampNeg)) (hi4 : ¬ ((iv + 4) < 0 ∨ L ≤ (iv + 4 : Int32).toNatClampNeg)) (hK : va_K D classes (TYS cI cZ) s) (hs : S_m_toldHer G f9 f10 f8 (xs ((iv + 1) : Int32).toNatClampNeg) (xs ((iv + 2) : Int32).toNatClampNeg) (xs ((iv + 3) : Int32).toNatClampNeg)) (hP : va_P D classes ((Wx_toldHer cI cZ xh v_x v_q1 v_q2 v_rd v_t v_d v_nw v_ps v_im v_is_ v_q10 v_bk v_q12 v_qr v_pr v_cv v_ft v_t0 v_t1 v_t2 v_t3 v_t4 v_ta v_tb v_tc v_td v_te v_fta v_ftb v_ftc v_k0 v_k1 v_k2 v_k3 v_k4 v_fft) ++ ((Wm_toldHer cI cZ yh Rf G f8 f9 f10) ++ wr)) H) (hD : va_D (lw_A s) ((Wx_toldHer cI cZ xh v_x v_q1 v_q2 v_rd v_t v_d v_nw v_ps v_im v_is_ v_q10 v_bk v_q12 v_qr v_pr v_cv v_ft v_t0 v_t1 v_t2 v_t3 v_t4 v_ta v_tb v_tc v_td v_te v_fta v_ftb v_ftc v_k0 v_k1 v_k2 v_k3 v_k4 v_fft) ++ ((Wm_toldHer cI cZ yh Rf G f8 f9 f10) ++ wr))) (hS : va_S (lw_A s) s.heap H locs) (hl : lv_has ls 4 [(0, .ref b), (1, .ref xh), (2, .ref yh), (3, .int iv)]) (hnext : ∀ (rx : Int32) (x0 : Int32) (x1 : Int32) (x2 : Int32) (x3 : Int32) (x4 : Int32) (x5 : (Nat → Int32)) (ry : Int32) (y0 : (Nat → Int32)) (H : Heap) (locs : List Loc) (ls : Array Slot), (rx, x0, x1, x2, x3, x4, x5) = (f_e_toldHer_x9 v_q1 v_q2 v_q10 v_q12 v_k0 v_k1 v_k2 v_k3 v_k4 v_t0 v_t1 v_t2 v_t3 v_t4 v_fta v_ftb v_ftc v_fft (xs ((iv + 1) : Int32).toNatClampNeg) (xs ((iv + 2) : Int32).toNatClampNeg) (xs ((iv + 3) : Int32).toNatClampNeg)) → (ry, y0) = (f_m_toldHer G f9 f10 f8 (xs ((iv + 1) : Int32).toNatClampNeg) (xs ((iv + 2) : Int32).toNatClampNeg) (xs ((iv + 3) : Int32).toNatClampNeg)) → va_P D classes ((Wx_toldHer cI cZ xh v_x v_q1 v_q2 v_rd v_t v_d v_nw v_ps v_im v_is_ v_q10 v_bk v_q12 v_qr v_pr v_cv v_ft v_t0 v_t1 v_t2 v_t3 v_t4 v_ta v_tb v_tc v_td v_te v_fta v_ftb v_ftc x0 x1 x2 x3 x4 x5) ++ ((Wm_toldHer cI cZ yh Rf y0 f8 f9 f10) ++ wr)) H → va_D (lw_A s) ((Wx_toldHer cI cZ xh v_x v_q1 v_q2 v_rd v_t v_d v_nw v_ps v_im v_is_ v_q10 v_bk v_q12 v_qr v_pr v_cv v_ft v_t0 v_t1 v_t2 v_t3 v_t4 v_ta v_tb v_tc v_td v_te v_fta v_ftb v_ftc x0 x1 x2 x3 x4 x5) ++ ((Wm_toldHer cI cZ yh Rf y0 f8 f9 f10) ++ wr)) → va_S (lw_A s) s.heap H locs → lv_has ls 4 [(0, .ref b), (1, .ref xh), (2, .ref yh), (3, .int iv)] → W p l e room_1 s m #[Value.ref b] below meth c H locs 60 4269 (lw_Z below #[Value.ref b] s) (F0 m 1015 ls [])) : W p l e room_1 s m #[Value.ref b] below meth c H locs 60 4269 (lw_Z below #[Value.ref b] s) (F0 m 676 ls []) := by
  obtain ⟨hx, hb, hr, hml, hown, hts, hX, hbl, hlocks, hN⟩ := C0
  have hA : ∀ q, s.heap.size ≤ q → lw_A s q := fun _ h => h
  have hbA : ¬ lw_A s b := Nat.not_le.mpr hbl
  refine lv_aload_n hx hb dL_law_676 rfl (lv_at hl 1 rfl) ?_
  refine lv_aload_n hx hb dL_law_677 rfl (lv_at hl 0 rfl) ?_
  refine lv_iload_n hx hb dL_law_678 rfl (lv_at hl 3 rfl) ?_
  refine lv_iconst (v := 1) hx hb dL_law_679 rfl ?_
  refine lv_iadd hx hb dL_law_680 ?_
  refine va_sld hx hb hX hbl hbA hS hi1 dL_law_681 ?_
  refine lv_aload_n hx hb dL_law_682 rfl (lv_at hl 0 rfl) ?_
  refine lv_iload_n hx hb dL_law_683 rfl (lv_at hl 3 rfl) ?_
  refine lv_iconst (v := 2) hx hb dL_law_684 rfl ?_
  refine lv_iadd hx hb dL_law_685 ?_
  refine va_sld hx hb hX hbl hbA hS hi2 dL_law_686 ?_
  refine lv_aload_n hx hb dL_law_687 rfl (lv_at hl 0 rfl) ?_
  refine lv_iload_n hx hb dL_law_688 rfl (lv_at hl 3 rfl) ?_
  refine lv_iconst (v := 3) hx hb dL_law_689 rfl ?_
  refine lv_iadd hx hb dL_law_690 ?_
  refine va_sld hx hb hX hbl hbA hS hi3 dL_law_691 ?_
  refine cVa (wc := (Wx_toldHer cI cZ xh v_x v_q1 v_q2 v_rd v_t v_d v_nw v_ps v_im v_is_ v_q10 v_bk v_q12 v_qr v_pr v_cv v_ft v_t0 v_t1 v_t2 v_t3 v_t4 v_ta v_tb v_tc v_td v_te v_fta v_ftb v_ftc v_k0 v_k1 v_k2 v_k3 v_k4 v_fft)) (wr := ((Wm_toldHer cI cZ yh Rf G f8 f9 f10) ++ wr)) (rest := []) (e_toldHer_x9 xh v_x v_rd v_t v_d v_nw v_ps v_im v_is_ v_bk v_qr v_pr v_cv v_ft v_ta v_tb v_tc v_td v_te v_q1 v_q2 v_q10 v_q12 v_k0 v_k1 v_k2 v_k3 v_k4 v_t0 v_t1 v_t2 v_t3 v_t4 v_fta v_ftb v_ftc v_fft (xs ((iv + 1) : Int32).toNatClampNeg) (xs ((iv + 2) : Int32).toNatClampNeg) (xs ((iv + 3) : Int32).toNatClampNeg)) okV_X9_toldHer wd_840 hx hb hml hown hts hK hP hD hS hA hN hl.1 rfl rfl rfl (Nat.le_of_ble_eq_true rfl) (Nat.le_of_ble_eq_true rfl) (Nat.le_of_ble_eq_true rfl) (Nat.le_of_ble_eq_true rfl) (Nat.le_of_ble_eq_true rfl) dL_law_692 (fun rx u1 H locs ex hP hD hS => ?_)
  obtain ⟨x0, x1, x2, x3, x4, x5⟩ := u1
  replace ex : (rx, x0, x1, x2, x3, x4, x5) = (f_e_toldHer_x9 v_q1 v_q2 v_q10 v_q12 v_k0 v_k1 v_k2 v_k3 v_k4 v_t0 v_t1 v_t2 v_t3 v_t4 v_fta v_ftb v_ftc v_fft (xs ((iv + 1) : Int32).toNatClampNeg) (xs ((iv + 2) : Int32).toNatClampNeg) (xs ((iv + 3) : Int32).toNatClampNeg)) := ex
  have hP : va_P D classes (((Wm_toldHer cI cZ yh Rf G f8 f9 f10) ++ wr) ++ (Wx_toldHer cI cZ xh v_x v_q1 v_q2 v_rd v_t v_d v_nw v_ps v_im v_is_ v_q10 v_bk v_q12 v_qr v_pr v_cv v_ft v_t0 v_t1 v_t2 v_t3 v_t4 v_ta v_tb v_tc v_td v_te v_fta v_ftb v_ftc x0 x1 x2 x3 x4 x5)) H := hP
  have hD : va_D (lw_A s) (((Wm_toldHer cI cZ yh Rf G f8 f9 f10) ++ wr) ++ (Wx_toldHer cI cZ xh v_x v_q1 v_q2 v_rd v_t v_d v_nw v_ps v_im v_is_ v_q10 v_bk v_q12 v_qr v_pr v_cv v_ft v_t0 v_t1 v_t2 v_t3 v_t4 v_ta v_tb v_tc v_td v_te v_fta v_ftb v_ftc x0 x1 x2 x3 x4 x5)) := hD
  rw [List.append_assoc] at hP hD
  refine lv_pop hx hb dL_law_695 rfl ?_
  refine lv_aload_n hx hb dL_law_696 rfl (lv_at hl 2 rfl) ?_
  refine lv_aload_n hx hb dL_law_697 rfl (lv_at hl 0 rfl) ?_
  refine lv_iload_n hx hb dL_law_698 rfl (lv_at hl 3 rfl) ?_
  refine lv_iconst (v := 1) hx hb dL_law_699 rfl ?_
  refine lv_iadd hx hb dL_law_700 ?_
  refine va_sld hx hb hX hbl hbA hS hi1 dL_law_701 ?_
  refine lv_aload_n hx hb dL_law_702 rfl (lv_at hl 0 rfl) ?_
  refine lv_iload_n hx hb dL_law_703 rfl (lv_at hl 3 rfl) ?_
  refine lv_iconst (v := 2) hx hb dL_law_704 rfl ?_
  refine lv_iadd hx hb dL_law_705 ?_
  refine va_sld hx hb hX hbl hbA hS hi2 dL_law_706 ?_
  refine lv_aload_n hx hb dL_law_707 rfl (lv_at hl 0 rfl) ?_
  refine lv_iload_n hx hb dL_law_708 rfl (lv_at hl 3 rfl) ?_
  refine lv_iconst (v := 3) hx hb dL_law_709 rfl ?_
  refine lv_iadd hx hb dL_law_710 ?_
  refine va_sld hx hb hX hbl hbA hS hi3 dL_law_711 ?_
  refine cVa (wc := (Wm_toldHer cI cZ yh Rf G f8 f9 f10)) (wr := (wr ++ (Wx_toldHer cI cZ xh v_x v_q1 v_q2 v_rd v_t v_d v_nw v_ps v_im v_is_ v_q10 v_bk v_q12 v_qr v_pr v_cv v_ft v_t0 v_t1 v_t2 v_t3 v_t4 v_ta v_tb v_tc v_td v_te v_fta v_ftb v_ftc x0 x1 x2 x3 x4 x5))) (rest := []) (m_toldHer Rf yh G f9 f10 f8 (xs ((iv + 1) : Int32).toNatClampNeg) (xs ((iv + 2) : Int32).toNatClampNeg) (xs ((iv + 3) : Int32).toNatClampNeg) hs) okV_X10_toldHer wd_844 hx hb hml hown hts hK hP hD hS hA hN hl.1 rfl rfl rfl (Nat.le_of_ble_eq_true rfl) (Nat.le_of_ble_eq_true rfl) (Nat.le_of_ble_eq_true rfl) (Nat.le_of_ble_eq_true rfl) (Nat.le_of_ble_eq_true rfl) dL_law_712 (fun ry u2 H locs em hP hD hS => ?_)
  obtain ⟨y0, hy0⟩ : ∃ q, q = u2 := ⟨_, rfl⟩
  subst hy0
  replace em : (ry, y0) = (f_m_toldHer G f9 f10 f8 (xs ((iv + 1) : Int32).toNatClampNeg) (xs ((iv + 2) : Int32).toNatClampNeg) (xs ((iv + 3) : Int32).toNatClampNeg)) := em
  have hP : va_P D classes ((wr ++ (Wx_toldHer cI cZ xh v_x v_q1 v_q2 v_rd v_t v_d v_nw v_ps v_im v_is_ v_q10 v_bk v_q12 v_qr v_pr v_cv v_ft v_t0 v_t1 v_t2 v_t3 v_t4 v_ta v_tb v_tc v_td v_te v_fta v_ftb v_ftc x0 x1 x2 x3 x4 x5)) ++ (Wm_toldHer cI cZ yh Rf y0 f8 f9 f10)) H := hP
  have hD : va_D (lw_A s) ((wr ++ (Wx_toldHer cI cZ xh v_x v_q1 v_q2 v_rd v_t v_d v_nw v_ps v_im v_is_ v_q10 v_bk v_q12 v_qr v_pr v_cv v_ft v_t0 v_t1 v_t2 v_t3 v_t4 v_ta v_tb v_tc v_td v_te v_fta v_ftb v_ftc x0 x1 x2 x3 x4 x5)) ++ (Wm_toldHer cI cZ yh Rf y0 f8 f9 f10)) := hD
  refine lv_pop hx hb dL_law_715 rfl ?_
  refine lv_goto (tgt := 1015) hx hb dL_law_716 rfl ?_
  exact hnext rx x0 x1 x2 x3 x4 x5 ry y0 _ _ _ ex em (permP rot hP) (permD rot hD) hS hl
def Wx_lasts (cI cZ : ClassId) (xh : Nat) (v_x : Nat) (v_q1 : Int32) (v_q2 : Int32) (v_rd : Nat) (v_t : Nat) (v_d : Nat) (v_nw : Nat) (v_ps : Nat) (v_im : Nat) (v_is_ : Nat) (v_q10 : Int32) (v_bk : Nat) (v_q12 : Int32) (v_qr : Nat) (v_pr : Nat) (v_cv : Nat) (v_ft : Nat) (v_t0 : Int32) (v_t1 : Int32) (v_t2 : Int32) (v_t3 : Int32) (v_t4 : Int32) (v_ta : Nat) (v_tb : Nat) (v_tc : Nat) (v_td : Nat) (v_te : Nat) (v_ftc : Nat → Int32) (v_nwc : Nat) (v_fn : Nat → Int32) (v_k0 : Int32) (v_k1 : Int32) (v_k2 : Int32) (v_k3 : Int32) (v_k4 : Int32) : va_W := [(xh, .inr (9, [.ref v_x, .int v_q1, .int v_q2, .ref v_rd, .ref v_t, .ref v_d, .ref v_nw, .ref v_ps, .ref v_im, .ref v_is_, .int v_q10, .ref v_bk, .int v_q12, .ref v_qr, .ref v_pr, .ref v_cv, .ref v_ft])), (v_qr, .inr (4, [.int v_k0, .int v_k1, .int v_k2, .int v_k3, .int v_k4])), (v_t, .inr (8, [.int v_t0, .int v_t1, .int v_t2, .int v_t3, .int v_t4, .ref v_ta, .ref v_tb, .ref v_tc, .ref v_td, .ref v_te])), (v_tc, .inl (cI, 30, .inl v_ftc)), (v_nw, .inr (7, [.ref v_nwc])), (v_nwc, .inl (cI, 41, .inl v_fn))]
def Wm_lasts (cI cZ : ClassId) (yh : Nat) (Rf : Nat → Nat) (G : Nat → Int32) (f0 : Nat → Int32) (f10 : Nat → Int32) : va_W := [(yh, .inr (10, ML G Rf)), ((Rf 0), .inl (cI, 1302, .inl f0)), ((Rf 10), .inl (cI, 30, .inl f10))]
set_option maxHeartbeats 4000000 in
set_option maxRecDepth 100000 in
theorem law_lasts {p : Program} {l : Launch} {e : Env} {s : State} {m : MethodId} {below : List Frame} {meth : Method} {c : Code} {D : va_G} {cI cZ : ClassId} {b : Nat} {xs : Nat → Int32} {L : Nat} (wr : va_W) (v_x : Nat) (v_q1 : Int32) (v_q2 : Int32) (v_rd : Nat) (v_t : Nat) (v_d : Nat) (v_nw : Nat) (v_ps : Nat) (v_im : Nat) (v_is_ : Nat) (v_q10 : Int32) (v_bk : Nat) (v_q12 : Int32) (v_qr : Nat) (v_pr : Nat) (v_cv : Nat) (v_ft : Nat) (v_t0 : Int32) (v_t1 : Int32) (v_t2 : Int32) (v_t3 : Int32) (v_t4 : Int32) (v_ta : Nat) (v_tb : Nat) (v_tc : Nat) (v_td : Nat) (v_te : Nat) (v_ftc : Nat → Int32) (v_nwc : Nat) (v_fn : Nat → Int32) (v_k0 : Int32) (v_k1 : Int32) (v_k2 : Int32) (v_k3 : Int32) (v_k4 : Int32) (Rf : Nat → Nat) (G : Nat → Int32) (f0 : Nat → Int32) (f10 : Nat → Int32) {xh yh : Nat} {iv : Int32} (C0 : lw_C p s m meth c b L xs) {H : Heap} {locs : List Loc} {ls : Array Slot} (hi1 : ¬ ((iv + 1) < 0 ∨ L ≤ (iv + 1 : Int32).toNatClampNeg)) (hi2 : ¬ ((iv + 2) < 0 ∨ L ≤ (iv + 2 : Int32).toNatClampNeg)) (hi3 : ¬ ((iv + 3) < 0 ∨ L ≤ (iv + 3 : Int32).toNatClampNeg)) (hi4 : ¬ ((iv + 4) < 0 ∨ L ≤ (iv + 4 : Int32).toNatClampNeg)) (hK : va_K D classes (TYS cI cZ) s) (hs : S_m_lasts G f0 f10 (xs ((iv + 1) : Int32).toNatClampNeg) (xs ((iv + 2) : Int32).toNatClampNeg)) (hP : va_P D classes ((Wx_lasts cI cZ xh v_x v_q1 v_q2 v_rd v_t v_d v_nw v_ps v_im v_is_ v_q10 v_bk v_q12 v_qr v_pr v_cv v_ft v_t0 v_t1 v_t2 v_t3 v_t4 v_ta v_tb v_tc v_td v_te v_ftc v_nwc v_fn v_k0 v_k1 v_k2 v_k3 v_k4) ++ ((Wm_lasts cI cZ yh Rf G f0 f10) ++ wr)) H) (hD : va_D (lw_A s) ((Wx_lasts cI cZ xh v_x v_q1 v_q2 v_rd v_t v_d v_nw v_ps v_im v_is_ v_q10 v_bk v_q12 v_qr v_pr v_cv v_ft v_t0 v_t1 v_t2 v_t3 v_t4 v_ta v_tb v_tc v_td v_te v_ftc v_nwc v_fn v_k0 v_k1 v_k2 v_k3 v_k4) ++ ((Wm_lasts cI cZ yh Rf G f0 f10) ++ wr))) (hS : va_S (lw_A s) s.heap H locs) (hl : lv_has ls 4 [(0, .ref b), (1, .ref xh), (2, .ref yh), (3, .int iv)]) (hnext : ∀ (rx : Int32) (x0 : Int32) (x1 : Int32) (x2 : Int32) (x3 : Int32) (x4 : Int32) (ry : Int32) (y0 : (Nat → Int32)) (H : Heap) (locs : List Loc) (ls : Array Slot), (rx, x0, x1, x2, x3, x4) = (f_e_lasts_x9 v_q1 v_q2 v_q10 v_q12 v_k0 v_k1 v_k2 v_k3 v_k4 v_t0 v_t1 v_t2 v_t3 v_t4 v_ftc v_fn (xs ((iv + 1) : Int32).toNatClampNeg) (xs ((iv + 2) : Int32).toNatClampNeg)) → (ry, y0) = (f_m_lasts G f0 f10 (xs ((iv + 1) : Int32).toNatClampNeg) (xs ((iv + 2) : Int32).toNatClampNeg)) → va_P D classes ((Wx_lasts cI cZ xh v_x v_q1 v_q2 v_rd v_t v_d v_nw v_ps v_im v_is_ v_q10 v_bk v_q12 v_qr v_pr v_cv v_ft v_t0 v_t1 v_t2 v_t3 v_t4 v_ta v_tb v_tc v_td v_te v_ftc v_nwc v_fn x0 x1 x2 x3 x4) ++ ((Wm_lasts cI cZ yh Rf y0 f0 f10) ++ wr)) H → va_D (lw_A s) ((Wx_lasts cI cZ xh v_x v_q1 v_q2 v_rd v_t v_d v_nw v_ps v_im v_is_ v_q10 v_bk v_q12 v_qr v_pr v_cv v_ft v_t0 v_t1 v_t2 v_t3 v_t4 v_ta v_tb v_tc v_td v_te v_ftc v_nwc v_fn x0 x1 x2 x3 x4) ++ ((Wm_lasts cI cZ yh Rf y0 f0 f10) ++ wr)) → va_S (lw_A s) s.heap H locs → lv_has ls 4 [(0, .ref b), (1, .ref xh), (2, .ref yh), (3, .int iv)] → W p l e room_1 s m #[Value.ref b] below meth c H locs 60 4269 (lw_Z below #[Value.ref b] s) (F0 m 1015 ls [])) : W p l e room_1 s m #[Value.ref b] below meth c H locs 60 4269 (lw_Z below #[Value.ref b] s) (F0 m 719 ls []) := by
  obtain ⟨hx, hb, hr, hml, hown, hts, hX, hbl, hlocks, hN⟩ := C0
  have hA : ∀ q, s.heap.size ≤ q → lw_A s q := fun _ h => h
  have hbA : ¬ lw_A s b := Nat.not_le.mpr hbl
  refine lv_aload_n hx hb dL_law_719 rfl (lv_at hl 1 rfl) ?_
  refine lv_aload_n hx hb dL_law_720 rfl (lv_at hl 0 rfl) ?_
  refine lv_iload_n hx hb dL_law_721 rfl (lv_at hl 3 rfl) ?_
  refine lv_iconst (v := 1) hx hb dL_law_722 rfl ?_
  refine lv_iadd hx hb dL_law_723 ?_
  refine va_sld hx hb hX hbl hbA hS hi1 dL_law_724 ?_
  refine lv_aload_n hx hb dL_law_725 rfl (lv_at hl 0 rfl) ?_
  refine lv_iload_n hx hb dL_law_726 rfl (lv_at hl 3 rfl) ?_
  refine lv_iconst (v := 2) hx hb dL_law_727 rfl ?_
  refine lv_iadd hx hb dL_law_728 ?_
  refine va_sld hx hb hX hbl hbA hS hi2 dL_law_729 ?_
  refine cVa (wc := (Wx_lasts cI cZ xh v_x v_q1 v_q2 v_rd v_t v_d v_nw v_ps v_im v_is_ v_q10 v_bk v_q12 v_qr v_pr v_cv v_ft v_t0 v_t1 v_t2 v_t3 v_t4 v_ta v_tb v_tc v_td v_te v_ftc v_nwc v_fn v_k0 v_k1 v_k2 v_k3 v_k4)) (wr := ((Wm_lasts cI cZ yh Rf G f0 f10) ++ wr)) (rest := []) (e_lasts_x9 xh v_x v_rd v_t v_d v_nw v_ps v_im v_is_ v_bk v_qr v_pr v_cv v_ft v_ta v_tb v_tc v_td v_te v_nwc v_q1 v_q2 v_q10 v_q12 v_k0 v_k1 v_k2 v_k3 v_k4 v_t0 v_t1 v_t2 v_t3 v_t4 v_ftc v_fn (xs ((iv + 1) : Int32).toNatClampNeg) (xs ((iv + 2) : Int32).toNatClampNeg)) okV_X9_lasts wd_848 hx hb hml hown hts hK hP hD hS hA hN hl.1 rfl rfl rfl (Nat.le_of_ble_eq_true rfl) (Nat.le_of_ble_eq_true rfl) (Nat.le_of_ble_eq_true rfl) (Nat.le_of_ble_eq_true rfl) (Nat.le_of_ble_eq_true rfl) dL_law_730 (fun rx u1 H locs ex hP hD hS => ?_)
  obtain ⟨x0, x1, x2, x3, x4⟩ := u1
  replace ex : (rx, x0, x1, x2, x3, x4) = (f_e_lasts_x9 v_q1 v_q2 v_q10 v_q12 v_k0 v_k1 v_k2 v_k3 v_k4 v_t0 v_t1 v_t2 v_t3 v_t4 v_ftc v_fn (xs ((iv + 1) : Int32).toNatClampNeg) (xs ((iv + 2) : Int32).toNatClampNeg)) := ex
  have hP : va_P D classes (((Wm_lasts cI cZ yh Rf G f0 f10) ++ wr) ++ (Wx_lasts cI cZ xh v_x v_q1 v_q2 v_rd v_t v_d v_nw v_ps v_im v_is_ v_q10 v_bk v_q12 v_qr v_pr v_cv v_ft v_t0 v_t1 v_t2 v_t3 v_t4 v_ta v_tb v_tc v_td v_te v_ftc v_nwc v_fn x0 x1 x2 x3 x4)) H := hP
  have hD : va_D (lw_A s) (((Wm_lasts cI cZ yh Rf G f0 f10) ++ wr) ++ (Wx_lasts cI cZ xh v_x v_q1 v_q2 v_rd v_t v_d v_nw v_ps v_im v_is_ v_q10 v_bk v_q12 v_qr v_pr v_cv v_ft v_t0 v_t1 v_t2 v_t3 v_t4 v_ta v_tb v_tc v_td v_te v_ftc v_nwc v_fn x0 x1 x2 x3 x4)) := hD
  rw [List.append_assoc] at hP hD
  refine lv_pop hx hb dL_law_733 rfl ?_
  refine lv_aload_n hx hb dL_law_734 rfl (lv_at hl 2 rfl) ?_
  refine lv_aload_n hx hb dL_law_735 rfl (lv_at hl 0 rfl) ?_
  refine lv_iload_n hx hb dL_law_736 rfl (lv_at hl 3 rfl) ?_
  refine lv_iconst (v := 1) hx hb dL_law_737 rfl ?_
  refine lv_iadd hx hb dL_law_738 ?_
  refine va_sld hx hb hX hbl hbA hS hi1 dL_law_739 ?_
  refine lv_aload_n hx hb dL_law_740 rfl (lv_at hl 0 rfl) ?_
  refine lv_iload_n hx hb dL_law_741 rfl (lv_at hl 3 rfl) ?_
  refine lv_iconst (v := 2) hx hb dL_law_742 rfl ?_
  refine lv_iadd hx hb dL_law_743 ?_
  refine va_sld hx hb hX hbl hbA hS hi2 dL_law_744 ?_
  refine cVa (wc := (Wm_lasts cI cZ yh Rf G f0 f10)) (wr := (wr ++ (Wx_lasts cI cZ xh v_x v_q1 v_q2 v_rd v_t v_d v_nw v_ps v_im v_is_ v_q10 v_bk v_q12 v_qr v_pr v_cv v_ft v_t0 v_t1 v_t2 v_t3 v_t4 v_ta v_tb v_tc v_td v_te v_ftc v_nwc v_fn x0 x1 x2 x3 x4))) (rest := []) (m_lasts Rf yh G f0 f10 (xs ((iv + 1) : Int32).toNatClampNeg) (xs ((iv + 2) : Int32).toNatClampNeg) hs) okV_X10_lasts wd_852 hx hb hml hown hts hK hP hD hS hA hN hl.1 rfl rfl rfl (Nat.le_of_ble_eq_true rfl) (Nat.le_of_ble_eq_true rfl) (Nat.le_of_ble_eq_true rfl) (Nat.le_of_ble_eq_true rfl) (Nat.le_of_ble_eq_true rfl) dL_law_745 (fun ry u2 H locs em hP hD hS => ?_)
  obtain ⟨y0, hy0⟩ : ∃ q, q = u2 := ⟨_, rfl⟩
  subst hy0
  replace em : (ry, y0) = (f_m_lasts G f0 f10 (xs ((iv + 1) : Int32).toNatClampNeg) (xs ((iv + 2) : Int32).toNatClampNeg)) := em
  have hP : va_P D classes ((wr ++ (Wx_lasts cI cZ xh v_x v_q1 v_q2 v_rd v_t v_d v_nw v_ps v_im v_is_ v_q10 v_bk v_q12 v_qr v_pr v_cv v_ft v_t0 v_t1 v_t2 v_t3 v_t4 v_ta v_tb v_tc v_td v_te v_ftc v_nwc v_fn x0 x1 x2 x3 x4)) ++ (Wm_lasts cI cZ yh Rf y0 f0 f10)) H := hP
  have hD : va_D (lw_A s) ((wr ++ (Wx_lasts cI cZ xh v_x v_q1 v_q2 v_rd v_t v_d v_nw v_ps v_im v_is_ v_q10 v_bk v_q12 v_qr v_pr v_cv v_ft v_t0 v_t1 v_t2 v_t3 v_t4 v_ta v_tb v_tc v_td v_te v_ftc v_nwc v_fn x0 x1 x2 x3 x4)) ++ (Wm_lasts cI cZ yh Rf y0 f0 f10)) := hD
  refine lv_pop hx hb dL_law_748 rfl ?_
  refine lv_goto (tgt := 1015) hx hb dL_law_749 rfl ?_
  exact hnext rx x0 x1 x2 x3 x4 ry y0 _ _ _ ex em (permP rot hP) (permD rot hD) hS hl
def Wx_wornOut (cI cZ : ClassId) (xh : Nat) (v_x : Nat) (v_q1 : Int32) (v_q2 : Int32) (v_rd : Nat) (v_t : Nat) (v_d : Nat) (v_nw : Nat) (v_ps : Nat) (v_im : Nat) (v_is_ : Nat) (v_q10 : Int32) (v_bk : Nat) (v_q12 : Int32) (v_qr : Nat) (v_pr : Nat) (v_cv : Nat) (v_ft : Nat) (v_t0 : Int32) (v_t1 : Int32) (v_t2 : Int32) (v_t3 : Int32) (v_t4 : Int32) (v_ta : Nat) (v_tb : Nat) (v_tc : Nat) (v_td : Nat) (v_te : Nat) (v_ftc : Nat → Int32) (v_nwc : Nat) (v_fn : Nat → Int32) (v_k0 : Int32) (v_k1 : Int32) (v_k2 : Int32) (v_k3 : Int32) (v_k4 : Int32) : va_W := [(xh, .inr (9, [.ref v_x, .int v_q1, .int v_q2, .ref v_rd, .ref v_t, .ref v_d, .ref v_nw, .ref v_ps, .ref v_im, .ref v_is_, .int v_q10, .ref v_bk, .int v_q12, .ref v_qr, .ref v_pr, .ref v_cv, .ref v_ft])), (v_qr, .inr (4, [.int v_k0, .int v_k1, .int v_k2, .int v_k3, .int v_k4])), (v_t, .inr (8, [.int v_t0, .int v_t1, .int v_t2, .int v_t3, .int v_t4, .ref v_ta, .ref v_tb, .ref v_tc, .ref v_td, .ref v_te])), (v_tc, .inl (cI, 30, .inl v_ftc)), (v_nw, .inr (7, [.ref v_nwc])), (v_nwc, .inl (cI, 41, .inl v_fn))]
def Wm_wornOut (cI cZ : ClassId) (yh : Nat) (Rf : Nat → Nat) (G : Nat → Int32) (f0 : Nat → Int32) (f10 : Nat → Int32) : va_W := [(yh, .inr (10, ML G Rf)), ((Rf 0), .inl (cI, 1302, .inl f0)), ((Rf 10), .inl (cI, 30, .inl f10))]
set_option maxHeartbeats 4000000 in
set_option maxRecDepth 100000 in
theorem law_wornOut {p : Program} {l : Launch} {e : Env} {s : State} {m : MethodId} {below : List Frame} {meth : Method} {c : Code} {D : va_G} {cI cZ : ClassId} {b : Nat} {xs : Nat → Int32} {L : Nat} (wr : va_W) (v_x : Nat) (v_q1 : Int32) (v_q2 : Int32) (v_rd : Nat) (v_t : Nat) (v_d : Nat) (v_nw : Nat) (v_ps : Nat) (v_im : Nat) (v_is_ : Nat) (v_q10 : Int32) (v_bk : Nat) (v_q12 : Int32) (v_qr : Nat) (v_pr : Nat) (v_cv : Nat) (v_ft : Nat) (v_t0 : Int32) (v_t1 : Int32) (v_t2 : Int32) (v_t3 : Int32) (v_t4 : Int32) (v_ta : Nat) (v_tb : Nat) (v_tc : Nat) (v_td : Nat) (v_te : Nat) (v_ftc : Nat → Int32) (v_nwc : Nat) (v_fn : Nat → Int32) (v_k0 : Int32) (v_k1 : Int32) (v_k2 : Int32) (v_k3 : Int32) (v_k4 : Int32) (Rf : Nat → Nat) (G : Nat → Int32) (f0 : Nat → Int32) (f10 : Nat → Int32) {xh yh : Nat} {iv : Int32} (C0 : lw_C p s m meth c b L xs) {H : Heap} {locs : List Loc} {ls : Array Slot} (hi1 : ¬ ((iv + 1) < 0 ∨ L ≤ (iv + 1 : Int32).toNatClampNeg)) (hi2 : ¬ ((iv + 2) < 0 ∨ L ≤ (iv + 2 : Int32).toNatClampNeg)) (hi3 : ¬ ((iv + 3) < 0 ∨ L ≤ (iv + 3 : Int32).toNatClampNeg)) (hi4 : ¬ ((iv + 4) < 0 ∨ L ≤ (iv + 4 : Int32).toNatClampNeg)) (hK : va_K D classes (TYS cI cZ) s) (hs : S_m_wornOut G f0 f10) (hP : va_P D classes ((Wx_wornOut cI cZ xh v_x v_q1 v_q2 v_rd v_t v_d v_nw v_ps v_im v_is_ v_q10 v_bk v_q12 v_qr v_pr v_cv v_ft v_t0 v_t1 v_t2 v_t3 v_t4 v_ta v_tb v_tc v_td v_te v_ftc v_nwc v_fn v_k0 v_k1 v_k2 v_k3 v_k4) ++ ((Wm_wornOut cI cZ yh Rf G f0 f10) ++ wr)) H) (hD : va_D (lw_A s) ((Wx_wornOut cI cZ xh v_x v_q1 v_q2 v_rd v_t v_d v_nw v_ps v_im v_is_ v_q10 v_bk v_q12 v_qr v_pr v_cv v_ft v_t0 v_t1 v_t2 v_t3 v_t4 v_ta v_tb v_tc v_td v_te v_ftc v_nwc v_fn v_k0 v_k1 v_k2 v_k3 v_k4) ++ ((Wm_wornOut cI cZ yh Rf G f0 f10) ++ wr))) (hS : va_S (lw_A s) s.heap H locs) (hl : lv_has ls 4 [(0, .ref b), (1, .ref xh), (2, .ref yh), (3, .int iv)]) (hnext : ∀ (rx : Int32) (x0 : Int32) (x1 : Int32) (x2 : Int32) (x3 : Int32) (x4 : Int32) (ry : Int32) (y0 : (Nat → Int32)) (H : Heap) (locs : List Loc) (ls : Array Slot), (rx, x0, x1, x2, x3, x4) = (f_e_wornOut_x9 v_q1 v_q2 v_q10 v_q12 v_k0 v_k1 v_k2 v_k3 v_k4 v_t0 v_t1 v_t2 v_t3 v_t4 v_ftc v_fn) → (ry, y0) = (f_m_wornOut G f0 f10) → va_P D classes ((Wx_wornOut cI cZ xh v_x v_q1 v_q2 v_rd v_t v_d v_nw v_ps v_im v_is_ v_q10 v_bk v_q12 v_qr v_pr v_cv v_ft v_t0 v_t1 v_t2 v_t3 v_t4 v_ta v_tb v_tc v_td v_te v_ftc v_nwc v_fn x0 x1 x2 x3 x4) ++ ((Wm_wornOut cI cZ yh Rf y0 f0 f10) ++ wr)) H → va_D (lw_A s) ((Wx_wornOut cI cZ xh v_x v_q1 v_q2 v_rd v_t v_d v_nw v_ps v_im v_is_ v_q10 v_bk v_q12 v_qr v_pr v_cv v_ft v_t0 v_t1 v_t2 v_t3 v_t4 v_ta v_tb v_tc v_td v_te v_ftc v_nwc v_fn x0 x1 x2 x3 x4) ++ ((Wm_wornOut cI cZ yh Rf y0 f0 f10) ++ wr)) → va_S (lw_A s) s.heap H locs → lv_has ls 4 [(0, .ref b), (1, .ref xh), (2, .ref yh), (3, .int iv)] → W p l e room_1 s m #[Value.ref b] below meth c H locs 60 4269 (lw_Z below #[Value.ref b] s) (F0 m 1015 ls [])) : W p l e room_1 s m #[Value.ref b] below meth c H locs 60 4269 (lw_Z below #[Value.ref b] s) (F0 m 752 ls []) := by
  obtain ⟨hx, hb, hr, hml, hown, hts, hX, hbl, hlocks, hN⟩ := C0
  have hA : ∀ q, s.heap.size ≤ q → lw_A s q := fun _ h => h
  have hbA : ¬ lw_A s b := Nat.not_le.mpr hbl
  refine lv_aload_n hx hb dL_law_752 rfl (lv_at hl 1 rfl) ?_
  refine cVa (wc := (Wx_wornOut cI cZ xh v_x v_q1 v_q2 v_rd v_t v_d v_nw v_ps v_im v_is_ v_q10 v_bk v_q12 v_qr v_pr v_cv v_ft v_t0 v_t1 v_t2 v_t3 v_t4 v_ta v_tb v_tc v_td v_te v_ftc v_nwc v_fn v_k0 v_k1 v_k2 v_k3 v_k4)) (wr := ((Wm_wornOut cI cZ yh Rf G f0 f10) ++ wr)) (rest := []) (e_wornOut_x9 xh v_x v_rd v_t v_d v_nw v_ps v_im v_is_ v_bk v_qr v_pr v_cv v_ft v_ta v_tb v_tc v_td v_te v_nwc v_q1 v_q2 v_q10 v_q12 v_k0 v_k1 v_k2 v_k3 v_k4 v_t0 v_t1 v_t2 v_t3 v_t4 v_ftc v_fn) okV_X9_wornOut wd_856 hx hb hml hown hts hK hP hD hS hA hN hl.1 rfl rfl rfl (Nat.le_of_ble_eq_true rfl) (Nat.le_of_ble_eq_true rfl) (Nat.le_of_ble_eq_true rfl) (Nat.le_of_ble_eq_true rfl) (Nat.le_of_ble_eq_true rfl) dL_law_753 (fun rx u1 H locs ex hP hD hS => ?_)
  obtain ⟨x0, x1, x2, x3, x4⟩ := u1
  replace ex : (rx, x0, x1, x2, x3, x4) = (f_e_wornOut_x9 v_q1 v_q2 v_q10 v_q12 v_k0 v_k1 v_k2 v_k3 v_k4 v_t0 v_t1 v_t2 v_t3 v_t4 v_ftc v_fn) := ex
  have hP : va_P D classes (((Wm_wornOut cI cZ yh Rf G f0 f10) ++ wr) ++ (Wx_wornOut cI cZ xh v_x v_q1 v_q2 v_rd v_t v_d v_nw v_ps v_im v_is_ v_q10 v_bk v_q12 v_qr v_pr v_cv v_ft v_t0 v_t1 v_t2 v_t3 v_t4 v_ta v_tb v_tc v_td v_te v_ftc v_nwc v_fn x0 x1 x2 x3 x4)) H := hP
  have hD : va_D (lw_A s) (((Wm_wornOut cI cZ yh Rf G f0 f10) ++ wr) ++ (Wx_wornOut cI cZ xh v_x v_q1 v_q2 v_rd v_t v_d v_nw v_ps v_im v_is_ v_q10 v_bk v_q12 v_qr v_pr v_cv v_ft v_t0 v_t1 v_t2 v_t3 v_t4 v_ta v_tb v_tc v_td v_te v_ftc v_nwc v_fn x0 x1 x2 x3 x4)) := hD
  rw [List.append_assoc] at hP hD
  refine lv_pop hx hb dL_law_756 rfl ?_
  refine lv_aload_n hx hb dL_law_757 rfl (lv_at hl 2 rfl) ?_
  refine cVa (wc := (Wm_wornOut cI cZ yh Rf G f0 f10)) (wr := (wr ++ (Wx_wornOut cI cZ xh v_x v_q1 v_q2 v_rd v_t v_d v_nw v_ps v_im v_is_ v_q10 v_bk v_q12 v_qr v_pr v_cv v_ft v_t0 v_t1 v_t2 v_t3 v_t4 v_ta v_tb v_tc v_td v_te v_ftc v_nwc v_fn x0 x1 x2 x3 x4))) (rest := []) (m_wornOut Rf yh G f0 f10 hs) okV_X10_wornOut wd_860 hx hb hml hown hts hK hP hD hS hA hN hl.1 rfl rfl rfl (Nat.le_of_ble_eq_true rfl) (Nat.le_of_ble_eq_true rfl) (Nat.le_of_ble_eq_true rfl) (Nat.le_of_ble_eq_true rfl) (Nat.le_of_ble_eq_true rfl) dL_law_758 (fun ry u2 H locs em hP hD hS => ?_)
  obtain ⟨y0, hy0⟩ : ∃ q, q = u2 := ⟨_, rfl⟩
  subst hy0
  replace em : (ry, y0) = (f_m_wornOut G f0 f10) := em
  have hP : va_P D classes ((wr ++ (Wx_wornOut cI cZ xh v_x v_q1 v_q2 v_rd v_t v_d v_nw v_ps v_im v_is_ v_q10 v_bk v_q12 v_qr v_pr v_cv v_ft v_t0 v_t1 v_t2 v_t3 v_t4 v_ta v_tb v_tc v_td v_te v_ftc v_nwc v_fn x0 x1 x2 x3 x4)) ++ (Wm_wornOut cI cZ yh Rf y0 f0 f10)) H := hP
  have hD : va_D (lw_A s) ((wr ++ (Wx_wornOut cI cZ xh v_x v_q1 v_q2 v_rd v_t v_d v_nw v_ps v_im v_is_ v_q10 v_bk v_q12 v_qr v_pr v_cv v_ft v_t0 v_t1 v_t2 v_t3 v_t4 v_ta v_tb v_tc v_td v_te v_ftc v_nwc v_fn x0 x1 x2 x3 x4)) ++ (Wm_wornOut cI cZ yh Rf y0 f0 f10)) := hD
  refine lv_pop hx hb dL_law_761 rfl ?_
  refine lv_goto (tgt := 1015) hx hb dL_law_762 rfl ?_
  exact hnext rx x0 x1 x2 x3 x4 ry y0 _ _ _ ex em (permP rot hP) (permD rot hD) hS hl
def Wx_carried (cI cZ : ClassId) (xh : Nat) (v_x : Nat) (v_q1 : Int32) (v_q2 : Int32) (v_rd : Nat) (v_t : Nat) (v_d : Nat) (v_nw : Nat) (v_ps : Nat) (v_im : Nat) (v_is_ : Nat) (v_q10 : Int32) (v_bk : Nat) (v_q12 : Int32) (v_qr : Nat) (v_pr : Nat) (v_cv : Nat) (v_ft : Nat) (v_t0 : Int32) (v_t1 : Int32) (v_t2 : Int32) (v_t3 : Int32) (v_t4 : Int32) (v_ta : Nat) (v_tb : Nat) (v_tc : Nat) (v_td : Nat) (v_te : Nat) (v_ftc : Nat → Int32) (v_nwc : Nat) (v_fn : Nat → Int32) : va_W := [(xh, .inr (9, [.ref v_x, .int v_q1, .int v_q2, .ref v_rd, .ref v_t, .ref v_d, .ref v_nw, .ref v_ps, .ref v_im, .ref v_is_, .int v_q10, .ref v_bk, .int v_q12, .ref v_qr, .ref v_pr, .ref v_cv, .ref v_ft])), (v_t, .inr (8, [.int v_t0, .int v_t1, .int v_t2, .int v_t3, .int v_t4, .ref v_ta, .ref v_tb, .ref v_tc, .ref v_td, .ref v_te])), (v_tc, .inl (cI, 30, .inl v_ftc)), (v_nw, .inr (7, [.ref v_nwc])), (v_nwc, .inl (cI, 41, .inl v_fn))]
def Wm_carried (cI cZ : ClassId) (yh : Nat) (Rf : Nat → Nat) (G : Nat → Int32) (f0 : Nat → Int32) (f10 : Nat → Int32) : va_W := [(yh, .inr (10, ML G Rf)), ((Rf 0), .inl (cI, 1302, .inl f0)), ((Rf 10), .inl (cI, 30, .inl f10))]
set_option maxHeartbeats 4000000 in
set_option maxRecDepth 100000 in
theorem law_carried {p : Program} {l : Launch} {e : Env} {s : State} {m : MethodId} {below : List Frame} {meth : Method} {c : Code} {D : va_G} {cI cZ : ClassId} {b : Nat} {xs : Nat → Int32} {L : Nat} (wr : va_W) (v_x : Nat) (v_q1 : Int32) (v_q2 : Int32) (v_rd : Nat) (v_t : Nat) (v_d : Nat) (v_nw : Nat) (v_ps : Nat) (v_im : Nat) (v_is_ : Nat) (v_q10 : Int32) (v_bk : Nat) (v_q12 : Int32) (v_qr : Nat) (v_pr : Nat) (v_cv : Nat) (v_ft : Nat) (v_t0 : Int32) (v_t1 : Int32) (v_t2 : Int32) (v_t3 : Int32) (v_t4 : Int32) (v_ta : Nat) (v_tb : Nat) (v_tc : Nat) (v_td : Nat) (v_te : Nat) (v_ftc : Nat → Int32) (v_nwc : Nat) (v_fn : Nat → Int32) (Rf : Nat → Nat) (G : Nat → Int32) (f0 : Nat → Int32) (f10 : Nat → Int32) {xh yh : Nat} {iv : Int32} (C0 : lw_C p s m meth c b L xs) {H : Heap} {locs : List Loc} {ls : Array Slot} (hi1 : ¬ ((iv + 1) < 0 ∨ L ≤ (iv + 1 : Int32).toNatClampNeg)) (hi2 : ¬ ((iv + 2) < 0 ∨ L ≤ (iv + 2 : Int32).toNatClampNeg)) (hi3 : ¬ ((iv + 3) < 0 ∨ L ≤ (iv + 3 : Int32).toNatClampNeg)) (hi4 : ¬ ((iv + 4) < 0 ∨ L ≤ (iv + 4 : Int32).toNatClampNeg)) (hK : va_K D classes (TYS cI cZ) s) (hs : S_m_carried G f0 f10 (xs ((iv + 1) : Int32).toNatClampNeg)) (hP : va_P D classes ((Wx_carried cI cZ xh v_x v_q1 v_q2 v_rd v_t v_d v_nw v_ps v_im v_is_ v_q10 v_bk v_q12 v_qr v_pr v_cv v_ft v_t0 v_t1 v_t2 v_t3 v_t4 v_ta v_tb v_tc v_td v_te v_ftc v_nwc v_fn) ++ ((Wm_carried cI cZ yh Rf G f0 f10) ++ wr)) H) (hD : va_D (lw_A s) ((Wx_carried cI cZ xh v_x v_q1 v_q2 v_rd v_t v_d v_nw v_ps v_im v_is_ v_q10 v_bk v_q12 v_qr v_pr v_cv v_ft v_t0 v_t1 v_t2 v_t3 v_t4 v_ta v_tb v_tc v_td v_te v_ftc v_nwc v_fn) ++ ((Wm_carried cI cZ yh Rf G f0 f10) ++ wr))) (hS : va_S (lw_A s) s.heap H locs) (hl : lv_has ls 4 [(0, .ref b), (1, .ref xh), (2, .ref yh), (3, .int iv)]) (hnext : ∀ (rx : Int32) (ry : Int32) (H : Heap) (locs : List Loc) (ls : Array Slot), rx = (f_e_carried_x9 v_q1 v_q2 v_q10 v_q12 v_t0 v_t1 v_t2 v_t3 v_t4 v_ftc v_fn (xs ((iv + 1) : Int32).toNatClampNeg)) → ry = (f_m_carried G f0 f10 (xs ((iv + 1) : Int32).toNatClampNeg)) → va_P D classes ((Wx_carried cI cZ xh v_x v_q1 v_q2 v_rd v_t v_d v_nw v_ps v_im v_is_ v_q10 v_bk v_q12 v_qr v_pr v_cv v_ft v_t0 v_t1 v_t2 v_t3 v_t4 v_ta v_tb v_tc v_td v_te v_ftc v_nwc v_fn) ++ ((Wm_carried cI cZ yh Rf G f0 f10) ++ wr)) H → va_D (lw_A s) ((Wx_carried cI cZ xh v_x v_q1 v_q2 v_rd v_t v_d v_nw v_ps v_im v_is_ v_q10 v_bk v_q12 v_qr v_pr v_cv v_ft v_t0 v_t1 v_t2 v_t3 v_t4 v_ta v_tb v_tc v_td v_te v_ftc v_nwc v_fn) ++ ((Wm_carried cI cZ yh Rf G f0 f10) ++ wr)) → va_S (lw_A s) s.heap H locs → lv_has ls 4 [(0, .ref b), (1, .ref xh), (2, .ref yh), (3, .int iv)] → W p l e room_1 s m #[Value.ref b] below meth c H locs 60 4269 (lw_Z below #[Value.ref b] s) (F0 m 1015 ls [])) : W p l e room_1 s m #[Value.ref b] below meth c H locs 60 4269 (lw_Z below #[Value.ref b] s) (F0 m 765 ls []) := by
  obtain ⟨hx, hb, hr, hml, hown, hts, hX, hbl, hlocks, hN⟩ := C0
  have hA : ∀ q, s.heap.size ≤ q → lw_A s q := fun _ h => h
  have hbA : ¬ lw_A s b := Nat.not_le.mpr hbl
  refine lv_aload_n hx hb dL_law_765 rfl (lv_at hl 1 rfl) ?_
  refine lv_aload_n hx hb dL_law_766 rfl (lv_at hl 0 rfl) ?_
  refine lv_iload_n hx hb dL_law_767 rfl (lv_at hl 3 rfl) ?_
  refine lv_iconst (v := 1) hx hb dL_law_768 rfl ?_
  refine lv_iadd hx hb dL_law_769 ?_
  refine va_sld hx hb hX hbl hbA hS hi1 dL_law_770 ?_
  refine cVa (wc := (Wx_carried cI cZ xh v_x v_q1 v_q2 v_rd v_t v_d v_nw v_ps v_im v_is_ v_q10 v_bk v_q12 v_qr v_pr v_cv v_ft v_t0 v_t1 v_t2 v_t3 v_t4 v_ta v_tb v_tc v_td v_te v_ftc v_nwc v_fn)) (wr := ((Wm_carried cI cZ yh Rf G f0 f10) ++ wr)) (rest := []) (e_carried_x9 xh v_x v_rd v_t v_d v_nw v_ps v_im v_is_ v_bk v_qr v_pr v_cv v_ft v_ta v_tb v_tc v_td v_te v_nwc v_q1 v_q2 v_q10 v_q12 v_t0 v_t1 v_t2 v_t3 v_t4 v_ftc v_fn (xs ((iv + 1) : Int32).toNatClampNeg)) okV_X9_carried wd_864 hx hb hml hown hts hK hP hD hS hA hN hl.1 rfl rfl rfl (Nat.le_of_ble_eq_true rfl) (Nat.le_of_ble_eq_true rfl) (Nat.le_of_ble_eq_true rfl) (Nat.le_of_ble_eq_true rfl) (Nat.le_of_ble_eq_true rfl) dL_law_771 (fun rx u1 H locs ex hP hD hS => ?_)
  replace ex : rx = (f_e_carried_x9 v_q1 v_q2 v_q10 v_q12 v_t0 v_t1 v_t2 v_t3 v_t4 v_ftc v_fn (xs ((iv + 1) : Int32).toNatClampNeg)) := ex
  have hP : va_P D classes (((Wm_carried cI cZ yh Rf G f0 f10) ++ wr) ++ (Wx_carried cI cZ xh v_x v_q1 v_q2 v_rd v_t v_d v_nw v_ps v_im v_is_ v_q10 v_bk v_q12 v_qr v_pr v_cv v_ft v_t0 v_t1 v_t2 v_t3 v_t4 v_ta v_tb v_tc v_td v_te v_ftc v_nwc v_fn)) H := hP
  have hD : va_D (lw_A s) (((Wm_carried cI cZ yh Rf G f0 f10) ++ wr) ++ (Wx_carried cI cZ xh v_x v_q1 v_q2 v_rd v_t v_d v_nw v_ps v_im v_is_ v_q10 v_bk v_q12 v_qr v_pr v_cv v_ft v_t0 v_t1 v_t2 v_t3 v_t4 v_ta v_tb v_tc v_td v_te v_ftc v_nwc v_fn)) := hD
  rw [List.append_assoc] at hP hD
  refine lv_pop hx hb dL_law_774 rfl ?_
  refine lv_aload_n hx hb dL_law_775 rfl (lv_at hl 2 rfl) ?_
  refine lv_aload_n hx hb dL_law_776 rfl (lv_at hl 0 rfl) ?_
  refine lv_iload_n hx hb dL_law_777 rfl (lv_at hl 3 rfl) ?_
  refine lv_iconst (v := 1) hx hb dL_law_778 rfl ?_
  refine lv_iadd hx hb dL_law_779 ?_
  refine va_sld hx hb hX hbl hbA hS hi1 dL_law_780 ?_
  refine cVa (wc := (Wm_carried cI cZ yh Rf G f0 f10)) (wr := (wr ++ (Wx_carried cI cZ xh v_x v_q1 v_q2 v_rd v_t v_d v_nw v_ps v_im v_is_ v_q10 v_bk v_q12 v_qr v_pr v_cv v_ft v_t0 v_t1 v_t2 v_t3 v_t4 v_ta v_tb v_tc v_td v_te v_ftc v_nwc v_fn))) (rest := []) (m_carried Rf yh G f0 f10 (xs ((iv + 1) : Int32).toNatClampNeg) hs) okV_X10_carried wd_868 hx hb hml hown hts hK hP hD hS hA hN hl.1 rfl rfl rfl (Nat.le_of_ble_eq_true rfl) (Nat.le_of_ble_eq_true rfl) (Nat.le_of_ble_eq_true rfl) (Nat.le_of_ble_eq_true rfl) (Nat.le_of_ble_eq_true rfl) dL_law_781 (fun ry u2 H locs em hP hD hS => ?_)
  replace em : ry = (f_m_carried G f0 f10 (xs ((iv + 1) : Int32).toNatClampNeg)) := em
  have hP : va_P D classes ((wr ++ (Wx_carried cI cZ xh v_x v_q1 v_q2 v_rd v_t v_d v_nw v_ps v_im v_is_ v_q10 v_bk v_q12 v_qr v_pr v_cv v_ft v_t0 v_t1 v_t2 v_t3 v_t4 v_ta v_tb v_tc v_td v_te v_ftc v_nwc v_fn)) ++ (Wm_carried cI cZ yh Rf G f0 f10)) H := hP
  have hD : va_D (lw_A s) ((wr ++ (Wx_carried cI cZ xh v_x v_q1 v_q2 v_rd v_t v_d v_nw v_ps v_im v_is_ v_q10 v_bk v_q12 v_qr v_pr v_cv v_ft v_t0 v_t1 v_t2 v_t3 v_t4 v_ta v_tb v_tc v_td v_te v_ftc v_nwc v_fn)) ++ (Wm_carried cI cZ yh Rf G f0 f10)) := hD
  refine lv_pop hx hb dL_law_784 rfl ?_
  refine lv_goto (tgt := 1015) hx hb dL_law_785 rfl ?_
  exact hnext rx ry _ _ _ ex em (permP rot hP) (permD rot hD) hS hl
def Wx_hire (cI cZ : ClassId) (xh : Nat) (v_x : Nat) (v_q1 : Int32) (v_q2 : Int32) (v_rd : Nat) (v_t : Nat) (v_d : Nat) (v_nw : Nat) (v_ps : Nat) (v_im : Nat) (v_is_ : Nat) (v_q10 : Int32) (v_bk : Nat) (v_q12 : Int32) (v_qr : Nat) (v_pr : Nat) (v_cv : Nat) (v_ft : Nat) (v_t0 : Int32) (v_t1 : Int32) (v_t2 : Int32) (v_t3 : Int32) (v_t4 : Int32) (v_ta : Nat) (v_tb : Nat) (v_tc : Nat) (v_td : Nat) (v_te : Nat) (v_fta : Nat → Int32) (v_ftc : Nat → Int32) (v_nwc : Nat) (v_fn : Nat → Int32) (v_k0 : Int32) (v_k1 : Int32) (v_k2 : Int32) (v_k3 : Int32) (v_k4 : Int32) : va_W := [(xh, .inr (9, [.ref v_x, .int v_q1, .int v_q2, .ref v_rd, .ref v_t, .ref v_d, .ref v_nw, .ref v_ps, .ref v_im, .ref v_is_, .int v_q10, .ref v_bk, .int v_q12, .ref v_qr, .ref v_pr, .ref v_cv, .ref v_ft])), (v_qr, .inr (4, [.int v_k0, .int v_k1, .int v_k2, .int v_k3, .int v_k4])), (v_t, .inr (8, [.int v_t0, .int v_t1, .int v_t2, .int v_t3, .int v_t4, .ref v_ta, .ref v_tb, .ref v_tc, .ref v_td, .ref v_te])), (v_ta, .inl (cI, 6, .inl v_fta)), (v_tc, .inl (cI, 30, .inl v_ftc)), (v_nw, .inr (7, [.ref v_nwc])), (v_nwc, .inl (cI, 41, .inl v_fn))]
def Wm_hire (cI cZ : ClassId) (yh : Nat) (Rf : Nat → Nat) (G : Nat → Int32) (f0 : Nat → Int32) (f8 : Nat → Int32) (f10 : Nat → Int32) : va_W := [(yh, .inr (10, ML G Rf)), ((Rf 0), .inl (cI, 1302, .inl f0)), ((Rf 10), .inl (cI, 30, .inl f10)), ((Rf 8), .inl (cI, 6, .inl f8))]
set_option maxHeartbeats 4000000 in
set_option maxRecDepth 100000 in
theorem law_hire {p : Program} {l : Launch} {e : Env} {s : State} {m : MethodId} {below : List Frame} {meth : Method} {c : Code} {D : va_G} {cI cZ : ClassId} {b : Nat} {xs : Nat → Int32} {L : Nat} (wr : va_W) (v_x : Nat) (v_q1 : Int32) (v_q2 : Int32) (v_rd : Nat) (v_t : Nat) (v_d : Nat) (v_nw : Nat) (v_ps : Nat) (v_im : Nat) (v_is_ : Nat) (v_q10 : Int32) (v_bk : Nat) (v_q12 : Int32) (v_qr : Nat) (v_pr : Nat) (v_cv : Nat) (v_ft : Nat) (v_t0 : Int32) (v_t1 : Int32) (v_t2 : Int32) (v_t3 : Int32) (v_t4 : Int32) (v_ta : Nat) (v_tb : Nat) (v_tc : Nat) (v_td : Nat) (v_te : Nat) (v_fta : Nat → Int32) (v_ftc : Nat → Int32) (v_nwc : Nat) (v_fn : Nat → Int32) (v_k0 : Int32) (v_k1 : Int32) (v_k2 : Int32) (v_k3 : Int32) (v_k4 : Int32) (Rf : Nat → Nat) (G : Nat → Int32) (f0 : Nat → Int32) (f8 : Nat → Int32) (f10 : Nat → Int32) {xh yh : Nat} {iv : Int32} (C0 : lw_C p s m meth c b L xs) {H : Heap} {locs : List Loc} {ls : Array Slot} (hi1 : ¬ ((iv + 1) < 0 ∨ L ≤ (iv + 1 : Int32).toNatClampNeg)) (hi2 : ¬ ((iv + 2) < 0 ∨ L ≤ (iv + 2 : Int32).toNatClampNeg)) (hi3 : ¬ ((iv + 3) < 0 ∨ L ≤ (iv + 3 : Int32).toNatClampNeg)) (hi4 : ¬ ((iv + 4) < 0 ∨ L ≤ (iv + 4 : Int32).toNatClampNeg)) (hK : va_K D classes (TYS cI cZ) s) (hs : S_m_hire G f0 f10 f8 (xs ((iv + 1) : Int32).toNatClampNeg) (xs ((iv + 2) : Int32).toNatClampNeg)) (hP : va_P D classes ((Wx_hire cI cZ xh v_x v_q1 v_q2 v_rd v_t v_d v_nw v_ps v_im v_is_ v_q10 v_bk v_q12 v_qr v_pr v_cv v_ft v_t0 v_t1 v_t2 v_t3 v_t4 v_ta v_tb v_tc v_td v_te v_fta v_ftc v_nwc v_fn v_k0 v_k1 v_k2 v_k3 v_k4) ++ ((Wm_hire cI cZ yh Rf G f0 f8 f10) ++ wr)) H) (hD : va_D (lw_A s) ((Wx_hire cI cZ xh v_x v_q1 v_q2 v_rd v_t v_d v_nw v_ps v_im v_is_ v_q10 v_bk v_q12 v_qr v_pr v_cv v_ft v_t0 v_t1 v_t2 v_t3 v_t4 v_ta v_tb v_tc v_td v_te v_fta v_ftc v_nwc v_fn v_k0 v_k1 v_k2 v_k3 v_k4) ++ ((Wm_hire cI cZ yh Rf G f0 f8 f10) ++ wr))) (hS : va_S (lw_A s) s.heap H locs) (hl : lv_has ls 4 [(0, .ref b), (1, .ref xh), (2, .ref yh), (3, .int iv)]) (hnext : ∀ (rx : Int32) (x0 : Int32) (x1 : Int32) (x2 : Int32) (x3 : Int32) (x4 : Int32) (ry : Int32) (y0 : (Nat → Int32)) (H : Heap) (locs : List Loc) (ls : Array Slot), (rx, x0, x1, x2, x3, x4) = (f_e_hire_x9 v_q1 v_q2 v_q10 v_q12 v_k0 v_k1 v_k2 v_k3 v_k4 v_t0 v_t1 v_t2 v_t3 v_t4 v_fta v_ftc v_fn (xs ((iv + 1) : Int32).toNatClampNeg) (xs ((iv + 2) : Int32).toNatClampNeg)) → (ry, y0) = (f_m_hire G f0 f10 f8 (xs ((iv + 1) : Int32).toNatClampNeg) (xs ((iv + 2) : Int32).toNatClampNeg)) → va_P D classes ((Wx_hire cI cZ xh v_x v_q1 v_q2 v_rd v_t v_d v_nw v_ps v_im v_is_ v_q10 v_bk v_q12 v_qr v_pr v_cv v_ft v_t0 v_t1 v_t2 v_t3 v_t4 v_ta v_tb v_tc v_td v_te v_fta v_ftc v_nwc v_fn x0 x1 x2 x3 x4) ++ ((Wm_hire cI cZ yh Rf y0 f0 f8 f10) ++ wr)) H → va_D (lw_A s) ((Wx_hire cI cZ xh v_x v_q1 v_q2 v_rd v_t v_d v_nw v_ps v_im v_is_ v_q10 v_bk v_q12 v_qr v_pr v_cv v_ft v_t0 v_t1 v_t2 v_t3 v_t4 v_ta v_tb v_tc v_td v_te v_fta v_ftc v_nwc v_fn x0 x1 x2 x3 x4) ++ ((Wm_hire cI cZ yh Rf y0 f0 f8 f10) ++ wr)) → va_S (lw_A s) s.heap H locs → lv_has ls 4 [(0, .ref b), (1, .ref xh), (2, .ref yh), (3, .int iv)] → W p l e room_1 s m #[Value.ref b] below meth c H locs 60 4269 (lw_Z below #[Value.ref b] s) (F0 m 1015 ls [])) : W p l e room_1 s m #[Value.ref b] below meth c H locs 60 4269 (lw_Z below #[Value.ref b] s) (F0 m 788 ls []) := by
  obtain ⟨hx, hb, hr, hml, hown, hts, hX, hbl, hlocks, hN⟩ := C0
  have hA : ∀ q, s.heap.size ≤ q → lw_A s q := fun _ h => h
  have hbA : ¬ lw_A s b := Nat.not_le.mpr hbl
  refine lv_aload_n hx hb dL_law_788 rfl (lv_at hl 1 rfl) ?_
  refine lv_aload_n hx hb dL_law_789 rfl (lv_at hl 0 rfl) ?_
  refine lv_iload_n hx hb dL_law_790 rfl (lv_at hl 3 rfl) ?_
  refine lv_iconst (v := 1) hx hb dL_law_791 rfl ?_
  refine lv_iadd hx hb dL_law_792 ?_
  refine va_sld hx hb hX hbl hbA hS hi1 dL_law_793 ?_
  refine lv_aload_n hx hb dL_law_794 rfl (lv_at hl 0 rfl) ?_
  refine lv_iload_n hx hb dL_law_795 rfl (lv_at hl 3 rfl) ?_
  refine lv_iconst (v := 2) hx hb dL_law_796 rfl ?_
  refine lv_iadd hx hb dL_law_797 ?_
  refine va_sld hx hb hX hbl hbA hS hi2 dL_law_798 ?_
  refine cVa (wc := (Wx_hire cI cZ xh v_x v_q1 v_q2 v_rd v_t v_d v_nw v_ps v_im v_is_ v_q10 v_bk v_q12 v_qr v_pr v_cv v_ft v_t0 v_t1 v_t2 v_t3 v_t4 v_ta v_tb v_tc v_td v_te v_fta v_ftc v_nwc v_fn v_k0 v_k1 v_k2 v_k3 v_k4)) (wr := ((Wm_hire cI cZ yh Rf G f0 f8 f10) ++ wr)) (rest := []) (e_hire_x9 xh v_x v_rd v_t v_d v_nw v_ps v_im v_is_ v_bk v_qr v_pr v_cv v_ft v_ta v_tb v_tc v_td v_te v_nwc v_q1 v_q2 v_q10 v_q12 v_k0 v_k1 v_k2 v_k3 v_k4 v_t0 v_t1 v_t2 v_t3 v_t4 v_fta v_ftc v_fn (xs ((iv + 1) : Int32).toNatClampNeg) (xs ((iv + 2) : Int32).toNatClampNeg)) okV_X9_hire wd_872 hx hb hml hown hts hK hP hD hS hA hN hl.1 rfl rfl rfl (Nat.le_of_ble_eq_true rfl) (Nat.le_of_ble_eq_true rfl) (Nat.le_of_ble_eq_true rfl) (Nat.le_of_ble_eq_true rfl) (Nat.le_of_ble_eq_true rfl) dL_law_799 (fun rx u1 H locs ex hP hD hS => ?_)
  obtain ⟨x0, x1, x2, x3, x4⟩ := u1
  replace ex : (rx, x0, x1, x2, x3, x4) = (f_e_hire_x9 v_q1 v_q2 v_q10 v_q12 v_k0 v_k1 v_k2 v_k3 v_k4 v_t0 v_t1 v_t2 v_t3 v_t4 v_fta v_ftc v_fn (xs ((iv + 1) : Int32).toNatClampNeg) (xs ((iv + 2) : Int32).toNatClampNeg)) := ex
  have hP : va_P D classes (((Wm_hire cI cZ yh Rf G f0 f8 f10) ++ wr) ++ (Wx_hire cI cZ xh v_x v_q1 v_q2 v_rd v_t v_d v_nw v_ps v_im v_is_ v_q10 v_bk v_q12 v_qr v_pr v_cv v_ft v_t0 v_t1 v_t2 v_t3 v_t4 v_ta v_tb v_tc v_td v_te v_fta v_ftc v_nwc v_fn x0 x1 x2 x3 x4)) H := hP
  have hD : va_D (lw_A s) (((Wm_hire cI cZ yh Rf G f0 f8 f10) ++ wr) ++ (Wx_hire cI cZ xh v_x v_q1 v_q2 v_rd v_t v_d v_nw v_ps v_im v_is_ v_q10 v_bk v_q12 v_qr v_pr v_cv v_ft v_t0 v_t1 v_t2 v_t3 v_t4 v_ta v_tb v_tc v_td v_te v_fta v_ftc v_nwc v_fn x0 x1 x2 x3 x4)) := hD
  rw [List.append_assoc] at hP hD
  refine lv_pop hx hb dL_law_802 rfl ?_
  refine lv_aload_n hx hb dL_law_803 rfl (lv_at hl 2 rfl) ?_
  refine lv_aload_n hx hb dL_law_804 rfl (lv_at hl 0 rfl) ?_
  refine lv_iload_n hx hb dL_law_805 rfl (lv_at hl 3 rfl) ?_
  refine lv_iconst (v := 1) hx hb dL_law_806 rfl ?_
  refine lv_iadd hx hb dL_law_807 ?_
  refine va_sld hx hb hX hbl hbA hS hi1 dL_law_808 ?_
  refine lv_aload_n hx hb dL_law_809 rfl (lv_at hl 0 rfl) ?_
  refine lv_iload_n hx hb dL_law_810 rfl (lv_at hl 3 rfl) ?_
  refine lv_iconst (v := 2) hx hb dL_law_811 rfl ?_
  refine lv_iadd hx hb dL_law_812 ?_
  refine va_sld hx hb hX hbl hbA hS hi2 dL_law_813 ?_
  refine cVa (wc := (Wm_hire cI cZ yh Rf G f0 f8 f10)) (wr := (wr ++ (Wx_hire cI cZ xh v_x v_q1 v_q2 v_rd v_t v_d v_nw v_ps v_im v_is_ v_q10 v_bk v_q12 v_qr v_pr v_cv v_ft v_t0 v_t1 v_t2 v_t3 v_t4 v_ta v_tb v_tc v_td v_te v_fta v_ftc v_nwc v_fn x0 x1 x2 x3 x4))) (rest := []) (m_hire Rf yh G f0 f10 f8 (xs ((iv + 1) : Int32).toNatClampNeg) (xs ((iv + 2) : Int32).toNatClampNeg) hs) okV_X10_hire wd_876 hx hb hml hown hts hK hP hD hS hA hN hl.1 rfl rfl rfl (Nat.le_of_ble_eq_true rfl) (Nat.le_of_ble_eq_true rfl) (Nat.le_of_ble_eq_true rfl) (Nat.le_of_ble_eq_true rfl) (Nat.le_of_ble_eq_true rfl) dL_law_814 (fun ry u2 H locs em hP hD hS => ?_)
  obtain ⟨y0, hy0⟩ : ∃ q, q = u2 := ⟨_, rfl⟩
  subst hy0
  replace em : (ry, y0) = (f_m_hire G f0 f10 f8 (xs ((iv + 1) : Int32).toNatClampNeg) (xs ((iv + 2) : Int32).toNatClampNeg)) := em
  have hP : va_P D classes ((wr ++ (Wx_hire cI cZ xh v_x v_q1 v_q2 v_rd v_t v_d v_nw v_ps v_im v_is_ v_q10 v_bk v_q12 v_qr v_pr v_cv v_ft v_t0 v_t1 v_t2 v_t3 v_t4 v_ta v_tb v_tc v_td v_te v_fta v_ftc v_nwc v_fn x0 x1 x2 x3 x4)) ++ (Wm_hire cI cZ yh Rf y0 f0 f8 f10)) H := hP
  have hD : va_D (lw_A s) ((wr ++ (Wx_hire cI cZ xh v_x v_q1 v_q2 v_rd v_t v_d v_nw v_ps v_im v_is_ v_q10 v_bk v_q12 v_qr v_pr v_cv v_ft v_t0 v_t1 v_t2 v_t3 v_t4 v_ta v_tb v_tc v_td v_te v_fta v_ftc v_nwc v_fn x0 x1 x2 x3 x4)) ++ (Wm_hire cI cZ yh Rf y0 f0 f8 f10)) := hD
  refine lv_pop hx hb dL_law_817 rfl ?_
  refine lv_goto (tgt := 1015) hx hb dL_law_818 rfl ?_
  exact hnext rx x0 x1 x2 x3 x4 ry y0 _ _ _ ex em (permP rot hP) (permD rot hD) hS hl
def Wx_midstream (cI cZ : ClassId) (xh : Nat) (v_x : Nat) (v_q1 : Int32) (v_q2 : Int32) (v_rd : Nat) (v_t : Nat) (v_d : Nat) (v_nw : Nat) (v_ps : Nat) (v_im : Nat) (v_is_ : Nat) (v_q10 : Int32) (v_bk : Nat) (v_q12 : Int32) (v_qr : Nat) (v_pr : Nat) (v_cv : Nat) (v_ft : Nat) (v_t0 : Int32) (v_t1 : Int32) (v_t2 : Int32) (v_t3 : Int32) (v_t4 : Int32) (v_ta : Nat) (v_tb : Nat) (v_tc : Nat) (v_td : Nat) (v_te : Nat) (v_nwc : Nat) (v_fn : Nat → Int32) : va_W := [(xh, .inr (9, [.ref v_x, .int v_q1, .int v_q2, .ref v_rd, .ref v_t, .ref v_d, .ref v_nw, .ref v_ps, .ref v_im, .ref v_is_, .int v_q10, .ref v_bk, .int v_q12, .ref v_qr, .ref v_pr, .ref v_cv, .ref v_ft])), (v_t, .inr (8, [.int v_t0, .int v_t1, .int v_t2, .int v_t3, .int v_t4, .ref v_ta, .ref v_tb, .ref v_tc, .ref v_td, .ref v_te])), (v_nw, .inr (7, [.ref v_nwc])), (v_nwc, .inl (cI, 41, .inl v_fn))]
def Wm_midstream (cI cZ : ClassId) (yh : Nat) (Rf : Nat → Nat) (G : Nat → Int32) (f0 : Nat → Int32) : va_W := [(yh, .inr (10, ML G Rf)), ((Rf 0), .inl (cI, 1302, .inl f0))]
set_option maxHeartbeats 4000000 in
set_option maxRecDepth 100000 in
theorem law_midstream {p : Program} {l : Launch} {e : Env} {s : State} {m : MethodId} {below : List Frame} {meth : Method} {c : Code} {D : va_G} {cI cZ : ClassId} {b : Nat} {xs : Nat → Int32} {L : Nat} (wr : va_W) (v_x : Nat) (v_q1 : Int32) (v_q2 : Int32) (v_rd : Nat) (v_t : Nat) (v_d : Nat) (v_nw : Nat) (v_ps : Nat) (v_im : Nat) (v_is_ : Nat) (v_q10 : Int32) (v_bk : Nat) (v_q12 : Int32) (v_qr : Nat) (v_pr : Nat) (v_cv : Nat) (v_ft : Nat) (v_t0 : Int32) (v_t1 : Int32) (v_t2 : Int32) (v_t3 : Int32) (v_t4 : Int32) (v_ta : Nat) (v_tb : Nat) (v_tc : Nat) (v_td : Nat) (v_te : Nat) (v_nwc : Nat) (v_fn : Nat → Int32) (Rf : Nat → Nat) (G : Nat → Int32) (f0 : Nat → Int32) {xh yh : Nat} {iv : Int32} (C0 : lw_C p s m meth c b L xs) {H : Heap} {locs : List Loc} {ls : Array Slot} (hi1 : ¬ ((iv + 1) < 0 ∨ L ≤ (iv + 1 : Int32).toNatClampNeg)) (hi2 : ¬ ((iv + 2) < 0 ∨ L ≤ (iv + 2 : Int32).toNatClampNeg)) (hi3 : ¬ ((iv + 3) < 0 ∨ L ≤ (iv + 3 : Int32).toNatClampNeg)) (hi4 : ¬ ((iv + 4) < 0 ∨ L ≤ (iv + 4 : Int32).toNatClampNeg)) (hK : va_K D classes (TYS cI cZ) s) (hs : S_m_midstream G f0 (xs ((iv + 1) : Int32).toNatClampNeg) (xs ((iv + 2) : Int32).toNatClampNeg) (xs ((iv + 3) : Int32).toNatClampNeg)) (hP : va_P D classes ((Wx_midstream cI cZ xh v_x v_q1 v_q2 v_rd v_t v_d v_nw v_ps v_im v_is_ v_q10 v_bk v_q12 v_qr v_pr v_cv v_ft v_t0 v_t1 v_t2 v_t3 v_t4 v_ta v_tb v_tc v_td v_te v_nwc v_fn) ++ ((Wm_midstream cI cZ yh Rf G f0) ++ wr)) H) (hD : va_D (lw_A s) ((Wx_midstream cI cZ xh v_x v_q1 v_q2 v_rd v_t v_d v_nw v_ps v_im v_is_ v_q10 v_bk v_q12 v_qr v_pr v_cv v_ft v_t0 v_t1 v_t2 v_t3 v_t4 v_ta v_tb v_tc v_td v_te v_nwc v_fn) ++ ((Wm_midstream cI cZ yh Rf G f0) ++ wr))) (hS : va_S (lw_A s) s.heap H locs) (hl : lv_has ls 4 [(0, .ref b), (1, .ref xh), (2, .ref yh), (3, .int iv)]) (hnext : ∀ (rx : Int32) (ry : Int32) (H : Heap) (locs : List Loc) (ls : Array Slot), rx = (f_e_midstream_x9 v_q1 v_q2 v_q10 v_q12 v_t0 v_t1 v_t2 v_t3 v_t4 v_fn (xs ((iv + 1) : Int32).toNatClampNeg) (xs ((iv + 2) : Int32).toNatClampNeg) (xs ((iv + 3) : Int32).toNatClampNeg)) → ry = (f_m_midstream G f0 (xs ((iv + 1) : Int32).toNatClampNeg) (xs ((iv + 2) : Int32).toNatClampNeg) (xs ((iv + 3) : Int32).toNatClampNeg)) → va_P D classes ((Wx_midstream cI cZ xh v_x v_q1 v_q2 v_rd v_t v_d v_nw v_ps v_im v_is_ v_q10 v_bk v_q12 v_qr v_pr v_cv v_ft v_t0 v_t1 v_t2 v_t3 v_t4 v_ta v_tb v_tc v_td v_te v_nwc v_fn) ++ ((Wm_midstream cI cZ yh Rf G f0) ++ wr)) H → va_D (lw_A s) ((Wx_midstream cI cZ xh v_x v_q1 v_q2 v_rd v_t v_d v_nw v_ps v_im v_is_ v_q10 v_bk v_q12 v_qr v_pr v_cv v_ft v_t0 v_t1 v_t2 v_t3 v_t4 v_ta v_tb v_tc v_td v_te v_nwc v_fn) ++ ((Wm_midstream cI cZ yh Rf G f0) ++ wr)) → va_S (lw_A s) s.heap H locs → lv_has ls 4 [(0, .ref b), (1, .ref xh), (2, .ref yh), (3, .int iv)] → W p l e room_1 s m #[Value.ref b] below meth c H locs 60 4269 (lw_Z below #[Value.ref b] s) (F0 m 1015 ls [])) : W p l e room_1 s m #[Value.ref b] below meth c H locs 60 4269 (lw_Z below #[Value.ref b] s) (F0 m 821 ls []) := by
  obtain ⟨hx, hb, hr, hml, hown, hts, hX, hbl, hlocks, hN⟩ := C0
  have hA : ∀ q, s.heap.size ≤ q → lw_A s q := fun _ h => h
  have hbA : ¬ lw_A s b := Nat.not_le.mpr hbl
  refine lv_aload_n hx hb dL_law_821 rfl (lv_at hl 1 rfl) ?_
  refine lv_aload_n hx hb dL_law_822 rfl (lv_at hl 0 rfl) ?_
  refine lv_iload_n hx hb dL_law_823 rfl (lv_at hl 3 rfl) ?_
  refine lv_iconst (v := 1) hx hb dL_law_824 rfl ?_
  refine lv_iadd hx hb dL_law_825 ?_
  refine va_sld hx hb hX hbl hbA hS hi1 dL_law_826 ?_
  refine lv_aload_n hx hb dL_law_827 rfl (lv_at hl 0 rfl) ?_
  refine lv_iload_n hx hb dL_law_828 rfl (lv_at hl 3 rfl) ?_
  refine lv_iconst (v := 2) hx hb dL_law_829 rfl ?_
  refine lv_iadd hx hb dL_law_830 ?_
  refine va_sld hx hb hX hbl hbA hS hi2 dL_law_831 ?_
  refine lv_aload_n hx hb dL_law_832 rfl (lv_at hl 0 rfl) ?_
  refine lv_iload_n hx hb dL_law_833 rfl (lv_at hl 3 rfl) ?_
  refine lv_iconst (v := 3) hx hb dL_law_834 rfl ?_
  refine lv_iadd hx hb dL_law_835 ?_
  refine va_sld hx hb hX hbl hbA hS hi3 dL_law_836 ?_
  refine cVa (wc := (Wx_midstream cI cZ xh v_x v_q1 v_q2 v_rd v_t v_d v_nw v_ps v_im v_is_ v_q10 v_bk v_q12 v_qr v_pr v_cv v_ft v_t0 v_t1 v_t2 v_t3 v_t4 v_ta v_tb v_tc v_td v_te v_nwc v_fn)) (wr := ((Wm_midstream cI cZ yh Rf G f0) ++ wr)) (rest := []) (e_midstream_x9 xh v_x v_rd v_t v_d v_nw v_ps v_im v_is_ v_bk v_qr v_pr v_cv v_ft v_ta v_tb v_tc v_td v_te v_nwc v_q1 v_q2 v_q10 v_q12 v_t0 v_t1 v_t2 v_t3 v_t4 v_fn (xs ((iv + 1) : Int32).toNatClampNeg) (xs ((iv + 2) : Int32).toNatClampNeg) (xs ((iv + 3) : Int32).toNatClampNeg)) okV_X9_midstream wd_880 hx hb hml hown hts hK hP hD hS hA hN hl.1 rfl rfl rfl (Nat.le_of_ble_eq_true rfl) (Nat.le_of_ble_eq_true rfl) (Nat.le_of_ble_eq_true rfl) (Nat.le_of_ble_eq_true rfl) (Nat.le_of_ble_eq_true rfl) dL_law_837 (fun rx u1 H locs ex hP hD hS => ?_)
  replace ex : rx = (f_e_midstream_x9 v_q1 v_q2 v_q10 v_q12 v_t0 v_t1 v_t2 v_t3 v_t4 v_fn (xs ((iv + 1) : Int32).toNatClampNeg) (xs ((iv + 2) : Int32).toNatClampNeg) (xs ((iv + 3) : Int32).toNatClampNeg)) := ex
  have hP : va_P D classes (((Wm_midstream cI cZ yh Rf G f0) ++ wr) ++ (Wx_midstream cI cZ xh v_x v_q1 v_q2 v_rd v_t v_d v_nw v_ps v_im v_is_ v_q10 v_bk v_q12 v_qr v_pr v_cv v_ft v_t0 v_t1 v_t2 v_t3 v_t4 v_ta v_tb v_tc v_td v_te v_nwc v_fn)) H := hP
  have hD : va_D (lw_A s) (((Wm_midstream cI cZ yh Rf G f0) ++ wr) ++ (Wx_midstream cI cZ xh v_x v_q1 v_q2 v_rd v_t v_d v_nw v_ps v_im v_is_ v_q10 v_bk v_q12 v_qr v_pr v_cv v_ft v_t0 v_t1 v_t2 v_t3 v_t4 v_ta v_tb v_tc v_td v_te v_nwc v_fn)) := hD
  rw [List.append_assoc] at hP hD
  refine lv_pop hx hb dL_law_840 rfl ?_
  refine lv_aload_n hx hb dL_law_841 rfl (lv_at hl 2 rfl) ?_
  refine lv_aload_n hx hb dL_law_842 rfl (lv_at hl 0 rfl) ?_
  refine lv_iload_n hx hb dL_law_843 rfl (lv_at hl 3 rfl) ?_
  refine lv_iconst (v := 1) hx hb dL_law_844 rfl ?_
  refine lv_iadd hx hb dL_law_845 ?_
  refine va_sld hx hb hX hbl hbA hS hi1 dL_law_846 ?_
  refine lv_aload_n hx hb dL_law_847 rfl (lv_at hl 0 rfl) ?_
  refine lv_iload_n hx hb dL_law_848 rfl (lv_at hl 3 rfl) ?_
  refine lv_iconst (v := 2) hx hb dL_law_849 rfl ?_
  refine lv_iadd hx hb dL_law_850 ?_
  refine va_sld hx hb hX hbl hbA hS hi2 dL_law_851 ?_
  refine lv_aload_n hx hb dL_law_852 rfl (lv_at hl 0 rfl) ?_
  refine lv_iload_n hx hb dL_law_853 rfl (lv_at hl 3 rfl) ?_
  refine lv_iconst (v := 3) hx hb dL_law_854 rfl ?_
  refine lv_iadd hx hb dL_law_855 ?_
  refine va_sld hx hb hX hbl hbA hS hi3 dL_law_856 ?_
  refine cVa (wc := (Wm_midstream cI cZ yh Rf G f0)) (wr := (wr ++ (Wx_midstream cI cZ xh v_x v_q1 v_q2 v_rd v_t v_d v_nw v_ps v_im v_is_ v_q10 v_bk v_q12 v_qr v_pr v_cv v_ft v_t0 v_t1 v_t2 v_t3 v_t4 v_ta v_tb v_tc v_td v_te v_nwc v_fn))) (rest := []) (m_midstream Rf yh G f0 (xs ((iv + 1) : Int32).toNatClampNeg) (xs ((iv + 2) : Int32).toNatClampNeg) (xs ((iv + 3) : Int32).toNatClampNeg) hs) okV_X10_midstream wd_884 hx hb hml hown hts hK hP hD hS hA hN hl.1 rfl rfl rfl (Nat.le_of_ble_eq_true rfl) (Nat.le_of_ble_eq_true rfl) (Nat.le_of_ble_eq_true rfl) (Nat.le_of_ble_eq_true rfl) (Nat.le_of_ble_eq_true rfl) dL_law_857 (fun ry u2 H locs em hP hD hS => ?_)
  replace em : ry = (f_m_midstream G f0 (xs ((iv + 1) : Int32).toNatClampNeg) (xs ((iv + 2) : Int32).toNatClampNeg) (xs ((iv + 3) : Int32).toNatClampNeg)) := em
  have hP : va_P D classes ((wr ++ (Wx_midstream cI cZ xh v_x v_q1 v_q2 v_rd v_t v_d v_nw v_ps v_im v_is_ v_q10 v_bk v_q12 v_qr v_pr v_cv v_ft v_t0 v_t1 v_t2 v_t3 v_t4 v_ta v_tb v_tc v_td v_te v_nwc v_fn)) ++ (Wm_midstream cI cZ yh Rf G f0)) H := hP
  have hD : va_D (lw_A s) ((wr ++ (Wx_midstream cI cZ xh v_x v_q1 v_q2 v_rd v_t v_d v_nw v_ps v_im v_is_ v_q10 v_bk v_q12 v_qr v_pr v_cv v_ft v_t0 v_t1 v_t2 v_t3 v_t4 v_ta v_tb v_tc v_td v_te v_nwc v_fn)) ++ (Wm_midstream cI cZ yh Rf G f0)) := hD
  refine lv_pop hx hb dL_law_860 rfl ?_
  refine lv_goto (tgt := 1015) hx hb dL_law_861 rfl ?_
  exact hnext rx ry _ _ _ ex em (permP rot hP) (permD rot hD) hS hl
end
section
theorem fk_cL_law_54 : fq_ck cL_law 864 [43, 42, 29, 4, 96, 46, 182, 0, 114, 87, 44, 42, 29, 4, 96, 46, 182, 0] := fq_of fW_cL_law 54 rfl rfl
theorem dL_law_864 : decode cL_law 864 = .ok (.aload_n 1, 1) := fq_43 fk_cL_law_54 0 rfl rfl
theorem dL_law_865 : decode cL_law 865 = .ok (.aload_n 0, 1) := fq_42 fk_cL_law_54 1 rfl rfl
theorem dL_law_866 : decode cL_law 866 = .ok (.iload_n 3, 1) := fq_29 fk_cL_law_54 2 rfl rfl
theorem dL_law_867 : decode cL_law 867 = .ok (.iconst 1, 1) := fq_4 fk_cL_law_54 3 rfl rfl
theorem dL_law_868 : decode cL_law 868 = .ok (.iadd, 1) := fq_96 fk_cL_law_54 4 rfl rfl
theorem dL_law_869 : decode cL_law 869 = .ok (.iaload, 1) := fq_46 fk_cL_law_54 5 rfl rfl
theorem dL_law_870 : decode cL_law 870 = .ok (.invokevirtual 114, 3) := fq_182 fk_cL_law_54 6 rfl rfl rfl rfl rfl
theorem wd_888 : Cond.methodLink RL 114 yX9_fleet ∈ BG := BG_at4 6 (by decide +kernel) rfl
theorem wd_889 : Cond.code yX9_fleet cX9_fleet 7 (some .int) ∈ BG := BG_at4 9 rfl rfl
theorem wd_890 : Cond.instanceMethod yX9_fleet ∈ BG := BG_at4 7 (by decide +kernel) rfl
theorem wd_891 : Cond.selects RX9 yX9_fleet yX9_fleet ∈ BG := BG_at4 8 (by decide +kernel) rfl
theorem okV_X9_fleet : okV yX9_fleet cX9_fleet 7 (some .int) 1 := ⟨⟨wd_889, wd_71, by decide +kernel⟩, wd_890, wd_891⟩
theorem dL_law_873 : decode cL_law 873 = .ok (.pop, 1) := fq_87 fk_cL_law_54 9 rfl rfl
theorem dL_law_874 : decode cL_law 874 = .ok (.aload_n 2, 1) := fq_44 fk_cL_law_54 10 rfl rfl
theorem dL_law_875 : decode cL_law 875 = .ok (.aload_n 0, 1) := fq_42 fk_cL_law_54 11 rfl rfl
theorem dL_law_876 : decode cL_law 876 = .ok (.iload_n 3, 1) := fq_29 fk_cL_law_54 12 rfl rfl
theorem dL_law_877 : decode cL_law 877 = .ok (.iconst 1, 1) := fq_4 fk_cL_law_54 13 rfl rfl
theorem dL_law_878 : decode cL_law 878 = .ok (.iadd, 1) := fq_96 fk_cL_law_54 14 rfl rfl
theorem dL_law_879 : decode cL_law 879 = .ok (.iaload, 1) := fq_46 fk_cL_law_54 15 rfl rfl
theorem fk_cL_law_55 : fq_ck cL_law 880 [182, 0, 117, 87, 167, 0, 131, 43, 42, 29, 4, 96, 46, 42, 29, 5, 96, 46] := fq_of fW_cL_law 55 rfl rfl
theorem dL_law_880 : decode cL_law 880 = .ok (.invokevirtual 117, 3) := fq_182 fk_cL_law_55 0 rfl rfl rfl rfl rfl
theorem wd_892 : Cond.methodLink RL 117 yX10_fleet ∈ BG := BG_at5 205 (by decide +kernel) rfl
theorem wd_893 : Cond.code yX10_fleet cX10_fleet 6 (some .int) ∈ BG := BG_at5 208 rfl rfl
theorem wd_894 : Cond.instanceMethod yX10_fleet ∈ BG := BG_at5 206 (by decide +kernel) rfl
theorem wd_895 : Cond.selects RX10 yX10_fleet yX10_fleet ∈ BG := BG_at5 207 (by decide +kernel) rfl
theorem okV_X10_fleet : okV yX10_fleet cX10_fleet 6 (some .int) 1 := ⟨⟨wd_893, wd_497, by decide +kernel⟩, wd_894, wd_895⟩
theorem dL_law_883 : decode cL_law 883 = .ok (.pop, 1) := fq_87 fk_cL_law_55 3 rfl rfl
theorem dL_law_884 : decode cL_law 884 = .ok (.goto 131, 3) := fq_167 fk_cL_law_55 4 rfl rfl rfl rfl rfl
theorem dL_law_887 : decode cL_law 887 = .ok (.aload_n 1, 1) := fq_43 fk_cL_law_55 7 rfl rfl
theorem dL_law_888 : decode cL_law 888 = .ok (.aload_n 0, 1) := fq_42 fk_cL_law_55 8 rfl rfl
theorem dL_law_889 : decode cL_law 889 = .ok (.iload_n 3, 1) := fq_29 fk_cL_law_55 9 rfl rfl
theorem dL_law_890 : decode cL_law 890 = .ok (.iconst 1, 1) := fq_4 fk_cL_law_55 10 rfl rfl
theorem dL_law_891 : decode cL_law 891 = .ok (.iadd, 1) := fq_96 fk_cL_law_55 11 rfl rfl
theorem dL_law_892 : decode cL_law 892 = .ok (.iaload, 1) := fq_46 fk_cL_law_55 12 rfl rfl
theorem dL_law_893 : decode cL_law 893 = .ok (.aload_n 0, 1) := fq_42 fk_cL_law_55 13 rfl rfl
theorem dL_law_894 : decode cL_law 894 = .ok (.iload_n 3, 1) := fq_29 fk_cL_law_55 14 rfl rfl
theorem dL_law_895 : decode cL_law 895 = .ok (.iconst 2, 1) := fq_5 fk_cL_law_55 15 rfl rfl
theorem fk_cL_law_56 : fq_ck cL_law 896 [96, 46, 182, 0, 118, 87, 44, 42, 29, 4, 96, 46, 42, 29, 5, 96, 46, 182] := fq_of fW_cL_law 56 rfl rfl
theorem dL_law_896 : decode cL_law 896 = .ok (.iadd, 1) := fq_96 fk_cL_law_56 0 rfl rfl
theorem dL_law_897 : decode cL_law 897 = .ok (.iaload, 1) := fq_46 fk_cL_law_56 1 rfl rfl
theorem dL_law_898 : decode cL_law 898 = .ok (.invokevirtual 118, 3) := fq_182 fk_cL_law_56 2 rfl rfl rfl rfl rfl
theorem wd_896 : Cond.methodLink RL 118 yX9_write ∈ BG := BG_at4 16 (by decide +kernel) rfl
theorem wd_897 : Cond.code yX9_write cX9_write 3 (some .int) ∈ BG := BG_at4 19 rfl rfl
theorem wd_898 : Cond.instanceMethod yX9_write ∈ BG := BG_at4 17 (by decide +kernel) rfl
theorem wd_899 : Cond.selects RX9 yX9_write yX9_write ∈ BG := BG_at4 18 (by decide +kernel) rfl
theorem okV_X9_write : okV yX9_write cX9_write 3 (some .int) 2 := ⟨⟨wd_897, wd_71, by decide +kernel⟩, wd_898, wd_899⟩
theorem dL_law_901 : decode cL_law 901 = .ok (.pop, 1) := fq_87 fk_cL_law_56 5 rfl rfl
theorem dL_law_902 : decode cL_law 902 = .ok (.aload_n 2, 1) := fq_44 fk_cL_law_56 6 rfl rfl
theorem dL_law_903 : decode cL_law 903 = .ok (.aload_n 0, 1) := fq_42 fk_cL_law_56 7 rfl rfl
theorem dL_law_904 : decode cL_law 904 = .ok (.iload_n 3, 1) := fq_29 fk_cL_law_56 8 rfl rfl
theorem dL_law_905 : decode cL_law 905 = .ok (.iconst 1, 1) := fq_4 fk_cL_law_56 9 rfl rfl
theorem dL_law_906 : decode cL_law 906 = .ok (.iadd, 1) := fq_96 fk_cL_law_56 10 rfl rfl
theorem dL_law_907 : decode cL_law 907 = .ok (.iaload, 1) := fq_46 fk_cL_law_56 11 rfl rfl
theorem dL_law_908 : decode cL_law 908 = .ok (.aload_n 0, 1) := fq_42 fk_cL_law_56 12 rfl rfl
theorem dL_law_909 : decode cL_law 909 = .ok (.iload_n 3, 1) := fq_29 fk_cL_law_56 13 rfl rfl
theorem dL_law_910 : decode cL_law 910 = .ok (.iconst 2, 1) := fq_5 fk_cL_law_56 14 rfl rfl
theorem dL_law_911 : decode cL_law 911 = .ok (.iadd, 1) := fq_96 fk_cL_law_56 15 rfl rfl
theorem fk_cL_law_57 : fq_ck cL_law 912 [46, 182, 0, 121, 87, 167, 0, 98, 43, 182, 0, 122, 87, 44, 182, 0, 125, 87] := fq_of fW_cL_law 57 rfl rfl
theorem dL_law_912 : decode cL_law 912 = .ok (.iaload, 1) := fq_46 fk_cL_law_57 0 rfl rfl
theorem dL_law_913 : decode cL_law 913 = .ok (.invokevirtual 121, 3) := fq_182 fk_cL_law_57 1 rfl rfl rfl rfl rfl
theorem wd_900 : Cond.methodLink RL 121 yX10_write ∈ BG := BG_at5 213 (by decide +kernel) rfl
theorem wd_901 : Cond.code yX10_write cX10_write 3 (some .int) ∈ BG := BG_at5 216 rfl rfl
theorem wd_902 : Cond.instanceMethod yX10_write ∈ BG := BG_at5 214 (by decide +kernel) rfl
theorem wd_903 : Cond.selects RX10 yX10_write yX10_write ∈ BG := BG_at5 215 (by decide +kernel) rfl
theorem okV_X10_write : okV yX10_write cX10_write 3 (some .int) 2 := ⟨⟨wd_901, wd_497, by decide +kernel⟩, wd_902, wd_903⟩
theorem dL_law_916 : decode cL_law 916 = .ok (.pop, 1) := fq_87 fk_cL_law_57 4 rfl rfl
theorem dL_law_917 : decode cL_law 917 = .ok (.goto 98, 3) := fq_167 fk_cL_law_57 5 rfl rfl rfl rfl rfl
theorem dL_law_920 : decode cL_law 920 = .ok (.aload_n 1, 1) := fq_43 fk_cL_law_57 8 rfl rfl
theorem dL_law_921 : decode cL_law 921 = .ok (.invokevirtual 122, 3) := fq_182 fk_cL_law_57 9 rfl rfl rfl rfl rfl
theorem wd_904 : Cond.methodLink RL 122 yX9_tear ∈ BG := BG_at4 25 (by decide +kernel) rfl
theorem wd_905 : Cond.code yX9_tear cX9_tear 2 (some .int) ∈ BG := BG_at4 28 rfl rfl
theorem wd_906 : Cond.instanceMethod yX9_tear ∈ BG := BG_at4 26 (by decide +kernel) rfl
theorem wd_907 : Cond.selects RX9 yX9_tear yX9_tear ∈ BG := BG_at4 27 (by decide +kernel) rfl
theorem okV_X9_tear : okV yX9_tear cX9_tear 2 (some .int) 0 := ⟨⟨wd_905, wd_71, by decide +kernel⟩, wd_906, wd_907⟩
theorem dL_law_924 : decode cL_law 924 = .ok (.pop, 1) := fq_87 fk_cL_law_57 12 rfl rfl
theorem dL_law_925 : decode cL_law 925 = .ok (.aload_n 2, 1) := fq_44 fk_cL_law_57 13 rfl rfl
theorem dL_law_926 : decode cL_law 926 = .ok (.invokevirtual 125, 3) := fq_182 fk_cL_law_57 14 rfl rfl rfl rfl rfl
theorem wd_908 : Cond.methodLink RL 125 yX10_tear ∈ BG := BG_at5 217 (by decide +kernel) rfl
theorem wd_909 : Cond.code yX10_tear cX10_tear 2 (some .int) ∈ BG := BG_at5 220 rfl rfl
theorem wd_910 : Cond.instanceMethod yX10_tear ∈ BG := BG_at5 218 (by decide +kernel) rfl
theorem wd_911 : Cond.selects RX10 yX10_tear yX10_tear ∈ BG := BG_at5 219 (by decide +kernel) rfl
theorem okV_X10_tear : okV yX10_tear cX10_tear 2 (some .int) 0 := ⟨⟨wd_909, wd_497, by decide +kernel⟩, wd_910, wd_911⟩
theorem fk_cL_law_58 : fq_ck cL_law 928 [125, 87, 167, 0, 85, 43, 182, 0, 126, 87, 44, 182, 0, 129, 87, 167, 0, 72] := fq_of fW_cL_law 58 rfl rfl
theorem dL_law_929 : decode cL_law 929 = .ok (.pop, 1) := fq_87 fk_cL_law_58 1 rfl rfl
theorem dL_law_930 : decode cL_law 930 = .ok (.goto 85, 3) := fq_167 fk_cL_law_58 2 rfl rfl rfl rfl rfl
theorem dL_law_933 : decode cL_law 933 = .ok (.aload_n 1, 1) := fq_43 fk_cL_law_58 5 rfl rfl
theorem dL_law_934 : decode cL_law 934 = .ok (.invokevirtual 126, 3) := fq_182 fk_cL_law_58 6 rfl rfl rfl rfl rfl
theorem wd_912 : Cond.methodLink RL 126 yX9_judge ∈ BG := BG_at4 29 (by decide +kernel) rfl
theorem wd_913 : Cond.code yX9_judge cX9_judge 1 (some .int) ∈ BG := BG_at4 32 rfl rfl
theorem wd_914 : Cond.instanceMethod yX9_judge ∈ BG := BG_at4 30 (by decide +kernel) rfl
theorem wd_915 : Cond.selects RX9 yX9_judge yX9_judge ∈ BG := BG_at4 31 (by decide +kernel) rfl
theorem okV_X9_judge : okV yX9_judge cX9_judge 1 (some .int) 0 := ⟨⟨wd_913, wd_71, by decide +kernel⟩, wd_914, wd_915⟩
theorem dL_law_937 : decode cL_law 937 = .ok (.pop, 1) := fq_87 fk_cL_law_58 9 rfl rfl
theorem dL_law_938 : decode cL_law 938 = .ok (.aload_n 2, 1) := fq_44 fk_cL_law_58 10 rfl rfl
theorem dL_law_939 : decode cL_law 939 = .ok (.invokevirtual 129, 3) := fq_182 fk_cL_law_58 11 rfl rfl rfl rfl rfl
theorem wd_916 : Cond.methodLink RL 129 yX10_judge ∈ BG := BG_at5 221 (by decide +kernel) rfl
theorem wd_917 : Cond.code yX10_judge cX10_judge 2 (some .int) ∈ BG := BG_at5 224 rfl rfl
theorem wd_918 : Cond.instanceMethod yX10_judge ∈ BG := BG_at5 222 (by decide +kernel) rfl
theorem wd_919 : Cond.selects RX10 yX10_judge yX10_judge ∈ BG := BG_at5 223 (by decide +kernel) rfl
theorem okV_X10_judge : okV yX10_judge cX10_judge 2 (some .int) 0 := ⟨⟨wd_917, wd_497, by decide +kernel⟩, wd_918, wd_919⟩
theorem dL_law_942 : decode cL_law 942 = .ok (.pop, 1) := fq_87 fk_cL_law_58 14 rfl rfl
theorem dL_law_943 : decode cL_law 943 = .ok (.goto 72, 3) := fq_167 fk_cL_law_58 15 rfl rfl rfl rfl rfl
theorem fk_cL_law_59 : fq_ck cL_law 944 [0, 72, 43, 42, 29, 4, 96, 46, 182, 0, 130, 44, 42, 29, 4, 96, 46, 182] := fq_of fW_cL_law 59 rfl rfl
theorem dL_law_946 : decode cL_law 946 = .ok (.aload_n 1, 1) := fq_43 fk_cL_law_59 2 rfl rfl
theorem dL_law_947 : decode cL_law 947 = .ok (.aload_n 0, 1) := fq_42 fk_cL_law_59 3 rfl rfl
theorem dL_law_948 : decode cL_law 948 = .ok (.iload_n 3, 1) := fq_29 fk_cL_law_59 4 rfl rfl
theorem dL_law_949 : decode cL_law 949 = .ok (.iconst 1, 1) := fq_4 fk_cL_law_59 5 rfl rfl
theorem dL_law_950 : decode cL_law 950 = .ok (.iadd, 1) := fq_96 fk_cL_law_59 6 rfl rfl
theorem dL_law_951 : decode cL_law 951 = .ok (.iaload, 1) := fq_46 fk_cL_law_59 7 rfl rfl
theorem dL_law_952 : decode cL_law 952 = .ok (.invokevirtual 130, 3) := fq_182 fk_cL_law_59 8 rfl rfl rfl rfl rfl
theorem wd_920 : Cond.methodLink RL 130 yX9_seed ∈ BG := BG_at4 39 (by decide +kernel) rfl
theorem wd_921 : Cond.code yX9_seed cX9_seed 3 (some .int) ∈ BG := BG_at4 42 rfl rfl
theorem wd_922 : Cond.instanceMethod yX9_seed ∈ BG := BG_at4 40 (by decide +kernel) rfl
theorem wd_923 : Cond.selects RX9 yX9_seed yX9_seed ∈ BG := BG_at4 41 (by decide +kernel) rfl
theorem okV_X9_seed : okV yX9_seed cX9_seed 3 (some .int) 1 := ⟨⟨wd_921, wd_71, by decide +kernel⟩, wd_922, wd_923⟩
theorem dL_law_955 : decode cL_law 955 = .ok (.aload_n 2, 1) := fq_44 fk_cL_law_59 11 rfl rfl
theorem dL_law_956 : decode cL_law 956 = .ok (.aload_n 0, 1) := fq_42 fk_cL_law_59 12 rfl rfl
theorem dL_law_957 : decode cL_law 957 = .ok (.iload_n 3, 1) := fq_29 fk_cL_law_59 13 rfl rfl
theorem dL_law_958 : decode cL_law 958 = .ok (.iconst 1, 1) := fq_4 fk_cL_law_59 14 rfl rfl
theorem dL_law_959 : decode cL_law 959 = .ok (.iadd, 1) := fq_96 fk_cL_law_59 15 rfl rfl
theorem fk_cL_law_60 : fq_ck cL_law 960 [46, 182, 0, 133, 159, 0, 51, 3, 172, 43, 42, 29, 4, 96, 46, 182, 0, 134] := fq_of fW_cL_law 60 rfl rfl
theorem dL_law_960 : decode cL_law 960 = .ok (.iaload, 1) := fq_46 fk_cL_law_60 0 rfl rfl
theorem dL_law_961 : decode cL_law 961 = .ok (.invokevirtual 133, 3) := fq_182 fk_cL_law_60 1 rfl rfl rfl rfl rfl
theorem wd_924 : Cond.methodLink RL 133 yX10_seed ∈ BG := BG_at5 225 (by decide +kernel) rfl
theorem wd_925 : Cond.code yX10_seed cX10_seed 3 (some .int) ∈ BG := BG_at5 228 rfl rfl
theorem wd_926 : Cond.instanceMethod yX10_seed ∈ BG := BG_at5 226 (by decide +kernel) rfl
theorem wd_927 : Cond.selects RX10 yX10_seed yX10_seed ∈ BG := BG_at5 227 (by decide +kernel) rfl
theorem okV_X10_seed : okV yX10_seed cX10_seed 3 (some .int) 1 := ⟨⟨wd_925, wd_497, by decide +kernel⟩, wd_926, wd_927⟩
theorem dL_law_964 : decode cL_law 964 = .ok (.if_icmp .eq 51, 3) := fq_159 fk_cL_law_60 4 rfl rfl rfl rfl rfl
theorem dL_law_969 : decode cL_law 969 = .ok (.aload_n 1, 1) := fq_43 fk_cL_law_60 9 rfl rfl
theorem dL_law_970 : decode cL_law 970 = .ok (.aload_n 0, 1) := fq_42 fk_cL_law_60 10 rfl rfl
theorem dL_law_971 : decode cL_law 971 = .ok (.iload_n 3, 1) := fq_29 fk_cL_law_60 11 rfl rfl
theorem dL_law_972 : decode cL_law 972 = .ok (.iconst 1, 1) := fq_4 fk_cL_law_60 12 rfl rfl
theorem dL_law_973 : decode cL_law 973 = .ok (.iadd, 1) := fq_96 fk_cL_law_60 13 rfl rfl
theorem dL_law_974 : decode cL_law 974 = .ok (.iaload, 1) := fq_46 fk_cL_law_60 14 rfl rfl
theorem dL_law_975 : decode cL_law 975 = .ok (.invokevirtual 134, 3) := fq_182 fk_cL_law_60 15 rfl rfl rfl rfl rfl
theorem wd_928 : Cond.methodLink RL 134 yX9_keep ∈ BG := BG_at4 43 (by decide +kernel) rfl
theorem wd_929 : Cond.code yX9_keep cX9_keep 2 (some .int) ∈ BG := BG_at4 46 rfl rfl
theorem wd_930 : Cond.instanceMethod yX9_keep ∈ BG := BG_at4 44 (by decide +kernel) rfl
theorem wd_931 : Cond.selects RX9 yX9_keep yX9_keep ∈ BG := BG_at4 45 (by decide +kernel) rfl
theorem okV_X9_keep : okV yX9_keep cX9_keep 2 (some .int) 1 := ⟨⟨wd_929, wd_71, by decide +kernel⟩, wd_930, wd_931⟩
theorem fk_cL_law_61 : fq_ck cL_law 976 [0, 134, 87, 44, 42, 29, 4, 96, 46, 182, 0, 137, 87, 167, 0, 26, 43, 42] := fq_of fW_cL_law 61 rfl rfl
theorem dL_law_978 : decode cL_law 978 = .ok (.pop, 1) := fq_87 fk_cL_law_61 2 rfl rfl
theorem dL_law_979 : decode cL_law 979 = .ok (.aload_n 2, 1) := fq_44 fk_cL_law_61 3 rfl rfl
theorem dL_law_980 : decode cL_law 980 = .ok (.aload_n 0, 1) := fq_42 fk_cL_law_61 4 rfl rfl
theorem dL_law_981 : decode cL_law 981 = .ok (.iload_n 3, 1) := fq_29 fk_cL_law_61 5 rfl rfl
theorem dL_law_982 : decode cL_law 982 = .ok (.iconst 1, 1) := fq_4 fk_cL_law_61 6 rfl rfl
theorem dL_law_983 : decode cL_law 983 = .ok (.iadd, 1) := fq_96 fk_cL_law_61 7 rfl rfl
theorem dL_law_984 : decode cL_law 984 = .ok (.iaload, 1) := fq_46 fk_cL_law_61 8 rfl rfl
theorem dL_law_985 : decode cL_law 985 = .ok (.invokevirtual 137, 3) := fq_182 fk_cL_law_61 9 rfl rfl rfl rfl rfl
theorem wd_932 : Cond.methodLink RL 137 yX10_keep ∈ BG := BG_at5 229 (by decide +kernel) rfl
theorem wd_933 : Cond.code yX10_keep cX10_keep 2 (some .int) ∈ BG := BG_at5 232 rfl rfl
theorem wd_934 : Cond.instanceMethod yX10_keep ∈ BG := BG_at5 230 (by decide +kernel) rfl
theorem wd_935 : Cond.selects RX10 yX10_keep yX10_keep ∈ BG := BG_at5 231 (by decide +kernel) rfl
theorem okV_X10_keep : okV yX10_keep cX10_keep 2 (some .int) 1 := ⟨⟨wd_933, wd_497, by decide +kernel⟩, wd_934, wd_935⟩
theorem dL_law_988 : decode cL_law 988 = .ok (.pop, 1) := fq_87 fk_cL_law_61 12 rfl rfl
theorem dL_law_989 : decode cL_law 989 = .ok (.goto 26, 3) := fq_167 fk_cL_law_61 13 rfl rfl rfl rfl rfl
theorem fk_cL_law_62 : fq_ck cL_law 992 [43, 42, 29, 4, 96, 46, 182, 0, 138, 87, 44, 42, 29, 4, 96, 46, 182, 0] := fq_of fW_cL_law 62 rfl rfl
theorem dL_law_992 : decode cL_law 992 = .ok (.aload_n 1, 1) := fq_43 fk_cL_law_62 0 rfl rfl
theorem dL_law_993 : decode cL_law 993 = .ok (.aload_n 0, 1) := fq_42 fk_cL_law_62 1 rfl rfl
theorem dL_law_994 : decode cL_law 994 = .ok (.iload_n 3, 1) := fq_29 fk_cL_law_62 2 rfl rfl
theorem dL_law_995 : decode cL_law 995 = .ok (.iconst 1, 1) := fq_4 fk_cL_law_62 3 rfl rfl
theorem dL_law_996 : decode cL_law 996 = .ok (.iadd, 1) := fq_96 fk_cL_law_62 4 rfl rfl
theorem dL_law_997 : decode cL_law 997 = .ok (.iaload, 1) := fq_46 fk_cL_law_62 5 rfl rfl
theorem dL_law_998 : decode cL_law 998 = .ok (.invokevirtual 138, 3) := fq_182 fk_cL_law_62 6 rfl rfl rfl rfl rfl
theorem wd_936 : Cond.methodLink RL 138 yX9_goBack ∈ BG := BG_at4 48 (by decide +kernel) rfl
theorem wd_937 : Cond.code yX9_goBack cX9_goBack 2 (some .int) ∈ BG := BG_at4 51 rfl rfl
theorem wd_938 : Cond.instanceMethod yX9_goBack ∈ BG := BG_at4 49 (by decide +kernel) rfl
theorem wd_939 : Cond.selects RX9 yX9_goBack yX9_goBack ∈ BG := BG_at4 50 (by decide +kernel) rfl
theorem okV_X9_goBack : okV yX9_goBack cX9_goBack 2 (some .int) 1 := ⟨⟨wd_937, wd_71, by decide +kernel⟩, wd_938, wd_939⟩
theorem dL_law_1001 : decode cL_law 1001 = .ok (.pop, 1) := fq_87 fk_cL_law_62 9 rfl rfl
theorem dL_law_1002 : decode cL_law 1002 = .ok (.aload_n 2, 1) := fq_44 fk_cL_law_62 10 rfl rfl
theorem dL_law_1003 : decode cL_law 1003 = .ok (.aload_n 0, 1) := fq_42 fk_cL_law_62 11 rfl rfl
theorem dL_law_1004 : decode cL_law 1004 = .ok (.iload_n 3, 1) := fq_29 fk_cL_law_62 12 rfl rfl
theorem dL_law_1005 : decode cL_law 1005 = .ok (.iconst 1, 1) := fq_4 fk_cL_law_62 13 rfl rfl
theorem dL_law_1006 : decode cL_law 1006 = .ok (.iadd, 1) := fq_96 fk_cL_law_62 14 rfl rfl
theorem dL_law_1007 : decode cL_law 1007 = .ok (.iaload, 1) := fq_46 fk_cL_law_62 15 rfl rfl
theorem dL_law_1008 : decode cL_law 1008 = .ok (.invokevirtual 141, 3) := fq_182 fk_cL_law_63 0 rfl rfl rfl rfl rfl
theorem wd_940 : Cond.methodLink RL 141 yX10_goBack ∈ BG := BG_at5 233 (by decide +kernel) rfl
theorem wd_941 : Cond.code yX10_goBack cX10_goBack 2 (some .int) ∈ BG := BG_at5 236 rfl rfl
theorem wd_942 : Cond.instanceMethod yX10_goBack ∈ BG := BG_at5 234 (by decide +kernel) rfl
theorem wd_943 : Cond.selects RX10 yX10_goBack yX10_goBack ∈ BG := BG_at5 235 (by decide +kernel) rfl
theorem okV_X10_goBack : okV yX10_goBack cX10_goBack 2 (some .int) 1 := ⟨⟨wd_941, wd_497, by decide +kernel⟩, wd_942, wd_943⟩
theorem dL_law_1011 : decode cL_law 1011 = .ok (.pop, 1) := fq_87 fk_cL_law_63 3 rfl rfl
theorem dL_law_1012 : decode cL_law 1012 = .ok (.goto 3, 3) := fq_167 fk_cL_law_63 4 rfl rfl rfl rfl rfl
end
section
def Wx_fleet (cI cZ : ClassId) (xh : Nat) (v_x : Nat) (v_q1 : Int32) (v_q2 : Int32) (v_rd : Nat) (v_t : Nat) (v_d : Nat) (v_nw : Nat) (v_ps : Nat) (v_im : Nat) (v_is_ : Nat) (v_q10 : Int32) (v_bk : Nat) (v_q12 : Int32) (v_qr : Nat) (v_pr : Nat) (v_cv : Nat) (v_ft : Nat) (v_t0 : Int32) (v_t1 : Int32) (v_t2 : Int32) (v_t3 : Int32) (v_t4 : Int32) (v_ta : Nat) (v_tb : Nat) (v_tc : Nat) (v_td : Nat) (v_te : Nat) (v_fta : Nat → Int32) (v_nwc : Nat) (v_fn : Nat → Int32) : va_W := [(xh, .inr (9, [.ref v_x, .int v_q1, .int v_q2, .ref v_rd, .ref v_t, .ref v_d, .ref v_nw, .ref v_ps, .ref v_im, .ref v_is_, .int v_q10, .ref v_bk, .int v_q12, .ref v_qr, .ref v_pr, .ref v_cv, .ref v_ft])), (v_t, .inr (8, [.int v_t0, .int v_t1, .int v_t2, .int v_t3, .int v_t4, .ref v_ta, .ref v_tb, .ref v_tc, .ref v_td, .ref v_te])), (v_ta, .inl (cI, 6, .inl v_fta)), (v_nw, .inr (7, [.ref v_nwc])), (v_nwc, .inl (cI, 41, .inl v_fn))]
def Wm_fleet (cI cZ : ClassId) (yh : Nat) (Rf : Nat → Nat) (G : Nat → Int32) (f0 : Nat → Int32) (f8 : Nat → Int32) : va_W := [(yh, .inr (10, ML G Rf)), ((Rf 0), .inl (cI, 1302, .inl f0)), ((Rf 8), .inl (cI, 6, .inl f8))]
set_option maxHeartbeats 4000000 in
set_option maxRecDepth 100000 in
theorem law_fleet {p : Program} {l : Launch} {e : Env} {s : State} {m : MethodId} {below : List Frame} {meth : Method} {c : Code} {D : va_G} {cI cZ : ClassId} {b : Nat} {xs : Nat → Int32} {L : Nat} (wr : va_W) (v_x : Nat) (v_q1 : Int32) (v_q2 : Int32) (v_rd : Nat) (v_t : Nat) (v_d : Nat) (v_nw : Nat) (v_ps : Nat) (v_im : Nat) (v_is_ : Nat) (v_q10 : Int32) (v_bk : Nat) (v_q12 : Int32) (v_qr : Nat) (v_pr : Nat) (v_cv : Nat) (v_ft : Nat) (v_t0 : Int32) (v_t1 : Int32) (v_t2 : Int32) (v_t3 : Int32) (v_t4 : Int32) (v_ta : Nat) (v_tb : Nat) (v_tc : Nat) (v_td : Nat) (v_te : Nat) (v_fta : Nat → Int32) (v_nwc : Nat) (v_fn : Nat → Int32) (Rf : Nat → Nat) (G : Nat → Int32) (f0 : Nat → Int32) (f8 : Nat → Int32) {xh yh : Nat} {iv : Int32} (C0 : lw_C p s m meth c b L xs) {H : Heap} {locs : List Loc} {ls : Array Slot} (hi1 : ¬ ((iv + 1) < 0 ∨ L ≤ (iv + 1 : Int32).toNatClampNeg)) (hi2 : ¬ ((iv + 2) < 0 ∨ L ≤ (iv + 2 : Int32).toNatClampNeg)) (hi3 : ¬ ((iv + 3) < 0 ∨ L ≤ (iv + 3 : Int32).toNatClampNeg)) (hi4 : ¬ ((iv + 4) < 0 ∨ L ≤ (iv + 4 : Int32).toNatClampNeg)) (hK : va_K D classes (TYS cI cZ) s) (hs : S_m_fleet G f0 f8 (xs ((iv + 1) : Int32).toNatClampNeg)) (hP : va_P D classes ((Wx_fleet cI cZ xh v_x v_q1 v_q2 v_rd v_t v_d v_nw v_ps v_im v_is_ v_q10 v_bk v_q12 v_qr v_pr v_cv v_ft v_t0 v_t1 v_t2 v_t3 v_t4 v_ta v_tb v_tc v_td v_te v_fta v_nwc v_fn) ++ ((Wm_fleet cI cZ yh Rf G f0 f8) ++ wr)) H) (hD : va_D (lw_A s) ((Wx_fleet cI cZ xh v_x v_q1 v_q2 v_rd v_t v_d v_nw v_ps v_im v_is_ v_q10 v_bk v_q12 v_qr v_pr v_cv v_ft v_t0 v_t1 v_t2 v_t3 v_t4 v_ta v_tb v_tc v_td v_te v_fta v_nwc v_fn) ++ ((Wm_fleet cI cZ yh Rf G f0 f8) ++ wr))) (hS : va_S (lw_A s) s.heap H locs) (hl : lv_has ls 4 [(0, .ref b), (1, .ref xh), (2, .ref yh), (3, .int iv)]) (hnext : ∀ (rx : Int32) (ry : Int32) (H : Heap) (locs : List Loc) (ls : Array Slot), rx = (f_e_fleet_x9 v_q1 v_q2 v_q10 v_q12 v_t0 v_t1 v_t2 v_t3 v_t4 v_fta v_fn (xs ((iv + 1) : Int32).toNatClampNeg)) → ry = (f_m_fleet G f0 f8 (xs ((iv + 1) : Int32).toNatClampNeg)) → va_P D classes ((Wx_fleet cI cZ xh v_x v_q1 v_q2 v_rd v_t v_d v_nw v_ps v_im v_is_ v_q10 v_bk v_q12 v_qr v_pr v_cv v_ft v_t0 v_t1 v_t2 v_t3 v_t4 v_ta v_tb v_tc v_td v_te v_fta v_nwc v_fn) ++ ((Wm_fleet cI cZ yh Rf G f0 f8) ++ wr)) H → va_D (lw_A s) ((Wx_fleet cI cZ xh v_x v_q1 v_q2 v_rd v_t v_d v_nw v_ps v_im v_is_ v_q10 v_bk v_q12 v_qr v_pr v_cv v_ft v_t0 v_t1 v_t2 v_t3 v_t4 v_ta v_tb v_tc v_td v_te v_fta v_nwc v_fn) ++ ((Wm_fleet cI cZ yh Rf G f0 f8) ++ wr)) → va_S (lw_A s) s.heap H locs → lv_has ls 4 [(0, .ref b), (1, .ref xh), (2, .ref yh), (3, .int iv)] → W p l e room_1 s m #[Value.ref b] below meth c H locs 60 4269 (lw_Z below #[Value.ref b] s) (F0 m 1015 ls [])) : W p l e room_1 s m #[Value.ref b] below meth c H locs 60 4269 (lw_Z below #[Value.ref b] s) (F0 m 864 ls []) := by
  obtain ⟨hx, hb, hr, hml, hown, hts, hX, hbl, hlocks, hN⟩ := C0
  have hA : ∀ q, s.heap.size ≤ q → lw_A s q := fun _ h => h
  have hbA : ¬ lw_A s b := Nat.not_le.mpr hbl
  refine lv_aload_n hx hb dL_law_864 rfl (lv_at hl 1 rfl) ?_
  refine lv_aload_n hx hb dL_law_865 rfl (lv_at hl 0 rfl) ?_
  refine lv_iload_n hx hb dL_law_866 rfl (lv_at hl 3 rfl) ?_
  refine lv_iconst (v := 1) hx hb dL_law_867 rfl ?_
  refine lv_iadd hx hb dL_law_868 ?_
  refine va_sld hx hb hX hbl hbA hS hi1 dL_law_869 ?_
  refine cVa (wc := (Wx_fleet cI cZ xh v_x v_q1 v_q2 v_rd v_t v_d v_nw v_ps v_im v_is_ v_q10 v_bk v_q12 v_qr v_pr v_cv v_ft v_t0 v_t1 v_t2 v_t3 v_t4 v_ta v_tb v_tc v_td v_te v_fta v_nwc v_fn)) (wr := ((Wm_fleet cI cZ yh Rf G f0 f8) ++ wr)) (rest := []) (e_fleet_x9 xh v_x v_rd v_t v_d v_nw v_ps v_im v_is_ v_bk v_qr v_pr v_cv v_ft v_ta v_tb v_tc v_td v_te v_nwc v_q1 v_q2 v_q10 v_q12 v_t0 v_t1 v_t2 v_t3 v_t4 v_fta v_fn (xs ((iv + 1) : Int32).toNatClampNeg)) okV_X9_fleet wd_888 hx hb hml hown hts hK hP hD hS hA hN hl.1 rfl rfl rfl (Nat.le_of_ble_eq_true rfl) (Nat.le_of_ble_eq_true rfl) (Nat.le_of_ble_eq_true rfl) (Nat.le_of_ble_eq_true rfl) (Nat.le_of_ble_eq_true rfl) dL_law_870 (fun rx u1 H locs ex hP hD hS => ?_)
  replace ex : rx = (f_e_fleet_x9 v_q1 v_q2 v_q10 v_q12 v_t0 v_t1 v_t2 v_t3 v_t4 v_fta v_fn (xs ((iv + 1) : Int32).toNatClampNeg)) := ex
  have hP : va_P D classes (((Wm_fleet cI cZ yh Rf G f0 f8) ++ wr) ++ (Wx_fleet cI cZ xh v_x v_q1 v_q2 v_rd v_t v_d v_nw v_ps v_im v_is_ v_q10 v_bk v_q12 v_qr v_pr v_cv v_ft v_t0 v_t1 v_t2 v_t3 v_t4 v_ta v_tb v_tc v_td v_te v_fta v_nwc v_fn)) H := hP
  have hD : va_D (lw_A s) (((Wm_fleet cI cZ yh Rf G f0 f8) ++ wr) ++ (Wx_fleet cI cZ xh v_x v_q1 v_q2 v_rd v_t v_d v_nw v_ps v_im v_is_ v_q10 v_bk v_q12 v_qr v_pr v_cv v_ft v_t0 v_t1 v_t2 v_t3 v_t4 v_ta v_tb v_tc v_td v_te v_fta v_nwc v_fn)) := hD
  rw [List.append_assoc] at hP hD
  refine lv_pop hx hb dL_law_873 rfl ?_
  refine lv_aload_n hx hb dL_law_874 rfl (lv_at hl 2 rfl) ?_
  refine lv_aload_n hx hb dL_law_875 rfl (lv_at hl 0 rfl) ?_
  refine lv_iload_n hx hb dL_law_876 rfl (lv_at hl 3 rfl) ?_
  refine lv_iconst (v := 1) hx hb dL_law_877 rfl ?_
  refine lv_iadd hx hb dL_law_878 ?_
  refine va_sld hx hb hX hbl hbA hS hi1 dL_law_879 ?_
  refine cVa (wc := (Wm_fleet cI cZ yh Rf G f0 f8)) (wr := (wr ++ (Wx_fleet cI cZ xh v_x v_q1 v_q2 v_rd v_t v_d v_nw v_ps v_im v_is_ v_q10 v_bk v_q12 v_qr v_pr v_cv v_ft v_t0 v_t1 v_t2 v_t3 v_t4 v_ta v_tb v_tc v_td v_te v_fta v_nwc v_fn))) (rest := []) (m_fleet Rf yh G f0 f8 (xs ((iv + 1) : Int32).toNatClampNeg) hs) okV_X10_fleet wd_892 hx hb hml hown hts hK hP hD hS hA hN hl.1 rfl rfl rfl (Nat.le_of_ble_eq_true rfl) (Nat.le_of_ble_eq_true rfl) (Nat.le_of_ble_eq_true rfl) (Nat.le_of_ble_eq_true rfl) (Nat.le_of_ble_eq_true rfl) dL_law_880 (fun ry u2 H locs em hP hD hS => ?_)
  replace em : ry = (f_m_fleet G f0 f8 (xs ((iv + 1) : Int32).toNatClampNeg)) := em
  have hP : va_P D classes ((wr ++ (Wx_fleet cI cZ xh v_x v_q1 v_q2 v_rd v_t v_d v_nw v_ps v_im v_is_ v_q10 v_bk v_q12 v_qr v_pr v_cv v_ft v_t0 v_t1 v_t2 v_t3 v_t4 v_ta v_tb v_tc v_td v_te v_fta v_nwc v_fn)) ++ (Wm_fleet cI cZ yh Rf G f0 f8)) H := hP
  have hD : va_D (lw_A s) ((wr ++ (Wx_fleet cI cZ xh v_x v_q1 v_q2 v_rd v_t v_d v_nw v_ps v_im v_is_ v_q10 v_bk v_q12 v_qr v_pr v_cv v_ft v_t0 v_t1 v_t2 v_t3 v_t4 v_ta v_tb v_tc v_td v_te v_fta v_nwc v_fn)) ++ (Wm_fleet cI cZ yh Rf G f0 f8)) := hD
  refine lv_pop hx hb dL_law_883 rfl ?_
  refine lv_goto (tgt := 1015) hx hb dL_law_884 rfl ?_
  exact hnext rx ry _ _ _ ex em (permP rot hP) (permD rot hD) hS hl
def Wx_write (cI cZ : ClassId) (xh : Nat) (v_x : Nat) (v_q1 : Int32) (v_q2 : Int32) (v_rd : Nat) (v_t : Nat) (v_d : Nat) (v_nw : Nat) (v_ps : Nat) (v_im : Nat) (v_is_ : Nat) (v_q10 : Int32) (v_bk : Nat) (v_q12 : Int32) (v_qr : Nat) (v_pr : Nat) (v_cv : Nat) (v_ft : Nat) (v_t0 : Int32) (v_t1 : Int32) (v_t2 : Int32) (v_t3 : Int32) (v_t4 : Int32) (v_ta : Nat) (v_tb : Nat) (v_tc : Nat) (v_td : Nat) (v_te : Nat) (v_b0 : Int32) (v_bka : Nat) (v_bkb : Nat) (v_fba : Nat → Int32) (v_fbb : Nat → Int32) : va_W := [(xh, .inr (9, [.ref v_x, .int v_q1, .int v_q2, .ref v_rd, .ref v_t, .ref v_d, .ref v_nw, .ref v_ps, .ref v_im, .ref v_is_, .int v_q10, .ref v_bk, .int v_q12, .ref v_qr, .ref v_pr, .ref v_cv, .ref v_ft])), (v_t, .inr (8, [.int v_t0, .int v_t1, .int v_t2, .int v_t3, .int v_t4, .ref v_ta, .ref v_tb, .ref v_tc, .ref v_td, .ref v_te])), (v_bk, .inr (0, [.int v_b0, .ref v_bka, .ref v_bkb])), (v_bka, .inl (cI, 15, .inl v_fba)), (v_bkb, .inl (cI, 15, .inl v_fbb))]
def Wm_write (cI cZ : ClassId) (yh : Nat) (Rf : Nat → Nat) (G : Nat → Int32) (f43 : Nat → Int32) (f44 : Nat → Int32) : va_W := [(yh, .inr (10, ML G Rf)), ((Rf 43), .inl (cI, 15, .inl f43)), ((Rf 44), .inl (cI, 15, .inl f44))]
set_option maxHeartbeats 4000000 in
set_option maxRecDepth 100000 in
theorem law_write {p : Program} {l : Launch} {e : Env} {s : State} {m : MethodId} {below : List Frame} {meth : Method} {c : Code} {D : va_G} {cI cZ : ClassId} {b : Nat} {xs : Nat → Int32} {L : Nat} (wr : va_W) (v_x : Nat) (v_q1 : Int32) (v_q2 : Int32) (v_rd : Nat) (v_t : Nat) (v_d : Nat) (v_nw : Nat) (v_ps : Nat) (v_im : Nat) (v_is_ : Nat) (v_q10 : Int32) (v_bk : Nat) (v_q12 : Int32) (v_qr : Nat) (v_pr : Nat) (v_cv : Nat) (v_ft : Nat) (v_t0 : Int32) (v_t1 : Int32) (v_t2 : Int32) (v_t3 : Int32) (v_t4 : Int32) (v_ta : Nat) (v_tb : Nat) (v_tc : Nat) (v_td : Nat) (v_te : Nat) (v_b0 : Int32) (v_bka : Nat) (v_bkb : Nat) (v_fba : Nat → Int32) (v_fbb : Nat → Int32) (Rf : Nat → Nat) (G : Nat → Int32) (f43 : Nat → Int32) (f44 : Nat → Int32) {xh yh : Nat} {iv : Int32} (C0 : lw_C p s m meth c b L xs) {H : Heap} {locs : List Loc} {ls : Array Slot} (hi1 : ¬ ((iv + 1) < 0 ∨ L ≤ (iv + 1 : Int32).toNatClampNeg)) (hi2 : ¬ ((iv + 2) < 0 ∨ L ≤ (iv + 2 : Int32).toNatClampNeg)) (hi3 : ¬ ((iv + 3) < 0 ∨ L ≤ (iv + 3 : Int32).toNatClampNeg)) (hi4 : ¬ ((iv + 4) < 0 ∨ L ≤ (iv + 4 : Int32).toNatClampNeg)) (hK : va_K D classes (TYS cI cZ) s) (hs : S_m_write G f43 f44 (xs ((iv + 1) : Int32).toNatClampNeg) (xs ((iv + 2) : Int32).toNatClampNeg)) (hP : va_P D classes ((Wx_write cI cZ xh v_x v_q1 v_q2 v_rd v_t v_d v_nw v_ps v_im v_is_ v_q10 v_bk v_q12 v_qr v_pr v_cv v_ft v_t0 v_t1 v_t2 v_t3 v_t4 v_ta v_tb v_tc v_td v_te v_b0 v_bka v_bkb v_fba v_fbb) ++ ((Wm_write cI cZ yh Rf G f43 f44) ++ wr)) H) (hD : va_D (lw_A s) ((Wx_write cI cZ xh v_x v_q1 v_q2 v_rd v_t v_d v_nw v_ps v_im v_is_ v_q10 v_bk v_q12 v_qr v_pr v_cv v_ft v_t0 v_t1 v_t2 v_t3 v_t4 v_ta v_tb v_tc v_td v_te v_b0 v_bka v_bkb v_fba v_fbb) ++ ((Wm_write cI cZ yh Rf G f43 f44) ++ wr))) (hS : va_S (lw_A s) s.heap H locs) (hl : lv_has ls 4 [(0, .ref b), (1, .ref xh), (2, .ref yh), (3, .int iv)]) (hnext : ∀ (rx : Int32) (x0 : Int32) (x1 : (Nat → Int32)) (x2 : (Nat → Int32)) (ry : Int32) (y0 : (Nat → Int32)) (y1 : (Nat → Int32)) (y2 : (Nat → Int32)) (H : Heap) (locs : List Loc) (ls : Array Slot), (rx, x0, x1, x2) = (f_e_write_x9 v_q1 v_q2 v_q10 v_q12 v_t0 v_t1 v_t2 v_t3 v_t4 v_b0 v_fba v_fbb (xs ((iv + 1) : Int32).toNatClampNeg) (xs ((iv + 2) : Int32).toNatClampNeg)) → (ry, y0, y1, y2) = (f_m_write G f43 f44 (xs ((iv + 1) : Int32).toNatClampNeg) (xs ((iv + 2) : Int32).toNatClampNeg)) → va_P D classes ((Wx_write cI cZ xh v_x v_q1 v_q2 v_rd v_t v_d v_nw v_ps v_im v_is_ v_q10 v_bk v_q12 v_qr v_pr v_cv v_ft v_t0 v_t1 v_t2 v_t3 v_t4 v_ta v_tb v_tc v_td v_te x0 v_bka v_bkb x1 x2) ++ ((Wm_write cI cZ yh Rf y0 y1 y2) ++ wr)) H → va_D (lw_A s) ((Wx_write cI cZ xh v_x v_q1 v_q2 v_rd v_t v_d v_nw v_ps v_im v_is_ v_q10 v_bk v_q12 v_qr v_pr v_cv v_ft v_t0 v_t1 v_t2 v_t3 v_t4 v_ta v_tb v_tc v_td v_te x0 v_bka v_bkb x1 x2) ++ ((Wm_write cI cZ yh Rf y0 y1 y2) ++ wr)) → va_S (lw_A s) s.heap H locs → lv_has ls 4 [(0, .ref b), (1, .ref xh), (2, .ref yh), (3, .int iv)] → W p l e room_1 s m #[Value.ref b] below meth c H locs 60 4269 (lw_Z below #[Value.ref b] s) (F0 m 1015 ls [])) : W p l e room_1 s m #[Value.ref b] below meth c H locs 60 4269 (lw_Z below #[Value.ref b] s) (F0 m 887 ls []) := by
  obtain ⟨hx, hb, hr, hml, hown, hts, hX, hbl, hlocks, hN⟩ := C0
  have hA : ∀ q, s.heap.size ≤ q → lw_A s q := fun _ h => h
  have hbA : ¬ lw_A s b := Nat.not_le.mpr hbl
  refine lv_aload_n hx hb dL_law_887 rfl (lv_at hl 1 rfl) ?_
  refine lv_aload_n hx hb dL_law_888 rfl (lv_at hl 0 rfl) ?_
  refine lv_iload_n hx hb dL_law_889 rfl (lv_at hl 3 rfl) ?_
  refine lv_iconst (v := 1) hx hb dL_law_890 rfl ?_
  refine lv_iadd hx hb dL_law_891 ?_
  refine va_sld hx hb hX hbl hbA hS hi1 dL_law_892 ?_
  refine lv_aload_n hx hb dL_law_893 rfl (lv_at hl 0 rfl) ?_
  refine lv_iload_n hx hb dL_law_894 rfl (lv_at hl 3 rfl) ?_
  refine lv_iconst (v := 2) hx hb dL_law_895 rfl ?_
  refine lv_iadd hx hb dL_law_896 ?_
  refine va_sld hx hb hX hbl hbA hS hi2 dL_law_897 ?_
  refine cVa (wc := (Wx_write cI cZ xh v_x v_q1 v_q2 v_rd v_t v_d v_nw v_ps v_im v_is_ v_q10 v_bk v_q12 v_qr v_pr v_cv v_ft v_t0 v_t1 v_t2 v_t3 v_t4 v_ta v_tb v_tc v_td v_te v_b0 v_bka v_bkb v_fba v_fbb)) (wr := ((Wm_write cI cZ yh Rf G f43 f44) ++ wr)) (rest := []) (e_write_x9 xh v_x v_rd v_t v_d v_nw v_ps v_im v_is_ v_bk v_qr v_pr v_cv v_ft v_ta v_tb v_tc v_td v_te v_bka v_bkb v_q1 v_q2 v_q10 v_q12 v_t0 v_t1 v_t2 v_t3 v_t4 v_b0 v_fba v_fbb (xs ((iv + 1) : Int32).toNatClampNeg) (xs ((iv + 2) : Int32).toNatClampNeg)) okV_X9_write wd_896 hx hb hml hown hts hK hP hD hS hA hN hl.1 rfl rfl rfl (Nat.le_of_ble_eq_true rfl) (Nat.le_of_ble_eq_true rfl) (Nat.le_of_ble_eq_true rfl) (Nat.le_of_ble_eq_true rfl) (Nat.le_of_ble_eq_true rfl) dL_law_898 (fun rx u1 H locs ex hP hD hS => ?_)
  obtain ⟨x0, x1, x2⟩ := u1
  replace ex : (rx, x0, x1, x2) = (f_e_write_x9 v_q1 v_q2 v_q10 v_q12 v_t0 v_t1 v_t2 v_t3 v_t4 v_b0 v_fba v_fbb (xs ((iv + 1) : Int32).toNatClampNeg) (xs ((iv + 2) : Int32).toNatClampNeg)) := ex
  have hP : va_P D classes (((Wm_write cI cZ yh Rf G f43 f44) ++ wr) ++ (Wx_write cI cZ xh v_x v_q1 v_q2 v_rd v_t v_d v_nw v_ps v_im v_is_ v_q10 v_bk v_q12 v_qr v_pr v_cv v_ft v_t0 v_t1 v_t2 v_t3 v_t4 v_ta v_tb v_tc v_td v_te x0 v_bka v_bkb x1 x2)) H := hP
  have hD : va_D (lw_A s) (((Wm_write cI cZ yh Rf G f43 f44) ++ wr) ++ (Wx_write cI cZ xh v_x v_q1 v_q2 v_rd v_t v_d v_nw v_ps v_im v_is_ v_q10 v_bk v_q12 v_qr v_pr v_cv v_ft v_t0 v_t1 v_t2 v_t3 v_t4 v_ta v_tb v_tc v_td v_te x0 v_bka v_bkb x1 x2)) := hD
  rw [List.append_assoc] at hP hD
  refine lv_pop hx hb dL_law_901 rfl ?_
  refine lv_aload_n hx hb dL_law_902 rfl (lv_at hl 2 rfl) ?_
  refine lv_aload_n hx hb dL_law_903 rfl (lv_at hl 0 rfl) ?_
  refine lv_iload_n hx hb dL_law_904 rfl (lv_at hl 3 rfl) ?_
  refine lv_iconst (v := 1) hx hb dL_law_905 rfl ?_
  refine lv_iadd hx hb dL_law_906 ?_
  refine va_sld hx hb hX hbl hbA hS hi1 dL_law_907 ?_
  refine lv_aload_n hx hb dL_law_908 rfl (lv_at hl 0 rfl) ?_
  refine lv_iload_n hx hb dL_law_909 rfl (lv_at hl 3 rfl) ?_
  refine lv_iconst (v := 2) hx hb dL_law_910 rfl ?_
  refine lv_iadd hx hb dL_law_911 ?_
  refine va_sld hx hb hX hbl hbA hS hi2 dL_law_912 ?_
  refine cVa (wc := (Wm_write cI cZ yh Rf G f43 f44)) (wr := (wr ++ (Wx_write cI cZ xh v_x v_q1 v_q2 v_rd v_t v_d v_nw v_ps v_im v_is_ v_q10 v_bk v_q12 v_qr v_pr v_cv v_ft v_t0 v_t1 v_t2 v_t3 v_t4 v_ta v_tb v_tc v_td v_te x0 v_bka v_bkb x1 x2))) (rest := []) (m_write Rf yh G f43 f44 (xs ((iv + 1) : Int32).toNatClampNeg) (xs ((iv + 2) : Int32).toNatClampNeg) hs) okV_X10_write wd_900 hx hb hml hown hts hK hP hD hS hA hN hl.1 rfl rfl rfl (Nat.le_of_ble_eq_true rfl) (Nat.le_of_ble_eq_true rfl) (Nat.le_of_ble_eq_true rfl) (Nat.le_of_ble_eq_true rfl) (Nat.le_of_ble_eq_true rfl) dL_law_913 (fun ry u2 H locs em hP hD hS => ?_)
  obtain ⟨y0, y1, y2⟩ := u2
  replace em : (ry, y0, y1, y2) = (f_m_write G f43 f44 (xs ((iv + 1) : Int32).toNatClampNeg) (xs ((iv + 2) : Int32).toNatClampNeg)) := em
  have hP : va_P D classes ((wr ++ (Wx_write cI cZ xh v_x v_q1 v_q2 v_rd v_t v_d v_nw v_ps v_im v_is_ v_q10 v_bk v_q12 v_qr v_pr v_cv v_ft v_t0 v_t1 v_t2 v_t3 v_t4 v_ta v_tb v_tc v_td v_te x0 v_bka v_bkb x1 x2)) ++ (Wm_write cI cZ yh Rf y0 y1 y2)) H := hP
  have hD : va_D (lw_A s) ((wr ++ (Wx_write cI cZ xh v_x v_q1 v_q2 v_rd v_t v_d v_nw v_ps v_im v_is_ v_q10 v_bk v_q12 v_qr v_pr v_cv v_ft v_t0 v_t1 v_t2 v_t3 v_t4 v_ta v_tb v_tc v_td v_te x0 v_bka v_bkb x1 x2)) ++ (Wm_write cI cZ yh Rf y0 y1 y2)) := hD
  refine lv_pop hx hb dL_law_916 rfl ?_
  refine lv_goto (tgt := 1015) hx hb dL_law_917 rfl ?_
  exact hnext rx x0 x1 x2 ry y0 y1 y2 _ _ _ ex em (permP rot hP) (permD rot hD) hS hl
def Wx_tear (cI cZ : ClassId) (xh : Nat) (v_x : Nat) (v_q1 : Int32) (v_q2 : Int32) (v_rd : Nat) (v_t : Nat) (v_d : Nat) (v_nw : Nat) (v_ps : Nat) (v_im : Nat) (v_is_ : Nat) (v_q10 : Int32) (v_bk : Nat) (v_q12 : Int32) (v_qr : Nat) (v_pr : Nat) (v_cv : Nat) (v_ft : Nat) (v_b0 : Int32) (v_bka : Nat) (v_bkb : Nat) : va_W := [(xh, .inr (9, [.ref v_x, .int v_q1, .int v_q2, .ref v_rd, .ref v_t, .ref v_d, .ref v_nw, .ref v_ps, .ref v_im, .ref v_is_, .int v_q10, .ref v_bk, .int v_q12, .ref v_qr, .ref v_pr, .ref v_cv, .ref v_ft])), (v_bk, .inr (0, [.int v_b0, .ref v_bka, .ref v_bkb]))]
def Wm_tear (cI cZ : ClassId) (yh : Nat) (Rf : Nat → Nat) (G : Nat → Int32) : va_W := [(yh, .inr (10, ML G Rf))]
set_option maxHeartbeats 4000000 in
set_option maxRecDepth 100000 in
theorem law_tear {p : Program} {l : Launch} {e : Env} {s : State} {m : MethodId} {below : List Frame} {meth : Method} {c : Code} {D : va_G} {cI cZ : ClassId} {b : Nat} {xs : Nat → Int32} {L : Nat} (wr : va_W) (v_x : Nat) (v_q1 : Int32) (v_q2 : Int32) (v_rd : Nat) (v_t : Nat) (v_d : Nat) (v_nw : Nat) (v_ps : Nat) (v_im : Nat) (v_is_ : Nat) (v_q10 : Int32) (v_bk : Nat) (v_q12 : Int32) (v_qr : Nat) (v_pr : Nat) (v_cv : Nat) (v_ft : Nat) (v_b0 : Int32) (v_bka : Nat) (v_bkb : Nat) (Rf : Nat → Nat) (G : Nat → Int32) {xh yh : Nat} {iv : Int32} (C0 : lw_C p s m meth c b L xs) {H : Heap} {locs : List Loc} {ls : Array Slot} (hi1 : ¬ ((iv + 1) < 0 ∨ L ≤ (iv + 1 : Int32).toNatClampNeg)) (hi2 : ¬ ((iv + 2) < 0 ∨ L ≤ (iv + 2 : Int32).toNatClampNeg)) (hi3 : ¬ ((iv + 3) < 0 ∨ L ≤ (iv + 3 : Int32).toNatClampNeg)) (hi4 : ¬ ((iv + 4) < 0 ∨ L ≤ (iv + 4 : Int32).toNatClampNeg)) (hK : va_K D classes (TYS cI cZ) s) (hs : S_m_tear G) (hP : va_P D classes ((Wx_tear cI cZ xh v_x v_q1 v_q2 v_rd v_t v_d v_nw v_ps v_im v_is_ v_q10 v_bk v_q12 v_qr v_pr v_cv v_ft v_b0 v_bka v_bkb) ++ ((Wm_tear cI cZ yh Rf G) ++ wr)) H) (hD : va_D (lw_A s) ((Wx_tear cI cZ xh v_x v_q1 v_q2 v_rd v_t v_d v_nw v_ps v_im v_is_ v_q10 v_bk v_q12 v_qr v_pr v_cv v_ft v_b0 v_bka v_bkb) ++ ((Wm_tear cI cZ yh Rf G) ++ wr))) (hS : va_S (lw_A s) s.heap H locs) (hl : lv_has ls 4 [(0, .ref b), (1, .ref xh), (2, .ref yh), (3, .int iv)]) (hnext : ∀ (rx : Int32) (x0 : Int32) (ry : Int32) (y0 : (Nat → Int32)) (H : Heap) (locs : List Loc) (ls : Array Slot), (rx, x0) = (f_e_tear_x9 v_q1 v_q2 v_q10 v_q12 v_b0) → (ry, y0) = (f_m_tear G) → va_P D classes ((Wx_tear cI cZ xh v_x v_q1 v_q2 v_rd v_t v_d v_nw v_ps v_im v_is_ v_q10 v_bk v_q12 v_qr v_pr v_cv v_ft x0 v_bka v_bkb) ++ ((Wm_tear cI cZ yh Rf y0) ++ wr)) H → va_D (lw_A s) ((Wx_tear cI cZ xh v_x v_q1 v_q2 v_rd v_t v_d v_nw v_ps v_im v_is_ v_q10 v_bk v_q12 v_qr v_pr v_cv v_ft x0 v_bka v_bkb) ++ ((Wm_tear cI cZ yh Rf y0) ++ wr)) → va_S (lw_A s) s.heap H locs → lv_has ls 4 [(0, .ref b), (1, .ref xh), (2, .ref yh), (3, .int iv)] → W p l e room_1 s m #[Value.ref b] below meth c H locs 60 4269 (lw_Z below #[Value.ref b] s) (F0 m 1015 ls [])) : W p l e room_1 s m #[Value.ref b] below meth c H locs 60 4269 (lw_Z below #[Value.ref b] s) (F0 m 920 ls []) := by
  obtain ⟨hx, hb, hr, hml, hown, hts, hX, hbl, hlocks, hN⟩ := C0
  have hA : ∀ q, s.heap.size ≤ q → lw_A s q := fun _ h => h
  have hbA : ¬ lw_A s b := Nat.not_le.mpr hbl
  refine lv_aload_n hx hb dL_law_920 rfl (lv_at hl 1 rfl) ?_
  refine cVa (wc := (Wx_tear cI cZ xh v_x v_q1 v_q2 v_rd v_t v_d v_nw v_ps v_im v_is_ v_q10 v_bk v_q12 v_qr v_pr v_cv v_ft v_b0 v_bka v_bkb)) (wr := ((Wm_tear cI cZ yh Rf G) ++ wr)) (rest := []) (e_tear_x9 xh v_x v_rd v_t v_d v_nw v_ps v_im v_is_ v_bk v_qr v_pr v_cv v_ft v_bka v_bkb v_q1 v_q2 v_q10 v_q12 v_b0) okV_X9_tear wd_904 hx hb hml hown hts hK hP hD hS hA hN hl.1 rfl rfl rfl (Nat.le_of_ble_eq_true rfl) (Nat.le_of_ble_eq_true rfl) (Nat.le_of_ble_eq_true rfl) (Nat.le_of_ble_eq_true rfl) (Nat.le_of_ble_eq_true rfl) dL_law_921 (fun rx u1 H locs ex hP hD hS => ?_)
  obtain ⟨x0, hx0⟩ : ∃ q, q = u1 := ⟨_, rfl⟩
  subst hx0
  replace ex : (rx, x0) = (f_e_tear_x9 v_q1 v_q2 v_q10 v_q12 v_b0) := ex
  have hP : va_P D classes (((Wm_tear cI cZ yh Rf G) ++ wr) ++ (Wx_tear cI cZ xh v_x v_q1 v_q2 v_rd v_t v_d v_nw v_ps v_im v_is_ v_q10 v_bk v_q12 v_qr v_pr v_cv v_ft x0 v_bka v_bkb)) H := hP
  have hD : va_D (lw_A s) (((Wm_tear cI cZ yh Rf G) ++ wr) ++ (Wx_tear cI cZ xh v_x v_q1 v_q2 v_rd v_t v_d v_nw v_ps v_im v_is_ v_q10 v_bk v_q12 v_qr v_pr v_cv v_ft x0 v_bka v_bkb)) := hD
  rw [List.append_assoc] at hP hD
  refine lv_pop hx hb dL_law_924 rfl ?_
  refine lv_aload_n hx hb dL_law_925 rfl (lv_at hl 2 rfl) ?_
  refine cVa (wc := (Wm_tear cI cZ yh Rf G)) (wr := (wr ++ (Wx_tear cI cZ xh v_x v_q1 v_q2 v_rd v_t v_d v_nw v_ps v_im v_is_ v_q10 v_bk v_q12 v_qr v_pr v_cv v_ft x0 v_bka v_bkb))) (rest := []) (m_tear Rf yh G hs) okV_X10_tear wd_908 hx hb hml hown hts hK hP hD hS hA hN hl.1 rfl rfl rfl (Nat.le_of_ble_eq_true rfl) (Nat.le_of_ble_eq_true rfl) (Nat.le_of_ble_eq_true rfl) (Nat.le_of_ble_eq_true rfl) (Nat.le_of_ble_eq_true rfl) dL_law_926 (fun ry u2 H locs em hP hD hS => ?_)
  obtain ⟨y0, hy0⟩ : ∃ q, q = u2 := ⟨_, rfl⟩
  subst hy0
  replace em : (ry, y0) = (f_m_tear G) := em
  have hP : va_P D classes ((wr ++ (Wx_tear cI cZ xh v_x v_q1 v_q2 v_rd v_t v_d v_nw v_ps v_im v_is_ v_q10 v_bk v_q12 v_qr v_pr v_cv v_ft x0 v_bka v_bkb)) ++ (Wm_tear cI cZ yh Rf y0)) H := hP
  have hD : va_D (lw_A s) ((wr ++ (Wx_tear cI cZ xh v_x v_q1 v_q2 v_rd v_t v_d v_nw v_ps v_im v_is_ v_q10 v_bk v_q12 v_qr v_pr v_cv v_ft x0 v_bka v_bkb)) ++ (Wm_tear cI cZ yh Rf y0)) := hD
  refine lv_pop hx hb dL_law_929 rfl ?_
  refine lv_goto (tgt := 1015) hx hb dL_law_930 rfl ?_
  exact hnext rx x0 ry y0 _ _ _ ex em (permP rot hP) (permD rot hD) hS hl
def Wx_judge (cI cZ : ClassId) (xh : Nat) (v_x : Nat) (v_q1 : Int32) (v_q2 : Int32) (v_rd : Nat) (v_t : Nat) (v_d : Nat) (v_nw : Nat) (v_ps : Nat) (v_im : Nat) (v_is_ : Nat) (v_q10 : Int32) (v_bk : Nat) (v_q12 : Int32) (v_qr : Nat) (v_pr : Nat) (v_cv : Nat) (v_ft : Nat) (v_nwc : Nat) (v_fn : Nat → Int32) (v_b0 : Int32) (v_bka : Nat) (v_bkb : Nat) (v_fba : Nat → Int32) (v_fbb : Nat → Int32) : va_W := [(xh, .inr (9, [.ref v_x, .int v_q1, .int v_q2, .ref v_rd, .ref v_t, .ref v_d, .ref v_nw, .ref v_ps, .ref v_im, .ref v_is_, .int v_q10, .ref v_bk, .int v_q12, .ref v_qr, .ref v_pr, .ref v_cv, .ref v_ft])), (v_bk, .inr (0, [.int v_b0, .ref v_bka, .ref v_bkb])), (v_bka, .inl (cI, 15, .inl v_fba)), (v_bkb, .inl (cI, 15, .inl v_fbb)), (v_nw, .inr (7, [.ref v_nwc])), (v_nwc, .inl (cI, 41, .inl v_fn))]
def Wm_judge (cI cZ : ClassId) (yh : Nat) (Rf : Nat → Nat) (G : Nat → Int32) (f0 : Nat → Int32) (f43 : Nat → Int32) (f44 : Nat → Int32) : va_W := [(yh, .inr (10, ML G Rf)), ((Rf 0), .inl (cI, 1302, .inl f0)), ((Rf 43), .inl (cI, 15, .inl f43)), ((Rf 44), .inl (cI, 15, .inl f44))]
set_option maxHeartbeats 4000000 in
set_option maxRecDepth 100000 in
theorem law_judge {p : Program} {l : Launch} {e : Env} {s : State} {m : MethodId} {below : List Frame} {meth : Method} {c : Code} {D : va_G} {cI cZ : ClassId} {b : Nat} {xs : Nat → Int32} {L : Nat} (wr : va_W) (v_x : Nat) (v_q1 : Int32) (v_q2 : Int32) (v_rd : Nat) (v_t : Nat) (v_d : Nat) (v_nw : Nat) (v_ps : Nat) (v_im : Nat) (v_is_ : Nat) (v_q10 : Int32) (v_bk : Nat) (v_q12 : Int32) (v_qr : Nat) (v_pr : Nat) (v_cv : Nat) (v_ft : Nat) (v_nwc : Nat) (v_fn : Nat → Int32) (v_b0 : Int32) (v_bka : Nat) (v_bkb : Nat) (v_fba : Nat → Int32) (v_fbb : Nat → Int32) (Rf : Nat → Nat) (G : Nat → Int32) (f0 : Nat → Int32) (f43 : Nat → Int32) (f44 : Nat → Int32) {xh yh : Nat} {iv : Int32} (C0 : lw_C p s m meth c b L xs) {H : Heap} {locs : List Loc} {ls : Array Slot} (hi1 : ¬ ((iv + 1) < 0 ∨ L ≤ (iv + 1 : Int32).toNatClampNeg)) (hi2 : ¬ ((iv + 2) < 0 ∨ L ≤ (iv + 2 : Int32).toNatClampNeg)) (hi3 : ¬ ((iv + 3) < 0 ∨ L ≤ (iv + 3 : Int32).toNatClampNeg)) (hi4 : ¬ ((iv + 4) < 0 ∨ L ≤ (iv + 4 : Int32).toNatClampNeg)) (hK : va_K D classes (TYS cI cZ) s) (hs : S_m_judge G f0 f43 f44) (hP : va_P D classes ((Wx_judge cI cZ xh v_x v_q1 v_q2 v_rd v_t v_d v_nw v_ps v_im v_is_ v_q10 v_bk v_q12 v_qr v_pr v_cv v_ft v_nwc v_fn v_b0 v_bka v_bkb v_fba v_fbb) ++ ((Wm_judge cI cZ yh Rf G f0 f43 f44) ++ wr)) H) (hD : va_D (lw_A s) ((Wx_judge cI cZ xh v_x v_q1 v_q2 v_rd v_t v_d v_nw v_ps v_im v_is_ v_q10 v_bk v_q12 v_qr v_pr v_cv v_ft v_nwc v_fn v_b0 v_bka v_bkb v_fba v_fbb) ++ ((Wm_judge cI cZ yh Rf G f0 f43 f44) ++ wr))) (hS : va_S (lw_A s) s.heap H locs) (hl : lv_has ls 4 [(0, .ref b), (1, .ref xh), (2, .ref yh), (3, .int iv)]) (hnext : ∀ (rx : Int32) (ry : Int32) (H : Heap) (locs : List Loc) (ls : Array Slot), rx = (f_e_judge_x9 v_q1 v_q2 v_q10 v_q12 v_b0 v_fba v_fbb v_fn) → ry = (f_m_judge G f0 f43 f44) → va_P D classes ((Wx_judge cI cZ xh v_x v_q1 v_q2 v_rd v_t v_d v_nw v_ps v_im v_is_ v_q10 v_bk v_q12 v_qr v_pr v_cv v_ft v_nwc v_fn v_b0 v_bka v_bkb v_fba v_fbb) ++ ((Wm_judge cI cZ yh Rf G f0 f43 f44) ++ wr)) H → va_D (lw_A s) ((Wx_judge cI cZ xh v_x v_q1 v_q2 v_rd v_t v_d v_nw v_ps v_im v_is_ v_q10 v_bk v_q12 v_qr v_pr v_cv v_ft v_nwc v_fn v_b0 v_bka v_bkb v_fba v_fbb) ++ ((Wm_judge cI cZ yh Rf G f0 f43 f44) ++ wr)) → va_S (lw_A s) s.heap H locs → lv_has ls 4 [(0, .ref b), (1, .ref xh), (2, .ref yh), (3, .int iv)] → W p l e room_1 s m #[Value.ref b] below meth c H locs 60 4269 (lw_Z below #[Value.ref b] s) (F0 m 1015 ls [])) : W p l e room_1 s m #[Value.ref b] below meth c H locs 60 4269 (lw_Z below #[Value.ref b] s) (F0 m 933 ls []) := by
  obtain ⟨hx, hb, hr, hml, hown, hts, hX, hbl, hlocks, hN⟩ := C0
  have hA : ∀ q, s.heap.size ≤ q → lw_A s q := fun _ h => h
  have hbA : ¬ lw_A s b := Nat.not_le.mpr hbl
  refine lv_aload_n hx hb dL_law_933 rfl (lv_at hl 1 rfl) ?_
  refine cVa (wc := (Wx_judge cI cZ xh v_x v_q1 v_q2 v_rd v_t v_d v_nw v_ps v_im v_is_ v_q10 v_bk v_q12 v_qr v_pr v_cv v_ft v_nwc v_fn v_b0 v_bka v_bkb v_fba v_fbb)) (wr := ((Wm_judge cI cZ yh Rf G f0 f43 f44) ++ wr)) (rest := []) (e_judge_x9 xh v_x v_rd v_t v_d v_nw v_ps v_im v_is_ v_bk v_qr v_pr v_cv v_ft v_bka v_bkb v_nwc v_q1 v_q2 v_q10 v_q12 v_b0 v_fba v_fbb v_fn) okV_X9_judge wd_912 hx hb hml hown hts hK hP hD hS hA hN hl.1 rfl rfl rfl (Nat.le_of_ble_eq_true rfl) (Nat.le_of_ble_eq_true rfl) (Nat.le_of_ble_eq_true rfl) (Nat.le_of_ble_eq_true rfl) (Nat.le_of_ble_eq_true rfl) dL_law_934 (fun rx u1 H locs ex hP hD hS => ?_)
  replace ex : rx = (f_e_judge_x9 v_q1 v_q2 v_q10 v_q12 v_b0 v_fba v_fbb v_fn) := ex
  have hP : va_P D classes (((Wm_judge cI cZ yh Rf G f0 f43 f44) ++ wr) ++ (Wx_judge cI cZ xh v_x v_q1 v_q2 v_rd v_t v_d v_nw v_ps v_im v_is_ v_q10 v_bk v_q12 v_qr v_pr v_cv v_ft v_nwc v_fn v_b0 v_bka v_bkb v_fba v_fbb)) H := hP
  have hD : va_D (lw_A s) (((Wm_judge cI cZ yh Rf G f0 f43 f44) ++ wr) ++ (Wx_judge cI cZ xh v_x v_q1 v_q2 v_rd v_t v_d v_nw v_ps v_im v_is_ v_q10 v_bk v_q12 v_qr v_pr v_cv v_ft v_nwc v_fn v_b0 v_bka v_bkb v_fba v_fbb)) := hD
  rw [List.append_assoc] at hP hD
  refine lv_pop hx hb dL_law_937 rfl ?_
  refine lv_aload_n hx hb dL_law_938 rfl (lv_at hl 2 rfl) ?_
  refine cVa (wc := (Wm_judge cI cZ yh Rf G f0 f43 f44)) (wr := (wr ++ (Wx_judge cI cZ xh v_x v_q1 v_q2 v_rd v_t v_d v_nw v_ps v_im v_is_ v_q10 v_bk v_q12 v_qr v_pr v_cv v_ft v_nwc v_fn v_b0 v_bka v_bkb v_fba v_fbb))) (rest := []) (m_judge Rf yh G f0 f43 f44 hs) okV_X10_judge wd_916 hx hb hml hown hts hK hP hD hS hA hN hl.1 rfl rfl rfl (Nat.le_of_ble_eq_true rfl) (Nat.le_of_ble_eq_true rfl) (Nat.le_of_ble_eq_true rfl) (Nat.le_of_ble_eq_true rfl) (Nat.le_of_ble_eq_true rfl) dL_law_939 (fun ry u2 H locs em hP hD hS => ?_)
  replace em : ry = (f_m_judge G f0 f43 f44) := em
  have hP : va_P D classes ((wr ++ (Wx_judge cI cZ xh v_x v_q1 v_q2 v_rd v_t v_d v_nw v_ps v_im v_is_ v_q10 v_bk v_q12 v_qr v_pr v_cv v_ft v_nwc v_fn v_b0 v_bka v_bkb v_fba v_fbb)) ++ (Wm_judge cI cZ yh Rf G f0 f43 f44)) H := hP
  have hD : va_D (lw_A s) ((wr ++ (Wx_judge cI cZ xh v_x v_q1 v_q2 v_rd v_t v_d v_nw v_ps v_im v_is_ v_q10 v_bk v_q12 v_qr v_pr v_cv v_ft v_nwc v_fn v_b0 v_bka v_bkb v_fba v_fbb)) ++ (Wm_judge cI cZ yh Rf G f0 f43 f44)) := hD
  refine lv_pop hx hb dL_law_942 rfl ?_
  refine lv_goto (tgt := 1015) hx hb dL_law_943 rfl ?_
  exact hnext rx ry _ _ _ ex em (permP rot hP) (permD rot hD) hS hl
def Wx_seed (cI cZ : ClassId) (xh : Nat) (v_x : Nat) (v_q1 : Int32) (v_q2 : Int32) (v_rd : Nat) (v_t : Nat) (v_d : Nat) (v_nw : Nat) (v_ps : Nat) (v_im : Nat) (v_is_ : Nat) (v_q10 : Int32) (v_bk : Nat) (v_q12 : Int32) (v_qr : Nat) (v_pr : Nat) (v_cv : Nat) (v_ft : Nat) : va_W := [(xh, .inr (9, [.ref v_x, .int v_q1, .int v_q2, .ref v_rd, .ref v_t, .ref v_d, .ref v_nw, .ref v_ps, .ref v_im, .ref v_is_, .int v_q10, .ref v_bk, .int v_q12, .ref v_qr, .ref v_pr, .ref v_cv, .ref v_ft]))]
def Wm_seed (cI cZ : ClassId) (yh : Nat) (Rf : Nat → Nat) (G : Nat → Int32) (f0 : Nat → Int32) : va_W := [(yh, .inr (10, ML G Rf)), ((Rf 0), .inl (cI, 1302, .inl f0))]
set_option maxHeartbeats 4000000 in
set_option maxRecDepth 100000 in
theorem law_seed {p : Program} {l : Launch} {e : Env} {s : State} {m : MethodId} {below : List Frame} {meth : Method} {c : Code} {D : va_G} {cI cZ : ClassId} {b : Nat} {xs : Nat → Int32} {L : Nat} (wr : va_W) (v_x : Nat) (v_q1 : Int32) (v_q2 : Int32) (v_rd : Nat) (v_t : Nat) (v_d : Nat) (v_nw : Nat) (v_ps : Nat) (v_im : Nat) (v_is_ : Nat) (v_q10 : Int32) (v_bk : Nat) (v_q12 : Int32) (v_qr : Nat) (v_pr : Nat) (v_cv : Nat) (v_ft : Nat) (Rf : Nat → Nat) (G : Nat → Int32) (f0 : Nat → Int32) {xh yh : Nat} {iv : Int32} (C0 : lw_C p s m meth c b L xs) {H : Heap} {locs : List Loc} {ls : Array Slot} (hi1 : ¬ ((iv + 1) < 0 ∨ L ≤ (iv + 1 : Int32).toNatClampNeg)) (hi2 : ¬ ((iv + 2) < 0 ∨ L ≤ (iv + 2 : Int32).toNatClampNeg)) (hi3 : ¬ ((iv + 3) < 0 ∨ L ≤ (iv + 3 : Int32).toNatClampNeg)) (hi4 : ¬ ((iv + 4) < 0 ∨ L ≤ (iv + 4 : Int32).toNatClampNeg)) (hK : va_K D classes (TYS cI cZ) s) (hs : S_m_seed f0 (xs ((iv + 1) : Int32).toNatClampNeg)) (hP : va_P D classes ((Wx_seed cI cZ xh v_x v_q1 v_q2 v_rd v_t v_d v_nw v_ps v_im v_is_ v_q10 v_bk v_q12 v_qr v_pr v_cv v_ft) ++ ((Wm_seed cI cZ yh Rf G f0) ++ wr)) H) (hD : va_D (lw_A s) ((Wx_seed cI cZ xh v_x v_q1 v_q2 v_rd v_t v_d v_nw v_ps v_im v_is_ v_q10 v_bk v_q12 v_qr v_pr v_cv v_ft) ++ ((Wm_seed cI cZ yh Rf G f0) ++ wr))) (hS : va_S (lw_A s) s.heap H locs) (hl : lv_has ls 4 [(0, .ref b), (1, .ref xh), (2, .ref yh), (3, .int iv)]) (hcmp : ∀ (rx ry : Int32) (x0 : Int32) (y0 : (Nat → Int32)), (rx, x0) = (f_e_seed_x9 v_q1 v_q2 v_q10 v_q12 (xs ((iv + 1) : Int32).toNatClampNeg)) → (ry, y0) = (f_m_seed f0 (xs ((iv + 1) : Int32).toNatClampNeg)) → rx = ry) (hnext : ∀ (rx : Int32) (x0 : Int32) (ry : Int32) (y0 : (Nat → Int32)) (H : Heap) (locs : List Loc) (ls : Array Slot), (rx, x0) = (f_e_seed_x9 v_q1 v_q2 v_q10 v_q12 (xs ((iv + 1) : Int32).toNatClampNeg)) → (ry, y0) = (f_m_seed f0 (xs ((iv + 1) : Int32).toNatClampNeg)) → va_P D classes ((Wx_seed cI cZ xh v_x v_q1 v_q2 v_rd v_t v_d v_nw v_ps v_im v_is_ v_q10 v_bk x0 v_qr v_pr v_cv v_ft) ++ ((Wm_seed cI cZ yh Rf G y0) ++ wr)) H → va_D (lw_A s) ((Wx_seed cI cZ xh v_x v_q1 v_q2 v_rd v_t v_d v_nw v_ps v_im v_is_ v_q10 v_bk x0 v_qr v_pr v_cv v_ft) ++ ((Wm_seed cI cZ yh Rf G y0) ++ wr)) → va_S (lw_A s) s.heap H locs → lv_has ls 4 [(0, .ref b), (1, .ref xh), (2, .ref yh), (3, .int iv)] → W p l e room_1 s m #[Value.ref b] below meth c H locs 60 4269 (lw_Z below #[Value.ref b] s) (F0 m 1015 ls [])) : W p l e room_1 s m #[Value.ref b] below meth c H locs 60 4269 (lw_Z below #[Value.ref b] s) (F0 m 946 ls []) := by
  obtain ⟨hx, hb, hr, hml, hown, hts, hX, hbl, hlocks, hN⟩ := C0
  have hA : ∀ q, s.heap.size ≤ q → lw_A s q := fun _ h => h
  have hbA : ¬ lw_A s b := Nat.not_le.mpr hbl
  refine lv_aload_n hx hb dL_law_946 rfl (lv_at hl 1 rfl) ?_
  refine lv_aload_n hx hb dL_law_947 rfl (lv_at hl 0 rfl) ?_
  refine lv_iload_n hx hb dL_law_948 rfl (lv_at hl 3 rfl) ?_
  refine lv_iconst (v := 1) hx hb dL_law_949 rfl ?_
  refine lv_iadd hx hb dL_law_950 ?_
  refine va_sld hx hb hX hbl hbA hS hi1 dL_law_951 ?_
  refine cVa (wc := (Wx_seed cI cZ xh v_x v_q1 v_q2 v_rd v_t v_d v_nw v_ps v_im v_is_ v_q10 v_bk v_q12 v_qr v_pr v_cv v_ft)) (wr := ((Wm_seed cI cZ yh Rf G f0) ++ wr)) (rest := []) (e_seed_x9 xh v_x v_rd v_t v_d v_nw v_ps v_im v_is_ v_bk v_qr v_pr v_cv v_ft v_q1 v_q2 v_q10 v_q12 (xs ((iv + 1) : Int32).toNatClampNeg)) okV_X9_seed wd_920 hx hb hml hown hts hK hP hD hS hA hN hl.1 rfl rfl rfl (Nat.le_of_ble_eq_true rfl) (Nat.le_of_ble_eq_true rfl) (Nat.le_of_ble_eq_true rfl) (Nat.le_of_ble_eq_true rfl) (Nat.le_of_ble_eq_true rfl) dL_law_952 (fun rx u1 H locs ex hP hD hS => ?_)
  obtain ⟨x0, hx0⟩ : ∃ q, q = u1 := ⟨_, rfl⟩
  subst hx0
  replace ex : (rx, x0) = (f_e_seed_x9 v_q1 v_q2 v_q10 v_q12 (xs ((iv + 1) : Int32).toNatClampNeg)) := ex
  have hP : va_P D classes (((Wm_seed cI cZ yh Rf G f0) ++ wr) ++ (Wx_seed cI cZ xh v_x v_q1 v_q2 v_rd v_t v_d v_nw v_ps v_im v_is_ v_q10 v_bk x0 v_qr v_pr v_cv v_ft)) H := hP
  have hD : va_D (lw_A s) (((Wm_seed cI cZ yh Rf G f0) ++ wr) ++ (Wx_seed cI cZ xh v_x v_q1 v_q2 v_rd v_t v_d v_nw v_ps v_im v_is_ v_q10 v_bk x0 v_qr v_pr v_cv v_ft)) := hD
  rw [List.append_assoc] at hP hD
  refine lv_aload_n hx hb dL_law_955 rfl (lv_at hl 2 rfl) ?_
  refine lv_aload_n hx hb dL_law_956 rfl (lv_at hl 0 rfl) ?_
  refine lv_iload_n hx hb dL_law_957 rfl (lv_at hl 3 rfl) ?_
  refine lv_iconst (v := 1) hx hb dL_law_958 rfl ?_
  refine lv_iadd hx hb dL_law_959 ?_
  refine va_sld hx hb hX hbl hbA hS hi1 dL_law_960 ?_
  refine cVa (wc := (Wm_seed cI cZ yh Rf G f0)) (wr := (wr ++ (Wx_seed cI cZ xh v_x v_q1 v_q2 v_rd v_t v_d v_nw v_ps v_im v_is_ v_q10 v_bk x0 v_qr v_pr v_cv v_ft))) (rest := [.int rx]) (m_seed Rf yh G f0 (xs ((iv + 1) : Int32).toNatClampNeg) hs) okV_X10_seed wd_924 hx hb hml hown hts hK hP hD hS hA hN hl.1 rfl rfl rfl (Nat.le_of_ble_eq_true rfl) (Nat.le_of_ble_eq_true rfl) (Nat.le_of_ble_eq_true rfl) (Nat.le_of_ble_eq_true rfl) (Nat.le_of_ble_eq_true rfl) dL_law_961 (fun ry u2 H locs em hP hD hS => ?_)
  obtain ⟨y0, hy0⟩ : ∃ q, q = u2 := ⟨_, rfl⟩
  subst hy0
  replace em : (ry, y0) = (f_m_seed f0 (xs ((iv + 1) : Int32).toNatClampNeg)) := em
  have hP : va_P D classes ((wr ++ (Wx_seed cI cZ xh v_x v_q1 v_q2 v_rd v_t v_d v_nw v_ps v_im v_is_ v_q10 v_bk x0 v_qr v_pr v_cv v_ft)) ++ (Wm_seed cI cZ yh Rf G y0)) H := hP
  have hD : va_D (lw_A s) ((wr ++ (Wx_seed cI cZ xh v_x v_q1 v_q2 v_rd v_t v_d v_nw v_ps v_im v_is_ v_q10 v_bk x0 v_qr v_pr v_cv v_ft)) ++ (Wm_seed cI cZ yh Rf G y0)) := hD
  refine lv_icmp_eq (tgt := 1015) hx hb dL_law_964 rfl (fun c_1 => ?_) (fun c_1 => absurd (hcmp _ _ _ _ ex em) c_1)
  exact hnext rx x0 ry y0 _ _ _ ex em (permP rot hP) (permD rot hD) hS hl
def Wx_keep (cI cZ : ClassId) (xh : Nat) (v_x : Nat) (v_q1 : Int32) (v_q2 : Int32) (v_rd : Nat) (v_t : Nat) (v_d : Nat) (v_nw : Nat) (v_ps : Nat) (v_im : Nat) (v_is_ : Nat) (v_q10 : Int32) (v_bk : Nat) (v_q12 : Int32) (v_qr : Nat) (v_pr : Nat) (v_cv : Nat) (v_ft : Nat) (v_nwc : Nat) (v_fn : Nat → Int32) (v_sh : Nat) (v_p1 : Int32) (v_p2 : Int32) (v_imc : Nat) (v_fim : Nat → Int32) (v_fis : Nat → Int32) : va_W := [(xh, .inr (9, [.ref v_x, .int v_q1, .int v_q2, .ref v_rd, .ref v_t, .ref v_d, .ref v_nw, .ref v_ps, .ref v_im, .ref v_is_, .int v_q10, .ref v_bk, .int v_q12, .ref v_qr, .ref v_pr, .ref v_cv, .ref v_ft])), (v_im, .inr (6, [.int 2, .ref v_imc])), (v_imc, .inl (cI, 82, .inl v_fim)), (v_is_, .inl (cI, 2, .inl v_fis)), (v_nw, .inr (7, [.ref v_nwc])), (v_nwc, .inl (cI, 41, .inl v_fn)), (v_ps, .inr (2, [.ref v_sh, .int v_p1, .int v_p2]))]
def Wm_keep (cI cZ : ClassId) (yh : Nat) (Rf : Nat → Nat) (G : Nat → Int32) (f0 : Nat → Int32) (f1 : Nat → Int32) : va_W := [(yh, .inr (10, ML G Rf)), ((Rf 0), .inl (cI, 1302, .inl f0)), ((Rf 1), .inl (cZ, 2, .inl f1))]
set_option maxHeartbeats 4000000 in
set_option maxRecDepth 100000 in
theorem law_keep {p : Program} {l : Launch} {e : Env} {s : State} {m : MethodId} {below : List Frame} {meth : Method} {c : Code} {D : va_G} {cI cZ : ClassId} {b : Nat} {xs : Nat → Int32} {L : Nat} (wr : va_W) (v_x : Nat) (v_q1 : Int32) (v_q2 : Int32) (v_rd : Nat) (v_t : Nat) (v_d : Nat) (v_nw : Nat) (v_ps : Nat) (v_im : Nat) (v_is_ : Nat) (v_q10 : Int32) (v_bk : Nat) (v_q12 : Int32) (v_qr : Nat) (v_pr : Nat) (v_cv : Nat) (v_ft : Nat) (v_nwc : Nat) (v_fn : Nat → Int32) (v_sh : Nat) (v_p1 : Int32) (v_p2 : Int32) (v_imc : Nat) (v_fim : Nat → Int32) (v_fis : Nat → Int32) (Rf : Nat → Nat) (G : Nat → Int32) (f0 : Nat → Int32) (f1 : Nat → Int32) {xh yh : Nat} {iv : Int32} (C0 : lw_C p s m meth c b L xs) {H : Heap} {locs : List Loc} {ls : Array Slot} (hi1 : ¬ ((iv + 1) < 0 ∨ L ≤ (iv + 1 : Int32).toNatClampNeg)) (hi2 : ¬ ((iv + 2) < 0 ∨ L ≤ (iv + 2 : Int32).toNatClampNeg)) (hi3 : ¬ ((iv + 3) < 0 ∨ L ≤ (iv + 3 : Int32).toNatClampNeg)) (hi4 : ¬ ((iv + 4) < 0 ∨ L ≤ (iv + 4 : Int32).toNatClampNeg)) (hK : va_K D classes (TYS cI cZ) s) (hs : S_m_keep G f0 f1 (xs ((iv + 1) : Int32).toNatClampNeg)) (hP : va_P D classes ((Wx_keep cI cZ xh v_x v_q1 v_q2 v_rd v_t v_d v_nw v_ps v_im v_is_ v_q10 v_bk v_q12 v_qr v_pr v_cv v_ft v_nwc v_fn v_sh v_p1 v_p2 v_imc v_fim v_fis) ++ ((Wm_keep cI cZ yh Rf G f0 f1) ++ wr)) H) (hD : va_D (lw_A s) ((Wx_keep cI cZ xh v_x v_q1 v_q2 v_rd v_t v_d v_nw v_ps v_im v_is_ v_q10 v_bk v_q12 v_qr v_pr v_cv v_ft v_nwc v_fn v_sh v_p1 v_p2 v_imc v_fim v_fis) ++ ((Wm_keep cI cZ yh Rf G f0 f1) ++ wr))) (hS : va_S (lw_A s) s.heap H locs) (hl : lv_has ls 4 [(0, .ref b), (1, .ref xh), (2, .ref yh), (3, .int iv)]) (hnext : ∀ (rx : Int32) (x0 : Int32) (x1 : (Nat → Int32)) (x2 : (Nat → Int32)) (x3 : Int32) (ry : Int32) (y0 : (Nat → Int32)) (y1 : (Nat → Int32)) (y2 : (Nat → Int32)) (H : Heap) (locs : List Loc) (ls : Array Slot), (rx, x0, x1, x2, x3) = (f_e_keep_x9 v_q1 v_q2 v_q10 v_q12 v_fim v_fis v_fn v_p1 v_p2 (xs ((iv + 1) : Int32).toNatClampNeg)) → (ry, y0, y1, y2) = (f_m_keep G f0 f1 (xs ((iv + 1) : Int32).toNatClampNeg)) → va_P D classes ((Wx_keep cI cZ xh v_x v_q1 v_q2 v_rd v_t v_d v_nw v_ps v_im v_is_ x0 v_bk v_q12 v_qr v_pr v_cv v_ft v_nwc v_fn v_sh v_p1 x3 v_imc x1 x2) ++ ((Wm_keep cI cZ yh Rf y0 y1 y2) ++ wr)) H → va_D (lw_A s) ((Wx_keep cI cZ xh v_x v_q1 v_q2 v_rd v_t v_d v_nw v_ps v_im v_is_ x0 v_bk v_q12 v_qr v_pr v_cv v_ft v_nwc v_fn v_sh v_p1 x3 v_imc x1 x2) ++ ((Wm_keep cI cZ yh Rf y0 y1 y2) ++ wr)) → va_S (lw_A s) s.heap H locs → lv_has ls 4 [(0, .ref b), (1, .ref xh), (2, .ref yh), (3, .int iv)] → W p l e room_1 s m #[Value.ref b] below meth c H locs 60 4269 (lw_Z below #[Value.ref b] s) (F0 m 1015 ls [])) : W p l e room_1 s m #[Value.ref b] below meth c H locs 60 4269 (lw_Z below #[Value.ref b] s) (F0 m 969 ls []) := by
  obtain ⟨hx, hb, hr, hml, hown, hts, hX, hbl, hlocks, hN⟩ := C0
  have hA : ∀ q, s.heap.size ≤ q → lw_A s q := fun _ h => h
  have hbA : ¬ lw_A s b := Nat.not_le.mpr hbl
  refine lv_aload_n hx hb dL_law_969 rfl (lv_at hl 1 rfl) ?_
  refine lv_aload_n hx hb dL_law_970 rfl (lv_at hl 0 rfl) ?_
  refine lv_iload_n hx hb dL_law_971 rfl (lv_at hl 3 rfl) ?_
  refine lv_iconst (v := 1) hx hb dL_law_972 rfl ?_
  refine lv_iadd hx hb dL_law_973 ?_
  refine va_sld hx hb hX hbl hbA hS hi1 dL_law_974 ?_
  refine cVa (wc := (Wx_keep cI cZ xh v_x v_q1 v_q2 v_rd v_t v_d v_nw v_ps v_im v_is_ v_q10 v_bk v_q12 v_qr v_pr v_cv v_ft v_nwc v_fn v_sh v_p1 v_p2 v_imc v_fim v_fis)) (wr := ((Wm_keep cI cZ yh Rf G f0 f1) ++ wr)) (rest := []) (e_keep_x9 xh v_x v_rd v_t v_d v_nw v_ps v_im v_is_ v_bk v_qr v_pr v_cv v_ft v_imc v_nwc v_sh v_q1 v_q2 v_q10 v_q12 v_fim v_fis v_fn v_p1 v_p2 (xs ((iv + 1) : Int32).toNatClampNeg)) okV_X9_keep wd_928 hx hb hml hown hts hK hP hD hS hA hN hl.1 rfl rfl rfl (Nat.le_of_ble_eq_true rfl) (Nat.le_of_ble_eq_true rfl) (Nat.le_of_ble_eq_true rfl) (Nat.le_of_ble_eq_true rfl) (Nat.le_of_ble_eq_true rfl) dL_law_975 (fun rx u1 H locs ex hP hD hS => ?_)
  obtain ⟨x0, x1, x2, x3⟩ := u1
  replace ex : (rx, x0, x1, x2, x3) = (f_e_keep_x9 v_q1 v_q2 v_q10 v_q12 v_fim v_fis v_fn v_p1 v_p2 (xs ((iv + 1) : Int32).toNatClampNeg)) := ex
  have hP : va_P D classes (((Wm_keep cI cZ yh Rf G f0 f1) ++ wr) ++ (Wx_keep cI cZ xh v_x v_q1 v_q2 v_rd v_t v_d v_nw v_ps v_im v_is_ x0 v_bk v_q12 v_qr v_pr v_cv v_ft v_nwc v_fn v_sh v_p1 x3 v_imc x1 x2)) H := hP
  have hD : va_D (lw_A s) (((Wm_keep cI cZ yh Rf G f0 f1) ++ wr) ++ (Wx_keep cI cZ xh v_x v_q1 v_q2 v_rd v_t v_d v_nw v_ps v_im v_is_ x0 v_bk v_q12 v_qr v_pr v_cv v_ft v_nwc v_fn v_sh v_p1 x3 v_imc x1 x2)) := hD
  rw [List.append_assoc] at hP hD
  refine lv_pop hx hb dL_law_978 rfl ?_
  refine lv_aload_n hx hb dL_law_979 rfl (lv_at hl 2 rfl) ?_
  refine lv_aload_n hx hb dL_law_980 rfl (lv_at hl 0 rfl) ?_
  refine lv_iload_n hx hb dL_law_981 rfl (lv_at hl 3 rfl) ?_
  refine lv_iconst (v := 1) hx hb dL_law_982 rfl ?_
  refine lv_iadd hx hb dL_law_983 ?_
  refine va_sld hx hb hX hbl hbA hS hi1 dL_law_984 ?_
  refine cVa (wc := (Wm_keep cI cZ yh Rf G f0 f1)) (wr := (wr ++ (Wx_keep cI cZ xh v_x v_q1 v_q2 v_rd v_t v_d v_nw v_ps v_im v_is_ x0 v_bk v_q12 v_qr v_pr v_cv v_ft v_nwc v_fn v_sh v_p1 x3 v_imc x1 x2))) (rest := []) (m_keep Rf yh G f0 f1 (xs ((iv + 1) : Int32).toNatClampNeg) hs) okV_X10_keep wd_932 hx hb hml hown hts hK hP hD hS hA hN hl.1 rfl rfl rfl (Nat.le_of_ble_eq_true rfl) (Nat.le_of_ble_eq_true rfl) (Nat.le_of_ble_eq_true rfl) (Nat.le_of_ble_eq_true rfl) (Nat.le_of_ble_eq_true rfl) dL_law_985 (fun ry u2 H locs em hP hD hS => ?_)
  obtain ⟨y0, y1, y2⟩ := u2
  replace em : (ry, y0, y1, y2) = (f_m_keep G f0 f1 (xs ((iv + 1) : Int32).toNatClampNeg)) := em
  have hP : va_P D classes ((wr ++ (Wx_keep cI cZ xh v_x v_q1 v_q2 v_rd v_t v_d v_nw v_ps v_im v_is_ x0 v_bk v_q12 v_qr v_pr v_cv v_ft v_nwc v_fn v_sh v_p1 x3 v_imc x1 x2)) ++ (Wm_keep cI cZ yh Rf y0 y1 y2)) H := hP
  have hD : va_D (lw_A s) ((wr ++ (Wx_keep cI cZ xh v_x v_q1 v_q2 v_rd v_t v_d v_nw v_ps v_im v_is_ x0 v_bk v_q12 v_qr v_pr v_cv v_ft v_nwc v_fn v_sh v_p1 x3 v_imc x1 x2)) ++ (Wm_keep cI cZ yh Rf y0 y1 y2)) := hD
  refine lv_pop hx hb dL_law_988 rfl ?_
  refine lv_goto (tgt := 1015) hx hb dL_law_989 rfl ?_
  exact hnext rx x0 x1 x2 x3 ry y0 y1 y2 _ _ _ ex em (permP rot hP) (permD rot hD) hS hl
def Wx_goBack (cI cZ : ClassId) (xh : Nat) (v_x : Nat) (v_q1 : Int32) (v_q2 : Int32) (v_rd : Nat) (v_t : Nat) (v_d : Nat) (v_nw : Nat) (v_ps : Nat) (v_im : Nat) (v_is_ : Nat) (v_q10 : Int32) (v_bk : Nat) (v_q12 : Int32) (v_qr : Nat) (v_pr : Nat) (v_cv : Nat) (v_ft : Nat) (v_nwc : Nat) (v_fn : Nat → Int32) (v_sh : Nat) (v_p1 : Int32) (v_p2 : Int32) (v_imc : Nat) (v_fim : Nat → Int32) (v_fis : Nat → Int32) : va_W := [(xh, .inr (9, [.ref v_x, .int v_q1, .int v_q2, .ref v_rd, .ref v_t, .ref v_d, .ref v_nw, .ref v_ps, .ref v_im, .ref v_is_, .int v_q10, .ref v_bk, .int v_q12, .ref v_qr, .ref v_pr, .ref v_cv, .ref v_ft])), (v_im, .inr (6, [.int 2, .ref v_imc])), (v_imc, .inl (cI, 82, .inl v_fim)), (v_is_, .inl (cI, 2, .inl v_fis)), (v_nw, .inr (7, [.ref v_nwc])), (v_nwc, .inl (cI, 41, .inl v_fn)), (v_ps, .inr (2, [.ref v_sh, .int v_p1, .int v_p2]))]
def Wm_goBack (cI cZ : ClassId) (yh : Nat) (Rf : Nat → Nat) (G : Nat → Int32) (f0 : Nat → Int32) (f1 : Nat → Int32) : va_W := [(yh, .inr (10, ML G Rf)), ((Rf 0), .inl (cI, 1302, .inl f0)), ((Rf 1), .inl (cZ, 2, .inl f1))]
set_option maxHeartbeats 4000000 in
set_option maxRecDepth 100000 in
theorem law_goBack {p : Program} {l : Launch} {e : Env} {s : State} {m : MethodId} {below : List Frame} {meth : Method} {c : Code} {D : va_G} {cI cZ : ClassId} {b : Nat} {xs : Nat → Int32} {L : Nat} (wr : va_W) (v_x : Nat) (v_q1 : Int32) (v_q2 : Int32) (v_rd : Nat) (v_t : Nat) (v_d : Nat) (v_nw : Nat) (v_ps : Nat) (v_im : Nat) (v_is_ : Nat) (v_q10 : Int32) (v_bk : Nat) (v_q12 : Int32) (v_qr : Nat) (v_pr : Nat) (v_cv : Nat) (v_ft : Nat) (v_nwc : Nat) (v_fn : Nat → Int32) (v_sh : Nat) (v_p1 : Int32) (v_p2 : Int32) (v_imc : Nat) (v_fim : Nat → Int32) (v_fis : Nat → Int32) (Rf : Nat → Nat) (G : Nat → Int32) (f0 : Nat → Int32) (f1 : Nat → Int32) {xh yh : Nat} {iv : Int32} (C0 : lw_C p s m meth c b L xs) {H : Heap} {locs : List Loc} {ls : Array Slot} (hi1 : ¬ ((iv + 1) < 0 ∨ L ≤ (iv + 1 : Int32).toNatClampNeg)) (hi2 : ¬ ((iv + 2) < 0 ∨ L ≤ (iv + 2 : Int32).toNatClampNeg)) (hi3 : ¬ ((iv + 3) < 0 ∨ L ≤ (iv + 3 : Int32).toNatClampNeg)) (hi4 : ¬ ((iv + 4) < 0 ∨ L ≤ (iv + 4 : Int32).toNatClampNeg)) (hK : va_K D classes (TYS cI cZ) s) (hs : S_m_goBack G f0 f1 (xs ((iv + 1) : Int32).toNatClampNeg)) (hP : va_P D classes ((Wx_goBack cI cZ xh v_x v_q1 v_q2 v_rd v_t v_d v_nw v_ps v_im v_is_ v_q10 v_bk v_q12 v_qr v_pr v_cv v_ft v_nwc v_fn v_sh v_p1 v_p2 v_imc v_fim v_fis) ++ ((Wm_goBack cI cZ yh Rf G f0 f1) ++ wr)) H) (hD : va_D (lw_A s) ((Wx_goBack cI cZ xh v_x v_q1 v_q2 v_rd v_t v_d v_nw v_ps v_im v_is_ v_q10 v_bk v_q12 v_qr v_pr v_cv v_ft v_nwc v_fn v_sh v_p1 v_p2 v_imc v_fim v_fis) ++ ((Wm_goBack cI cZ yh Rf G f0 f1) ++ wr))) (hS : va_S (lw_A s) s.heap H locs) (hl : lv_has ls 4 [(0, .ref b), (1, .ref xh), (2, .ref yh), (3, .int iv)]) (hnext : ∀ (rx : Int32) (x0 : Int32) (x1 : (Nat → Int32)) (x2 : Int32) (ry : Int32) (y0 : (Nat → Int32)) (y1 : (Nat → Int32)) (H : Heap) (locs : List Loc) (ls : Array Slot), (rx, x0, x1, x2) = (f_e_goBack_x9 v_q1 v_q2 v_q10 v_q12 v_fim v_fis v_fn v_p1 v_p2 (xs ((iv + 1) : Int32).toNatClampNeg)) → (ry, y0, y1) = (f_m_goBack G f0 f1 (xs ((iv + 1) : Int32).toNatClampNeg)) → va_P D classes ((Wx_goBack cI cZ xh v_x v_q1 v_q2 v_rd v_t v_d v_nw v_ps v_im v_is_ v_q10 v_bk x0 v_qr v_pr v_cv v_ft v_nwc x1 v_sh v_p1 x2 v_imc v_fim v_fis) ++ ((Wm_goBack cI cZ yh Rf y0 y1 f1) ++ wr)) H → va_D (lw_A s) ((Wx_goBack cI cZ xh v_x v_q1 v_q2 v_rd v_t v_d v_nw v_ps v_im v_is_ v_q10 v_bk x0 v_qr v_pr v_cv v_ft v_nwc x1 v_sh v_p1 x2 v_imc v_fim v_fis) ++ ((Wm_goBack cI cZ yh Rf y0 y1 f1) ++ wr)) → va_S (lw_A s) s.heap H locs → lv_has ls 4 [(0, .ref b), (1, .ref xh), (2, .ref yh), (3, .int iv)] → W p l e room_1 s m #[Value.ref b] below meth c H locs 60 4269 (lw_Z below #[Value.ref b] s) (F0 m 1015 ls [])) : W p l e room_1 s m #[Value.ref b] below meth c H locs 60 4269 (lw_Z below #[Value.ref b] s) (F0 m 992 ls []) := by
  obtain ⟨hx, hb, hr, hml, hown, hts, hX, hbl, hlocks, hN⟩ := C0
  have hA : ∀ q, s.heap.size ≤ q → lw_A s q := fun _ h => h
  have hbA : ¬ lw_A s b := Nat.not_le.mpr hbl
  refine lv_aload_n hx hb dL_law_992 rfl (lv_at hl 1 rfl) ?_
  refine lv_aload_n hx hb dL_law_993 rfl (lv_at hl 0 rfl) ?_
  refine lv_iload_n hx hb dL_law_994 rfl (lv_at hl 3 rfl) ?_
  refine lv_iconst (v := 1) hx hb dL_law_995 rfl ?_
  refine lv_iadd hx hb dL_law_996 ?_
  refine va_sld hx hb hX hbl hbA hS hi1 dL_law_997 ?_
  refine cVa (wc := (Wx_goBack cI cZ xh v_x v_q1 v_q2 v_rd v_t v_d v_nw v_ps v_im v_is_ v_q10 v_bk v_q12 v_qr v_pr v_cv v_ft v_nwc v_fn v_sh v_p1 v_p2 v_imc v_fim v_fis)) (wr := ((Wm_goBack cI cZ yh Rf G f0 f1) ++ wr)) (rest := []) (e_goBack_x9 xh v_x v_rd v_t v_d v_nw v_ps v_im v_is_ v_bk v_qr v_pr v_cv v_ft v_imc v_nwc v_sh v_q1 v_q2 v_q10 v_q12 v_fim v_fis v_fn v_p1 v_p2 (xs ((iv + 1) : Int32).toNatClampNeg)) okV_X9_goBack wd_936 hx hb hml hown hts hK hP hD hS hA hN hl.1 rfl rfl rfl (Nat.le_of_ble_eq_true rfl) (Nat.le_of_ble_eq_true rfl) (Nat.le_of_ble_eq_true rfl) (Nat.le_of_ble_eq_true rfl) (Nat.le_of_ble_eq_true rfl) dL_law_998 (fun rx u1 H locs ex hP hD hS => ?_)
  obtain ⟨x0, x1, x2⟩ := u1
  replace ex : (rx, x0, x1, x2) = (f_e_goBack_x9 v_q1 v_q2 v_q10 v_q12 v_fim v_fis v_fn v_p1 v_p2 (xs ((iv + 1) : Int32).toNatClampNeg)) := ex
  have hP : va_P D classes (((Wm_goBack cI cZ yh Rf G f0 f1) ++ wr) ++ (Wx_goBack cI cZ xh v_x v_q1 v_q2 v_rd v_t v_d v_nw v_ps v_im v_is_ v_q10 v_bk x0 v_qr v_pr v_cv v_ft v_nwc x1 v_sh v_p1 x2 v_imc v_fim v_fis)) H := hP
  have hD : va_D (lw_A s) (((Wm_goBack cI cZ yh Rf G f0 f1) ++ wr) ++ (Wx_goBack cI cZ xh v_x v_q1 v_q2 v_rd v_t v_d v_nw v_ps v_im v_is_ v_q10 v_bk x0 v_qr v_pr v_cv v_ft v_nwc x1 v_sh v_p1 x2 v_imc v_fim v_fis)) := hD
  rw [List.append_assoc] at hP hD
  refine lv_pop hx hb dL_law_1001 rfl ?_
  refine lv_aload_n hx hb dL_law_1002 rfl (lv_at hl 2 rfl) ?_
  refine lv_aload_n hx hb dL_law_1003 rfl (lv_at hl 0 rfl) ?_
  refine lv_iload_n hx hb dL_law_1004 rfl (lv_at hl 3 rfl) ?_
  refine lv_iconst (v := 1) hx hb dL_law_1005 rfl ?_
  refine lv_iadd hx hb dL_law_1006 ?_
  refine va_sld hx hb hX hbl hbA hS hi1 dL_law_1007 ?_
  refine cVa (wc := (Wm_goBack cI cZ yh Rf G f0 f1)) (wr := (wr ++ (Wx_goBack cI cZ xh v_x v_q1 v_q2 v_rd v_t v_d v_nw v_ps v_im v_is_ v_q10 v_bk x0 v_qr v_pr v_cv v_ft v_nwc x1 v_sh v_p1 x2 v_imc v_fim v_fis))) (rest := []) (m_goBack Rf yh G f0 f1 (xs ((iv + 1) : Int32).toNatClampNeg) hs) okV_X10_goBack wd_940 hx hb hml hown hts hK hP hD hS hA hN hl.1 rfl rfl rfl (Nat.le_of_ble_eq_true rfl) (Nat.le_of_ble_eq_true rfl) (Nat.le_of_ble_eq_true rfl) (Nat.le_of_ble_eq_true rfl) (Nat.le_of_ble_eq_true rfl) dL_law_1008 (fun ry u2 H locs em hP hD hS => ?_)
  obtain ⟨y0, y1⟩ := u2
  replace em : (ry, y0, y1) = (f_m_goBack G f0 f1 (xs ((iv + 1) : Int32).toNatClampNeg)) := em
  have hP : va_P D classes ((wr ++ (Wx_goBack cI cZ xh v_x v_q1 v_q2 v_rd v_t v_d v_nw v_ps v_im v_is_ v_q10 v_bk x0 v_qr v_pr v_cv v_ft v_nwc x1 v_sh v_p1 x2 v_imc v_fim v_fis)) ++ (Wm_goBack cI cZ yh Rf y0 y1 f1)) H := hP
  have hD : va_D (lw_A s) ((wr ++ (Wx_goBack cI cZ xh v_x v_q1 v_q2 v_rd v_t v_d v_nw v_ps v_im v_is_ v_q10 v_bk x0 v_qr v_pr v_cv v_ft v_nwc x1 v_sh v_p1 x2 v_imc v_fim v_fis)) ++ (Wm_goBack cI cZ yh Rf y0 y1 f1)) := hD
  refine lv_pop hx hb dL_law_1011 rfl ?_
  refine lv_goto (tgt := 1015) hx hb dL_law_1012 rfl ?_
  exact hnext rx x0 x1 x2 ry y0 y1 _ _ _ ex em (permP rot hP) (permD rot hD) hS hl
end
