theorem dL_law_616 : decode cL_law 616 = .ok (.aload_n 1, 1) := by decide +kernel
theorem dL_law_617 : decode cL_law 617 = .ok (.aload_n 0, 1) := by decide +kernel
theorem dL_law_618 : decode cL_law 618 = .ok (.iload_n 3, 1) := by decide +kernel
theorem dL_law_619 : decode cL_law 619 = .ok (.iconst 1, 1) := by decide +kernel
theorem dL_law_620 : decode cL_law 620 = .ok (.iadd, 1) := by decide +kernel
theorem dL_law_621 : decode cL_law 621 = .ok (.iaload, 1) := by decide +kernel
theorem dL_law_622 : decode cL_law 622 = .ok (.invokevirtual 68, 3) := by decide +kernel
theorem mw_763 : Cond.methodLink RL 68 yX11_many ∈ wsL_law := inr_32 _ (List.mem_of_getElem? (i := 19) rfl)
theorem mw_766 : Cond.code yX11_many cX11_many 2 (some .int) ∈ wsL_law := inr_32 _ (List.mem_of_getElem? (i := 22) rfl)
theorem yk_X11_many : xY yX11_many RX11 cX11_many 2 (some .int) 1 := ⟨⟨rfl, by decide +kernel, by decide +kernel, by decide +kernel⟩, mw_2, mw_766⟩
theorem mw_764 : Cond.instanceMethod yX11_many ∈ wsL_law := inr_32 _ (List.mem_of_getElem? (i := 20) rfl)
theorem mw_765 : Cond.selects RX11 yX11_many yX11_many ∈ wsL_law := inr_32 _ (List.mem_of_getElem? (i := 21) rfl)
theorem dL_law_625 : decode cL_law 625 = .ok (.aload_n 2, 1) := by decide +kernel
theorem dL_law_626 : decode cL_law 626 = .ok (.aload_n 0, 1) := by decide +kernel
theorem dL_law_627 : decode cL_law 627 = .ok (.iload_n 3, 1) := by decide +kernel
theorem dL_law_628 : decode cL_law 628 = .ok (.iconst 1, 1) := by decide +kernel
theorem dL_law_629 : decode cL_law 629 = .ok (.iadd, 1) := by decide +kernel
theorem dL_law_630 : decode cL_law 630 = .ok (.iaload, 1) := by decide +kernel
theorem dL_law_631 : decode cL_law 631 = .ok (.invokevirtual 71, 3) := by decide +kernel
theorem mw_769 : Cond.methodLink RL 71 yX12_many ∈ wsL_law := inr_33 _ (List.mem_of_getElem? (i := 1) rfl)
theorem mw_772 : Cond.code yX12_many cX12_many 2 (some .int) ∈ wsL_law := inr_33 _ (List.mem_of_getElem? (i := 4) rfl)
theorem yk_X12_many : xY yX12_many RX12 cX12_many 2 (some .int) 1 := ⟨⟨rfl, by decide +kernel, by decide +kernel, by decide +kernel⟩, mw_5, mw_772⟩
theorem mw_770 : Cond.instanceMethod yX12_many ∈ wsL_law := inr_33 _ (List.mem_of_getElem? (i := 2) rfl)
theorem mw_771 : Cond.selects RX12 yX12_many yX12_many ∈ wsL_law := inr_33 _ (List.mem_of_getElem? (i := 3) rfl)
theorem dL_law_634 : decode cL_law 634 = .ok (.if_icmp .eq 1129, 3) := by decide +kernel
theorem dL_law_639 : decode cL_law 639 = .ok (.aload_n 1, 1) := by decide +kernel
theorem dL_law_640 : decode cL_law 640 = .ok (.aload_n 0, 1) := by decide +kernel
theorem dL_law_641 : decode cL_law 641 = .ok (.iload_n 3, 1) := by decide +kernel
theorem dL_law_642 : decode cL_law 642 = .ok (.iconst 1, 1) := by decide +kernel
theorem dL_law_643 : decode cL_law 643 = .ok (.iadd, 1) := by decide +kernel
theorem dL_law_644 : decode cL_law 644 = .ok (.iaload, 1) := by decide +kernel
theorem dL_law_645 : decode cL_law 645 = .ok (.aload_n 0, 1) := by decide +kernel
theorem dL_law_646 : decode cL_law 646 = .ok (.iload_n 3, 1) := by decide +kernel
theorem dL_law_647 : decode cL_law 647 = .ok (.iconst 2, 1) := by decide +kernel
theorem dL_law_648 : decode cL_law 648 = .ok (.iadd, 1) := by decide +kernel
theorem dL_law_649 : decode cL_law 649 = .ok (.iaload, 1) := by decide +kernel
theorem dL_law_650 : decode cL_law 650 = .ok (.invokevirtual 72, 3) := by decide +kernel
theorem mw_774 : Cond.methodLink RL 72 yX11_word ∈ wsL_law := inr_33 _ (List.mem_of_getElem? (i := 6) rfl)
theorem mw_777 : Cond.code yX11_word cX11_word 3 (some .long) ∈ wsL_law := inr_33 _ (List.mem_of_getElem? (i := 9) rfl)
theorem yk_X11_word : xY yX11_word RX11 cX11_word 3 (some .long) 2 := ⟨⟨rfl, by decide +kernel, by decide +kernel, by decide +kernel⟩, mw_2, mw_777⟩
theorem mw_775 : Cond.instanceMethod yX11_word ∈ wsL_law := inr_33 _ (List.mem_of_getElem? (i := 7) rfl)
theorem mw_776 : Cond.selects RX11 yX11_word yX11_word ∈ wsL_law := inr_33 _ (List.mem_of_getElem? (i := 8) rfl)
theorem dL_law_653 : decode cL_law 653 = .ok (.aload_n 2, 1) := by decide +kernel
theorem dL_law_654 : decode cL_law 654 = .ok (.aload_n 0, 1) := by decide +kernel
theorem dL_law_655 : decode cL_law 655 = .ok (.iload_n 3, 1) := by decide +kernel
theorem dL_law_656 : decode cL_law 656 = .ok (.iconst 1, 1) := by decide +kernel
theorem dL_law_657 : decode cL_law 657 = .ok (.iadd, 1) := by decide +kernel
theorem dL_law_658 : decode cL_law 658 = .ok (.iaload, 1) := by decide +kernel
theorem dL_law_659 : decode cL_law 659 = .ok (.aload_n 0, 1) := by decide +kernel
theorem dL_law_660 : decode cL_law 660 = .ok (.iload_n 3, 1) := by decide +kernel
theorem dL_law_661 : decode cL_law 661 = .ok (.iconst 2, 1) := by decide +kernel
theorem dL_law_662 : decode cL_law 662 = .ok (.iadd, 1) := by decide +kernel
theorem dL_law_663 : decode cL_law 663 = .ok (.iaload, 1) := by decide +kernel
theorem dL_law_664 : decode cL_law 664 = .ok (.invokevirtual 75, 3) := by decide +kernel
theorem mw_793 : Cond.methodLink RL 75 yX12_word ∈ wsL_law := inr_34 _ (List.mem_of_getElem? (i := 1) rfl)
theorem mw_796 : Cond.code yX12_word cX12_word 4 (some .long) ∈ wsL_law := inr_34 _ (List.mem_of_getElem? (i := 4) rfl)
theorem yk_X12_word : xY yX12_word RX12 cX12_word 4 (some .long) 2 := ⟨⟨rfl, by decide +kernel, by decide +kernel, by decide +kernel⟩, mw_5, mw_796⟩
theorem mw_794 : Cond.instanceMethod yX12_word ∈ wsL_law := inr_34 _ (List.mem_of_getElem? (i := 2) rfl)
theorem mw_795 : Cond.selects RX12 yX12_word yX12_word ∈ wsL_law := inr_34 _ (List.mem_of_getElem? (i := 3) rfl)
theorem dL_law_667 : decode cL_law 667 = .ok (.lcmp, 1) := by decide +kernel
theorem dL_law_668 : decode cL_law 668 = .ok (.ifCond .eq 1095, 3) := by decide +kernel
theorem dL_law_673 : decode cL_law 673 = .ok (.aload_n 1, 1) := by decide +kernel
theorem dL_law_674 : decode cL_law 674 = .ok (.aload_n 0, 1) := by decide +kernel
theorem dL_law_675 : decode cL_law 675 = .ok (.iload_n 3, 1) := by decide +kernel
theorem dL_law_676 : decode cL_law 676 = .ok (.iconst 1, 1) := by decide +kernel
theorem dL_law_677 : decode cL_law 677 = .ok (.iadd, 1) := by decide +kernel
theorem dL_law_678 : decode cL_law 678 = .ok (.iaload, 1) := by decide +kernel
theorem dL_law_679 : decode cL_law 679 = .ok (.aload_n 0, 1) := by decide +kernel
theorem dL_law_680 : decode cL_law 680 = .ok (.iload_n 3, 1) := by decide +kernel
theorem dL_law_681 : decode cL_law 681 = .ok (.iconst 2, 1) := by decide +kernel
theorem dL_law_682 : decode cL_law 682 = .ok (.iadd, 1) := by decide +kernel
theorem dL_law_683 : decode cL_law 683 = .ok (.iaload, 1) := by decide +kernel
theorem dL_law_684 : decode cL_law 684 = .ok (.invokevirtual 76, 3) := by decide +kernel
theorem mw_805 : Cond.methodLink RL 76 yX11_count ∈ wsL_law := inr_34 _ (List.mem_of_getElem? (i := 13) rfl)
theorem mw_808 : Cond.code yX11_count cX11_count 4 (some .int) ∈ wsL_law := inr_34 _ (List.mem_of_getElem? (i := 16) rfl)
theorem yk_X11_count : xY yX11_count RX11 cX11_count 4 (some .int) 2 := ⟨⟨rfl, by decide +kernel, by decide +kernel, by decide +kernel⟩, mw_2, mw_808⟩
theorem mw_806 : Cond.instanceMethod yX11_count ∈ wsL_law := inr_34 _ (List.mem_of_getElem? (i := 14) rfl)
theorem mw_807 : Cond.selects RX11 yX11_count yX11_count ∈ wsL_law := inr_34 _ (List.mem_of_getElem? (i := 15) rfl)
theorem dL_law_687 : decode cL_law 687 = .ok (.aload_n 2, 1) := by decide +kernel
theorem dL_law_688 : decode cL_law 688 = .ok (.aload_n 0, 1) := by decide +kernel
theorem dL_law_689 : decode cL_law 689 = .ok (.iload_n 3, 1) := by decide +kernel
theorem dL_law_690 : decode cL_law 690 = .ok (.iconst 1, 1) := by decide +kernel
theorem dL_law_691 : decode cL_law 691 = .ok (.iadd, 1) := by decide +kernel
theorem dL_law_692 : decode cL_law 692 = .ok (.iaload, 1) := by decide +kernel
theorem dL_law_693 : decode cL_law 693 = .ok (.aload_n 0, 1) := by decide +kernel
theorem dL_law_694 : decode cL_law 694 = .ok (.iload_n 3, 1) := by decide +kernel
theorem dL_law_695 : decode cL_law 695 = .ok (.iconst 2, 1) := by decide +kernel
theorem dL_law_696 : decode cL_law 696 = .ok (.iadd, 1) := by decide +kernel
theorem dL_law_697 : decode cL_law 697 = .ok (.iaload, 1) := by decide +kernel
theorem dL_law_698 : decode cL_law 698 = .ok (.invokevirtual 79, 3) := by decide +kernel
theorem mw_812 : Cond.methodLink RL 79 yX12_count ∈ wsL_law := inr_34 _ (List.mem_of_getElem? (i := 20) rfl)
theorem mw_815 : Cond.code yX12_count cX12_count 3 (some .int) ∈ wsL_law := inr_34 _ (List.mem_of_getElem? (i := 23) rfl)
theorem yk_X12_count : xY yX12_count RX12 cX12_count 3 (some .int) 2 := ⟨⟨rfl, by decide +kernel, by decide +kernel, by decide +kernel⟩, mw_5, mw_815⟩
theorem mw_813 : Cond.instanceMethod yX12_count ∈ wsL_law := inr_34 _ (List.mem_of_getElem? (i := 21) rfl)
theorem mw_814 : Cond.selects RX12 yX12_count yX12_count ∈ wsL_law := inr_34 _ (List.mem_of_getElem? (i := 22) rfl)
theorem dL_law_701 : decode cL_law 701 = .ok (.if_icmp .eq 1062, 3) := by decide +kernel
theorem dL_law_706 : decode cL_law 706 = .ok (.aload_n 1, 1) := by decide +kernel
theorem dL_law_707 : decode cL_law 707 = .ok (.aload_n 0, 1) := by decide +kernel
theorem dL_law_708 : decode cL_law 708 = .ok (.iload_n 3, 1) := by decide +kernel
theorem dL_law_709 : decode cL_law 709 = .ok (.iconst 1, 1) := by decide +kernel
theorem dL_law_710 : decode cL_law 710 = .ok (.iadd, 1) := by decide +kernel
theorem dL_law_711 : decode cL_law 711 = .ok (.iaload, 1) := by decide +kernel
theorem dL_law_712 : decode cL_law 712 = .ok (.aload_n 0, 1) := by decide +kernel
theorem dL_law_713 : decode cL_law 713 = .ok (.iload_n 3, 1) := by decide +kernel
theorem dL_law_714 : decode cL_law 714 = .ok (.iconst 2, 1) := by decide +kernel
theorem dL_law_715 : decode cL_law 715 = .ok (.iadd, 1) := by decide +kernel
theorem dL_law_716 : decode cL_law 716 = .ok (.iaload, 1) := by decide +kernel
theorem dL_law_717 : decode cL_law 717 = .ok (.aload_n 0, 1) := by decide +kernel
theorem dL_law_718 : decode cL_law 718 = .ok (.iload_n 3, 1) := by decide +kernel
theorem dL_law_719 : decode cL_law 719 = .ok (.iconst 3, 1) := by decide +kernel
theorem dL_law_720 : decode cL_law 720 = .ok (.iadd, 1) := by decide +kernel
theorem dL_law_721 : decode cL_law 721 = .ok (.iaload, 1) := by decide +kernel
theorem dL_law_722 : decode cL_law 722 = .ok (.invokevirtual 80, 3) := by decide +kernel
theorem mw_816 : Cond.methodLink RL 80 yX11_rule ∈ wsL_law := inr_35 _ (List.mem_of_getElem? (i := 0) rfl)
theorem mw_819 : Cond.code yX11_rule cX11_rule 5 (some .int) ∈ wsL_law := inr_35 _ (List.mem_of_getElem? (i := 3) rfl)
theorem yk_X11_rule : xY yX11_rule RX11 cX11_rule 5 (some .int) 3 := ⟨⟨rfl, by decide +kernel, by decide +kernel, by decide +kernel⟩, mw_2, mw_819⟩
theorem mw_817 : Cond.instanceMethod yX11_rule ∈ wsL_law := inr_35 _ (List.mem_of_getElem? (i := 1) rfl)
theorem mw_818 : Cond.selects RX11 yX11_rule yX11_rule ∈ wsL_law := inr_35 _ (List.mem_of_getElem? (i := 2) rfl)
theorem dL_law_725 : decode cL_law 725 = .ok (.aload_n 2, 1) := by decide +kernel
theorem dL_law_726 : decode cL_law 726 = .ok (.aload_n 0, 1) := by decide +kernel
theorem dL_law_727 : decode cL_law 727 = .ok (.iload_n 3, 1) := by decide +kernel
theorem dL_law_728 : decode cL_law 728 = .ok (.iconst 1, 1) := by decide +kernel
theorem dL_law_729 : decode cL_law 729 = .ok (.iadd, 1) := by decide +kernel
theorem dL_law_730 : decode cL_law 730 = .ok (.iaload, 1) := by decide +kernel
theorem dL_law_731 : decode cL_law 731 = .ok (.aload_n 0, 1) := by decide +kernel
theorem dL_law_732 : decode cL_law 732 = .ok (.iload_n 3, 1) := by decide +kernel
theorem dL_law_733 : decode cL_law 733 = .ok (.iconst 2, 1) := by decide +kernel
theorem dL_law_734 : decode cL_law 734 = .ok (.iadd, 1) := by decide +kernel
theorem dL_law_735 : decode cL_law 735 = .ok (.iaload, 1) := by decide +kernel
theorem dL_law_736 : decode cL_law 736 = .ok (.aload_n 0, 1) := by decide +kernel
theorem dL_law_737 : decode cL_law 737 = .ok (.iload_n 3, 1) := by decide +kernel
theorem dL_law_738 : decode cL_law 738 = .ok (.iconst 3, 1) := by decide +kernel
theorem dL_law_739 : decode cL_law 739 = .ok (.iadd, 1) := by decide +kernel
theorem dL_law_740 : decode cL_law 740 = .ok (.iaload, 1) := by decide +kernel
theorem dL_law_741 : decode cL_law 741 = .ok (.invokevirtual 84, 3) := by decide +kernel
theorem mw_832 : Cond.methodLink RL 84 yX12_rule ∈ wsL_law := inr_35 _ (List.mem_of_getElem? (i := 16) rfl)
theorem mw_835 : Cond.code yX12_rule cX12_rule 5 (some .int) ∈ wsL_law := inr_35 _ (List.mem_of_getElem? (i := 19) rfl)
theorem yk_X12_rule : xY yX12_rule RX12 cX12_rule 5 (some .int) 3 := ⟨⟨rfl, by decide +kernel, by decide +kernel, by decide +kernel⟩, mw_5, mw_835⟩
theorem mw_833 : Cond.instanceMethod yX12_rule ∈ wsL_law := inr_35 _ (List.mem_of_getElem? (i := 17) rfl)
theorem mw_834 : Cond.selects RX12 yX12_rule yX12_rule ∈ wsL_law := inr_35 _ (List.mem_of_getElem? (i := 18) rfl)
theorem dL_law_744 : decode cL_law 744 = .ok (.if_icmp .eq 1019, 3) := by decide +kernel
theorem dL_law_749 : decode cL_law 749 = .ok (.aload_n 1, 1) := by decide +kernel
theorem dL_law_750 : decode cL_law 750 = .ok (.aload_n 0, 1) := by decide +kernel
theorem dL_law_751 : decode cL_law 751 = .ok (.iload_n 3, 1) := by decide +kernel
theorem dL_law_752 : decode cL_law 752 = .ok (.iconst 1, 1) := by decide +kernel
theorem dL_law_753 : decode cL_law 753 = .ok (.iadd, 1) := by decide +kernel
theorem dL_law_754 : decode cL_law 754 = .ok (.iaload, 1) := by decide +kernel
theorem dL_law_755 : decode cL_law 755 = .ok (.aload_n 0, 1) := by decide +kernel
theorem dL_law_756 : decode cL_law 756 = .ok (.iload_n 3, 1) := by decide +kernel
theorem dL_law_757 : decode cL_law 757 = .ok (.iconst 2, 1) := by decide +kernel
theorem dL_law_758 : decode cL_law 758 = .ok (.iadd, 1) := by decide +kernel
theorem dL_law_759 : decode cL_law 759 = .ok (.iaload, 1) := by decide +kernel
theorem dL_law_760 : decode cL_law 760 = .ok (.aload_n 0, 1) := by decide +kernel
theorem dL_law_761 : decode cL_law 761 = .ok (.iload_n 3, 1) := by decide +kernel
theorem dL_law_762 : decode cL_law 762 = .ok (.iconst 3, 1) := by decide +kernel
theorem dL_law_763 : decode cL_law 763 = .ok (.iadd, 1) := by decide +kernel
theorem dL_law_764 : decode cL_law 764 = .ok (.iaload, 1) := by decide +kernel
theorem dL_law_765 : decode cL_law 765 = .ok (.invokevirtual 85, 3) := by decide +kernel
theorem mw_836 : Cond.methodLink RL 85 yX11_fit ∈ wsL_law := inr_35 _ (List.mem_of_getElem? (i := 20) rfl)
theorem mw_839 : Cond.code yX11_fit cX11_fit 5 (some .int) ∈ wsL_law := inr_35 _ (List.mem_of_getElem? (i := 23) rfl)
theorem yk_X11_fit : xY yX11_fit RX11 cX11_fit 5 (some .int) 3 := ⟨⟨rfl, by decide +kernel, by decide +kernel, by decide +kernel⟩, mw_2, mw_839⟩
theorem mw_837 : Cond.instanceMethod yX11_fit ∈ wsL_law := inr_35 _ (List.mem_of_getElem? (i := 21) rfl)
theorem mw_838 : Cond.selects RX11 yX11_fit yX11_fit ∈ wsL_law := inr_35 _ (List.mem_of_getElem? (i := 22) rfl)
theorem dL_law_768 : decode cL_law 768 = .ok (.aload_n 2, 1) := by decide +kernel
theorem dL_law_769 : decode cL_law 769 = .ok (.aload_n 0, 1) := by decide +kernel
theorem dL_law_770 : decode cL_law 770 = .ok (.iload_n 3, 1) := by decide +kernel
theorem dL_law_771 : decode cL_law 771 = .ok (.iconst 1, 1) := by decide +kernel
theorem dL_law_772 : decode cL_law 772 = .ok (.iadd, 1) := by decide +kernel
theorem dL_law_773 : decode cL_law 773 = .ok (.iaload, 1) := by decide +kernel
theorem dL_law_774 : decode cL_law 774 = .ok (.aload_n 0, 1) := by decide +kernel
theorem dL_law_775 : decode cL_law 775 = .ok (.iload_n 3, 1) := by decide +kernel
theorem dL_law_776 : decode cL_law 776 = .ok (.iconst 2, 1) := by decide +kernel
theorem dL_law_777 : decode cL_law 777 = .ok (.iadd, 1) := by decide +kernel
theorem dL_law_778 : decode cL_law 778 = .ok (.iaload, 1) := by decide +kernel
theorem dL_law_779 : decode cL_law 779 = .ok (.aload_n 0, 1) := by decide +kernel
theorem dL_law_780 : decode cL_law 780 = .ok (.iload_n 3, 1) := by decide +kernel
theorem dL_law_781 : decode cL_law 781 = .ok (.iconst 3, 1) := by decide +kernel
theorem dL_law_782 : decode cL_law 782 = .ok (.iadd, 1) := by decide +kernel
theorem dL_law_783 : decode cL_law 783 = .ok (.iaload, 1) := by decide +kernel
theorem dL_law_784 : decode cL_law 784 = .ok (.invokevirtual 88, 3) := by decide +kernel
theorem mw_886 : Cond.methodLink RL 88 yX12_fit ∈ wsL_law := inr_37 _ (List.mem_of_getElem? (i := 22) rfl)
theorem mw_889 : Cond.code yX12_fit cX12_fit 6 (some .int) ∈ wsL_law := inr_38 _ (List.mem_of_getElem? (i := 1) rfl)
theorem yk_X12_fit : xY yX12_fit RX12 cX12_fit 6 (some .int) 3 := ⟨⟨rfl, by decide +kernel, by decide +kernel, by decide +kernel⟩, mw_5, mw_889⟩
theorem mw_887 : Cond.instanceMethod yX12_fit ∈ wsL_law := inr_37 _ (List.mem_of_getElem? (i := 23) rfl)
theorem mw_888 : Cond.selects RX12 yX12_fit yX12_fit ∈ wsL_law := inr_38 _ (List.mem_of_getElem? (i := 0) rfl)
theorem dL_law_787 : decode cL_law 787 = .ok (.if_icmp .eq 976, 3) := by decide +kernel
theorem dL_law_792 : decode cL_law 792 = .ok (.aload_n 1, 1) := by decide +kernel
theorem dL_law_793 : decode cL_law 793 = .ok (.aload_n 0, 1) := by decide +kernel
theorem dL_law_794 : decode cL_law 794 = .ok (.iload_n 3, 1) := by decide +kernel
theorem dL_law_795 : decode cL_law 795 = .ok (.iconst 1, 1) := by decide +kernel
theorem dL_law_796 : decode cL_law 796 = .ok (.iadd, 1) := by decide +kernel
theorem dL_law_797 : decode cL_law 797 = .ok (.iaload, 1) := by decide +kernel
theorem dL_law_798 : decode cL_law 798 = .ok (.aload_n 0, 1) := by decide +kernel
theorem dL_law_799 : decode cL_law 799 = .ok (.iload_n 3, 1) := by decide +kernel
theorem dL_law_800 : decode cL_law 800 = .ok (.iconst 2, 1) := by decide +kernel
theorem dL_law_801 : decode cL_law 801 = .ok (.iadd, 1) := by decide +kernel
theorem dL_law_802 : decode cL_law 802 = .ok (.iaload, 1) := by decide +kernel
theorem dL_law_803 : decode cL_law 803 = .ok (.invokevirtual 89, 3) := by decide +kernel
theorem mw_900 : Cond.methodLink RL 89 yX11_gap ∈ wsL_law := inr_38 _ (List.mem_of_getElem? (i := 12) rfl)
theorem mw_903 : Cond.code yX11_gap cX11_gap 4 (some .int) ∈ wsL_law := inr_38 _ (List.mem_of_getElem? (i := 15) rfl)
theorem yk_X11_gap : xY yX11_gap RX11 cX11_gap 4 (some .int) 2 := ⟨⟨rfl, by decide +kernel, by decide +kernel, by decide +kernel⟩, mw_2, mw_903⟩
theorem mw_901 : Cond.instanceMethod yX11_gap ∈ wsL_law := inr_38 _ (List.mem_of_getElem? (i := 13) rfl)
theorem mw_902 : Cond.selects RX11 yX11_gap yX11_gap ∈ wsL_law := inr_38 _ (List.mem_of_getElem? (i := 14) rfl)
theorem dL_law_806 : decode cL_law 806 = .ok (.aload_n 2, 1) := by decide +kernel
theorem dL_law_807 : decode cL_law 807 = .ok (.aload_n 0, 1) := by decide +kernel
theorem dL_law_808 : decode cL_law 808 = .ok (.iload_n 3, 1) := by decide +kernel
theorem dL_law_809 : decode cL_law 809 = .ok (.iconst 1, 1) := by decide +kernel
theorem dL_law_810 : decode cL_law 810 = .ok (.iadd, 1) := by decide +kernel
theorem dL_law_811 : decode cL_law 811 = .ok (.iaload, 1) := by decide +kernel
theorem dL_law_812 : decode cL_law 812 = .ok (.aload_n 0, 1) := by decide +kernel
theorem dL_law_813 : decode cL_law 813 = .ok (.iload_n 3, 1) := by decide +kernel
theorem dL_law_814 : decode cL_law 814 = .ok (.iconst 2, 1) := by decide +kernel
theorem dL_law_815 : decode cL_law 815 = .ok (.iadd, 1) := by decide +kernel
theorem dL_law_816 : decode cL_law 816 = .ok (.iaload, 1) := by decide +kernel
theorem dL_law_817 : decode cL_law 817 = .ok (.invokevirtual 92, 3) := by decide +kernel
theorem mw_910 : Cond.methodLink RL 92 yX12_gap ∈ wsL_law := inr_38 _ (List.mem_of_getElem? (i := 22) rfl)
theorem mw_913 : Cond.code yX12_gap cX12_gap 3 (some .int) ∈ wsL_law := inr_39 _ (List.mem_of_getElem? (i := 1) rfl)
theorem yk_X12_gap : xY yX12_gap RX12 cX12_gap 3 (some .int) 2 := ⟨⟨rfl, by decide +kernel, by decide +kernel, by decide +kernel⟩, mw_5, mw_913⟩
theorem mw_911 : Cond.instanceMethod yX12_gap ∈ wsL_law := inr_38 _ (List.mem_of_getElem? (i := 23) rfl)
theorem mw_912 : Cond.selects RX12 yX12_gap yX12_gap ∈ wsL_law := inr_39 _ (List.mem_of_getElem? (i := 0) rfl)
theorem dL_law_820 : decode cL_law 820 = .ok (.if_icmp .eq 943, 3) := by decide +kernel
theorem dL_law_825 : decode cL_law 825 = .ok (.aload_n 1, 1) := by decide +kernel
theorem dL_law_826 : decode cL_law 826 = .ok (.aload_n 0, 1) := by decide +kernel
theorem dL_law_827 : decode cL_law 827 = .ok (.iload_n 3, 1) := by decide +kernel
theorem dL_law_828 : decode cL_law 828 = .ok (.iconst 1, 1) := by decide +kernel
theorem dL_law_829 : decode cL_law 829 = .ok (.iadd, 1) := by decide +kernel
theorem dL_law_830 : decode cL_law 830 = .ok (.iaload, 1) := by decide +kernel
theorem dL_law_831 : decode cL_law 831 = .ok (.aload_n 0, 1) := by decide +kernel
theorem dL_law_832 : decode cL_law 832 = .ok (.iload_n 3, 1) := by decide +kernel
theorem dL_law_833 : decode cL_law 833 = .ok (.iconst 2, 1) := by decide +kernel
theorem dL_law_834 : decode cL_law 834 = .ok (.iadd, 1) := by decide +kernel
theorem dL_law_835 : decode cL_law 835 = .ok (.iaload, 1) := by decide +kernel
theorem dL_law_836 : decode cL_law 836 = .ok (.i2l, 1) := by decide +kernel
theorem dL_law_837 : decode cL_law 837 = .ok (.bipush 32, 2) := by decide +kernel
theorem dL_law_839 : decode cL_law 839 = .ok (.lshl, 1) := by decide +kernel
theorem dL_law_840 : decode cL_law 840 = .ok (.aload_n 0, 1) := by decide +kernel
theorem dL_law_841 : decode cL_law 841 = .ok (.iload_n 3, 1) := by decide +kernel
theorem dL_law_842 : decode cL_law 842 = .ok (.iconst 3, 1) := by decide +kernel
theorem dL_law_843 : decode cL_law 843 = .ok (.iadd, 1) := by decide +kernel
theorem dL_law_844 : decode cL_law 844 = .ok (.iaload, 1) := by decide +kernel
theorem dL_law_845 : decode cL_law 845 = .ok (.i2l, 1) := by decide +kernel
theorem dL_law_846 : decode cL_law 846 = .ok (.ldc2_w 32, 3) := by decide +kernel
theorem dL_law_849 : decode cL_law 849 = .ok (.land, 1) := by decide +kernel
theorem dL_law_850 : decode cL_law 850 = .ok (.lor, 1) := by decide +kernel
theorem dL_law_851 : decode cL_law 851 = .ok (.invokevirtual 93, 3) := by decide +kernel
theorem mw_914 : Cond.methodLink RL 93 yX11_turned ∈ wsL_law := inr_39 _ (List.mem_of_getElem? (i := 2) rfl)
theorem mw_917 : Cond.code yX11_turned cX11_turned 4 (some .long) ∈ wsL_law := inr_39 _ (List.mem_of_getElem? (i := 5) rfl)
theorem yk_X11_turned : xY yX11_turned RX11 cX11_turned 4 (some .long) 2 := ⟨⟨rfl, by decide +kernel, by decide +kernel, by decide +kernel⟩, mw_2, mw_917⟩
theorem mw_915 : Cond.instanceMethod yX11_turned ∈ wsL_law := inr_39 _ (List.mem_of_getElem? (i := 3) rfl)
theorem mw_916 : Cond.selects RX11 yX11_turned yX11_turned ∈ wsL_law := inr_39 _ (List.mem_of_getElem? (i := 4) rfl)
theorem dL_law_854 : decode cL_law 854 = .ok (.aload_n 2, 1) := by decide +kernel
theorem dL_law_855 : decode cL_law 855 = .ok (.aload_n 0, 1) := by decide +kernel
theorem dL_law_856 : decode cL_law 856 = .ok (.iload_n 3, 1) := by decide +kernel
theorem dL_law_857 : decode cL_law 857 = .ok (.iconst 1, 1) := by decide +kernel
theorem dL_law_858 : decode cL_law 858 = .ok (.iadd, 1) := by decide +kernel
theorem dL_law_859 : decode cL_law 859 = .ok (.iaload, 1) := by decide +kernel
theorem dL_law_860 : decode cL_law 860 = .ok (.aload_n 0, 1) := by decide +kernel
theorem dL_law_861 : decode cL_law 861 = .ok (.iload_n 3, 1) := by decide +kernel
theorem dL_law_862 : decode cL_law 862 = .ok (.iconst 2, 1) := by decide +kernel
theorem dL_law_863 : decode cL_law 863 = .ok (.iadd, 1) := by decide +kernel
theorem dL_law_864 : decode cL_law 864 = .ok (.iaload, 1) := by decide +kernel
theorem dL_law_865 : decode cL_law 865 = .ok (.i2l, 1) := by decide +kernel
theorem dL_law_866 : decode cL_law 866 = .ok (.bipush 32, 2) := by decide +kernel
theorem dL_law_868 : decode cL_law 868 = .ok (.lshl, 1) := by decide +kernel
theorem dL_law_869 : decode cL_law 869 = .ok (.aload_n 0, 1) := by decide +kernel
theorem dL_law_870 : decode cL_law 870 = .ok (.iload_n 3, 1) := by decide +kernel
theorem dL_law_871 : decode cL_law 871 = .ok (.iconst 3, 1) := by decide +kernel
theorem dL_law_872 : decode cL_law 872 = .ok (.iadd, 1) := by decide +kernel
theorem dL_law_873 : decode cL_law 873 = .ok (.iaload, 1) := by decide +kernel
theorem dL_law_874 : decode cL_law 874 = .ok (.i2l, 1) := by decide +kernel
theorem dL_law_875 : decode cL_law 875 = .ok (.ldc2_w 32, 3) := by decide +kernel
theorem dL_law_878 : decode cL_law 878 = .ok (.land, 1) := by decide +kernel
theorem dL_law_879 : decode cL_law 879 = .ok (.lor, 1) := by decide +kernel
theorem dL_law_880 : decode cL_law 880 = .ok (.invokevirtual 97, 3) := by decide +kernel
theorem mw_927 : Cond.methodLink RL 97 yX12_turned ∈ wsL_law := inr_39 _ (List.mem_of_getElem? (i := 15) rfl)
theorem mw_930 : Cond.code yX12_turned cX12_turned 4 (some .long) ∈ wsL_law := inr_39 _ (List.mem_of_getElem? (i := 18) rfl)
theorem yk_X12_turned : xY yX12_turned RX12 cX12_turned 4 (some .long) 2 := ⟨⟨rfl, by decide +kernel, by decide +kernel, by decide +kernel⟩, mw_5, mw_930⟩
theorem mw_928 : Cond.instanceMethod yX12_turned ∈ wsL_law := inr_39 _ (List.mem_of_getElem? (i := 16) rfl)
theorem mw_929 : Cond.selects RX12 yX12_turned yX12_turned ∈ wsL_law := inr_39 _ (List.mem_of_getElem? (i := 17) rfl)
theorem dL_law_883 : decode cL_law 883 = .ok (.lcmp, 1) := by decide +kernel
theorem dL_law_884 : decode cL_law 884 = .ok (.ifCond .eq 879, 3) := by decide +kernel
theorem dL_law_889 : decode cL_law 889 = .ok (.aload_n 1, 1) := by decide +kernel
theorem dL_law_890 : decode cL_law 890 = .ok (.aload_n 0, 1) := by decide +kernel
theorem dL_law_891 : decode cL_law 891 = .ok (.iload_n 3, 1) := by decide +kernel
theorem dL_law_892 : decode cL_law 892 = .ok (.iconst 1, 1) := by decide +kernel
theorem dL_law_893 : decode cL_law 893 = .ok (.iadd, 1) := by decide +kernel
theorem dL_law_894 : decode cL_law 894 = .ok (.iaload, 1) := by decide +kernel
theorem dL_law_895 : decode cL_law 895 = .ok (.invokevirtual 98, 3) := by decide +kernel
theorem mw_941 : Cond.methodLink RL 98 yX11_begin ∈ wsL_law := inr_40 _ (List.mem_of_getElem? (i := 5) rfl)
theorem mw_944 : Cond.code yX11_begin cX11_begin 2 (some .boolean) ∈ wsL_law := inr_40 _ (List.mem_of_getElem? (i := 8) rfl)
theorem yk_X11_begin : xY yX11_begin RX11 cX11_begin 2 (some .boolean) 1 := ⟨⟨rfl, by decide +kernel, by decide +kernel, by decide +kernel⟩, mw_2, mw_944⟩
theorem mw_942 : Cond.instanceMethod yX11_begin ∈ wsL_law := inr_40 _ (List.mem_of_getElem? (i := 6) rfl)
theorem mw_943 : Cond.selects RX11 yX11_begin yX11_begin ∈ wsL_law := inr_40 _ (List.mem_of_getElem? (i := 7) rfl)
theorem dL_law_898 : decode cL_law 898 = .ok (.aload_n 2, 1) := by decide +kernel
theorem dL_law_899 : decode cL_law 899 = .ok (.aload_n 0, 1) := by decide +kernel
theorem dL_law_900 : decode cL_law 900 = .ok (.iload_n 3, 1) := by decide +kernel
theorem dL_law_901 : decode cL_law 901 = .ok (.iconst 1, 1) := by decide +kernel
theorem dL_law_902 : decode cL_law 902 = .ok (.iadd, 1) := by decide +kernel
theorem dL_law_903 : decode cL_law 903 = .ok (.iaload, 1) := by decide +kernel
theorem dL_law_904 : decode cL_law 904 = .ok (.invokevirtual 102, 3) := by decide +kernel
theorem mw_945 : Cond.methodLink RL 102 yX12_begin ∈ wsL_law := inr_40 _ (List.mem_of_getElem? (i := 9) rfl)
theorem mw_948 : Cond.code yX12_begin cX12_begin 2 (some .boolean) ∈ wsL_law := inr_40 _ (List.mem_of_getElem? (i := 12) rfl)
theorem yk_X12_begin : xY yX12_begin RX12 cX12_begin 2 (some .boolean) 1 := ⟨⟨rfl, by decide +kernel, by decide +kernel, by decide +kernel⟩, mw_5, mw_948⟩
theorem mw_946 : Cond.instanceMethod yX12_begin ∈ wsL_law := inr_40 _ (List.mem_of_getElem? (i := 10) rfl)
theorem mw_947 : Cond.selects RX12 yX12_begin yX12_begin ∈ wsL_law := inr_40 _ (List.mem_of_getElem? (i := 11) rfl)
theorem dL_law_907 : decode cL_law 907 = .ok (.if_icmp .eq 856, 3) := by decide +kernel
theorem dL_law_912 : decode cL_law 912 = .ok (.aload_n 1, 1) := by decide +kernel
theorem dL_law_913 : decode cL_law 913 = .ok (.aload_n 0, 1) := by decide +kernel
theorem dL_law_914 : decode cL_law 914 = .ok (.iload_n 3, 1) := by decide +kernel
theorem dL_law_915 : decode cL_law 915 = .ok (.iconst 1, 1) := by decide +kernel
theorem dL_law_916 : decode cL_law 916 = .ok (.iadd, 1) := by decide +kernel
theorem dL_law_917 : decode cL_law 917 = .ok (.iaload, 1) := by decide +kernel
theorem dL_law_918 : decode cL_law 918 = .ok (.aload_n 0, 1) := by decide +kernel
theorem dL_law_919 : decode cL_law 919 = .ok (.iload_n 3, 1) := by decide +kernel
theorem dL_law_920 : decode cL_law 920 = .ok (.iconst 2, 1) := by decide +kernel
theorem dL_law_921 : decode cL_law 921 = .ok (.iadd, 1) := by decide +kernel
theorem dL_law_922 : decode cL_law 922 = .ok (.iaload, 1) := by decide +kernel
theorem dL_law_923 : decode cL_law 923 = .ok (.invokevirtual 103, 3) := by decide +kernel
theorem mw_949 : Cond.methodLink RL 103 yX11_say ∈ wsL_law := inr_40 _ (List.mem_of_getElem? (i := 13) rfl)
theorem mw_952 : Cond.code yX11_say cX11_say 4 (some .int) ∈ wsL_law := inr_40 _ (List.mem_of_getElem? (i := 16) rfl)
theorem yk_X11_say : xY yX11_say RX11 cX11_say 4 (some .int) 2 := ⟨⟨rfl, by decide +kernel, by decide +kernel, by decide +kernel⟩, mw_2, mw_952⟩
theorem mw_950 : Cond.instanceMethod yX11_say ∈ wsL_law := inr_40 _ (List.mem_of_getElem? (i := 14) rfl)
theorem mw_951 : Cond.selects RX11 yX11_say yX11_say ∈ wsL_law := inr_40 _ (List.mem_of_getElem? (i := 15) rfl)
theorem dL_law_926 : decode cL_law 926 = .ok (.aload_n 2, 1) := by decide +kernel
theorem dL_law_927 : decode cL_law 927 = .ok (.aload_n 0, 1) := by decide +kernel
theorem dL_law_928 : decode cL_law 928 = .ok (.iload_n 3, 1) := by decide +kernel
theorem dL_law_929 : decode cL_law 929 = .ok (.iconst 1, 1) := by decide +kernel
theorem dL_law_930 : decode cL_law 930 = .ok (.iadd, 1) := by decide +kernel
theorem dL_law_931 : decode cL_law 931 = .ok (.iaload, 1) := by decide +kernel
theorem dL_law_932 : decode cL_law 932 = .ok (.aload_n 0, 1) := by decide +kernel
theorem dL_law_933 : decode cL_law 933 = .ok (.iload_n 3, 1) := by decide +kernel
theorem dL_law_934 : decode cL_law 934 = .ok (.iconst 2, 1) := by decide +kernel
theorem dL_law_935 : decode cL_law 935 = .ok (.iadd, 1) := by decide +kernel
theorem dL_law_936 : decode cL_law 936 = .ok (.iaload, 1) := by decide +kernel
theorem dL_law_937 : decode cL_law 937 = .ok (.invokevirtual 106, 3) := by decide +kernel
theorem mw_1042 : Cond.methodLink RL 106 yX12_say ∈ wsL_law := inr_44 _ (List.mem_of_getElem? (i := 10) rfl)
theorem mw_1045 : Cond.code yX12_say cX12_say 4 (some .int) ∈ wsL_law := inr_44 _ (List.mem_of_getElem? (i := 13) rfl)
theorem yk_X12_say : xY yX12_say RX12 cX12_say 4 (some .int) 2 := ⟨⟨rfl, by decide +kernel, by decide +kernel, by decide +kernel⟩, mw_5, mw_1045⟩
theorem mw_1043 : Cond.instanceMethod yX12_say ∈ wsL_law := inr_44 _ (List.mem_of_getElem? (i := 11) rfl)
theorem mw_1044 : Cond.selects RX12 yX12_say yX12_say ∈ wsL_law := inr_44 _ (List.mem_of_getElem? (i := 12) rfl)
theorem dL_law_940 : decode cL_law 940 = .ok (.if_icmp .eq 823, 3) := by decide +kernel
theorem dL_law_945 : decode cL_law 945 = .ok (.aload_n 1, 1) := by decide +kernel
theorem dL_law_946 : decode cL_law 946 = .ok (.aload_n 0, 1) := by decide +kernel
theorem dL_law_947 : decode cL_law 947 = .ok (.iload_n 3, 1) := by decide +kernel
theorem dL_law_948 : decode cL_law 948 = .ok (.iconst 1, 1) := by decide +kernel
theorem dL_law_949 : decode cL_law 949 = .ok (.iadd, 1) := by decide +kernel
theorem dL_law_950 : decode cL_law 950 = .ok (.iaload, 1) := by decide +kernel
theorem dL_law_951 : decode cL_law 951 = .ok (.invokevirtual 107, 3) := by decide +kernel
theorem mw_1111 : Cond.methodLink RL 107 yX11_said ∈ wsL_law := inr_47 _ (List.mem_of_getElem? (i := 7) rfl)
theorem mw_1114 : Cond.code yX11_said cX11_said 2 (some .long) ∈ wsL_law := inr_47 _ (List.mem_of_getElem? (i := 10) rfl)
theorem yk_X11_said : xY yX11_said RX11 cX11_said 2 (some .long) 1 := ⟨⟨rfl, by decide +kernel, by decide +kernel, by decide +kernel⟩, mw_2, mw_1114⟩
theorem mw_1112 : Cond.instanceMethod yX11_said ∈ wsL_law := inr_47 _ (List.mem_of_getElem? (i := 8) rfl)
theorem mw_1113 : Cond.selects RX11 yX11_said yX11_said ∈ wsL_law := inr_47 _ (List.mem_of_getElem? (i := 9) rfl)
theorem dL_law_954 : decode cL_law 954 = .ok (.aload_n 2, 1) := by decide +kernel
theorem dL_law_955 : decode cL_law 955 = .ok (.aload_n 0, 1) := by decide +kernel
theorem dL_law_956 : decode cL_law 956 = .ok (.iload_n 3, 1) := by decide +kernel
theorem dL_law_957 : decode cL_law 957 = .ok (.iconst 1, 1) := by decide +kernel
theorem dL_law_958 : decode cL_law 958 = .ok (.iadd, 1) := by decide +kernel
theorem dL_law_959 : decode cL_law 959 = .ok (.iaload, 1) := by decide +kernel
theorem dL_law_960 : decode cL_law 960 = .ok (.invokevirtual 111, 3) := by decide +kernel
theorem mw_1115 : Cond.methodLink RL 111 yX12_said ∈ wsL_law := inr_47 _ (List.mem_of_getElem? (i := 11) rfl)
theorem mw_1118 : Cond.code yX12_said cX12_said 2 (some .long) ∈ wsL_law := inr_47 _ (List.mem_of_getElem? (i := 14) rfl)
theorem yk_X12_said : xY yX12_said RX12 cX12_said 2 (some .long) 1 := ⟨⟨rfl, by decide +kernel, by decide +kernel, by decide +kernel⟩, mw_5, mw_1118⟩
theorem mw_1116 : Cond.instanceMethod yX12_said ∈ wsL_law := inr_47 _ (List.mem_of_getElem? (i := 12) rfl)
theorem mw_1117 : Cond.selects RX12 yX12_said yX12_said ∈ wsL_law := inr_47 _ (List.mem_of_getElem? (i := 13) rfl)
theorem dL_law_963 : decode cL_law 963 = .ok (.lcmp, 1) := by decide +kernel
theorem dL_law_964 : decode cL_law 964 = .ok (.ifCond .eq 799, 3) := by decide +kernel
theorem dL_law_969 : decode cL_law 969 = .ok (.aload_n 1, 1) := by decide +kernel
theorem dL_law_970 : decode cL_law 970 = .ok (.aload_n 0, 1) := by decide +kernel
theorem dL_law_971 : decode cL_law 971 = .ok (.iload_n 3, 1) := by decide +kernel
theorem dL_law_972 : decode cL_law 972 = .ok (.iconst 1, 1) := by decide +kernel
theorem dL_law_973 : decode cL_law 973 = .ok (.iadd, 1) := by decide +kernel
theorem dL_law_974 : decode cL_law 974 = .ok (.iaload, 1) := by decide +kernel
theorem dL_law_975 : decode cL_law 975 = .ok (.invokevirtual 112, 3) := by decide +kernel
theorem mw_1119 : Cond.methodLink RL 112 yX11_how ∈ wsL_law := inr_47 _ (List.mem_of_getElem? (i := 15) rfl)
theorem mw_1122 : Cond.code yX11_how cX11_how 3 (some .int) ∈ wsL_law := inr_47 _ (List.mem_of_getElem? (i := 18) rfl)
theorem yk_X11_how : xY yX11_how RX11 cX11_how 3 (some .int) 1 := ⟨⟨rfl, by decide +kernel, by decide +kernel, by decide +kernel⟩, mw_2, mw_1122⟩
theorem mw_1120 : Cond.instanceMethod yX11_how ∈ wsL_law := inr_47 _ (List.mem_of_getElem? (i := 16) rfl)
theorem mw_1121 : Cond.selects RX11 yX11_how yX11_how ∈ wsL_law := inr_47 _ (List.mem_of_getElem? (i := 17) rfl)
theorem dL_law_978 : decode cL_law 978 = .ok (.aload_n 2, 1) := by decide +kernel
theorem dL_law_979 : decode cL_law 979 = .ok (.aload_n 0, 1) := by decide +kernel
theorem dL_law_980 : decode cL_law 980 = .ok (.iload_n 3, 1) := by decide +kernel
theorem dL_law_981 : decode cL_law 981 = .ok (.iconst 1, 1) := by decide +kernel
theorem dL_law_982 : decode cL_law 982 = .ok (.iadd, 1) := by decide +kernel
theorem dL_law_983 : decode cL_law 983 = .ok (.iaload, 1) := by decide +kernel
theorem dL_law_984 : decode cL_law 984 = .ok (.invokevirtual 115, 3) := by decide +kernel
theorem mw_1123 : Cond.methodLink RL 115 yX12_how ∈ wsL_law := inr_47 _ (List.mem_of_getElem? (i := 19) rfl)
theorem mw_1126 : Cond.code yX12_how cX12_how 3 (some .int) ∈ wsL_law := inr_47 _ (List.mem_of_getElem? (i := 22) rfl)
theorem yk_X12_how : xY yX12_how RX12 cX12_how 3 (some .int) 1 := ⟨⟨rfl, by decide +kernel, by decide +kernel, by decide +kernel⟩, mw_5, mw_1126⟩
theorem mw_1124 : Cond.instanceMethod yX12_how ∈ wsL_law := inr_47 _ (List.mem_of_getElem? (i := 20) rfl)
theorem mw_1125 : Cond.selects RX12 yX12_how yX12_how ∈ wsL_law := inr_47 _ (List.mem_of_getElem? (i := 21) rfl)
theorem dL_law_987 : decode cL_law 987 = .ok (.if_icmp .eq 776, 3) := by decide +kernel
set_option maxHeartbeats 4000000 in
set_option maxRecDepth 100000 in
theorem law_c11 {p : Program} {l : Launch} {e : Env} {s : State} {m : MethodId} {below : List Frame} {meth : Method} {c : Code} {b : Nat} {xs : Nat → Int32} {D : va_G} {cy : Nat → ClassId} {A : Nat → Prop} {H : Heap} {locs : List Loc} {ls : Array Slot} {q r : Nat} {u v : Nat → Nat} (F : CallFix p m c cL_law 4 s #[Value.ref b] wsL_law RL) (hr : meth.sig.returnType = ret) (hlocks : meth.locks = false) (hX : va_X b 6 xs s s.heap) (hbl : b < s.heap.size) (hAs : ∀ q, A q → s.heap.size ≤ q) (h : xS D cy A s.heap (askW cy q u ++ modW cy r v) s H locs) (hl : lv_has ls 4 [(3, .int 0), (2, .ref r), (1, .ref q), (0, .ref b)]) : W p l e room_1 s m #[Value.ref b] below meth c H locs 857 99087 (lw_Z below #[Value.ref b] s) (F0 m 616 ls []) := by
  have hbA : ¬ A b := fun ha => absurd (hAs b ha) (Nat.not_le.mpr hbl)
  have h : xS D cy A s.heap ([(q, .inr (11, [.ref ((u 0)), .ref ((u 1)), .ref ((u 2)), .ref ((u 3)), .ref ((u 4)), .ref ((u 5)), .ref ((u 6)), .ref ((u 7)), .ref ((u 8)), .ref ((u 9)), .int 0, .int 0, .int (-1), .int 0, .int 0, .long 0, .long 1])), (((u 3)), .inr (0, [.ref ((u 57)), .ref ((u 58)), .ref ((u 59)), .ref ((u 60)), .ref ((u 61)), .int 0, .int 0])), (((u 5)), .inr (9, [.ref ((u 21)), .ref ((u 22)), .ref ((u 23)), .ref ((u 24)), .int 0])), (r, .inr (12, (.ref ((v 0)) :: .int 0 :: .long 0 :: .long 1 :: .ref ((v 1)) :: .ref ((v 2)) :: .ref ((v 3)) :: .ref ((v 4)) :: .ref ((v 5)) :: .int 0 :: .int 0 :: .int 0 :: .int 0 :: .int 0 :: .int 0 :: .int (-1) :: .int (-1) :: .int 0 :: .ref ((v 6)) :: .int 0 :: .int 0 :: .ref ((v 7)) :: .ref ((v 8)) :: .ref ((v 9)) :: .ref ((v 10)) :: .ref ((v 11)) :: .ref ((v 12)) :: .ref ((v 13)) :: .int 0 :: .int 0 :: .int (-1) :: .int 0 :: .int (-1) :: .int 0 :: .ref ((v 14)) :: .int 0 :: .int 0 :: .int 0 :: .int 0 :: .int 0 :: .ref ((v 15)) :: .ref ((v 16)) :: .int 0 :: .int (-1) :: .int 0 :: .int 0 :: .int 0 :: .int 0 :: .ref ((v 17)) :: .ref ((v 18)) :: .ref ((v 19)) :: .int 0 :: .ref ((v 20)) :: .ref ((v 21)) :: .int 0 :: .ref ((v 22)) :: .int (-1) :: .int 0 :: .ref ((v 23)) :: .int (-1) :: .int (-1) :: .int 0 :: .ref ((v 24)) :: .ref ((v 25)) :: .int 0 :: []))), (((v 0)), .inl (cy 2, 25710, .inr (.inl (fun _ => 0))))]) s H locs := h.sub [0, 34, 12, 146, 147] (by decide +kernel) rfl
  refine lv_aload_n F.1 F.2.1 dL_law_616 rfl (lv_at hl 2 rfl) ?_
  refine lv_aload_n F.1 F.2.1 dL_law_617 rfl (lv_at hl 3 rfl) ?_
  refine lv_iload_n F.1 F.2.1 dL_law_618 rfl (lv_at hl 0 rfl) ?_
  refine lv_iconst (v := 1) F.1 F.2.1 dL_law_619 (by decide) ?_
  refine lv_iadd F.1 F.2.1 dL_law_620 ?_
  refine x_topi (y := 1) (by decide +kernel) ?_
  refine va_sld F.1 F.2.1 hX hbl hbA h.2.2.2.1 (x_in (by decide +kernel)) dL_law_621 ?_
  refine x_topi (y := (xs 1)) rfl ?_
  refine x_Vi (wr := [(r, .inr (12, (.ref ((v 0)) :: .int 0 :: .long 0 :: .long 1 :: .ref ((v 1)) :: .ref ((v 2)) :: .ref ((v 3)) :: .ref ((v 4)) :: .ref ((v 5)) :: .int 0 :: .int 0 :: .int 0 :: .int 0 :: .int 0 :: .int 0 :: .int (-1) :: .int (-1) :: .int 0 :: .ref ((v 6)) :: .int 0 :: .int 0 :: .ref ((v 7)) :: .ref ((v 8)) :: .ref ((v 9)) :: .ref ((v 10)) :: .ref ((v 11)) :: .ref ((v 12)) :: .ref ((v 13)) :: .int 0 :: .int 0 :: .int (-1) :: .int 0 :: .int (-1) :: .int 0 :: .ref ((v 14)) :: .int 0 :: .int 0 :: .int 0 :: .int 0 :: .int 0 :: .ref ((v 15)) :: .ref ((v 16)) :: .int 0 :: .int (-1) :: .int 0 :: .int 0 :: .int 0 :: .int 0 :: .ref ((v 17)) :: .ref ((v 18)) :: .ref ((v 19)) :: .int 0 :: .ref ((v 20)) :: .ref ((v 21)) :: .int 0 :: .ref ((v 22)) :: .int (-1) :: .int 0 :: .ref ((v 23)) :: .int (-1) :: .int (-1) :: .int 0 :: .ref ((v 24)) :: .ref ((v 25)) :: .int 0 :: []))), (((v 0)), .inl (cy 2, 25710, .inr (.inl (fun _ => 0))))]) F h yk_X11_many mw_763 mw_764 mw_765 (c_many l D cy q u ((xs 1))) [0, 1, 2] [3, 4] 0 rfl rfl rfl rfl (by decide) rfl rfl hl.1 rfl (Nat.le_of_ble_eq_true rfl) ⟨Nat.le_of_ble_eq_true rfl, Nat.le_of_ble_eq_true rfl⟩ ⟨Nat.le_of_ble_eq_true rfl, Nat.le_of_ble_eq_true rfl⟩ dL_law_622 (fun r2 u3 H locs hp1 h => ?_)
  have h : xS D cy A s.heap ([(r, .inr (12, (.ref ((v 0)) :: .int 0 :: .long 0 :: .long 1 :: .ref ((v 1)) :: .ref ((v 2)) :: .ref ((v 3)) :: .ref ((v 4)) :: .ref ((v 5)) :: .int 0 :: .int 0 :: .int 0 :: .int 0 :: .int 0 :: .int 0 :: .int (-1) :: .int (-1) :: .int 0 :: .ref ((v 6)) :: .int 0 :: .int 0 :: .ref ((v 7)) :: .ref ((v 8)) :: .ref ((v 9)) :: .ref ((v 10)) :: .ref ((v 11)) :: .ref ((v 12)) :: .ref ((v 13)) :: .int 0 :: .int 0 :: .int (-1) :: .int 0 :: .int (-1) :: .int 0 :: .ref ((v 14)) :: .int 0 :: .int 0 :: .int 0 :: .int 0 :: .int 0 :: .ref ((v 15)) :: .ref ((v 16)) :: .int 0 :: .int (-1) :: .int 0 :: .int 0 :: .int 0 :: .int 0 :: .ref ((v 17)) :: .ref ((v 18)) :: .ref ((v 19)) :: .int 0 :: .ref ((v 20)) :: .ref ((v 21)) :: .int 0 :: .ref ((v 22)) :: .int (-1) :: .int 0 :: .ref ((v 23)) :: .int (-1) :: .int (-1) :: .int 0 :: .ref ((v 24)) :: .ref ((v 25)) :: .int 0 :: []))), (((v 0)), .inl (cy 2, 25710, .inr (.inl (fun _ => 0))))]) s H locs := h
  refine lv_aload_n F.1 F.2.1 dL_law_625 rfl (lv_at hl 1 rfl) ?_
  refine lv_aload_n F.1 F.2.1 dL_law_626 rfl (lv_at hl 3 rfl) ?_
  refine lv_iload_n F.1 F.2.1 dL_law_627 rfl (lv_at hl 0 rfl) ?_
  refine lv_iconst (v := 1) F.1 F.2.1 dL_law_628 (by decide) ?_
  refine lv_iadd F.1 F.2.1 dL_law_629 ?_
  refine x_topi (y := 1) (by decide +kernel) ?_
  refine va_sld F.1 F.2.1 hX hbl hbA h.2.2.2.1 (x_in (by decide +kernel)) dL_law_630 ?_
  refine x_topi (y := (xs 1)) rfl ?_
  refine x_Vi (wr := []) F h yk_X12_many mw_769 mw_770 mw_771 (c_m_many l D cy r v ((xs 1))) [0, 1] [] 0 rfl rfl rfl rfl (by decide) rfl rfl hl.1 rfl (Nat.le_of_ble_eq_true rfl) ⟨Nat.le_of_ble_eq_true rfl, Nat.le_of_ble_eq_true rfl⟩ ⟨Nat.le_of_ble_eq_true rfl, Nat.le_of_ble_eq_true rfl⟩ dL_law_631 (fun r5 u6 H locs hp4 h => ?_)
  have h : xS D cy A s.heap ([]) s H locs := h
  refine lv_icmp_eq (tgt := 1763) F.1 F.2.1 dL_law_634 (by decide) (fun _ => ?_) (fun hc => absurd (hp1.trans hp4.symm) hc)
  exact law_end F hr hlocks hX hbl hAs h (lv_sub hl [0, 3] rfl)
set_option maxHeartbeats 4000000 in
set_option maxRecDepth 100000 in
theorem law_c12 {p : Program} {l : Launch} {e : Env} {s : State} {m : MethodId} {below : List Frame} {meth : Method} {c : Code} {b : Nat} {xs : Nat → Int32} {D : va_G} {cy : Nat → ClassId} {A : Nat → Prop} {H : Heap} {locs : List Loc} {ls : Array Slot} {q r : Nat} {u v : Nat → Nat} (F : CallFix p m c cL_law 4 s #[Value.ref b] wsL_law RL) (hr : meth.sig.returnType = ret) (hlocks : meth.locks = false) (hX : va_X b 6 xs s s.heap) (hbl : b < s.heap.size) (hAs : ∀ q, A q → s.heap.size ≤ q) (h : xS D cy A s.heap (askW cy q u ++ modW cy r v) s H locs) (hl : lv_has ls 4 [(3, .int 0), (2, .ref r), (1, .ref q), (0, .ref b)]) : W p l e room_1 s m #[Value.ref b] below meth c H locs 857 99087 (lw_Z below #[Value.ref b] s) (F0 m 639 ls []) := by
  have hbA : ¬ A b := fun ha => absurd (hAs b ha) (Nat.not_le.mpr hbl)
  have h : xS D cy A s.heap ([(q, .inr (11, [.ref ((u 0)), .ref ((u 1)), .ref ((u 2)), .ref ((u 3)), .ref ((u 4)), .ref ((u 5)), .ref ((u 6)), .ref ((u 7)), .ref ((u 8)), .ref ((u 9)), .int 0, .int 0, .int (-1), .int 0, .int 0, .long 0, .long 1])), (((u 3)), .inr (0, [.ref ((u 57)), .ref ((u 58)), .ref ((u 59)), .ref ((u 60)), .ref ((u 61)), .int 0, .int 0])), (r, .inr (12, (.ref ((v 0)) :: .int 0 :: .long 0 :: .long 1 :: .ref ((v 1)) :: .ref ((v 2)) :: .ref ((v 3)) :: .ref ((v 4)) :: .ref ((v 5)) :: .int 0 :: .int 0 :: .int 0 :: .int 0 :: .int 0 :: .int 0 :: .int (-1) :: .int (-1) :: .int 0 :: .ref ((v 6)) :: .int 0 :: .int 0 :: .ref ((v 7)) :: .ref ((v 8)) :: .ref ((v 9)) :: .ref ((v 10)) :: .ref ((v 11)) :: .ref ((v 12)) :: .ref ((v 13)) :: .int 0 :: .int 0 :: .int (-1) :: .int 0 :: .int (-1) :: .int 0 :: .ref ((v 14)) :: .int 0 :: .int 0 :: .int 0 :: .int 0 :: .int 0 :: .ref ((v 15)) :: .ref ((v 16)) :: .int 0 :: .int (-1) :: .int 0 :: .int 0 :: .int 0 :: .int 0 :: .ref ((v 17)) :: .ref ((v 18)) :: .ref ((v 19)) :: .int 0 :: .ref ((v 20)) :: .ref ((v 21)) :: .int 0 :: .ref ((v 22)) :: .int (-1) :: .int 0 :: .ref ((v 23)) :: .int (-1) :: .int (-1) :: .int 0 :: .ref ((v 24)) :: .ref ((v 25)) :: .int 0 :: []))), (((v 0)), .inl (cy 2, 25710, .inr (.inl (fun _ => 0))))]) s H locs := h.sub [0, 34, 146, 147] (by decide +kernel) rfl
  refine lv_aload_n F.1 F.2.1 dL_law_639 rfl (lv_at hl 2 rfl) ?_
  refine lv_aload_n F.1 F.2.1 dL_law_640 rfl (lv_at hl 3 rfl) ?_
  refine lv_iload_n F.1 F.2.1 dL_law_641 rfl (lv_at hl 0 rfl) ?_
  refine lv_iconst (v := 1) F.1 F.2.1 dL_law_642 (by decide) ?_
  refine lv_iadd F.1 F.2.1 dL_law_643 ?_
  refine x_topi (y := 1) (by decide +kernel) ?_
  refine va_sld F.1 F.2.1 hX hbl hbA h.2.2.2.1 (x_in (by decide +kernel)) dL_law_644 ?_
  refine x_topi (y := (xs 1)) rfl ?_
  refine lv_aload_n F.1 F.2.1 dL_law_645 rfl (lv_at hl 3 rfl) ?_
  refine lv_iload_n F.1 F.2.1 dL_law_646 rfl (lv_at hl 0 rfl) ?_
  refine lv_iconst (v := 2) F.1 F.2.1 dL_law_647 (by decide) ?_
  refine lv_iadd F.1 F.2.1 dL_law_648 ?_
  refine x_topi (y := 2) (by decide +kernel) ?_
  refine va_sld F.1 F.2.1 hX hbl hbA h.2.2.2.1 (x_in (by decide +kernel)) dL_law_649 ?_
  refine x_topi (y := (xs 2)) rfl ?_
  refine x_Vl (wr := [(r, .inr (12, (.ref ((v 0)) :: .int 0 :: .long 0 :: .long 1 :: .ref ((v 1)) :: .ref ((v 2)) :: .ref ((v 3)) :: .ref ((v 4)) :: .ref ((v 5)) :: .int 0 :: .int 0 :: .int 0 :: .int 0 :: .int 0 :: .int 0 :: .int (-1) :: .int (-1) :: .int 0 :: .ref ((v 6)) :: .int 0 :: .int 0 :: .ref ((v 7)) :: .ref ((v 8)) :: .ref ((v 9)) :: .ref ((v 10)) :: .ref ((v 11)) :: .ref ((v 12)) :: .ref ((v 13)) :: .int 0 :: .int 0 :: .int (-1) :: .int 0 :: .int (-1) :: .int 0 :: .ref ((v 14)) :: .int 0 :: .int 0 :: .int 0 :: .int 0 :: .int 0 :: .ref ((v 15)) :: .ref ((v 16)) :: .int 0 :: .int (-1) :: .int 0 :: .int 0 :: .int 0 :: .int 0 :: .ref ((v 17)) :: .ref ((v 18)) :: .ref ((v 19)) :: .int 0 :: .ref ((v 20)) :: .ref ((v 21)) :: .int 0 :: .ref ((v 22)) :: .int (-1) :: .int 0 :: .ref ((v 23)) :: .int (-1) :: .int (-1) :: .int 0 :: .ref ((v 24)) :: .ref ((v 25)) :: .int 0 :: []))), (((v 0)), .inl (cy 2, 25710, .inr (.inl (fun _ => 0))))]) F h yk_X11_word mw_774 mw_775 mw_776 (c_word l D cy q u ((xs 1)) ((xs 2))) [0, 1] [2, 3] 0 rfl rfl rfl rfl (by decide) rfl rfl hl.1 rfl (Nat.le_of_ble_eq_true rfl) ⟨Nat.le_of_ble_eq_true rfl, Nat.le_of_ble_eq_true rfl⟩ ⟨Nat.le_of_ble_eq_true rfl, Nat.le_of_ble_eq_true rfl⟩ dL_law_650 (fun r2 u3 H locs hp1 h => ?_)
  have h : xS D cy A s.heap ([(r, .inr (12, (.ref ((v 0)) :: .int 0 :: .long 0 :: .long 1 :: .ref ((v 1)) :: .ref ((v 2)) :: .ref ((v 3)) :: .ref ((v 4)) :: .ref ((v 5)) :: .int 0 :: .int 0 :: .int 0 :: .int 0 :: .int 0 :: .int 0 :: .int (-1) :: .int (-1) :: .int 0 :: .ref ((v 6)) :: .int 0 :: .int 0 :: .ref ((v 7)) :: .ref ((v 8)) :: .ref ((v 9)) :: .ref ((v 10)) :: .ref ((v 11)) :: .ref ((v 12)) :: .ref ((v 13)) :: .int 0 :: .int 0 :: .int (-1) :: .int 0 :: .int (-1) :: .int 0 :: .ref ((v 14)) :: .int 0 :: .int 0 :: .int 0 :: .int 0 :: .int 0 :: .ref ((v 15)) :: .ref ((v 16)) :: .int 0 :: .int (-1) :: .int 0 :: .int 0 :: .int 0 :: .int 0 :: .ref ((v 17)) :: .ref ((v 18)) :: .ref ((v 19)) :: .int 0 :: .ref ((v 20)) :: .ref ((v 21)) :: .int 0 :: .ref ((v 22)) :: .int (-1) :: .int 0 :: .ref ((v 23)) :: .int (-1) :: .int (-1) :: .int 0 :: .ref ((v 24)) :: .ref ((v 25)) :: .int 0 :: []))), (((v 0)), .inl (cy 2, 25710, .inr (.inl (fun _ => 0))))]) s H locs := h
  obtain rfl : r2 = (-1) := hp1
  refine lv_aload_n F.1 F.2.1 dL_law_653 rfl (lv_at hl 1 rfl) ?_
  refine lv_aload_n F.1 F.2.1 dL_law_654 rfl (lv_at hl 3 rfl) ?_
  refine lv_iload_n F.1 F.2.1 dL_law_655 rfl (lv_at hl 0 rfl) ?_
  refine lv_iconst (v := 1) F.1 F.2.1 dL_law_656 (by decide) ?_
  refine lv_iadd F.1 F.2.1 dL_law_657 ?_
  refine x_topi (y := 1) (by decide +kernel) ?_
  refine va_sld F.1 F.2.1 hX hbl hbA h.2.2.2.1 (x_in (by decide +kernel)) dL_law_658 ?_
  refine x_topi (y := (xs 1)) rfl ?_
  refine lv_aload_n F.1 F.2.1 dL_law_659 rfl (lv_at hl 3 rfl) ?_
  refine lv_iload_n F.1 F.2.1 dL_law_660 rfl (lv_at hl 0 rfl) ?_
  refine lv_iconst (v := 2) F.1 F.2.1 dL_law_661 (by decide) ?_
  refine lv_iadd F.1 F.2.1 dL_law_662 ?_
  refine x_topi (y := 2) (by decide +kernel) ?_
  refine va_sld F.1 F.2.1 hX hbl hbA h.2.2.2.1 (x_in (by decide +kernel)) dL_law_663 ?_
  refine x_topi (y := (xs 2)) rfl ?_
  refine x_Vl (wr := []) F h yk_X12_word mw_793 mw_794 mw_795 (c_m_word l D cy r v ((xs 1)) ((xs 2))) [0, 1] [] 0 rfl rfl rfl rfl (by decide) rfl rfl hl.1 rfl (Nat.le_of_ble_eq_true rfl) ⟨Nat.le_of_ble_eq_true rfl, Nat.le_of_ble_eq_true rfl⟩ ⟨Nat.le_of_ble_eq_true rfl, Nat.le_of_ble_eq_true rfl⟩ dL_law_664 (fun r5 u6 H locs hp4 h => ?_)
  have h : xS D cy A s.heap ([]) s H locs := h
  obtain rfl : r5 = (-1) := hp4
  refine W.lcmp F.1 F.2.1 dL_law_667 ?_
  refine x_topi (y := 0) (by decide +kernel) ?_
  refine lv_if_eq (tgt := 1763) F.1 F.2.1 dL_law_668 (by decide) (fun _ => ?_) (fun hc => absurd (by decide) hc)
  exact law_end F hr hlocks hX hbl hAs h (lv_sub hl [0, 3] rfl)
set_option maxHeartbeats 4000000 in
set_option maxRecDepth 100000 in
theorem law_c13 {p : Program} {l : Launch} {e : Env} {s : State} {m : MethodId} {below : List Frame} {meth : Method} {c : Code} {b : Nat} {xs : Nat → Int32} {D : va_G} {cy : Nat → ClassId} {A : Nat → Prop} {H : Heap} {locs : List Loc} {ls : Array Slot} {q r : Nat} {u v : Nat → Nat} (F : CallFix p m c cL_law 4 s #[Value.ref b] wsL_law RL) (hr : meth.sig.returnType = ret) (hlocks : meth.locks = false) (hX : va_X b 6 xs s s.heap) (hbl : b < s.heap.size) (hAs : ∀ q, A q → s.heap.size ≤ q) (h : xS D cy A s.heap (askW cy q u ++ modW cy r v) s H locs) (hl : lv_has ls 4 [(3, .int 0), (2, .ref r), (1, .ref q), (0, .ref b)]) : W p l e room_1 s m #[Value.ref b] below meth c H locs 857 99087 (lw_Z below #[Value.ref b] s) (F0 m 673 ls []) := by
  have hbA : ¬ A b := fun ha => absurd (hAs b ha) (Nat.not_le.mpr hbl)
  have h : xS D cy A s.heap ([(q, .inr (11, [.ref ((u 0)), .ref ((u 1)), .ref ((u 2)), .ref ((u 3)), .ref ((u 4)), .ref ((u 5)), .ref ((u 6)), .ref ((u 7)), .ref ((u 8)), .ref ((u 9)), .int 0, .int 0, .int (-1), .int 0, .int 0, .long 0, .long 1])), (((u 3)), .inr (0, [.ref ((u 57)), .ref ((u 58)), .ref ((u 59)), .ref ((u 60)), .ref ((u 61)), .int 0, .int 0])), (((u 57)), .inl (cy 7, 3, .inr (.inr (.inr (.inr (va_up (va_up (va_up (fun _ => none) 0 (some ((u 62)))) 1 (some ((u 63)))) 2 (some ((u 64))))))))), (((u 62)), .inr (6, [.ref ((u 88)), .ref ((u 89)), .ref ((u 90)), .ref ((u 91)), .ref ((u 92)), .ref ((u 93)), .ref ((u 94)), .ref ((u 95)), .ref ((u 96)), .ref ((u 97)), .ref ((u 98)), .ref ((u 99)), .ref ((u 100)), .ref ((u 101)), .int 0, .int 0, .int 0, .int 0, .int 0])), (((u 63)), .inr (6, [.ref ((u 102)), .ref ((u 103)), .ref ((u 104)), .ref ((u 105)), .ref ((u 106)), .ref ((u 107)), .ref ((u 108)), .ref ((u 109)), .ref ((u 110)), .ref ((u 111)), .ref ((u 112)), .ref ((u 113)), .ref ((u 114)), .ref ((u 115)), .int 0, .int 0, .int 0, .int 0, .int 0])), (((u 64)), .inr (6, [.ref ((u 116)), .ref ((u 117)), .ref ((u 118)), .ref ((u 119)), .ref ((u 120)), .ref ((u 121)), .ref ((u 122)), .ref ((u 123)), .ref ((u 124)), .ref ((u 125)), .ref ((u 126)), .ref ((u 127)), .ref ((u 128)), .ref ((u 129)), .int 0, .int 0, .int 0, .int 0, .int 0])), (((u 58)), .inl (cy 8, 3, .inr (.inr (.inr (.inr (va_up (va_up (va_up (fun _ => none) 0 (some ((u 65)))) 1 (some ((u 66)))) 2 (some ((u 67))))))))), (((u 65)), .inr (8, [.ref ((u 68)), .int 0, .long 0])), (((u 66)), .inr (8, [.ref ((u 69)), .int 0, .long 0])), (((u 67)), .inr (8, [.ref ((u 70)), .int 0, .long 0])), (r, .inr (12, (.ref ((v 0)) :: .int 0 :: .long 0 :: .long 1 :: .ref ((v 1)) :: .ref ((v 2)) :: .ref ((v 3)) :: .ref ((v 4)) :: .ref ((v 5)) :: .int 0 :: .int 0 :: .int 0 :: .int 0 :: .int 0 :: .int 0 :: .int (-1) :: .int (-1) :: .int 0 :: .ref ((v 6)) :: .int 0 :: .int 0 :: .ref ((v 7)) :: .ref ((v 8)) :: .ref ((v 9)) :: .ref ((v 10)) :: .ref ((v 11)) :: .ref ((v 12)) :: .ref ((v 13)) :: .int 0 :: .int 0 :: .int (-1) :: .int 0 :: .int (-1) :: .int 0 :: .ref ((v 14)) :: .int 0 :: .int 0 :: .int 0 :: .int 0 :: .int 0 :: .ref ((v 15)) :: .ref ((v 16)) :: .int 0 :: .int (-1) :: .int 0 :: .int 0 :: .int 0 :: .int 0 :: .ref ((v 17)) :: .ref ((v 18)) :: .ref ((v 19)) :: .int 0 :: .ref ((v 20)) :: .ref ((v 21)) :: .int 0 :: .ref ((v 22)) :: .int (-1) :: .int 0 :: .ref ((v 23)) :: .int (-1) :: .int (-1) :: .int 0 :: .ref ((v 24)) :: .ref ((v 25)) :: .int 0 :: []))), (((v 0)), .inl (cy 2, 25710, .inr (.inl (fun _ => 0))))]) s H locs := h.sub [0, 34, 35, 40, 55, 70, 36, 85, 86, 87, 146, 147] (by decide +kernel) rfl
  refine lv_aload_n F.1 F.2.1 dL_law_673 rfl (lv_at hl 2 rfl) ?_
  refine lv_aload_n F.1 F.2.1 dL_law_674 rfl (lv_at hl 3 rfl) ?_
  refine lv_iload_n F.1 F.2.1 dL_law_675 rfl (lv_at hl 0 rfl) ?_
  refine lv_iconst (v := 1) F.1 F.2.1 dL_law_676 (by decide) ?_
  refine lv_iadd F.1 F.2.1 dL_law_677 ?_
  refine x_topi (y := 1) (by decide +kernel) ?_
  refine va_sld F.1 F.2.1 hX hbl hbA h.2.2.2.1 (x_in (by decide +kernel)) dL_law_678 ?_
  refine x_topi (y := (xs 1)) rfl ?_
  refine lv_aload_n F.1 F.2.1 dL_law_679 rfl (lv_at hl 3 rfl) ?_
  refine lv_iload_n F.1 F.2.1 dL_law_680 rfl (lv_at hl 0 rfl) ?_
  refine lv_iconst (v := 2) F.1 F.2.1 dL_law_681 (by decide) ?_
  refine lv_iadd F.1 F.2.1 dL_law_682 ?_
  refine x_topi (y := 2) (by decide +kernel) ?_
  refine va_sld F.1 F.2.1 hX hbl hbA h.2.2.2.1 (x_in (by decide +kernel)) dL_law_683 ?_
  refine x_topi (y := (xs 2)) rfl ?_
  refine x_Vi (wr := [(r, .inr (12, (.ref ((v 0)) :: .int 0 :: .long 0 :: .long 1 :: .ref ((v 1)) :: .ref ((v 2)) :: .ref ((v 3)) :: .ref ((v 4)) :: .ref ((v 5)) :: .int 0 :: .int 0 :: .int 0 :: .int 0 :: .int 0 :: .int 0 :: .int (-1) :: .int (-1) :: .int 0 :: .ref ((v 6)) :: .int 0 :: .int 0 :: .ref ((v 7)) :: .ref ((v 8)) :: .ref ((v 9)) :: .ref ((v 10)) :: .ref ((v 11)) :: .ref ((v 12)) :: .ref ((v 13)) :: .int 0 :: .int 0 :: .int (-1) :: .int 0 :: .int (-1) :: .int 0 :: .ref ((v 14)) :: .int 0 :: .int 0 :: .int 0 :: .int 0 :: .int 0 :: .ref ((v 15)) :: .ref ((v 16)) :: .int 0 :: .int (-1) :: .int 0 :: .int 0 :: .int 0 :: .int 0 :: .ref ((v 17)) :: .ref ((v 18)) :: .ref ((v 19)) :: .int 0 :: .ref ((v 20)) :: .ref ((v 21)) :: .int 0 :: .ref ((v 22)) :: .int (-1) :: .int 0 :: .ref ((v 23)) :: .int (-1) :: .int (-1) :: .int 0 :: .ref ((v 24)) :: .ref ((v 25)) :: .int 0 :: []))), (((v 0)), .inl (cy 2, 25710, .inr (.inl (fun _ => 0))))]) F h yk_X11_count mw_805 mw_806 mw_807 (c_count l D cy q u ((xs 1)) ((xs 2))) [0, 1, 2, 3, 4, 5, 6, 7, 8, 9] [10, 11] 0 rfl rfl rfl rfl (by decide) rfl rfl hl.1 rfl (Nat.le_of_ble_eq_true rfl) ⟨Nat.le_of_ble_eq_true rfl, Nat.le_of_ble_eq_true rfl⟩ ⟨Nat.le_of_ble_eq_true rfl, Nat.le_of_ble_eq_true rfl⟩ dL_law_684 (fun r2 u3 H locs hp1 h => ?_)
  have h : xS D cy A s.heap ([(r, .inr (12, (.ref ((v 0)) :: .int 0 :: .long 0 :: .long 1 :: .ref ((v 1)) :: .ref ((v 2)) :: .ref ((v 3)) :: .ref ((v 4)) :: .ref ((v 5)) :: .int 0 :: .int 0 :: .int 0 :: .int 0 :: .int 0 :: .int 0 :: .int (-1) :: .int (-1) :: .int 0 :: .ref ((v 6)) :: .int 0 :: .int 0 :: .ref ((v 7)) :: .ref ((v 8)) :: .ref ((v 9)) :: .ref ((v 10)) :: .ref ((v 11)) :: .ref ((v 12)) :: .ref ((v 13)) :: .int 0 :: .int 0 :: .int (-1) :: .int 0 :: .int (-1) :: .int 0 :: .ref ((v 14)) :: .int 0 :: .int 0 :: .int 0 :: .int 0 :: .int 0 :: .ref ((v 15)) :: .ref ((v 16)) :: .int 0 :: .int (-1) :: .int 0 :: .int 0 :: .int 0 :: .int 0 :: .ref ((v 17)) :: .ref ((v 18)) :: .ref ((v 19)) :: .int 0 :: .ref ((v 20)) :: .ref ((v 21)) :: .int 0 :: .ref ((v 22)) :: .int (-1) :: .int 0 :: .ref ((v 23)) :: .int (-1) :: .int (-1) :: .int 0 :: .ref ((v 24)) :: .ref ((v 25)) :: .int 0 :: []))), (((v 0)), .inl (cy 2, 25710, .inr (.inl (fun _ => 0))))]) s H locs := h
  refine lv_aload_n F.1 F.2.1 dL_law_687 rfl (lv_at hl 1 rfl) ?_
  refine lv_aload_n F.1 F.2.1 dL_law_688 rfl (lv_at hl 3 rfl) ?_
  refine lv_iload_n F.1 F.2.1 dL_law_689 rfl (lv_at hl 0 rfl) ?_
  refine lv_iconst (v := 1) F.1 F.2.1 dL_law_690 (by decide) ?_
  refine lv_iadd F.1 F.2.1 dL_law_691 ?_
  refine x_topi (y := 1) (by decide +kernel) ?_
  refine va_sld F.1 F.2.1 hX hbl hbA h.2.2.2.1 (x_in (by decide +kernel)) dL_law_692 ?_
  refine x_topi (y := (xs 1)) rfl ?_
  refine lv_aload_n F.1 F.2.1 dL_law_693 rfl (lv_at hl 3 rfl) ?_
  refine lv_iload_n F.1 F.2.1 dL_law_694 rfl (lv_at hl 0 rfl) ?_
  refine lv_iconst (v := 2) F.1 F.2.1 dL_law_695 (by decide) ?_
  refine lv_iadd F.1 F.2.1 dL_law_696 ?_
  refine x_topi (y := 2) (by decide +kernel) ?_
  refine va_sld F.1 F.2.1 hX hbl hbA h.2.2.2.1 (x_in (by decide +kernel)) dL_law_697 ?_
  refine x_topi (y := (xs 2)) rfl ?_
  refine x_Vi (wr := []) F h yk_X12_count mw_812 mw_813 mw_814 (c_m_count l D cy r v ((xs 1)) ((xs 2))) [0, 1] [] 0 rfl rfl rfl rfl (by decide) rfl rfl hl.1 rfl (Nat.le_of_ble_eq_true rfl) ⟨Nat.le_of_ble_eq_true rfl, Nat.le_of_ble_eq_true rfl⟩ ⟨Nat.le_of_ble_eq_true rfl, Nat.le_of_ble_eq_true rfl⟩ dL_law_698 (fun r5 u6 H locs hp4 h => ?_)
  have h : xS D cy A s.heap ([]) s H locs := h
  refine lv_icmp_eq (tgt := 1763) F.1 F.2.1 dL_law_701 (by decide) (fun _ => ?_) (fun hc => absurd (hp1.trans hp4.symm) hc)
  exact law_end F hr hlocks hX hbl hAs h (lv_sub hl [0, 3] rfl)
set_option maxHeartbeats 4000000 in
set_option maxRecDepth 100000 in
theorem law_c14 {p : Program} {l : Launch} {e : Env} {s : State} {m : MethodId} {below : List Frame} {meth : Method} {c : Code} {b : Nat} {xs : Nat → Int32} {D : va_G} {cy : Nat → ClassId} {A : Nat → Prop} {H : Heap} {locs : List Loc} {ls : Array Slot} {q r : Nat} {u v : Nat → Nat} (F : CallFix p m c cL_law 4 s #[Value.ref b] wsL_law RL) (hr : meth.sig.returnType = ret) (hlocks : meth.locks = false) (hX : va_X b 6 xs s s.heap) (hbl : b < s.heap.size) (hAs : ∀ q, A q → s.heap.size ≤ q) (h : xS D cy A s.heap (askW cy q u ++ modW cy r v) s H locs) (hl : lv_has ls 4 [(3, .int 0), (2, .ref r), (1, .ref q), (0, .ref b)]) : W p l e room_1 s m #[Value.ref b] below meth c H locs 857 99087 (lw_Z below #[Value.ref b] s) (F0 m 706 ls []) := by
  have hbA : ¬ A b := fun ha => absurd (hAs b ha) (Nat.not_le.mpr hbl)
  have h : xS D cy A s.heap ([(q, .inr (11, [.ref ((u 0)), .ref ((u 1)), .ref ((u 2)), .ref ((u 3)), .ref ((u 4)), .ref ((u 5)), .ref ((u 6)), .ref ((u 7)), .ref ((u 8)), .ref ((u 9)), .int 0, .int 0, .int (-1), .int 0, .int 0, .long 0, .long 1])), (((u 3)), .inr (0, [.ref ((u 57)), .ref ((u 58)), .ref ((u 59)), .ref ((u 60)), .ref ((u 61)), .int 0, .int 0])), (((u 57)), .inl (cy 7, 3, .inr (.inr (.inr (.inr (va_up (va_up (va_up (fun _ => none) 0 (some ((u 62)))) 1 (some ((u 63)))) 2 (some ((u 64))))))))), (((u 62)), .inr (6, [.ref ((u 88)), .ref ((u 89)), .ref ((u 90)), .ref ((u 91)), .ref ((u 92)), .ref ((u 93)), .ref ((u 94)), .ref ((u 95)), .ref ((u 96)), .ref ((u 97)), .ref ((u 98)), .ref ((u 99)), .ref ((u 100)), .ref ((u 101)), .int 0, .int 0, .int 0, .int 0, .int 0])), (((u 63)), .inr (6, [.ref ((u 102)), .ref ((u 103)), .ref ((u 104)), .ref ((u 105)), .ref ((u 106)), .ref ((u 107)), .ref ((u 108)), .ref ((u 109)), .ref ((u 110)), .ref ((u 111)), .ref ((u 112)), .ref ((u 113)), .ref ((u 114)), .ref ((u 115)), .int 0, .int 0, .int 0, .int 0, .int 0])), (((u 64)), .inr (6, [.ref ((u 116)), .ref ((u 117)), .ref ((u 118)), .ref ((u 119)), .ref ((u 120)), .ref ((u 121)), .ref ((u 122)), .ref ((u 123)), .ref ((u 124)), .ref ((u 125)), .ref ((u 126)), .ref ((u 127)), .ref ((u 128)), .ref ((u 129)), .int 0, .int 0, .int 0, .int 0, .int 0])), (r, .inr (12, (.ref ((v 0)) :: .int 0 :: .long 0 :: .long 1 :: .ref ((v 1)) :: .ref ((v 2)) :: .ref ((v 3)) :: .ref ((v 4)) :: .ref ((v 5)) :: .int 0 :: .int 0 :: .int 0 :: .int 0 :: .int 0 :: .int 0 :: .int (-1) :: .int (-1) :: .int 0 :: .ref ((v 6)) :: .int 0 :: .int 0 :: .ref ((v 7)) :: .ref ((v 8)) :: .ref ((v 9)) :: .ref ((v 10)) :: .ref ((v 11)) :: .ref ((v 12)) :: .ref ((v 13)) :: .int 0 :: .int 0 :: .int (-1) :: .int 0 :: .int (-1) :: .int 0 :: .ref ((v 14)) :: .int 0 :: .int 0 :: .int 0 :: .int 0 :: .int 0 :: .ref ((v 15)) :: .ref ((v 16)) :: .int 0 :: .int (-1) :: .int 0 :: .int 0 :: .int 0 :: .int 0 :: .ref ((v 17)) :: .ref ((v 18)) :: .ref ((v 19)) :: .int 0 :: .ref ((v 20)) :: .ref ((v 21)) :: .int 0 :: .ref ((v 22)) :: .int (-1) :: .int 0 :: .ref ((v 23)) :: .int (-1) :: .int (-1) :: .int 0 :: .ref ((v 24)) :: .ref ((v 25)) :: .int 0 :: []))), (((v 0)), .inl (cy 2, 25710, .inr (.inl (fun _ => 0))))]) s H locs := h.sub [0, 34, 35, 40, 55, 70, 146, 147] (by decide +kernel) rfl
  refine lv_aload_n F.1 F.2.1 dL_law_706 rfl (lv_at hl 2 rfl) ?_
  refine lv_aload_n F.1 F.2.1 dL_law_707 rfl (lv_at hl 3 rfl) ?_
  refine lv_iload_n F.1 F.2.1 dL_law_708 rfl (lv_at hl 0 rfl) ?_
  refine lv_iconst (v := 1) F.1 F.2.1 dL_law_709 (by decide) ?_
  refine lv_iadd F.1 F.2.1 dL_law_710 ?_
  refine x_topi (y := 1) (by decide +kernel) ?_
  refine va_sld F.1 F.2.1 hX hbl hbA h.2.2.2.1 (x_in (by decide +kernel)) dL_law_711 ?_
  refine x_topi (y := (xs 1)) rfl ?_
  refine lv_aload_n F.1 F.2.1 dL_law_712 rfl (lv_at hl 3 rfl) ?_
  refine lv_iload_n F.1 F.2.1 dL_law_713 rfl (lv_at hl 0 rfl) ?_
  refine lv_iconst (v := 2) F.1 F.2.1 dL_law_714 (by decide) ?_
  refine lv_iadd F.1 F.2.1 dL_law_715 ?_
  refine x_topi (y := 2) (by decide +kernel) ?_
  refine va_sld F.1 F.2.1 hX hbl hbA h.2.2.2.1 (x_in (by decide +kernel)) dL_law_716 ?_
  refine x_topi (y := (xs 2)) rfl ?_
  refine lv_aload_n F.1 F.2.1 dL_law_717 rfl (lv_at hl 3 rfl) ?_
  refine lv_iload_n F.1 F.2.1 dL_law_718 rfl (lv_at hl 0 rfl) ?_
  refine lv_iconst (v := 3) F.1 F.2.1 dL_law_719 (by decide) ?_
  refine lv_iadd F.1 F.2.1 dL_law_720 ?_
  refine x_topi (y := 3) (by decide +kernel) ?_
  refine va_sld F.1 F.2.1 hX hbl hbA h.2.2.2.1 (x_in (by decide +kernel)) dL_law_721 ?_
  refine x_topi (y := (xs 3)) rfl ?_
  refine x_Vi (wr := [(r, .inr (12, (.ref ((v 0)) :: .int 0 :: .long 0 :: .long 1 :: .ref ((v 1)) :: .ref ((v 2)) :: .ref ((v 3)) :: .ref ((v 4)) :: .ref ((v 5)) :: .int 0 :: .int 0 :: .int 0 :: .int 0 :: .int 0 :: .int 0 :: .int (-1) :: .int (-1) :: .int 0 :: .ref ((v 6)) :: .int 0 :: .int 0 :: .ref ((v 7)) :: .ref ((v 8)) :: .ref ((v 9)) :: .ref ((v 10)) :: .ref ((v 11)) :: .ref ((v 12)) :: .ref ((v 13)) :: .int 0 :: .int 0 :: .int (-1) :: .int 0 :: .int (-1) :: .int 0 :: .ref ((v 14)) :: .int 0 :: .int 0 :: .int 0 :: .int 0 :: .int 0 :: .ref ((v 15)) :: .ref ((v 16)) :: .int 0 :: .int (-1) :: .int 0 :: .int 0 :: .int 0 :: .int 0 :: .ref ((v 17)) :: .ref ((v 18)) :: .ref ((v 19)) :: .int 0 :: .ref ((v 20)) :: .ref ((v 21)) :: .int 0 :: .ref ((v 22)) :: .int (-1) :: .int 0 :: .ref ((v 23)) :: .int (-1) :: .int (-1) :: .int 0 :: .ref ((v 24)) :: .ref ((v 25)) :: .int 0 :: []))), (((v 0)), .inl (cy 2, 25710, .inr (.inl (fun _ => 0))))]) F h yk_X11_rule mw_816 mw_817 mw_818 (c_rule l D cy q u ((xs 1)) ((xs 2)) ((xs 3))) [0, 1, 2, 3, 4, 5] [6, 7] 0 rfl rfl rfl rfl (by decide) rfl rfl hl.1 rfl (Nat.le_of_ble_eq_true rfl) ⟨Nat.le_of_ble_eq_true rfl, Nat.le_of_ble_eq_true rfl⟩ ⟨Nat.le_of_ble_eq_true rfl, Nat.le_of_ble_eq_true rfl⟩ dL_law_722 (fun r2 u3 H locs hp1 h => ?_)
  have h : xS D cy A s.heap ([(r, .inr (12, (.ref ((v 0)) :: .int 0 :: .long 0 :: .long 1 :: .ref ((v 1)) :: .ref ((v 2)) :: .ref ((v 3)) :: .ref ((v 4)) :: .ref ((v 5)) :: .int 0 :: .int 0 :: .int 0 :: .int 0 :: .int 0 :: .int 0 :: .int (-1) :: .int (-1) :: .int 0 :: .ref ((v 6)) :: .int 0 :: .int 0 :: .ref ((v 7)) :: .ref ((v 8)) :: .ref ((v 9)) :: .ref ((v 10)) :: .ref ((v 11)) :: .ref ((v 12)) :: .ref ((v 13)) :: .int 0 :: .int 0 :: .int (-1) :: .int 0 :: .int (-1) :: .int 0 :: .ref ((v 14)) :: .int 0 :: .int 0 :: .int 0 :: .int 0 :: .int 0 :: .ref ((v 15)) :: .ref ((v 16)) :: .int 0 :: .int (-1) :: .int 0 :: .int 0 :: .int 0 :: .int 0 :: .ref ((v 17)) :: .ref ((v 18)) :: .ref ((v 19)) :: .int 0 :: .ref ((v 20)) :: .ref ((v 21)) :: .int 0 :: .ref ((v 22)) :: .int (-1) :: .int 0 :: .ref ((v 23)) :: .int (-1) :: .int (-1) :: .int 0 :: .ref ((v 24)) :: .ref ((v 25)) :: .int 0 :: []))), (((v 0)), .inl (cy 2, 25710, .inr (.inl (fun _ => 0))))]) s H locs := h
  obtain rfl : r2 = (-1) := hp1
  refine lv_aload_n F.1 F.2.1 dL_law_725 rfl (lv_at hl 1 rfl) ?_
  refine lv_aload_n F.1 F.2.1 dL_law_726 rfl (lv_at hl 3 rfl) ?_
  refine lv_iload_n F.1 F.2.1 dL_law_727 rfl (lv_at hl 0 rfl) ?_
  refine lv_iconst (v := 1) F.1 F.2.1 dL_law_728 (by decide) ?_
  refine lv_iadd F.1 F.2.1 dL_law_729 ?_
  refine x_topi (y := 1) (by decide +kernel) ?_
  refine va_sld F.1 F.2.1 hX hbl hbA h.2.2.2.1 (x_in (by decide +kernel)) dL_law_730 ?_
  refine x_topi (y := (xs 1)) rfl ?_
  refine lv_aload_n F.1 F.2.1 dL_law_731 rfl (lv_at hl 3 rfl) ?_
  refine lv_iload_n F.1 F.2.1 dL_law_732 rfl (lv_at hl 0 rfl) ?_
  refine lv_iconst (v := 2) F.1 F.2.1 dL_law_733 (by decide) ?_
  refine lv_iadd F.1 F.2.1 dL_law_734 ?_
  refine x_topi (y := 2) (by decide +kernel) ?_
  refine va_sld F.1 F.2.1 hX hbl hbA h.2.2.2.1 (x_in (by decide +kernel)) dL_law_735 ?_
  refine x_topi (y := (xs 2)) rfl ?_
  refine lv_aload_n F.1 F.2.1 dL_law_736 rfl (lv_at hl 3 rfl) ?_
  refine lv_iload_n F.1 F.2.1 dL_law_737 rfl (lv_at hl 0 rfl) ?_
  refine lv_iconst (v := 3) F.1 F.2.1 dL_law_738 (by decide) ?_
  refine lv_iadd F.1 F.2.1 dL_law_739 ?_
  refine x_topi (y := 3) (by decide +kernel) ?_
  refine va_sld F.1 F.2.1 hX hbl hbA h.2.2.2.1 (x_in (by decide +kernel)) dL_law_740 ?_
  refine x_topi (y := (xs 3)) rfl ?_
  refine x_Vi (wr := []) F h yk_X12_rule mw_832 mw_833 mw_834 (c_m_rule l D cy r v ((xs 1)) ((xs 2)) ((xs 3))) [0, 1] [] 0 rfl rfl rfl rfl (by decide) rfl rfl hl.1 rfl (Nat.le_of_ble_eq_true rfl) ⟨Nat.le_of_ble_eq_true rfl, Nat.le_of_ble_eq_true rfl⟩ ⟨Nat.le_of_ble_eq_true rfl, Nat.le_of_ble_eq_true rfl⟩ dL_law_741 (fun r5 u6 H locs hp4 h => ?_)
  have h : xS D cy A s.heap ([]) s H locs := h
  obtain rfl : r5 = (-1) := hp4
  refine lv_icmp_eq (tgt := 1763) F.1 F.2.1 dL_law_744 (by decide) (fun _ => ?_) (fun hc => absurd (by decide) hc)
  exact law_end F hr hlocks hX hbl hAs h (lv_sub hl [0, 3] rfl)
set_option maxHeartbeats 4000000 in
set_option maxRecDepth 100000 in
theorem law_c15 {p : Program} {l : Launch} {e : Env} {s : State} {m : MethodId} {below : List Frame} {meth : Method} {c : Code} {b : Nat} {xs : Nat → Int32} {D : va_G} {cy : Nat → ClassId} {A : Nat → Prop} {H : Heap} {locs : List Loc} {ls : Array Slot} {q r : Nat} {u v : Nat → Nat} (F : CallFix p m c cL_law 4 s #[Value.ref b] wsL_law RL) (hr : meth.sig.returnType = ret) (hlocks : meth.locks = false) (hX : va_X b 6 xs s s.heap) (hbl : b < s.heap.size) (hAs : ∀ q, A q → s.heap.size ≤ q) (h : xS D cy A s.heap (askW cy q u ++ modW cy r v) s H locs) (hl : lv_has ls 4 [(3, .int 0), (2, .ref r), (1, .ref q), (0, .ref b)]) : W p l e room_1 s m #[Value.ref b] below meth c H locs 857 99087 (lw_Z below #[Value.ref b] s) (F0 m 749 ls []) := by
  have hbA : ¬ A b := fun ha => absurd (hAs b ha) (Nat.not_le.mpr hbl)
  have h : xS D cy A s.heap ([(q, .inr (11, [.ref ((u 0)), .ref ((u 1)), .ref ((u 2)), .ref ((u 3)), .ref ((u 4)), .ref ((u 5)), .ref ((u 6)), .ref ((u 7)), .ref ((u 8)), .ref ((u 9)), .int 0, .int 0, .int (-1), .int 0, .int 0, .long 0, .long 1])), (((u 3)), .inr (0, [.ref ((u 57)), .ref ((u 58)), .ref ((u 59)), .ref ((u 60)), .ref ((u 61)), .int 0, .int 0])), (((u 57)), .inl (cy 7, 3, .inr (.inr (.inr (.inr (va_up (va_up (va_up (fun _ => none) 0 (some ((u 62)))) 1 (some ((u 63)))) 2 (some ((u 64))))))))), (((u 62)), .inr (6, [.ref ((u 88)), .ref ((u 89)), .ref ((u 90)), .ref ((u 91)), .ref ((u 92)), .ref ((u 93)), .ref ((u 94)), .ref ((u 95)), .ref ((u 96)), .ref ((u 97)), .ref ((u 98)), .ref ((u 99)), .ref ((u 100)), .ref ((u 101)), .int 0, .int 0, .int 0, .int 0, .int 0])), (((u 63)), .inr (6, [.ref ((u 102)), .ref ((u 103)), .ref ((u 104)), .ref ((u 105)), .ref ((u 106)), .ref ((u 107)), .ref ((u 108)), .ref ((u 109)), .ref ((u 110)), .ref ((u 111)), .ref ((u 112)), .ref ((u 113)), .ref ((u 114)), .ref ((u 115)), .int 0, .int 0, .int 0, .int 0, .int 0])), (((u 64)), .inr (6, [.ref ((u 116)), .ref ((u 117)), .ref ((u 118)), .ref ((u 119)), .ref ((u 120)), .ref ((u 121)), .ref ((u 122)), .ref ((u 123)), .ref ((u 124)), .ref ((u 125)), .ref ((u 126)), .ref ((u 127)), .ref ((u 128)), .ref ((u 129)), .int 0, .int 0, .int 0, .int 0, .int 0])), (r, .inr (12, (.ref ((v 0)) :: .int 0 :: .long 0 :: .long 1 :: .ref ((v 1)) :: .ref ((v 2)) :: .ref ((v 3)) :: .ref ((v 4)) :: .ref ((v 5)) :: .int 0 :: .int 0 :: .int 0 :: .int 0 :: .int 0 :: .int 0 :: .int (-1) :: .int (-1) :: .int 0 :: .ref ((v 6)) :: .int 0 :: .int 0 :: .ref ((v 7)) :: .ref ((v 8)) :: .ref ((v 9)) :: .ref ((v 10)) :: .ref ((v 11)) :: .ref ((v 12)) :: .ref ((v 13)) :: .int 0 :: .int 0 :: .int (-1) :: .int 0 :: .int (-1) :: .int 0 :: .ref ((v 14)) :: .int 0 :: .int 0 :: .int 0 :: .int 0 :: .int 0 :: .ref ((v 15)) :: .ref ((v 16)) :: .int 0 :: .int (-1) :: .int 0 :: .int 0 :: .int 0 :: .int 0 :: .ref ((v 17)) :: .ref ((v 18)) :: .ref ((v 19)) :: .int 0 :: .ref ((v 20)) :: .ref ((v 21)) :: .int 0 :: .ref ((v 22)) :: .int (-1) :: .int 0 :: .ref ((v 23)) :: .int (-1) :: .int (-1) :: .int 0 :: .ref ((v 24)) :: .ref ((v 25)) :: .int 0 :: []))), (((v 0)), .inl (cy 2, 25710, .inr (.inl (fun _ => 0))))]) s H locs := h.sub [0, 34, 35, 40, 55, 70, 146, 147] (by decide +kernel) rfl
  refine lv_aload_n F.1 F.2.1 dL_law_749 rfl (lv_at hl 2 rfl) ?_
  refine lv_aload_n F.1 F.2.1 dL_law_750 rfl (lv_at hl 3 rfl) ?_
  refine lv_iload_n F.1 F.2.1 dL_law_751 rfl (lv_at hl 0 rfl) ?_
  refine lv_iconst (v := 1) F.1 F.2.1 dL_law_752 (by decide) ?_
  refine lv_iadd F.1 F.2.1 dL_law_753 ?_
  refine x_topi (y := 1) (by decide +kernel) ?_
  refine va_sld F.1 F.2.1 hX hbl hbA h.2.2.2.1 (x_in (by decide +kernel)) dL_law_754 ?_
  refine x_topi (y := (xs 1)) rfl ?_
  refine lv_aload_n F.1 F.2.1 dL_law_755 rfl (lv_at hl 3 rfl) ?_
  refine lv_iload_n F.1 F.2.1 dL_law_756 rfl (lv_at hl 0 rfl) ?_
  refine lv_iconst (v := 2) F.1 F.2.1 dL_law_757 (by decide) ?_
  refine lv_iadd F.1 F.2.1 dL_law_758 ?_
  refine x_topi (y := 2) (by decide +kernel) ?_
  refine va_sld F.1 F.2.1 hX hbl hbA h.2.2.2.1 (x_in (by decide +kernel)) dL_law_759 ?_
  refine x_topi (y := (xs 2)) rfl ?_
  refine lv_aload_n F.1 F.2.1 dL_law_760 rfl (lv_at hl 3 rfl) ?_
  refine lv_iload_n F.1 F.2.1 dL_law_761 rfl (lv_at hl 0 rfl) ?_
  refine lv_iconst (v := 3) F.1 F.2.1 dL_law_762 (by decide) ?_
  refine lv_iadd F.1 F.2.1 dL_law_763 ?_
  refine x_topi (y := 3) (by decide +kernel) ?_
  refine va_sld F.1 F.2.1 hX hbl hbA h.2.2.2.1 (x_in (by decide +kernel)) dL_law_764 ?_
  refine x_topi (y := (xs 3)) rfl ?_
  refine x_Vi (wr := [(r, .inr (12, (.ref ((v 0)) :: .int 0 :: .long 0 :: .long 1 :: .ref ((v 1)) :: .ref ((v 2)) :: .ref ((v 3)) :: .ref ((v 4)) :: .ref ((v 5)) :: .int 0 :: .int 0 :: .int 0 :: .int 0 :: .int 0 :: .int 0 :: .int (-1) :: .int (-1) :: .int 0 :: .ref ((v 6)) :: .int 0 :: .int 0 :: .ref ((v 7)) :: .ref ((v 8)) :: .ref ((v 9)) :: .ref ((v 10)) :: .ref ((v 11)) :: .ref ((v 12)) :: .ref ((v 13)) :: .int 0 :: .int 0 :: .int (-1) :: .int 0 :: .int (-1) :: .int 0 :: .ref ((v 14)) :: .int 0 :: .int 0 :: .int 0 :: .int 0 :: .int 0 :: .ref ((v 15)) :: .ref ((v 16)) :: .int 0 :: .int (-1) :: .int 0 :: .int 0 :: .int 0 :: .int 0 :: .ref ((v 17)) :: .ref ((v 18)) :: .ref ((v 19)) :: .int 0 :: .ref ((v 20)) :: .ref ((v 21)) :: .int 0 :: .ref ((v 22)) :: .int (-1) :: .int 0 :: .ref ((v 23)) :: .int (-1) :: .int (-1) :: .int 0 :: .ref ((v 24)) :: .ref ((v 25)) :: .int 0 :: []))), (((v 0)), .inl (cy 2, 25710, .inr (.inl (fun _ => 0))))]) F h yk_X11_fit mw_836 mw_837 mw_838 (c_fit l D cy q u ((xs 1)) ((xs 2)) ((xs 3))) [0, 1, 2, 3, 4, 5] [6, 7] 0 rfl rfl rfl rfl (by decide) rfl rfl hl.1 rfl (Nat.le_of_ble_eq_true rfl) ⟨Nat.le_of_ble_eq_true rfl, Nat.le_of_ble_eq_true rfl⟩ ⟨Nat.le_of_ble_eq_true rfl, Nat.le_of_ble_eq_true rfl⟩ dL_law_765 (fun r2 u3 H locs hp1 h => ?_)
  have h : xS D cy A s.heap ([(r, .inr (12, (.ref ((v 0)) :: .int 0 :: .long 0 :: .long 1 :: .ref ((v 1)) :: .ref ((v 2)) :: .ref ((v 3)) :: .ref ((v 4)) :: .ref ((v 5)) :: .int 0 :: .int 0 :: .int 0 :: .int 0 :: .int 0 :: .int 0 :: .int (-1) :: .int (-1) :: .int 0 :: .ref ((v 6)) :: .int 0 :: .int 0 :: .ref ((v 7)) :: .ref ((v 8)) :: .ref ((v 9)) :: .ref ((v 10)) :: .ref ((v 11)) :: .ref ((v 12)) :: .ref ((v 13)) :: .int 0 :: .int 0 :: .int (-1) :: .int 0 :: .int (-1) :: .int 0 :: .ref ((v 14)) :: .int 0 :: .int 0 :: .int 0 :: .int 0 :: .int 0 :: .ref ((v 15)) :: .ref ((v 16)) :: .int 0 :: .int (-1) :: .int 0 :: .int 0 :: .int 0 :: .int 0 :: .ref ((v 17)) :: .ref ((v 18)) :: .ref ((v 19)) :: .int 0 :: .ref ((v 20)) :: .ref ((v 21)) :: .int 0 :: .ref ((v 22)) :: .int (-1) :: .int 0 :: .ref ((v 23)) :: .int (-1) :: .int (-1) :: .int 0 :: .ref ((v 24)) :: .ref ((v 25)) :: .int 0 :: []))), (((v 0)), .inl (cy 2, 25710, .inr (.inl (fun _ => 0))))]) s H locs := h
  obtain rfl : r2 = (-1) := hp1
  refine lv_aload_n F.1 F.2.1 dL_law_768 rfl (lv_at hl 1 rfl) ?_
  refine lv_aload_n F.1 F.2.1 dL_law_769 rfl (lv_at hl 3 rfl) ?_
  refine lv_iload_n F.1 F.2.1 dL_law_770 rfl (lv_at hl 0 rfl) ?_
  refine lv_iconst (v := 1) F.1 F.2.1 dL_law_771 (by decide) ?_
  refine lv_iadd F.1 F.2.1 dL_law_772 ?_
  refine x_topi (y := 1) (by decide +kernel) ?_
  refine va_sld F.1 F.2.1 hX hbl hbA h.2.2.2.1 (x_in (by decide +kernel)) dL_law_773 ?_
  refine x_topi (y := (xs 1)) rfl ?_
  refine lv_aload_n F.1 F.2.1 dL_law_774 rfl (lv_at hl 3 rfl) ?_
  refine lv_iload_n F.1 F.2.1 dL_law_775 rfl (lv_at hl 0 rfl) ?_
  refine lv_iconst (v := 2) F.1 F.2.1 dL_law_776 (by decide) ?_
  refine lv_iadd F.1 F.2.1 dL_law_777 ?_
  refine x_topi (y := 2) (by decide +kernel) ?_
  refine va_sld F.1 F.2.1 hX hbl hbA h.2.2.2.1 (x_in (by decide +kernel)) dL_law_778 ?_
  refine x_topi (y := (xs 2)) rfl ?_
  refine lv_aload_n F.1 F.2.1 dL_law_779 rfl (lv_at hl 3 rfl) ?_
  refine lv_iload_n F.1 F.2.1 dL_law_780 rfl (lv_at hl 0 rfl) ?_
  refine lv_iconst (v := 3) F.1 F.2.1 dL_law_781 (by decide) ?_
  refine lv_iadd F.1 F.2.1 dL_law_782 ?_
  refine x_topi (y := 3) (by decide +kernel) ?_
  refine va_sld F.1 F.2.1 hX hbl hbA h.2.2.2.1 (x_in (by decide +kernel)) dL_law_783 ?_
  refine x_topi (y := (xs 3)) rfl ?_
  refine x_Vi (wr := []) F h yk_X12_fit mw_886 mw_887 mw_888 (c_m_fit l D cy r v ((xs 1)) ((xs 2)) ((xs 3))) [0, 1] [] 0 rfl rfl rfl rfl (by decide) rfl rfl hl.1 rfl (Nat.le_of_ble_eq_true rfl) ⟨Nat.le_of_ble_eq_true rfl, Nat.le_of_ble_eq_true rfl⟩ ⟨Nat.le_of_ble_eq_true rfl, Nat.le_of_ble_eq_true rfl⟩ dL_law_784 (fun r5 u6 H locs hp4 h => ?_)
  have h : xS D cy A s.heap ([]) s H locs := h
  obtain rfl : r5 = (-1) := hp4
  refine lv_icmp_eq (tgt := 1763) F.1 F.2.1 dL_law_787 (by decide) (fun _ => ?_) (fun hc => absurd (by decide) hc)
  exact law_end F hr hlocks hX hbl hAs h (lv_sub hl [0, 3] rfl)
set_option maxHeartbeats 4000000 in
set_option maxRecDepth 100000 in
theorem law_c16 {p : Program} {l : Launch} {e : Env} {s : State} {m : MethodId} {below : List Frame} {meth : Method} {c : Code} {b : Nat} {xs : Nat → Int32} {D : va_G} {cy : Nat → ClassId} {A : Nat → Prop} {H : Heap} {locs : List Loc} {ls : Array Slot} {q r : Nat} {u v : Nat → Nat} (F : CallFix p m c cL_law 4 s #[Value.ref b] wsL_law RL) (hr : meth.sig.returnType = ret) (hlocks : meth.locks = false) (hX : va_X b 6 xs s s.heap) (hbl : b < s.heap.size) (hAs : ∀ q, A q → s.heap.size ≤ q) (h : xS D cy A s.heap (askW cy q u ++ modW cy r v) s H locs) (hl : lv_has ls 4 [(3, .int 0), (2, .ref r), (1, .ref q), (0, .ref b)]) : W p l e room_1 s m #[Value.ref b] below meth c H locs 857 99087 (lw_Z below #[Value.ref b] s) (F0 m 792 ls []) := by
  have hbA : ¬ A b := fun ha => absurd (hAs b ha) (Nat.not_le.mpr hbl)
  have h : xS D cy A s.heap ([(q, .inr (11, [.ref ((u 0)), .ref ((u 1)), .ref ((u 2)), .ref ((u 3)), .ref ((u 4)), .ref ((u 5)), .ref ((u 6)), .ref ((u 7)), .ref ((u 8)), .ref ((u 9)), .int 0, .int 0, .int (-1), .int 0, .int 0, .long 0, .long 1])), (r, .inr (12, (.ref ((v 0)) :: .int 0 :: .long 0 :: .long 1 :: .ref ((v 1)) :: .ref ((v 2)) :: .ref ((v 3)) :: .ref ((v 4)) :: .ref ((v 5)) :: .int 0 :: .int 0 :: .int 0 :: .int 0 :: .int 0 :: .int 0 :: .int (-1) :: .int (-1) :: .int 0 :: .ref ((v 6)) :: .int 0 :: .int 0 :: .ref ((v 7)) :: .ref ((v 8)) :: .ref ((v 9)) :: .ref ((v 10)) :: .ref ((v 11)) :: .ref ((v 12)) :: .ref ((v 13)) :: .int 0 :: .int 0 :: .int (-1) :: .int 0 :: .int (-1) :: .int 0 :: .ref ((v 14)) :: .int 0 :: .int 0 :: .int 0 :: .int 0 :: .int 0 :: .ref ((v 15)) :: .ref ((v 16)) :: .int 0 :: .int (-1) :: .int 0 :: .int 0 :: .int 0 :: .int 0 :: .ref ((v 17)) :: .ref ((v 18)) :: .ref ((v 19)) :: .int 0 :: .ref ((v 20)) :: .ref ((v 21)) :: .int 0 :: .ref ((v 22)) :: .int (-1) :: .int 0 :: .ref ((v 23)) :: .int (-1) :: .int (-1) :: .int 0 :: .ref ((v 24)) :: .ref ((v 25)) :: .int 0 :: [])))]) s H locs := h.sub [0, 146] (by decide +kernel) rfl
  refine lv_aload_n F.1 F.2.1 dL_law_792 rfl (lv_at hl 2 rfl) ?_
  refine lv_aload_n F.1 F.2.1 dL_law_793 rfl (lv_at hl 3 rfl) ?_
  refine lv_iload_n F.1 F.2.1 dL_law_794 rfl (lv_at hl 0 rfl) ?_
  refine lv_iconst (v := 1) F.1 F.2.1 dL_law_795 (by decide) ?_
  refine lv_iadd F.1 F.2.1 dL_law_796 ?_
  refine x_topi (y := 1) (by decide +kernel) ?_
  refine va_sld F.1 F.2.1 hX hbl hbA h.2.2.2.1 (x_in (by decide +kernel)) dL_law_797 ?_
  refine x_topi (y := (xs 1)) rfl ?_
  refine lv_aload_n F.1 F.2.1 dL_law_798 rfl (lv_at hl 3 rfl) ?_
  refine lv_iload_n F.1 F.2.1 dL_law_799 rfl (lv_at hl 0 rfl) ?_
  refine lv_iconst (v := 2) F.1 F.2.1 dL_law_800 (by decide) ?_
  refine lv_iadd F.1 F.2.1 dL_law_801 ?_
  refine x_topi (y := 2) (by decide +kernel) ?_
  refine va_sld F.1 F.2.1 hX hbl hbA h.2.2.2.1 (x_in (by decide +kernel)) dL_law_802 ?_
  refine x_topi (y := (xs 2)) rfl ?_
  refine x_Vi (wr := [(r, .inr (12, (.ref ((v 0)) :: .int 0 :: .long 0 :: .long 1 :: .ref ((v 1)) :: .ref ((v 2)) :: .ref ((v 3)) :: .ref ((v 4)) :: .ref ((v 5)) :: .int 0 :: .int 0 :: .int 0 :: .int 0 :: .int 0 :: .int 0 :: .int (-1) :: .int (-1) :: .int 0 :: .ref ((v 6)) :: .int 0 :: .int 0 :: .ref ((v 7)) :: .ref ((v 8)) :: .ref ((v 9)) :: .ref ((v 10)) :: .ref ((v 11)) :: .ref ((v 12)) :: .ref ((v 13)) :: .int 0 :: .int 0 :: .int (-1) :: .int 0 :: .int (-1) :: .int 0 :: .ref ((v 14)) :: .int 0 :: .int 0 :: .int 0 :: .int 0 :: .int 0 :: .ref ((v 15)) :: .ref ((v 16)) :: .int 0 :: .int (-1) :: .int 0 :: .int 0 :: .int 0 :: .int 0 :: .ref ((v 17)) :: .ref ((v 18)) :: .ref ((v 19)) :: .int 0 :: .ref ((v 20)) :: .ref ((v 21)) :: .int 0 :: .ref ((v 22)) :: .int (-1) :: .int 0 :: .ref ((v 23)) :: .int (-1) :: .int (-1) :: .int 0 :: .ref ((v 24)) :: .ref ((v 25)) :: .int 0 :: [])))]) F h yk_X11_gap mw_900 mw_901 mw_902 (c_gap l D cy q u ((xs 1)) ((xs 2))) [0] [1] 0 rfl rfl rfl rfl (by decide) rfl rfl hl.1 rfl (Nat.le_of_ble_eq_true rfl) ⟨Nat.le_of_ble_eq_true rfl, Nat.le_of_ble_eq_true rfl⟩ ⟨Nat.le_of_ble_eq_true rfl, Nat.le_of_ble_eq_true rfl⟩ dL_law_803 (fun r2 u3 H locs hp1 h => ?_)
  have h : xS D cy A s.heap ([(r, .inr (12, (.ref ((v 0)) :: .int 0 :: .long 0 :: .long 1 :: .ref ((v 1)) :: .ref ((v 2)) :: .ref ((v 3)) :: .ref ((v 4)) :: .ref ((v 5)) :: .int 0 :: .int 0 :: .int 0 :: .int 0 :: .int 0 :: .int 0 :: .int (-1) :: .int (-1) :: .int 0 :: .ref ((v 6)) :: .int 0 :: .int 0 :: .ref ((v 7)) :: .ref ((v 8)) :: .ref ((v 9)) :: .ref ((v 10)) :: .ref ((v 11)) :: .ref ((v 12)) :: .ref ((v 13)) :: .int 0 :: .int 0 :: .int (-1) :: .int 0 :: .int (-1) :: .int 0 :: .ref ((v 14)) :: .int 0 :: .int 0 :: .int 0 :: .int 0 :: .int 0 :: .ref ((v 15)) :: .ref ((v 16)) :: .int 0 :: .int (-1) :: .int 0 :: .int 0 :: .int 0 :: .int 0 :: .ref ((v 17)) :: .ref ((v 18)) :: .ref ((v 19)) :: .int 0 :: .ref ((v 20)) :: .ref ((v 21)) :: .int 0 :: .ref ((v 22)) :: .int (-1) :: .int 0 :: .ref ((v 23)) :: .int (-1) :: .int (-1) :: .int 0 :: .ref ((v 24)) :: .ref ((v 25)) :: .int 0 :: [])))]) s H locs := h
  obtain rfl : r2 = (-1) := hp1
  refine lv_aload_n F.1 F.2.1 dL_law_806 rfl (lv_at hl 1 rfl) ?_
  refine lv_aload_n F.1 F.2.1 dL_law_807 rfl (lv_at hl 3 rfl) ?_
  refine lv_iload_n F.1 F.2.1 dL_law_808 rfl (lv_at hl 0 rfl) ?_
  refine lv_iconst (v := 1) F.1 F.2.1 dL_law_809 (by decide) ?_
  refine lv_iadd F.1 F.2.1 dL_law_810 ?_
  refine x_topi (y := 1) (by decide +kernel) ?_
  refine va_sld F.1 F.2.1 hX hbl hbA h.2.2.2.1 (x_in (by decide +kernel)) dL_law_811 ?_
  refine x_topi (y := (xs 1)) rfl ?_
  refine lv_aload_n F.1 F.2.1 dL_law_812 rfl (lv_at hl 3 rfl) ?_
  refine lv_iload_n F.1 F.2.1 dL_law_813 rfl (lv_at hl 0 rfl) ?_
  refine lv_iconst (v := 2) F.1 F.2.1 dL_law_814 (by decide) ?_
  refine lv_iadd F.1 F.2.1 dL_law_815 ?_
  refine x_topi (y := 2) (by decide +kernel) ?_
  refine va_sld F.1 F.2.1 hX hbl hbA h.2.2.2.1 (x_in (by decide +kernel)) dL_law_816 ?_
  refine x_topi (y := (xs 2)) rfl ?_
  refine x_Vi (wr := []) F h yk_X12_gap mw_910 mw_911 mw_912 (c_m_gap l D cy r v ((xs 1)) ((xs 2))) [0] [] 0 rfl rfl rfl rfl (by decide) rfl rfl hl.1 rfl (Nat.le_of_ble_eq_true rfl) ⟨Nat.le_of_ble_eq_true rfl, Nat.le_of_ble_eq_true rfl⟩ ⟨Nat.le_of_ble_eq_true rfl, Nat.le_of_ble_eq_true rfl⟩ dL_law_817 (fun r5 u6 H locs hp4 h => ?_)
  have h : xS D cy A s.heap ([]) s H locs := h
  obtain rfl : r5 = (-1) := hp4
  refine lv_icmp_eq (tgt := 1763) F.1 F.2.1 dL_law_820 (by decide) (fun _ => ?_) (fun hc => absurd (by decide) hc)
  exact law_end F hr hlocks hX hbl hAs h (lv_sub hl [0, 3] rfl)
set_option maxHeartbeats 4000000 in
set_option maxRecDepth 100000 in
theorem law_c17 {p : Program} {l : Launch} {e : Env} {s : State} {m : MethodId} {below : List Frame} {meth : Method} {c : Code} {b : Nat} {xs : Nat → Int32} {D : va_G} {cy : Nat → ClassId} {A : Nat → Prop} {H : Heap} {locs : List Loc} {ls : Array Slot} {q r : Nat} {u v : Nat → Nat} (F : CallFix p m c cL_law 4 s #[Value.ref b] wsL_law RL) (hr : meth.sig.returnType = ret) (hlocks : meth.locks = false) (hX : va_X b 6 xs s s.heap) (hbl : b < s.heap.size) (hAs : ∀ q, A q → s.heap.size ≤ q) (h : xS D cy A s.heap (askW cy q u ++ modW cy r v) s H locs) (hl : lv_has ls 4 [(3, .int 0), (2, .ref r), (1, .ref q), (0, .ref b)]) : W p l e room_1 s m #[Value.ref b] below meth c H locs 857 99087 (lw_Z below #[Value.ref b] s) (F0 m 825 ls []) := by
  have hbA : ¬ A b := fun ha => absurd (hAs b ha) (Nat.not_le.mpr hbl)
  have h : xS D cy A s.heap ([(q, .inr (11, [.ref ((u 0)), .ref ((u 1)), .ref ((u 2)), .ref ((u 3)), .ref ((u 4)), .ref ((u 5)), .ref ((u 6)), .ref ((u 7)), .ref ((u 8)), .ref ((u 9)), .int 0, .int 0, .int (-1), .int 0, .int 0, .long 0, .long 1])), (((u 3)), .inr (0, [.ref ((u 57)), .ref ((u 58)), .ref ((u 59)), .ref ((u 60)), .ref ((u 61)), .int 0, .int 0])), (((u 57)), .inl (cy 7, 3, .inr (.inr (.inr (.inr (va_up (va_up (va_up (fun _ => none) 0 (some ((u 62)))) 1 (some ((u 63)))) 2 (some ((u 64))))))))), (((u 62)), .inr (6, [.ref ((u 88)), .ref ((u 89)), .ref ((u 90)), .ref ((u 91)), .ref ((u 92)), .ref ((u 93)), .ref ((u 94)), .ref ((u 95)), .ref ((u 96)), .ref ((u 97)), .ref ((u 98)), .ref ((u 99)), .ref ((u 100)), .ref ((u 101)), .int 0, .int 0, .int 0, .int 0, .int 0])), (((u 63)), .inr (6, [.ref ((u 102)), .ref ((u 103)), .ref ((u 104)), .ref ((u 105)), .ref ((u 106)), .ref ((u 107)), .ref ((u 108)), .ref ((u 109)), .ref ((u 110)), .ref ((u 111)), .ref ((u 112)), .ref ((u 113)), .ref ((u 114)), .ref ((u 115)), .int 0, .int 0, .int 0, .int 0, .int 0])), (((u 64)), .inr (6, [.ref ((u 116)), .ref ((u 117)), .ref ((u 118)), .ref ((u 119)), .ref ((u 120)), .ref ((u 121)), .ref ((u 122)), .ref ((u 123)), .ref ((u 124)), .ref ((u 125)), .ref ((u 126)), .ref ((u 127)), .ref ((u 128)), .ref ((u 129)), .int 0, .int 0, .int 0, .int 0, .int 0])), (r, .inr (12, (.ref ((v 0)) :: .int 0 :: .long 0 :: .long 1 :: .ref ((v 1)) :: .ref ((v 2)) :: .ref ((v 3)) :: .ref ((v 4)) :: .ref ((v 5)) :: .int 0 :: .int 0 :: .int 0 :: .int 0 :: .int 0 :: .int 0 :: .int (-1) :: .int (-1) :: .int 0 :: .ref ((v 6)) :: .int 0 :: .int 0 :: .ref ((v 7)) :: .ref ((v 8)) :: .ref ((v 9)) :: .ref ((v 10)) :: .ref ((v 11)) :: .ref ((v 12)) :: .ref ((v 13)) :: .int 0 :: .int 0 :: .int (-1) :: .int 0 :: .int (-1) :: .int 0 :: .ref ((v 14)) :: .int 0 :: .int 0 :: .int 0 :: .int 0 :: .int 0 :: .ref ((v 15)) :: .ref ((v 16)) :: .int 0 :: .int (-1) :: .int 0 :: .int 0 :: .int 0 :: .int 0 :: .ref ((v 17)) :: .ref ((v 18)) :: .ref ((v 19)) :: .int 0 :: .ref ((v 20)) :: .ref ((v 21)) :: .int 0 :: .ref ((v 22)) :: .int (-1) :: .int 0 :: .ref ((v 23)) :: .int (-1) :: .int (-1) :: .int 0 :: .ref ((v 24)) :: .ref ((v 25)) :: .int 0 :: []))), (((v 0)), .inl (cy 2, 25710, .inr (.inl (fun _ => 0))))]) s H locs := h.sub [0, 34, 35, 40, 55, 70, 146, 147] (by decide +kernel) rfl
  refine lv_aload_n F.1 F.2.1 dL_law_825 rfl (lv_at hl 2 rfl) ?_
  refine lv_aload_n F.1 F.2.1 dL_law_826 rfl (lv_at hl 3 rfl) ?_
  refine lv_iload_n F.1 F.2.1 dL_law_827 rfl (lv_at hl 0 rfl) ?_
  refine lv_iconst (v := 1) F.1 F.2.1 dL_law_828 (by decide) ?_
  refine lv_iadd F.1 F.2.1 dL_law_829 ?_
  refine x_topi (y := 1) (by decide +kernel) ?_
  refine va_sld F.1 F.2.1 hX hbl hbA h.2.2.2.1 (x_in (by decide +kernel)) dL_law_830 ?_
  refine x_topi (y := (xs 1)) rfl ?_
  refine lv_aload_n F.1 F.2.1 dL_law_831 rfl (lv_at hl 3 rfl) ?_
  refine lv_iload_n F.1 F.2.1 dL_law_832 rfl (lv_at hl 0 rfl) ?_
  refine lv_iconst (v := 2) F.1 F.2.1 dL_law_833 (by decide) ?_
  refine lv_iadd F.1 F.2.1 dL_law_834 ?_
  refine x_topi (y := 2) (by decide +kernel) ?_
  refine va_sld F.1 F.2.1 hX hbl hbA h.2.2.2.1 (x_in (by decide +kernel)) dL_law_835 ?_
  refine x_topi (y := (xs 2)) rfl ?_
  refine lv_i2l (v := (((xs 2)).toInt64)) F.1 F.2.1 dL_law_836 rfl ?_
  refine lv_bipush (v := 32) F.1 F.2.1 dL_law_837 (by decide) ?_
  refine lv_lshl (v := ((((xs 2)).toInt64) <<< ((32 : Int32).toInt64 &&& 63))) F.1 F.2.1 dL_law_839 rfl ?_
  refine lv_aload_n F.1 F.2.1 dL_law_840 rfl (lv_at hl 3 rfl) ?_
  refine lv_iload_n F.1 F.2.1 dL_law_841 rfl (lv_at hl 0 rfl) ?_
  refine lv_iconst (v := 3) F.1 F.2.1 dL_law_842 (by decide) ?_
  refine lv_iadd F.1 F.2.1 dL_law_843 ?_
  refine x_topi (y := 3) (by decide +kernel) ?_
  refine va_sld F.1 F.2.1 hX hbl hbA h.2.2.2.1 (x_in (by decide +kernel)) dL_law_844 ?_
  refine x_topi (y := (xs 3)) rfl ?_
  refine lv_i2l (v := (((xs 3)).toInt64)) F.1 F.2.1 dL_law_845 rfl ?_
  refine lv_ldc2 (v := 4294967295) F.1 F.2.1 F.2.2.2.1 (F.2.2.2.2 _ mw_6) dL_law_846 ?_
  refine lv_land F.1 F.2.1 dL_law_849 ?_
  refine lv_lor F.1 F.2.1 dL_law_850 ?_
  refine x_Vl (wr := [(r, .inr (12, (.ref ((v 0)) :: .int 0 :: .long 0 :: .long 1 :: .ref ((v 1)) :: .ref ((v 2)) :: .ref ((v 3)) :: .ref ((v 4)) :: .ref ((v 5)) :: .int 0 :: .int 0 :: .int 0 :: .int 0 :: .int 0 :: .int 0 :: .int (-1) :: .int (-1) :: .int 0 :: .ref ((v 6)) :: .int 0 :: .int 0 :: .ref ((v 7)) :: .ref ((v 8)) :: .ref ((v 9)) :: .ref ((v 10)) :: .ref ((v 11)) :: .ref ((v 12)) :: .ref ((v 13)) :: .int 0 :: .int 0 :: .int (-1) :: .int 0 :: .int (-1) :: .int 0 :: .ref ((v 14)) :: .int 0 :: .int 0 :: .int 0 :: .int 0 :: .int 0 :: .ref ((v 15)) :: .ref ((v 16)) :: .int 0 :: .int (-1) :: .int 0 :: .int 0 :: .int 0 :: .int 0 :: .ref ((v 17)) :: .ref ((v 18)) :: .ref ((v 19)) :: .int 0 :: .ref ((v 20)) :: .ref ((v 21)) :: .int 0 :: .ref ((v 22)) :: .int (-1) :: .int 0 :: .ref ((v 23)) :: .int (-1) :: .int (-1) :: .int 0 :: .ref ((v 24)) :: .ref ((v 25)) :: .int 0 :: []))), (((v 0)), .inl (cy 2, 25710, .inr (.inl (fun _ => 0))))]) F h yk_X11_turned mw_914 mw_915 mw_916 (c_turned l D cy q u ((xs 1)) ((((((xs 2)).toInt64) <<< ((32 : Int32).toInt64 &&& 63))) ||| ((((xs 3)).toInt64) &&& 4294967295))) [0, 1, 2, 3, 4, 5] [6, 7] 0 rfl rfl rfl rfl (by decide) rfl rfl hl.1 rfl (Nat.le_of_ble_eq_true rfl) ⟨Nat.le_of_ble_eq_true rfl, Nat.le_of_ble_eq_true rfl⟩ ⟨Nat.le_of_ble_eq_true rfl, Nat.le_of_ble_eq_true rfl⟩ dL_law_851 (fun r2 u3 H locs hp1 h => ?_)
  have h : xS D cy A s.heap ([(r, .inr (12, (.ref ((v 0)) :: .int 0 :: .long 0 :: .long 1 :: .ref ((v 1)) :: .ref ((v 2)) :: .ref ((v 3)) :: .ref ((v 4)) :: .ref ((v 5)) :: .int 0 :: .int 0 :: .int 0 :: .int 0 :: .int 0 :: .int 0 :: .int (-1) :: .int (-1) :: .int 0 :: .ref ((v 6)) :: .int 0 :: .int 0 :: .ref ((v 7)) :: .ref ((v 8)) :: .ref ((v 9)) :: .ref ((v 10)) :: .ref ((v 11)) :: .ref ((v 12)) :: .ref ((v 13)) :: .int 0 :: .int 0 :: .int (-1) :: .int 0 :: .int (-1) :: .int 0 :: .ref ((v 14)) :: .int 0 :: .int 0 :: .int 0 :: .int 0 :: .int 0 :: .ref ((v 15)) :: .ref ((v 16)) :: .int 0 :: .int (-1) :: .int 0 :: .int 0 :: .int 0 :: .int 0 :: .ref ((v 17)) :: .ref ((v 18)) :: .ref ((v 19)) :: .int 0 :: .ref ((v 20)) :: .ref ((v 21)) :: .int 0 :: .ref ((v 22)) :: .int (-1) :: .int 0 :: .ref ((v 23)) :: .int (-1) :: .int (-1) :: .int 0 :: .ref ((v 24)) :: .ref ((v 25)) :: .int 0 :: []))), (((v 0)), .inl (cy 2, 25710, .inr (.inl (fun _ => 0))))]) s H locs := h
  refine lv_aload_n F.1 F.2.1 dL_law_854 rfl (lv_at hl 1 rfl) ?_
  refine lv_aload_n F.1 F.2.1 dL_law_855 rfl (lv_at hl 3 rfl) ?_
  refine lv_iload_n F.1 F.2.1 dL_law_856 rfl (lv_at hl 0 rfl) ?_
  refine lv_iconst (v := 1) F.1 F.2.1 dL_law_857 (by decide) ?_
  refine lv_iadd F.1 F.2.1 dL_law_858 ?_
  refine x_topi (y := 1) (by decide +kernel) ?_
  refine va_sld F.1 F.2.1 hX hbl hbA h.2.2.2.1 (x_in (by decide +kernel)) dL_law_859 ?_
  refine x_topi (y := (xs 1)) rfl ?_
  refine lv_aload_n F.1 F.2.1 dL_law_860 rfl (lv_at hl 3 rfl) ?_
  refine lv_iload_n F.1 F.2.1 dL_law_861 rfl (lv_at hl 0 rfl) ?_
  refine lv_iconst (v := 2) F.1 F.2.1 dL_law_862 (by decide) ?_
  refine lv_iadd F.1 F.2.1 dL_law_863 ?_
  refine x_topi (y := 2) (by decide +kernel) ?_
  refine va_sld F.1 F.2.1 hX hbl hbA h.2.2.2.1 (x_in (by decide +kernel)) dL_law_864 ?_
  refine x_topi (y := (xs 2)) rfl ?_
  refine lv_i2l (v := (((xs 2)).toInt64)) F.1 F.2.1 dL_law_865 rfl ?_
  refine lv_bipush (v := 32) F.1 F.2.1 dL_law_866 (by decide) ?_
  refine lv_lshl (v := ((((xs 2)).toInt64) <<< ((32 : Int32).toInt64 &&& 63))) F.1 F.2.1 dL_law_868 rfl ?_
  refine lv_aload_n F.1 F.2.1 dL_law_869 rfl (lv_at hl 3 rfl) ?_
  refine lv_iload_n F.1 F.2.1 dL_law_870 rfl (lv_at hl 0 rfl) ?_
  refine lv_iconst (v := 3) F.1 F.2.1 dL_law_871 (by decide) ?_
  refine lv_iadd F.1 F.2.1 dL_law_872 ?_
  refine x_topi (y := 3) (by decide +kernel) ?_
  refine va_sld F.1 F.2.1 hX hbl hbA h.2.2.2.1 (x_in (by decide +kernel)) dL_law_873 ?_
  refine x_topi (y := (xs 3)) rfl ?_
  refine lv_i2l (v := (((xs 3)).toInt64)) F.1 F.2.1 dL_law_874 rfl ?_
  refine lv_ldc2 (v := 4294967295) F.1 F.2.1 F.2.2.2.1 (F.2.2.2.2 _ mw_6) dL_law_875 ?_
  refine lv_land F.1 F.2.1 dL_law_878 ?_
  refine lv_lor F.1 F.2.1 dL_law_879 ?_
  refine x_Vl (wr := []) F h yk_X12_turned mw_927 mw_928 mw_929 (c_m_turned l D cy r v ((xs 1)) ((((((xs 2)).toInt64) <<< ((32 : Int32).toInt64 &&& 63))) ||| ((((xs 3)).toInt64) &&& 4294967295))) [0, 1] [] 0 rfl rfl rfl rfl (by decide) rfl rfl hl.1 rfl (Nat.le_of_ble_eq_true rfl) ⟨Nat.le_of_ble_eq_true rfl, Nat.le_of_ble_eq_true rfl⟩ ⟨Nat.le_of_ble_eq_true rfl, Nat.le_of_ble_eq_true rfl⟩ dL_law_880 (fun r5 u6 H locs hp4 h => ?_)
  have h : xS D cy A s.heap ([]) s H locs := h
  refine W.lcmp F.1 F.2.1 dL_law_883 ?_
  refine lv_if_eq (tgt := 1763) F.1 F.2.1 dL_law_884 (by decide) (fun _ => ?_) (fun hc => absurd ((lg_cmp_eq _ _).mpr (hp1.trans hp4.symm)) hc)
  exact law_end F hr hlocks hX hbl hAs h (lv_sub hl [0, 3] rfl)
set_option maxHeartbeats 4000000 in
set_option maxRecDepth 100000 in
theorem law_c18 {p : Program} {l : Launch} {e : Env} {s : State} {m : MethodId} {below : List Frame} {meth : Method} {c : Code} {b : Nat} {xs : Nat → Int32} {D : va_G} {cy : Nat → ClassId} {A : Nat → Prop} {H : Heap} {locs : List Loc} {ls : Array Slot} {q r : Nat} {u v : Nat → Nat} (F : CallFix p m c cL_law 4 s #[Value.ref b] wsL_law RL) (hr : meth.sig.returnType = ret) (hlocks : meth.locks = false) (hX : va_X b 6 xs s s.heap) (hbl : b < s.heap.size) (hAs : ∀ q, A q → s.heap.size ≤ q) (h : xS D cy A s.heap (askW cy q u ++ modW cy r v) s H locs) (hl : lv_has ls 4 [(3, .int 0), (2, .ref r), (1, .ref q), (0, .ref b)]) : W p l e room_1 s m #[Value.ref b] below meth c H locs 857 99087 (lw_Z below #[Value.ref b] s) (F0 m 889 ls []) := by
  have hbA : ¬ A b := fun ha => absurd (hAs b ha) (Nat.not_le.mpr hbl)
  have h : xS D cy A s.heap ([(q, .inr (11, [.ref ((u 0)), .ref ((u 1)), .ref ((u 2)), .ref ((u 3)), .ref ((u 4)), .ref ((u 5)), .ref ((u 6)), .ref ((u 7)), .ref ((u 8)), .ref ((u 9)), .int 0, .int 0, .int (-1), .int 0, .int 0, .long 0, .long 1])), (((u 3)), .inr (0, [.ref ((u 57)), .ref ((u 58)), .ref ((u 59)), .ref ((u 60)), .ref ((u 61)), .int 0, .int 0])), (((u 58)), .inl (cy 8, 3, .inr (.inr (.inr (.inr (va_up (va_up (va_up (fun _ => none) 0 (some ((u 65)))) 1 (some ((u 66)))) 2 (some ((u 67))))))))), (((u 65)), .inr (8, [.ref ((u 68)), .int 0, .long 0])), (((u 66)), .inr (8, [.ref ((u 69)), .int 0, .long 0])), (((u 67)), .inr (8, [.ref ((u 70)), .int 0, .long 0])), (r, .inr (12, (.ref ((v 0)) :: .int 0 :: .long 0 :: .long 1 :: .ref ((v 1)) :: .ref ((v 2)) :: .ref ((v 3)) :: .ref ((v 4)) :: .ref ((v 5)) :: .int 0 :: .int 0 :: .int 0 :: .int 0 :: .int 0 :: .int 0 :: .int (-1) :: .int (-1) :: .int 0 :: .ref ((v 6)) :: .int 0 :: .int 0 :: .ref ((v 7)) :: .ref ((v 8)) :: .ref ((v 9)) :: .ref ((v 10)) :: .ref ((v 11)) :: .ref ((v 12)) :: .ref ((v 13)) :: .int 0 :: .int 0 :: .int (-1) :: .int 0 :: .int (-1) :: .int 0 :: .ref ((v 14)) :: .int 0 :: .int 0 :: .int 0 :: .int 0 :: .int 0 :: .ref ((v 15)) :: .ref ((v 16)) :: .int 0 :: .int (-1) :: .int 0 :: .int 0 :: .int 0 :: .int 0 :: .ref ((v 17)) :: .ref ((v 18)) :: .ref ((v 19)) :: .int 0 :: .ref ((v 20)) :: .ref ((v 21)) :: .int 0 :: .ref ((v 22)) :: .int (-1) :: .int 0 :: .ref ((v 23)) :: .int (-1) :: .int (-1) :: .int 0 :: .ref ((v 24)) :: .ref ((v 25)) :: .int 0 :: []))), (((v 0)), .inl (cy 2, 25710, .inr (.inl (fun _ => 0))))]) s H locs := h.sub [0, 34, 36, 85, 86, 87, 146, 147] (by decide +kernel) rfl
  refine lv_aload_n F.1 F.2.1 dL_law_889 rfl (lv_at hl 2 rfl) ?_
  refine lv_aload_n F.1 F.2.1 dL_law_890 rfl (lv_at hl 3 rfl) ?_
  refine lv_iload_n F.1 F.2.1 dL_law_891 rfl (lv_at hl 0 rfl) ?_
  refine lv_iconst (v := 1) F.1 F.2.1 dL_law_892 (by decide) ?_
  refine lv_iadd F.1 F.2.1 dL_law_893 ?_
  refine x_topi (y := 1) (by decide +kernel) ?_
  refine va_sld F.1 F.2.1 hX hbl hbA h.2.2.2.1 (x_in (by decide +kernel)) dL_law_894 ?_
  refine x_topi (y := (xs 1)) rfl ?_
  refine x_Vi (wr := [(r, .inr (12, (.ref ((v 0)) :: .int 0 :: .long 0 :: .long 1 :: .ref ((v 1)) :: .ref ((v 2)) :: .ref ((v 3)) :: .ref ((v 4)) :: .ref ((v 5)) :: .int 0 :: .int 0 :: .int 0 :: .int 0 :: .int 0 :: .int 0 :: .int (-1) :: .int (-1) :: .int 0 :: .ref ((v 6)) :: .int 0 :: .int 0 :: .ref ((v 7)) :: .ref ((v 8)) :: .ref ((v 9)) :: .ref ((v 10)) :: .ref ((v 11)) :: .ref ((v 12)) :: .ref ((v 13)) :: .int 0 :: .int 0 :: .int (-1) :: .int 0 :: .int (-1) :: .int 0 :: .ref ((v 14)) :: .int 0 :: .int 0 :: .int 0 :: .int 0 :: .int 0 :: .ref ((v 15)) :: .ref ((v 16)) :: .int 0 :: .int (-1) :: .int 0 :: .int 0 :: .int 0 :: .int 0 :: .ref ((v 17)) :: .ref ((v 18)) :: .ref ((v 19)) :: .int 0 :: .ref ((v 20)) :: .ref ((v 21)) :: .int 0 :: .ref ((v 22)) :: .int (-1) :: .int 0 :: .ref ((v 23)) :: .int (-1) :: .int (-1) :: .int 0 :: .ref ((v 24)) :: .ref ((v 25)) :: .int 0 :: []))), (((v 0)), .inl (cy 2, 25710, .inr (.inl (fun _ => 0))))]) F h yk_X11_begin mw_941 mw_942 mw_943 (c_begin l D cy q u ((xs 1))) [0, 1, 2, 3, 4, 5] [6, 7] 0 rfl rfl rfl rfl (by decide) rfl rfl hl.1 rfl (Nat.le_of_ble_eq_true rfl) ⟨Nat.le_of_ble_eq_true rfl, Nat.le_of_ble_eq_true rfl⟩ ⟨Nat.le_of_ble_eq_true rfl, Nat.le_of_ble_eq_true rfl⟩ dL_law_895 (fun r2 u3 H locs hp1 h => ?_)
  have h : xS D cy A s.heap ([(r, .inr (12, (.ref ((v 0)) :: .int 0 :: .long 0 :: .long 1 :: .ref ((v 1)) :: .ref ((v 2)) :: .ref ((v 3)) :: .ref ((v 4)) :: .ref ((v 5)) :: .int 0 :: .int 0 :: .int 0 :: .int 0 :: .int 0 :: .int 0 :: .int (-1) :: .int (-1) :: .int 0 :: .ref ((v 6)) :: .int 0 :: .int 0 :: .ref ((v 7)) :: .ref ((v 8)) :: .ref ((v 9)) :: .ref ((v 10)) :: .ref ((v 11)) :: .ref ((v 12)) :: .ref ((v 13)) :: .int 0 :: .int 0 :: .int (-1) :: .int 0 :: .int (-1) :: .int 0 :: .ref ((v 14)) :: .int 0 :: .int 0 :: .int 0 :: .int 0 :: .int 0 :: .ref ((v 15)) :: .ref ((v 16)) :: .int 0 :: .int (-1) :: .int 0 :: .int 0 :: .int 0 :: .int 0 :: .ref ((v 17)) :: .ref ((v 18)) :: .ref ((v 19)) :: .int 0 :: .ref ((v 20)) :: .ref ((v 21)) :: .int 0 :: .ref ((v 22)) :: .int (-1) :: .int 0 :: .ref ((v 23)) :: .int (-1) :: .int (-1) :: .int 0 :: .ref ((v 24)) :: .ref ((v 25)) :: .int 0 :: []))), (((v 0)), .inl (cy 2, 25710, .inr (.inl (fun _ => 0))))]) s H locs := h
  refine lv_aload_n F.1 F.2.1 dL_law_898 rfl (lv_at hl 1 rfl) ?_
  refine lv_aload_n F.1 F.2.1 dL_law_899 rfl (lv_at hl 3 rfl) ?_
  refine lv_iload_n F.1 F.2.1 dL_law_900 rfl (lv_at hl 0 rfl) ?_
  refine lv_iconst (v := 1) F.1 F.2.1 dL_law_901 (by decide) ?_
  refine lv_iadd F.1 F.2.1 dL_law_902 ?_
  refine x_topi (y := 1) (by decide +kernel) ?_
  refine va_sld F.1 F.2.1 hX hbl hbA h.2.2.2.1 (x_in (by decide +kernel)) dL_law_903 ?_
  refine x_topi (y := (xs 1)) rfl ?_
  refine x_Vi (wr := []) F h yk_X12_begin mw_945 mw_946 mw_947 (c_m_begin l D cy r v ((xs 1))) [0, 1] [] 0 rfl rfl rfl rfl (by decide) rfl rfl hl.1 rfl (Nat.le_of_ble_eq_true rfl) ⟨Nat.le_of_ble_eq_true rfl, Nat.le_of_ble_eq_true rfl⟩ ⟨Nat.le_of_ble_eq_true rfl, Nat.le_of_ble_eq_true rfl⟩ dL_law_904 (fun r5 u6 H locs hp4 h => ?_)
  have h : xS D cy A s.heap ([]) s H locs := h
  refine lv_icmp_eq (tgt := 1763) F.1 F.2.1 dL_law_907 (by decide) (fun _ => ?_) (fun hc => absurd (hp1.trans hp4.symm) hc)
  exact law_end F hr hlocks hX hbl hAs h (lv_sub hl [0, 3] rfl)
set_option maxHeartbeats 4000000 in
set_option maxRecDepth 100000 in
theorem law_c19 {p : Program} {l : Launch} {e : Env} {s : State} {m : MethodId} {below : List Frame} {meth : Method} {c : Code} {b : Nat} {xs : Nat → Int32} {D : va_G} {cy : Nat → ClassId} {A : Nat → Prop} {H : Heap} {locs : List Loc} {ls : Array Slot} {q r : Nat} {u v : Nat → Nat} (F : CallFix p m c cL_law 4 s #[Value.ref b] wsL_law RL) (hr : meth.sig.returnType = ret) (hlocks : meth.locks = false) (hX : va_X b 6 xs s s.heap) (hbl : b < s.heap.size) (hAs : ∀ q, A q → s.heap.size ≤ q) (h : xS D cy A s.heap (askW cy q u ++ modW cy r v) s H locs) (hl : lv_has ls 4 [(3, .int 0), (2, .ref r), (1, .ref q), (0, .ref b)]) : W p l e room_1 s m #[Value.ref b] below meth c H locs 857 99087 (lw_Z below #[Value.ref b] s) (F0 m 912 ls []) := by
  have hbA : ¬ A b := fun ha => absurd (hAs b ha) (Nat.not_le.mpr hbl)
  have h : xS D cy A s.heap ([(q, .inr (11, [.ref ((u 0)), .ref ((u 1)), .ref ((u 2)), .ref ((u 3)), .ref ((u 4)), .ref ((u 5)), .ref ((u 6)), .ref ((u 7)), .ref ((u 8)), .ref ((u 9)), .int 0, .int 0, .int (-1), .int 0, .int 0, .long 0, .long 1])), (((u 3)), .inr (0, [.ref ((u 57)), .ref ((u 58)), .ref ((u 59)), .ref ((u 60)), .ref ((u 61)), .int 0, .int 0])), (r, .inr (12, (.ref ((v 0)) :: .int 0 :: .long 0 :: .long 1 :: .ref ((v 1)) :: .ref ((v 2)) :: .ref ((v 3)) :: .ref ((v 4)) :: .ref ((v 5)) :: .int 0 :: .int 0 :: .int 0 :: .int 0 :: .int 0 :: .int 0 :: .int (-1) :: .int (-1) :: .int 0 :: .ref ((v 6)) :: .int 0 :: .int 0 :: .ref ((v 7)) :: .ref ((v 8)) :: .ref ((v 9)) :: .ref ((v 10)) :: .ref ((v 11)) :: .ref ((v 12)) :: .ref ((v 13)) :: .int 0 :: .int 0 :: .int (-1) :: .int 0 :: .int (-1) :: .int 0 :: .ref ((v 14)) :: .int 0 :: .int 0 :: .int 0 :: .int 0 :: .int 0 :: .ref ((v 15)) :: .ref ((v 16)) :: .int 0 :: .int (-1) :: .int 0 :: .int 0 :: .int 0 :: .int 0 :: .ref ((v 17)) :: .ref ((v 18)) :: .ref ((v 19)) :: .int 0 :: .ref ((v 20)) :: .ref ((v 21)) :: .int 0 :: .ref ((v 22)) :: .int (-1) :: .int 0 :: .ref ((v 23)) :: .int (-1) :: .int (-1) :: .int 0 :: .ref ((v 24)) :: .ref ((v 25)) :: .int 0 :: []))), (((v 0)), .inl (cy 2, 25710, .inr (.inl (fun _ => 0))))]) s H locs := h.sub [0, 34, 146, 147] (by decide +kernel) rfl
  refine lv_aload_n F.1 F.2.1 dL_law_912 rfl (lv_at hl 2 rfl) ?_
  refine lv_aload_n F.1 F.2.1 dL_law_913 rfl (lv_at hl 3 rfl) ?_
  refine lv_iload_n F.1 F.2.1 dL_law_914 rfl (lv_at hl 0 rfl) ?_
  refine lv_iconst (v := 1) F.1 F.2.1 dL_law_915 (by decide) ?_
  refine lv_iadd F.1 F.2.1 dL_law_916 ?_
  refine x_topi (y := 1) (by decide +kernel) ?_
  refine va_sld F.1 F.2.1 hX hbl hbA h.2.2.2.1 (x_in (by decide +kernel)) dL_law_917 ?_
  refine x_topi (y := (xs 1)) rfl ?_
  refine lv_aload_n F.1 F.2.1 dL_law_918 rfl (lv_at hl 3 rfl) ?_
  refine lv_iload_n F.1 F.2.1 dL_law_919 rfl (lv_at hl 0 rfl) ?_
  refine lv_iconst (v := 2) F.1 F.2.1 dL_law_920 (by decide) ?_
  refine lv_iadd F.1 F.2.1 dL_law_921 ?_
  refine x_topi (y := 2) (by decide +kernel) ?_
  refine va_sld F.1 F.2.1 hX hbl hbA h.2.2.2.1 (x_in (by decide +kernel)) dL_law_922 ?_
  refine x_topi (y := (xs 2)) rfl ?_
  refine x_Vi (wr := [(r, .inr (12, (.ref ((v 0)) :: .int 0 :: .long 0 :: .long 1 :: .ref ((v 1)) :: .ref ((v 2)) :: .ref ((v 3)) :: .ref ((v 4)) :: .ref ((v 5)) :: .int 0 :: .int 0 :: .int 0 :: .int 0 :: .int 0 :: .int 0 :: .int (-1) :: .int (-1) :: .int 0 :: .ref ((v 6)) :: .int 0 :: .int 0 :: .ref ((v 7)) :: .ref ((v 8)) :: .ref ((v 9)) :: .ref ((v 10)) :: .ref ((v 11)) :: .ref ((v 12)) :: .ref ((v 13)) :: .int 0 :: .int 0 :: .int (-1) :: .int 0 :: .int (-1) :: .int 0 :: .ref ((v 14)) :: .int 0 :: .int 0 :: .int 0 :: .int 0 :: .int 0 :: .ref ((v 15)) :: .ref ((v 16)) :: .int 0 :: .int (-1) :: .int 0 :: .int 0 :: .int 0 :: .int 0 :: .ref ((v 17)) :: .ref ((v 18)) :: .ref ((v 19)) :: .int 0 :: .ref ((v 20)) :: .ref ((v 21)) :: .int 0 :: .ref ((v 22)) :: .int (-1) :: .int 0 :: .ref ((v 23)) :: .int (-1) :: .int (-1) :: .int 0 :: .ref ((v 24)) :: .ref ((v 25)) :: .int 0 :: []))), (((v 0)), .inl (cy 2, 25710, .inr (.inl (fun _ => 0))))]) F h yk_X11_say mw_949 mw_950 mw_951 (c_say l D cy q u ((xs 1)) ((xs 2))) [0, 1] [2, 3] 0 rfl rfl rfl rfl (by decide) rfl rfl hl.1 rfl (Nat.le_of_ble_eq_true rfl) ⟨Nat.le_of_ble_eq_true rfl, Nat.le_of_ble_eq_true rfl⟩ ⟨Nat.le_of_ble_eq_true rfl, Nat.le_of_ble_eq_true rfl⟩ dL_law_923 (fun r2 u3 H locs hp1 h => ?_)
  have h : xS D cy A s.heap ([(r, .inr (12, (.ref ((v 0)) :: .int 0 :: .long 0 :: .long 1 :: .ref ((v 1)) :: .ref ((v 2)) :: .ref ((v 3)) :: .ref ((v 4)) :: .ref ((v 5)) :: .int 0 :: .int 0 :: .int 0 :: .int 0 :: .int 0 :: .int 0 :: .int (-1) :: .int (-1) :: .int 0 :: .ref ((v 6)) :: .int 0 :: .int 0 :: .ref ((v 7)) :: .ref ((v 8)) :: .ref ((v 9)) :: .ref ((v 10)) :: .ref ((v 11)) :: .ref ((v 12)) :: .ref ((v 13)) :: .int 0 :: .int 0 :: .int (-1) :: .int 0 :: .int (-1) :: .int 0 :: .ref ((v 14)) :: .int 0 :: .int 0 :: .int 0 :: .int 0 :: .int 0 :: .ref ((v 15)) :: .ref ((v 16)) :: .int 0 :: .int (-1) :: .int 0 :: .int 0 :: .int 0 :: .int 0 :: .ref ((v 17)) :: .ref ((v 18)) :: .ref ((v 19)) :: .int 0 :: .ref ((v 20)) :: .ref ((v 21)) :: .int 0 :: .ref ((v 22)) :: .int (-1) :: .int 0 :: .ref ((v 23)) :: .int (-1) :: .int (-1) :: .int 0 :: .ref ((v 24)) :: .ref ((v 25)) :: .int 0 :: []))), (((v 0)), .inl (cy 2, 25710, .inr (.inl (fun _ => 0))))]) s H locs := h
  obtain rfl : r2 = (-1) := hp1
  refine lv_aload_n F.1 F.2.1 dL_law_926 rfl (lv_at hl 1 rfl) ?_
  refine lv_aload_n F.1 F.2.1 dL_law_927 rfl (lv_at hl 3 rfl) ?_
  refine lv_iload_n F.1 F.2.1 dL_law_928 rfl (lv_at hl 0 rfl) ?_
  refine lv_iconst (v := 1) F.1 F.2.1 dL_law_929 (by decide) ?_
  refine lv_iadd F.1 F.2.1 dL_law_930 ?_
  refine x_topi (y := 1) (by decide +kernel) ?_
  refine va_sld F.1 F.2.1 hX hbl hbA h.2.2.2.1 (x_in (by decide +kernel)) dL_law_931 ?_
  refine x_topi (y := (xs 1)) rfl ?_
  refine lv_aload_n F.1 F.2.1 dL_law_932 rfl (lv_at hl 3 rfl) ?_
  refine lv_iload_n F.1 F.2.1 dL_law_933 rfl (lv_at hl 0 rfl) ?_
  refine lv_iconst (v := 2) F.1 F.2.1 dL_law_934 (by decide) ?_
  refine lv_iadd F.1 F.2.1 dL_law_935 ?_
  refine x_topi (y := 2) (by decide +kernel) ?_
  refine va_sld F.1 F.2.1 hX hbl hbA h.2.2.2.1 (x_in (by decide +kernel)) dL_law_936 ?_
  refine x_topi (y := (xs 2)) rfl ?_
  refine x_Vi (wr := []) F h yk_X12_say mw_1042 mw_1043 mw_1044 (c_m_say l D cy r v ((xs 1)) ((xs 2))) [0, 1] [] 0 rfl rfl rfl rfl (by decide) rfl rfl hl.1 rfl (Nat.le_of_ble_eq_true rfl) ⟨Nat.le_of_ble_eq_true rfl, Nat.le_of_ble_eq_true rfl⟩ ⟨Nat.le_of_ble_eq_true rfl, Nat.le_of_ble_eq_true rfl⟩ dL_law_937 (fun r5 u6 H locs hp4 h => ?_)
  have h : xS D cy A s.heap ([]) s H locs := h
  obtain rfl : r5 = (-1) := hp4
  refine lv_icmp_eq (tgt := 1763) F.1 F.2.1 dL_law_940 (by decide) (fun _ => ?_) (fun hc => absurd (by decide) hc)
  exact law_end F hr hlocks hX hbl hAs h (lv_sub hl [0, 3] rfl)
set_option maxHeartbeats 4000000 in
set_option maxRecDepth 100000 in
theorem law_c20 {p : Program} {l : Launch} {e : Env} {s : State} {m : MethodId} {below : List Frame} {meth : Method} {c : Code} {b : Nat} {xs : Nat → Int32} {D : va_G} {cy : Nat → ClassId} {A : Nat → Prop} {H : Heap} {locs : List Loc} {ls : Array Slot} {q r : Nat} {u v : Nat → Nat} (F : CallFix p m c cL_law 4 s #[Value.ref b] wsL_law RL) (hr : meth.sig.returnType = ret) (hlocks : meth.locks = false) (hX : va_X b 6 xs s s.heap) (hbl : b < s.heap.size) (hAs : ∀ q, A q → s.heap.size ≤ q) (h : xS D cy A s.heap (askW cy q u ++ modW cy r v) s H locs) (hl : lv_has ls 4 [(3, .int 0), (2, .ref r), (1, .ref q), (0, .ref b)]) : W p l e room_1 s m #[Value.ref b] below meth c H locs 857 99087 (lw_Z below #[Value.ref b] s) (F0 m 945 ls []) := by
  have hbA : ¬ A b := fun ha => absurd (hAs b ha) (Nat.not_le.mpr hbl)
  have h : xS D cy A s.heap ([(q, .inr (11, [.ref ((u 0)), .ref ((u 1)), .ref ((u 2)), .ref ((u 3)), .ref ((u 4)), .ref ((u 5)), .ref ((u 6)), .ref ((u 7)), .ref ((u 8)), .ref ((u 9)), .int 0, .int 0, .int (-1), .int 0, .int 0, .long 0, .long 1])), (r, .inr (12, (.ref ((v 0)) :: .int 0 :: .long 0 :: .long 1 :: .ref ((v 1)) :: .ref ((v 2)) :: .ref ((v 3)) :: .ref ((v 4)) :: .ref ((v 5)) :: .int 0 :: .int 0 :: .int 0 :: .int 0 :: .int 0 :: .int 0 :: .int (-1) :: .int (-1) :: .int 0 :: .ref ((v 6)) :: .int 0 :: .int 0 :: .ref ((v 7)) :: .ref ((v 8)) :: .ref ((v 9)) :: .ref ((v 10)) :: .ref ((v 11)) :: .ref ((v 12)) :: .ref ((v 13)) :: .int 0 :: .int 0 :: .int (-1) :: .int 0 :: .int (-1) :: .int 0 :: .ref ((v 14)) :: .int 0 :: .int 0 :: .int 0 :: .int 0 :: .int 0 :: .ref ((v 15)) :: .ref ((v 16)) :: .int 0 :: .int (-1) :: .int 0 :: .int 0 :: .int 0 :: .int 0 :: .ref ((v 17)) :: .ref ((v 18)) :: .ref ((v 19)) :: .int 0 :: .ref ((v 20)) :: .ref ((v 21)) :: .int 0 :: .ref ((v 22)) :: .int (-1) :: .int 0 :: .ref ((v 23)) :: .int (-1) :: .int (-1) :: .int 0 :: .ref ((v 24)) :: .ref ((v 25)) :: .int 0 :: [])))]) s H locs := h.sub [0, 146] (by decide +kernel) rfl
  refine lv_aload_n F.1 F.2.1 dL_law_945 rfl (lv_at hl 2 rfl) ?_
  refine lv_aload_n F.1 F.2.1 dL_law_946 rfl (lv_at hl 3 rfl) ?_
  refine lv_iload_n F.1 F.2.1 dL_law_947 rfl (lv_at hl 0 rfl) ?_
  refine lv_iconst (v := 1) F.1 F.2.1 dL_law_948 (by decide) ?_
  refine lv_iadd F.1 F.2.1 dL_law_949 ?_
  refine x_topi (y := 1) (by decide +kernel) ?_
  refine va_sld F.1 F.2.1 hX hbl hbA h.2.2.2.1 (x_in (by decide +kernel)) dL_law_950 ?_
  refine x_topi (y := (xs 1)) rfl ?_
  refine x_Vl (wr := [(r, .inr (12, (.ref ((v 0)) :: .int 0 :: .long 0 :: .long 1 :: .ref ((v 1)) :: .ref ((v 2)) :: .ref ((v 3)) :: .ref ((v 4)) :: .ref ((v 5)) :: .int 0 :: .int 0 :: .int 0 :: .int 0 :: .int 0 :: .int 0 :: .int (-1) :: .int (-1) :: .int 0 :: .ref ((v 6)) :: .int 0 :: .int 0 :: .ref ((v 7)) :: .ref ((v 8)) :: .ref ((v 9)) :: .ref ((v 10)) :: .ref ((v 11)) :: .ref ((v 12)) :: .ref ((v 13)) :: .int 0 :: .int 0 :: .int (-1) :: .int 0 :: .int (-1) :: .int 0 :: .ref ((v 14)) :: .int 0 :: .int 0 :: .int 0 :: .int 0 :: .int 0 :: .ref ((v 15)) :: .ref ((v 16)) :: .int 0 :: .int (-1) :: .int 0 :: .int 0 :: .int 0 :: .int 0 :: .ref ((v 17)) :: .ref ((v 18)) :: .ref ((v 19)) :: .int 0 :: .ref ((v 20)) :: .ref ((v 21)) :: .int 0 :: .ref ((v 22)) :: .int (-1) :: .int 0 :: .ref ((v 23)) :: .int (-1) :: .int (-1) :: .int 0 :: .ref ((v 24)) :: .ref ((v 25)) :: .int 0 :: [])))]) F h yk_X11_said mw_1111 mw_1112 mw_1113 (c_said l D cy q u ((xs 1))) [0] [1] 0 rfl rfl rfl rfl (by decide) rfl rfl hl.1 rfl (Nat.le_of_ble_eq_true rfl) ⟨Nat.le_of_ble_eq_true rfl, Nat.le_of_ble_eq_true rfl⟩ ⟨Nat.le_of_ble_eq_true rfl, Nat.le_of_ble_eq_true rfl⟩ dL_law_951 (fun r2 u3 H locs hp1 h => ?_)
  have h : xS D cy A s.heap ([(r, .inr (12, (.ref ((v 0)) :: .int 0 :: .long 0 :: .long 1 :: .ref ((v 1)) :: .ref ((v 2)) :: .ref ((v 3)) :: .ref ((v 4)) :: .ref ((v 5)) :: .int 0 :: .int 0 :: .int 0 :: .int 0 :: .int 0 :: .int 0 :: .int (-1) :: .int (-1) :: .int 0 :: .ref ((v 6)) :: .int 0 :: .int 0 :: .ref ((v 7)) :: .ref ((v 8)) :: .ref ((v 9)) :: .ref ((v 10)) :: .ref ((v 11)) :: .ref ((v 12)) :: .ref ((v 13)) :: .int 0 :: .int 0 :: .int (-1) :: .int 0 :: .int (-1) :: .int 0 :: .ref ((v 14)) :: .int 0 :: .int 0 :: .int 0 :: .int 0 :: .int 0 :: .ref ((v 15)) :: .ref ((v 16)) :: .int 0 :: .int (-1) :: .int 0 :: .int 0 :: .int 0 :: .int 0 :: .ref ((v 17)) :: .ref ((v 18)) :: .ref ((v 19)) :: .int 0 :: .ref ((v 20)) :: .ref ((v 21)) :: .int 0 :: .ref ((v 22)) :: .int (-1) :: .int 0 :: .ref ((v 23)) :: .int (-1) :: .int (-1) :: .int 0 :: .ref ((v 24)) :: .ref ((v 25)) :: .int 0 :: [])))]) s H locs := h
  obtain rfl : r2 = (-1) := hp1
  refine lv_aload_n F.1 F.2.1 dL_law_954 rfl (lv_at hl 1 rfl) ?_
  refine lv_aload_n F.1 F.2.1 dL_law_955 rfl (lv_at hl 3 rfl) ?_
  refine lv_iload_n F.1 F.2.1 dL_law_956 rfl (lv_at hl 0 rfl) ?_
  refine lv_iconst (v := 1) F.1 F.2.1 dL_law_957 (by decide) ?_
  refine lv_iadd F.1 F.2.1 dL_law_958 ?_
  refine x_topi (y := 1) (by decide +kernel) ?_
  refine va_sld F.1 F.2.1 hX hbl hbA h.2.2.2.1 (x_in (by decide +kernel)) dL_law_959 ?_
  refine x_topi (y := (xs 1)) rfl ?_
  refine x_Vl (wr := []) F h yk_X12_said mw_1115 mw_1116 mw_1117 (c_m_said l D cy r v ((xs 1))) [0] [] 0 rfl rfl rfl rfl (by decide) rfl rfl hl.1 rfl (Nat.le_of_ble_eq_true rfl) ⟨Nat.le_of_ble_eq_true rfl, Nat.le_of_ble_eq_true rfl⟩ ⟨Nat.le_of_ble_eq_true rfl, Nat.le_of_ble_eq_true rfl⟩ dL_law_960 (fun r5 u6 H locs hp4 h => ?_)
  have h : xS D cy A s.heap ([]) s H locs := h
  obtain rfl : r5 = (-1) := hp4
  refine W.lcmp F.1 F.2.1 dL_law_963 ?_
  refine x_topi (y := 0) (by decide +kernel) ?_
  refine lv_if_eq (tgt := 1763) F.1 F.2.1 dL_law_964 (by decide) (fun _ => ?_) (fun hc => absurd (by decide) hc)
  exact law_end F hr hlocks hX hbl hAs h (lv_sub hl [0, 3] rfl)
set_option maxHeartbeats 4000000 in
set_option maxRecDepth 100000 in
theorem law_c21 {p : Program} {l : Launch} {e : Env} {s : State} {m : MethodId} {below : List Frame} {meth : Method} {c : Code} {b : Nat} {xs : Nat → Int32} {D : va_G} {cy : Nat → ClassId} {A : Nat → Prop} {H : Heap} {locs : List Loc} {ls : Array Slot} {q r : Nat} {u v : Nat → Nat} (F : CallFix p m c cL_law 4 s #[Value.ref b] wsL_law RL) (hr : meth.sig.returnType = ret) (hlocks : meth.locks = false) (hX : va_X b 6 xs s s.heap) (hbl : b < s.heap.size) (hAs : ∀ q, A q → s.heap.size ≤ q) (h : xS D cy A s.heap (askW cy q u ++ modW cy r v) s H locs) (hl : lv_has ls 4 [(3, .int 0), (2, .ref r), (1, .ref q), (0, .ref b)]) : W p l e room_1 s m #[Value.ref b] below meth c H locs 857 99087 (lw_Z below #[Value.ref b] s) (F0 m 969 ls []) := by
  have hbA : ¬ A b := fun ha => absurd (hAs b ha) (Nat.not_le.mpr hbl)
  have h : xS D cy A s.heap ([(q, .inr (11, [.ref ((u 0)), .ref ((u 1)), .ref ((u 2)), .ref ((u 3)), .ref ((u 4)), .ref ((u 5)), .ref ((u 6)), .ref ((u 7)), .ref ((u 8)), .ref ((u 9)), .int 0, .int 0, .int (-1), .int 0, .int 0, .long 0, .long 1])), (r, .inr (12, (.ref ((v 0)) :: .int 0 :: .long 0 :: .long 1 :: .ref ((v 1)) :: .ref ((v 2)) :: .ref ((v 3)) :: .ref ((v 4)) :: .ref ((v 5)) :: .int 0 :: .int 0 :: .int 0 :: .int 0 :: .int 0 :: .int 0 :: .int (-1) :: .int (-1) :: .int 0 :: .ref ((v 6)) :: .int 0 :: .int 0 :: .ref ((v 7)) :: .ref ((v 8)) :: .ref ((v 9)) :: .ref ((v 10)) :: .ref ((v 11)) :: .ref ((v 12)) :: .ref ((v 13)) :: .int 0 :: .int 0 :: .int (-1) :: .int 0 :: .int (-1) :: .int 0 :: .ref ((v 14)) :: .int 0 :: .int 0 :: .int 0 :: .int 0 :: .int 0 :: .ref ((v 15)) :: .ref ((v 16)) :: .int 0 :: .int (-1) :: .int 0 :: .int 0 :: .int 0 :: .int 0 :: .ref ((v 17)) :: .ref ((v 18)) :: .ref ((v 19)) :: .int 0 :: .ref ((v 20)) :: .ref ((v 21)) :: .int 0 :: .ref ((v 22)) :: .int (-1) :: .int 0 :: .ref ((v 23)) :: .int (-1) :: .int (-1) :: .int 0 :: .ref ((v 24)) :: .ref ((v 25)) :: .int 0 :: [])))]) s H locs := h.sub [0, 146] (by decide +kernel) rfl
  refine lv_aload_n F.1 F.2.1 dL_law_969 rfl (lv_at hl 2 rfl) ?_
  refine lv_aload_n F.1 F.2.1 dL_law_970 rfl (lv_at hl 3 rfl) ?_
  refine lv_iload_n F.1 F.2.1 dL_law_971 rfl (lv_at hl 0 rfl) ?_
  refine lv_iconst (v := 1) F.1 F.2.1 dL_law_972 (by decide) ?_
  refine lv_iadd F.1 F.2.1 dL_law_973 ?_
  refine x_topi (y := 1) (by decide +kernel) ?_
  refine va_sld F.1 F.2.1 hX hbl hbA h.2.2.2.1 (x_in (by decide +kernel)) dL_law_974 ?_
  refine x_topi (y := (xs 1)) rfl ?_
  refine x_Vi (wr := [(r, .inr (12, (.ref ((v 0)) :: .int 0 :: .long 0 :: .long 1 :: .ref ((v 1)) :: .ref ((v 2)) :: .ref ((v 3)) :: .ref ((v 4)) :: .ref ((v 5)) :: .int 0 :: .int 0 :: .int 0 :: .int 0 :: .int 0 :: .int 0 :: .int (-1) :: .int (-1) :: .int 0 :: .ref ((v 6)) :: .int 0 :: .int 0 :: .ref ((v 7)) :: .ref ((v 8)) :: .ref ((v 9)) :: .ref ((v 10)) :: .ref ((v 11)) :: .ref ((v 12)) :: .ref ((v 13)) :: .int 0 :: .int 0 :: .int (-1) :: .int 0 :: .int (-1) :: .int 0 :: .ref ((v 14)) :: .int 0 :: .int 0 :: .int 0 :: .int 0 :: .int 0 :: .ref ((v 15)) :: .ref ((v 16)) :: .int 0 :: .int (-1) :: .int 0 :: .int 0 :: .int 0 :: .int 0 :: .ref ((v 17)) :: .ref ((v 18)) :: .ref ((v 19)) :: .int 0 :: .ref ((v 20)) :: .ref ((v 21)) :: .int 0 :: .ref ((v 22)) :: .int (-1) :: .int 0 :: .ref ((v 23)) :: .int (-1) :: .int (-1) :: .int 0 :: .ref ((v 24)) :: .ref ((v 25)) :: .int 0 :: [])))]) F h yk_X11_how mw_1119 mw_1120 mw_1121 (c_how l D cy q u ((xs 1))) [0] [1] 0 rfl rfl rfl rfl (by decide) rfl rfl hl.1 rfl (Nat.le_of_ble_eq_true rfl) ⟨Nat.le_of_ble_eq_true rfl, Nat.le_of_ble_eq_true rfl⟩ ⟨Nat.le_of_ble_eq_true rfl, Nat.le_of_ble_eq_true rfl⟩ dL_law_975 (fun r2 u3 H locs hp1 h => ?_)
  have h : xS D cy A s.heap ([(r, .inr (12, (.ref ((v 0)) :: .int 0 :: .long 0 :: .long 1 :: .ref ((v 1)) :: .ref ((v 2)) :: .ref ((v 3)) :: .ref ((v 4)) :: .ref ((v 5)) :: .int 0 :: .int 0 :: .int 0 :: .int 0 :: .int 0 :: .int 0 :: .int (-1) :: .int (-1) :: .int 0 :: .ref ((v 6)) :: .int 0 :: .int 0 :: .ref ((v 7)) :: .ref ((v 8)) :: .ref ((v 9)) :: .ref ((v 10)) :: .ref ((v 11)) :: .ref ((v 12)) :: .ref ((v 13)) :: .int 0 :: .int 0 :: .int (-1) :: .int 0 :: .int (-1) :: .int 0 :: .ref ((v 14)) :: .int 0 :: .int 0 :: .int 0 :: .int 0 :: .int 0 :: .ref ((v 15)) :: .ref ((v 16)) :: .int 0 :: .int (-1) :: .int 0 :: .int 0 :: .int 0 :: .int 0 :: .ref ((v 17)) :: .ref ((v 18)) :: .ref ((v 19)) :: .int 0 :: .ref ((v 20)) :: .ref ((v 21)) :: .int 0 :: .ref ((v 22)) :: .int (-1) :: .int 0 :: .ref ((v 23)) :: .int (-1) :: .int (-1) :: .int 0 :: .ref ((v 24)) :: .ref ((v 25)) :: .int 0 :: [])))]) s H locs := h
  obtain rfl : r2 = (-1) := hp1
  refine lv_aload_n F.1 F.2.1 dL_law_978 rfl (lv_at hl 1 rfl) ?_
  refine lv_aload_n F.1 F.2.1 dL_law_979 rfl (lv_at hl 3 rfl) ?_
  refine lv_iload_n F.1 F.2.1 dL_law_980 rfl (lv_at hl 0 rfl) ?_
  refine lv_iconst (v := 1) F.1 F.2.1 dL_law_981 (by decide) ?_
  refine lv_iadd F.1 F.2.1 dL_law_982 ?_
  refine x_topi (y := 1) (by decide +kernel) ?_
  refine va_sld F.1 F.2.1 hX hbl hbA h.2.2.2.1 (x_in (by decide +kernel)) dL_law_983 ?_
  refine x_topi (y := (xs 1)) rfl ?_
  refine x_Vi (wr := []) F h yk_X12_how mw_1123 mw_1124 mw_1125 (c_m_how l D cy r v ((xs 1))) [0] [] 0 rfl rfl rfl rfl (by decide) rfl rfl hl.1 rfl (Nat.le_of_ble_eq_true rfl) ⟨Nat.le_of_ble_eq_true rfl, Nat.le_of_ble_eq_true rfl⟩ ⟨Nat.le_of_ble_eq_true rfl, Nat.le_of_ble_eq_true rfl⟩ dL_law_984 (fun r5 u6 H locs hp4 h => ?_)
  have h : xS D cy A s.heap ([]) s H locs := h
  obtain rfl : r5 = (-1) := hp4
  refine lv_icmp_eq (tgt := 1763) F.1 F.2.1 dL_law_987 (by decide) (fun _ => ?_) (fun hc => absurd (by decide) hc)
  exact law_end F hr hlocks hX hbl hAs h (lv_sub hl [0, 3] rfl)
