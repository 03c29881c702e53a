set_option maxRecDepth 100000 in
theorem mw_752 : Cond.codeWith y_La_mark b_La_mark 5 (some .int) [(0, 10, 13, 13)] ∈ lw_g := lw_gin (List.mem_append_right _ (List.mem_of_getElem? (i := 801) rfl)) (by decide +kernel)
set_option maxRecDepth 100000 in
theorem mw_753 : Cond.methodLink R_La 105 y_La_mark ∈ lw_g := lw_gin (List.mem_append_right _ (List.mem_of_getElem? (i := 799) rfl)) (by decide +kernel)
set_option maxRecDepth 100000 in
theorem mw_754 : Cond.static y_La_mark ∈ lw_g := lw_gin (List.mem_append_right _ (List.mem_of_getElem? (i := 800) rfl)) (by decide +kernel)
set_option maxRecDepth 100000 in
theorem mw_755 : Cond.initialized R_La ∈ lw_g := lw_gin (List.mem_append_right _ (List.mem_of_getElem? (i := 0) rfl)) (by decide +kernel)
set_option maxRecDepth 100000 in
theorem mw_756 : Cond.code y_Mo_mark b_Mo_mark 4 (some .int) ∈ lw_g := lw_gin (List.mem_append_right _ (List.mem_of_getElem? (i := 1218) rfl)) (by decide +kernel)
set_option maxRecDepth 100000 in
theorem mw_757 : Cond.methodLink R_La 108 y_Mo_mark ∈ lw_g := lw_gin (List.mem_append_right _ (List.mem_of_getElem? (i := 1215) rfl)) (by decide +kernel)
set_option maxRecDepth 100000 in
theorem mw_758 : Cond.instanceMethod y_Mo_mark ∈ lw_g := lw_gin (List.mem_append_right _ (List.mem_of_getElem? (i := 1216) rfl)) (by decide +kernel)
set_option maxRecDepth 100000 in
theorem mw_759 : Cond.selects R_Mo y_Mo_mark y_Mo_mark ∈ lw_g := lw_gin (List.mem_append_right _ (List.mem_of_getElem? (i := 1217) rfl)) (by decide +kernel)
set_option maxRecDepth 100000 in
theorem mw_760 : Cond.code y_Mo_thrown b_Mo_thrown 1 (some .int) ∈ lw_g := lw_gin (List.mem_append_right _ (List.mem_of_getElem? (i := 1046) rfl)) (by decide +kernel)
set_option maxRecDepth 100000 in
theorem mw_761 : Cond.methodLink R_La 109 y_Mo_thrown ∈ lw_g := lw_gin (List.mem_append_right _ (List.mem_of_getElem? (i := 1043) rfl)) (by decide +kernel)
set_option maxRecDepth 100000 in
theorem mw_762 : Cond.instanceMethod y_Mo_thrown ∈ lw_g := lw_gin (List.mem_append_right _ (List.mem_of_getElem? (i := 1044) rfl)) (by decide +kernel)
set_option maxRecDepth 100000 in
theorem mw_763 : Cond.selects R_Mo y_Mo_thrown y_Mo_thrown ∈ lw_g := lw_gin (List.mem_append_right _ (List.mem_of_getElem? (i := 1045) rfl)) (by decide +kernel)
set_option maxRecDepth 100000 in
theorem mw_764 : Cond.codeWith y_La_node b_La_node 5 (some .int) [(0, 10, 13, 13)] ∈ lw_g := lw_gin (List.mem_append_right _ (List.mem_of_getElem? (i := 870) rfl)) (by decide +kernel)
set_option maxRecDepth 100000 in
theorem mw_765 : Cond.methodLink R_La 116 y_La_node ∈ lw_g := lw_gin (List.mem_append_right _ (List.mem_of_getElem? (i := 868) rfl)) (by decide +kernel)
set_option maxRecDepth 100000 in
theorem mw_766 : Cond.static y_La_node ∈ lw_g := lw_gin (List.mem_append_right _ (List.mem_of_getElem? (i := 869) rfl)) (by decide +kernel)
set_option maxRecDepth 100000 in
theorem mw_767 : Cond.code y_Mo_node b_Mo_node 3 (some .int) ∈ lw_g := lw_gin (List.mem_append_right _ (List.mem_of_getElem? (i := 1301) rfl)) (by decide +kernel)
set_option maxRecDepth 100000 in
theorem mw_768 : Cond.methodLink R_La 118 y_Mo_node ∈ lw_g := lw_gin (List.mem_append_right _ (List.mem_of_getElem? (i := 1298) rfl)) (by decide +kernel)
set_option maxRecDepth 100000 in
theorem mw_769 : Cond.instanceMethod y_Mo_node ∈ lw_g := lw_gin (List.mem_append_right _ (List.mem_of_getElem? (i := 1299) rfl)) (by decide +kernel)
set_option maxRecDepth 100000 in
theorem mw_770 : Cond.selects R_Mo y_Mo_node y_Mo_node ∈ lw_g := lw_gin (List.mem_append_right _ (List.mem_of_getElem? (i := 1300) rfl)) (by decide +kernel)
set_option maxRecDepth 100000 in
theorem mw_771 : Cond.codeWith y_La_name b_La_name 4 (some .int) [(0, 8, 11, 13)] ∈ lw_g := lw_gin (List.mem_append_right _ (List.mem_of_getElem? (i := 886) rfl)) (by decide +kernel)
set_option maxRecDepth 100000 in
theorem mw_772 : Cond.methodLink R_La 119 y_La_name ∈ lw_g := lw_gin (List.mem_append_right _ (List.mem_of_getElem? (i := 884) rfl)) (by decide +kernel)
set_option maxRecDepth 100000 in
theorem mw_773 : Cond.static y_La_name ∈ lw_g := lw_gin (List.mem_append_right _ (List.mem_of_getElem? (i := 885) rfl)) (by decide +kernel)
set_option maxRecDepth 100000 in
theorem mw_774 : Cond.code y_Mo_name b_Mo_name 2 (some .long) ∈ lw_g := lw_gin (List.mem_append_right _ (List.mem_of_getElem? (i := 1305) rfl)) (by decide +kernel)
set_option maxRecDepth 100000 in
theorem mw_775 : Cond.methodLink R_La 122 y_Mo_name ∈ lw_g := lw_gin (List.mem_append_right _ (List.mem_of_getElem? (i := 1302) rfl)) (by decide +kernel)
set_option maxRecDepth 100000 in
theorem mw_776 : Cond.instanceMethod y_Mo_name ∈ lw_g := lw_gin (List.mem_append_right _ (List.mem_of_getElem? (i := 1303) rfl)) (by decide +kernel)
set_option maxRecDepth 100000 in
theorem mw_777 : Cond.selects R_Mo y_Mo_name y_Mo_name ∈ lw_g := lw_gin (List.mem_append_right _ (List.mem_of_getElem? (i := 1304) rfl)) (by decide +kernel)
set_option maxRecDepth 100000 in
theorem mw_778 : Cond.codeWith y_La_read b_La_read 5 (some .int) [(0, 10, 13, 13)] ∈ lw_g := lw_gin (List.mem_append_right _ (List.mem_of_getElem? (i := 893) rfl)) (by decide +kernel)
set_option maxRecDepth 100000 in
theorem mw_779 : Cond.methodLink R_La 123 y_La_read ∈ lw_g := lw_gin (List.mem_append_right _ (List.mem_of_getElem? (i := 891) rfl)) (by decide +kernel)
set_option maxRecDepth 100000 in
theorem mw_780 : Cond.static y_La_read ∈ lw_g := lw_gin (List.mem_append_right _ (List.mem_of_getElem? (i := 892) rfl)) (by decide +kernel)
set_option maxRecDepth 100000 in
theorem mw_781 : Cond.code y_Mo_read b_Mo_read 3 (some .int) ∈ lw_g := lw_gin (List.mem_append_right _ (List.mem_of_getElem? (i := 1309) rfl)) (by decide +kernel)
set_option maxRecDepth 100000 in
theorem mw_782 : Cond.methodLink R_La 125 y_Mo_read ∈ lw_g := lw_gin (List.mem_append_right _ (List.mem_of_getElem? (i := 1306) rfl)) (by decide +kernel)
set_option maxRecDepth 100000 in
theorem mw_783 : Cond.instanceMethod y_Mo_read ∈ lw_g := lw_gin (List.mem_append_right _ (List.mem_of_getElem? (i := 1307) rfl)) (by decide +kernel)
set_option maxRecDepth 100000 in
theorem mw_784 : Cond.selects R_Mo y_Mo_read y_Mo_read ∈ lw_g := lw_gin (List.mem_append_right _ (List.mem_of_getElem? (i := 1308) rfl)) (by decide +kernel)
set_option maxRecDepth 100000 in
theorem mw_785 : Cond.codeWith y_La_tree b_La_tree 5 (some .int) [(0, 10, 13, 13)] ∈ lw_g := lw_gin (List.mem_append_right _ (List.mem_of_getElem? (i := 900) rfl)) (by decide +kernel)
set_option maxRecDepth 100000 in
theorem mw_786 : Cond.methodLink R_La 126 y_La_tree ∈ lw_g := lw_gin (List.mem_append_right _ (List.mem_of_getElem? (i := 898) rfl)) (by decide +kernel)
set_option maxRecDepth 100000 in
theorem mw_787 : Cond.static y_La_tree ∈ lw_g := lw_gin (List.mem_append_right _ (List.mem_of_getElem? (i := 899) rfl)) (by decide +kernel)
set_option maxRecDepth 100000 in
theorem mw_788 : Cond.code y_Mo_tree b_Mo_tree 3 (some .int) ∈ lw_g := lw_gin (List.mem_append_right _ (List.mem_of_getElem? (i := 1115) rfl)) (by decide +kernel)
set_option maxRecDepth 100000 in
theorem mw_789 : Cond.methodLink R_La 128 y_Mo_tree ∈ lw_g := lw_gin (List.mem_append_right _ (List.mem_of_getElem? (i := 1112) rfl)) (by decide +kernel)
set_option maxRecDepth 100000 in
theorem mw_790 : Cond.instanceMethod y_Mo_tree ∈ lw_g := lw_gin (List.mem_append_right _ (List.mem_of_getElem? (i := 1113) rfl)) (by decide +kernel)
set_option maxRecDepth 100000 in
theorem mw_791 : Cond.selects R_Mo y_Mo_tree y_Mo_tree ∈ lw_g := lw_gin (List.mem_append_right _ (List.mem_of_getElem? (i := 1114) rfl)) (by decide +kernel)
theorem d_La_law_648 : decode b_La_law 648 = .ok (.aload_n 1, 1) := by decide +kernel
theorem d_La_law_649 : decode b_La_law 649 = .ok (.aload_n 0, 1) := by decide +kernel
theorem d_La_law_650 : decode b_La_law 650 = .ok (.iload 4, 2) := by decide +kernel
theorem d_La_law_652 : decode b_La_law 652 = .ok (.iconst 1, 1) := by decide +kernel
theorem d_La_law_653 : decode b_La_law 653 = .ok (.iadd, 1) := by decide +kernel
theorem d_La_law_654 : decode b_La_law 654 = .ok (.iaload, 1) := by decide +kernel
theorem d_La_law_655 : decode b_La_law 655 = .ok (.aload_n 0, 1) := by decide +kernel
theorem d_La_law_656 : decode b_La_law 656 = .ok (.iload 4, 2) := by decide +kernel
theorem d_La_law_658 : decode b_La_law 658 = .ok (.iconst 2, 1) := by decide +kernel
theorem d_La_law_659 : decode b_La_law 659 = .ok (.iadd, 1) := by decide +kernel
theorem d_La_law_660 : decode b_La_law 660 = .ok (.iaload, 1) := by decide +kernel
theorem d_La_law_661 : decode b_La_law 661 = .ok (.aload_n 3, 1) := by decide +kernel
theorem d_La_law_662 : decode b_La_law 662 = .ok (.invokestatic 105, 3) := by decide +kernel
theorem d_La_law_665 : decode b_La_law 665 = .ok (.istore 5, 2) := by decide +kernel
theorem d_La_law_667 : decode b_La_law 667 = .ok (.aload_n 2, 1) := by decide +kernel
theorem d_La_law_668 : decode b_La_law 668 = .ok (.aload_n 0, 1) := by decide +kernel
theorem d_La_law_669 : decode b_La_law 669 = .ok (.iload 4, 2) := by decide +kernel
theorem d_La_law_671 : decode b_La_law 671 = .ok (.iconst 1, 1) := by decide +kernel
theorem d_La_law_672 : decode b_La_law 672 = .ok (.iadd, 1) := by decide +kernel
theorem d_La_law_673 : decode b_La_law 673 = .ok (.iaload, 1) := by decide +kernel
theorem d_La_law_674 : decode b_La_law 674 = .ok (.aload_n 0, 1) := by decide +kernel
theorem d_La_law_675 : decode b_La_law 675 = .ok (.iload 4, 2) := by decide +kernel
theorem d_La_law_677 : decode b_La_law 677 = .ok (.iconst 2, 1) := by decide +kernel
theorem d_La_law_678 : decode b_La_law 678 = .ok (.iadd, 1) := by decide +kernel
theorem d_La_law_679 : decode b_La_law 679 = .ok (.iaload, 1) := by decide +kernel
theorem d_La_law_680 : decode b_La_law 680 = .ok (.invokevirtual 108, 3) := by decide +kernel
theorem d_La_law_683 : decode b_La_law 683 = .ok (.istore 6, 2) := by decide +kernel
theorem d_La_law_685 : decode b_La_law 685 = .ok (.aload_n 2, 1) := by decide +kernel
theorem d_La_law_686 : decode b_La_law 686 = .ok (.invokevirtual 109, 3) := by decide +kernel
theorem d_La_law_689 : decode b_La_law 689 = .ok (.iload 5, 2) := by decide +kernel
theorem d_La_law_691 : decode b_La_law 691 = .ok (.if_icmp .eq 5, 3) := by decide +kernel
theorem d_La_law_696 : decode b_La_law 696 = .ok (.iload 5, 2) := by decide +kernel
theorem d_La_law_698 : decode b_La_law 698 = .ok (.ifCond .ne 15, 3) := by decide +kernel
theorem d_La_law_713 : decode b_La_law 713 = .ok (.goto 287, 3) := by decide +kernel
theorem d_La_law_741 : decode b_La_law 741 = .ok (.aload_n 1, 1) := by decide +kernel
theorem d_La_law_742 : decode b_La_law 742 = .ok (.aload_n 0, 1) := by decide +kernel
theorem d_La_law_743 : decode b_La_law 743 = .ok (.iload 4, 2) := by decide +kernel
theorem d_La_law_745 : decode b_La_law 745 = .ok (.iconst 1, 1) := by decide +kernel
theorem d_La_law_746 : decode b_La_law 746 = .ok (.iadd, 1) := by decide +kernel
theorem d_La_law_747 : decode b_La_law 747 = .ok (.iaload, 1) := by decide +kernel
theorem d_La_law_748 : decode b_La_law 748 = .ok (.aload_n 0, 1) := by decide +kernel
theorem d_La_law_749 : decode b_La_law 749 = .ok (.iload 4, 2) := by decide +kernel
theorem d_La_law_751 : decode b_La_law 751 = .ok (.iconst 2, 1) := by decide +kernel
theorem d_La_law_752 : decode b_La_law 752 = .ok (.iadd, 1) := by decide +kernel
theorem d_La_law_753 : decode b_La_law 753 = .ok (.iaload, 1) := by decide +kernel
theorem d_La_law_754 : decode b_La_law 754 = .ok (.aload_n 3, 1) := by decide +kernel
theorem d_La_law_755 : decode b_La_law 755 = .ok (.invokestatic 116, 3) := by decide +kernel
theorem d_La_law_758 : decode b_La_law 758 = .ok (.istore 5, 2) := by decide +kernel
theorem d_La_law_760 : decode b_La_law 760 = .ok (.aload_n 2, 1) := by decide +kernel
theorem d_La_law_761 : decode b_La_law 761 = .ok (.aload_n 0, 1) := by decide +kernel
theorem d_La_law_762 : decode b_La_law 762 = .ok (.iload 4, 2) := by decide +kernel
theorem d_La_law_764 : decode b_La_law 764 = .ok (.iconst 1, 1) := by decide +kernel
theorem d_La_law_765 : decode b_La_law 765 = .ok (.iadd, 1) := by decide +kernel
theorem d_La_law_766 : decode b_La_law 766 = .ok (.iaload, 1) := by decide +kernel
theorem d_La_law_767 : decode b_La_law 767 = .ok (.aload_n 0, 1) := by decide +kernel
theorem d_La_law_768 : decode b_La_law 768 = .ok (.iload 4, 2) := by decide +kernel
theorem d_La_law_770 : decode b_La_law 770 = .ok (.iconst 2, 1) := by decide +kernel
theorem d_La_law_771 : decode b_La_law 771 = .ok (.iadd, 1) := by decide +kernel
theorem d_La_law_772 : decode b_La_law 772 = .ok (.iaload, 1) := by decide +kernel
theorem d_La_law_773 : decode b_La_law 773 = .ok (.invokevirtual 118, 3) := by decide +kernel
theorem d_La_law_776 : decode b_La_law 776 = .ok (.istore 6, 2) := by decide +kernel
theorem d_La_law_778 : decode b_La_law 778 = .ok (.aload_n 2, 1) := by decide +kernel
theorem d_La_law_779 : decode b_La_law 779 = .ok (.invokevirtual 109, 3) := by decide +kernel
theorem d_La_law_782 : decode b_La_law 782 = .ok (.iload 5, 2) := by decide +kernel
theorem d_La_law_784 : decode b_La_law 784 = .ok (.if_icmp .eq 5, 3) := by decide +kernel
theorem d_La_law_789 : decode b_La_law 789 = .ok (.iload 5, 2) := by decide +kernel
theorem d_La_law_791 : decode b_La_law 791 = .ok (.ifCond .ne 15, 3) := by decide +kernel
theorem d_La_law_806 : decode b_La_law 806 = .ok (.goto 194, 3) := by decide +kernel
theorem d_La_law_809 : decode b_La_law 809 = .ok (.aload_n 1, 1) := by decide +kernel
theorem d_La_law_810 : decode b_La_law 810 = .ok (.aload_n 0, 1) := by decide +kernel
theorem d_La_law_811 : decode b_La_law 811 = .ok (.iload 4, 2) := by decide +kernel
theorem d_La_law_813 : decode b_La_law 813 = .ok (.iconst 1, 1) := by decide +kernel
theorem d_La_law_814 : decode b_La_law 814 = .ok (.iadd, 1) := by decide +kernel
theorem d_La_law_815 : decode b_La_law 815 = .ok (.iaload, 1) := by decide +kernel
theorem d_La_law_816 : decode b_La_law 816 = .ok (.aload_n 3, 1) := by decide +kernel
theorem d_La_law_817 : decode b_La_law 817 = .ok (.invokestatic 119, 3) := by decide +kernel
theorem d_La_law_820 : decode b_La_law 820 = .ok (.istore 5, 2) := by decide +kernel
theorem d_La_law_822 : decode b_La_law 822 = .ok (.aload_n 2, 1) := by decide +kernel
theorem d_La_law_823 : decode b_La_law 823 = .ok (.aload_n 0, 1) := by decide +kernel
theorem d_La_law_824 : decode b_La_law 824 = .ok (.iload 4, 2) := by decide +kernel
theorem d_La_law_826 : decode b_La_law 826 = .ok (.iconst 1, 1) := by decide +kernel
theorem d_La_law_827 : decode b_La_law 827 = .ok (.iadd, 1) := by decide +kernel
theorem d_La_law_828 : decode b_La_law 828 = .ok (.iaload, 1) := by decide +kernel
theorem d_La_law_829 : decode b_La_law 829 = .ok (.invokevirtual 122, 3) := by decide +kernel
theorem d_La_law_832 : decode b_La_law 832 = .ok (.lstore 6, 2) := by decide +kernel
theorem d_La_law_834 : decode b_La_law 834 = .ok (.aload_n 2, 1) := by decide +kernel
theorem d_La_law_835 : decode b_La_law 835 = .ok (.invokevirtual 109, 3) := by decide +kernel
theorem d_La_law_838 : decode b_La_law 838 = .ok (.iload 5, 2) := by decide +kernel
theorem d_La_law_840 : decode b_La_law 840 = .ok (.if_icmp .eq 5, 3) := by decide +kernel
theorem d_La_law_845 : decode b_La_law 845 = .ok (.iload 5, 2) := by decide +kernel
theorem d_La_law_847 : decode b_La_law 847 = .ok (.ifCond .ne 14, 3) := by decide +kernel
theorem d_La_law_861 : decode b_La_law 861 = .ok (.goto 139, 3) := by decide +kernel
theorem d_La_law_864 : decode b_La_law 864 = .ok (.aload_n 1, 1) := by decide +kernel
theorem d_La_law_865 : decode b_La_law 865 = .ok (.aload_n 0, 1) := by decide +kernel
theorem d_La_law_866 : decode b_La_law 866 = .ok (.iload 4, 2) := by decide +kernel
theorem d_La_law_868 : decode b_La_law 868 = .ok (.iconst 1, 1) := by decide +kernel
theorem d_La_law_869 : decode b_La_law 869 = .ok (.iadd, 1) := by decide +kernel
theorem d_La_law_870 : decode b_La_law 870 = .ok (.iaload, 1) := by decide +kernel
theorem d_La_law_871 : decode b_La_law 871 = .ok (.aload_n 0, 1) := by decide +kernel
theorem d_La_law_872 : decode b_La_law 872 = .ok (.iload 4, 2) := by decide +kernel
theorem d_La_law_874 : decode b_La_law 874 = .ok (.iconst 2, 1) := by decide +kernel
theorem d_La_law_875 : decode b_La_law 875 = .ok (.iadd, 1) := by decide +kernel
theorem d_La_law_876 : decode b_La_law 876 = .ok (.iaload, 1) := by decide +kernel
theorem d_La_law_877 : decode b_La_law 877 = .ok (.aload_n 3, 1) := by decide +kernel
theorem d_La_law_878 : decode b_La_law 878 = .ok (.invokestatic 123, 3) := by decide +kernel
theorem d_La_law_881 : decode b_La_law 881 = .ok (.istore 5, 2) := by decide +kernel
theorem d_La_law_883 : decode b_La_law 883 = .ok (.aload_n 2, 1) := by decide +kernel
theorem d_La_law_884 : decode b_La_law 884 = .ok (.aload_n 0, 1) := by decide +kernel
theorem d_La_law_885 : decode b_La_law 885 = .ok (.iload 4, 2) := by decide +kernel
theorem d_La_law_887 : decode b_La_law 887 = .ok (.iconst 1, 1) := by decide +kernel
theorem d_La_law_888 : decode b_La_law 888 = .ok (.iadd, 1) := by decide +kernel
theorem d_La_law_889 : decode b_La_law 889 = .ok (.iaload, 1) := by decide +kernel
theorem d_La_law_890 : decode b_La_law 890 = .ok (.aload_n 0, 1) := by decide +kernel
theorem d_La_law_891 : decode b_La_law 891 = .ok (.iload 4, 2) := by decide +kernel
theorem d_La_law_893 : decode b_La_law 893 = .ok (.iconst 2, 1) := by decide +kernel
theorem d_La_law_894 : decode b_La_law 894 = .ok (.iadd, 1) := by decide +kernel
theorem d_La_law_895 : decode b_La_law 895 = .ok (.iaload, 1) := by decide +kernel
theorem d_La_law_896 : decode b_La_law 896 = .ok (.invokevirtual 125, 3) := by decide +kernel
theorem d_La_law_899 : decode b_La_law 899 = .ok (.istore 6, 2) := by decide +kernel
theorem d_La_law_901 : decode b_La_law 901 = .ok (.aload_n 2, 1) := by decide +kernel
theorem d_La_law_902 : decode b_La_law 902 = .ok (.invokevirtual 109, 3) := by decide +kernel
theorem d_La_law_905 : decode b_La_law 905 = .ok (.iload 5, 2) := by decide +kernel
theorem d_La_law_907 : decode b_La_law 907 = .ok (.if_icmp .eq 5, 3) := by decide +kernel
theorem d_La_law_912 : decode b_La_law 912 = .ok (.iload 5, 2) := by decide +kernel
theorem d_La_law_914 : decode b_La_law 914 = .ok (.ifCond .ne 15, 3) := by decide +kernel
theorem d_La_law_929 : decode b_La_law 929 = .ok (.goto 71, 3) := by decide +kernel
theorem d_La_law_932 : decode b_La_law 932 = .ok (.aload_n 1, 1) := by decide +kernel
theorem d_La_law_933 : decode b_La_law 933 = .ok (.aload_n 0, 1) := by decide +kernel
theorem d_La_law_934 : decode b_La_law 934 = .ok (.iload 4, 2) := by decide +kernel
theorem d_La_law_936 : decode b_La_law 936 = .ok (.iconst 1, 1) := by decide +kernel
theorem d_La_law_937 : decode b_La_law 937 = .ok (.iadd, 1) := by decide +kernel
theorem d_La_law_938 : decode b_La_law 938 = .ok (.iaload, 1) := by decide +kernel
theorem d_La_law_939 : decode b_La_law 939 = .ok (.aload_n 0, 1) := by decide +kernel
theorem d_La_law_940 : decode b_La_law 940 = .ok (.iload 4, 2) := by decide +kernel
theorem d_La_law_942 : decode b_La_law 942 = .ok (.iconst 2, 1) := by decide +kernel
theorem d_La_law_943 : decode b_La_law 943 = .ok (.iadd, 1) := by decide +kernel
theorem d_La_law_944 : decode b_La_law 944 = .ok (.iaload, 1) := by decide +kernel
theorem d_La_law_945 : decode b_La_law 945 = .ok (.aload_n 3, 1) := by decide +kernel
theorem d_La_law_946 : decode b_La_law 946 = .ok (.invokestatic 126, 3) := by decide +kernel
theorem d_La_law_949 : decode b_La_law 949 = .ok (.istore 5, 2) := by decide +kernel
theorem d_La_law_951 : decode b_La_law 951 = .ok (.aload_n 2, 1) := by decide +kernel
theorem d_La_law_952 : decode b_La_law 952 = .ok (.aload_n 0, 1) := by decide +kernel
theorem d_La_law_953 : decode b_La_law 953 = .ok (.iload 4, 2) := by decide +kernel
theorem d_La_law_955 : decode b_La_law 955 = .ok (.iconst 1, 1) := by decide +kernel
theorem d_La_law_956 : decode b_La_law 956 = .ok (.iadd, 1) := by decide +kernel
theorem d_La_law_957 : decode b_La_law 957 = .ok (.iaload, 1) := by decide +kernel
theorem d_La_law_958 : decode b_La_law 958 = .ok (.aload_n 0, 1) := by decide +kernel
theorem d_La_law_959 : decode b_La_law 959 = .ok (.iload 4, 2) := by decide +kernel
theorem d_La_law_961 : decode b_La_law 961 = .ok (.iconst 2, 1) := by decide +kernel
theorem d_La_law_962 : decode b_La_law 962 = .ok (.iadd, 1) := by decide +kernel
theorem d_La_law_963 : decode b_La_law 963 = .ok (.iaload, 1) := by decide +kernel
theorem d_La_law_964 : decode b_La_law 964 = .ok (.invokevirtual 128, 3) := by decide +kernel
theorem d_La_law_967 : decode b_La_law 967 = .ok (.istore 6, 2) := by decide +kernel
theorem d_La_law_969 : decode b_La_law 969 = .ok (.aload_n 2, 1) := by decide +kernel
theorem d_La_law_970 : decode b_La_law 970 = .ok (.invokevirtual 109, 3) := by decide +kernel
theorem d_La_law_973 : decode b_La_law 973 = .ok (.iload 5, 2) := by decide +kernel
theorem d_La_law_975 : decode b_La_law 975 = .ok (.if_icmp .eq 5, 3) := by decide +kernel
theorem d_La_law_980 : decode b_La_law 980 = .ok (.iload 5, 2) := by decide +kernel
theorem d_La_law_982 : decode b_La_law 982 = .ok (.ifCond .ne 15, 3) := by decide +kernel
theorem d_La_law_997 : decode b_La_law 997 = .ok (.goto 3, 3) := by decide +kernel
theorem d_La_law_985 : decode b_La_law 985 = .ok (.aload_n 3, 1) := by decide +kernel
theorem d_La_law_986 : decode b_La_law 986 = .ok (.iconst 0, 1) := by decide +kernel
theorem d_La_law_987 : decode b_La_law 987 = .ok (.laload, 1) := by decide +kernel
theorem d_La_law_988 : decode b_La_law 988 = .ok (.iload 6, 2) := by decide +kernel
theorem d_La_law_990 : decode b_La_law 990 = .ok (.i2l, 1) := by decide +kernel
theorem d_La_law_991 : decode b_La_law 991 = .ok (.lcmp, 1) := by decide +kernel
theorem d_La_law_992 : decode b_La_law 992 = .ok (.ifCond .eq 5, 3) := by decide +kernel
set_option maxHeartbeats 4000000 in
set_option maxRecDepth 100000 in
theorem law_c14 {p : Program} {e : Env} {s : State} {m : MethodId} {below : List Frame} {meth : Method} {c : Code} (l : Launch) (hfl : l.flags = flags0) {b : Nat} {xs : Nat → Int32} (hx : p.tables.exec = Jvm.exec) (hb : c.code = b_La_law) (hr : meth.sig.returnType = ret) (hml : c.maxLocals = 8) (hown : s.vm.findClass R_La = some m.cls) (hts : ∀ w ∈ lw_g, w.before #[Value.ref b] s = true) (hlocks : meth.locks = false) {D : va_G} {t : Nat → ClassId} {ak av : Nat → Nat} {x mo n A B : Nat} {h1 h3 ho : hM} {go : Nat → Int64} {H : Heap} {locs : List Loc} {ls : Array Slot} (hE0 : kE D t (gNew s.heap) ak av s) (hT0 : kT (gNew s.heap) s) (hXs : va_X b 7 xs s s.heap) (hbl : b < s.heap.size) (hS : va_S (P0 s) s.heap H locs) (hX9 : hm D vwCl (gIn H s.heap.size A) h1 H) (hM9 : hm D vwCl (gIn H A B) h3 H) (hO9 : hm D vwCl (gIn H B (B + 1)) ho H) (hFX : FrX t h1 x n) (hFM : FrM t h3 mo n) (hou : ho B = some (.inl ((t 3), 1, .inr (.inl go)))) (hmo : A ≤ mo ∧ mo < B) (hSA : s.heap.size ≤ A) (hAB : A ≤ B) (hBH : B < H.size) (hl : lv_has ls 8 [(4, .int 1), (3, .ref B), (2, .ref mo), (1, .ref x), (0, .ref b)]) : W p l e room_1 s m #[Value.ref b] below meth c H locs 340 998345 (lw_Z below #[Value.ref b] s) (F0 m 648 ls []) := by
  have hbA : ¬ P0 s b := Nat.not_le.mpr hbl
  refine lv_aload_n hx hb d_La_law_648 rfl (lv_at hl 3 rfl) ?_
  refine lv_aload_n hx hb d_La_law_649 rfl (lv_at hl 4 rfl) ?_
  refine lv_iload hx hb d_La_law_650 (lv_at hl 0 rfl) ?_
  refine lv_iconst (v := 1) hx hb d_La_law_652 (by decide) ?_
  refine lv_iadd hx hb d_La_law_653 ?_
  refine va_sld hx hb hXs hbl hbA hS (show ¬ ((1 + 1 : Int32) < 0 ∨ 7 ≤ (1 + 1 : Int32).toNatClampNeg) by decide) d_La_law_654 ?_
  refine lv_topi (fun v21 e22 => ?_)
  obtain rfl : v21 = xs 2 := e22.trans (rfl)
  refine lv_aload_n hx hb d_La_law_655 rfl (lv_at hl 4 rfl) ?_
  refine lv_iload hx hb d_La_law_656 (lv_at hl 0 rfl) ?_
  refine lv_iconst (v := 2) hx hb d_La_law_658 (by decide) ?_
  refine lv_iadd hx hb d_La_law_659 ?_
  refine va_sld hx hb hXs hbl hbA hS (show ¬ ((1 + 2 : Int32) < 0 ∨ 7 ≤ (1 + 2 : Int32).toNatClampNeg) by decide) d_La_law_660 ?_
  refine lv_topi (fun v23 e24 => ?_)
  obtain rfl : v23 = xs 3 := e24.trans (rfl)
  refine lv_aload_n hx hb d_La_law_661 rfl (lv_at hl 1 rfl) ?_
  have px25 : ∀ q, (gIn H s.heap.size A).P q → P0 s q := fun q hq => hq.elim (fun z => z.1) (fun z => Nat.le_trans hS.1 z)
  refine hm_callXi (hm_runSW (n := 4) (As := [.ref x, .int (xs 2), .int (xs 3), .ref B]) (rest := []) ⟨hx, hb, hml, hown, hts⟩ (c_l_mark l D t (gIn H s.heap.size A) ak av h1 hfl x n B (xs 2) (xs 3) hFX) mw_752 mw_753 mw_754 mw_755 rfl rfl (by decide +kernel) ⟨Nat.le_of_ble_eq_true rfl, Nat.le_of_ble_eq_true rfl⟩ (hP_S kF_ok (kF_g hE0 hT0 hS rfl px25) hX9) rfl rfl hl.1 rfl (lv_room (Nat.le_of_ble_eq_true rfl)) d_La_law_662 ⟨Nat.le_of_ble_eq_true rfl, Nat.le_of_ble_eq_true rfl⟩) hS.2.2 px25 (fun r26 h27 H28 locs hp30 hH31 z29 hLo => ?_)
  have hS : va_S (P0 s) s.heap H28 locs := vaS_step hS rfl px25 hH31 hLo
  have hM9 : hm D vwCl (gIn H28 A B) h3 H28 := re9 hM9 hH31 (by omega) (by omega)
  have hO9 : hm D vwCl (gIn H28 B (B + 1)) ho H28 := re9 hO9 hH31 (by omega) (by omega)
  have hBH : B < H28.size := Nat.lt_of_lt_of_le hBH z29
  obtain ⟨rfl, -⟩ := hp30
  refine lv_istore (lv' := [(5, .int 1), (4, .int 1), (3, .ref B), (2, .ref mo), (1, .ref x), (0, .ref b)]) hx hb d_La_law_665 hl (by decide) rfl (fun ls hl => ?_)
  refine lv_aload_n hx hb d_La_law_667 rfl (lv_at hl 3 rfl) ?_
  refine lv_aload_n hx hb d_La_law_668 rfl (lv_at hl 5 rfl) ?_
  refine lv_iload hx hb d_La_law_669 (lv_at hl 1 rfl) ?_
  refine lv_iconst (v := 1) hx hb d_La_law_671 (by decide) ?_
  refine lv_iadd hx hb d_La_law_672 ?_
  refine va_sld hx hb hXs hbl hbA hS (show ¬ ((1 + 1 : Int32) < 0 ∨ 7 ≤ (1 + 1 : Int32).toNatClampNeg) by decide) d_La_law_673 ?_
  refine lv_topi (fun v32 e33 => ?_)
  obtain rfl : v32 = xs 2 := e33.trans (rfl)
  refine lv_aload_n hx hb d_La_law_674 rfl (lv_at hl 5 rfl) ?_
  refine lv_iload hx hb d_La_law_675 (lv_at hl 1 rfl) ?_
  refine lv_iconst (v := 2) hx hb d_La_law_677 (by decide) ?_
  refine lv_iadd hx hb d_La_law_678 ?_
  refine va_sld hx hb hXs hbl hbA hS (show ¬ ((1 + 2 : Int32) < 0 ∨ 7 ≤ (1 + 2 : Int32).toNatClampNeg) by decide) d_La_law_679 ?_
  refine lv_topi (fun v34 e35 => ?_)
  obtain rfl : v34 = xs 3 := e35.trans (rfl)
  have px36 : ∀ q, (gIn H28 A B).P q → P0 s q := fun q hq => hq.elim (fun z => Nat.le_trans hSA z.1) (fun z => Nat.le_trans hS.1 z)
  obtain ⟨fo43, hf44⟩ := FrM_ob hFM
  refine hm_callXi (va_runV (As := [.int (xs 2), .int (xs 3)]) (b := mo) (rest := []) ⟨hx, hb, hml, hown, hts⟩ (c_m_mark l D t (gIn H28 A B) ak av h3 mo n (xs 2) (xs 3) hFM) ⟨cw9B 2 hts mw_756 mw_757 mw_428 rfl rfl (by decide +kernel) ⟨Nat.le_of_ble_eq_true rfl, Nat.le_of_ble_eq_true rfl⟩, hts _ mw_758, hts _ mw_759⟩ (hP_V (q := (R_Mo, F_Mo, 41)) kE_ok (kE_g hE0 hS rfl px36) hE0.1 hM9 hf44 rfl) rfl rfl hl.1 rfl (lv_room (Nat.le_of_ble_eq_true rfl)) d_La_law_680 ⟨Nat.le_of_ble_eq_true rfl, Nat.le_of_ble_eq_true rfl⟩) hS.2.2 px36 (fun r37 h38 H39 locs hp41 hH42 z40 hLo => ?_)
  have hS : va_S (P0 s) s.heap H39 locs := vaS_step hS rfl px36 hH42 hLo
  have hO9 : hm D vwCl (gIn H39 B (B + 1)) ho H39 := re9 hO9 hH42 (by omega) (by omega)
  have hBH : B < H39.size := Nat.lt_of_lt_of_le hBH z40
  obtain ⟨rfl, hT9⟩ := hp41
  obtain ⟨hm2, hT9, hob2, hM9⟩ := th9 hH42 hT9 hmo.1 hmo.2
  refine lv_istore (lv' := [(6, .int 0), (5, .int 1), (4, .int 1), (3, .ref B), (2, .ref mo), (1, .ref x), (0, .ref b)]) hx hb d_La_law_683 hl (by decide) rfl (fun ls hl => ?_)
  refine lv_aload_n hx hb d_La_law_685 rfl (lv_at hl 4 rfl) ?_
  have px45 : ∀ q, (gIn H39 A B).P q → P0 s q := fun q hq => hq.elim (fun z => Nat.le_trans hSA z.1) (fun z => Nat.le_trans hS.1 z)
  obtain ⟨fo52, hf53⟩ := hob2
  refine hm_callXi (va_runV (As := []) (b := mo) (rest := []) ⟨hx, hb, hml, hown, hts⟩ (c_m_thrown l D t (gIn H39 A B) ak av hm2 mo n 1 hT9) ⟨cw9B 0 hts mw_760 mw_761 mw_428 rfl rfl (by decide +kernel) ⟨Nat.le_of_ble_eq_true rfl, Nat.le_of_ble_eq_true rfl⟩, hts _ mw_762, hts _ mw_763⟩ (hP_V (q := (R_Mo, F_Mo, 41)) kE_ok (kE_g hE0 hS rfl px45) hE0.1 hM9 hf53 rfl) rfl rfl hl.1 rfl (lv_room (Nat.le_of_ble_eq_true rfl)) d_La_law_686 ⟨Nat.le_of_ble_eq_true rfl, Nat.le_of_ble_eq_true rfl⟩) hS.2.2 px45 (fun r46 h47 H48 locs hp50 hH51 z49 hLo => ?_)
  have hS : va_S (P0 s) s.heap H48 locs := vaS_step hS rfl px45 hH51 hLo
  have hO9 : hm D vwCl (gIn H48 B (B + 1)) ho H48 := re9 hO9 hH51 (by omega) (by omega)
  have hBH : B < H48.size := Nat.lt_of_lt_of_le hBH z49
  obtain ⟨rfl, -⟩ := hp50
  refine lv_iload hx hb d_La_law_689 (lv_at hl 1 rfl) ?_
  refine lv_icmp_eq (tgt := 696) hx hb d_La_law_691 (by decide) (fun hc54 => ?_) (fun hc54 => absurd rfl hc54)
  refine lv_iload hx hb d_La_law_696 (lv_at hl 1 rfl) ?_
  refine lv_if_ne (tgt := 713) hx hb d_La_law_698 (by decide) (fun hc55 => ?_) (fun hc55 => absurd hc55 (by decide))
  refine lv_goto (tgt := 1000) hx hb d_La_law_713 (by decide) ?_
  exact law_end l hfl hx hb hr hml hown hts hlocks hXs hbl hS (Nat.le_of_ble_eq_true rfl) (Nat.le_of_ble_eq_true rfl) (lv_sub hl [2, 6] rfl)

set_option maxHeartbeats 4000000 in
set_option maxRecDepth 100000 in
theorem law_c16 {p : Program} {e : Env} {s : State} {m : MethodId} {below : List Frame} {meth : Method} {c : Code} (l : Launch) (hfl : l.flags = flags0) {b : Nat} {xs : Nat → Int32} (hx : p.tables.exec = Jvm.exec) (hb : c.code = b_La_law) (hr : meth.sig.returnType = ret) (hml : c.maxLocals = 8) (hown : s.vm.findClass R_La = some m.cls) (hts : ∀ w ∈ lw_g, w.before #[Value.ref b] s = true) (hlocks : meth.locks = false) {D : va_G} {t : Nat → ClassId} {ak av : Nat → Nat} {x mo n A B : Nat} {h1 h3 ho : hM} {go : Nat → Int64} {H : Heap} {locs : List Loc} {ls : Array Slot} (hE0 : kE D t (gNew s.heap) ak av s) (hT0 : kT (gNew s.heap) s) (hXs : va_X b 7 xs s s.heap) (hbl : b < s.heap.size) (hS : va_S (P0 s) s.heap H locs) (hX9 : hm D vwCl (gIn H s.heap.size A) h1 H) (hM9 : hm D vwCl (gIn H A B) h3 H) (hO9 : hm D vwCl (gIn H B (B + 1)) ho H) (hFX : FrX t h1 x n) (hFM : FrM t h3 mo n) (hou : ho B = some (.inl ((t 3), 1, .inr (.inl go)))) (hmo : A ≤ mo ∧ mo < B) (hSA : s.heap.size ≤ A) (hAB : A ≤ B) (hBH : B < H.size) (hl : lv_has ls 8 [(4, .int 1), (3, .ref B), (2, .ref mo), (1, .ref x), (0, .ref b)]) : W p l e room_1 s m #[Value.ref b] below meth c H locs 340 998345 (lw_Z below #[Value.ref b] s) (F0 m 741 ls []) := by
  have hbA : ¬ P0 s b := Nat.not_le.mpr hbl
  refine lv_aload_n hx hb d_La_law_741 rfl (lv_at hl 3 rfl) ?_
  refine lv_aload_n hx hb d_La_law_742 rfl (lv_at hl 4 rfl) ?_
  refine lv_iload hx hb d_La_law_743 (lv_at hl 0 rfl) ?_
  refine lv_iconst (v := 1) hx hb d_La_law_745 (by decide) ?_
  refine lv_iadd hx hb d_La_law_746 ?_
  refine va_sld hx hb hXs hbl hbA hS (show ¬ ((1 + 1 : Int32) < 0 ∨ 7 ≤ (1 + 1 : Int32).toNatClampNeg) by decide) d_La_law_747 ?_
  refine lv_topi (fun v21 e22 => ?_)
  obtain rfl : v21 = xs 2 := e22.trans (rfl)
  refine lv_aload_n hx hb d_La_law_748 rfl (lv_at hl 4 rfl) ?_
  refine lv_iload hx hb d_La_law_749 (lv_at hl 0 rfl) ?_
  refine lv_iconst (v := 2) hx hb d_La_law_751 (by decide) ?_
  refine lv_iadd hx hb d_La_law_752 ?_
  refine va_sld hx hb hXs hbl hbA hS (show ¬ ((1 + 2 : Int32) < 0 ∨ 7 ≤ (1 + 2 : Int32).toNatClampNeg) by decide) d_La_law_753 ?_
  refine lv_topi (fun v23 e24 => ?_)
  obtain rfl : v23 = xs 3 := e24.trans (rfl)
  refine lv_aload_n hx hb d_La_law_754 rfl (lv_at hl 1 rfl) ?_
  have px25 : ∀ q, (gIn H s.heap.size A).P q → P0 s q := fun q hq => hq.elim (fun z => z.1) (fun z => Nat.le_trans hS.1 z)
  refine hm_callXi (hm_runSW (n := 4) (As := [.ref x, .int (xs 2), .int (xs 3), .ref B]) (rest := []) ⟨hx, hb, hml, hown, hts⟩ (c_l_node l D t (gIn H s.heap.size A) ak av h1 hfl x n B (xs 2) (xs 3) hFX) mw_764 mw_765 mw_766 mw_755 rfl rfl (by decide +kernel) ⟨Nat.le_of_ble_eq_true rfl, Nat.le_of_ble_eq_true rfl⟩ (hP_S kF_ok (kF_g hE0 hT0 hS rfl px25) hX9) rfl rfl hl.1 rfl (lv_room (Nat.le_of_ble_eq_true rfl)) d_La_law_755 ⟨Nat.le_of_ble_eq_true rfl, Nat.le_of_ble_eq_true rfl⟩) hS.2.2 px25 (fun r26 h27 H28 locs hp30 hH31 z29 hLo => ?_)
  have hS : va_S (P0 s) s.heap H28 locs := vaS_step hS rfl px25 hH31 hLo
  have hM9 : hm D vwCl (gIn H28 A B) h3 H28 := re9 hM9 hH31 (by omega) (by omega)
  have hO9 : hm D vwCl (gIn H28 B (B + 1)) ho H28 := re9 hO9 hH31 (by omega) (by omega)
  have hBH : B < H28.size := Nat.lt_of_lt_of_le hBH z29
  obtain ⟨rfl, -⟩ := hp30
  refine lv_istore (lv' := [(5, .int 1), (4, .int 1), (3, .ref B), (2, .ref mo), (1, .ref x), (0, .ref b)]) hx hb d_La_law_758 hl (by decide) rfl (fun ls hl => ?_)
  refine lv_aload_n hx hb d_La_law_760 rfl (lv_at hl 3 rfl) ?_
  refine lv_aload_n hx hb d_La_law_761 rfl (lv_at hl 5 rfl) ?_
  refine lv_iload hx hb d_La_law_762 (lv_at hl 1 rfl) ?_
  refine lv_iconst (v := 1) hx hb d_La_law_764 (by decide) ?_
  refine lv_iadd hx hb d_La_law_765 ?_
  refine va_sld hx hb hXs hbl hbA hS (show ¬ ((1 + 1 : Int32) < 0 ∨ 7 ≤ (1 + 1 : Int32).toNatClampNeg) by decide) d_La_law_766 ?_
  refine lv_topi (fun v32 e33 => ?_)
  obtain rfl : v32 = xs 2 := e33.trans (rfl)
  refine lv_aload_n hx hb d_La_law_767 rfl (lv_at hl 5 rfl) ?_
  refine lv_iload hx hb d_La_law_768 (lv_at hl 1 rfl) ?_
  refine lv_iconst (v := 2) hx hb d_La_law_770 (by decide) ?_
  refine lv_iadd hx hb d_La_law_771 ?_
  refine va_sld hx hb hXs hbl hbA hS (show ¬ ((1 + 2 : Int32) < 0 ∨ 7 ≤ (1 + 2 : Int32).toNatClampNeg) by decide) d_La_law_772 ?_
  refine lv_topi (fun v34 e35 => ?_)
  obtain rfl : v34 = xs 3 := e35.trans (rfl)
  have px36 : ∀ q, (gIn H28 A B).P q → P0 s q := fun q hq => hq.elim (fun z => Nat.le_trans hSA z.1) (fun z => Nat.le_trans hS.1 z)
  obtain ⟨fo43, hf44⟩ := FrM_ob hFM
  refine hm_callXi (va_runV (As := [.int (xs 2), .int (xs 3)]) (b := mo) (rest := []) ⟨hx, hb, hml, hown, hts⟩ (c_m_node l D t (gIn H28 A B) ak av h3 mo n (xs 2) (xs 3) hFM) ⟨cw9B 2 hts mw_767 mw_768 mw_428 rfl rfl (by decide +kernel) ⟨Nat.le_of_ble_eq_true rfl, Nat.le_of_ble_eq_true rfl⟩, hts _ mw_769, hts _ mw_770⟩ (hP_V (q := (R_Mo, F_Mo, 41)) kE_ok (kE_g hE0 hS rfl px36) hE0.1 hM9 hf44 rfl) rfl rfl hl.1 rfl (lv_room (Nat.le_of_ble_eq_true rfl)) d_La_law_773 ⟨Nat.le_of_ble_eq_true rfl, Nat.le_of_ble_eq_true rfl⟩) hS.2.2 px36 (fun r37 h38 H39 locs hp41 hH42 z40 hLo => ?_)
  have hS : va_S (P0 s) s.heap H39 locs := vaS_step hS rfl px36 hH42 hLo
  have hO9 : hm D vwCl (gIn H39 B (B + 1)) ho H39 := re9 hO9 hH42 (by omega) (by omega)
  have hBH : B < H39.size := Nat.lt_of_lt_of_le hBH z40
  obtain ⟨rfl, hT9⟩ := hp41
  obtain ⟨hm2, hT9, hob2, hM9⟩ := th9 hH42 hT9 hmo.1 hmo.2
  refine lv_istore (lv' := [(6, .int 0), (5, .int 1), (4, .int 1), (3, .ref B), (2, .ref mo), (1, .ref x), (0, .ref b)]) hx hb d_La_law_776 hl (by decide) rfl (fun ls hl => ?_)
  refine lv_aload_n hx hb d_La_law_778 rfl (lv_at hl 4 rfl) ?_
  have px45 : ∀ q, (gIn H39 A B).P q → P0 s q := fun q hq => hq.elim (fun z => Nat.le_trans hSA z.1) (fun z => Nat.le_trans hS.1 z)
  obtain ⟨fo52, hf53⟩ := hob2
  refine hm_callXi (va_runV (As := []) (b := mo) (rest := []) ⟨hx, hb, hml, hown, hts⟩ (c_m_thrown l D t (gIn H39 A B) ak av hm2 mo n 1 hT9) ⟨cw9B 0 hts mw_760 mw_761 mw_428 rfl rfl (by decide +kernel) ⟨Nat.le_of_ble_eq_true rfl, Nat.le_of_ble_eq_true rfl⟩, hts _ mw_762, hts _ mw_763⟩ (hP_V (q := (R_Mo, F_Mo, 41)) kE_ok (kE_g hE0 hS rfl px45) hE0.1 hM9 hf53 rfl) rfl rfl hl.1 rfl (lv_room (Nat.le_of_ble_eq_true rfl)) d_La_law_779 ⟨Nat.le_of_ble_eq_true rfl, Nat.le_of_ble_eq_true rfl⟩) hS.2.2 px45 (fun r46 h47 H48 locs hp50 hH51 z49 hLo => ?_)
  have hS : va_S (P0 s) s.heap H48 locs := vaS_step hS rfl px45 hH51 hLo
  have hO9 : hm D vwCl (gIn H48 B (B + 1)) ho H48 := re9 hO9 hH51 (by omega) (by omega)
  have hBH : B < H48.size := Nat.lt_of_lt_of_le hBH z49
  obtain ⟨rfl, -⟩ := hp50
  refine lv_iload hx hb d_La_law_782 (lv_at hl 1 rfl) ?_
  refine lv_icmp_eq (tgt := 789) hx hb d_La_law_784 (by decide) (fun hc54 => ?_) (fun hc54 => absurd rfl hc54)
  refine lv_iload hx hb d_La_law_789 (lv_at hl 1 rfl) ?_
  refine lv_if_ne (tgt := 806) hx hb d_La_law_791 (by decide) (fun hc55 => ?_) (fun hc55 => absurd hc55 (by decide))
  refine lv_goto (tgt := 1000) hx hb d_La_law_806 (by decide) ?_
  exact law_end l hfl hx hb hr hml hown hts hlocks hXs hbl hS (Nat.le_of_ble_eq_true rfl) (Nat.le_of_ble_eq_true rfl) (lv_sub hl [2, 6] rfl)

set_option maxHeartbeats 4000000 in
set_option maxRecDepth 100000 in
theorem law_c17 {p : Program} {e : Env} {s : State} {m : MethodId} {below : List Frame} {meth : Method} {c : Code} (l : Launch) (hfl : l.flags = flags0) {b : Nat} {xs : Nat → Int32} (hx : p.tables.exec = Jvm.exec) (hb : c.code = b_La_law) (hr : meth.sig.returnType = ret) (hml : c.maxLocals = 8) (hown : s.vm.findClass R_La = some m.cls) (hts : ∀ w ∈ lw_g, w.before #[Value.ref b] s = true) (hlocks : meth.locks = false) {D : va_G} {t : Nat → ClassId} {ak av : Nat → Nat} {x mo n A B : Nat} {h1 h3 ho : hM} {go : Nat → Int64} {H : Heap} {locs : List Loc} {ls : Array Slot} (hE0 : kE D t (gNew s.heap) ak av s) (hT0 : kT (gNew s.heap) s) (hXs : va_X b 7 xs s s.heap) (hbl : b < s.heap.size) (hS : va_S (P0 s) s.heap H locs) (hX9 : hm D vwCl (gIn H s.heap.size A) h1 H) (hM9 : hm D vwCl (gIn H A B) h3 H) (hO9 : hm D vwCl (gIn H B (B + 1)) ho H) (hFX : FrX t h1 x n) (hFM : FrM t h3 mo n) (hou : ho B = some (.inl ((t 3), 1, .inr (.inl go)))) (hmo : A ≤ mo ∧ mo < B) (hSA : s.heap.size ≤ A) (hAB : A ≤ B) (hBH : B < H.size) (hl : lv_has ls 8 [(4, .int 1), (3, .ref B), (2, .ref mo), (1, .ref x), (0, .ref b)]) : W p l e room_1 s m #[Value.ref b] below meth c H locs 340 998345 (lw_Z below #[Value.ref b] s) (F0 m 809 ls []) := by
  have hbA : ¬ P0 s b := Nat.not_le.mpr hbl
  refine lv_aload_n hx hb d_La_law_809 rfl (lv_at hl 3 rfl) ?_
  refine lv_aload_n hx hb d_La_law_810 rfl (lv_at hl 4 rfl) ?_
  refine lv_iload hx hb d_La_law_811 (lv_at hl 0 rfl) ?_
  refine lv_iconst (v := 1) hx hb d_La_law_813 (by decide) ?_
  refine lv_iadd hx hb d_La_law_814 ?_
  refine va_sld hx hb hXs hbl hbA hS (show ¬ ((1 + 1 : Int32) < 0 ∨ 7 ≤ (1 + 1 : Int32).toNatClampNeg) by decide) d_La_law_815 ?_
  refine lv_topi (fun v21 e22 => ?_)
  obtain rfl : v21 = xs 2 := e22.trans (rfl)
  refine lv_aload_n hx hb d_La_law_816 rfl (lv_at hl 1 rfl) ?_
  have px23 : ∀ q, (gIn H s.heap.size A).P q → P0 s q := fun q hq => hq.elim (fun z => z.1) (fun z => Nat.le_trans hS.1 z)
  refine hm_callXi (hm_runSW (n := 3) (As := [.ref x, .int (xs 2), .ref B]) (rest := []) ⟨hx, hb, hml, hown, hts⟩ (c_l_name l D t (gIn H s.heap.size A) ak av h1 hfl x n B (xs 2) hFX) mw_771 mw_772 mw_773 mw_755 rfl rfl (by decide +kernel) ⟨Nat.le_of_ble_eq_true rfl, Nat.le_of_ble_eq_true rfl⟩ (hP_S kF_ok (kF_g hE0 hT0 hS rfl px23) hX9) rfl rfl hl.1 rfl (lv_room (Nat.le_of_ble_eq_true rfl)) d_La_law_817 ⟨Nat.le_of_ble_eq_true rfl, Nat.le_of_ble_eq_true rfl⟩) hS.2.2 px23 (fun r24 h25 H26 locs hp28 hH29 z27 hLo => ?_)
  have hS : va_S (P0 s) s.heap H26 locs := vaS_step hS rfl px23 hH29 hLo
  have hM9 : hm D vwCl (gIn H26 A B) h3 H26 := re9 hM9 hH29 (by omega) (by omega)
  have hO9 : hm D vwCl (gIn H26 B (B + 1)) ho H26 := re9 hO9 hH29 (by omega) (by omega)
  have hBH : B < H26.size := Nat.lt_of_lt_of_le hBH z27
  obtain ⟨rfl, -⟩ := hp28
  refine lv_istore (lv' := [(5, .int 1), (4, .int 1), (3, .ref B), (2, .ref mo), (1, .ref x), (0, .ref b)]) hx hb d_La_law_820 hl (by decide) rfl (fun ls hl => ?_)
  refine lv_aload_n hx hb d_La_law_822 rfl (lv_at hl 3 rfl) ?_
  refine lv_aload_n hx hb d_La_law_823 rfl (lv_at hl 5 rfl) ?_
  refine lv_iload hx hb d_La_law_824 (lv_at hl 1 rfl) ?_
  refine lv_iconst (v := 1) hx hb d_La_law_826 (by decide) ?_
  refine lv_iadd hx hb d_La_law_827 ?_
  refine va_sld hx hb hXs hbl hbA hS (show ¬ ((1 + 1 : Int32) < 0 ∨ 7 ≤ (1 + 1 : Int32).toNatClampNeg) by decide) d_La_law_828 ?_
  refine lv_topi (fun v30 e31 => ?_)
  obtain rfl : v30 = xs 2 := e31.trans (rfl)
  have px32 : ∀ q, (gIn H26 A B).P q → P0 s q := fun q hq => hq.elim (fun z => Nat.le_trans hSA z.1) (fun z => Nat.le_trans hS.1 z)
  obtain ⟨fo39, hf40⟩ := FrM_ob hFM
  refine hm_callXl (va_runV (As := [.int (xs 2)]) (b := mo) (rest := []) ⟨hx, hb, hml, hown, hts⟩ (c_m_name l D t (gIn H26 A B) ak av h3 mo n (xs 2) hFM) ⟨cw9B 1 hts mw_774 mw_775 mw_428 rfl rfl (by decide +kernel) ⟨Nat.le_of_ble_eq_true rfl, Nat.le_of_ble_eq_true rfl⟩, hts _ mw_776, hts _ mw_777⟩ (hP_V (q := (R_Mo, F_Mo, 41)) kE_ok (kE_g hE0 hS rfl px32) hE0.1 hM9 hf40 rfl) rfl rfl hl.1 rfl (lv_room (Nat.le_of_ble_eq_true rfl)) d_La_law_829 ⟨Nat.le_of_ble_eq_true rfl, Nat.le_of_ble_eq_true rfl⟩) hS.2.2 px32 (fun r33 h34 H35 locs hp37 hH38 z36 hLo => ?_)
  have hS : va_S (P0 s) s.heap H35 locs := vaS_step hS rfl px32 hH38 hLo
  have hO9 : hm D vwCl (gIn H35 B (B + 1)) ho H35 := re9 hO9 hH38 (by omega) (by omega)
  have hBH : B < H35.size := Nat.lt_of_lt_of_le hBH z36
  obtain ⟨rfl, hT9⟩ := hp37
  obtain ⟨hm2, hT9, hob2, hM9⟩ := th9 hH38 hT9 hmo.1 hmo.2
  refine lv_lstore (lv' := [(6, .long 0), (5, .int 1), (4, .int 1), (3, .ref B), (2, .ref mo), (1, .ref x), (0, .ref b)]) hx hb d_La_law_832 hl (by decide) rfl (fun ls hl => ?_)
  refine lv_aload_n hx hb d_La_law_834 rfl (lv_at hl 4 rfl) ?_
  have px41 : ∀ q, (gIn H35 A B).P q → P0 s q := fun q hq => hq.elim (fun z => Nat.le_trans hSA z.1) (fun z => Nat.le_trans hS.1 z)
  obtain ⟨fo48, hf49⟩ := hob2
  refine hm_callXi (va_runV (As := []) (b := mo) (rest := []) ⟨hx, hb, hml, hown, hts⟩ (c_m_thrown l D t (gIn H35 A B) ak av hm2 mo n 1 hT9) ⟨cw9B 0 hts mw_760 mw_761 mw_428 rfl rfl (by decide +kernel) ⟨Nat.le_of_ble_eq_true rfl, Nat.le_of_ble_eq_true rfl⟩, hts _ mw_762, hts _ mw_763⟩ (hP_V (q := (R_Mo, F_Mo, 41)) kE_ok (kE_g hE0 hS rfl px41) hE0.1 hM9 hf49 rfl) rfl rfl hl.1 rfl (lv_room (Nat.le_of_ble_eq_true rfl)) d_La_law_835 ⟨Nat.le_of_ble_eq_true rfl, Nat.le_of_ble_eq_true rfl⟩) hS.2.2 px41 (fun r42 h43 H44 locs hp46 hH47 z45 hLo => ?_)
  have hS : va_S (P0 s) s.heap H44 locs := vaS_step hS rfl px41 hH47 hLo
  have hO9 : hm D vwCl (gIn H44 B (B + 1)) ho H44 := re9 hO9 hH47 (by omega) (by omega)
  have hBH : B < H44.size := Nat.lt_of_lt_of_le hBH z45
  obtain ⟨rfl, -⟩ := hp46
  refine lv_iload hx hb d_La_law_838 (lv_at hl 1 rfl) ?_
  refine lv_icmp_eq (tgt := 845) hx hb d_La_law_840 (by decide) (fun hc50 => ?_) (fun hc50 => absurd rfl hc50)
  refine lv_iload hx hb d_La_law_845 (lv_at hl 1 rfl) ?_
  refine lv_if_ne (tgt := 861) hx hb d_La_law_847 (by decide) (fun hc51 => ?_) (fun hc51 => absurd hc51 (by decide))
  refine lv_goto (tgt := 1000) hx hb d_La_law_861 (by decide) ?_
  exact law_end l hfl hx hb hr hml hown hts hlocks hXs hbl hS (Nat.le_of_ble_eq_true rfl) (Nat.le_of_ble_eq_true rfl) (lv_sub hl [2, 6] rfl)

set_option maxHeartbeats 4000000 in
set_option maxRecDepth 100000 in
theorem law_c18 {p : Program} {e : Env} {s : State} {m : MethodId} {below : List Frame} {meth : Method} {c : Code} (l : Launch) (hfl : l.flags = flags0) {b : Nat} {xs : Nat → Int32} (hx : p.tables.exec = Jvm.exec) (hb : c.code = b_La_law) (hr : meth.sig.returnType = ret) (hml : c.maxLocals = 8) (hown : s.vm.findClass R_La = some m.cls) (hts : ∀ w ∈ lw_g, w.before #[Value.ref b] s = true) (hlocks : meth.locks = false) {D : va_G} {t : Nat → ClassId} {ak av : Nat → Nat} {x mo n A B : Nat} {h1 h3 ho : hM} {go : Nat → Int64} {H : Heap} {locs : List Loc} {ls : Array Slot} (hE0 : kE D t (gNew s.heap) ak av s) (hT0 : kT (gNew s.heap) s) (hXs : va_X b 7 xs s s.heap) (hbl : b < s.heap.size) (hS : va_S (P0 s) s.heap H locs) (hX9 : hm D vwCl (gIn H s.heap.size A) h1 H) (hM9 : hm D vwCl (gIn H A B) h3 H) (hO9 : hm D vwCl (gIn H B (B + 1)) ho H) (hFX : FrX t h1 x n) (hFM : FrM t h3 mo n) (hou : ho B = some (.inl ((t 3), 1, .inr (.inl go)))) (hmo : A ≤ mo ∧ mo < B) (hSA : s.heap.size ≤ A) (hAB : A ≤ B) (hBH : B < H.size) (hl : lv_has ls 8 [(4, .int 1), (3, .ref B), (2, .ref mo), (1, .ref x), (0, .ref b)]) : W p l e room_1 s m #[Value.ref b] below meth c H locs 340 998345 (lw_Z below #[Value.ref b] s) (F0 m 864 ls []) := by
  have hbA : ¬ P0 s b := Nat.not_le.mpr hbl
  refine lv_aload_n hx hb d_La_law_864 rfl (lv_at hl 3 rfl) ?_
  refine lv_aload_n hx hb d_La_law_865 rfl (lv_at hl 4 rfl) ?_
  refine lv_iload hx hb d_La_law_866 (lv_at hl 0 rfl) ?_
  refine lv_iconst (v := 1) hx hb d_La_law_868 (by decide) ?_
  refine lv_iadd hx hb d_La_law_869 ?_
  refine va_sld hx hb hXs hbl hbA hS (show ¬ ((1 + 1 : Int32) < 0 ∨ 7 ≤ (1 + 1 : Int32).toNatClampNeg) by decide) d_La_law_870 ?_
  refine lv_topi (fun v21 e22 => ?_)
  obtain rfl : v21 = xs 2 := e22.trans (rfl)
  refine lv_aload_n hx hb d_La_law_871 rfl (lv_at hl 4 rfl) ?_
  refine lv_iload hx hb d_La_law_872 (lv_at hl 0 rfl) ?_
  refine lv_iconst (v := 2) hx hb d_La_law_874 (by decide) ?_
  refine lv_iadd hx hb d_La_law_875 ?_
  refine va_sld hx hb hXs hbl hbA hS (show ¬ ((1 + 2 : Int32) < 0 ∨ 7 ≤ (1 + 2 : Int32).toNatClampNeg) by decide) d_La_law_876 ?_
  refine lv_topi (fun v23 e24 => ?_)
  obtain rfl : v23 = xs 3 := e24.trans (rfl)
  refine lv_aload_n hx hb d_La_law_877 rfl (lv_at hl 1 rfl) ?_
  have px25 : ∀ q, (gIn H s.heap.size A).P q → P0 s q := fun q hq => hq.elim (fun z => z.1) (fun z => Nat.le_trans hS.1 z)
  refine hm_callXi (hm_runSW (n := 4) (As := [.ref x, .int (xs 2), .int (xs 3), .ref B]) (rest := []) ⟨hx, hb, hml, hown, hts⟩ (c_l_read l D t (gIn H s.heap.size A) ak av h1 hfl x n B (xs 2) (xs 3) hFX) mw_778 mw_779 mw_780 mw_755 rfl rfl (by decide +kernel) ⟨Nat.le_of_ble_eq_true rfl, Nat.le_of_ble_eq_true rfl⟩ (hP_S kF_ok (kF_g hE0 hT0 hS rfl px25) hX9) rfl rfl hl.1 rfl (lv_room (Nat.le_of_ble_eq_true rfl)) d_La_law_878 ⟨Nat.le_of_ble_eq_true rfl, Nat.le_of_ble_eq_true rfl⟩) hS.2.2 px25 (fun r26 h27 H28 locs hp30 hH31 z29 hLo => ?_)
  have hS : va_S (P0 s) s.heap H28 locs := vaS_step hS rfl px25 hH31 hLo
  have hM9 : hm D vwCl (gIn H28 A B) h3 H28 := re9 hM9 hH31 (by omega) (by omega)
  have hO9 : hm D vwCl (gIn H28 B (B + 1)) ho H28 := re9 hO9 hH31 (by omega) (by omega)
  have hBH : B < H28.size := Nat.lt_of_lt_of_le hBH z29
  obtain ⟨rfl, -⟩ := hp30
  refine lv_istore (lv' := [(5, .int 1), (4, .int 1), (3, .ref B), (2, .ref mo), (1, .ref x), (0, .ref b)]) hx hb d_La_law_881 hl (by decide) rfl (fun ls hl => ?_)
  refine lv_aload_n hx hb d_La_law_883 rfl (lv_at hl 3 rfl) ?_
  refine lv_aload_n hx hb d_La_law_884 rfl (lv_at hl 5 rfl) ?_
  refine lv_iload hx hb d_La_law_885 (lv_at hl 1 rfl) ?_
  refine lv_iconst (v := 1) hx hb d_La_law_887 (by decide) ?_
  refine lv_iadd hx hb d_La_law_888 ?_
  refine va_sld hx hb hXs hbl hbA hS (show ¬ ((1 + 1 : Int32) < 0 ∨ 7 ≤ (1 + 1 : Int32).toNatClampNeg) by decide) d_La_law_889 ?_
  refine lv_topi (fun v32 e33 => ?_)
  obtain rfl : v32 = xs 2 := e33.trans (rfl)
  refine lv_aload_n hx hb d_La_law_890 rfl (lv_at hl 5 rfl) ?_
  refine lv_iload hx hb d_La_law_891 (lv_at hl 1 rfl) ?_
  refine lv_iconst (v := 2) hx hb d_La_law_893 (by decide) ?_
  refine lv_iadd hx hb d_La_law_894 ?_
  refine va_sld hx hb hXs hbl hbA hS (show ¬ ((1 + 2 : Int32) < 0 ∨ 7 ≤ (1 + 2 : Int32).toNatClampNeg) by decide) d_La_law_895 ?_
  refine lv_topi (fun v34 e35 => ?_)
  obtain rfl : v34 = xs 3 := e35.trans (rfl)
  have px36 : ∀ q, (gIn H28 A B).P q → P0 s q := fun q hq => hq.elim (fun z => Nat.le_trans hSA z.1) (fun z => Nat.le_trans hS.1 z)
  obtain ⟨fo43, hf44⟩ := FrM_ob hFM
  refine hm_callXi (va_runV (As := [.int (xs 2), .int (xs 3)]) (b := mo) (rest := []) ⟨hx, hb, hml, hown, hts⟩ (c_m_read l D t (gIn H28 A B) ak av h3 mo n (xs 2) (xs 3) hFM) ⟨cw9B 2 hts mw_781 mw_782 mw_428 rfl rfl (by decide +kernel) ⟨Nat.le_of_ble_eq_true rfl, Nat.le_of_ble_eq_true rfl⟩, hts _ mw_783, hts _ mw_784⟩ (hP_V (q := (R_Mo, F_Mo, 41)) kE_ok (kE_g hE0 hS rfl px36) hE0.1 hM9 hf44 rfl) rfl rfl hl.1 rfl (lv_room (Nat.le_of_ble_eq_true rfl)) d_La_law_896 ⟨Nat.le_of_ble_eq_true rfl, Nat.le_of_ble_eq_true rfl⟩) hS.2.2 px36 (fun r37 h38 H39 locs hp41 hH42 z40 hLo => ?_)
  have hS : va_S (P0 s) s.heap H39 locs := vaS_step hS rfl px36 hH42 hLo
  have hO9 : hm D vwCl (gIn H39 B (B + 1)) ho H39 := re9 hO9 hH42 (by omega) (by omega)
  have hBH : B < H39.size := Nat.lt_of_lt_of_le hBH z40
  obtain ⟨rfl, hT9⟩ := hp41
  obtain ⟨hm2, hT9, hob2, hM9⟩ := th9 hH42 hT9 hmo.1 hmo.2
  refine lv_istore (lv' := [(6, .int 0), (5, .int 1), (4, .int 1), (3, .ref B), (2, .ref mo), (1, .ref x), (0, .ref b)]) hx hb d_La_law_899 hl (by decide) rfl (fun ls hl => ?_)
  refine lv_aload_n hx hb d_La_law_901 rfl (lv_at hl 4 rfl) ?_
  have px45 : ∀ q, (gIn H39 A B).P q → P0 s q := fun q hq => hq.elim (fun z => Nat.le_trans hSA z.1) (fun z => Nat.le_trans hS.1 z)
  obtain ⟨fo52, hf53⟩ := hob2
  refine hm_callXi (va_runV (As := []) (b := mo) (rest := []) ⟨hx, hb, hml, hown, hts⟩ (c_m_thrown l D t (gIn H39 A B) ak av hm2 mo n 1 hT9) ⟨cw9B 0 hts mw_760 mw_761 mw_428 rfl rfl (by decide +kernel) ⟨Nat.le_of_ble_eq_true rfl, Nat.le_of_ble_eq_true rfl⟩, hts _ mw_762, hts _ mw_763⟩ (hP_V (q := (R_Mo, F_Mo, 41)) kE_ok (kE_g hE0 hS rfl px45) hE0.1 hM9 hf53 rfl) rfl rfl hl.1 rfl (lv_room (Nat.le_of_ble_eq_true rfl)) d_La_law_902 ⟨Nat.le_of_ble_eq_true rfl, Nat.le_of_ble_eq_true rfl⟩) hS.2.2 px45 (fun r46 h47 H48 locs hp50 hH51 z49 hLo => ?_)
  have hS : va_S (P0 s) s.heap H48 locs := vaS_step hS rfl px45 hH51 hLo
  have hO9 : hm D vwCl (gIn H48 B (B + 1)) ho H48 := re9 hO9 hH51 (by omega) (by omega)
  have hBH : B < H48.size := Nat.lt_of_lt_of_le hBH z49
  obtain ⟨rfl, -⟩ := hp50
  refine lv_iload hx hb d_La_law_905 (lv_at hl 1 rfl) ?_
  refine lv_icmp_eq (tgt := 912) hx hb d_La_law_907 (by decide) (fun hc54 => ?_) (fun hc54 => absurd rfl hc54)
  refine lv_iload hx hb d_La_law_912 (lv_at hl 1 rfl) ?_
  refine lv_if_ne (tgt := 929) hx hb d_La_law_914 (by decide) (fun hc55 => ?_) (fun hc55 => absurd hc55 (by decide))
  refine lv_goto (tgt := 1000) hx hb d_La_law_929 (by decide) ?_
  exact law_end l hfl hx hb hr hml hown hts hlocks hXs hbl hS (Nat.le_of_ble_eq_true rfl) (Nat.le_of_ble_eq_true rfl) (lv_sub hl [2, 6] rfl)

set_option maxHeartbeats 4000000 in
set_option maxRecDepth 100000 in
theorem law_c19 {p : Program} {e : Env} {s : State} {m : MethodId} {below : List Frame} {meth : Method} {c : Code} (l : Launch) (hfl : l.flags = flags0) {b : Nat} {xs : Nat → Int32} (hx : p.tables.exec = Jvm.exec) (hb : c.code = b_La_law) (hr : meth.sig.returnType = ret) (hml : c.maxLocals = 8) (hown : s.vm.findClass R_La = some m.cls) (hts : ∀ w ∈ lw_g, w.before #[Value.ref b] s = true) (hlocks : meth.locks = false) {D : va_G} {t : Nat → ClassId} {ak av : Nat → Nat} {x mo n A B : Nat} {h1 h3 ho : hM} {go : Nat → Int64} {H : Heap} {locs : List Loc} {ls : Array Slot} (hE0 : kE D t (gNew s.heap) ak av s) (hT0 : kT (gNew s.heap) s) (hXs : va_X b 7 xs s s.heap) (hbl : b < s.heap.size) (hS : va_S (P0 s) s.heap H locs) (hX9 : hm D vwCl (gIn H s.heap.size A) h1 H) (hM9 : hm D vwCl (gIn H A B) h3 H) (hO9 : hm D vwCl (gIn H B (B + 1)) ho H) (hFX : FrX t h1 x n) (hFM : FrM t h3 mo n) (hou : ho B = some (.inl ((t 3), 1, .inr (.inl go)))) (hmo : A ≤ mo ∧ mo < B) (hSA : s.heap.size ≤ A) (hAB : A ≤ B) (hBH : B < H.size) (hl : lv_has ls 8 [(4, .int 1), (3, .ref B), (2, .ref mo), (1, .ref x), (0, .ref b)]) : W p l e room_1 s m #[Value.ref b] below meth c H locs 340 998345 (lw_Z below #[Value.ref b] s) (F0 m 932 ls []) := by
  have hbA : ¬ P0 s b := Nat.not_le.mpr hbl
  rcases tr_01 (xs 2) (xs 3) with hT | hT
  · skip
    refine lv_aload_n hx hb d_La_law_932 rfl (lv_at hl 3 rfl) ?_
    refine lv_aload_n hx hb d_La_law_933 rfl (lv_at hl 4 rfl) ?_
    refine lv_iload hx hb d_La_law_934 (lv_at hl 0 rfl) ?_
    refine lv_iconst (v := 1) hx hb d_La_law_936 (by decide) ?_
    refine lv_iadd hx hb d_La_law_937 ?_
    refine va_sld hx hb hXs hbl hbA hS (show ¬ ((1 + 1 : Int32) < 0 ∨ 7 ≤ (1 + 1 : Int32).toNatClampNeg) by decide) d_La_law_938 ?_
    refine lv_topi (fun v21 e22 => ?_)
    obtain rfl : v21 = xs 2 := e22.trans (rfl)
    refine lv_aload_n hx hb d_La_law_939 rfl (lv_at hl 4 rfl) ?_
    refine lv_iload hx hb d_La_law_940 (lv_at hl 0 rfl) ?_
    refine lv_iconst (v := 2) hx hb d_La_law_942 (by decide) ?_
    refine lv_iadd hx hb d_La_law_943 ?_
    refine va_sld hx hb hXs hbl hbA hS (show ¬ ((1 + 2 : Int32) < 0 ∨ 7 ≤ (1 + 2 : Int32).toNatClampNeg) by decide) d_La_law_944 ?_
    refine lv_topi (fun v23 e24 => ?_)
    obtain rfl : v23 = xs 3 := e24.trans (rfl)
    refine lv_aload_n hx hb d_La_law_945 rfl (lv_at hl 1 rfl) ?_
    have px25 : ∀ q, (gIn H s.heap.size A).P q → P0 s q := fun q hq => hq.elim (fun z => z.1) (fun z => Nat.le_trans hS.1 z)
    refine hm_callXi (hm_runSW (n := 4) (As := [.ref x, .int (xs 2), .int (xs 3), .ref B]) (rest := []) ⟨hx, hb, hml, hown, hts⟩ (c_l_treeT l D t (gIn H s.heap.size A) ak av h1 hfl x n B (xs 2) (xs 3) hFX hT) mw_785 mw_786 mw_787 mw_755 rfl rfl (by decide +kernel) ⟨Nat.le_of_ble_eq_true rfl, Nat.le_of_ble_eq_true rfl⟩ (hP_S kF_ok (kF_g hE0 hT0 hS rfl px25) hX9) rfl rfl hl.1 rfl (lv_room (Nat.le_of_ble_eq_true rfl)) d_La_law_946 ⟨Nat.le_of_ble_eq_true rfl, Nat.le_of_ble_eq_true rfl⟩) hS.2.2 px25 (fun r26 h27 H28 locs hp30 hH31 z29 hLo => ?_)
    have hS : va_S (P0 s) s.heap H28 locs := vaS_step hS rfl px25 hH31 hLo
    have hM9 : hm D vwCl (gIn H28 A B) h3 H28 := re9 hM9 hH31 (by omega) (by omega)
    have hO9 : hm D vwCl (gIn H28 B (B + 1)) ho H28 := re9 hO9 hH31 (by omega) (by omega)
    have hBH : B < H28.size := Nat.lt_of_lt_of_le hBH z29
    obtain ⟨rfl, -⟩ := hp30
    refine lv_istore (lv' := [(5, .int 1), (4, .int 1), (3, .ref B), (2, .ref mo), (1, .ref x), (0, .ref b)]) hx hb d_La_law_949 hl (by decide) rfl (fun ls hl => ?_)
    refine lv_aload_n hx hb d_La_law_951 rfl (lv_at hl 3 rfl) ?_
    refine lv_aload_n hx hb d_La_law_952 rfl (lv_at hl 5 rfl) ?_
    refine lv_iload hx hb d_La_law_953 (lv_at hl 1 rfl) ?_
    refine lv_iconst (v := 1) hx hb d_La_law_955 (by decide) ?_
    refine lv_iadd hx hb d_La_law_956 ?_
    refine va_sld hx hb hXs hbl hbA hS (show ¬ ((1 + 1 : Int32) < 0 ∨ 7 ≤ (1 + 1 : Int32).toNatClampNeg) by decide) d_La_law_957 ?_
    refine lv_topi (fun v32 e33 => ?_)
    obtain rfl : v32 = xs 2 := e33.trans (rfl)
    refine lv_aload_n hx hb d_La_law_958 rfl (lv_at hl 5 rfl) ?_
    refine lv_iload hx hb d_La_law_959 (lv_at hl 1 rfl) ?_
    refine lv_iconst (v := 2) hx hb d_La_law_961 (by decide) ?_
    refine lv_iadd hx hb d_La_law_962 ?_
    refine va_sld hx hb hXs hbl hbA hS (show ¬ ((1 + 2 : Int32) < 0 ∨ 7 ≤ (1 + 2 : Int32).toNatClampNeg) by decide) d_La_law_963 ?_
    refine lv_topi (fun v34 e35 => ?_)
    obtain rfl : v34 = xs 3 := e35.trans (rfl)
    have px36 : ∀ q, (gIn H28 A B).P q → P0 s q := fun q hq => hq.elim (fun z => Nat.le_trans hSA z.1) (fun z => Nat.le_trans hS.1 z)
    obtain ⟨fo43, hf44⟩ := FrM_ob hFM
    refine hm_callXi (va_runV (As := [.int (xs 2), .int (xs 3)]) (b := mo) (rest := []) ⟨hx, hb, hml, hown, hts⟩ (c_m_tree l D t (gIn H28 A B) ak av h3 mo n (xs 2) (xs 3) hFM) ⟨cw9B 2 hts mw_788 mw_789 mw_428 rfl rfl (by decide +kernel) ⟨Nat.le_of_ble_eq_true rfl, Nat.le_of_ble_eq_true rfl⟩, hts _ mw_790, hts _ mw_791⟩ (hP_V (q := (R_Mo, F_Mo, 41)) kE_ok (kE_g hE0 hS rfl px36) hE0.1 hM9 hf44 rfl) rfl rfl hl.1 rfl (lv_room (Nat.le_of_ble_eq_true rfl)) d_La_law_964 ⟨Nat.le_of_ble_eq_true rfl, Nat.le_of_ble_eq_true rfl⟩) hS.2.2 px36 (fun r37 h38 H39 locs hp41 hH42 z40 hLo => ?_)
    have hS : va_S (P0 s) s.heap H39 locs := vaS_step hS rfl px36 hH42 hLo
    have hO9 : hm D vwCl (gIn H39 B (B + 1)) ho H39 := re9 hO9 hH42 (by omega) (by omega)
    have hBH : B < H39.size := Nat.lt_of_lt_of_le hBH z40
    obtain ⟨hr1, -, hT9⟩ := hp41
    have hr2 := hr1 hT
    subst hr2
    rw [hT] at hT9
    obtain ⟨hm2, hT9, hob2, hM9⟩ := th9 hH42 hT9 hmo.1 hmo.2
    refine lv_istore (lv' := [(6, .int 0), (5, .int 1), (4, .int 1), (3, .ref B), (2, .ref mo), (1, .ref x), (0, .ref b)]) hx hb d_La_law_967 hl (by decide) rfl (fun ls hl => ?_)
    refine lv_aload_n hx hb d_La_law_969 rfl (lv_at hl 4 rfl) ?_
    have px45 : ∀ q, (gIn H39 A B).P q → P0 s q := fun q hq => hq.elim (fun z => Nat.le_trans hSA z.1) (fun z => Nat.le_trans hS.1 z)
    obtain ⟨fo52, hf53⟩ := hob2
    refine hm_callXi (va_runV (As := []) (b := mo) (rest := []) ⟨hx, hb, hml, hown, hts⟩ (c_m_thrown l D t (gIn H39 A B) ak av hm2 mo n 1 hT9) ⟨cw9B 0 hts mw_760 mw_761 mw_428 rfl rfl (by decide +kernel) ⟨Nat.le_of_ble_eq_true rfl, Nat.le_of_ble_eq_true rfl⟩, hts _ mw_762, hts _ mw_763⟩ (hP_V (q := (R_Mo, F_Mo, 41)) kE_ok (kE_g hE0 hS rfl px45) hE0.1 hM9 hf53 rfl) rfl rfl hl.1 rfl (lv_room (Nat.le_of_ble_eq_true rfl)) d_La_law_970 ⟨Nat.le_of_ble_eq_true rfl, Nat.le_of_ble_eq_true rfl⟩) hS.2.2 px45 (fun r46 h47 H48 locs hp50 hH51 z49 hLo => ?_)
    have hS : va_S (P0 s) s.heap H48 locs := vaS_step hS rfl px45 hH51 hLo
    have hO9 : hm D vwCl (gIn H48 B (B + 1)) ho H48 := re9 hO9 hH51 (by omega) (by omega)
    have hBH : B < H48.size := Nat.lt_of_lt_of_le hBH z49
    obtain ⟨rfl, -⟩ := hp50
    refine lv_iload hx hb d_La_law_973 (lv_at hl 1 rfl) ?_
    refine lv_icmp_eq (tgt := 980) hx hb d_La_law_975 (by decide) (fun hc54 => ?_) (fun hc54 => absurd rfl hc54)
    refine lv_iload hx hb d_La_law_980 (lv_at hl 1 rfl) ?_
    refine lv_if_ne (tgt := 997) hx hb d_La_law_982 (by decide) (fun hc55 => ?_) (fun hc55 => absurd hc55 (by decide))
    refine lv_goto (tgt := 1000) hx hb d_La_law_997 (by decide) ?_
    exact law_end l hfl hx hb hr hml hown hts hlocks hXs hbl hS (Nat.le_of_ble_eq_true rfl) (Nat.le_of_ble_eq_true rfl) (lv_sub hl [2, 6] rfl)
  · skip
    obtain ⟨hU, hUd⟩ : ∃ z : hM, z = hu h1 B (.inl ((t 3), 1, .inr (.inl go))) := ⟨_, rfl⟩
    obtain ⟨hU9, hkU⟩ := un9 hX9 hO9 hou hAB
    rw [← hUd] at hU9 hkU
    have hFU := FrX_mono hFX hkU
    have hUs : hU B = some (.inl ((t 3), 1, .inr (.inl go))) := by rw [hUd]; exact hu_s _ _ _
    refine lv_aload_n hx hb d_La_law_932 rfl (lv_at hl 3 rfl) ?_
    refine lv_aload_n hx hb d_La_law_933 rfl (lv_at hl 4 rfl) ?_
    refine lv_iload hx hb d_La_law_934 (lv_at hl 0 rfl) ?_
    refine lv_iconst (v := 1) hx hb d_La_law_936 (by decide) ?_
    refine lv_iadd hx hb d_La_law_937 ?_
    refine va_sld hx hb hXs hbl hbA hS (show ¬ ((1 + 1 : Int32) < 0 ∨ 7 ≤ (1 + 1 : Int32).toNatClampNeg) by decide) d_La_law_938 ?_
    refine lv_topi (fun v56 e57 => ?_)
    obtain rfl : v56 = xs 2 := e57.trans (rfl)
    refine lv_aload_n hx hb d_La_law_939 rfl (lv_at hl 4 rfl) ?_
    refine lv_iload hx hb d_La_law_940 (lv_at hl 0 rfl) ?_
    refine lv_iconst (v := 2) hx hb d_La_law_942 (by decide) ?_
    refine lv_iadd hx hb d_La_law_943 ?_
    refine va_sld hx hb hXs hbl hbA hS (show ¬ ((1 + 2 : Int32) < 0 ∨ 7 ≤ (1 + 2 : Int32).toNatClampNeg) by decide) d_La_law_944 ?_
    refine lv_topi (fun v58 e59 => ?_)
    obtain rfl : v58 = xs 3 := e59.trans (rfl)
    refine lv_aload_n hx hb d_La_law_945 rfl (lv_at hl 1 rfl) ?_
    have px60 : ∀ q, (gIn2 H s.heap.size A B).P q → P0 s q := fun q hq => hq.elim (fun z => z.1) (fun z => z.elim (fun y => by rw [y]; exact Nat.le_trans hSA hAB) (fun y => Nat.le_trans hS.1 y))
    refine hm_callXi (hm_runSW (n := 4) (As := [.ref x, .int (xs 2), .int (xs 3), .ref B]) (rest := []) ⟨hx, hb, hml, hown, hts⟩ (c_l_treeR l D t (gIn2 H s.heap.size A B) ak av hU hfl x n B go (xs 2) (xs 3) hFU hUs hT) mw_785 mw_786 mw_787 mw_755 rfl rfl (by decide +kernel) ⟨Nat.le_of_ble_eq_true rfl, Nat.le_of_ble_eq_true rfl⟩ (hP_S kF_ok (kF_g hE0 hT0 hS rfl px60) hU9) rfl rfl hl.1 rfl (lv_room (Nat.le_of_ble_eq_true rfl)) d_La_law_946 ⟨Nat.le_of_ble_eq_true rfl, Nat.le_of_ble_eq_true rfl⟩) hS.2.2 px60 (fun r61 h62 H63 locs hp65 hH66 z64 hLo => ?_)
    have hS : va_S (P0 s) s.heap H63 locs := vaS_step hS rfl px60 hH66 hLo
    have hM9 : hm D vwCl (gIn H63 A B) h3 H63 := re92 hM9 hH66 (by omega) (by omega)
    have hBH : B < H63.size := Nat.lt_of_lt_of_le hBH z64
    obtain ⟨rfl, g2, hg2, hg0⟩ := hp65
    have hO9 := one9_at (lo := B) (hi := B + 1) hH66 hg2 (Nat.le_refl _) (Nat.lt_succ_self _)
    have hou := one9_s B (.inl ((t 3), 1, .inr (.inl g2)))
    generalize one9 B (.inl ((t 3), 1, .inr (.inl g2))) = ho at hO9 hou
    refine lv_istore (lv' := [(5, .int 0), (4, .int 1), (3, .ref B), (2, .ref mo), (1, .ref x), (0, .ref b)]) hx hb d_La_law_949 hl (by decide) rfl (fun ls hl => ?_)
    refine lv_aload_n hx hb d_La_law_951 rfl (lv_at hl 3 rfl) ?_
    refine lv_aload_n hx hb d_La_law_952 rfl (lv_at hl 5 rfl) ?_
    refine lv_iload hx hb d_La_law_953 (lv_at hl 1 rfl) ?_
    refine lv_iconst (v := 1) hx hb d_La_law_955 (by decide) ?_
    refine lv_iadd hx hb d_La_law_956 ?_
    refine va_sld hx hb hXs hbl hbA hS (show ¬ ((1 + 1 : Int32) < 0 ∨ 7 ≤ (1 + 1 : Int32).toNatClampNeg) by decide) d_La_law_957 ?_
    refine lv_topi (fun v67 e68 => ?_)
    obtain rfl : v67 = xs 2 := e68.trans (rfl)
    refine lv_aload_n hx hb d_La_law_958 rfl (lv_at hl 5 rfl) ?_
    refine lv_iload hx hb d_La_law_959 (lv_at hl 1 rfl) ?_
    refine lv_iconst (v := 2) hx hb d_La_law_961 (by decide) ?_
    refine lv_iadd hx hb d_La_law_962 ?_
    refine va_sld hx hb hXs hbl hbA hS (show ¬ ((1 + 2 : Int32) < 0 ∨ 7 ≤ (1 + 2 : Int32).toNatClampNeg) by decide) d_La_law_963 ?_
    refine lv_topi (fun v69 e70 => ?_)
    obtain rfl : v69 = xs 3 := e70.trans (rfl)
    have px71 : ∀ q, (gIn H63 A B).P q → P0 s q := fun q hq => hq.elim (fun z => Nat.le_trans hSA z.1) (fun z => Nat.le_trans hS.1 z)
    obtain ⟨fo78, hf79⟩ := FrM_ob hFM
    refine hm_callXi (va_runV (As := [.int (xs 2), .int (xs 3)]) (b := mo) (rest := []) ⟨hx, hb, hml, hown, hts⟩ (c_m_tree l D t (gIn H63 A B) ak av h3 mo n (xs 2) (xs 3) hFM) ⟨cw9B 2 hts mw_788 mw_789 mw_428 rfl rfl (by decide +kernel) ⟨Nat.le_of_ble_eq_true rfl, Nat.le_of_ble_eq_true rfl⟩, hts _ mw_790, hts _ mw_791⟩ (hP_V (q := (R_Mo, F_Mo, 41)) kE_ok (kE_g hE0 hS rfl px71) hE0.1 hM9 hf79 rfl) rfl rfl hl.1 rfl (lv_room (Nat.le_of_ble_eq_true rfl)) d_La_law_964 ⟨Nat.le_of_ble_eq_true rfl, Nat.le_of_ble_eq_true rfl⟩) hS.2.2 px71 (fun r72 h73 H74 locs hp76 hH77 z75 hLo => ?_)
    have hS : va_S (P0 s) s.heap H74 locs := vaS_step hS rfl px71 hH77 hLo
    have hO9 : hm D vwCl (gIn H74 B (B + 1)) ho H74 := re9 hO9 hH77 (by omega) (by omega)
    have hBH : B < H74.size := Nat.lt_of_lt_of_le hBH z75
    obtain ⟨-, hr1, hT9⟩ := hp76
    have hr2 := hr1 hT
    subst hr2
    rw [hT] at hT9
    obtain ⟨hm2, hT9, hob2, hM9⟩ := th9 hH77 hT9 hmo.1 hmo.2
    refine lv_istore (lv' := [(6, .int (treeC (xs 2) (xs 3))), (5, .int 0), (4, .int 1), (3, .ref B), (2, .ref mo), (1, .ref x), (0, .ref b)]) hx hb d_La_law_967 hl (by decide) rfl (fun ls hl => ?_)
    refine lv_aload_n hx hb d_La_law_969 rfl (lv_at hl 4 rfl) ?_
    have px80 : ∀ q, (gIn H74 A B).P q → P0 s q := fun q hq => hq.elim (fun z => Nat.le_trans hSA z.1) (fun z => Nat.le_trans hS.1 z)
    obtain ⟨fo87, hf88⟩ := hob2
    refine hm_callXi (va_runV (As := []) (b := mo) (rest := []) ⟨hx, hb, hml, hown, hts⟩ (c_m_thrown l D t (gIn H74 A B) ak av hm2 mo n 0 hT9) ⟨cw9B 0 hts mw_760 mw_761 mw_428 rfl rfl (by decide +kernel) ⟨Nat.le_of_ble_eq_true rfl, Nat.le_of_ble_eq_true rfl⟩, hts _ mw_762, hts _ mw_763⟩ (hP_V (q := (R_Mo, F_Mo, 41)) kE_ok (kE_g hE0 hS rfl px80) hE0.1 hM9 hf88 rfl) rfl rfl hl.1 rfl (lv_room (Nat.le_of_ble_eq_true rfl)) d_La_law_970 ⟨Nat.le_of_ble_eq_true rfl, Nat.le_of_ble_eq_true rfl⟩) hS.2.2 px80 (fun r81 h82 H83 locs hp85 hH86 z84 hLo => ?_)
    have hS : va_S (P0 s) s.heap H83 locs := vaS_step hS rfl px80 hH86 hLo
    have hO9 : hm D vwCl (gIn H83 B (B + 1)) ho H83 := re9 hO9 hH86 (by omega) (by omega)
    have hBH : B < H83.size := Nat.lt_of_lt_of_le hBH z84
    obtain ⟨rfl, -⟩ := hp85
    refine lv_iload hx hb d_La_law_973 (lv_at hl 1 rfl) ?_
    refine lv_icmp_eq (tgt := 980) hx hb d_La_law_975 (by decide) (fun hc89 => ?_) (fun hc89 => absurd rfl hc89)
    refine lv_iload hx hb d_La_law_980 (lv_at hl 1 rfl) ?_
    refine lv_if_ne (tgt := 997) hx hb d_La_law_982 (by decide) (fun hc90 => absurd rfl hc90) (fun hc90 => ?_)
    refine lv_aload_n hx hb d_La_law_985 rfl (lv_at hl 3 rfl) ?_
    refine lv_iconst (v := 0) hx hb d_La_law_986 (by decide) ?_
    refine hj_lald hx hb hE0.1 hO9 3 hou rfl 0 (by decide) (by decide) (by decide) d_La_law_987 ?_
    refine lv_iload hx hb d_La_law_988 (lv_at hl 0 rfl) ?_
    refine lv_i2l (v := (treeC (xs 2) (xs 3)).toInt64) hx hb d_La_law_990 rfl ?_
    refine W.lcmp hx hb d_La_law_991 ?_
    refine lv_if_eq (tgt := 997) hx hb d_La_law_992 (by decide) (fun hc91 => ?_) (fun hc91 => absurd ((lg_cmp_eq _ _).mpr hg0) hc91)
    refine lv_goto (tgt := 1000) hx hb d_La_law_997 (by decide) ?_
    exact law_end l hfl hx hb hr hml hown hts hlocks hXs hbl hS (Nat.le_of_ble_eq_true rfl) (Nat.le_of_ble_eq_true rfl) (lv_sub hl [2, 6] rfl)
