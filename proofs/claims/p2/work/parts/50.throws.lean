set_option maxRecDepth 100000 in
theorem mw_841 : Cond.initialized "java/lang/Throwable" ∈ lw_g := lw_gin (List.mem_append_right _ (List.mem_of_getElem? (i := 18) rfl)) (by decide +kernel)
set_option maxRecDepth 100000 in
theorem mw_842 : Cond.superclass "java/lang/Throwable" "java/lang/Object" ∈ lw_g := lw_gin (List.mem_append_right _ (List.mem_of_getElem? (i := 829) rfl)) (by decide +kernel)
set_option maxRecDepth 100000 in
theorem mw_843 : Cond.instanceMethod ⟨"java/lang/Throwable", "fillInStackTrace", "()Ljava/lang/Throwable;"⟩ ∈ lw_g := lw_gin (List.mem_append_right _ (List.mem_of_getElem? (i := 838) rfl)) (by decide +kernel)
set_option maxRecDepth 100000 in
theorem mw_844 : Cond.codeSync ⟨"java/lang/Throwable", "fillInStackTrace", "()Ljava/lang/Throwable;"⟩ LibCode.Throwable.Fill.code 1 (some (.object "java/lang/Throwable")) ∈ lw_g := lw_gin (List.mem_append_right _ (List.mem_of_getElem? (i := 840) rfl)) (by decide +kernel)
set_option maxRecDepth 100000 in
theorem mw_845 : Cond.instanceMethod ⟨"java/lang/Throwable", "fillInStackTrace", "(I)Ljava/lang/Throwable;"⟩ ∈ lw_g := lw_gin (List.mem_append_right _ (List.mem_of_getElem? (i := 843) rfl)) (by decide +kernel)
set_option maxRecDepth 100000 in
theorem mw_846 : Cond.native ⟨"java/lang/Throwable", "fillInStackTrace", "(I)Ljava/lang/Throwable;"⟩ ∈ lw_g := lw_gin (List.mem_append_right _ (List.mem_of_getElem? (i := 845) rfl)) (by decide +kernel)
set_option maxRecDepth 100000 in
theorem mw_847 : Cond.instanceMethod ⟨"java/lang/Throwable", "<init>", "()V"⟩ ∈ lw_g := lw_gin (List.mem_append_right _ (List.mem_of_getElem? (i := 830) rfl)) (by decide +kernel)
set_option maxRecDepth 100000 in
theorem mw_848 : Cond.code ⟨"java/lang/Throwable", "<init>", "()V"⟩ LibCode.Throwable.Init0.code 1 none ∈ lw_g := lw_gin (List.mem_append_right _ (List.mem_of_getElem? (i := 831) rfl)) (by decide +kernel)
set_option maxRecDepth 100000 in
theorem mw_849 : Cond.instanceMethod ⟨"java/lang/Object", "<init>", "()V"⟩ ∈ lw_g := lw_gin (List.mem_append_right _ (List.mem_of_getElem? (i := 28) rfl)) (by decide +kernel)
set_option maxRecDepth 100000 in
theorem mw_850 : Cond.code ⟨"java/lang/Object", "<init>", "()V"⟩ ⟨#[0xb1]⟩ 1 none ∈ lw_g := lw_gin (List.mem_append_right _ (List.mem_of_getElem? (i := 29) rfl)) (by decide +kernel)
set_option maxRecDepth 100000 in
theorem mw_851 : Cond.methodLink "java/lang/Throwable" 1 ⟨"java/lang/Object", "<init>", "()V"⟩ ∈ lw_g := lw_gin (List.mem_append_right _ (List.mem_of_getElem? (i := 832) rfl)) (by decide +kernel)
set_option maxRecDepth 100000 in
theorem mw_852 : Cond.methodLink "java/lang/Throwable" 27 ⟨"java/lang/Throwable", "fillInStackTrace", "()Ljava/lang/Throwable;"⟩ ∈ lw_g := lw_gin (List.mem_append_right _ (List.mem_of_getElem? (i := 837) rfl)) (by decide +kernel)
set_option maxRecDepth 100000 in
theorem mw_853 : Cond.methodLink "java/lang/Throwable" 202 ⟨"java/lang/Throwable", "fillInStackTrace", "(I)Ljava/lang/Throwable;"⟩ ∈ lw_g := lw_gin (List.mem_append_right _ (List.mem_of_getElem? (i := 841) rfl)) (by decide +kernel)
set_option maxRecDepth 100000 in
theorem mw_854 : Cond.fieldLink "java/lang/Throwable" 7 "java/lang/Throwable" "cause" "Ljava/lang/Throwable;" ∈ lw_g := lw_gin (List.mem_append_right _ (List.mem_of_getElem? (i := 857) rfl)) (by decide +kernel)
set_option maxRecDepth 100000 in
theorem mw_855 : Cond.lays "java/lang/Throwable" "java/lang/Throwable" "cause" "Ljava/lang/Throwable;" ∈ lw_g := lw_gin (List.mem_append_right _ (List.mem_of_getElem? (i := 819) rfl)) (by decide +kernel)
set_option maxRecDepth 100000 in
theorem mw_856 : Cond.fieldLink "java/lang/Throwable" 17 "java/lang/Throwable" "stackTrace" "[Ljava/lang/StackTraceElement;" ∈ lw_g := lw_gin (List.mem_append_right _ (List.mem_of_getElem? (i := 858) rfl)) (by decide +kernel)
set_option maxRecDepth 100000 in
theorem mw_857 : Cond.lays "java/lang/Throwable" "java/lang/Throwable" "stackTrace" "[Ljava/lang/StackTraceElement;" ∈ lw_g := lw_gin (List.mem_append_right _ (List.mem_of_getElem? (i := 821) rfl)) (by decide +kernel)
set_option maxRecDepth 100000 in
theorem mw_858 : Cond.fieldLink "java/lang/Throwable" 24 "java/lang/Throwable" "suppressedExceptions" "Ljava/util/List;" ∈ lw_g := lw_gin (List.mem_append_right _ (List.mem_of_getElem? (i := 859) rfl)) (by decide +kernel)
set_option maxRecDepth 100000 in
theorem mw_859 : Cond.lays "java/lang/Throwable" "java/lang/Throwable" "suppressedExceptions" "Ljava/util/List;" ∈ lw_g := lw_gin (List.mem_append_right _ (List.mem_of_getElem? (i := 823) rfl)) (by decide +kernel)
set_option maxRecDepth 100000 in
theorem mw_860 : Cond.fieldLink "java/lang/Throwable" 13 "java/lang/Throwable" "UNASSIGNED_STACK" "[Ljava/lang/StackTraceElement;" ∈ lw_g := lw_gin (List.mem_append_right _ (List.mem_of_getElem? (i := 833) rfl)) (by decide +kernel)
set_option maxRecDepth 100000 in
theorem mw_861 : Cond.fieldLink "java/lang/Throwable" 20 "java/lang/Throwable" "SUPPRESSED_SENTINEL" "Ljava/util/List;" ∈ lw_g := lw_gin (List.mem_append_right _ (List.mem_of_getElem? (i := 835) rfl)) (by decide +kernel)
set_option maxRecDepth 100000 in
theorem mw_862 : Cond.lays "java/lang/Throwable" "java/lang/Throwable" "detailMessage" "Ljava/lang/String;" ∈ lw_g := lw_gin (List.mem_append_right _ (List.mem_of_getElem? (i := 825) rfl)) (by decide +kernel)
set_option maxRecDepth 100000 in
theorem mw_863 : Cond.instanceMethod ⟨"java/util/NoSuchElementException", "<init>", "()V"⟩ ∈ lw_g := lw_gin (List.mem_append_right _ (List.mem_of_getElem? (i := 847) rfl)) (by decide +kernel)
set_option maxRecDepth 100000 in
theorem mw_864 : Cond.code ⟨"java/util/NoSuchElementException", "<init>", "()V"⟩ Bundle.five 1 none ∈ lw_g := lw_gin (List.mem_append_right _ (List.mem_of_getElem? (i := 848) rfl)) (by decide +kernel)
set_option maxRecDepth 100000 in
theorem mw_865 : Cond.methodLink "java/util/NoSuchElementException" 1 ⟨"java/lang/RuntimeException", "<init>", "()V"⟩ ∈ lw_g := lw_gin (List.mem_append_right _ (List.mem_of_getElem? (i := 849) rfl)) (by decide +kernel)
set_option maxRecDepth 100000 in
theorem mw_866 : Cond.instanceMethod ⟨"java/lang/RuntimeException", "<init>", "()V"⟩ ∈ lw_g := lw_gin (List.mem_append_right _ (List.mem_of_getElem? (i := 850) rfl)) (by decide +kernel)
set_option maxRecDepth 100000 in
theorem mw_867 : Cond.code ⟨"java/lang/RuntimeException", "<init>", "()V"⟩ Bundle.five 1 none ∈ lw_g := lw_gin (List.mem_append_right _ (List.mem_of_getElem? (i := 851) rfl)) (by decide +kernel)
set_option maxRecDepth 100000 in
theorem mw_868 : Cond.methodLink "java/lang/RuntimeException" 1 ⟨"java/lang/Exception", "<init>", "()V"⟩ ∈ lw_g := lw_gin (List.mem_append_right _ (List.mem_of_getElem? (i := 852) rfl)) (by decide +kernel)
set_option maxRecDepth 100000 in
theorem mw_869 : Cond.instanceMethod ⟨"java/lang/Exception", "<init>", "()V"⟩ ∈ lw_g := lw_gin (List.mem_append_right _ (List.mem_of_getElem? (i := 853) rfl)) (by decide +kernel)
set_option maxRecDepth 100000 in
theorem mw_870 : Cond.code ⟨"java/lang/Exception", "<init>", "()V"⟩ Bundle.five 1 none ∈ lw_g := lw_gin (List.mem_append_right _ (List.mem_of_getElem? (i := 854) rfl)) (by decide +kernel)
set_option maxRecDepth 100000 in
theorem mw_871 : Cond.methodLink "java/lang/Exception" 1 ⟨"java/lang/Throwable", "<init>", "()V"⟩ ∈ lw_g := lw_gin (List.mem_append_right _ (List.mem_of_getElem? (i := 855) rfl)) (by decide +kernel)
set_option maxRecDepth 100000 in
theorem mw_872 : Cond.methodLink "WriteOnceDisc" 203 ⟨"java/util/NoSuchElementException", "<init>", "()V"⟩ ∈ lw_g := lw_gin (List.mem_append_right _ (List.mem_of_getElem? (i := 846) rfl)) (by decide +kernel)
set_option maxRecDepth 100000 in
theorem mw_873 : Cond.instantiable "java/util/NoSuchElementException" 6 ∈ lw_g := lw_gin (List.mem_append_right _ (List.mem_of_getElem? (i := 808) rfl)) (by decide +kernel)
set_option maxRecDepth 100000 in
theorem mw_874 : Cond.selects "java/util/NoSuchElementException" ⟨"java/lang/Throwable", "fillInStackTrace", "(I)Ljava/lang/Throwable;"⟩ ⟨"java/lang/Throwable", "fillInStackTrace", "(I)Ljava/lang/Throwable;"⟩ ∈ lw_g := lw_gin (List.mem_append_right _ (List.mem_of_getElem? (i := 816) rfl)) (by decide +kernel)
set_option maxRecDepth 100000 in
theorem mw_875 : Cond.selects "java/util/NoSuchElementException" ⟨"java/lang/Throwable", "fillInStackTrace", "()Ljava/lang/Throwable;"⟩ ⟨"java/lang/Throwable", "fillInStackTrace", "()Ljava/lang/Throwable;"⟩ ∈ lw_g := lw_gin (List.mem_append_right _ (List.mem_of_getElem? (i := 817) rfl)) (by decide +kernel)
set_option maxRecDepth 100000 in
theorem mw_876 : Cond.lays "java/util/NoSuchElementException" "java/lang/Throwable" "cause" "Ljava/lang/Throwable;" ∈ lw_g := lw_gin (List.mem_append_right _ (List.mem_of_getElem? (i := 818) rfl)) (by decide +kernel)
set_option maxRecDepth 100000 in
theorem mw_877 : Cond.lays "java/util/NoSuchElementException" "java/lang/Throwable" "stackTrace" "[Ljava/lang/StackTraceElement;" ∈ lw_g := lw_gin (List.mem_append_right _ (List.mem_of_getElem? (i := 820) rfl)) (by decide +kernel)
set_option maxRecDepth 100000 in
theorem mw_878 : Cond.lays "java/util/NoSuchElementException" "java/lang/Throwable" "suppressedExceptions" "Ljava/util/List;" ∈ lw_g := lw_gin (List.mem_append_right _ (List.mem_of_getElem? (i := 822) rfl)) (by decide +kernel)
set_option maxRecDepth 100000 in
theorem mw_879 : Cond.lays "java/util/NoSuchElementException" "java/lang/Throwable" "detailMessage" "Ljava/lang/String;" ∈ lw_g := lw_gin (List.mem_append_right _ (List.mem_of_getElem? (i := 824) rfl)) (by decide +kernel)
set_option maxRecDepth 100000 in
theorem mw_880 : Cond.fieldLink "java/lang/Throwable" 198 "java/lang/Throwable" "backtrace" "Ljava/lang/Object;" ∈ lw_g := lw_gin (List.mem_append_right _ (List.mem_of_getElem? (i := 828) rfl)) (by decide +kernel)
set_option maxRecDepth 100000 in
theorem mw_881 : Cond.lays "java/lang/Throwable" "java/lang/Throwable" "backtrace" "Ljava/lang/Object;" ∈ lw_g := lw_gin (List.mem_append_right _ (List.mem_of_getElem? (i := 827) rfl)) (by decide +kernel)
set_option maxRecDepth 100000 in
theorem mw_882 : Cond.lays "java/util/NoSuchElementException" "java/lang/Throwable" "backtrace" "Ljava/lang/Object;" ∈ lw_g := lw_gin (List.mem_append_right _ (List.mem_of_getElem? (i := 826) rfl)) (by decide +kernel)
set_option maxRecDepth 100000 in
theorem mw_883 : Cond.classLink R_Di 201 "java/util/NoSuchElementException" ∈ lw_g := lw_gin (List.mem_append_right _ (List.mem_of_getElem? (i := 807) rfl)) (by decide +kernel)
set_option maxRecDepth 100000 in
theorem mw_884 : Cond.initialized "java/util/NoSuchElementException" ∈ lw_g := lw_gin (List.mem_append_right _ (List.mem_of_getElem? (i := 21) rfl)) (by decide +kernel)
set_option maxRecDepth 100000 in
theorem mw_885 : Cond.code y_Di_openedNode b_Di_openedNode 2 (some (.object "WriteOnceDisc$Node")) ∈ lw_g := lw_gin (List.mem_append_right _ (List.mem_of_getElem? (i := 878) rfl)) (by decide +kernel)
set_option maxRecDepth 100000 in
theorem mw_886 : Cond.methodLink R_Di 205 y_Di_openedNode ∈ lw_g := lw_gin (List.mem_append_right _ (List.mem_of_getElem? (i := 875) rfl)) (by decide +kernel)
set_option maxRecDepth 100000 in
theorem mw_887 : Cond.instanceMethod y_Di_openedNode ∈ lw_g := lw_gin (List.mem_append_right _ (List.mem_of_getElem? (i := 877) rfl)) (by decide +kernel)
set_option maxRecDepth 100000 in
theorem mw_888 : Cond.selects R_Di y_Di_openedNode y_Di_openedNode ∈ lw_g := lw_gin (List.mem_append_left _ (List.mem_of_getElem? (i := 26) rfl)) (by decide +kernel)
set_option maxRecDepth 100000 in
theorem mw_889 : Cond.methodLink R_Di 208 y_No_parentNumber ∈ lw_g := lw_gin (List.mem_append_right _ (List.mem_of_getElem? (i := 879) rfl)) (by decide +kernel)
set_option maxRecDepth 100000 in
theorem mw_890 : Cond.code y_No_sort b_No_sort 1 (some .int) ∈ lw_g := lw_gin (List.mem_append_right _ (List.mem_of_getElem? (i := 883) rfl)) (by decide +kernel)
set_option maxRecDepth 100000 in
theorem mw_891 : Cond.methodLink R_Di 211 y_No_sort ∈ lw_g := lw_gin (List.mem_append_right _ (List.mem_of_getElem? (i := 880) rfl)) (by decide +kernel)
set_option maxRecDepth 100000 in
theorem mw_892 : Cond.instanceMethod y_No_sort ∈ lw_g := lw_gin (List.mem_append_right _ (List.mem_of_getElem? (i := 881) rfl)) (by decide +kernel)
set_option maxRecDepth 100000 in
theorem mw_893 : Cond.selects R_No y_No_sort y_No_sort ∈ lw_g := lw_gin (List.mem_append_right _ (List.mem_of_getElem? (i := 882) rfl)) (by decide +kernel)
set_option maxRecDepth 100000 in
theorem mw_894 : Cond.fieldLink R_Di 214 "WriteOnceDisc$Node" "size" "I" ∈ lw_g := lw_gin (List.mem_append_right _ (List.mem_of_getElem? (i := 113) rfl)) (by decide +kernel)
set_option maxRecDepth 100000 in
theorem mw_895 : Cond.fieldLink R_Di 217 "WriteOnceDisc$Node" "sector" "I" ∈ lw_g := lw_gin (List.mem_append_right _ (List.mem_of_getElem? (i := 128) rfl)) (by decide +kernel)
set_option maxRecDepth 100000 in
theorem mw_896 : Cond.fieldLink R_Di 220 "WriteOnceDisc$Node" "word" "J" ∈ lw_g := lw_gin (List.mem_append_right _ (List.mem_of_getElem? (i := 106) rfl)) (by decide +kernel)
set_option maxRecDepth 100000 in
theorem mw_897 : Cond.fieldLink R_Di 224 "WriteOnceDisc$Node" "seed" "I" ∈ lw_g := lw_gin (List.mem_append_right _ (List.mem_of_getElem? (i := 115) rfl)) (by decide +kernel)
set_option maxRecDepth 100000 in
theorem mw_898 : Cond.fieldLink R_Di 227 "WriteOnceDisc$Node" "extent" "I" ∈ lw_g := lw_gin (List.mem_append_right _ (List.mem_of_getElem? (i := 122) rfl)) (by decide +kernel)
set_option maxRecDepth 100000 in
theorem mw_899 : Cond.code y_Di_mark b_Di_mark 4 (some .int) ∈ lw_g := lw_gin (List.mem_append_right _ (List.mem_of_getElem? (i := 806) rfl)) (by decide +kernel)
set_option maxRecDepth 100000 in
theorem mw_900 : Cond.methodLink R_La 7 y_Di_mark ∈ lw_g := lw_gin (List.mem_append_right _ (List.mem_of_getElem? (i := 803) rfl)) (by decide +kernel)
set_option maxRecDepth 100000 in
theorem mw_901 : Cond.instanceMethod y_Di_mark ∈ lw_g := lw_gin (List.mem_append_right _ (List.mem_of_getElem? (i := 804) rfl)) (by decide +kernel)
set_option maxRecDepth 100000 in
theorem mw_902 : Cond.selects R_Di y_Di_mark y_Di_mark ∈ lw_g := lw_gin (List.mem_append_right _ (List.mem_of_getElem? (i := 805) rfl)) (by decide +kernel)
set_option maxRecDepth 100000 in
theorem mw_903 : Cond.classLink R_La 13 "java/util/NoSuchElementException" ∈ lw_g := lw_gin (List.mem_append_right _ (List.mem_of_getElem? (i := 802) rfl)) (by decide +kernel)
set_option maxRecDepth 100000 in
theorem mw_904 : Cond.code y_Di_node b_Di_node 4 (some .int) ∈ lw_g := lw_gin (List.mem_append_right _ (List.mem_of_getElem? (i := 874) rfl)) (by decide +kernel)
set_option maxRecDepth 100000 in
theorem mw_905 : Cond.methodLink R_La 15 y_Di_node ∈ lw_g := lw_gin (List.mem_append_right _ (List.mem_of_getElem? (i := 871) rfl)) (by decide +kernel)
set_option maxRecDepth 100000 in
theorem mw_906 : Cond.instanceMethod y_Di_node ∈ lw_g := lw_gin (List.mem_append_right _ (List.mem_of_getElem? (i := 872) rfl)) (by decide +kernel)
set_option maxRecDepth 100000 in
theorem mw_907 : Cond.selects R_Di y_Di_node y_Di_node ∈ lw_g := lw_gin (List.mem_append_right _ (List.mem_of_getElem? (i := 873) rfl)) (by decide +kernel)
set_option maxRecDepth 100000 in
theorem mw_908 : Cond.code y_Di_name b_Di_name 3 (some .long) ∈ lw_g := lw_gin (List.mem_append_right _ (List.mem_of_getElem? (i := 890) rfl)) (by decide +kernel)
set_option maxRecDepth 100000 in
theorem mw_909 : Cond.methodLink R_La 18 y_Di_name ∈ lw_g := lw_gin (List.mem_append_right _ (List.mem_of_getElem? (i := 887) rfl)) (by decide +kernel)
set_option maxRecDepth 100000 in
theorem mw_910 : Cond.instanceMethod y_Di_name ∈ lw_g := lw_gin (List.mem_append_right _ (List.mem_of_getElem? (i := 888) rfl)) (by decide +kernel)
set_option maxRecDepth 100000 in
theorem mw_911 : Cond.selects R_Di y_Di_name y_Di_name ∈ lw_g := lw_gin (List.mem_append_right _ (List.mem_of_getElem? (i := 889) rfl)) (by decide +kernel)
set_option maxRecDepth 100000 in
theorem mw_912 : Cond.code y_Di_read b_Di_read 4 (some .int) ∈ lw_g := lw_gin (List.mem_append_right _ (List.mem_of_getElem? (i := 897) rfl)) (by decide +kernel)
set_option maxRecDepth 100000 in
theorem mw_913 : Cond.methodLink R_La 22 y_Di_read ∈ lw_g := lw_gin (List.mem_append_right _ (List.mem_of_getElem? (i := 894) rfl)) (by decide +kernel)
set_option maxRecDepth 100000 in
theorem mw_914 : Cond.instanceMethod y_Di_read ∈ lw_g := lw_gin (List.mem_append_right _ (List.mem_of_getElem? (i := 895) rfl)) (by decide +kernel)
set_option maxRecDepth 100000 in
theorem mw_915 : Cond.selects R_Di y_Di_read y_Di_read ∈ lw_g := lw_gin (List.mem_append_right _ (List.mem_of_getElem? (i := 896) rfl)) (by decide +kernel)
set_option maxRecDepth 100000 in
theorem mw_916 : Cond.code y_Di_tree b_Di_tree 4 (some .int) ∈ lw_g := lw_gin (List.mem_append_right _ (List.mem_of_getElem? (i := 904) rfl)) (by decide +kernel)
set_option maxRecDepth 100000 in
theorem mw_917 : Cond.methodLink R_La 25 y_Di_tree ∈ lw_g := lw_gin (List.mem_append_right _ (List.mem_of_getElem? (i := 901) rfl)) (by decide +kernel)
set_option maxRecDepth 100000 in
theorem mw_918 : Cond.instanceMethod y_Di_tree ∈ lw_g := lw_gin (List.mem_append_right _ (List.mem_of_getElem? (i := 902) rfl)) (by decide +kernel)
set_option maxRecDepth 100000 in
theorem mw_919 : Cond.selects R_Di y_Di_tree y_Di_tree ∈ lw_g := lw_gin (List.mem_append_right _ (List.mem_of_getElem? (i := 903) rfl)) (by decide +kernel)
theorem d_Di_mark_0 : decode b_Di_mark 0 = .ok (.aload_n 0, 1) := by decide +kernel
theorem d_Di_mark_1 : decode b_Di_mark 1 = .ok (.getfield 53, 3) := by decide +kernel
theorem d_Di_mark_4 : decode b_Di_mark 4 = .ok (.iload_n 1, 1) := by decide +kernel
theorem d_Di_mark_5 : decode b_Di_mark 5 = .ok (.invokevirtual 198, 3) := by decide +kernel
theorem d_Di_mark_8 : decode b_Di_mark 8 = .ok (.istore_n 3, 1) := by decide +kernel
theorem d_Di_mark_9 : decode b_Di_mark 9 = .ok (.iload_n 3, 1) := by decide +kernel
theorem d_Di_mark_10 : decode b_Di_mark 10 = .ok (.iconst (-1), 1) := by decide +kernel
theorem d_Di_mark_11 : decode b_Di_mark 11 = .ok (.if_icmp .ne 11, 3) := by decide +kernel
theorem d_Di_mark_22 : decode b_Di_mark 22 = .ok (.iload_n 2, 1) := by decide +kernel
theorem d_Di_mark_23 : decode b_Di_mark 23 = .ok (.tableswitch 73 0 3 #[29, 31, 40, 49], 29) := by decide +kernel
theorem d_Di_mark_96 : decode b_Di_mark 96 = .ok (.new 201, 3) := by decide +kernel
theorem d_Di_mark_99 : decode b_Di_mark 99 = .ok (.dup, 1) := by decide +kernel
theorem d_Di_mark_100 : decode b_Di_mark 100 = .ok (.invokespecial 203, 3) := by decide +kernel
theorem d_Di_mark_103 : decode b_Di_mark 103 = .ok (.athrow, 1) := by decide +kernel
theorem d_Di_mark_52 : decode b_Di_mark 52 = .ok (.iload_n 3, 1) := by decide +kernel
theorem d_Di_mark_53 : decode b_Di_mark 53 = .ok (.ireturn, 1) := by decide +kernel
theorem d_Di_mark_54 : decode b_Di_mark 54 = .ok (.aload_n 0, 1) := by decide +kernel
theorem d_Di_mark_55 : decode b_Di_mark 55 = .ok (.getfield 53, 3) := by decide +kernel
theorem d_Di_mark_58 : decode b_Di_mark 58 = .ok (.iload_n 3, 1) := by decide +kernel
theorem d_Di_mark_59 : decode b_Di_mark 59 = .ok (.invokevirtual 148, 3) := by decide +kernel
theorem d_Di_mark_62 : decode b_Di_mark 62 = .ok (.ireturn, 1) := by decide +kernel
theorem d_Di_mark_63 : decode b_Di_mark 63 = .ok (.aload_n 0, 1) := by decide +kernel
theorem d_Di_mark_64 : decode b_Di_mark 64 = .ok (.getfield 53, 3) := by decide +kernel
theorem d_Di_mark_67 : decode b_Di_mark 67 = .ok (.iload_n 3, 1) := by decide +kernel
theorem d_Di_mark_68 : decode b_Di_mark 68 = .ok (.invokevirtual 160, 3) := by decide +kernel
theorem d_Di_mark_71 : decode b_Di_mark 71 = .ok (.ireturn, 1) := by decide +kernel
theorem d_Di_mark_72 : decode b_Di_mark 72 = .ok (.aload_n 0, 1) := by decide +kernel
theorem d_Di_mark_73 : decode b_Di_mark 73 = .ok (.getfield 19, 3) := by decide +kernel
theorem d_Di_mark_76 : decode b_Di_mark 76 = .ok (.aload_n 0, 1) := by decide +kernel
theorem d_Di_mark_77 : decode b_Di_mark 77 = .ok (.getfield 53, 3) := by decide +kernel
theorem d_Di_mark_80 : decode b_Di_mark 80 = .ok (.aload_n 0, 1) := by decide +kernel
theorem d_Di_mark_81 : decode b_Di_mark 81 = .ok (.getfield 53, 3) := by decide +kernel
theorem d_Di_mark_84 : decode b_Di_mark 84 = .ok (.iload_n 3, 1) := by decide +kernel
theorem d_Di_mark_85 : decode b_Di_mark 85 = .ok (.invokevirtual 148, 3) := by decide +kernel
theorem d_Di_mark_88 : decode b_Di_mark 88 = .ok (.aload_n 0, 1) := by decide +kernel
theorem d_Di_mark_89 : decode b_Di_mark 89 = .ok (.getfield 45, 3) := by decide +kernel
theorem d_Di_mark_92 : decode b_Di_mark 92 = .ok (.invokevirtual 152, 3) := by decide +kernel
theorem d_Di_mark_95 : decode b_Di_mark 95 = .ok (.ireturn, 1) := by decide +kernel
theorem d_Di_mark_14 : decode b_Di_mark 14 = .ok (.new 201, 3) := by decide +kernel
theorem d_Di_mark_17 : decode b_Di_mark 17 = .ok (.dup, 1) := by decide +kernel
theorem d_Di_mark_18 : decode b_Di_mark 18 = .ok (.invokespecial 203, 3) := by decide +kernel
theorem d_Di_mark_21 : decode b_Di_mark 21 = .ok (.athrow, 1) := by decide +kernel
theorem d_Di_node_0 : decode b_Di_node 0 = .ok (.aload_n 0, 1) := by decide +kernel
theorem d_Di_node_1 : decode b_Di_node 1 = .ok (.iload_n 1, 1) := by decide +kernel
theorem d_Di_node_2 : decode b_Di_node 2 = .ok (.invokevirtual 205, 3) := by decide +kernel
theorem d_Di_node_5 : decode b_Di_node 5 = .ok (.astore_n 3, 1) := by decide +kernel
theorem d_Di_node_6 : decode b_Di_node 6 = .ok (.aload_n 3, 1) := by decide +kernel
theorem d_Di_node_7 : decode b_Di_node 7 = .ok (.ifnonnull 11, 3) := by decide +kernel
theorem d_Di_node_10 : decode b_Di_node 10 = .ok (.new 201, 3) := by decide +kernel
theorem d_Di_node_13 : decode b_Di_node 13 = .ok (.dup, 1) := by decide +kernel
theorem d_Di_node_14 : decode b_Di_node 14 = .ok (.invokespecial 203, 3) := by decide +kernel
theorem d_Di_node_17 : decode b_Di_node 17 = .ok (.athrow, 1) := by decide +kernel
theorem d_Di_node_18 : decode b_Di_node 18 = .ok (.iload_n 2, 1) := by decide +kernel
theorem d_Di_node_19 : decode b_Di_node 19 = .ok (.tableswitch 49 0 3 #[29, 34, 39, 44], 29) := by decide +kernel
theorem d_Di_node_68 : decode b_Di_node 68 = .ok (.new 201, 3) := by decide +kernel
theorem d_Di_node_71 : decode b_Di_node 71 = .ok (.dup, 1) := by decide +kernel
theorem d_Di_node_72 : decode b_Di_node 72 = .ok (.invokespecial 203, 3) := by decide +kernel
theorem d_Di_node_75 : decode b_Di_node 75 = .ok (.athrow, 1) := by decide +kernel
theorem d_Di_node_48 : decode b_Di_node 48 = .ok (.aload_n 3, 1) := by decide +kernel
theorem d_Di_node_49 : decode b_Di_node 49 = .ok (.invokevirtual 208, 3) := by decide +kernel
theorem d_Di_node_52 : decode b_Di_node 52 = .ok (.ireturn, 1) := by decide +kernel
theorem d_Di_node_53 : decode b_Di_node 53 = .ok (.aload_n 3, 1) := by decide +kernel
theorem d_Di_node_54 : decode b_Di_node 54 = .ok (.invokevirtual 211, 3) := by decide +kernel
theorem d_Di_node_57 : decode b_Di_node 57 = .ok (.ireturn, 1) := by decide +kernel
theorem d_Di_node_58 : decode b_Di_node 58 = .ok (.aload_n 3, 1) := by decide +kernel
theorem d_Di_node_59 : decode b_Di_node 59 = .ok (.getfield 214, 3) := by decide +kernel
theorem d_Di_node_62 : decode b_Di_node 62 = .ok (.ireturn, 1) := by decide +kernel
theorem d_Di_node_63 : decode b_Di_node 63 = .ok (.aload_n 3, 1) := by decide +kernel
theorem d_Di_node_64 : decode b_Di_node 64 = .ok (.getfield 217, 3) := by decide +kernel
theorem d_Di_node_67 : decode b_Di_node 67 = .ok (.ireturn, 1) := by decide +kernel
theorem d_Di_name_0 : decode b_Di_name 0 = .ok (.aload_n 0, 1) := by decide +kernel
theorem d_Di_name_1 : decode b_Di_name 1 = .ok (.iload_n 1, 1) := by decide +kernel
theorem d_Di_name_2 : decode b_Di_name 2 = .ok (.invokevirtual 205, 3) := by decide +kernel
theorem d_Di_name_5 : decode b_Di_name 5 = .ok (.astore_n 2, 1) := by decide +kernel
theorem d_Di_name_6 : decode b_Di_name 6 = .ok (.aload_n 2, 1) := by decide +kernel
theorem d_Di_name_7 : decode b_Di_name 7 = .ok (.ifnonnull 11, 3) := by decide +kernel
theorem d_Di_name_10 : decode b_Di_name 10 = .ok (.new 201, 3) := by decide +kernel
theorem d_Di_name_13 : decode b_Di_name 13 = .ok (.dup, 1) := by decide +kernel
theorem d_Di_name_14 : decode b_Di_name 14 = .ok (.invokespecial 203, 3) := by decide +kernel
theorem d_Di_name_17 : decode b_Di_name 17 = .ok (.athrow, 1) := by decide +kernel
theorem d_Di_name_18 : decode b_Di_name 18 = .ok (.aload_n 2, 1) := by decide +kernel
theorem d_Di_name_19 : decode b_Di_name 19 = .ok (.getfield 220, 3) := by decide +kernel
theorem d_Di_name_22 : decode b_Di_name 22 = .ok (.lreturn, 1) := by decide +kernel
theorem d_Di_read_0 : decode b_Di_read 0 = .ok (.aload_n 0, 1) := by decide +kernel
theorem d_Di_read_1 : decode b_Di_read 1 = .ok (.iload_n 1, 1) := by decide +kernel
theorem d_Di_read_2 : decode b_Di_read 2 = .ok (.invokevirtual 205, 3) := by decide +kernel
theorem d_Di_read_5 : decode b_Di_read 5 = .ok (.astore_n 3, 1) := by decide +kernel
theorem d_Di_read_6 : decode b_Di_read 6 = .ok (.aload_n 3, 1) := by decide +kernel
theorem d_Di_read_7 : decode b_Di_read 7 = .ok (.ifnull 22, 3) := by decide +kernel
theorem d_Di_read_29 : decode b_Di_read 29 = .ok (.new 201, 3) := by decide +kernel
theorem d_Di_read_32 : decode b_Di_read 32 = .ok (.dup, 1) := by decide +kernel
theorem d_Di_read_33 : decode b_Di_read 33 = .ok (.invokespecial 203, 3) := by decide +kernel
theorem d_Di_read_36 : decode b_Di_read 36 = .ok (.athrow, 1) := by decide +kernel
theorem d_Di_read_10 : decode b_Di_read 10 = .ok (.aload_n 3, 1) := by decide +kernel
theorem d_Di_read_11 : decode b_Di_read 11 = .ok (.getfield 97, 3) := by decide +kernel
theorem d_Di_read_14 : decode b_Di_read 14 = .ok (.ifCond .ne 15, 3) := by decide +kernel
theorem d_Di_read_17 : decode b_Di_read 17 = .ok (.iload_n 2, 1) := by decide +kernel
theorem d_Di_read_18 : decode b_Di_read 18 = .ok (.ifCond .lt 11, 3) := by decide +kernel
theorem d_Di_read_21 : decode b_Di_read 21 = .ok (.iload_n 2, 1) := by decide +kernel
theorem d_Di_read_22 : decode b_Di_read 22 = .ok (.aload_n 3, 1) := by decide +kernel
theorem d_Di_read_23 : decode b_Di_read 23 = .ok (.getfield 214, 3) := by decide +kernel
theorem d_Di_read_26 : decode b_Di_read 26 = .ok (.if_icmp .lt 11, 3) := by decide +kernel
theorem d_Di_read_37 : decode b_Di_read 37 = .ok (.aload_n 0, 1) := by decide +kernel
theorem d_Di_read_38 : decode b_Di_read 38 = .ok (.getfield 53, 3) := by decide +kernel
theorem d_Di_read_41 : decode b_Di_read 41 = .ok (.aload_n 3, 1) := by decide +kernel
theorem d_Di_read_42 : decode b_Di_read 42 = .ok (.getfield 217, 3) := by decide +kernel
theorem d_Di_read_45 : decode b_Di_read 45 = .ok (.sipush 2048, 3) := by decide +kernel
theorem d_Di_read_48 : decode b_Di_read 48 = .ok (.imul, 1) := by decide +kernel
theorem d_Di_read_49 : decode b_Di_read 49 = .ok (.iload_n 2, 1) := by decide +kernel
theorem d_Di_read_50 : decode b_Di_read 50 = .ok (.iadd, 1) := by decide +kernel
theorem d_Di_read_51 : decode b_Di_read 51 = .ok (.invokevirtual 188, 3) := by decide +kernel
theorem d_Di_read_54 : decode b_Di_read 54 = .ok (.ireturn, 1) := by decide +kernel
theorem d_Di_tree_0 : decode b_Di_tree 0 = .ok (.aload_n 0, 1) := by decide +kernel
theorem d_Di_tree_1 : decode b_Di_tree 1 = .ok (.getfield 26, 3) := by decide +kernel
theorem d_Di_tree_4 : decode b_Di_tree 4 = .ok (.iload_n 1, 1) := by decide +kernel
theorem d_Di_tree_5 : decode b_Di_tree 5 = .ok (.invokevirtual 90, 3) := by decide +kernel
theorem d_Di_tree_8 : decode b_Di_tree 8 = .ok (.astore_n 3, 1) := by decide +kernel
theorem d_Di_tree_9 : decode b_Di_tree 9 = .ok (.aload_n 3, 1) := by decide +kernel
theorem d_Di_tree_10 : decode b_Di_tree 10 = .ok (.ifnonnull 11, 3) := by decide +kernel
theorem d_Di_tree_13 : decode b_Di_tree 13 = .ok (.new 201, 3) := by decide +kernel
theorem d_Di_tree_16 : decode b_Di_tree 16 = .ok (.dup, 1) := by decide +kernel
theorem d_Di_tree_17 : decode b_Di_tree 17 = .ok (.invokespecial 203, 3) := by decide +kernel
theorem d_Di_tree_20 : decode b_Di_tree 20 = .ok (.athrow, 1) := by decide +kernel
theorem d_Di_tree_21 : decode b_Di_tree 21 = .ok (.iload_n 2, 1) := by decide +kernel
theorem d_Di_tree_22 : decode b_Di_tree 22 = .ok (.tableswitch 59 0 4 #[34, 39, 44, 49, 54], 34) := by decide +kernel
theorem d_Di_tree_81 : decode b_Di_tree 81 = .ok (.new 201, 3) := by decide +kernel
theorem d_Di_tree_84 : decode b_Di_tree 84 = .ok (.dup, 1) := by decide +kernel
theorem d_Di_tree_85 : decode b_Di_tree 85 = .ok (.invokespecial 203, 3) := by decide +kernel
theorem d_Di_tree_88 : decode b_Di_tree 88 = .ok (.athrow, 1) := by decide +kernel
theorem d_Di_tree_56 : decode b_Di_tree 56 = .ok (.aload_n 3, 1) := by decide +kernel
theorem d_Di_tree_57 : decode b_Di_tree 57 = .ok (.invokevirtual 208, 3) := by decide +kernel
theorem d_Di_tree_60 : decode b_Di_tree 60 = .ok (.ireturn, 1) := by decide +kernel
theorem d_Di_tree_61 : decode b_Di_tree 61 = .ok (.aload_n 3, 1) := by decide +kernel
theorem d_Di_tree_62 : decode b_Di_tree 62 = .ok (.invokevirtual 211, 3) := by decide +kernel
theorem d_Di_tree_65 : decode b_Di_tree 65 = .ok (.ireturn, 1) := by decide +kernel
theorem d_Di_tree_66 : decode b_Di_tree 66 = .ok (.aload_n 3, 1) := by decide +kernel
theorem d_Di_tree_67 : decode b_Di_tree 67 = .ok (.getfield 214, 3) := by decide +kernel
theorem d_Di_tree_70 : decode b_Di_tree 70 = .ok (.ireturn, 1) := by decide +kernel
theorem d_Di_tree_71 : decode b_Di_tree 71 = .ok (.aload_n 3, 1) := by decide +kernel
theorem d_Di_tree_72 : decode b_Di_tree 72 = .ok (.getfield 224, 3) := by decide +kernel
theorem d_Di_tree_75 : decode b_Di_tree 75 = .ok (.ireturn, 1) := by decide +kernel
theorem d_Di_tree_76 : decode b_Di_tree 76 = .ok (.aload_n 3, 1) := by decide +kernel
theorem d_Di_tree_77 : decode b_Di_tree 77 = .ok (.getfield 227, 3) := by decide +kernel
theorem d_Di_tree_80 : decode b_Di_tree 80 = .ok (.ireturn, 1) := by decide +kernel
theorem d_La_mark_0 : decode b_La_mark 0 = .ok (.aload_n 3, 1) := by decide +kernel
theorem d_La_mark_1 : decode b_La_mark 1 = .ok (.iconst 0, 1) := by decide +kernel
theorem d_La_mark_2 : decode b_La_mark 2 = .ok (.aload_n 0, 1) := by decide +kernel
theorem d_La_mark_3 : decode b_La_mark 3 = .ok (.iload_n 1, 1) := by decide +kernel
theorem d_La_mark_4 : decode b_La_mark 4 = .ok (.iload_n 2, 1) := by decide +kernel
theorem d_La_mark_5 : decode b_La_mark 5 = .ok (.invokevirtual 7, 3) := by decide +kernel
theorem d_La_mark_8 : decode b_La_mark 8 = .ok (.i2l, 1) := by decide +kernel
theorem d_La_mark_9 : decode b_La_mark 9 = .ok (.lastore, 1) := by decide +kernel
theorem d_La_mark_10 : decode b_La_mark 10 = .ok (.goto 7, 3) := by decide +kernel
theorem d_La_mark_17 : decode b_La_mark 17 = .ok (.iconst 0, 1) := by decide +kernel
theorem d_La_mark_18 : decode b_La_mark 18 = .ok (.ireturn, 1) := by decide +kernel
theorem d_La_mark_13 : decode b_La_mark 13 = .ok (.astore 4, 2) := by decide +kernel
theorem d_La_mark_15 : decode b_La_mark 15 = .ok (.iconst 1, 1) := by decide +kernel
theorem d_La_mark_16 : decode b_La_mark 16 = .ok (.ireturn, 1) := by decide +kernel
theorem d_La_node_0 : decode b_La_node 0 = .ok (.aload_n 3, 1) := by decide +kernel
theorem d_La_node_1 : decode b_La_node 1 = .ok (.iconst 0, 1) := by decide +kernel
theorem d_La_node_2 : decode b_La_node 2 = .ok (.aload_n 0, 1) := by decide +kernel
theorem d_La_node_3 : decode b_La_node 3 = .ok (.iload_n 1, 1) := by decide +kernel
theorem d_La_node_4 : decode b_La_node 4 = .ok (.iload_n 2, 1) := by decide +kernel
theorem d_La_node_5 : decode b_La_node 5 = .ok (.invokevirtual 15, 3) := by decide +kernel
theorem d_La_node_8 : decode b_La_node 8 = .ok (.i2l, 1) := by decide +kernel
theorem d_La_node_9 : decode b_La_node 9 = .ok (.lastore, 1) := by decide +kernel
theorem d_La_node_10 : decode b_La_node 10 = .ok (.goto 7, 3) := by decide +kernel
theorem d_La_node_17 : decode b_La_node 17 = .ok (.iconst 0, 1) := by decide +kernel
theorem d_La_node_18 : decode b_La_node 18 = .ok (.ireturn, 1) := by decide +kernel
theorem d_La_node_13 : decode b_La_node 13 = .ok (.astore 4, 2) := by decide +kernel
theorem d_La_node_15 : decode b_La_node 15 = .ok (.iconst 1, 1) := by decide +kernel
theorem d_La_node_16 : decode b_La_node 16 = .ok (.ireturn, 1) := by decide +kernel
theorem d_La_name_0 : decode b_La_name 0 = .ok (.aload_n 2, 1) := by decide +kernel
theorem d_La_name_1 : decode b_La_name 1 = .ok (.iconst 0, 1) := by decide +kernel
theorem d_La_name_2 : decode b_La_name 2 = .ok (.aload_n 0, 1) := by decide +kernel
theorem d_La_name_3 : decode b_La_name 3 = .ok (.iload_n 1, 1) := by decide +kernel
theorem d_La_name_4 : decode b_La_name 4 = .ok (.invokevirtual 18, 3) := by decide +kernel
theorem d_La_name_7 : decode b_La_name 7 = .ok (.lastore, 1) := by decide +kernel
theorem d_La_name_8 : decode b_La_name 8 = .ok (.goto 6, 3) := by decide +kernel
theorem d_La_name_14 : decode b_La_name 14 = .ok (.iconst 0, 1) := by decide +kernel
theorem d_La_name_15 : decode b_La_name 15 = .ok (.ireturn, 1) := by decide +kernel
theorem d_La_name_11 : decode b_La_name 11 = .ok (.astore_n 3, 1) := by decide +kernel
theorem d_La_name_12 : decode b_La_name 12 = .ok (.iconst 1, 1) := by decide +kernel
theorem d_La_name_13 : decode b_La_name 13 = .ok (.ireturn, 1) := by decide +kernel
theorem d_La_read_0 : decode b_La_read 0 = .ok (.aload_n 3, 1) := by decide +kernel
theorem d_La_read_1 : decode b_La_read 1 = .ok (.iconst 0, 1) := by decide +kernel
theorem d_La_read_2 : decode b_La_read 2 = .ok (.aload_n 0, 1) := by decide +kernel
theorem d_La_read_3 : decode b_La_read 3 = .ok (.iload_n 1, 1) := by decide +kernel
theorem d_La_read_4 : decode b_La_read 4 = .ok (.iload_n 2, 1) := by decide +kernel
theorem d_La_read_5 : decode b_La_read 5 = .ok (.invokevirtual 22, 3) := by decide +kernel
theorem d_La_read_8 : decode b_La_read 8 = .ok (.i2l, 1) := by decide +kernel
theorem d_La_read_9 : decode b_La_read 9 = .ok (.lastore, 1) := by decide +kernel
theorem d_La_read_10 : decode b_La_read 10 = .ok (.goto 7, 3) := by decide +kernel
theorem d_La_read_17 : decode b_La_read 17 = .ok (.iconst 0, 1) := by decide +kernel
theorem d_La_read_18 : decode b_La_read 18 = .ok (.ireturn, 1) := by decide +kernel
theorem d_La_read_13 : decode b_La_read 13 = .ok (.astore 4, 2) := by decide +kernel
theorem d_La_read_15 : decode b_La_read 15 = .ok (.iconst 1, 1) := by decide +kernel
theorem d_La_read_16 : decode b_La_read 16 = .ok (.ireturn, 1) := by decide +kernel
theorem d_La_tree_0 : decode b_La_tree 0 = .ok (.aload_n 3, 1) := by decide +kernel
theorem d_La_tree_1 : decode b_La_tree 1 = .ok (.iconst 0, 1) := by decide +kernel
theorem d_La_tree_2 : decode b_La_tree 2 = .ok (.aload_n 0, 1) := by decide +kernel
theorem d_La_tree_3 : decode b_La_tree 3 = .ok (.iload_n 1, 1) := by decide +kernel
theorem d_La_tree_4 : decode b_La_tree 4 = .ok (.iload_n 2, 1) := by decide +kernel
theorem d_La_tree_5 : decode b_La_tree 5 = .ok (.invokevirtual 25, 3) := by decide +kernel
theorem d_La_tree_8 : decode b_La_tree 8 = .ok (.i2l, 1) := by decide +kernel
theorem d_La_tree_9 : decode b_La_tree 9 = .ok (.lastore, 1) := by decide +kernel
theorem d_La_tree_10 : decode b_La_tree 10 = .ok (.goto 7, 3) := by decide +kernel
theorem d_La_tree_17 : decode b_La_tree 17 = .ok (.iconst 0, 1) := by decide +kernel
theorem d_La_tree_18 : decode b_La_tree 18 = .ok (.ireturn, 1) := by decide +kernel
theorem d_La_tree_13 : decode b_La_tree 13 = .ok (.astore 4, 2) := by decide +kernel
theorem d_La_tree_15 : decode b_La_tree 15 = .ok (.iconst 1, 1) := by decide +kernel
theorem d_La_tree_16 : decode b_La_tree 16 = .ok (.ireturn, 1) := by decide +kernel
/-- a static of Throwable, laid in the old heap -/
def zL (n d : String) (A : Nat → Prop) (U : State) (H : Heap) : Prop := ∃ (c : ClassId) (k : Class) (i : Nat) (f : Field) (a : Nat) (cell : Cell), U.vm.findClass "java/lang/Throwable" = some c ∧ U.fieldFound? "java/lang/Throwable" n d = some (c, k, i, f) ∧ f.isStatic = true ∧ k.statics = some a ∧ H[a]? = some cell ∧ cell.vm.isStatics = true ∧ cell.cls = c ∧ f.slot < cell.slots.size ∧ k.staticTypes[f.slot]? = some f.type ∧ ¬ A a
theorem zL.moved {n d : String} {A : Nat → Prop} {u U : State} {H : Heap} (hvm : u.vm.Alike U.vm) (h : zL n d A u H) : zL n d A U H := by
  obtain ⟨c, k, i, f, a, cell, h0, h1, h2, h3, h4, h5, h6, h7, h8, h9⟩ := h
  obtain ⟨k', hi', he⟩ := State.fieldFound?_setVm hvm h1
  exact ⟨c, k', i, f, a, cell, by rw [hvm.findClass]; exact h0, hi', h2, by rw [he]; exact h3, h4, h5, h6, h7, by rw [he]; exact h8, h9⟩
theorem zL.kept {n d : String} {A : Nat → Prop} {U : State} {H H1 : Heap} (h : zL n d A U H) (hq : ∀ a : Nat, a < H.size → ¬ A a → H1[a]? = H[a]?) : zL n d A U H1 := by
  obtain ⟨c, k, i, f, a, cell, h0, h1, h2, h3, h4, h5, h6, h7, h8, h9⟩ := h
  exact ⟨c, k, i, f, a, cell, h0, h1, h2, h3, by rw [hq a (Array.getElem?_eq_some_iff.mp h4).1 h9]; exact h4, h5, h6, h7, h8, h9⟩
theorem zL.narrow {n d : String} {A B : Nat → Prop} {U : State} {H : Heap} (h : zL n d A U H) (hAB : ∀ q, B q → A q) : zL n d B U H := by
  obtain ⟨c, k, i, f, a, cell, h0, h1, h2, h3, h4, h5, h6, h7, h8, h9⟩ := h
  exact ⟨c, k, i, f, a, cell, h0, h1, h2, h3, h4, h5, h6, h7, h8, fun z => h9 (hAB a z)⟩
theorem zL.of {n d : String} {A : Nat → Prop} {args : Array Value} {s : State} (h : (Cond.laysStatic "java/lang/Throwable" n d).before args s = true) (hA : ∀ a : Nat, a < s.heap.size → ¬ A a) : zL n d A s s.heap := by
  obtain ⟨c, k, i, f, a, cell, h0, h1, h2, h3, h4, h5, h6, h7, h8⟩ := Cond.laysStatic_spec h
  exact ⟨c, k, i, f, a, cell, h0, h1, h2, h3, h4, h5, h6, h7, h8, hA a (Array.getElem?_eq_some_iff.mp h4).1⟩
theorem zL.use {n d : String} {A : Nat → Prop} {args : Array Value} {s : State} (h : zL n d A s s.heap) : (Cond.laysStatic "java/lang/Throwable" n d).before args s = true := by
  obtain ⟨c, k, i, f, a, cell, h0, h1, h2, h3, h4, h5, h6, h7, h8, h9⟩ := h
  simp [Cond.before, Cond.holds, Cond.value, h0, h1, h2, h3, h4, h5, h6, h7, h8]
/-- what a throw wants of the tables beside the words -/
def kT (G : hG) (U : State) : Prop := va_Nw (.declares ⟨"java/lang/RuntimeException", "<init>", "()V"⟩) U ∧ va_Nw (.declares ⟨"java/lang/Exception", "<init>", "()V"⟩) U ∧ va_Nw (.declares ⟨"java/lang/Throwable", "<init>", "()V"⟩) U ∧ va_Nw (.castable "java/util/NoSuchElementException" "java/util/NoSuchElementException") U ∧ zL "UNASSIGNED_STACK" "[Ljava/lang/StackTraceElement;" (kA G) U G.H ∧ zL "SUPPRESSED_SENTINEL" "Ljava/util/List;" (kA G) U G.H
def kF (D : va_G) (t : Nat → ClassId) (G : hG) (ak av : Nat → Nat) (U : State) : Prop := kE D t G ak av U ∧ kT G U
theorem kF_ok {D : va_G} {t : Nat → ClassId} {G : hG} {ak av : Nat → Nat} : hKok (kF D t G ak av) :=
  ⟨fun U g mk a k => ⟨kE_ok.1 U g mk a k.1, va_Nw.same (u := U) rfl rfl k.2.1, va_Nw.same (u := U) rfl rfl k.2.2.1, va_Nw.same (u := U) rfl rfl k.2.2.2.1, va_Nw.same (u := U) rfl rfl k.2.2.2.2.1, zL.moved (u := U) (Vm.Alike.refl U.vm) k.2.2.2.2.2.1, zL.moved (u := U) (Vm.Alike.refl U.vm) k.2.2.2.2.2.2⟩,
   fun s U hW k => ⟨kE_ok.2 s U hW k.1, va_Nw.warmD hW k.2.1, va_Nw.warmD hW k.2.2.1, va_Nw.warmD hW k.2.2.2.1, va_Nw.warmC hW k.2.2.2.2.1, zL.moved hW.alike k.2.2.2.2.2.1, zL.moved hW.alike k.2.2.2.2.2.2⟩⟩
theorem U9 {D : va_G} {cl : List vw_C} {G : hG} {h : hM} {s : State} {ak av : Nat → Nat} (hS : kS G ak av s) (h0 : hm D cl G h s.heap) : va_Zq "java/lang/Throwable" "UNASSIGNED_STACK" "[Ljava/lang/StackTraceElement;" (kA G) s s.heap := hS.2.2.2.2.2.2.2.2.2.1.kept (fun a _ hn => h0.1.2 a hn)
theorem V9 {D : va_G} {cl : List vw_C} {G : hG} {h : hM} {s : State} {ak av : Nat → Nat} (hS : kS G ak av s) (h0 : hm D cl G h s.heap) : va_Zq "java/lang/Throwable" "SUPPRESSED_SENTINEL" "Ljava/util/List;" (kA G) s s.heap := hS.2.2.2.2.2.2.2.2.2.2.kept (fun a _ hn => h0.1.2 a hn)
set_option maxRecDepth 100000 in
theorem hat9 {D : va_G} {cl : List vw_C} {G : hG} {h : hM} {args : Array Value} {s : State} (hts : ∀ w ∈ lw_g, w.before args s = true) (hT : kT G s) (h0 : hm D cl G h s.heap) (z1 : (Cond.isRef (.static "java/lang/Throwable" "UNASSIGNED_STACK" "[Ljava/lang/StackTraceElement;")).before args s = true) (z2 : (Cond.isRef (.static "java/lang/Throwable" "SUPPRESSED_SENTINEL" "Ljava/util/List;")).before args s = true) : ∀ a ∈ Bundle.ownAtoms0 R_Di 203 nX nXn, a.before args s = true := by
  have zL1 : (Cond.laysStatic "java/lang/Throwable" "UNASSIGNED_STACK" "[Ljava/lang/StackTraceElement;").before args s = true := (hT.2.2.2.2.1.kept (fun a _ hn => h0.1.2 a hn)).use
  have zL2 : (Cond.laysStatic "java/lang/Throwable" "SUPPRESSED_SENTINEL" "Ljava/util/List;").before args s = true := (hT.2.2.2.2.2.kept (fun a _ hn => h0.1.2 a hn)).use
  exact List.forall_mem_cons.mpr ⟨hts _ mw_841, List.forall_mem_cons.mpr ⟨hts _ mw_842, List.forall_mem_cons.mpr ⟨hts _ mw_843, List.forall_mem_cons.mpr ⟨hts _ mw_844, List.forall_mem_cons.mpr ⟨hts _ mw_845, List.forall_mem_cons.mpr ⟨hts _ mw_846, List.forall_mem_cons.mpr ⟨hts _ mw_847, List.forall_mem_cons.mpr ⟨hts _ mw_848, List.forall_mem_cons.mpr ⟨hts _ mw_849, List.forall_mem_cons.mpr ⟨hts _ mw_850, List.forall_mem_cons.mpr ⟨hts _ mw_851, List.forall_mem_cons.mpr ⟨hts _ mw_852, List.forall_mem_cons.mpr ⟨hts _ mw_853, List.forall_mem_cons.mpr ⟨hts _ mw_854, List.forall_mem_cons.mpr ⟨hts _ mw_855, List.forall_mem_cons.mpr ⟨hts _ mw_856, List.forall_mem_cons.mpr ⟨hts _ mw_857, List.forall_mem_cons.mpr ⟨hts _ mw_858, List.forall_mem_cons.mpr ⟨hts _ mw_859, List.forall_mem_cons.mpr ⟨hts _ mw_860, List.forall_mem_cons.mpr ⟨zL1, List.forall_mem_cons.mpr ⟨hts _ mw_861, List.forall_mem_cons.mpr ⟨zL2, List.forall_mem_cons.mpr ⟨hts _ mw_862, List.forall_mem_cons.mpr ⟨hts _ mw_863, List.forall_mem_cons.mpr ⟨hts _ mw_864, List.forall_mem_cons.mpr ⟨hts _ mw_865, List.forall_mem_cons.mpr ⟨hts _ mw_866, List.forall_mem_cons.mpr ⟨va_Nw.use rfl hT.1, List.forall_mem_cons.mpr ⟨hts _ mw_866, List.forall_mem_cons.mpr ⟨hts _ mw_867, List.forall_mem_cons.mpr ⟨hts _ mw_868, List.forall_mem_cons.mpr ⟨hts _ mw_869, List.forall_mem_cons.mpr ⟨va_Nw.use rfl hT.2.1, List.forall_mem_cons.mpr ⟨hts _ mw_869, List.forall_mem_cons.mpr ⟨hts _ mw_870, List.forall_mem_cons.mpr ⟨hts _ mw_871, List.forall_mem_cons.mpr ⟨hts _ mw_847, List.forall_mem_cons.mpr ⟨va_Nw.use rfl hT.2.2.1, List.forall_mem_cons.mpr ⟨hts _ mw_872, List.forall_mem_cons.mpr ⟨hts _ mw_873, List.forall_mem_cons.mpr ⟨va_Nw.use rfl hT.2.2.2.1, List.forall_mem_cons.mpr ⟨hts _ mw_874, List.forall_mem_cons.mpr ⟨hts _ mw_875, List.forall_mem_cons.mpr ⟨hts _ mw_876, List.forall_mem_cons.mpr ⟨hts _ mw_877, List.forall_mem_cons.mpr ⟨hts _ mw_878, List.forall_mem_cons.mpr ⟨hts _ mw_879, List.forall_mem_cons.mpr ⟨z1, List.forall_mem_cons.mpr ⟨z2, List.forall_mem_cons.mpr ⟨hts _ mw_880, List.forall_mem_cons.mpr ⟨hts _ mw_881, List.forall_mem_cons.mpr ⟨hts _ mw_882, List.forall_mem_nil _⟩⟩⟩⟩⟩⟩⟩⟩⟩⟩⟩⟩⟩⟩⟩⟩⟩⟩⟩⟩⟩⟩⟩⟩⟩⟩⟩⟩⟩⟩⟩⟩⟩⟩⟩⟩⟩⟩⟩⟩⟩⟩⟩⟩⟩⟩⟩⟩⟩⟩⟩⟩⟩
theorem tab1 {l : List ExceptionTableEntry} {a b c d : Nat} (h : l.map (fun h => (h.startPc, h.endPc, h.handlerPc, h.catchType)) = [(a, b, c, d)]) : ∃ x, l = [x] ∧ x.startPc = a ∧ x.endPc = b ∧ x.handlerPc = c ∧ x.catchType = d := by
  match l, h with
  | [], h => cases h
  | [x], h =>
    simp only [List.map_cons, List.map_nil, List.cons.injEq, Prod.mk.injEq, and_true] at h
    exact ⟨x, rfl, h.1, h.2.1, h.2.2.1, h.2.2.2⟩
  | _ :: _ :: _, h => simp at h
section HMR2
variable {p : Program} {l : Launch} {e : Env} {R : Room} {s : State} {m : MethodId} {args : Array Value} {below : List Frame} {meth : Method} {c : Code} {H : Heap} {locs : List Loc} {cells slots : Nat} {Q : State → Prop}
variable {cc : ByteArray} {pc : Nat} {ls : Array Slot} {rest : List Value} {y : MethodName} {bytes : ByteArray} {maxL nL n index : Nat} {ret : Option FieldType} {ws : List Cond} {rm : Room} {Pc : Array Value → State → Prop} {Ts : List Cond} {own C : String} {b : Nat} {As : List Value} {x : ExceptionTableEntry} {D : va_G} {cl : List vw_C} {G : hG}
theorem hm_callRi {post : Int32 → hM → Prop} (S : CallFix p m c cc nL s args Ts own) (hMr : MetR l y ws rm Pc (hQi D cl G post) G.P) (cw : CallW R s args own C index y bytes maxL ret ws rm 1 6 n) (hp : PreV s H C b Pc As) (hn : As.length = n) (hsize : ls.size = nL) (hW : (rest.map fun v => v.category).sum ≤ 8) (hdg : decode cc pc = .ok (.invokevirtual index, 3)) (hf : cells + 1 ≤ R.cells ∧ slots + 6 ≤ R.slots)
    (htab : c.exceptionTable.toList = [x]) (hx : covers x pc = true) (h0 : x.catchType ≠ 0) (hlink : (Cond.classLink own x.catchType nX).before args s = true) (hcast : (Cond.castable nX nX).before args s = true) (hLo : hLc G.P locs)
    (kr : ∀ (r : Int32) (h' : hM) (H1 : Heap) (locs1 : List Loc), post r h' → hm D cl G h' H1 → H.size ≤ H1.size → hLc G.P locs1 → W p l e R s m args below meth c H1 locs1 (cells + 0) (slots + 0) Q (F0 m (pc + 3) ls (.int r :: rest)))
    (kk : ∀ (q : Nat) (H1 : Heap), H.size ≤ H1.size → (∀ a : Nat, a < H.size → H1[a]? = H[a]?) → W p l e R s m args below meth c H1 locs (cells + 1) (slots + 6) Q (F0 m x.handlerPc ls [.ref q])) :
    W p l e R s m args below meth c H locs cells slots Q (F0 m pc ls (As.reverse ++ .ref b :: rest)) :=
  hm_callR S hMr cw hp hn hsize hW hdg hf htab hx h0 hlink hcast (fun v st t L h9 hq hL => by
    obtain ⟨r, h', hv, hp9, hh, hz⟩ := hq
    cases hv
    rw [h9] at hz
    exact kr r h' t.heap (locs ++ L) hp9 hh hz (hLc_app hLo hL)) kk
theorem hm_callRl {post : Int64 → hM → Prop} (S : CallFix p m c cc nL s args Ts own) (hMr : MetR l y ws rm Pc (hQl D cl G post) G.P) (cw : CallW R s args own C index y bytes maxL ret ws rm 1 6 n) (hp : PreV s H C b Pc As) (hn : As.length = n) (hsize : ls.size = nL) (hW : (rest.map fun v => v.category).sum ≤ 8) (hdg : decode cc pc = .ok (.invokevirtual index, 3)) (hf : cells + 1 ≤ R.cells ∧ slots + 6 ≤ R.slots)
    (htab : c.exceptionTable.toList = [x]) (hx : covers x pc = true) (h0 : x.catchType ≠ 0) (hlink : (Cond.classLink own x.catchType nX).before args s = true) (hcast : (Cond.castable nX nX).before args s = true) (hLo : hLc G.P locs)
    (kr : ∀ (r : Int64) (h' : hM) (H1 : Heap) (locs1 : List Loc), post r h' → hm D cl G h' H1 → H.size ≤ H1.size → hLc G.P locs1 → W p l e R s m args below meth c H1 locs1 (cells + 0) (slots + 0) Q (F0 m (pc + 3) ls (.long r :: rest)))
    (kk : ∀ (q : Nat) (H1 : Heap), H.size ≤ H1.size → (∀ a : Nat, a < H.size → H1[a]? = H[a]?) → W p l e R s m args below meth c H1 locs (cells + 1) (slots + 6) Q (F0 m x.handlerPc ls [.ref q])) :
    W p l e R s m args below meth c H locs cells slots Q (F0 m pc ls (As.reverse ++ .ref b :: rest)) :=
  hm_callR S hMr cw hp hn hsize hW hdg hf htab hx h0 hlink hcast (fun v st t L h9 hq hL => by
    obtain ⟨r, h', hv, hp9, hh, hz⟩ := hq
    cases hv
    rw [h9] at hz
    exact kr r h' t.heap (locs ++ L) hp9 hh hz (hLc_app hLo hL)) kk
end HMR2

set_option maxHeartbeats 4000000 in
set_option maxRecDepth 100000 in
theorem x_mark (l : Launch) (D : va_G) (t : Nat → ClassId) (G : hG) (ak av : Nat → Nat) (h : hM) (hfl : l.flags = flags0) (τ : tM) (n : Nat) (x9 : Nat) (a9 : Int32) (b9 : Int32) (hn : n ≤ 200) (hT : TI τ t n h) (T_x9 : τ x9 = (1, 0)) : MetR l y_Di_mark (.code y_Di_mark b_Di_mark 4 (some .int) :: lw_g) { frames := 10, cells := 1, slots := 6, locals := 229 } (hP (kF D t G ak av) D vwCl G h [.ref x9, .int a9, .int b9]) (hQi D vwCl G (fun r h' => TI τ t n h' ∧ kf τ [(10, 1), (10, 2), (5, 1), (7, 1), (6, 0)] [] h h')) G.P := by
  refine MetR.ofW (cc := b_Di_mark) (maxL := 4) (ret := (some .int)) (by decide) rfl ?_
  intro p e s m args below meth c s₁ Bd hml htab hadm hv
  have htr : e.platform.stackTraces = false := Launch.traces_off hfl hadm
  obtain ⟨ha, ⟨hE, hE1⟩, hH⟩ := hv
  have hx := Bd.exec
  have hb := Bd.bytes
  have hr := Bd.returns
  have hts : ∀ w ∈ lw_g, w.before args s = true := fun w hw => atoms_spec (ws := (.code y_Di_mark b_Di_mark 4 (some .int) :: lw_g)) Bd.pre w (List.mem_cons_of_mem _ hw)
  have hown : s.vm.findClass R_Di = some m.cls := findClass_of_methodNamed Bd.named
  have hlocks := Bd.notSynchronized
  have hK := hE.1
  have hH0 := hH
  have hLo : hLc G.P [] := hLc_nil
  have hz : s.heap.size ≤ s.heap.size := Nat.le_refl _
  have hl := lv_entry [.ref x9, .int a9, .int b9] (n := 4) (Nat.le_of_ble_eq_true rfl)
  rw [show entryFrame m args 4 = F0 m 0 ((lg_sl [.ref x9, .int a9, .int b9] ++ List.replicate (4 - (lg_sl [.ref x9, .int a9, .int b9]).length) Slot.unset).toArray) [] from (by rw [ha]; exact lg_entry_eq m [.ref x9, .int a9, .int b9] 4)]
  generalize (lg_sl [.ref x9, .int a9, .int b9] ++ List.replicate (4 - (lg_sl [.ref x9, .int a9, .int b9]).length) Slot.unset).toArray = ls at hl ⊢
  have hl : lv_has ls 4 [(0, .ref x9), (1, .int a9), (2, .int b9)] := hl
  have hkf : kf τ [(10, 1), (10, 2), (5, 1), (7, 1), (6, 0)] [] h h := kf_rf
  refine lv_aload_n hx hb d_Di_mark_0 rfl (lv_at hl 0 rfl) ?_
  obtain ⟨v_1, v_3, v_5, v_7, v_9, v_11, v_12, v_14, v_16, F_x9, c_2, c_4, c_6, c_8, c_10, c_13, c_15, c_17⟩ := TI_disc hT T_x9
  refine hm_get (ci := 8) (v := .ref v_7) (C := R_Di) (T := F_Di) (N := 9) hx hb hts ig_Di hown hK hH F_x9 rfl 3 (by decide) (hts _ mw_425) (fun _ h9 => h9) rfl d_Di_mark_1 ?_
  refine lv_iload_n hx hb d_Di_mark_4 rfl (lv_at hl 1 rfl) ?_
  obtain ⟨v_18, v_20, F_v_7, c_19⟩ := TI_med hT c_8
  refine hm_callPi (va_runV (As := [.int a9]) (b := v_7) (rest := []) ⟨hx, hb, hml, hown, hts⟩ (t_sMark l D t G ak av h τ n v_7 a9  hn hT c_8) ⟨cw9B 1 hts mw_495 mw_496 mw_32 rfl rfl (by decide +kernel) ⟨Nat.le_of_ble_eq_true rfl, Nat.le_of_ble_eq_true rfl⟩, hts _ mw_497, hts _ mw_498⟩ (hP_V (q := (R_Me, F_Me, 2)) kE_ok hE hK hH F_v_7 rfl) rfl rfl hl.1 rfl (lv_room (Nat.le_of_ble_eq_true rfl)) d_Di_mark_5 ⟨Nat.le_of_ble_eq_true rfl, Nat.le_of_ble_eq_true rfl⟩) (fun r_21 h_22 H_23 hp_25  hH z_24 => ?_)
  have hz : s.heap.size ≤ H_23.size := Nat.le_trans hz z_24
  obtain rfl := hp_25
  refine lv_istore_n (lv' := [(3, .int r_21), (0, .ref x9), (1, .int a9), (2, .int b9)]) hx hb d_Di_mark_8 rfl hl (by decide) rfl (fun ls hl => ?_)
  refine lv_iload_n hx hb d_Di_mark_9 rfl (lv_at hl 0 rfl) ?_
  refine lv_iconst (v := -1) hx hb d_Di_mark_10 (by decide) ?_
  refine lv_icmp_ne (tgt := 22) hx hb d_Di_mark_11 (by decide) (fun hc_27 => ?_) (fun hc_27 => ?_)
  · skip
    refine lv_iload_n hx hb d_Di_mark_22 rfl (lv_at hl 3 rfl) ?_
    rcases (show (b9.toInt < 0 ∨ 3 < b9.toInt) ∨ b9.toInt = 0 ∨ b9.toInt = 1 ∨ b9.toInt = 2 ∨ b9.toInt = 3 by omega) with hsw | hsw | hsw | hsw | hsw
    · skip
      refine lv_tableOut (tgt := 96) hx hb d_Di_mark_23 hsw (by decide) ?_
      refine W.imp (fun _ h9 => Or.inr h9) ?_
      exact hm_throw hx hb (hml.trans hl.1.symm) htr hlocks htab hown (hat9 hts hE1 hH0 (isRef9 (U9 hE.2.2.2.2 hH0)) (isRef9 (V9 hE.2.2.2.2 hH0))) (hts _ mw_883) (hts _ mw_884) hz (Nat.le_of_ble_eq_true rfl) (Nat.le_of_ble_eq_true rfl) (Nat.le_of_ble_eq_true rfl) (Nat.le_of_ble_eq_true rfl) d_Di_mark_96 d_Di_mark_99 d_Di_mark_100 d_Di_mark_103
    · skip
      refine lv_tableIn (tgt := 52) hx hb d_Di_mark_23 (by omega) (by omega) (by rw [hsw]; rfl) (by decide) ?_
      refine lv_iload_n hx hb d_Di_mark_52 rfl (lv_at hl 0 rfl) ?_
      refine W.imp (fun _ h9 => Or.inl h9) ?_
      exact W.iret (v := r_21) hx hb hr (fun t9 ht hW => ⟨r_21, h, rfl, ⟨hT, hkf⟩, by rw [ht]; exact hH, by rw [ht]; exact hz⟩) hLo d_Di_mark_53
    · skip
      refine lv_tableIn (tgt := 54) hx hb d_Di_mark_23 (by omega) (by omega) (by rw [hsw]; rfl) (by decide) ?_
      refine lv_aload_n hx hb d_Di_mark_54 rfl (lv_at hl 1 rfl) ?_
      refine hm_get (ci := 8) (v := .ref v_7) (C := R_Di) (T := F_Di) (N := 9) hx hb hts ig_Di hown hK hH F_x9 rfl 3 (by decide) (hts _ mw_425) (fun _ h9 => h9) rfl d_Di_mark_55 ?_
      refine lv_iload_n hx hb d_Di_mark_58 rfl (lv_at hl 0 rfl) ?_
      refine hm_callPi (va_runV (As := [.int r_21]) (b := v_7) (rest := []) ⟨hx, hb, hml, hown, hts⟩ (t_mBase l D t G ak av h τ n v_7 r_21  hn hT c_8) ⟨cw9B 1 hts mw_60 mw_500 mw_32 rfl rfl (by decide +kernel) ⟨Nat.le_of_ble_eq_true rfl, Nat.le_of_ble_eq_true rfl⟩, hts _ mw_62, hts _ mw_63⟩ (hP_V (q := (R_Me, F_Me, 2)) kE_ok hE hK hH F_v_7 rfl) rfl rfl hl.1 rfl (lv_room (Nat.le_of_ble_eq_true rfl)) d_Di_mark_59 ⟨Nat.le_of_ble_eq_true rfl, Nat.le_of_ble_eq_true rfl⟩) (fun r_28 h_29 H_30 hp_32  hH z_31 => ?_)
      have hz : s.heap.size ≤ H_30.size := Nat.le_trans hz z_31
      obtain rfl := hp_32
      refine W.imp (fun _ h9 => Or.inl h9) ?_
      exact W.iret (v := r_28) hx hb hr (fun t9 ht hW => ⟨r_28, h, rfl, ⟨hT, hkf⟩, by rw [ht]; exact hH, by rw [ht]; exact hz⟩) hLo d_Di_mark_62
    · skip
      refine lv_tableIn (tgt := 63) hx hb d_Di_mark_23 (by omega) (by omega) (by rw [hsw]; rfl) (by decide) ?_
      refine lv_aload_n hx hb d_Di_mark_63 rfl (lv_at hl 1 rfl) ?_
      refine hm_get (ci := 8) (v := .ref v_7) (C := R_Di) (T := F_Di) (N := 9) hx hb hts ig_Di hown hK hH F_x9 rfl 3 (by decide) (hts _ mw_425) (fun _ h9 => h9) rfl d_Di_mark_64 ?_
      refine lv_iload_n hx hb d_Di_mark_67 rfl (lv_at hl 0 rfl) ?_
      refine hm_callPi (va_runV (As := [.int r_21]) (b := v_7) (rest := []) ⟨hx, hb, hml, hown, hts⟩ (t_mNum l D t G ak av h τ n v_7 r_21  hn hT c_8) ⟨cw9B 1 hts mw_56 mw_558 mw_32 rfl rfl (by decide +kernel) ⟨Nat.le_of_ble_eq_true rfl, Nat.le_of_ble_eq_true rfl⟩, hts _ mw_58, hts _ mw_59⟩ (hP_V (q := (R_Me, F_Me, 2)) kE_ok hE hK hH F_v_7 rfl) rfl rfl hl.1 rfl (lv_room (Nat.le_of_ble_eq_true rfl)) d_Di_mark_68 ⟨Nat.le_of_ble_eq_true rfl, Nat.le_of_ble_eq_true rfl⟩) (fun r_34 h_35 H_36 hp_38  hH z_37 => ?_)
      have hz : s.heap.size ≤ H_36.size := Nat.le_trans hz z_37
      obtain rfl := hp_38
      refine W.imp (fun _ h9 => Or.inl h9) ?_
      exact W.iret (v := r_34) hx hb hr (fun t9 ht hW => ⟨r_34, h, rfl, ⟨hT, hkf⟩, by rw [ht]; exact hH, by rw [ht]; exact hz⟩) hLo d_Di_mark_71
    · skip
      refine lv_tableIn (tgt := 72) hx hb d_Di_mark_23 (by omega) (by omega) (by rw [hsw]; rfl) (by decide) ?_
      refine lv_aload_n hx hb d_Di_mark_72 rfl (lv_at hl 1 rfl) ?_
      refine hm_get (ci := 8) (v := .ref v_3) (C := R_Di) (T := F_Di) (N := 9) hx hb hts ig_Di hown hK hH F_x9 rfl 1 (by decide) (hts _ mw_499) (fun _ h9 => h9) rfl d_Di_mark_73 ?_
      refine lv_aload_n hx hb d_Di_mark_76 rfl (lv_at hl 1 rfl) ?_
      refine hm_get (ci := 8) (v := .ref v_7) (C := R_Di) (T := F_Di) (N := 9) hx hb hts ig_Di hown hK hH F_x9 rfl 3 (by decide) (hts _ mw_425) (fun _ h9 => h9) rfl d_Di_mark_77 ?_
      refine lv_aload_n hx hb d_Di_mark_80 rfl (lv_at hl 1 rfl) ?_
      refine hm_get (ci := 8) (v := .ref v_7) (C := R_Di) (T := F_Di) (N := 9) hx hb hts ig_Di hown hK hH F_x9 rfl 3 (by decide) (hts _ mw_425) (fun _ h9 => h9) rfl d_Di_mark_81 ?_
      refine lv_iload_n hx hb d_Di_mark_84 rfl (lv_at hl 0 rfl) ?_
      refine hm_callPi (va_runV (As := [.int r_21]) (b := v_7) (rest := [.ref v_7, .ref v_3]) ⟨hx, hb, hml, hown, hts⟩ (t_mBase l D t G ak av h τ n v_7 r_21  hn hT c_8) ⟨cw9B 1 hts mw_60 mw_500 mw_32 rfl rfl (by decide +kernel) ⟨Nat.le_of_ble_eq_true rfl, Nat.le_of_ble_eq_true rfl⟩, hts _ mw_62, hts _ mw_63⟩ (hP_V (q := (R_Me, F_Me, 2)) kE_ok hE hK hH F_v_7 rfl) rfl rfl hl.1 rfl (lv_room (Nat.le_of_ble_eq_true rfl)) d_Di_mark_85 ⟨Nat.le_of_ble_eq_true rfl, Nat.le_of_ble_eq_true rfl⟩) (fun r_40 h_41 H_42 hp_44  hH z_43 => ?_)
      have hz : s.heap.size ≤ H_42.size := Nat.le_trans hz z_43
      obtain rfl := hp_44
      refine lv_aload_n hx hb d_Di_mark_88 rfl (lv_at hl 1 rfl) ?_
      refine hm_get (ci := 8) (v := .ref v_16) (C := R_Di) (T := F_Di) (N := 9) hx hb hts ig_Di hown hK hH F_x9 rfl 8 (by decide) (hts _ mw_501) (fun _ h9 => h9) rfl d_Di_mark_89 ?_
      obtain ⟨v_46, v_48, v_50, v_52, v_54, F_v_3, c_47, c_49, c_51, c_53⟩ := TI_rdr hT c_4
      refine hm_calli (va_runV (As := [.ref v_7, .int r_40, .ref v_16]) (b := v_3) (rest := []) ⟨hx, hb, hml, hown, hts⟩ (t_count l D t G ak av h τ n v_3 v_7 r_40 v_16  hn hT c_4 c_8 c_17) ⟨cw9B 3 hts mw_502 mw_503 mw_332 rfl rfl (by decide +kernel) ⟨Nat.le_of_ble_eq_true rfl, Nat.le_of_ble_eq_true rfl⟩, hts _ mw_504, hts _ mw_505⟩ (hP_V (q := (R_Re, F_Re, 5)) kE_ok hE hK hH F_v_3 rfl) rfl rfl hl.1 rfl (lv_room (Nat.le_of_ble_eq_true rfl)) d_Di_mark_92 ⟨Nat.le_of_ble_eq_true rfl, Nat.le_of_ble_eq_true rfl⟩) hLo (fun r_55 h_56 H_57 locs hp_59 hH z_58 hLo => ?_)
      have hz : s.heap.size ≤ H_57.size := Nat.le_trans hz z_58
      have hT0 := hT
      obtain ⟨hT, kf_61, xp_60⟩ := hp_59
      have F_x9 : h_56 x9 = some (.inr (8, [.ref v_1, .ref v_3, .ref v_5, .ref v_7, va_rf v_9, .int v_11, .int v_12, .ref v_14, .ref v_16])) := kf_at kf_61 T_x9 (by decide) (tnc (by decide) (tnc (by decide) (tnc (by decide) (tnc (by decide) tn0)))) (nmc (tne T_x9 c_4 (by decide)) nm0) F_x9
      have F_v_7 : h_56 v_7 = some (.inr (0, [.ref v_18, .int v_20])) := kf_at kf_61 c_8 (by decide) (tnc (by decide) (tnc (by decide) (tnc (by decide) (tnc (by decide) tn0)))) (nmc (tne c_8 c_4 (by decide)) nm0) F_v_7
      have hkf : kf τ [(10, 1), (10, 2), (5, 1), (7, 1), (6, 0)] [] h h_56 := kf_tr hkf kf_61 (List.forall_mem_cons.mpr ⟨List.mem_cons_self, List.forall_mem_cons.mpr ⟨(List.mem_cons_of_mem _ List.mem_cons_self), List.forall_mem_cons.mpr ⟨(List.mem_cons_of_mem _ (List.mem_cons_of_mem _ List.mem_cons_self)), List.forall_mem_cons.mpr ⟨(List.mem_cons_of_mem _ (List.mem_cons_of_mem _ (List.mem_cons_of_mem _ List.mem_cons_self))), List.forall_mem_nil _⟩⟩⟩⟩) (List.forall_mem_cons.mpr ⟨Or.inr (by rw [c_4]; exact (List.mem_cons_of_mem _ (List.mem_cons_of_mem _ (List.mem_cons_of_mem _ (List.mem_cons_of_mem _ List.mem_cons_self))))), List.forall_mem_nil _⟩)
      refine W.imp (fun _ h9 => Or.inl h9) ?_
      exact W.iret (v := r_55) hx hb hr (fun t9 ht hW => ⟨r_55, h_56, rfl, ⟨hT, hkf⟩, by rw [ht]; exact hH, by rw [ht]; exact hz⟩) hLo d_Di_mark_95
  · skip
    have ic_62 : r_21.toInt = (-1) := congrArg Int32.toInt hc_27
    refine W.imp (fun _ h9 => Or.inr h9) ?_
    exact hm_throw hx hb (hml.trans hl.1.symm) htr hlocks htab hown (hat9 hts hE1 hH0 (isRef9 (U9 hE.2.2.2.2 hH0)) (isRef9 (V9 hE.2.2.2.2 hH0))) (hts _ mw_883) (hts _ mw_884) hz (Nat.le_of_ble_eq_true rfl) (Nat.le_of_ble_eq_true rfl) (Nat.le_of_ble_eq_true rfl) (Nat.le_of_ble_eq_true rfl) d_Di_mark_14 d_Di_mark_17 d_Di_mark_18 d_Di_mark_21

set_option maxHeartbeats 4000000 in
set_option maxRecDepth 100000 in
theorem x_node (l : Launch) (D : va_G) (t : Nat → ClassId) (G : hG) (ak av : Nat → Nat) (h : hM) (hfl : l.flags = flags0) (τ : tM) (n : Nat) (x9 : Nat) (a9 : Int32) (b9 : Int32) (hn : n ≤ 200) (hT : TI τ t n h) (T_x9 : τ x9 = (1, 0)) : MetR l y_Di_node (.code y_Di_node b_Di_node 4 (some .int) :: lw_g) { frames := 6, cells := 1, slots := 6, locals := 90 } (hP (kF D t G ak av) D vwCl G h [.ref x9, .int a9, .int b9]) (hQi D vwCl G (fun r h' => TI τ t n h' ∧ kf τ [] [] h h')) G.P := by
  refine MetR.ofW (cc := b_Di_node) (maxL := 4) (ret := (some .int)) (by decide) rfl ?_
  intro p e s m args below meth c s₁ Bd hml htab hadm hv
  have htr : e.platform.stackTraces = false := Launch.traces_off hfl hadm
  obtain ⟨ha, ⟨hE, hE1⟩, hH⟩ := hv
  have hx := Bd.exec
  have hb := Bd.bytes
  have hr := Bd.returns
  have hts : ∀ w ∈ lw_g, w.before args s = true := fun w hw => atoms_spec (ws := (.code y_Di_node b_Di_node 4 (some .int) :: lw_g)) Bd.pre w (List.mem_cons_of_mem _ hw)
  have hown : s.vm.findClass R_Di = some m.cls := findClass_of_methodNamed Bd.named
  have hlocks := Bd.notSynchronized
  have hK := hE.1
  have hH0 := hH
  have hLo : hLc G.P [] := hLc_nil
  have hz : s.heap.size ≤ s.heap.size := Nat.le_refl _
  have hl := lv_entry [.ref x9, .int a9, .int b9] (n := 4) (Nat.le_of_ble_eq_true rfl)
  rw [show entryFrame m args 4 = F0 m 0 ((lg_sl [.ref x9, .int a9, .int b9] ++ List.replicate (4 - (lg_sl [.ref x9, .int a9, .int b9]).length) Slot.unset).toArray) [] from (by rw [ha]; exact lg_entry_eq m [.ref x9, .int a9, .int b9] 4)]
  generalize (lg_sl [.ref x9, .int a9, .int b9] ++ List.replicate (4 - (lg_sl [.ref x9, .int a9, .int b9]).length) Slot.unset).toArray = ls at hl ⊢
  have hl : lv_has ls 4 [(0, .ref x9), (1, .int a9), (2, .int b9)] := hl
  have hkf : kf τ [] [] h h := kf_rf
  refine lv_aload_n hx hb d_Di_node_0 rfl (lv_at hl 0 rfl) ?_
  refine lv_iload_n hx hb d_Di_node_1 rfl (lv_at hl 1 rfl) ?_
  obtain ⟨v_1, v_3, v_5, v_7, v_9, v_11, v_12, v_14, v_16, F_x9, c_2, c_4, c_6, c_8, c_10, c_13, c_15, c_17⟩ := TI_disc hT T_x9
  refine hm_callPr (va_runV (As := [.int a9]) (b := x9) (rest := []) ⟨hx, hb, hml, hown, hts⟩ (x_openedNode l D t G ak av h τ n x9 a9  hn hT T_x9) ⟨cw9B 1 hts mw_885 mw_886 mw_25 rfl rfl (by decide +kernel) ⟨Nat.le_of_ble_eq_true rfl, Nat.le_of_ble_eq_true rfl⟩, hts _ mw_887, hts _ mw_888⟩ (hP_V (q := (R_Di, F_Di, 9)) kE_ok hE hK hH F_x9 rfl) rfl rfl hl.1 rfl (lv_room (Nat.le_of_ble_eq_true rfl)) d_Di_node_2 ⟨Nat.le_of_ble_eq_true rfl, Nat.le_of_ble_eq_true rfl⟩) (fun r_18 h_19 H_20 hp_22  hH z_21 => ?_)
  have hz : s.heap.size ≤ H_20.size := Nat.le_trans hz z_21
  obtain ⟨c_23, rfl⟩ := hp_22
  rcases r_18 with _ | q_25
  · skip
    refine lv_astore_nN (lv' := [(3, .null), (0, .ref x9), (1, .int a9), (2, .int b9)]) hx hb d_Di_node_5 rfl hl (by decide) rfl (fun ls hl => ?_)
    refine lv_aload_nN hx hb d_Di_node_6 rfl (lv_at hl 0 rfl) ?_
    refine lv_ifnonnullN hx hb d_Di_node_7 ?_
    refine W.imp (fun _ h9 => Or.inr h9) ?_
    exact hm_throw hx hb (hml.trans hl.1.symm) htr hlocks htab hown (hat9 hts hE1 hH0 (isRef9 (U9 hE.2.2.2.2 hH0)) (isRef9 (V9 hE.2.2.2.2 hH0))) (hts _ mw_883) (hts _ mw_884) hz (Nat.le_of_ble_eq_true rfl) (Nat.le_of_ble_eq_true rfl) (Nat.le_of_ble_eq_true rfl) (Nat.le_of_ble_eq_true rfl) d_Di_node_10 d_Di_node_13 d_Di_node_14 d_Di_node_17
  · skip
    have T_26 := c_23 q_25 rfl
    refine lv_astore_n (lv' := [(3, .ref q_25), (0, .ref x9), (1, .int a9), (2, .int b9)]) hx hb d_Di_node_5 rfl hl (by decide) rfl (fun ls hl => ?_)
    refine lv_aload_n hx hb d_Di_node_6 rfl (lv_at hl 0 rfl) ?_
    refine lv_ifnonnull (tgt := 18) hx hb d_Di_node_7 (by decide) ?_
    refine lv_iload_n hx hb d_Di_node_18 rfl (lv_at hl 3 rfl) ?_
    rcases (show (b9.toInt < 0 ∨ 3 < b9.toInt) ∨ b9.toInt = 0 ∨ b9.toInt = 1 ∨ b9.toInt = 2 ∨ b9.toInt = 3 by omega) with hsw | hsw | hsw | hsw | hsw
    · skip
      refine lv_tableOut (tgt := 68) hx hb d_Di_node_19 hsw (by decide) ?_
      refine W.imp (fun _ h9 => Or.inr h9) ?_
      exact hm_throw hx hb (hml.trans hl.1.symm) htr hlocks htab hown (hat9 hts hE1 hH0 (isRef9 (U9 hE.2.2.2.2 hH0)) (isRef9 (V9 hE.2.2.2.2 hH0))) (hts _ mw_883) (hts _ mw_884) hz (Nat.le_of_ble_eq_true rfl) (Nat.le_of_ble_eq_true rfl) (Nat.le_of_ble_eq_true rfl) (Nat.le_of_ble_eq_true rfl) d_Di_node_68 d_Di_node_71 d_Di_node_72 d_Di_node_75
    · skip
      refine lv_tableIn (tgt := 48) hx hb d_Di_node_19 (by omega) (by omega) (by rw [hsw]; rfl) (by decide) ?_
      refine lv_aload_n hx hb d_Di_node_48 rfl (lv_at hl 0 rfl) ?_
      obtain ⟨v_27, v_28, v_30, v_32, v_33, v_35, v_36, v_37, v_39, v_40, v_41, F_q_25, c_29, c_31, c_34, c_38⟩ := TI_node hT T_26
      refine hm_callPi (va_runV (As := []) (b := q_25) (rest := []) ⟨hx, hb, hml, hown, hts⟩ (t_parNo2 l D t G ak av h τ n 1 q_25  hn hT T_26) ⟨cw9B 0 hts mw_512 mw_889 mw_106 rfl rfl (by decide +kernel) ⟨Nat.le_of_ble_eq_true rfl, Nat.le_of_ble_eq_true rfl⟩, hts _ mw_514, hts _ mw_515⟩ (hP_V (q := (R_No, F_No, 11)) kE_ok hE hK hH F_q_25 rfl) rfl rfl hl.1 rfl (lv_room (Nat.le_of_ble_eq_true rfl)) d_Di_node_49 ⟨Nat.le_of_ble_eq_true rfl, Nat.le_of_ble_eq_true rfl⟩) (fun r_42 h_43 H_44 hp_46  hH z_45 => ?_)
      have hz : s.heap.size ≤ H_44.size := Nat.le_trans hz z_45
      obtain ⟨xp_47, rfl⟩ := hp_46
      refine W.imp (fun _ h9 => Or.inl h9) ?_
      exact W.iret (v := r_42) hx hb hr (fun t9 ht hW => ⟨r_42, h, rfl, ⟨hT, hkf⟩, by rw [ht]; exact hH, by rw [ht]; exact hz⟩) hLo d_Di_node_52
    · skip
      refine lv_tableIn (tgt := 53) hx hb d_Di_node_19 (by omega) (by omega) (by rw [hsw]; rfl) (by decide) ?_
      refine lv_aload_n hx hb d_Di_node_53 rfl (lv_at hl 0 rfl) ?_
      obtain ⟨v_48, v_49, v_51, v_53, v_54, v_56, v_57, v_58, v_60, v_61, v_62, F_q_25, c_50, c_52, c_55, c_59⟩ := TI_node hT T_26
      refine hm_callPi (va_runV (As := []) (b := q_25) (rest := []) ⟨hx, hb, hml, hown, hts⟩ (t_sort l D t G ak av h τ n 1 q_25  hn hT T_26) ⟨cw9B 0 hts mw_890 mw_891 mw_106 rfl rfl (by decide +kernel) ⟨Nat.le_of_ble_eq_true rfl, Nat.le_of_ble_eq_true rfl⟩, hts _ mw_892, hts _ mw_893⟩ (hP_V (q := (R_No, F_No, 11)) kE_ok hE hK hH F_q_25 rfl) rfl rfl hl.1 rfl (lv_room (Nat.le_of_ble_eq_true rfl)) d_Di_node_54 ⟨Nat.le_of_ble_eq_true rfl, Nat.le_of_ble_eq_true rfl⟩) (fun r_63 h_64 H_65 hp_67  hH z_66 => ?_)
      have hz : s.heap.size ≤ H_65.size := Nat.le_trans hz z_66
      obtain rfl := hp_67
      refine W.imp (fun _ h9 => Or.inl h9) ?_
      exact W.iret (v := r_63) hx hb hr (fun t9 ht hW => ⟨r_63, h, rfl, ⟨hT, hkf⟩, by rw [ht]; exact hH, by rw [ht]; exact hz⟩) hLo d_Di_node_57
    · skip
      refine lv_tableIn (tgt := 58) hx hb d_Di_node_19 (by omega) (by omega) (by rw [hsw]; rfl) (by decide) ?_
      refine lv_aload_n hx hb d_Di_node_58 rfl (lv_at hl 0 rfl) ?_
      obtain ⟨v_69, v_70, v_72, v_74, v_75, v_77, v_78, v_79, v_81, v_82, v_83, F_q_25, c_71, c_73, c_76, c_80⟩ := TI_node hT T_26
      refine hm_get (ci := 1) (v := .int v_77) (C := R_No) (T := F_No) (N := 11) hx hb hts ig_No hown hK hH F_q_25 rfl 5 (by decide) (hts _ mw_894) (fun _ h9 => h9) rfl d_Di_node_59 ?_
      refine W.imp (fun _ h9 => Or.inl h9) ?_
      exact W.iret (v := v_77) hx hb hr (fun t9 ht hW => ⟨v_77, h, rfl, ⟨hT, hkf⟩, by rw [ht]; exact hH, by rw [ht]; exact hz⟩) hLo d_Di_node_62
    · skip
      refine lv_tableIn (tgt := 63) hx hb d_Di_node_19 (by omega) (by omega) (by rw [hsw]; rfl) (by decide) ?_
      refine lv_aload_n hx hb d_Di_node_63 rfl (lv_at hl 0 rfl) ?_
      obtain ⟨v_84, v_85, v_87, v_89, v_90, v_92, v_93, v_94, v_96, v_97, v_98, F_q_25, c_86, c_88, c_91, c_95⟩ := TI_node hT T_26
      refine hm_get (ci := 1) (v := .int v_97) (C := R_No) (T := F_No) (N := 11) hx hb hts ig_No hown hK hH F_q_25 rfl 9 (by decide) (hts _ mw_895) (fun _ h9 => h9) rfl d_Di_node_64 ?_
      refine W.imp (fun _ h9 => Or.inl h9) ?_
      exact W.iret (v := v_97) hx hb hr (fun t9 ht hW => ⟨v_97, h, rfl, ⟨hT, hkf⟩, by rw [ht]; exact hH, by rw [ht]; exact hz⟩) hLo d_Di_node_67

set_option maxHeartbeats 4000000 in
set_option maxRecDepth 100000 in
theorem x_name (l : Launch) (D : va_G) (t : Nat → ClassId) (G : hG) (ak av : Nat → Nat) (h : hM) (hfl : l.flags = flags0) (τ : tM) (n : Nat) (x9 : Nat) (a9 : Int32) (hn : n ≤ 200) (hT : TI τ t n h) (T_x9 : τ x9 = (1, 0)) : MetR l y_Di_name (.code y_Di_name b_Di_name 3 (some .long) :: lw_g) { frames := 6, cells := 1, slots := 6, locals := 90 } (hP (kF D t G ak av) D vwCl G h [.ref x9, .int a9]) (hQl D vwCl G (fun r h' => TI τ t n h' ∧ kf τ [] [] h h')) G.P := by
  refine MetR.ofW (cc := b_Di_name) (maxL := 3) (ret := (some .long)) (by decide) rfl ?_
  intro p e s m args below meth c s₁ Bd hml htab hadm hv
  have htr : e.platform.stackTraces = false := Launch.traces_off hfl hadm
  obtain ⟨ha, ⟨hE, hE1⟩, hH⟩ := hv
  have hx := Bd.exec
  have hb := Bd.bytes
  have hr := Bd.returns
  have hts : ∀ w ∈ lw_g, w.before args s = true := fun w hw => atoms_spec (ws := (.code y_Di_name b_Di_name 3 (some .long) :: lw_g)) Bd.pre w (List.mem_cons_of_mem _ hw)
  have hown : s.vm.findClass R_Di = some m.cls := findClass_of_methodNamed Bd.named
  have hlocks := Bd.notSynchronized
  have hK := hE.1
  have hH0 := hH
  have hLo : hLc G.P [] := hLc_nil
  have hz : s.heap.size ≤ s.heap.size := Nat.le_refl _
  have hl := lv_entry [.ref x9, .int a9] (n := 3) (Nat.le_of_ble_eq_true rfl)
  rw [show entryFrame m args 3 = F0 m 0 ((lg_sl [.ref x9, .int a9] ++ List.replicate (3 - (lg_sl [.ref x9, .int a9]).length) Slot.unset).toArray) [] from (by rw [ha]; exact lg_entry_eq m [.ref x9, .int a9] 3)]
  generalize (lg_sl [.ref x9, .int a9] ++ List.replicate (3 - (lg_sl [.ref x9, .int a9]).length) Slot.unset).toArray = ls at hl ⊢
  have hl : lv_has ls 3 [(0, .ref x9), (1, .int a9)] := hl
  have hkf : kf τ [] [] h h := kf_rf
  refine lv_aload_n hx hb d_Di_name_0 rfl (lv_at hl 0 rfl) ?_
  refine lv_iload_n hx hb d_Di_name_1 rfl (lv_at hl 1 rfl) ?_
  obtain ⟨v_1, v_3, v_5, v_7, v_9, v_11, v_12, v_14, v_16, F_x9, c_2, c_4, c_6, c_8, c_10, c_13, c_15, c_17⟩ := TI_disc hT T_x9
  refine hm_callPr (va_runV (As := [.int a9]) (b := x9) (rest := []) ⟨hx, hb, hml, hown, hts⟩ (x_openedNode l D t G ak av h τ n x9 a9  hn hT T_x9) ⟨cw9B 1 hts mw_885 mw_886 mw_25 rfl rfl (by decide +kernel) ⟨Nat.le_of_ble_eq_true rfl, Nat.le_of_ble_eq_true rfl⟩, hts _ mw_887, hts _ mw_888⟩ (hP_V (q := (R_Di, F_Di, 9)) kE_ok hE hK hH F_x9 rfl) rfl rfl hl.1 rfl (lv_room (Nat.le_of_ble_eq_true rfl)) d_Di_name_2 ⟨Nat.le_of_ble_eq_true rfl, Nat.le_of_ble_eq_true rfl⟩) (fun r_18 h_19 H_20 hp_22  hH z_21 => ?_)
  have hz : s.heap.size ≤ H_20.size := Nat.le_trans hz z_21
  obtain ⟨c_23, rfl⟩ := hp_22
  rcases r_18 with _ | q_25
  · skip
    refine lv_astore_nN (lv' := [(2, .null), (0, .ref x9), (1, .int a9)]) hx hb d_Di_name_5 rfl hl (by decide) rfl (fun ls hl => ?_)
    refine lv_aload_nN hx hb d_Di_name_6 rfl (lv_at hl 0 rfl) ?_
    refine lv_ifnonnullN hx hb d_Di_name_7 ?_
    refine W.imp (fun _ h9 => Or.inr h9) ?_
    exact hm_throw hx hb (hml.trans hl.1.symm) htr hlocks htab hown (hat9 hts hE1 hH0 (isRef9 (U9 hE.2.2.2.2 hH0)) (isRef9 (V9 hE.2.2.2.2 hH0))) (hts _ mw_883) (hts _ mw_884) hz (Nat.le_of_ble_eq_true rfl) (Nat.le_of_ble_eq_true rfl) (Nat.le_of_ble_eq_true rfl) (Nat.le_of_ble_eq_true rfl) d_Di_name_10 d_Di_name_13 d_Di_name_14 d_Di_name_17
  · skip
    have T_26 := c_23 q_25 rfl
    refine lv_astore_n (lv' := [(2, .ref q_25), (0, .ref x9), (1, .int a9)]) hx hb d_Di_name_5 rfl hl (by decide) rfl (fun ls hl => ?_)
    refine lv_aload_n hx hb d_Di_name_6 rfl (lv_at hl 0 rfl) ?_
    refine lv_ifnonnull (tgt := 18) hx hb d_Di_name_7 (by decide) ?_
    refine lv_aload_n hx hb d_Di_name_18 rfl (lv_at hl 0 rfl) ?_
    obtain ⟨v_27, v_28, v_30, v_32, v_33, v_35, v_36, v_37, v_39, v_40, v_41, F_q_25, c_29, c_31, c_34, c_38⟩ := TI_node hT T_26
    refine hm_get (ci := 1) (v := .long v_32) (C := R_No) (T := F_No) (N := 11) hx hb hts ig_No hown hK hH F_q_25 rfl 3 (by decide) (hts _ mw_896) (fun _ h9 => h9) rfl d_Di_name_19 ?_
    refine W.imp (fun _ h9 => Or.inl h9) ?_
    exact W.lret (v := v_32) hx hb hr (fun t9 ht hW => ⟨v_32, h, rfl, ⟨hT, hkf⟩, by rw [ht]; exact hH, by rw [ht]; exact hz⟩) hLo d_Di_name_22

set_option maxHeartbeats 4000000 in
set_option maxRecDepth 100000 in
theorem x_read (l : Launch) (D : va_G) (t : Nat → ClassId) (G : hG) (ak av : Nat → Nat) (h : hM) (hfl : l.flags = flags0) (τ : tM) (n : Nat) (x9 : Nat) (a9 : Int32) (b9 : Int32) (hn : n ≤ 200) (hT : TI τ t n h) (T_x9 : τ x9 = (1, 0)) : MetR l y_Di_read (.code y_Di_read b_Di_read 4 (some .int) :: lw_g) { frames := 6, cells := 1, slots := 6, locals := 90 } (hP (kF D t G ak av) D vwCl G h [.ref x9, .int a9, .int b9]) (hQi D vwCl G (fun r h' => TI τ t n h' ∧ kf τ [] [] h h')) G.P := by
  refine MetR.ofW (cc := b_Di_read) (maxL := 4) (ret := (some .int)) (by decide) rfl ?_
  intro p e s m args below meth c s₁ Bd hml htab hadm hv
  have htr : e.platform.stackTraces = false := Launch.traces_off hfl hadm
  obtain ⟨ha, ⟨hE, hE1⟩, hH⟩ := hv
  have hx := Bd.exec
  have hb := Bd.bytes
  have hr := Bd.returns
  have hts : ∀ w ∈ lw_g, w.before args s = true := fun w hw => atoms_spec (ws := (.code y_Di_read b_Di_read 4 (some .int) :: lw_g)) Bd.pre w (List.mem_cons_of_mem _ hw)
  have hown : s.vm.findClass R_Di = some m.cls := findClass_of_methodNamed Bd.named
  have hlocks := Bd.notSynchronized
  have hK := hE.1
  have hH0 := hH
  have hLo : hLc G.P [] := hLc_nil
  have hz : s.heap.size ≤ s.heap.size := Nat.le_refl _
  have hl := lv_entry [.ref x9, .int a9, .int b9] (n := 4) (Nat.le_of_ble_eq_true rfl)
  rw [show entryFrame m args 4 = F0 m 0 ((lg_sl [.ref x9, .int a9, .int b9] ++ List.replicate (4 - (lg_sl [.ref x9, .int a9, .int b9]).length) Slot.unset).toArray) [] from (by rw [ha]; exact lg_entry_eq m [.ref x9, .int a9, .int b9] 4)]
  generalize (lg_sl [.ref x9, .int a9, .int b9] ++ List.replicate (4 - (lg_sl [.ref x9, .int a9, .int b9]).length) Slot.unset).toArray = ls at hl ⊢
  have hl : lv_has ls 4 [(0, .ref x9), (1, .int a9), (2, .int b9)] := hl
  have hkf : kf τ [] [] h h := kf_rf
  refine lv_aload_n hx hb d_Di_read_0 rfl (lv_at hl 0 rfl) ?_
  refine lv_iload_n hx hb d_Di_read_1 rfl (lv_at hl 1 rfl) ?_
  obtain ⟨v_1, v_3, v_5, v_7, v_9, v_11, v_12, v_14, v_16, F_x9, c_2, c_4, c_6, c_8, c_10, c_13, c_15, c_17⟩ := TI_disc hT T_x9
  refine hm_callPr (va_runV (As := [.int a9]) (b := x9) (rest := []) ⟨hx, hb, hml, hown, hts⟩ (x_openedNode l D t G ak av h τ n x9 a9  hn hT T_x9) ⟨cw9B 1 hts mw_885 mw_886 mw_25 rfl rfl (by decide +kernel) ⟨Nat.le_of_ble_eq_true rfl, Nat.le_of_ble_eq_true rfl⟩, hts _ mw_887, hts _ mw_888⟩ (hP_V (q := (R_Di, F_Di, 9)) kE_ok hE hK hH F_x9 rfl) rfl rfl hl.1 rfl (lv_room (Nat.le_of_ble_eq_true rfl)) d_Di_read_2 ⟨Nat.le_of_ble_eq_true rfl, Nat.le_of_ble_eq_true rfl⟩) (fun r_18 h_19 H_20 hp_22  hH z_21 => ?_)
  have hz : s.heap.size ≤ H_20.size := Nat.le_trans hz z_21
  obtain ⟨c_23, rfl⟩ := hp_22
  rcases r_18 with _ | q_25
  · skip
    refine lv_astore_nN (lv' := [(3, .null), (0, .ref x9), (1, .int a9), (2, .int b9)]) hx hb d_Di_read_5 rfl hl (by decide) rfl (fun ls hl => ?_)
    refine lv_aload_nN hx hb d_Di_read_6 rfl (lv_at hl 0 rfl) ?_
    refine lv_ifnullN (tgt := 29) hx hb d_Di_read_7 (by decide) ?_
    refine W.imp (fun _ h9 => Or.inr h9) ?_
    exact hm_throw hx hb (hml.trans hl.1.symm) htr hlocks htab hown (hat9 hts hE1 hH0 (isRef9 (U9 hE.2.2.2.2 hH0)) (isRef9 (V9 hE.2.2.2.2 hH0))) (hts _ mw_883) (hts _ mw_884) hz (Nat.le_of_ble_eq_true rfl) (Nat.le_of_ble_eq_true rfl) (Nat.le_of_ble_eq_true rfl) (Nat.le_of_ble_eq_true rfl) d_Di_read_29 d_Di_read_32 d_Di_read_33 d_Di_read_36
  · skip
    have T_26 := c_23 q_25 rfl
    refine lv_astore_n (lv' := [(3, .ref q_25), (0, .ref x9), (1, .int a9), (2, .int b9)]) hx hb d_Di_read_5 rfl hl (by decide) rfl (fun ls hl => ?_)
    refine lv_aload_n hx hb d_Di_read_6 rfl (lv_at hl 0 rfl) ?_
    refine lv_ifnull hx hb d_Di_read_7 ?_
    refine lv_aload_n hx hb d_Di_read_10 rfl (lv_at hl 0 rfl) ?_
    obtain ⟨v_27, v_28, v_30, v_32, v_33, v_35, v_36, v_37, v_39, v_40, v_41, F_q_25, c_29, c_31, c_34, c_38⟩ := TI_node hT T_26
    refine hm_get (ci := 1) (v := .int v_30) (C := R_No) (T := F_No) (N := 11) hx hb hts ig_No hown hK hH F_q_25 rfl 2 (by decide) (hts _ mw_445) (fun _ h9 => h9) rfl d_Di_read_11 ?_
    refine lv_if_ne (tgt := 29) hx hb d_Di_read_14 (by decide) (fun hc_42 => ?_) (fun hc_42 => ?_)
    · skip
      refine W.imp (fun _ h9 => Or.inr h9) ?_
      exact hm_throw hx hb (hml.trans hl.1.symm) htr hlocks htab hown (hat9 hts hE1 hH0 (isRef9 (U9 hE.2.2.2.2 hH0)) (isRef9 (V9 hE.2.2.2.2 hH0))) (hts _ mw_883) (hts _ mw_884) hz (Nat.le_of_ble_eq_true rfl) (Nat.le_of_ble_eq_true rfl) (Nat.le_of_ble_eq_true rfl) (Nat.le_of_ble_eq_true rfl) d_Di_read_29 d_Di_read_32 d_Di_read_33 d_Di_read_36
    · skip
      have ic_43 : v_30.toInt = 0 := congrArg Int32.toInt hc_42
      refine lv_iload_n hx hb d_Di_read_17 rfl (lv_at hl 3 rfl) ?_
      refine lv_if_lt (tgt := 29) hx hb d_Di_read_18 (by decide) (fun hc_44 => ?_) (fun hc_44 => ?_)
      · skip
        have ic_45 : b9.toInt < 0 := iLt hc_44
        refine W.imp (fun _ h9 => Or.inr h9) ?_
        exact hm_throw hx hb (hml.trans hl.1.symm) htr hlocks htab hown (hat9 hts hE1 hH0 (isRef9 (U9 hE.2.2.2.2 hH0)) (isRef9 (V9 hE.2.2.2.2 hH0))) (hts _ mw_883) (hts _ mw_884) hz (Nat.le_of_ble_eq_true rfl) (Nat.le_of_ble_eq_true rfl) (Nat.le_of_ble_eq_true rfl) (Nat.le_of_ble_eq_true rfl) d_Di_read_29 d_Di_read_32 d_Di_read_33 d_Di_read_36
      · skip
        have ic_46 : 0 ≤ b9.toInt := iNl hc_44
        refine lv_iload_n hx hb d_Di_read_21 rfl (lv_at hl 3 rfl) ?_
        refine lv_aload_n hx hb d_Di_read_22 rfl (lv_at hl 0 rfl) ?_
        refine hm_get (ci := 1) (v := .int v_35) (C := R_No) (T := F_No) (N := 11) hx hb hts ig_No hown hK hH F_q_25 rfl 5 (by decide) (hts _ mw_894) (fun _ h9 => h9) rfl d_Di_read_23 ?_
        refine lv_icmp_lt (tgt := 37) hx hb d_Di_read_26 (by decide) (fun hc_47 => ?_) (fun hc_47 => ?_)
        · skip
          have ic_48 : b9.toInt < v_35.toInt := iLt hc_47
          have iu_49 : v_35.toInt < 2147483648 := iUp _
          refine lv_aload_n hx hb d_Di_read_37 rfl (lv_at hl 1 rfl) ?_
          refine hm_get (ci := 8) (v := .ref v_7) (C := R_Di) (T := F_Di) (N := 9) hx hb hts ig_Di hown hK hH F_x9 rfl 3 (by decide) (hts _ mw_425) (fun _ h9 => h9) rfl d_Di_read_38 ?_
          refine lv_aload_n hx hb d_Di_read_41 rfl (lv_at hl 0 rfl) ?_
          refine hm_get (ci := 1) (v := .int v_40) (C := R_No) (T := F_No) (N := 11) hx hb hts ig_No hown hK hH F_q_25 rfl 9 (by decide) (hts _ mw_895) (fun _ h9 => h9) rfl d_Di_read_42 ?_
          refine lv_sipush (v := 2048) hx hb d_Di_read_45 (by decide) ?_
          refine lv_imul hx hb d_Di_read_48 ?_
          refine lv_iload_n hx hb d_Di_read_49 rfl (lv_at hl 3 rfl) ?_
          refine lv_iadd hx hb d_Di_read_50 ?_
          obtain ⟨v_50, v_52, F_v_7, c_51⟩ := TI_med hT c_8
          refine hm_callPi (va_runV (As := [.int ((v_40 * 2048) + b9)]) (b := v_7) (rest := []) ⟨hx, hb, hml, hown, hts⟩ (t_fetch l D t G ak av h τ n v_7 ((v_40 * 2048) + b9)  hn hT c_8) ⟨cw9B 1 hts mw_31 mw_436 mw_32 rfl rfl (by decide +kernel) ⟨Nat.le_of_ble_eq_true rfl, Nat.le_of_ble_eq_true rfl⟩, hts _ mw_34, hts _ mw_35⟩ (hP_V (q := (R_Me, F_Me, 2)) kE_ok hE hK hH F_v_7 rfl) rfl rfl hl.1 rfl (lv_room (Nat.le_of_ble_eq_true rfl)) d_Di_read_51 ⟨Nat.le_of_ble_eq_true rfl, Nat.le_of_ble_eq_true rfl⟩) (fun r_53 h_54 H_55 hp_57  hH z_56 => ?_)
          have hz : s.heap.size ≤ H_55.size := Nat.le_trans hz z_56
          obtain ⟨xp_58, rfl⟩ := hp_57
          refine W.imp (fun _ h9 => Or.inl h9) ?_
          exact W.iret (v := r_53) hx hb hr (fun t9 ht hW => ⟨r_53, h, rfl, ⟨hT, hkf⟩, by rw [ht]; exact hH, by rw [ht]; exact hz⟩) hLo d_Di_read_54
        · skip
          have ic_59 : v_35.toInt ≤ b9.toInt := iNl hc_47
          refine W.imp (fun _ h9 => Or.inr h9) ?_
          exact hm_throw hx hb (hml.trans hl.1.symm) htr hlocks htab hown (hat9 hts hE1 hH0 (isRef9 (U9 hE.2.2.2.2 hH0)) (isRef9 (V9 hE.2.2.2.2 hH0))) (hts _ mw_883) (hts _ mw_884) hz (Nat.le_of_ble_eq_true rfl) (Nat.le_of_ble_eq_true rfl) (Nat.le_of_ble_eq_true rfl) (Nat.le_of_ble_eq_true rfl) d_Di_read_29 d_Di_read_32 d_Di_read_33 d_Di_read_36

set_option maxHeartbeats 4000000 in
set_option maxRecDepth 100000 in
theorem x_tree (l : Launch) (D : va_G) (t : Nat → ClassId) (G : hG) (ak av : Nat → Nat) (h : hM) (hfl : l.flags = flags0) (τ : tM) (n : Nat) (x9 : Nat) (a9 : Int32) (b9 : Int32) (hn : n ≤ 200) (hT : TI τ t n h) (T_x9 : τ x9 = (1, 0)) : MetR l y_Di_tree (.code y_Di_tree b_Di_tree 4 (some .int) :: lw_g) { frames := 6, cells := 1, slots := 6, locals := 90 } (hP (kF D t G ak av) D vwCl G h [.ref x9, .int a9, .int b9]) (hQi D vwCl G (fun r h' => TI τ t n h' ∧ kf τ [] [] h h')) G.P := by
  refine MetR.ofW (cc := b_Di_tree) (maxL := 4) (ret := (some .int)) (by decide) rfl ?_
  intro p e s m args below meth c s₁ Bd hml htab hadm hv
  have htr : e.platform.stackTraces = false := Launch.traces_off hfl hadm
  obtain ⟨ha, ⟨hE, hE1⟩, hH⟩ := hv
  have hx := Bd.exec
  have hb := Bd.bytes
  have hr := Bd.returns
  have hts : ∀ w ∈ lw_g, w.before args s = true := fun w hw => atoms_spec (ws := (.code y_Di_tree b_Di_tree 4 (some .int) :: lw_g)) Bd.pre w (List.mem_cons_of_mem _ hw)
  have hown : s.vm.findClass R_Di = some m.cls := findClass_of_methodNamed Bd.named
  have hlocks := Bd.notSynchronized
  have hK := hE.1
  have hH0 := hH
  have hLo : hLc G.P [] := hLc_nil
  have hz : s.heap.size ≤ s.heap.size := Nat.le_refl _
  have hl := lv_entry [.ref x9, .int a9, .int b9] (n := 4) (Nat.le_of_ble_eq_true rfl)
  rw [show entryFrame m args 4 = F0 m 0 ((lg_sl [.ref x9, .int a9, .int b9] ++ List.replicate (4 - (lg_sl [.ref x9, .int a9, .int b9]).length) Slot.unset).toArray) [] from (by rw [ha]; exact lg_entry_eq m [.ref x9, .int a9, .int b9] 4)]
  generalize (lg_sl [.ref x9, .int a9, .int b9] ++ List.replicate (4 - (lg_sl [.ref x9, .int a9, .int b9]).length) Slot.unset).toArray = ls at hl ⊢
  have hl : lv_has ls 4 [(0, .ref x9), (1, .int a9), (2, .int b9)] := hl
  have hkf : kf τ [] [] h h := kf_rf
  refine lv_aload_n hx hb d_Di_tree_0 rfl (lv_at hl 0 rfl) ?_
  obtain ⟨v_1, v_3, v_5, v_7, v_9, v_11, v_12, v_14, v_16, F_x9, c_2, c_4, c_6, c_8, c_10, c_13, c_15, c_17⟩ := TI_disc hT T_x9
  refine hm_get (ci := 8) (v := .ref v_5) (C := R_Di) (T := F_Di) (N := 9) hx hb hts ig_Di hown hK hH F_x9 rfl 2 (by decide) (hts _ mw_443) (fun _ h9 => h9) rfl d_Di_tree_1 ?_
  refine lv_iload_n hx hb d_Di_tree_4 rfl (lv_at hl 1 rfl) ?_
  obtain ⟨v_18, v_20, v_22, v_24, F_v_5, c_19, c_21, c_23⟩ := TI_nds hT c_6
  refine hm_callPr (va_runV (As := [.int a9]) (b := v_5) (rest := []) ⟨hx, hb, hml, hown, hts⟩ (t_nodeOf l D t G ak av h τ n 0 v_5 a9  hn hT c_6) ⟨cw9B 1 hts mw_131 mw_444 mw_132 rfl rfl (by decide +kernel) ⟨Nat.le_of_ble_eq_true rfl, Nat.le_of_ble_eq_true rfl⟩, hts _ mw_134, hts _ mw_135⟩ (hP_V (q := (R_Ns, F_Ns, 4)) kE_ok hE hK hH F_v_5 rfl) rfl rfl hl.1 rfl (lv_room (Nat.le_of_ble_eq_true rfl)) d_Di_tree_5 ⟨Nat.le_of_ble_eq_true rfl, Nat.le_of_ble_eq_true rfl⟩) (fun r_25 h_26 H_27 hp_29  hH z_28 => ?_)
  have hz : s.heap.size ≤ H_27.size := Nat.le_trans hz z_28
  obtain ⟨c_30, xp_31, rfl⟩ := hp_29
  rcases r_25 with _ | q_32
  · skip
    refine lv_astore_nN (lv' := [(3, .null), (0, .ref x9), (1, .int a9), (2, .int b9)]) hx hb d_Di_tree_8 rfl hl (by decide) rfl (fun ls hl => ?_)
    refine lv_aload_nN hx hb d_Di_tree_9 rfl (lv_at hl 0 rfl) ?_
    refine lv_ifnonnullN hx hb d_Di_tree_10 ?_
    refine W.imp (fun _ h9 => Or.inr h9) ?_
    exact hm_throw hx hb (hml.trans hl.1.symm) htr hlocks htab hown (hat9 hts hE1 hH0 (isRef9 (U9 hE.2.2.2.2 hH0)) (isRef9 (V9 hE.2.2.2.2 hH0))) (hts _ mw_883) (hts _ mw_884) hz (Nat.le_of_ble_eq_true rfl) (Nat.le_of_ble_eq_true rfl) (Nat.le_of_ble_eq_true rfl) (Nat.le_of_ble_eq_true rfl) d_Di_tree_13 d_Di_tree_16 d_Di_tree_17 d_Di_tree_20
  · skip
    have T_33 := c_30 q_32 rfl
    refine lv_astore_n (lv' := [(3, .ref q_32), (0, .ref x9), (1, .int a9), (2, .int b9)]) hx hb d_Di_tree_8 rfl hl (by decide) rfl (fun ls hl => ?_)
    refine lv_aload_n hx hb d_Di_tree_9 rfl (lv_at hl 0 rfl) ?_
    refine lv_ifnonnull (tgt := 21) hx hb d_Di_tree_10 (by decide) ?_
    refine lv_iload_n hx hb d_Di_tree_21 rfl (lv_at hl 3 rfl) ?_
    rcases (show (b9.toInt < 0 ∨ 4 < b9.toInt) ∨ b9.toInt = 0 ∨ b9.toInt = 1 ∨ b9.toInt = 2 ∨ b9.toInt = 3 ∨ b9.toInt = 4 by omega) with hsw | hsw | hsw | hsw | hsw | hsw
    · skip
      refine lv_tableOut (tgt := 81) hx hb d_Di_tree_22 hsw (by decide) ?_
      refine W.imp (fun _ h9 => Or.inr h9) ?_
      exact hm_throw hx hb (hml.trans hl.1.symm) htr hlocks htab hown (hat9 hts hE1 hH0 (isRef9 (U9 hE.2.2.2.2 hH0)) (isRef9 (V9 hE.2.2.2.2 hH0))) (hts _ mw_883) (hts _ mw_884) hz (Nat.le_of_ble_eq_true rfl) (Nat.le_of_ble_eq_true rfl) (Nat.le_of_ble_eq_true rfl) (Nat.le_of_ble_eq_true rfl) d_Di_tree_81 d_Di_tree_84 d_Di_tree_85 d_Di_tree_88
    · skip
      refine lv_tableIn (tgt := 56) hx hb d_Di_tree_22 (by omega) (by omega) (by rw [hsw]; rfl) (by decide) ?_
      refine lv_aload_n hx hb d_Di_tree_56 rfl (lv_at hl 0 rfl) ?_
      obtain ⟨v_34, v_35, v_37, v_39, v_40, v_42, v_43, v_44, v_46, v_47, v_48, F_q_32, c_36, c_38, c_41, c_45⟩ := TI_node hT T_33
      refine hm_callPi (va_runV (As := []) (b := q_32) (rest := []) ⟨hx, hb, hml, hown, hts⟩ (t_parNo2 l D t G ak av h τ n 0 q_32  hn hT T_33) ⟨cw9B 0 hts mw_512 mw_889 mw_106 rfl rfl (by decide +kernel) ⟨Nat.le_of_ble_eq_true rfl, Nat.le_of_ble_eq_true rfl⟩, hts _ mw_514, hts _ mw_515⟩ (hP_V (q := (R_No, F_No, 11)) kE_ok hE hK hH F_q_32 rfl) rfl rfl hl.1 rfl (lv_room (Nat.le_of_ble_eq_true rfl)) d_Di_tree_57 ⟨Nat.le_of_ble_eq_true rfl, Nat.le_of_ble_eq_true rfl⟩) (fun r_49 h_50 H_51 hp_53  hH z_52 => ?_)
      have hz : s.heap.size ≤ H_51.size := Nat.le_trans hz z_52
      obtain ⟨xp_54, rfl⟩ := hp_53
      refine W.imp (fun _ h9 => Or.inl h9) ?_
      exact W.iret (v := r_49) hx hb hr (fun t9 ht hW => ⟨r_49, h, rfl, ⟨hT, hkf⟩, by rw [ht]; exact hH, by rw [ht]; exact hz⟩) hLo d_Di_tree_60
    · skip
      refine lv_tableIn (tgt := 61) hx hb d_Di_tree_22 (by omega) (by omega) (by rw [hsw]; rfl) (by decide) ?_
      refine lv_aload_n hx hb d_Di_tree_61 rfl (lv_at hl 0 rfl) ?_
      obtain ⟨v_55, v_56, v_58, v_60, v_61, v_63, v_64, v_65, v_67, v_68, v_69, F_q_32, c_57, c_59, c_62, c_66⟩ := TI_node hT T_33
      refine hm_callPi (va_runV (As := []) (b := q_32) (rest := []) ⟨hx, hb, hml, hown, hts⟩ (t_sort l D t G ak av h τ n 0 q_32  hn hT T_33) ⟨cw9B 0 hts mw_890 mw_891 mw_106 rfl rfl (by decide +kernel) ⟨Nat.le_of_ble_eq_true rfl, Nat.le_of_ble_eq_true rfl⟩, hts _ mw_892, hts _ mw_893⟩ (hP_V (q := (R_No, F_No, 11)) kE_ok hE hK hH F_q_32 rfl) rfl rfl hl.1 rfl (lv_room (Nat.le_of_ble_eq_true rfl)) d_Di_tree_62 ⟨Nat.le_of_ble_eq_true rfl, Nat.le_of_ble_eq_true rfl⟩) (fun r_70 h_71 H_72 hp_74  hH z_73 => ?_)
      have hz : s.heap.size ≤ H_72.size := Nat.le_trans hz z_73
      obtain rfl := hp_74
      refine W.imp (fun _ h9 => Or.inl h9) ?_
      exact W.iret (v := r_70) hx hb hr (fun t9 ht hW => ⟨r_70, h, rfl, ⟨hT, hkf⟩, by rw [ht]; exact hH, by rw [ht]; exact hz⟩) hLo d_Di_tree_65
    · skip
      refine lv_tableIn (tgt := 66) hx hb d_Di_tree_22 (by omega) (by omega) (by rw [hsw]; rfl) (by decide) ?_
      refine lv_aload_n hx hb d_Di_tree_66 rfl (lv_at hl 0 rfl) ?_
      obtain ⟨v_76, v_77, v_79, v_81, v_82, v_84, v_85, v_86, v_88, v_89, v_90, F_q_32, c_78, c_80, c_83, c_87⟩ := TI_node hT T_33
      refine hm_get (ci := 1) (v := .int v_84) (C := R_No) (T := F_No) (N := 11) hx hb hts ig_No hown hK hH F_q_32 rfl 5 (by decide) (hts _ mw_894) (fun _ h9 => h9) rfl d_Di_tree_67 ?_
      refine W.imp (fun _ h9 => Or.inl h9) ?_
      exact W.iret (v := v_84) hx hb hr (fun t9 ht hW => ⟨v_84, h, rfl, ⟨hT, hkf⟩, by rw [ht]; exact hH, by rw [ht]; exact hz⟩) hLo d_Di_tree_70
    · skip
      refine lv_tableIn (tgt := 71) hx hb d_Di_tree_22 (by omega) (by omega) (by rw [hsw]; rfl) (by decide) ?_
      refine lv_aload_n hx hb d_Di_tree_71 rfl (lv_at hl 0 rfl) ?_
      obtain ⟨v_91, v_92, v_94, v_96, v_97, v_99, v_100, v_101, v_103, v_104, v_105, F_q_32, c_93, c_95, c_98, c_102⟩ := TI_node hT T_33
      refine hm_get (ci := 1) (v := .int v_100) (C := R_No) (T := F_No) (N := 11) hx hb hts ig_No hown hK hH F_q_32 rfl 6 (by decide) (hts _ mw_897) (fun _ h9 => h9) rfl d_Di_tree_72 ?_
      refine W.imp (fun _ h9 => Or.inl h9) ?_
      exact W.iret (v := v_100) hx hb hr (fun t9 ht hW => ⟨v_100, h, rfl, ⟨hT, hkf⟩, by rw [ht]; exact hH, by rw [ht]; exact hz⟩) hLo d_Di_tree_75
    · skip
      refine lv_tableIn (tgt := 76) hx hb d_Di_tree_22 (by omega) (by omega) (by rw [hsw]; rfl) (by decide) ?_
      refine lv_aload_n hx hb d_Di_tree_76 rfl (lv_at hl 0 rfl) ?_
      obtain ⟨v_106, v_107, v_109, v_111, v_112, v_114, v_115, v_116, v_118, v_119, v_120, F_q_32, c_108, c_110, c_113, c_117⟩ := TI_node hT T_33
      refine hm_get (ci := 1) (v := .int v_118) (C := R_No) (T := F_No) (N := 11) hx hb hts ig_No hown hK hH F_q_32 rfl 8 (by decide) (hts _ mw_898) (fun _ h9 => h9) rfl d_Di_tree_77 ?_
      refine W.imp (fun _ h9 => Or.inl h9) ?_
      exact W.iret (v := v_118) hx hb hr (fun t9 ht hW => ⟨v_118, h, rfl, ⟨hT, hkf⟩, by rw [ht]; exact hH, by rw [ht]; exact hz⟩) hLo d_Di_tree_80

set_option maxHeartbeats 4000000 in
set_option maxRecDepth 100000 in
theorem h_mark (l : Launch) (D : va_G) (t : Nat → ClassId) (G : hG) (ak av : Nat → Nat) (h : hM) (hfl : l.flags = flags0) (τ : tM) (n : Nat) (x9 : Nat) (a9 : Int32) (b9 : Int32) (ou : Nat) (hn : n ≤ 200) (hT : TI τ t n h) (T_x9 : τ x9 = (1, 0)) (T_ou : τ ou = (14, 0)) : Met l y_La_mark (Cond.codeWith y_La_mark b_La_mark 5 (some .int) [(0, 10, 13, 13)] :: lw_g) { frames := 11, cells := 1, slots := 6, locals := 252 } (hP (kF D t G ak av) D vwCl G h [.ref x9, .int a9, .int b9, .ref ou]) (hQi D vwCl G (fun r h' => TI τ t n h' ∧ kf τ [(10, 1), (10, 2), (5, 1), (7, 1), (6, 0), (14, 0)] [] h h')) 1 6 G.P := by
  refine va_MetW (cc := b_La_mark) (maxL := 5) (ret := (some .int)) (by decide) rfl ?_
  intro p e s m args below meth c s₁ Bd hml hv
  obtain ⟨m9, meth9, c9, n1, n2, n3, -, -, n4, -⟩ := Cond.codeWith_spec (atoms_spec (ws := (Cond.codeWith y_La_mark b_La_mark 5 (some .int) [(0, 10, 13, 13)] :: lw_g)) Bd.pre _ List.mem_cons_self)
  cases Bd.named.symm.trans n1
  cases Bd.method.symm.trans n2
  cases (Stand.of_body Bd).code.symm.trans n3
  obtain ⟨tx, htab, tx1, tx2, tx3, tx4⟩ := tab1 n4
  obtain ⟨ha, ⟨hE, hE1⟩, hH⟩ := hv
  have hx := Bd.exec
  have hb := Bd.bytes
  have hr := Bd.returns
  have hts : ∀ w ∈ lw_g, w.before args s = true := fun w hw => atoms_spec (ws := (Cond.codeWith y_La_mark b_La_mark 5 (some .int) [(0, 10, 13, 13)] :: lw_g)) Bd.pre w (List.mem_cons_of_mem _ hw)
  have hown : s.vm.findClass R_La = some m.cls := findClass_of_methodNamed Bd.named
  have hlocks := Bd.notSynchronized
  have hK := hE.1
  have hH0 := hH
  have hLo : hLc G.P [] := hLc_nil
  have hz : s.heap.size ≤ s.heap.size := Nat.le_refl _
  have hl := lv_entry [.ref x9, .int a9, .int b9, .ref ou] (n := 5) (Nat.le_of_ble_eq_true rfl)
  rw [show entryFrame m args 5 = F0 m 0 ((lg_sl [.ref x9, .int a9, .int b9, .ref ou] ++ List.replicate (5 - (lg_sl [.ref x9, .int a9, .int b9, .ref ou]).length) Slot.unset).toArray) [] from (by rw [ha]; exact lg_entry_eq m [.ref x9, .int a9, .int b9, .ref ou] 5)]
  generalize (lg_sl [.ref x9, .int a9, .int b9, .ref ou] ++ List.replicate (5 - (lg_sl [.ref x9, .int a9, .int b9, .ref ou]).length) Slot.unset).toArray = ls at hl ⊢
  have hl : lv_has ls 5 [(0, .ref x9), (1, .int a9), (2, .int b9), (3, .ref ou)] := hl
  have hkf : kf τ [(10, 1), (10, 2), (5, 1), (7, 1), (6, 0), (14, 0)] [] h h := kf_rf
  refine lv_aload_n hx hb d_La_mark_0 rfl (lv_at hl 3 rfl) ?_
  refine lv_iconst (v := 0) hx hb d_La_mark_1 (by decide) ?_
  refine lv_aload_n hx hb d_La_mark_2 rfl (lv_at hl 0 rfl) ?_
  refine lv_iload_n hx hb d_La_mark_3 rfl (lv_at hl 1 rfl) ?_
  refine lv_iload_n hx hb d_La_mark_4 rfl (lv_at hl 2 rfl) ?_
  obtain ⟨v_1, v_3, v_5, v_7, v_9, v_11, v_12, v_14, v_16, F_x9, c_2, c_4, c_6, c_8, c_10, c_13, c_15, c_17⟩ := TI_disc hT T_x9
  refine hm_callRi (As := [.int a9, .int b9]) (b := x9) (rest := [.int 0, .ref ou]) ⟨hx, hb, hml, hown, hts⟩ (x_mark l D t G ak av h hfl τ n x9 a9 b9 hn hT T_x9) ⟨cw9B 2 hts mw_899 mw_900 mw_25 rfl rfl (by decide +kernel) ⟨Nat.le_of_ble_eq_true rfl, Nat.le_of_ble_eq_true rfl⟩, hts _ mw_901, hts _ mw_902⟩ (hP_V (q := (R_Di, F_Di, 9)) kF_ok ⟨hE, hE1⟩ hK hH F_x9 rfl) rfl hl.1 (Nat.le_of_ble_eq_true rfl) d_La_mark_5 ⟨Nat.le_of_ble_eq_true rfl, Nat.le_of_ble_eq_true rfl⟩ htab (by simp [covers, tx1, tx2]) (by rw [tx4]; decide) (by rw [tx4]; exact hts _ mw_903) (va_Nw.use rfl hE1.2.2.2.1) hLo (fun r_18 h_19 H_20 locs hp_22 hH z_21 hLo => ?_) (fun q_23 H_24 z_25 o_26 => ?_)
  · skip
    have hz : s.heap.size ≤ H_20.size := Nat.le_trans hz z_21
    have hT0 := hT
    obtain ⟨hT, kf_28⟩ := hp_22
    have F_x9 : h_19 x9 = some (.inr (8, [.ref v_1, .ref v_3, .ref v_5, .ref v_7, va_rf v_9, .int v_11, .int v_12, .ref v_14, .ref v_16])) := kf_at kf_28 T_x9 (by decide) (tnc (by decide) (tnc (by decide) (tnc (by decide) (tnc (by decide) (tnc (by decide) tn0))))) nm0 F_x9
    have hkf : kf τ [(10, 1), (10, 2), (5, 1), (7, 1), (6, 0), (14, 0)] [] h h_19 := kf_tr hkf kf_28 (List.forall_mem_cons.mpr ⟨List.mem_cons_self, List.forall_mem_cons.mpr ⟨(List.mem_cons_of_mem _ List.mem_cons_self), List.forall_mem_cons.mpr ⟨(List.mem_cons_of_mem _ (List.mem_cons_of_mem _ List.mem_cons_self)), List.forall_mem_cons.mpr ⟨(List.mem_cons_of_mem _ (List.mem_cons_of_mem _ (List.mem_cons_of_mem _ List.mem_cons_self))), List.forall_mem_cons.mpr ⟨(List.mem_cons_of_mem _ (List.mem_cons_of_mem _ (List.mem_cons_of_mem _ (List.mem_cons_of_mem _ List.mem_cons_self)))), List.forall_mem_nil _⟩⟩⟩⟩⟩) (List.forall_mem_nil _)
    refine lv_i2l (v := r_18.toInt64) hx hb d_La_mark_8 rfl ?_
    obtain ⟨g_29, F_ou⟩ := TI_out hT T_ou
    refine hm_last hx hb hK hH hLo 3 F_ou rfl (iIn (by decide) (by decide)) d_La_mark_9 (fun H_30 locs hH z_31 hLo => ?_)
    have hz : s.heap.size ≤ H_30.size := by rw [z_31]; exact hz
    obtain ⟨h_32, e_33⟩ : ∃ z, z = hu h_19 ou (.inl ((t 3), 1, .inr (.inl (vp_updL g_29 ((0 : Int32).toNatClampNeg) r_18.toInt64)))) := ⟨_, rfl⟩
    have hH : hm D vwCl G h_32 H_30 := by rw [e_33]; exact hH
    have F_x9 : h_32 x9 = some (.inr (8, [.ref v_1, .ref v_3, .ref v_5, .ref v_7, va_rf v_9, .int v_11, .int v_12, .ref v_14, .ref v_16])) := by rw [e_33, hu_n (tne T_x9 T_ou (by decide))]; exact F_x9
    have F_ou : h_32 ou = some (.inl ((t 3), 1, .inr (.inl (vp_updL g_29 ((0 : Int32).toNatClampNeg) r_18.toInt64)))) := by rw [e_33]; exact hu_s _ _ _
    have hT : TI τ t n h_32 := by rw [e_33]; exact TI_put hT T_ou (by decide) ⟨_, rfl⟩
    have hkf : kf τ [(10, 1), (10, 2), (5, 1), (7, 1), (6, 0), (14, 0)] [] h h_32 := by rw [e_33]; exact kf_put hkf T_ou (List.mem_cons_of_mem _ (List.mem_cons_of_mem _ (List.mem_cons_of_mem _ (List.mem_cons_of_mem _ (List.mem_cons_of_mem _ List.mem_cons_self)))))
    refine lv_goto (tgt := 17) hx hb d_La_mark_10 (by decide) ?_
    refine lv_iconst (v := 0) hx hb d_La_mark_17 (by decide) ?_
    refine W.widen (k := 1) (n := 6) (Nat.le_of_ble_eq_true rfl) (Nat.le_of_ble_eq_true rfl) ?_
    exact W.iret (v := 0) hx hb hr (fun t9 ht hW => ⟨0, h_32, rfl, ⟨hT, hkf⟩, by rw [ht]; exact hH, by rw [ht]; exact hz⟩) hLo d_La_mark_18
  · skip
    rw [tx3]
    have hH := hH.ext z_25 o_26
    have hz : s.heap.size ≤ H_24.size := Nat.le_trans hz z_25
    refine lv_astore (lv' := [(4, .ref q_23), (0, .ref x9), (1, .int a9), (2, .int b9), (3, .ref ou)]) hx hb d_La_mark_13 hl (by decide) rfl (fun ls hl => ?_)
    refine lv_iconst (v := 1) hx hb d_La_mark_15 (by decide) ?_
    exact W.iret (v := 1) hx hb hr (fun t9 ht hW => ⟨1, h, rfl, ⟨hT, hkf⟩, by rw [ht]; exact hH, by rw [ht]; exact hz⟩) hLo d_La_mark_16

set_option maxHeartbeats 4000000 in
set_option maxRecDepth 100000 in
theorem h_node (l : Launch) (D : va_G) (t : Nat → ClassId) (G : hG) (ak av : Nat → Nat) (h : hM) (hfl : l.flags = flags0) (τ : tM) (n : Nat) (x9 : Nat) (a9 : Int32) (b9 : Int32) (ou : Nat) (hn : n ≤ 200) (hT : TI τ t n h) (T_x9 : τ x9 = (1, 0)) (T_ou : τ ou = (14, 0)) : Met l y_La_node (Cond.codeWith y_La_node b_La_node 5 (some .int) [(0, 10, 13, 13)] :: lw_g) { frames := 7, cells := 1, slots := 6, locals := 113 } (hP (kF D t G ak av) D vwCl G h [.ref x9, .int a9, .int b9, .ref ou]) (hQi D vwCl G (fun r h' => TI τ t n h' ∧ kf τ [(14, 0)] [] h h')) 1 6 G.P := by
  refine va_MetW (cc := b_La_node) (maxL := 5) (ret := (some .int)) (by decide) rfl ?_
  intro p e s m args below meth c s₁ Bd hml hv
  obtain ⟨m9, meth9, c9, n1, n2, n3, -, -, n4, -⟩ := Cond.codeWith_spec (atoms_spec (ws := (Cond.codeWith y_La_node b_La_node 5 (some .int) [(0, 10, 13, 13)] :: lw_g)) Bd.pre _ List.mem_cons_self)
  cases Bd.named.symm.trans n1
  cases Bd.method.symm.trans n2
  cases (Stand.of_body Bd).code.symm.trans n3
  obtain ⟨tx, htab, tx1, tx2, tx3, tx4⟩ := tab1 n4
  obtain ⟨ha, ⟨hE, hE1⟩, hH⟩ := hv
  have hx := Bd.exec
  have hb := Bd.bytes
  have hr := Bd.returns
  have hts : ∀ w ∈ lw_g, w.before args s = true := fun w hw => atoms_spec (ws := (Cond.codeWith y_La_node b_La_node 5 (some .int) [(0, 10, 13, 13)] :: lw_g)) Bd.pre w (List.mem_cons_of_mem _ hw)
  have hown : s.vm.findClass R_La = some m.cls := findClass_of_methodNamed Bd.named
  have hlocks := Bd.notSynchronized
  have hK := hE.1
  have hH0 := hH
  have hLo : hLc G.P [] := hLc_nil
  have hz : s.heap.size ≤ s.heap.size := Nat.le_refl _
  have hl := lv_entry [.ref x9, .int a9, .int b9, .ref ou] (n := 5) (Nat.le_of_ble_eq_true rfl)
  rw [show entryFrame m args 5 = F0 m 0 ((lg_sl [.ref x9, .int a9, .int b9, .ref ou] ++ List.replicate (5 - (lg_sl [.ref x9, .int a9, .int b9, .ref ou]).length) Slot.unset).toArray) [] from (by rw [ha]; exact lg_entry_eq m [.ref x9, .int a9, .int b9, .ref ou] 5)]
  generalize (lg_sl [.ref x9, .int a9, .int b9, .ref ou] ++ List.replicate (5 - (lg_sl [.ref x9, .int a9, .int b9, .ref ou]).length) Slot.unset).toArray = ls at hl ⊢
  have hl : lv_has ls 5 [(0, .ref x9), (1, .int a9), (2, .int b9), (3, .ref ou)] := hl
  have hkf : kf τ [(14, 0)] [] h h := kf_rf
  refine lv_aload_n hx hb d_La_node_0 rfl (lv_at hl 3 rfl) ?_
  refine lv_iconst (v := 0) hx hb d_La_node_1 (by decide) ?_
  refine lv_aload_n hx hb d_La_node_2 rfl (lv_at hl 0 rfl) ?_
  refine lv_iload_n hx hb d_La_node_3 rfl (lv_at hl 1 rfl) ?_
  refine lv_iload_n hx hb d_La_node_4 rfl (lv_at hl 2 rfl) ?_
  obtain ⟨v_1, v_3, v_5, v_7, v_9, v_11, v_12, v_14, v_16, F_x9, c_2, c_4, c_6, c_8, c_10, c_13, c_15, c_17⟩ := TI_disc hT T_x9
  refine hm_callRi (As := [.int a9, .int b9]) (b := x9) (rest := [.int 0, .ref ou]) ⟨hx, hb, hml, hown, hts⟩ (x_node l D t G ak av h hfl τ n x9 a9 b9 hn hT T_x9) ⟨cw9B 2 hts mw_904 mw_905 mw_25 rfl rfl (by decide +kernel) ⟨Nat.le_of_ble_eq_true rfl, Nat.le_of_ble_eq_true rfl⟩, hts _ mw_906, hts _ mw_907⟩ (hP_V (q := (R_Di, F_Di, 9)) kF_ok ⟨hE, hE1⟩ hK hH F_x9 rfl) rfl hl.1 (Nat.le_of_ble_eq_true rfl) d_La_node_5 ⟨Nat.le_of_ble_eq_true rfl, Nat.le_of_ble_eq_true rfl⟩ htab (by simp [covers, tx1, tx2]) (by rw [tx4]; decide) (by rw [tx4]; exact hts _ mw_903) (va_Nw.use rfl hE1.2.2.2.1) hLo (fun r_18 h_19 H_20 locs hp_22 hH z_21 hLo => ?_) (fun q_23 H_24 z_25 o_26 => ?_)
  · skip
    have hz : s.heap.size ≤ H_20.size := Nat.le_trans hz z_21
    have hT0 := hT
    obtain ⟨hT, kf_28⟩ := hp_22
    have F_x9 : h_19 x9 = some (.inr (8, [.ref v_1, .ref v_3, .ref v_5, .ref v_7, va_rf v_9, .int v_11, .int v_12, .ref v_14, .ref v_16])) := kf_at kf_28 T_x9 (by decide) tn0 nm0 F_x9
    have hkf : kf τ [(14, 0)] [] h h_19 := kf_tr hkf kf_28 (List.forall_mem_nil _) (List.forall_mem_nil _)
    refine lv_i2l (v := r_18.toInt64) hx hb d_La_node_8 rfl ?_
    obtain ⟨g_29, F_ou⟩ := TI_out hT T_ou
    refine hm_last hx hb hK hH hLo 3 F_ou rfl (iIn (by decide) (by decide)) d_La_node_9 (fun H_30 locs hH z_31 hLo => ?_)
    have hz : s.heap.size ≤ H_30.size := by rw [z_31]; exact hz
    obtain ⟨h_32, e_33⟩ : ∃ z, z = hu h_19 ou (.inl ((t 3), 1, .inr (.inl (vp_updL g_29 ((0 : Int32).toNatClampNeg) r_18.toInt64)))) := ⟨_, rfl⟩
    have hH : hm D vwCl G h_32 H_30 := by rw [e_33]; exact hH
    have F_x9 : h_32 x9 = some (.inr (8, [.ref v_1, .ref v_3, .ref v_5, .ref v_7, va_rf v_9, .int v_11, .int v_12, .ref v_14, .ref v_16])) := by rw [e_33, hu_n (tne T_x9 T_ou (by decide))]; exact F_x9
    have F_ou : h_32 ou = some (.inl ((t 3), 1, .inr (.inl (vp_updL g_29 ((0 : Int32).toNatClampNeg) r_18.toInt64)))) := by rw [e_33]; exact hu_s _ _ _
    have hT : TI τ t n h_32 := by rw [e_33]; exact TI_put hT T_ou (by decide) ⟨_, rfl⟩
    have hkf : kf τ [(14, 0)] [] h h_32 := by rw [e_33]; exact kf_put hkf T_ou List.mem_cons_self
    refine lv_goto (tgt := 17) hx hb d_La_node_10 (by decide) ?_
    refine lv_iconst (v := 0) hx hb d_La_node_17 (by decide) ?_
    refine W.widen (k := 1) (n := 6) (Nat.le_of_ble_eq_true rfl) (Nat.le_of_ble_eq_true rfl) ?_
    exact W.iret (v := 0) hx hb hr (fun t9 ht hW => ⟨0, h_32, rfl, ⟨hT, hkf⟩, by rw [ht]; exact hH, by rw [ht]; exact hz⟩) hLo d_La_node_18
  · skip
    rw [tx3]
    have hH := hH.ext z_25 o_26
    have hz : s.heap.size ≤ H_24.size := Nat.le_trans hz z_25
    refine lv_astore (lv' := [(4, .ref q_23), (0, .ref x9), (1, .int a9), (2, .int b9), (3, .ref ou)]) hx hb d_La_node_13 hl (by decide) rfl (fun ls hl => ?_)
    refine lv_iconst (v := 1) hx hb d_La_node_15 (by decide) ?_
    exact W.iret (v := 1) hx hb hr (fun t9 ht hW => ⟨1, h, rfl, ⟨hT, hkf⟩, by rw [ht]; exact hH, by rw [ht]; exact hz⟩) hLo d_La_node_16

set_option maxHeartbeats 4000000 in
set_option maxRecDepth 100000 in
theorem h_name (l : Launch) (D : va_G) (t : Nat → ClassId) (G : hG) (ak av : Nat → Nat) (h : hM) (hfl : l.flags = flags0) (τ : tM) (n : Nat) (x9 : Nat) (a9 : Int32) (ou : Nat) (hn : n ≤ 200) (hT : TI τ t n h) (T_x9 : τ x9 = (1, 0)) (T_ou : τ ou = (14, 0)) : Met l y_La_name (Cond.codeWith y_La_name b_La_name 4 (some .int) [(0, 8, 11, 13)] :: lw_g) { frames := 7, cells := 1, slots := 6, locals := 112 } (hP (kF D t G ak av) D vwCl G h [.ref x9, .int a9, .ref ou]) (hQi D vwCl G (fun r h' => TI τ t n h' ∧ kf τ [(14, 0)] [] h h')) 1 6 G.P := by
  refine va_MetW (cc := b_La_name) (maxL := 4) (ret := (some .int)) (by decide) rfl ?_
  intro p e s m args below meth c s₁ Bd hml hv
  obtain ⟨m9, meth9, c9, n1, n2, n3, -, -, n4, -⟩ := Cond.codeWith_spec (atoms_spec (ws := (Cond.codeWith y_La_name b_La_name 4 (some .int) [(0, 8, 11, 13)] :: lw_g)) Bd.pre _ List.mem_cons_self)
  cases Bd.named.symm.trans n1
  cases Bd.method.symm.trans n2
  cases (Stand.of_body Bd).code.symm.trans n3
  obtain ⟨tx, htab, tx1, tx2, tx3, tx4⟩ := tab1 n4
  obtain ⟨ha, ⟨hE, hE1⟩, hH⟩ := hv
  have hx := Bd.exec
  have hb := Bd.bytes
  have hr := Bd.returns
  have hts : ∀ w ∈ lw_g, w.before args s = true := fun w hw => atoms_spec (ws := (Cond.codeWith y_La_name b_La_name 4 (some .int) [(0, 8, 11, 13)] :: lw_g)) Bd.pre w (List.mem_cons_of_mem _ hw)
  have hown : s.vm.findClass R_La = some m.cls := findClass_of_methodNamed Bd.named
  have hlocks := Bd.notSynchronized
  have hK := hE.1
  have hH0 := hH
  have hLo : hLc G.P [] := hLc_nil
  have hz : s.heap.size ≤ s.heap.size := Nat.le_refl _
  have hl := lv_entry [.ref x9, .int a9, .ref ou] (n := 4) (Nat.le_of_ble_eq_true rfl)
  rw [show entryFrame m args 4 = F0 m 0 ((lg_sl [.ref x9, .int a9, .ref ou] ++ List.replicate (4 - (lg_sl [.ref x9, .int a9, .ref ou]).length) Slot.unset).toArray) [] from (by rw [ha]; exact lg_entry_eq m [.ref x9, .int a9, .ref ou] 4)]
  generalize (lg_sl [.ref x9, .int a9, .ref ou] ++ List.replicate (4 - (lg_sl [.ref x9, .int a9, .ref ou]).length) Slot.unset).toArray = ls at hl ⊢
  have hl : lv_has ls 4 [(0, .ref x9), (1, .int a9), (2, .ref ou)] := hl
  have hkf : kf τ [(14, 0)] [] h h := kf_rf
  refine lv_aload_n hx hb d_La_name_0 rfl (lv_at hl 2 rfl) ?_
  refine lv_iconst (v := 0) hx hb d_La_name_1 (by decide) ?_
  refine lv_aload_n hx hb d_La_name_2 rfl (lv_at hl 0 rfl) ?_
  refine lv_iload_n hx hb d_La_name_3 rfl (lv_at hl 1 rfl) ?_
  obtain ⟨v_1, v_3, v_5, v_7, v_9, v_11, v_12, v_14, v_16, F_x9, c_2, c_4, c_6, c_8, c_10, c_13, c_15, c_17⟩ := TI_disc hT T_x9
  refine hm_callRl (As := [.int a9]) (b := x9) (rest := [.int 0, .ref ou]) ⟨hx, hb, hml, hown, hts⟩ (x_name l D t G ak av h hfl τ n x9 a9 hn hT T_x9) ⟨cw9B 1 hts mw_908 mw_909 mw_25 rfl rfl (by decide +kernel) ⟨Nat.le_of_ble_eq_true rfl, Nat.le_of_ble_eq_true rfl⟩, hts _ mw_910, hts _ mw_911⟩ (hP_V (q := (R_Di, F_Di, 9)) kF_ok ⟨hE, hE1⟩ hK hH F_x9 rfl) rfl hl.1 (Nat.le_of_ble_eq_true rfl) d_La_name_4 ⟨Nat.le_of_ble_eq_true rfl, Nat.le_of_ble_eq_true rfl⟩ htab (by simp [covers, tx1, tx2]) (by rw [tx4]; decide) (by rw [tx4]; exact hts _ mw_903) (va_Nw.use rfl hE1.2.2.2.1) hLo (fun r_18 h_19 H_20 locs hp_22 hH z_21 hLo => ?_) (fun q_23 H_24 z_25 o_26 => ?_)
  · skip
    have hz : s.heap.size ≤ H_20.size := Nat.le_trans hz z_21
    have hT0 := hT
    obtain ⟨hT, kf_28⟩ := hp_22
    have F_x9 : h_19 x9 = some (.inr (8, [.ref v_1, .ref v_3, .ref v_5, .ref v_7, va_rf v_9, .int v_11, .int v_12, .ref v_14, .ref v_16])) := kf_at kf_28 T_x9 (by decide) tn0 nm0 F_x9
    have hkf : kf τ [(14, 0)] [] h h_19 := kf_tr hkf kf_28 (List.forall_mem_nil _) (List.forall_mem_nil _)
    obtain ⟨g_29, F_ou⟩ := TI_out hT T_ou
    refine hm_last hx hb hK hH hLo 3 F_ou rfl (iIn (by decide) (by decide)) d_La_name_7 (fun H_30 locs hH z_31 hLo => ?_)
    have hz : s.heap.size ≤ H_30.size := by rw [z_31]; exact hz
    obtain ⟨h_32, e_33⟩ : ∃ z, z = hu h_19 ou (.inl ((t 3), 1, .inr (.inl (vp_updL g_29 ((0 : Int32).toNatClampNeg) r_18)))) := ⟨_, rfl⟩
    have hH : hm D vwCl G h_32 H_30 := by rw [e_33]; exact hH
    have F_x9 : h_32 x9 = some (.inr (8, [.ref v_1, .ref v_3, .ref v_5, .ref v_7, va_rf v_9, .int v_11, .int v_12, .ref v_14, .ref v_16])) := by rw [e_33, hu_n (tne T_x9 T_ou (by decide))]; exact F_x9
    have F_ou : h_32 ou = some (.inl ((t 3), 1, .inr (.inl (vp_updL g_29 ((0 : Int32).toNatClampNeg) r_18)))) := by rw [e_33]; exact hu_s _ _ _
    have hT : TI τ t n h_32 := by rw [e_33]; exact TI_put hT T_ou (by decide) ⟨_, rfl⟩
    have hkf : kf τ [(14, 0)] [] h h_32 := by rw [e_33]; exact kf_put hkf T_ou List.mem_cons_self
    refine lv_goto (tgt := 14) hx hb d_La_name_8 (by decide) ?_
    refine lv_iconst (v := 0) hx hb d_La_name_14 (by decide) ?_
    refine W.widen (k := 1) (n := 6) (Nat.le_of_ble_eq_true rfl) (Nat.le_of_ble_eq_true rfl) ?_
    exact W.iret (v := 0) hx hb hr (fun t9 ht hW => ⟨0, h_32, rfl, ⟨hT, hkf⟩, by rw [ht]; exact hH, by rw [ht]; exact hz⟩) hLo d_La_name_15
  · skip
    rw [tx3]
    have hH := hH.ext z_25 o_26
    have hz : s.heap.size ≤ H_24.size := Nat.le_trans hz z_25
    refine lv_astore_n (lv' := [(3, .ref q_23), (0, .ref x9), (1, .int a9), (2, .ref ou)]) hx hb d_La_name_11 rfl hl (by decide) rfl (fun ls hl => ?_)
    refine lv_iconst (v := 1) hx hb d_La_name_12 (by decide) ?_
    exact W.iret (v := 1) hx hb hr (fun t9 ht hW => ⟨1, h, rfl, ⟨hT, hkf⟩, by rw [ht]; exact hH, by rw [ht]; exact hz⟩) hLo d_La_name_13

set_option maxHeartbeats 4000000 in
set_option maxRecDepth 100000 in
theorem h_read (l : Launch) (D : va_G) (t : Nat → ClassId) (G : hG) (ak av : Nat → Nat) (h : hM) (hfl : l.flags = flags0) (τ : tM) (n : Nat) (x9 : Nat) (a9 : Int32) (b9 : Int32) (ou : Nat) (hn : n ≤ 200) (hT : TI τ t n h) (T_x9 : τ x9 = (1, 0)) (T_ou : τ ou = (14, 0)) : Met l y_La_read (Cond.codeWith y_La_read b_La_read 5 (some .int) [(0, 10, 13, 13)] :: lw_g) { frames := 7, cells := 1, slots := 6, locals := 113 } (hP (kF D t G ak av) D vwCl G h [.ref x9, .int a9, .int b9, .ref ou]) (hQi D vwCl G (fun r h' => TI τ t n h' ∧ kf τ [(14, 0)] [] h h')) 1 6 G.P := by
  refine va_MetW (cc := b_La_read) (maxL := 5) (ret := (some .int)) (by decide) rfl ?_
  intro p e s m args below meth c s₁ Bd hml hv
  obtain ⟨m9, meth9, c9, n1, n2, n3, -, -, n4, -⟩ := Cond.codeWith_spec (atoms_spec (ws := (Cond.codeWith y_La_read b_La_read 5 (some .int) [(0, 10, 13, 13)] :: lw_g)) Bd.pre _ List.mem_cons_self)
  cases Bd.named.symm.trans n1
  cases Bd.method.symm.trans n2
  cases (Stand.of_body Bd).code.symm.trans n3
  obtain ⟨tx, htab, tx1, tx2, tx3, tx4⟩ := tab1 n4
  obtain ⟨ha, ⟨hE, hE1⟩, hH⟩ := hv
  have hx := Bd.exec
  have hb := Bd.bytes
  have hr := Bd.returns
  have hts : ∀ w ∈ lw_g, w.before args s = true := fun w hw => atoms_spec (ws := (Cond.codeWith y_La_read b_La_read 5 (some .int) [(0, 10, 13, 13)] :: lw_g)) Bd.pre w (List.mem_cons_of_mem _ hw)
  have hown : s.vm.findClass R_La = some m.cls := findClass_of_methodNamed Bd.named
  have hlocks := Bd.notSynchronized
  have hK := hE.1
  have hH0 := hH
  have hLo : hLc G.P [] := hLc_nil
  have hz : s.heap.size ≤ s.heap.size := Nat.le_refl _
  have hl := lv_entry [.ref x9, .int a9, .int b9, .ref ou] (n := 5) (Nat.le_of_ble_eq_true rfl)
  rw [show entryFrame m args 5 = F0 m 0 ((lg_sl [.ref x9, .int a9, .int b9, .ref ou] ++ List.replicate (5 - (lg_sl [.ref x9, .int a9, .int b9, .ref ou]).length) Slot.unset).toArray) [] from (by rw [ha]; exact lg_entry_eq m [.ref x9, .int a9, .int b9, .ref ou] 5)]
  generalize (lg_sl [.ref x9, .int a9, .int b9, .ref ou] ++ List.replicate (5 - (lg_sl [.ref x9, .int a9, .int b9, .ref ou]).length) Slot.unset).toArray = ls at hl ⊢
  have hl : lv_has ls 5 [(0, .ref x9), (1, .int a9), (2, .int b9), (3, .ref ou)] := hl
  have hkf : kf τ [(14, 0)] [] h h := kf_rf
  refine lv_aload_n hx hb d_La_read_0 rfl (lv_at hl 3 rfl) ?_
  refine lv_iconst (v := 0) hx hb d_La_read_1 (by decide) ?_
  refine lv_aload_n hx hb d_La_read_2 rfl (lv_at hl 0 rfl) ?_
  refine lv_iload_n hx hb d_La_read_3 rfl (lv_at hl 1 rfl) ?_
  refine lv_iload_n hx hb d_La_read_4 rfl (lv_at hl 2 rfl) ?_
  obtain ⟨v_1, v_3, v_5, v_7, v_9, v_11, v_12, v_14, v_16, F_x9, c_2, c_4, c_6, c_8, c_10, c_13, c_15, c_17⟩ := TI_disc hT T_x9
  refine hm_callRi (As := [.int a9, .int b9]) (b := x9) (rest := [.int 0, .ref ou]) ⟨hx, hb, hml, hown, hts⟩ (x_read l D t G ak av h hfl τ n x9 a9 b9 hn hT T_x9) ⟨cw9B 2 hts mw_912 mw_913 mw_25 rfl rfl (by decide +kernel) ⟨Nat.le_of_ble_eq_true rfl, Nat.le_of_ble_eq_true rfl⟩, hts _ mw_914, hts _ mw_915⟩ (hP_V (q := (R_Di, F_Di, 9)) kF_ok ⟨hE, hE1⟩ hK hH F_x9 rfl) rfl hl.1 (Nat.le_of_ble_eq_true rfl) d_La_read_5 ⟨Nat.le_of_ble_eq_true rfl, Nat.le_of_ble_eq_true rfl⟩ htab (by simp [covers, tx1, tx2]) (by rw [tx4]; decide) (by rw [tx4]; exact hts _ mw_903) (va_Nw.use rfl hE1.2.2.2.1) hLo (fun r_18 h_19 H_20 locs hp_22 hH z_21 hLo => ?_) (fun q_23 H_24 z_25 o_26 => ?_)
  · skip
    have hz : s.heap.size ≤ H_20.size := Nat.le_trans hz z_21
    have hT0 := hT
    obtain ⟨hT, kf_28⟩ := hp_22
    have F_x9 : h_19 x9 = some (.inr (8, [.ref v_1, .ref v_3, .ref v_5, .ref v_7, va_rf v_9, .int v_11, .int v_12, .ref v_14, .ref v_16])) := kf_at kf_28 T_x9 (by decide) tn0 nm0 F_x9
    have hkf : kf τ [(14, 0)] [] h h_19 := kf_tr hkf kf_28 (List.forall_mem_nil _) (List.forall_mem_nil _)
    refine lv_i2l (v := r_18.toInt64) hx hb d_La_read_8 rfl ?_
    obtain ⟨g_29, F_ou⟩ := TI_out hT T_ou
    refine hm_last hx hb hK hH hLo 3 F_ou rfl (iIn (by decide) (by decide)) d_La_read_9 (fun H_30 locs hH z_31 hLo => ?_)
    have hz : s.heap.size ≤ H_30.size := by rw [z_31]; exact hz
    obtain ⟨h_32, e_33⟩ : ∃ z, z = hu h_19 ou (.inl ((t 3), 1, .inr (.inl (vp_updL g_29 ((0 : Int32).toNatClampNeg) r_18.toInt64)))) := ⟨_, rfl⟩
    have hH : hm D vwCl G h_32 H_30 := by rw [e_33]; exact hH
    have F_x9 : h_32 x9 = some (.inr (8, [.ref v_1, .ref v_3, .ref v_5, .ref v_7, va_rf v_9, .int v_11, .int v_12, .ref v_14, .ref v_16])) := by rw [e_33, hu_n (tne T_x9 T_ou (by decide))]; exact F_x9
    have F_ou : h_32 ou = some (.inl ((t 3), 1, .inr (.inl (vp_updL g_29 ((0 : Int32).toNatClampNeg) r_18.toInt64)))) := by rw [e_33]; exact hu_s _ _ _
    have hT : TI τ t n h_32 := by rw [e_33]; exact TI_put hT T_ou (by decide) ⟨_, rfl⟩
    have hkf : kf τ [(14, 0)] [] h h_32 := by rw [e_33]; exact kf_put hkf T_ou List.mem_cons_self
    refine lv_goto (tgt := 17) hx hb d_La_read_10 (by decide) ?_
    refine lv_iconst (v := 0) hx hb d_La_read_17 (by decide) ?_
    refine W.widen (k := 1) (n := 6) (Nat.le_of_ble_eq_true rfl) (Nat.le_of_ble_eq_true rfl) ?_
    exact W.iret (v := 0) hx hb hr (fun t9 ht hW => ⟨0, h_32, rfl, ⟨hT, hkf⟩, by rw [ht]; exact hH, by rw [ht]; exact hz⟩) hLo d_La_read_18
  · skip
    rw [tx3]
    have hH := hH.ext z_25 o_26
    have hz : s.heap.size ≤ H_24.size := Nat.le_trans hz z_25
    refine lv_astore (lv' := [(4, .ref q_23), (0, .ref x9), (1, .int a9), (2, .int b9), (3, .ref ou)]) hx hb d_La_read_13 hl (by decide) rfl (fun ls hl => ?_)
    refine lv_iconst (v := 1) hx hb d_La_read_15 (by decide) ?_
    exact W.iret (v := 1) hx hb hr (fun t9 ht hW => ⟨1, h, rfl, ⟨hT, hkf⟩, by rw [ht]; exact hH, by rw [ht]; exact hz⟩) hLo d_La_read_16

set_option maxHeartbeats 4000000 in
set_option maxRecDepth 100000 in
theorem h_tree (l : Launch) (D : va_G) (t : Nat → ClassId) (G : hG) (ak av : Nat → Nat) (h : hM) (hfl : l.flags = flags0) (τ : tM) (n : Nat) (x9 : Nat) (a9 : Int32) (b9 : Int32) (ou : Nat) (hn : n ≤ 200) (hT : TI τ t n h) (T_x9 : τ x9 = (1, 0)) (T_ou : τ ou = (14, 0)) : Met l y_La_tree (Cond.codeWith y_La_tree b_La_tree 5 (some .int) [(0, 10, 13, 13)] :: lw_g) { frames := 7, cells := 1, slots := 6, locals := 113 } (hP (kF D t G ak av) D vwCl G h [.ref x9, .int a9, .int b9, .ref ou]) (hQi D vwCl G (fun r h' => TI τ t n h' ∧ kf τ [(14, 0)] [] h h')) 1 6 G.P := by
  refine va_MetW (cc := b_La_tree) (maxL := 5) (ret := (some .int)) (by decide) rfl ?_
  intro p e s m args below meth c s₁ Bd hml hv
  obtain ⟨m9, meth9, c9, n1, n2, n3, -, -, n4, -⟩ := Cond.codeWith_spec (atoms_spec (ws := (Cond.codeWith y_La_tree b_La_tree 5 (some .int) [(0, 10, 13, 13)] :: lw_g)) Bd.pre _ List.mem_cons_self)
  cases Bd.named.symm.trans n1
  cases Bd.method.symm.trans n2
  cases (Stand.of_body Bd).code.symm.trans n3
  obtain ⟨tx, htab, tx1, tx2, tx3, tx4⟩ := tab1 n4
  obtain ⟨ha, ⟨hE, hE1⟩, hH⟩ := hv
  have hx := Bd.exec
  have hb := Bd.bytes
  have hr := Bd.returns
  have hts : ∀ w ∈ lw_g, w.before args s = true := fun w hw => atoms_spec (ws := (Cond.codeWith y_La_tree b_La_tree 5 (some .int) [(0, 10, 13, 13)] :: lw_g)) Bd.pre w (List.mem_cons_of_mem _ hw)
  have hown : s.vm.findClass R_La = some m.cls := findClass_of_methodNamed Bd.named
  have hlocks := Bd.notSynchronized
  have hK := hE.1
  have hH0 := hH
  have hLo : hLc G.P [] := hLc_nil
  have hz : s.heap.size ≤ s.heap.size := Nat.le_refl _
  have hl := lv_entry [.ref x9, .int a9, .int b9, .ref ou] (n := 5) (Nat.le_of_ble_eq_true rfl)
  rw [show entryFrame m args 5 = F0 m 0 ((lg_sl [.ref x9, .int a9, .int b9, .ref ou] ++ List.replicate (5 - (lg_sl [.ref x9, .int a9, .int b9, .ref ou]).length) Slot.unset).toArray) [] from (by rw [ha]; exact lg_entry_eq m [.ref x9, .int a9, .int b9, .ref ou] 5)]
  generalize (lg_sl [.ref x9, .int a9, .int b9, .ref ou] ++ List.replicate (5 - (lg_sl [.ref x9, .int a9, .int b9, .ref ou]).length) Slot.unset).toArray = ls at hl ⊢
  have hl : lv_has ls 5 [(0, .ref x9), (1, .int a9), (2, .int b9), (3, .ref ou)] := hl
  have hkf : kf τ [(14, 0)] [] h h := kf_rf
  refine lv_aload_n hx hb d_La_tree_0 rfl (lv_at hl 3 rfl) ?_
  refine lv_iconst (v := 0) hx hb d_La_tree_1 (by decide) ?_
  refine lv_aload_n hx hb d_La_tree_2 rfl (lv_at hl 0 rfl) ?_
  refine lv_iload_n hx hb d_La_tree_3 rfl (lv_at hl 1 rfl) ?_
  refine lv_iload_n hx hb d_La_tree_4 rfl (lv_at hl 2 rfl) ?_
  obtain ⟨v_1, v_3, v_5, v_7, v_9, v_11, v_12, v_14, v_16, F_x9, c_2, c_4, c_6, c_8, c_10, c_13, c_15, c_17⟩ := TI_disc hT T_x9
  refine hm_callRi (As := [.int a9, .int b9]) (b := x9) (rest := [.int 0, .ref ou]) ⟨hx, hb, hml, hown, hts⟩ (x_tree l D t G ak av h hfl τ n x9 a9 b9 hn hT T_x9) ⟨cw9B 2 hts mw_916 mw_917 mw_25 rfl rfl (by decide +kernel) ⟨Nat.le_of_ble_eq_true rfl, Nat.le_of_ble_eq_true rfl⟩, hts _ mw_918, hts _ mw_919⟩ (hP_V (q := (R_Di, F_Di, 9)) kF_ok ⟨hE, hE1⟩ hK hH F_x9 rfl) rfl hl.1 (Nat.le_of_ble_eq_true rfl) d_La_tree_5 ⟨Nat.le_of_ble_eq_true rfl, Nat.le_of_ble_eq_true rfl⟩ htab (by simp [covers, tx1, tx2]) (by rw [tx4]; decide) (by rw [tx4]; exact hts _ mw_903) (va_Nw.use rfl hE1.2.2.2.1) hLo (fun r_18 h_19 H_20 locs hp_22 hH z_21 hLo => ?_) (fun q_23 H_24 z_25 o_26 => ?_)
  · skip
    have hz : s.heap.size ≤ H_20.size := Nat.le_trans hz z_21
    have hT0 := hT
    obtain ⟨hT, kf_28⟩ := hp_22
    have F_x9 : h_19 x9 = some (.inr (8, [.ref v_1, .ref v_3, .ref v_5, .ref v_7, va_rf v_9, .int v_11, .int v_12, .ref v_14, .ref v_16])) := kf_at kf_28 T_x9 (by decide) tn0 nm0 F_x9
    have hkf : kf τ [(14, 0)] [] h h_19 := kf_tr hkf kf_28 (List.forall_mem_nil _) (List.forall_mem_nil _)
    refine lv_i2l (v := r_18.toInt64) hx hb d_La_tree_8 rfl ?_
    obtain ⟨g_29, F_ou⟩ := TI_out hT T_ou
    refine hm_last hx hb hK hH hLo 3 F_ou rfl (iIn (by decide) (by decide)) d_La_tree_9 (fun H_30 locs hH z_31 hLo => ?_)
    have hz : s.heap.size ≤ H_30.size := by rw [z_31]; exact hz
    obtain ⟨h_32, e_33⟩ : ∃ z, z = hu h_19 ou (.inl ((t 3), 1, .inr (.inl (vp_updL g_29 ((0 : Int32).toNatClampNeg) r_18.toInt64)))) := ⟨_, rfl⟩
    have hH : hm D vwCl G h_32 H_30 := by rw [e_33]; exact hH
    have F_x9 : h_32 x9 = some (.inr (8, [.ref v_1, .ref v_3, .ref v_5, .ref v_7, va_rf v_9, .int v_11, .int v_12, .ref v_14, .ref v_16])) := by rw [e_33, hu_n (tne T_x9 T_ou (by decide))]; exact F_x9
    have F_ou : h_32 ou = some (.inl ((t 3), 1, .inr (.inl (vp_updL g_29 ((0 : Int32).toNatClampNeg) r_18.toInt64)))) := by rw [e_33]; exact hu_s _ _ _
    have hT : TI τ t n h_32 := by rw [e_33]; exact TI_put hT T_ou (by decide) ⟨_, rfl⟩
    have hkf : kf τ [(14, 0)] [] h h_32 := by rw [e_33]; exact kf_put hkf T_ou List.mem_cons_self
    refine lv_goto (tgt := 17) hx hb d_La_tree_10 (by decide) ?_
    refine lv_iconst (v := 0) hx hb d_La_tree_17 (by decide) ?_
    refine W.widen (k := 1) (n := 6) (Nat.le_of_ble_eq_true rfl) (Nat.le_of_ble_eq_true rfl) ?_
    exact W.iret (v := 0) hx hb hr (fun t9 ht hW => ⟨0, h_32, rfl, ⟨hT, hkf⟩, by rw [ht]; exact hH, by rw [ht]; exact hz⟩) hLo d_La_tree_18
  · skip
    rw [tx3]
    have hH := hH.ext z_25 o_26
    have hz : s.heap.size ≤ H_24.size := Nat.le_trans hz z_25
    refine lv_astore (lv' := [(4, .ref q_23), (0, .ref x9), (1, .int a9), (2, .int b9), (3, .ref ou)]) hx hb d_La_tree_13 hl (by decide) rfl (fun ls hl => ?_)
    refine lv_iconst (v := 1) hx hb d_La_tree_15 (by decide) ?_
    exact W.iret (v := 1) hx hb hr (fun t9 ht hW => ⟨1, h, rfl, ⟨hT, hkf⟩, by rw [ht]; exact hH, by rw [ht]; exact hz⟩) hLo d_La_tree_16
