set_option maxRecDepth 100000 in
theorem mw_549 : Cond.initialized "java/lang/Throwable" ∈ lw_g := lw_gin (List.mem_append_right _ (List.mem_of_getElem? (i := 18) rfl)) (by decide +kernel)
set_option maxRecDepth 100000 in
theorem mw_550 : Cond.superclass "java/lang/Throwable" "java/lang/Object" ∈ lw_g := lw_gin (List.mem_append_right _ (List.mem_of_getElem? (i := 829) rfl)) (by decide +kernel)
set_option maxRecDepth 100000 in
theorem mw_551 : Cond.instanceMethod ⟨"java/lang/Throwable", "fillInStackTrace", "()Ljava/lang/Throwable;"⟩ ∈ lw_g := lw_gin (List.mem_append_right _ (List.mem_of_getElem? (i := 838) rfl)) (by decide +kernel)
set_option maxRecDepth 100000 in
theorem mw_552 : Cond.codeSync ⟨"java/lang/Throwable", "fillInStackTrace", "()Ljava/lang/Throwable;"⟩ LibCode.Throwable.Fill.code 1 (some (.object "java/lang/Throwable")) ∈ lw_g := lw_gin (List.mem_append_right _ (List.mem_of_getElem? (i := 840) rfl)) (by decide +kernel)
set_option maxRecDepth 100000 in
theorem mw_553 : Cond.instanceMethod ⟨"java/lang/Throwable", "fillInStackTrace", "(I)Ljava/lang/Throwable;"⟩ ∈ lw_g := lw_gin (List.mem_append_right _ (List.mem_of_getElem? (i := 843) rfl)) (by decide +kernel)
set_option maxRecDepth 100000 in
theorem mw_554 : Cond.native ⟨"java/lang/Throwable", "fillInStackTrace", "(I)Ljava/lang/Throwable;"⟩ ∈ lw_g := lw_gin (List.mem_append_right _ (List.mem_of_getElem? (i := 845) rfl)) (by decide +kernel)
set_option maxRecDepth 100000 in
theorem mw_555 : Cond.instanceMethod ⟨"java/lang/Throwable", "<init>", "()V"⟩ ∈ lw_g := lw_gin (List.mem_append_right _ (List.mem_of_getElem? (i := 830) rfl)) (by decide +kernel)
set_option maxRecDepth 100000 in
theorem mw_556 : Cond.code ⟨"java/lang/Throwable", "<init>", "()V"⟩ LibCode.Throwable.Init0.code 1 none ∈ lw_g := lw_gin (List.mem_append_right _ (List.mem_of_getElem? (i := 831) rfl)) (by decide +kernel)
set_option maxRecDepth 100000 in
theorem mw_557 : Cond.instanceMethod ⟨"java/lang/Object", "<init>", "()V"⟩ ∈ lw_g := lw_gin (List.mem_append_right _ (List.mem_of_getElem? (i := 28) rfl)) (by decide +kernel)
set_option maxRecDepth 100000 in
theorem mw_558 : Cond.code ⟨"java/lang/Object", "<init>", "()V"⟩ ⟨#[0xb1]⟩ 1 none ∈ lw_g := lw_gin (List.mem_append_right _ (List.mem_of_getElem? (i := 29) rfl)) (by decide +kernel)
set_option maxRecDepth 100000 in
theorem mw_559 : Cond.methodLink "java/lang/Throwable" 1 ⟨"java/lang/Object", "<init>", "()V"⟩ ∈ lw_g := lw_gin (List.mem_append_right _ (List.mem_of_getElem? (i := 832) rfl)) (by decide +kernel)
set_option maxRecDepth 100000 in
theorem mw_560 : Cond.methodLink "java/lang/Throwable" 27 ⟨"java/lang/Throwable", "fillInStackTrace", "()Ljava/lang/Throwable;"⟩ ∈ lw_g := lw_gin (List.mem_append_right _ (List.mem_of_getElem? (i := 837) rfl)) (by decide +kernel)
set_option maxRecDepth 100000 in
theorem mw_561 : Cond.methodLink "java/lang/Throwable" 202 ⟨"java/lang/Throwable", "fillInStackTrace", "(I)Ljava/lang/Throwable;"⟩ ∈ lw_g := lw_gin (List.mem_append_right _ (List.mem_of_getElem? (i := 841) rfl)) (by decide +kernel)
set_option maxRecDepth 100000 in
theorem mw_562 : Cond.fieldLink "java/lang/Throwable" 7 "java/lang/Throwable" "cause" "Ljava/lang/Throwable;" ∈ lw_g := lw_gin (List.mem_append_right _ (List.mem_of_getElem? (i := 857) rfl)) (by decide +kernel)
set_option maxRecDepth 100000 in
theorem mw_563 : Cond.lays "java/lang/Throwable" "java/lang/Throwable" "cause" "Ljava/lang/Throwable;" ∈ lw_g := lw_gin (List.mem_append_right _ (List.mem_of_getElem? (i := 819) rfl)) (by decide +kernel)
set_option maxRecDepth 100000 in
theorem mw_564 : Cond.fieldLink "java/lang/Throwable" 17 "java/lang/Throwable" "stackTrace" "[Ljava/lang/StackTraceElement;" ∈ lw_g := lw_gin (List.mem_append_right _ (List.mem_of_getElem? (i := 858) rfl)) (by decide +kernel)
set_option maxRecDepth 100000 in
theorem mw_565 : Cond.lays "java/lang/Throwable" "java/lang/Throwable" "stackTrace" "[Ljava/lang/StackTraceElement;" ∈ lw_g := lw_gin (List.mem_append_right _ (List.mem_of_getElem? (i := 821) rfl)) (by decide +kernel)
set_option maxRecDepth 100000 in
theorem mw_566 : Cond.fieldLink "java/lang/Throwable" 24 "java/lang/Throwable" "suppressedExceptions" "Ljava/util/List;" ∈ lw_g := lw_gin (List.mem_append_right _ (List.mem_of_getElem? (i := 859) rfl)) (by decide +kernel)
set_option maxRecDepth 100000 in
theorem mw_567 : Cond.lays "java/lang/Throwable" "java/lang/Throwable" "suppressedExceptions" "Ljava/util/List;" ∈ lw_g := lw_gin (List.mem_append_right _ (List.mem_of_getElem? (i := 823) rfl)) (by decide +kernel)
set_option maxRecDepth 100000 in
theorem mw_568 : Cond.fieldLink "java/lang/Throwable" 13 "java/lang/Throwable" "UNASSIGNED_STACK" "[Ljava/lang/StackTraceElement;" ∈ lw_g := lw_gin (List.mem_append_right _ (List.mem_of_getElem? (i := 833) rfl)) (by decide +kernel)
set_option maxRecDepth 100000 in
theorem mw_569 : Cond.fieldLink "java/lang/Throwable" 20 "java/lang/Throwable" "SUPPRESSED_SENTINEL" "Ljava/util/List;" ∈ lw_g := lw_gin (List.mem_append_right _ (List.mem_of_getElem? (i := 835) rfl)) (by decide +kernel)
set_option maxRecDepth 100000 in
theorem mw_570 : Cond.lays "java/lang/Throwable" "java/lang/Throwable" "detailMessage" "Ljava/lang/String;" ∈ lw_g := lw_gin (List.mem_append_right _ (List.mem_of_getElem? (i := 825) rfl)) (by decide +kernel)
set_option maxRecDepth 100000 in
theorem mw_571 : Cond.instanceMethod ⟨"java/util/NoSuchElementException", "<init>", "()V"⟩ ∈ lw_g := lw_gin (List.mem_append_right _ (List.mem_of_getElem? (i := 847) rfl)) (by decide +kernel)
set_option maxRecDepth 100000 in
theorem mw_572 : Cond.code ⟨"java/util/NoSuchElementException", "<init>", "()V"⟩ Bundle.five 1 none ∈ lw_g := lw_gin (List.mem_append_right _ (List.mem_of_getElem? (i := 848) rfl)) (by decide +kernel)
set_option maxRecDepth 100000 in
theorem mw_573 : Cond.methodLink "java/util/NoSuchElementException" 1 ⟨"java/lang/RuntimeException", "<init>", "()V"⟩ ∈ lw_g := lw_gin (List.mem_append_right _ (List.mem_of_getElem? (i := 849) rfl)) (by decide +kernel)
set_option maxRecDepth 100000 in
theorem mw_574 : Cond.instanceMethod ⟨"java/lang/RuntimeException", "<init>", "()V"⟩ ∈ lw_g := lw_gin (List.mem_append_right _ (List.mem_of_getElem? (i := 850) rfl)) (by decide +kernel)
set_option maxRecDepth 100000 in
theorem mw_575 : Cond.code ⟨"java/lang/RuntimeException", "<init>", "()V"⟩ Bundle.five 1 none ∈ lw_g := lw_gin (List.mem_append_right _ (List.mem_of_getElem? (i := 851) rfl)) (by decide +kernel)
set_option maxRecDepth 100000 in
theorem mw_576 : Cond.methodLink "java/lang/RuntimeException" 1 ⟨"java/lang/Exception", "<init>", "()V"⟩ ∈ lw_g := lw_gin (List.mem_append_right _ (List.mem_of_getElem? (i := 852) rfl)) (by decide +kernel)
set_option maxRecDepth 100000 in
theorem mw_577 : Cond.instanceMethod ⟨"java/lang/Exception", "<init>", "()V"⟩ ∈ lw_g := lw_gin (List.mem_append_right _ (List.mem_of_getElem? (i := 853) rfl)) (by decide +kernel)
set_option maxRecDepth 100000 in
theorem mw_578 : Cond.code ⟨"java/lang/Exception", "<init>", "()V"⟩ Bundle.five 1 none ∈ lw_g := lw_gin (List.mem_append_right _ (List.mem_of_getElem? (i := 854) rfl)) (by decide +kernel)
set_option maxRecDepth 100000 in
theorem mw_579 : Cond.methodLink "java/lang/Exception" 1 ⟨"java/lang/Throwable", "<init>", "()V"⟩ ∈ lw_g := lw_gin (List.mem_append_right _ (List.mem_of_getElem? (i := 855) rfl)) (by decide +kernel)
set_option maxRecDepth 100000 in
theorem mw_580 : Cond.methodLink "WriteOnceDisc" 203 ⟨"java/util/NoSuchElementException", "<init>", "()V"⟩ ∈ lw_g := lw_gin (List.mem_append_right _ (List.mem_of_getElem? (i := 846) rfl)) (by decide +kernel)
set_option maxRecDepth 100000 in
theorem mw_581 : Cond.instantiable "java/util/NoSuchElementException" 6 ∈ lw_g := lw_gin (List.mem_append_right _ (List.mem_of_getElem? (i := 808) rfl)) (by decide +kernel)
set_option maxRecDepth 100000 in
theorem mw_582 : Cond.selects "java/util/NoSuchElementException" ⟨"java/lang/Throwable", "fillInStackTrace", "(I)Ljava/lang/Throwable;"⟩ ⟨"java/lang/Throwable", "fillInStackTrace", "(I)Ljava/lang/Throwable;"⟩ ∈ lw_g := lw_gin (List.mem_append_right _ (List.mem_of_getElem? (i := 816) rfl)) (by decide +kernel)
set_option maxRecDepth 100000 in
theorem mw_583 : Cond.selects "java/util/NoSuchElementException" ⟨"java/lang/Throwable", "fillInStackTrace", "()Ljava/lang/Throwable;"⟩ ⟨"java/lang/Throwable", "fillInStackTrace", "()Ljava/lang/Throwable;"⟩ ∈ lw_g := lw_gin (List.mem_append_right _ (List.mem_of_getElem? (i := 817) rfl)) (by decide +kernel)
set_option maxRecDepth 100000 in
theorem mw_584 : Cond.lays "java/util/NoSuchElementException" "java/lang/Throwable" "cause" "Ljava/lang/Throwable;" ∈ lw_g := lw_gin (List.mem_append_right _ (List.mem_of_getElem? (i := 818) rfl)) (by decide +kernel)
set_option maxRecDepth 100000 in
theorem mw_585 : Cond.lays "java/util/NoSuchElementException" "java/lang/Throwable" "stackTrace" "[Ljava/lang/StackTraceElement;" ∈ lw_g := lw_gin (List.mem_append_right _ (List.mem_of_getElem? (i := 820) rfl)) (by decide +kernel)
set_option maxRecDepth 100000 in
theorem mw_586 : Cond.lays "java/util/NoSuchElementException" "java/lang/Throwable" "suppressedExceptions" "Ljava/util/List;" ∈ lw_g := lw_gin (List.mem_append_right _ (List.mem_of_getElem? (i := 822) rfl)) (by decide +kernel)
set_option maxRecDepth 100000 in
theorem mw_587 : Cond.lays "java/util/NoSuchElementException" "java/lang/Throwable" "detailMessage" "Ljava/lang/String;" ∈ lw_g := lw_gin (List.mem_append_right _ (List.mem_of_getElem? (i := 824) rfl)) (by decide +kernel)
set_option maxRecDepth 100000 in
theorem mw_588 : Cond.fieldLink "java/lang/Throwable" 198 "java/lang/Throwable" "backtrace" "Ljava/lang/Object;" ∈ lw_g := lw_gin (List.mem_append_right _ (List.mem_of_getElem? (i := 828) rfl)) (by decide +kernel)
set_option maxRecDepth 100000 in
theorem mw_589 : Cond.lays "java/lang/Throwable" "java/lang/Throwable" "backtrace" "Ljava/lang/Object;" ∈ lw_g := lw_gin (List.mem_append_right _ (List.mem_of_getElem? (i := 827) rfl)) (by decide +kernel)
set_option maxRecDepth 100000 in
theorem mw_590 : Cond.lays "java/util/NoSuchElementException" "java/lang/Throwable" "backtrace" "Ljava/lang/Object;" ∈ lw_g := lw_gin (List.mem_append_right _ (List.mem_of_getElem? (i := 826) rfl)) (by decide +kernel)
set_option maxRecDepth 100000 in
theorem mw_591 : Cond.classLink R_Di 201 "java/util/NoSuchElementException" ∈ lw_g := lw_gin (List.mem_append_right _ (List.mem_of_getElem? (i := 807) rfl)) (by decide +kernel)
set_option maxRecDepth 100000 in
theorem mw_592 : Cond.initialized "java/util/NoSuchElementException" ∈ lw_g := lw_gin (List.mem_append_right _ (List.mem_of_getElem? (i := 21) rfl)) (by decide +kernel)
set_option maxRecDepth 100000 in
theorem mw_593 : Cond.code y_Di_openedNode b_Di_openedNode 2 (some (.object "WriteOnceDisc$Node")) ∈ lw_g := lw_gin (List.mem_append_right _ (List.mem_of_getElem? (i := 878) rfl)) (by decide +kernel)
set_option maxRecDepth 100000 in
theorem mw_594 : Cond.methodLink R_Di 205 y_Di_openedNode ∈ lw_g := lw_gin (List.mem_append_right _ (List.mem_of_getElem? (i := 875) rfl)) (by decide +kernel)
set_option maxRecDepth 100000 in
theorem mw_595 : Cond.instanceMethod y_Di_openedNode ∈ lw_g := lw_gin (List.mem_append_right _ (List.mem_of_getElem? (i := 877) rfl)) (by decide +kernel)
set_option maxRecDepth 100000 in
theorem mw_596 : Cond.selects R_Di y_Di_openedNode y_Di_openedNode ∈ lw_g := lw_gin (List.mem_append_left _ (List.mem_of_getElem? (i := 26) rfl)) (by decide +kernel)
set_option maxRecDepth 100000 in
theorem mw_597 : Cond.code y_No_parentNumber b_No_parentNumber 1 (some .int) ∈ lw_g := lw_gin (List.mem_append_right _ (List.mem_of_getElem? (i := 737) rfl)) (by decide +kernel)
set_option maxRecDepth 100000 in
theorem mw_598 : Cond.methodLink R_Di 208 y_No_parentNumber ∈ lw_g := lw_gin (List.mem_append_right _ (List.mem_of_getElem? (i := 879) rfl)) (by decide +kernel)
set_option maxRecDepth 100000 in
theorem mw_599 : Cond.instanceMethod y_No_parentNumber ∈ lw_g := lw_gin (List.mem_append_right _ (List.mem_of_getElem? (i := 735) rfl)) (by decide +kernel)
set_option maxRecDepth 100000 in
theorem mw_600 : Cond.selects R_No y_No_parentNumber y_No_parentNumber ∈ lw_g := lw_gin (List.mem_append_right _ (List.mem_of_getElem? (i := 736) rfl)) (by decide +kernel)
set_option maxRecDepth 100000 in
theorem mw_601 : Cond.code y_No_sort b_No_sort 1 (some .int) ∈ lw_g := lw_gin (List.mem_append_right _ (List.mem_of_getElem? (i := 883) rfl)) (by decide +kernel)
set_option maxRecDepth 100000 in
theorem mw_602 : Cond.methodLink R_Di 211 y_No_sort ∈ lw_g := lw_gin (List.mem_append_right _ (List.mem_of_getElem? (i := 880) rfl)) (by decide +kernel)
set_option maxRecDepth 100000 in
theorem mw_603 : Cond.instanceMethod y_No_sort ∈ lw_g := lw_gin (List.mem_append_right _ (List.mem_of_getElem? (i := 881) rfl)) (by decide +kernel)
set_option maxRecDepth 100000 in
theorem mw_604 : Cond.selects R_No y_No_sort y_No_sort ∈ lw_g := lw_gin (List.mem_append_right _ (List.mem_of_getElem? (i := 882) rfl)) (by decide +kernel)
set_option maxRecDepth 100000 in
theorem mw_605 : Cond.fieldLink R_Di 214 "WriteOnceDisc$Node" "size" "I" ∈ lw_g := lw_gin (List.mem_append_right _ (List.mem_of_getElem? (i := 113) rfl)) (by decide +kernel)
set_option maxRecDepth 100000 in
theorem mw_606 : Cond.fieldLink R_Di 224 "WriteOnceDisc$Node" "seed" "I" ∈ lw_g := lw_gin (List.mem_append_right _ (List.mem_of_getElem? (i := 115) rfl)) (by decide +kernel)
set_option maxRecDepth 100000 in
theorem mw_607 : Cond.fieldLink R_Di 227 "WriteOnceDisc$Node" "extent" "I" ∈ lw_g := lw_gin (List.mem_append_right _ (List.mem_of_getElem? (i := 122) rfl)) (by decide +kernel)
theorem d_Di_openedNode_0 : decode b_Di_openedNode 0 = .ok (.aload_n 0, 1) := by decide +kernel
theorem d_Di_openedNode_1 : decode b_Di_openedNode 1 = .ok (.getfield 38, 3) := by decide +kernel
theorem d_Di_openedNode_4 : decode b_Di_openedNode 4 = .ok (.ifCond .eq 14, 3) := by decide +kernel
theorem d_Di_openedNode_18 : decode b_Di_openedNode 18 = .ok (.aconst_null, 1) := by decide +kernel
theorem d_Di_openedNode_19 : decode b_Di_openedNode 19 = .ok (.areturn, 1) := by decide +kernel
theorem d_Di_mark_0 : decode b_Di_mark 0 = .ok (.aload_n 0, 1) := by decide +kernel
theorem d_Di_mark_1 : decode b_Di_mark 1 = .ok (.getfield 53, 3) := by decide +kernel
theorem d_Di_mark_4 : decode b_Di_mark 4 = .ok (.iload_n 1, 1) := by decide +kernel
theorem d_Di_mark_5 : decode b_Di_mark 5 = .ok (.invokevirtual 198, 3) := by decide +kernel
theorem d_Di_mark_8 : decode b_Di_mark 8 = .ok (.istore_n 3, 1) := by decide +kernel
theorem d_Di_mark_9 : decode b_Di_mark 9 = .ok (.iload_n 3, 1) := by decide +kernel
theorem d_Di_mark_10 : decode b_Di_mark 10 = .ok (.iconst (-1), 1) := by decide +kernel
theorem d_Di_mark_11 : decode b_Di_mark 11 = .ok (.if_icmp .ne 11, 3) := by decide +kernel
theorem d_Di_mark_14 : decode b_Di_mark 14 = .ok (.new 201, 3) := by decide +kernel
theorem d_Di_mark_17 : decode b_Di_mark 17 = .ok (.dup, 1) := by decide +kernel
theorem d_Di_mark_18 : decode b_Di_mark 18 = .ok (.invokespecial 203, 3) := by decide +kernel
theorem d_Di_mark_21 : decode b_Di_mark 21 = .ok (.athrow, 1) := by decide +kernel
theorem d_Di_node_0 : decode b_Di_node 0 = .ok (.aload_n 0, 1) := by decide +kernel
theorem d_Di_node_1 : decode b_Di_node 1 = .ok (.iload_n 1, 1) := by decide +kernel
theorem d_Di_node_2 : decode b_Di_node 2 = .ok (.invokevirtual 205, 3) := by decide +kernel
theorem d_Di_node_5 : decode b_Di_node 5 = .ok (.astore_n 3, 1) := by decide +kernel
theorem d_Di_node_6 : decode b_Di_node 6 = .ok (.aload_n 3, 1) := by decide +kernel
theorem d_Di_node_7 : decode b_Di_node 7 = .ok (.ifnonnull 11, 3) := by decide +kernel
theorem d_Di_node_10 : decode b_Di_node 10 = .ok (.new 201, 3) := by decide +kernel
theorem d_Di_node_13 : decode b_Di_node 13 = .ok (.dup, 1) := by decide +kernel
theorem d_Di_node_14 : decode b_Di_node 14 = .ok (.invokespecial 203, 3) := by decide +kernel
theorem d_Di_node_17 : decode b_Di_node 17 = .ok (.athrow, 1) := by decide +kernel
theorem d_Di_name_0 : decode b_Di_name 0 = .ok (.aload_n 0, 1) := by decide +kernel
theorem d_Di_name_1 : decode b_Di_name 1 = .ok (.iload_n 1, 1) := by decide +kernel
theorem d_Di_name_2 : decode b_Di_name 2 = .ok (.invokevirtual 205, 3) := by decide +kernel
theorem d_Di_name_5 : decode b_Di_name 5 = .ok (.astore_n 2, 1) := by decide +kernel
theorem d_Di_name_6 : decode b_Di_name 6 = .ok (.aload_n 2, 1) := by decide +kernel
theorem d_Di_name_7 : decode b_Di_name 7 = .ok (.ifnonnull 11, 3) := by decide +kernel
theorem d_Di_name_10 : decode b_Di_name 10 = .ok (.new 201, 3) := by decide +kernel
theorem d_Di_name_13 : decode b_Di_name 13 = .ok (.dup, 1) := by decide +kernel
theorem d_Di_name_14 : decode b_Di_name 14 = .ok (.invokespecial 203, 3) := by decide +kernel
theorem d_Di_name_17 : decode b_Di_name 17 = .ok (.athrow, 1) := by decide +kernel
theorem d_Di_read_0 : decode b_Di_read 0 = .ok (.aload_n 0, 1) := by decide +kernel
theorem d_Di_read_1 : decode b_Di_read 1 = .ok (.iload_n 1, 1) := by decide +kernel
theorem d_Di_read_2 : decode b_Di_read 2 = .ok (.invokevirtual 205, 3) := by decide +kernel
theorem d_Di_read_5 : decode b_Di_read 5 = .ok (.astore_n 3, 1) := by decide +kernel
theorem d_Di_read_6 : decode b_Di_read 6 = .ok (.aload_n 3, 1) := by decide +kernel
theorem d_Di_read_7 : decode b_Di_read 7 = .ok (.ifnull 22, 3) := by decide +kernel
theorem d_Di_read_29 : decode b_Di_read 29 = .ok (.new 201, 3) := by decide +kernel
theorem d_Di_read_32 : decode b_Di_read 32 = .ok (.dup, 1) := by decide +kernel
theorem d_Di_read_33 : decode b_Di_read 33 = .ok (.invokespecial 203, 3) := by decide +kernel
theorem d_Di_read_36 : decode b_Di_read 36 = .ok (.athrow, 1) := by decide +kernel
theorem d_Di_tree_0 : decode b_Di_tree 0 = .ok (.aload_n 0, 1) := by decide +kernel
theorem d_Di_tree_1 : decode b_Di_tree 1 = .ok (.getfield 26, 3) := by decide +kernel
theorem d_Di_tree_4 : decode b_Di_tree 4 = .ok (.iload_n 1, 1) := by decide +kernel
theorem d_Di_tree_5 : decode b_Di_tree 5 = .ok (.invokevirtual 90, 3) := by decide +kernel
theorem d_Di_tree_8 : decode b_Di_tree 8 = .ok (.astore_n 3, 1) := by decide +kernel
theorem d_Di_tree_9 : decode b_Di_tree 9 = .ok (.aload_n 3, 1) := by decide +kernel
theorem d_Di_tree_10 : decode b_Di_tree 10 = .ok (.ifnonnull 11, 3) := by decide +kernel
theorem d_Di_tree_21 : decode b_Di_tree 21 = .ok (.iload_n 2, 1) := by decide +kernel
theorem d_Di_tree_22 : decode b_Di_tree 22 = .ok (.tableswitch 59 0 4 #[34, 39, 44, 49, 54], 34) := by decide +kernel
theorem d_Di_tree_81 : decode b_Di_tree 81 = .ok (.new 201, 3) := by decide +kernel
theorem d_Di_tree_84 : decode b_Di_tree 84 = .ok (.dup, 1) := by decide +kernel
theorem d_Di_tree_85 : decode b_Di_tree 85 = .ok (.invokespecial 203, 3) := by decide +kernel
theorem d_Di_tree_88 : decode b_Di_tree 88 = .ok (.athrow, 1) := by decide +kernel
theorem d_Di_tree_13 : decode b_Di_tree 13 = .ok (.new 201, 3) := by decide +kernel
theorem d_Di_tree_16 : decode b_Di_tree 16 = .ok (.dup, 1) := by decide +kernel
theorem d_Di_tree_17 : decode b_Di_tree 17 = .ok (.invokespecial 203, 3) := by decide +kernel
theorem d_Di_tree_20 : decode b_Di_tree 20 = .ok (.athrow, 1) := by decide +kernel
theorem d_No_parentNumber_0 : decode b_No_parentNumber 0 = .ok (.aload_n 0, 1) := by decide +kernel
theorem d_No_parentNumber_1 : decode b_No_parentNumber 1 = .ok (.getfield 15, 3) := by decide +kernel
theorem d_No_parentNumber_4 : decode b_No_parentNumber 4 = .ok (.ifnonnull 7, 3) := by decide +kernel
theorem d_No_parentNumber_7 : decode b_No_parentNumber 7 = .ok (.iconst (-1), 1) := by decide +kernel
theorem d_No_parentNumber_8 : decode b_No_parentNumber 8 = .ok (.goto 10, 3) := by decide +kernel
theorem d_No_parentNumber_18 : decode b_No_parentNumber 18 = .ok (.ireturn, 1) := by decide +kernel
theorem d_No_sort_0 : decode b_No_sort 0 = .ok (.aload_n 0, 1) := by decide +kernel
theorem d_No_sort_1 : decode b_No_sort 1 = .ok (.getfield 19, 3) := by decide +kernel
theorem d_No_sort_4 : decode b_No_sort 4 = .ok (.ifCond .eq 7, 3) := by decide +kernel
theorem d_No_sort_7 : decode b_No_sort 7 = .ok (.iconst 0, 1) := by decide +kernel
theorem d_No_sort_8 : decode b_No_sort 8 = .ok (.goto 4, 3) := by decide +kernel
theorem d_No_sort_12 : decode b_No_sort 12 = .ok (.ireturn, 1) := by decide +kernel
theorem d_Di_tree_56 : decode b_Di_tree 56 = .ok (.aload_n 3, 1) := by decide +kernel
theorem d_Di_tree_57 : decode b_Di_tree 57 = .ok (.invokevirtual 208, 3) := by decide +kernel
theorem d_Di_tree_60 : decode b_Di_tree 60 = .ok (.ireturn, 1) := by decide +kernel
theorem d_Di_tree_61 : decode b_Di_tree 61 = .ok (.aload_n 3, 1) := by decide +kernel
theorem d_Di_tree_62 : decode b_Di_tree 62 = .ok (.invokevirtual 211, 3) := by decide +kernel
theorem d_Di_tree_65 : decode b_Di_tree 65 = .ok (.ireturn, 1) := by decide +kernel
theorem d_Di_tree_66 : decode b_Di_tree 66 = .ok (.aload_n 3, 1) := by decide +kernel
theorem d_Di_tree_67 : decode b_Di_tree 67 = .ok (.getfield 214, 3) := by decide +kernel
theorem d_Di_tree_70 : decode b_Di_tree 70 = .ok (.ireturn, 1) := by decide +kernel
theorem d_Di_tree_71 : decode b_Di_tree 71 = .ok (.aload_n 3, 1) := by decide +kernel
theorem d_Di_tree_72 : decode b_Di_tree 72 = .ok (.getfield 224, 3) := by decide +kernel
theorem d_Di_tree_75 : decode b_Di_tree 75 = .ok (.ireturn, 1) := by decide +kernel
theorem d_Di_tree_76 : decode b_Di_tree 76 = .ok (.aload_n 3, 1) := by decide +kernel
theorem d_Di_tree_77 : decode b_Di_tree 77 = .ok (.getfield 227, 3) := by decide +kernel
theorem d_Di_tree_80 : decode b_Di_tree 80 = .ok (.ireturn, 1) := by decide +kernel
/-- a static of Throwable, laid in the old heap -/
def zL (n d : String) (A : Nat → Prop) (U : State) (H : Heap) : Prop := ∃ (c : ClassId) (k : Class) (i : Nat) (f : Field) (a : Nat) (cell : Cell), U.vm.findClass "java/lang/Throwable" = some c ∧ U.fieldFound? "java/lang/Throwable" n d = some (c, k, i, f) ∧ f.isStatic = true ∧ k.statics = some a ∧ H[a]? = some cell ∧ cell.vm.isStatics = true ∧ cell.cls = c ∧ f.slot < cell.slots.size ∧ k.staticTypes[f.slot]? = some f.type ∧ ¬ A a
theorem zL.moved {n d : String} {A : Nat → Prop} {u U : State} {H : Heap} (hvm : u.vm.Alike U.vm) (h : zL n d A u H) : zL n d A U H := by
  obtain ⟨c, k, i, f, a, cell, h0, h1, h2, h3, h4, h5, h6, h7, h8, h9⟩ := h
  obtain ⟨k', hi', he⟩ := State.fieldFound?_setVm hvm h1
  exact ⟨c, k', i, f, a, cell, by rw [hvm.findClass]; exact h0, hi', h2, by rw [he]; exact h3, h4, h5, h6, h7, by rw [he]; exact h8, h9⟩
theorem zL.kept {n d : String} {A : Nat → Prop} {U : State} {H H1 : Heap} (h : zL n d A U H) (hq : ∀ a : Nat, a < H.size → ¬ A a → H1[a]? = H[a]?) : zL n d A U H1 := by
  obtain ⟨c, k, i, f, a, cell, h0, h1, h2, h3, h4, h5, h6, h7, h8, h9⟩ := h
  exact ⟨c, k, i, f, a, cell, h0, h1, h2, h3, by rw [hq a (Array.getElem?_eq_some_iff.mp h4).1 h9]; exact h4, h5, h6, h7, h8, h9⟩
theorem zL.narrow {n d : String} {A B : Nat → Prop} {U : State} {H : Heap} (h : zL n d A U H) (hAB : ∀ q, B q → A q) : zL n d B U H := by
  obtain ⟨c, k, i, f, a, cell, h0, h1, h2, h3, h4, h5, h6, h7, h8, h9⟩ := h
  exact ⟨c, k, i, f, a, cell, h0, h1, h2, h3, h4, h5, h6, h7, h8, fun z => h9 (hAB a z)⟩
theorem zL.of {n d : String} {A : Nat → Prop} {args : Array Value} {s : State} (h : (Cond.laysStatic "java/lang/Throwable" n d).before args s = true) (hA : ∀ a : Nat, a < s.heap.size → ¬ A a) : zL n d A s s.heap := by
  obtain ⟨c, k, i, f, a, cell, h0, h1, h2, h3, h4, h5, h6, h7, h8⟩ := Cond.laysStatic_spec h
  exact ⟨c, k, i, f, a, cell, h0, h1, h2, h3, h4, h5, h6, h7, h8, hA a (Array.getElem?_eq_some_iff.mp h4).1⟩
theorem zL.use {n d : String} {A : Nat → Prop} {args : Array Value} {s : State} (h : zL n d A s s.heap) : (Cond.laysStatic "java/lang/Throwable" n d).before args s = true := by
  obtain ⟨c, k, i, f, a, cell, h0, h1, h2, h3, h4, h5, h6, h7, h8, h9⟩ := h
  simp [Cond.before, Cond.holds, Cond.value, h0, h1, h2, h3, h4, h5, h6, h7, h8]
/-- what a throw wants of the tables beside the words -/
def kT (G : hG) (U : State) : Prop := va_Nw (.declares ⟨"java/lang/RuntimeException", "<init>", "()V"⟩) U ∧ va_Nw (.declares ⟨"java/lang/Exception", "<init>", "()V"⟩) U ∧ va_Nw (.declares ⟨"java/lang/Throwable", "<init>", "()V"⟩) U ∧ va_Nw (.castable "java/util/NoSuchElementException" "java/util/NoSuchElementException") U ∧ zL "UNASSIGNED_STACK" "[Ljava/lang/StackTraceElement;" (kA G) U G.H ∧ zL "SUPPRESSED_SENTINEL" "Ljava/util/List;" (kA G) U G.H
def kF (D : va_G) (t : Nat → ClassId) (G : hG) (ak av : Nat → Nat) (U : State) : Prop := kE D t G ak av U ∧ kT G U
theorem kF_ok {D : va_G} {t : Nat → ClassId} {G : hG} {ak av : Nat → Nat} : hKok (kF D t G ak av) :=
  ⟨fun U g mk a k => ⟨kE_ok.1 U g mk a k.1, va_Nw.same (u := U) rfl rfl k.2.1, va_Nw.same (u := U) rfl rfl k.2.2.1, va_Nw.same (u := U) rfl rfl k.2.2.2.1, va_Nw.same (u := U) rfl rfl k.2.2.2.2.1, zL.moved (u := U) (Vm.Alike.refl U.vm) k.2.2.2.2.2.1, zL.moved (u := U) (Vm.Alike.refl U.vm) k.2.2.2.2.2.2⟩,
   fun s U hW k => ⟨kE_ok.2 s U hW k.1, va_Nw.warmD hW k.2.1, va_Nw.warmD hW k.2.2.1, va_Nw.warmD hW k.2.2.2.1, va_Nw.warmC hW k.2.2.2.2.1, zL.moved hW.alike k.2.2.2.2.2.1, zL.moved hW.alike k.2.2.2.2.2.2⟩⟩
theorem U9 {D : va_G} {cl : List vw_C} {G : hG} {h : hM} {s : State} {ak av : Nat → Nat} (hS : kS G ak av s) (h0 : hm D cl G h s.heap) : va_Zq "java/lang/Throwable" "UNASSIGNED_STACK" "[Ljava/lang/StackTraceElement;" (kA G) s s.heap := hS.2.2.2.2.2.1.kept (fun a _ hn => h0.1.2 a hn)
theorem V9 {D : va_G} {cl : List vw_C} {G : hG} {h : hM} {s : State} {ak av : Nat → Nat} (hS : kS G ak av s) (h0 : hm D cl G h s.heap) : va_Zq "java/lang/Throwable" "SUPPRESSED_SENTINEL" "Ljava/util/List;" (kA G) s s.heap := hS.2.2.2.2.2.2.kept (fun a _ hn => h0.1.2 a hn)
set_option maxRecDepth 100000 in
theorem hat9 {D : va_G} {cl : List vw_C} {G : hG} {h : hM} {args : Array Value} {s : State} (hts : ∀ w ∈ lw_g, w.before args s = true) (hT : kT G s) (h0 : hm D cl G h s.heap) (z1 : (Cond.isRef (.static "java/lang/Throwable" "UNASSIGNED_STACK" "[Ljava/lang/StackTraceElement;")).before args s = true) (z2 : (Cond.isRef (.static "java/lang/Throwable" "SUPPRESSED_SENTINEL" "Ljava/util/List;")).before args s = true) : ∀ a ∈ Bundle.ownAtoms0 R_Di 203 nX nXn, a.before args s = true := by
  have zL1 : (Cond.laysStatic "java/lang/Throwable" "UNASSIGNED_STACK" "[Ljava/lang/StackTraceElement;").before args s = true := (hT.2.2.2.2.1.kept (fun a _ hn => h0.1.2 a hn)).use
  have zL2 : (Cond.laysStatic "java/lang/Throwable" "SUPPRESSED_SENTINEL" "Ljava/util/List;").before args s = true := (hT.2.2.2.2.2.kept (fun a _ hn => h0.1.2 a hn)).use
  exact List.forall_mem_cons.mpr ⟨hts _ mw_549, List.forall_mem_cons.mpr ⟨hts _ mw_550, List.forall_mem_cons.mpr ⟨hts _ mw_551, List.forall_mem_cons.mpr ⟨hts _ mw_552, List.forall_mem_cons.mpr ⟨hts _ mw_553, List.forall_mem_cons.mpr ⟨hts _ mw_554, List.forall_mem_cons.mpr ⟨hts _ mw_555, List.forall_mem_cons.mpr ⟨hts _ mw_556, List.forall_mem_cons.mpr ⟨hts _ mw_557, List.forall_mem_cons.mpr ⟨hts _ mw_558, List.forall_mem_cons.mpr ⟨hts _ mw_559, List.forall_mem_cons.mpr ⟨hts _ mw_560, List.forall_mem_cons.mpr ⟨hts _ mw_561, List.forall_mem_cons.mpr ⟨hts _ mw_562, List.forall_mem_cons.mpr ⟨hts _ mw_563, List.forall_mem_cons.mpr ⟨hts _ mw_564, List.forall_mem_cons.mpr ⟨hts _ mw_565, List.forall_mem_cons.mpr ⟨hts _ mw_566, List.forall_mem_cons.mpr ⟨hts _ mw_567, List.forall_mem_cons.mpr ⟨hts _ mw_568, List.forall_mem_cons.mpr ⟨zL1, List.forall_mem_cons.mpr ⟨hts _ mw_569, List.forall_mem_cons.mpr ⟨zL2, List.forall_mem_cons.mpr ⟨hts _ mw_570, List.forall_mem_cons.mpr ⟨hts _ mw_571, List.forall_mem_cons.mpr ⟨hts _ mw_572, List.forall_mem_cons.mpr ⟨hts _ mw_573, List.forall_mem_cons.mpr ⟨hts _ mw_574, List.forall_mem_cons.mpr ⟨va_Nw.use rfl hT.1, List.forall_mem_cons.mpr ⟨hts _ mw_574, List.forall_mem_cons.mpr ⟨hts _ mw_575, List.forall_mem_cons.mpr ⟨hts _ mw_576, List.forall_mem_cons.mpr ⟨hts _ mw_577, List.forall_mem_cons.mpr ⟨va_Nw.use rfl hT.2.1, List.forall_mem_cons.mpr ⟨hts _ mw_577, List.forall_mem_cons.mpr ⟨hts _ mw_578, List.forall_mem_cons.mpr ⟨hts _ mw_579, List.forall_mem_cons.mpr ⟨hts _ mw_555, List.forall_mem_cons.mpr ⟨va_Nw.use rfl hT.2.2.1, List.forall_mem_cons.mpr ⟨hts _ mw_580, List.forall_mem_cons.mpr ⟨hts _ mw_581, List.forall_mem_cons.mpr ⟨va_Nw.use rfl hT.2.2.2.1, List.forall_mem_cons.mpr ⟨hts _ mw_582, List.forall_mem_cons.mpr ⟨hts _ mw_583, List.forall_mem_cons.mpr ⟨hts _ mw_584, List.forall_mem_cons.mpr ⟨hts _ mw_585, List.forall_mem_cons.mpr ⟨hts _ mw_586, List.forall_mem_cons.mpr ⟨hts _ mw_587, List.forall_mem_cons.mpr ⟨z1, List.forall_mem_cons.mpr ⟨z2, List.forall_mem_cons.mpr ⟨hts _ mw_588, List.forall_mem_cons.mpr ⟨hts _ mw_589, List.forall_mem_cons.mpr ⟨hts _ mw_590, List.forall_mem_nil _⟩⟩⟩⟩⟩⟩⟩⟩⟩⟩⟩⟩⟩⟩⟩⟩⟩⟩⟩⟩⟩⟩⟩⟩⟩⟩⟩⟩⟩⟩⟩⟩⟩⟩⟩⟩⟩⟩⟩⟩⟩⟩⟩⟩⟩⟩⟩⟩⟩⟩⟩⟩⟩
theorem tab1 {l : List ExceptionTableEntry} {a b c d : Nat} (h : l.map (fun h => (h.startPc, h.endPc, h.handlerPc, h.catchType)) = [(a, b, c, d)]) : ∃ x, l = [x] ∧ x.startPc = a ∧ x.endPc = b ∧ x.handlerPc = c ∧ x.catchType = d := by
  match l, h with
  | [], h => cases h
  | [x], h =>
    simp only [List.map_cons, List.map_nil, List.cons.injEq, Prod.mk.injEq, and_true] at h
    exact ⟨x, rfl, h.1, h.2.1, h.2.2.1, h.2.2.2⟩
  | _ :: _ :: _, h => simp at h

theorem tr_out {w9 : Int32} (h : inC w9 0 4 = 0) : w9.toInt < 0 ∨ (4 : Int) < w9.toInt := by
  by_cases h0 : w9 < 0
  · exact Or.inl (by rw [Int32.lt_iff_toInt_lt] at h0; exact h0)
  · by_cases h1 : 4 < w9
    · exact Or.inr (by rw [Int32.lt_iff_toInt_lt] at h1; exact h1)
    · rw [inC1 h0 h1] at h
      exact absurd h (by decide)
theorem tr_in {w9 : Int32} (h : ¬ inC w9 0 4 = 0) : w9 = 0 ∨ w9 = 1 ∨ w9 = 2 ∨ w9 = 3 ∨ w9 = 4 := by
  by_cases h0 : w9 < 0
  · exact absurd (inC0 (Or.inl h0)) h
  · by_cases h1 : 4 < w9
    · exact absurd (inC0 (Or.inr h1)) h
    · obtain ⟨q, hq, rfl⟩ := nI_of h0
      have h2 : ¬ 4 < q := fun z => h1 ((nI_ltI (a := 4) (by decide) hq).mpr z)
      rcases (show q = 0 ∨ q = 1 ∨ q = 2 ∨ q = 3 ∨ q = 4 by omega) with rfl | rfl | rfl | rfl | rfl
      · exact Or.inl rfl
      · exact Or.inr (Or.inl rfl)
      · exact Or.inr (Or.inr (Or.inl rfl))
      · exact Or.inr (Or.inr (Or.inr (Or.inl rfl)))
      · exact Or.inr (Or.inr (Or.inr (Or.inr rfl)))
theorem tr_t1 {k9 w9 : Int32} (h : treeT k9 w9 = 1) (hk : k9 = 0) : inC w9 0 4 = 0 := by
  by_cases h1 : inC w9 0 4 = 0
  · exact h1
  · rw [treeT, if_pos hk, if_neg h1] at h
    exact absurd h (by decide)
theorem tr_t0 {k9 w9 : Int32} (h : treeT k9 w9 = 0) : k9 = 0 ∧ ¬ inC w9 0 4 = 0 := by
  by_cases hk : k9 = 0
  · refine ⟨hk, fun h1 => ?_⟩
    rw [treeT, if_pos hk, if_pos h1] at h
    exact absurd h (by decide)
  · rw [treeT, if_neg hk] at h
    exact absurd h (by decide)

set_option maxHeartbeats 4000000 in
set_option maxRecDepth 100000 in
theorem c_p_somark (l : Launch) (D : va_G) (t : Nat → ClassId) (G : hG) (ak av : Nat → Nat) (h : hM) (md sa n : Nat) (fa : Nat → Option Nat) (i9 : Int32) (f_md : h md = some (.inr (0, [.ref sa, .int (nI 0)]))) (f_sa : h sa = some (.inl ((t 5), n, .inr (.inr (.inr (.inr fa)))))) : Met l y_Me_sectorOfMark (.code y_Me_sectorOfMark b_Me_sectorOfMark 4 (some .int) :: lw_g) { frames := 0, cells := 0, slots := 0, locals := 0 } (hP (kE D t G ak av) D vwCl G h [.ref md, .int i9]) (hQi D vwCl G (fun r h' => r = -1 ∧ h = h')) 0 0 nof := by
  refine Met.ofW (cc := b_Me_sectorOfMark) (maxL := 4) (ret := (some .int)) (by decide) rfl ?_
  intro p e s m args below meth c s₁ Bd hml hv
  obtain ⟨ha, hE, hH⟩ := hv
  have hx := Bd.exec
  have hb := Bd.bytes
  have hr := Bd.returns
  have hts : ∀ w ∈ lw_g, w.before args s = true := fun w hw => atoms_spec (ws := (.code y_Me_sectorOfMark b_Me_sectorOfMark 4 (some .int) :: lw_g)) Bd.pre w (List.mem_cons_of_mem _ hw)
  have hown : s.vm.findClass R_Me = some m.cls := findClass_of_methodNamed Bd.named
  have hlocks := Bd.notSynchronized
  have hK := hE.1
  have hH0 := hH
  have hLo : hLc nof [] := hLc_nil
  have hz : s.heap.size ≤ s.heap.size := Nat.le_refl _
  have hkp : kp [] h h := kp_rf
  have hl := lv_entry [.ref md, .int i9] (n := 4) (Nat.le_of_ble_eq_true rfl)
  rw [show entryFrame m args 4 = F0 m 0 ((lg_sl [.ref md, .int i9] ++ List.replicate (4 - (lg_sl [.ref md, .int i9]).length) Slot.unset).toArray) [] from (by rw [ha]; exact lg_entry_eq m [.ref md, .int i9] 4)]
  generalize (lg_sl [.ref md, .int i9] ++ List.replicate (4 - (lg_sl [.ref md, .int i9]).length) Slot.unset).toArray = ls at hl ⊢
  have hl : lv_has ls 4 [(0, .ref md), (1, .int i9)] := hl
  refine lv_iconst (v := 0) hx hb d_Me_sectorOfMark_0 (by decide) ?_
  refine lv_istore_n (lv' := [(2, .int 0), (0, .ref md), (1, .int i9)]) hx hb d_Me_sectorOfMark_1 rfl hl (by decide) rfl (fun ls hl => ?_)
  refine lv_iconst (v := 0) hx hb d_Me_sectorOfMark_2 (by decide) ?_
  refine lv_istore_n (lv' := [(3, .int 0), (2, .int 0), (0, .ref md), (1, .int i9)]) hx hb d_Me_sectorOfMark_3 rfl hl (by decide) rfl (fun ls hl => ?_)
  refine lv_iload_n hx hb d_Me_sectorOfMark_4 rfl (lv_at hl 0 rfl) ?_
  refine lv_aload_n hx hb d_Me_sectorOfMark_5 rfl (lv_at hl 2 rfl) ?_
  refine hm_get (ci := 0) (v := .int (nI 0)) (C := R_Me) (T := F_Me) (N := 2) hx hb hts ig_Me hown hK hH f_md rfl 1 (by decide) (hts _ mw_26) (fun _ h9 => h9) rfl d_Me_sectorOfMark_6 ?_
  refine lv_icmp_ge (tgt := 36) hx hb d_Me_sectorOfMark_9 (by decide) (fun hc1 => ?_) (fun hc1 => absurd (by decide) hc1)
  refine lv_iconst (v := -1) hx hb d_Me_sectorOfMark_36 (by decide) ?_
  exact W.iret (v := (-1)) hx hb hr (fun t9 ht hW => ⟨(-1), h, rfl, ⟨rfl, rfl⟩, by rw [ht]; exact hH, by rw [ht]; exact hz⟩) hLo d_Me_sectorOfMark_37

set_option maxHeartbeats 4000000 in
set_option maxRecDepth 100000 in
theorem c_p_nodeOf (l : Launch) (D : va_G) (t : Nat → ClassId) (G : hG) (ak av : Nat → Nat) (h : hM) (ns sl od rt : Nat) (fs : Nat → Option Nat) (sc np nu : Int32) (f_ns : h ns = some (.inr (2, [.ref sl, .ref od, .int 1, .int 1]))) (f_sl : h sl = some (.inl ((t 4), 30, .inr (.inr (.inr (.inr fs)))))) (f_rt : h rt = some (.inr (1, [.int 0, .null, .int 1, .long 0, .int 0, .int 0, .int 0, .int 0, .int 0, .int sc, .int np]))) (hf0 : fs 0 = some rt) : Met l y_Ns_nodeOf (.code y_Ns_nodeOf b_Ns_nodeOf 3 (some (.object "WriteOnceDisc$Node")) :: lw_g) { frames := 0, cells := 0, slots := 0, locals := 0 } (hP (kE D t G ak av) D vwCl G h [.ref ns, .int nu]) (hQr D vwCl G (fun r h' => r = (if nu = 0 then some rt else none) ∧ h = h')) 0 0 nof := by
  refine Met.ofW (cc := b_Ns_nodeOf) (maxL := 3) (ret := (some (.object "WriteOnceDisc$Node"))) (by decide) rfl ?_
  intro p e s m args below meth c s₁ Bd hml hv
  obtain ⟨ha, hE, hH⟩ := hv
  have hx := Bd.exec
  have hb := Bd.bytes
  have hr := Bd.returns
  have hts : ∀ w ∈ lw_g, w.before args s = true := fun w hw => atoms_spec (ws := (.code y_Ns_nodeOf b_Ns_nodeOf 3 (some (.object "WriteOnceDisc$Node")) :: lw_g)) Bd.pre w (List.mem_cons_of_mem _ hw)
  have hown : s.vm.findClass R_Ns = some m.cls := findClass_of_methodNamed Bd.named
  have hlocks := Bd.notSynchronized
  have hK := hE.1
  have hH0 := hH
  have hLo : hLc nof [] := hLc_nil
  have hz : s.heap.size ≤ s.heap.size := Nat.le_refl _
  have hkp : kp [] h h := kp_rf
  have hl := lv_entry [.ref ns, .int nu] (n := 3) (Nat.le_of_ble_eq_true rfl)
  rw [show entryFrame m args 3 = F0 m 0 ((lg_sl [.ref ns, .int nu] ++ List.replicate (3 - (lg_sl [.ref ns, .int nu]).length) Slot.unset).toArray) [] from (by rw [ha]; exact lg_entry_eq m [.ref ns, .int nu] 3)]
  generalize (lg_sl [.ref ns, .int nu] ++ List.replicate (3 - (lg_sl [.ref ns, .int nu]).length) Slot.unset).toArray = ls at hl ⊢
  have hl : lv_has ls 3 [(0, .ref ns), (1, .int nu)] := hl
  refine lv_iconst (v := 0) hx hb d_Ns_nodeOf_0 (by decide) ?_
  refine lv_istore_n (lv' := [(2, .int 0), (0, .ref ns), (1, .int nu)]) hx hb d_Ns_nodeOf_1 rfl hl (by decide) rfl (fun ls hl => ?_)
  refine lv_iload_n hx hb d_Ns_nodeOf_2 rfl (lv_at hl 0 rfl) ?_
  refine lv_aload_n hx hb d_Ns_nodeOf_3 rfl (lv_at hl 1 rfl) ?_
  refine hm_get (ci := 2) (v := .int 1) (C := R_Ns) (T := F_Ns) (N := 4) hx hb hts ig_Ns hown hK hH f_ns rfl 2 (by decide) (hts _ mw_37) (fun _ h9 => h9) rfl d_Ns_nodeOf_4 ?_
  refine lv_icmp_ge (tgt := 36) hx hb d_Ns_nodeOf_7 (by decide) (fun hc1 => absurd hc1 (by decide)) (fun hc1 => ?_)
  refine lv_aload_n hx hb d_Ns_nodeOf_10 rfl (lv_at hl 1 rfl) ?_
  refine hm_get (ci := 2) (v := .ref sl) (C := R_Ns) (T := F_Ns) (N := 4) hx hb hts ig_Ns hown hK hH f_ns rfl 0 (by decide) (hts _ mw_35) (fun _ h9 => h9) rfl d_Ns_nodeOf_11 ?_
  refine lv_iload_n hx hb d_Ns_nodeOf_14 rfl (lv_at hl 0 rfl) ?_
  refine hj_aald (v := .ref rt) hx hb hK hH 4 f_sl (C := R_No) rfl 0 (by decide) (by decide) (by decide) (by rw [hf0]; rfl) d_Ns_nodeOf_15 ?_
  refine hm_get (ci := 1) (v := .int 0) (C := R_No) (T := F_No) (N := 11) hx hb hts ig_No hown hK hH f_rt rfl 0 (by decide) (hts _ mw_273) (fun _ h9 => h9) rfl d_Ns_nodeOf_16 ?_
  refine lv_iload_n hx hb d_Ns_nodeOf_19 rfl (lv_at hl 2 rfl) ?_
  refine lv_icmp_ne (tgt := 30) hx hb d_Ns_nodeOf_20 (by decide) (fun hc2 => ?_) (fun hc2 => ?_)
  · skip
    refine lv_iinc (v := 0 + 1) (lv' := [(2, .int (0 + 1)), (0, .ref ns), (1, .int nu)]) hx hb d_Ns_nodeOf_30 hl (k := 0) rfl (by rfl) (by decide) rfl (fun ls hl => ?_)
    refine lv_goto (tgt := 2) hx hb d_Ns_nodeOf_33 (by decide) ?_
    refine lv_iload_n hx hb d_Ns_nodeOf_2 rfl (lv_at hl 0 rfl) ?_
    refine lv_aload_n hx hb d_Ns_nodeOf_3 rfl (lv_at hl 1 rfl) ?_
    refine hm_get (ci := 2) (v := .int 1) (C := R_Ns) (T := F_Ns) (N := 4) hx hb hts ig_Ns hown hK hH f_ns rfl 2 (by decide) (hts _ mw_37) (fun _ h9 => h9) rfl d_Ns_nodeOf_4 ?_
    refine lv_icmp_ge (tgt := 36) hx hb d_Ns_nodeOf_7 (by decide) (fun hc3 => ?_) (fun hc3 => absurd (by decide) hc3)
    refine lv_null hx hb d_Ns_nodeOf_36 ?_
    exact W.aret (v := va_rf (none)) hx hb hr (Or.inl ⟨_, rfl⟩) (va_rf_or _) (fun t9 ht hW => ⟨none, h, rfl, ⟨(if_neg (fun q => hc2 q.symm)).symm, rfl⟩, by rw [ht]; exact hH, by rw [ht]; exact hz⟩) hLo d_Ns_nodeOf_37
  · skip
    refine lv_aload_n hx hb d_Ns_nodeOf_23 rfl (lv_at hl 1 rfl) ?_
    refine hm_get (ci := 2) (v := .ref sl) (C := R_Ns) (T := F_Ns) (N := 4) hx hb hts ig_Ns hown hK hH f_ns rfl 0 (by decide) (hts _ mw_35) (fun _ h9 => h9) rfl d_Ns_nodeOf_24 ?_
    refine lv_iload_n hx hb d_Ns_nodeOf_27 rfl (lv_at hl 0 rfl) ?_
    refine hj_aald (v := .ref rt) hx hb hK hH 4 f_sl (C := R_No) rfl 0 (by decide) (by decide) (by decide) (by rw [hf0]; rfl) d_Ns_nodeOf_28 ?_
    exact W.aret (v := va_rf (some rt)) hx hb hr (Or.inl ⟨_, rfl⟩) (va_rf_or _) (fun t9 ht hW => ⟨some rt, h, rfl, ⟨(if_pos hc2.symm).symm, rfl⟩, by rw [ht]; exact hH, by rw [ht]; exact hz⟩) hLo d_Ns_nodeOf_29

set_option maxHeartbeats 4000000 in
set_option maxRecDepth 100000 in
theorem c_p_opened (l : Launch) (D : va_G) (t : Nat → ClassId) (G : hG) (ak av : Nat → Nat) (h : hM) (x wr rd ns op sr md : Nat) (k9 : Int32) (f_x : h x = some (.inr (8, [.ref wr, .ref rd, .ref ns, .ref md, .null, .int 0, .int 0, .ref op, .ref sr]))) : Met l y_Di_openedNode (.code y_Di_openedNode b_Di_openedNode 2 (some (.object "WriteOnceDisc$Node")) :: lw_g) { frames := 0, cells := 0, slots := 0, locals := 0 } (hP (kE D t G ak av) D vwCl G h [.ref x, .int k9]) (hQr D vwCl G (fun r h' => r = none ∧ h = h')) 0 0 nof := by
  refine Met.ofW (cc := b_Di_openedNode) (maxL := 2) (ret := (some (.object "WriteOnceDisc$Node"))) (by decide) rfl ?_
  intro p e s m args below meth c s₁ Bd hml hv
  obtain ⟨ha, hE, hH⟩ := hv
  have hx := Bd.exec
  have hb := Bd.bytes
  have hr := Bd.returns
  have hts : ∀ w ∈ lw_g, w.before args s = true := fun w hw => atoms_spec (ws := (.code y_Di_openedNode b_Di_openedNode 2 (some (.object "WriteOnceDisc$Node")) :: lw_g)) Bd.pre w (List.mem_cons_of_mem _ hw)
  have hown : s.vm.findClass R_Di = some m.cls := findClass_of_methodNamed Bd.named
  have hlocks := Bd.notSynchronized
  have hK := hE.1
  have hH0 := hH
  have hLo : hLc nof [] := hLc_nil
  have hz : s.heap.size ≤ s.heap.size := Nat.le_refl _
  have hkp : kp [] h h := kp_rf
  have hl := lv_entry [.ref x, .int k9] (n := 2) (Nat.le_of_ble_eq_true rfl)
  rw [show entryFrame m args 2 = F0 m 0 ((lg_sl [.ref x, .int k9] ++ List.replicate (2 - (lg_sl [.ref x, .int k9]).length) Slot.unset).toArray) [] from (by rw [ha]; exact lg_entry_eq m [.ref x, .int k9] 2)]
  generalize (lg_sl [.ref x, .int k9] ++ List.replicate (2 - (lg_sl [.ref x, .int k9]).length) Slot.unset).toArray = ls at hl ⊢
  have hl : lv_has ls 2 [(0, .ref x), (1, .int k9)] := hl
  refine lv_aload_n hx hb d_Di_openedNode_0 rfl (lv_at hl 0 rfl) ?_
  refine hm_get (ci := 8) (v := .int 0) (C := R_Di) (T := F_Di) (N := 9) hx hb hts ig_Di hown hK hH f_x rfl 6 (by decide) (hts _ mw_261) (fun _ h9 => h9) rfl d_Di_openedNode_1 ?_
  refine lv_if_eq (tgt := 18) hx hb d_Di_openedNode_4 (by decide) (fun hc1 => ?_) (fun hc1 => absurd rfl hc1)
  refine lv_null hx hb d_Di_openedNode_18 ?_
  exact W.aret (v := va_rf (none)) hx hb hr (Or.inl ⟨_, rfl⟩) (va_rf_or _) (fun t9 ht hW => ⟨none, h, rfl, ⟨rfl, rfl⟩, by rw [ht]; exact hH, by rw [ht]; exact hz⟩) hLo d_Di_openedNode_19

set_option maxHeartbeats 4000000 in
set_option maxRecDepth 100000 in
theorem c_x_markT (l : Launch) (D : va_G) (t : Nat → ClassId) (G : hG) (ak av : Nat → Nat) (h : hM) (hfl : l.flags = flags0) (x n : Nat) (i9 w9 : Int32) (hX : FrX t h x n) : MetT l y_Di_mark (.code y_Di_mark b_Di_mark 4 (some .int) :: lw_g) { frames := 6, cells := 1, slots := 6, locals := 90 } (hP (kF D t G ak av) D vwCl G h [.ref x, .int i9, .int w9]) := by
  refine MetT.ofW (cc := b_Di_mark) (maxL := 4) (ret := (some .int)) (by decide) rfl ?_
  intro p e s m args below meth c s₁ Bd hml htab hadm hv
  have htr : e.platform.stackTraces = false := Launch.traces_off hfl hadm
  obtain ⟨ha, ⟨hE, hE1⟩, hH⟩ := hv
  have hx := Bd.exec
  have hb := Bd.bytes
  have hr := Bd.returns
  have hts : ∀ w ∈ lw_g, w.before args s = true := fun w hw => atoms_spec (ws := (.code y_Di_mark b_Di_mark 4 (some .int) :: lw_g)) Bd.pre w (List.mem_cons_of_mem _ hw)
  have hown : s.vm.findClass R_Di = some m.cls := findClass_of_methodNamed Bd.named
  have hlocks := Bd.notSynchronized
  have hK := hE.1
  have hH0 := hH
  have hLo : hLc nof [] := hLc_nil
  have hz : s.heap.size ≤ s.heap.size := Nat.le_refl _
  have hkp : kp [] h h := kp_rf
  have hl := lv_entry [.ref x, .int i9, .int w9] (n := 4) (Nat.le_of_ble_eq_true rfl)
  rw [show entryFrame m args 4 = F0 m 0 ((lg_sl [.ref x, .int i9, .int w9] ++ List.replicate (4 - (lg_sl [.ref x, .int i9, .int w9]).length) Slot.unset).toArray) [] from (by rw [ha]; exact lg_entry_eq m [.ref x, .int i9, .int w9] 4)]
  generalize (lg_sl [.ref x, .int i9, .int w9] ++ List.replicate (4 - (lg_sl [.ref x, .int i9, .int w9]).length) Slot.unset).toArray = ls at hl ⊢
  have hl : lv_has ls 4 [(0, .ref x), (1, .int i9), (2, .int w9)] := hl
  obtain ⟨wr, rd, ns, op, sr, md, su, pg, pb, sl, od, sa, fs, g, fa, f_x, f_wr, f_su, f_pg, f_pb, f_ns, f_sl, f_od, hgf, hnd, f_md, f_sa, hrow, ne_sl_od, hn40, hn⟩ := hX
  obtain ⟨rt, hf0, f_rt⟩ := hnd.2 0 (by decide) (by decide)
  refine lv_aload_n hx hb d_Di_mark_0 rfl (lv_at hl 0 rfl) ?_
  refine hm_get (ci := 8) (v := .ref md) (C := R_Di) (T := F_Di) (N := 9) hx hb hts ig_Di hown hK hH f_x rfl 3 (by decide) (hts _ mw_269) (fun _ h9 => h9) rfl d_Di_mark_1 ?_
  refine lv_iload_n hx hb d_Di_mark_4 rfl (lv_at hl 1 rfl) ?_
  refine hm_callPi (va_runV (As := [.int i9]) (b := md) (rest := []) ⟨hx, hb, hml, hown, hts⟩ (c_p_somark l D t G ak av h md sa n fa i9 f_md f_sa) ⟨cw9B 1 hts mw_309 mw_310 mw_163 rfl rfl (by decide +kernel) ⟨Nat.le_of_ble_eq_true rfl, Nat.le_of_ble_eq_true rfl⟩, hts _ mw_311, hts _ mw_312⟩ (hP_V (q := (R_Me, F_Me, 2)) kE_ok hE hK hH f_md rfl) rfl rfl hl.1 rfl (lv_room (Nat.le_of_ble_eq_true rfl)) d_Di_mark_5 ⟨Nat.le_of_ble_eq_true rfl, Nat.le_of_ble_eq_true rfl⟩) (fun r1 h2 H3 hp5  hH z4 => ?_)
  have hz : s.heap.size ≤ H3.size := Nat.le_trans hz z4
  obtain ⟨rfl, rfl⟩ := hp5
  refine lv_istore_n (lv' := [(3, .int (-1)), (0, .ref x), (1, .int i9), (2, .int w9)]) hx hb d_Di_mark_8 rfl hl (by decide) rfl (fun ls hl => ?_)
  refine lv_iload_n hx hb d_Di_mark_9 rfl (lv_at hl 0 rfl) ?_
  refine lv_iconst (v := -1) hx hb d_Di_mark_10 (by decide) ?_
  refine lv_icmp_ne (tgt := 22) hx hb d_Di_mark_11 (by decide) (fun hc6 => absurd rfl hc6) (fun hc6 => ?_)
  exact hm_throw hx hb (hml.trans hl.1.symm) htr hlocks htab hown (hat9 hts hE1 hH0 (isRef9 (U9 hE.2.2.2.2 hH0)) (isRef9 (V9 hE.2.2.2.2 hH0))) (hts _ mw_591) (hts _ mw_592) hz (Nat.le_of_ble_eq_true rfl) (Nat.le_of_ble_eq_true rfl) (Nat.le_of_ble_eq_true rfl) (Nat.le_of_ble_eq_true rfl) d_Di_mark_14 d_Di_mark_17 d_Di_mark_18 d_Di_mark_21

set_option maxHeartbeats 4000000 in
set_option maxRecDepth 100000 in
theorem c_x_nodeT (l : Launch) (D : va_G) (t : Nat → ClassId) (G : hG) (ak av : Nat → Nat) (h : hM) (hfl : l.flags = flags0) (x n : Nat) (k9 w9 : Int32) (hX : FrX t h x n) : MetT l y_Di_node (.code y_Di_node b_Di_node 4 (some .int) :: lw_g) { frames := 6, cells := 1, slots := 6, locals := 90 } (hP (kF D t G ak av) D vwCl G h [.ref x, .int k9, .int w9]) := by
  refine MetT.ofW (cc := b_Di_node) (maxL := 4) (ret := (some .int)) (by decide) rfl ?_
  intro p e s m args below meth c s₁ Bd hml htab hadm hv
  have htr : e.platform.stackTraces = false := Launch.traces_off hfl hadm
  obtain ⟨ha, ⟨hE, hE1⟩, hH⟩ := hv
  have hx := Bd.exec
  have hb := Bd.bytes
  have hr := Bd.returns
  have hts : ∀ w ∈ lw_g, w.before args s = true := fun w hw => atoms_spec (ws := (.code y_Di_node b_Di_node 4 (some .int) :: lw_g)) Bd.pre w (List.mem_cons_of_mem _ hw)
  have hown : s.vm.findClass R_Di = some m.cls := findClass_of_methodNamed Bd.named
  have hlocks := Bd.notSynchronized
  have hK := hE.1
  have hH0 := hH
  have hLo : hLc nof [] := hLc_nil
  have hz : s.heap.size ≤ s.heap.size := Nat.le_refl _
  have hkp : kp [] h h := kp_rf
  have hl := lv_entry [.ref x, .int k9, .int w9] (n := 4) (Nat.le_of_ble_eq_true rfl)
  rw [show entryFrame m args 4 = F0 m 0 ((lg_sl [.ref x, .int k9, .int w9] ++ List.replicate (4 - (lg_sl [.ref x, .int k9, .int w9]).length) Slot.unset).toArray) [] from (by rw [ha]; exact lg_entry_eq m [.ref x, .int k9, .int w9] 4)]
  generalize (lg_sl [.ref x, .int k9, .int w9] ++ List.replicate (4 - (lg_sl [.ref x, .int k9, .int w9]).length) Slot.unset).toArray = ls at hl ⊢
  have hl : lv_has ls 4 [(0, .ref x), (1, .int k9), (2, .int w9)] := hl
  obtain ⟨wr, rd, ns, op, sr, md, su, pg, pb, sl, od, sa, fs, g, fa, f_x, f_wr, f_su, f_pg, f_pb, f_ns, f_sl, f_od, hgf, hnd, f_md, f_sa, hrow, ne_sl_od, hn40, hn⟩ := hX
  obtain ⟨rt, hf0, f_rt⟩ := hnd.2 0 (by decide) (by decide)
  refine lv_aload_n hx hb d_Di_node_0 rfl (lv_at hl 0 rfl) ?_
  refine lv_iload_n hx hb d_Di_node_1 rfl (lv_at hl 1 rfl) ?_
  refine hm_callPr (va_runV (As := [.int k9]) (b := x) (rest := []) ⟨hx, hb, hml, hown, hts⟩ (c_p_opened l D t G ak av h x wr rd ns op sr md k9 f_x) ⟨cw9B 1 hts mw_593 mw_594 mw_121 rfl rfl (by decide +kernel) ⟨Nat.le_of_ble_eq_true rfl, Nat.le_of_ble_eq_true rfl⟩, hts _ mw_595, hts _ mw_596⟩ (hP_V (q := (R_Di, F_Di, 9)) kE_ok hE hK hH f_x rfl) rfl rfl hl.1 rfl (lv_room (Nat.le_of_ble_eq_true rfl)) d_Di_node_2 ⟨Nat.le_of_ble_eq_true rfl, Nat.le_of_ble_eq_true rfl⟩) (fun r1 h2 H3 hp5  hH z4 => ?_)
  have hz : s.heap.size ≤ H3.size := Nat.le_trans hz z4
  obtain ⟨rfl, rfl⟩ := hp5
  refine W.eq (g2 := F0 m 5 ls [.null]) rfl ?_
  refine lv_astore_nN (lv' := [(3, .null), (0, .ref x), (1, .int k9), (2, .int w9)]) hx hb d_Di_node_5 rfl hl (by decide) rfl (fun ls hl => ?_)
  refine lv_aload_nN hx hb d_Di_node_6 rfl (lv_at hl 0 rfl) ?_
  refine lv_ifnonnullN hx hb d_Di_node_7 ?_
  exact hm_throw hx hb (hml.trans hl.1.symm) htr hlocks htab hown (hat9 hts hE1 hH0 (isRef9 (U9 hE.2.2.2.2 hH0)) (isRef9 (V9 hE.2.2.2.2 hH0))) (hts _ mw_591) (hts _ mw_592) hz (Nat.le_of_ble_eq_true rfl) (Nat.le_of_ble_eq_true rfl) (Nat.le_of_ble_eq_true rfl) (Nat.le_of_ble_eq_true rfl) d_Di_node_10 d_Di_node_13 d_Di_node_14 d_Di_node_17

set_option maxHeartbeats 4000000 in
set_option maxRecDepth 100000 in
theorem c_x_nameT (l : Launch) (D : va_G) (t : Nat → ClassId) (G : hG) (ak av : Nat → Nat) (h : hM) (hfl : l.flags = flags0) (x n : Nat) (k9 : Int32) (hX : FrX t h x n) : MetT l y_Di_name (.code y_Di_name b_Di_name 3 (some .long) :: lw_g) { frames := 6, cells := 1, slots := 6, locals := 90 } (hP (kF D t G ak av) D vwCl G h [.ref x, .int k9]) := by
  refine MetT.ofW (cc := b_Di_name) (maxL := 3) (ret := (some .long)) (by decide) rfl ?_
  intro p e s m args below meth c s₁ Bd hml htab hadm hv
  have htr : e.platform.stackTraces = false := Launch.traces_off hfl hadm
  obtain ⟨ha, ⟨hE, hE1⟩, hH⟩ := hv
  have hx := Bd.exec
  have hb := Bd.bytes
  have hr := Bd.returns
  have hts : ∀ w ∈ lw_g, w.before args s = true := fun w hw => atoms_spec (ws := (.code y_Di_name b_Di_name 3 (some .long) :: lw_g)) Bd.pre w (List.mem_cons_of_mem _ hw)
  have hown : s.vm.findClass R_Di = some m.cls := findClass_of_methodNamed Bd.named
  have hlocks := Bd.notSynchronized
  have hK := hE.1
  have hH0 := hH
  have hLo : hLc nof [] := hLc_nil
  have hz : s.heap.size ≤ s.heap.size := Nat.le_refl _
  have hkp : kp [] h h := kp_rf
  have hl := lv_entry [.ref x, .int k9] (n := 3) (Nat.le_of_ble_eq_true rfl)
  rw [show entryFrame m args 3 = F0 m 0 ((lg_sl [.ref x, .int k9] ++ List.replicate (3 - (lg_sl [.ref x, .int k9]).length) Slot.unset).toArray) [] from (by rw [ha]; exact lg_entry_eq m [.ref x, .int k9] 3)]
  generalize (lg_sl [.ref x, .int k9] ++ List.replicate (3 - (lg_sl [.ref x, .int k9]).length) Slot.unset).toArray = ls at hl ⊢
  have hl : lv_has ls 3 [(0, .ref x), (1, .int k9)] := hl
  obtain ⟨wr, rd, ns, op, sr, md, su, pg, pb, sl, od, sa, fs, g, fa, f_x, f_wr, f_su, f_pg, f_pb, f_ns, f_sl, f_od, hgf, hnd, f_md, f_sa, hrow, ne_sl_od, hn40, hn⟩ := hX
  obtain ⟨rt, hf0, f_rt⟩ := hnd.2 0 (by decide) (by decide)
  refine lv_aload_n hx hb d_Di_name_0 rfl (lv_at hl 0 rfl) ?_
  refine lv_iload_n hx hb d_Di_name_1 rfl (lv_at hl 1 rfl) ?_
  refine hm_callPr (va_runV (As := [.int k9]) (b := x) (rest := []) ⟨hx, hb, hml, hown, hts⟩ (c_p_opened l D t G ak av h x wr rd ns op sr md k9 f_x) ⟨cw9B 1 hts mw_593 mw_594 mw_121 rfl rfl (by decide +kernel) ⟨Nat.le_of_ble_eq_true rfl, Nat.le_of_ble_eq_true rfl⟩, hts _ mw_595, hts _ mw_596⟩ (hP_V (q := (R_Di, F_Di, 9)) kE_ok hE hK hH f_x rfl) rfl rfl hl.1 rfl (lv_room (Nat.le_of_ble_eq_true rfl)) d_Di_name_2 ⟨Nat.le_of_ble_eq_true rfl, Nat.le_of_ble_eq_true rfl⟩) (fun r1 h2 H3 hp5  hH z4 => ?_)
  have hz : s.heap.size ≤ H3.size := Nat.le_trans hz z4
  obtain ⟨rfl, rfl⟩ := hp5
  refine W.eq (g2 := F0 m 5 ls [.null]) rfl ?_
  refine lv_astore_nN (lv' := [(2, .null), (0, .ref x), (1, .int k9)]) hx hb d_Di_name_5 rfl hl (by decide) rfl (fun ls hl => ?_)
  refine lv_aload_nN hx hb d_Di_name_6 rfl (lv_at hl 0 rfl) ?_
  refine lv_ifnonnullN hx hb d_Di_name_7 ?_
  exact hm_throw hx hb (hml.trans hl.1.symm) htr hlocks htab hown (hat9 hts hE1 hH0 (isRef9 (U9 hE.2.2.2.2 hH0)) (isRef9 (V9 hE.2.2.2.2 hH0))) (hts _ mw_591) (hts _ mw_592) hz (Nat.le_of_ble_eq_true rfl) (Nat.le_of_ble_eq_true rfl) (Nat.le_of_ble_eq_true rfl) (Nat.le_of_ble_eq_true rfl) d_Di_name_10 d_Di_name_13 d_Di_name_14 d_Di_name_17

set_option maxHeartbeats 4000000 in
set_option maxRecDepth 100000 in
theorem c_x_readT (l : Launch) (D : va_G) (t : Nat → ClassId) (G : hG) (ak av : Nat → Nat) (h : hM) (hfl : l.flags = flags0) (x n : Nat) (k9 w9 : Int32) (hX : FrX t h x n) : MetT l y_Di_read (.code y_Di_read b_Di_read 4 (some .int) :: lw_g) { frames := 6, cells := 1, slots := 6, locals := 90 } (hP (kF D t G ak av) D vwCl G h [.ref x, .int k9, .int w9]) := by
  refine MetT.ofW (cc := b_Di_read) (maxL := 4) (ret := (some .int)) (by decide) rfl ?_
  intro p e s m args below meth c s₁ Bd hml htab hadm hv
  have htr : e.platform.stackTraces = false := Launch.traces_off hfl hadm
  obtain ⟨ha, ⟨hE, hE1⟩, hH⟩ := hv
  have hx := Bd.exec
  have hb := Bd.bytes
  have hr := Bd.returns
  have hts : ∀ w ∈ lw_g, w.before args s = true := fun w hw => atoms_spec (ws := (.code y_Di_read b_Di_read 4 (some .int) :: lw_g)) Bd.pre w (List.mem_cons_of_mem _ hw)
  have hown : s.vm.findClass R_Di = some m.cls := findClass_of_methodNamed Bd.named
  have hlocks := Bd.notSynchronized
  have hK := hE.1
  have hH0 := hH
  have hLo : hLc nof [] := hLc_nil
  have hz : s.heap.size ≤ s.heap.size := Nat.le_refl _
  have hkp : kp [] h h := kp_rf
  have hl := lv_entry [.ref x, .int k9, .int w9] (n := 4) (Nat.le_of_ble_eq_true rfl)
  rw [show entryFrame m args 4 = F0 m 0 ((lg_sl [.ref x, .int k9, .int w9] ++ List.replicate (4 - (lg_sl [.ref x, .int k9, .int w9]).length) Slot.unset).toArray) [] from (by rw [ha]; exact lg_entry_eq m [.ref x, .int k9, .int w9] 4)]
  generalize (lg_sl [.ref x, .int k9, .int w9] ++ List.replicate (4 - (lg_sl [.ref x, .int k9, .int w9]).length) Slot.unset).toArray = ls at hl ⊢
  have hl : lv_has ls 4 [(0, .ref x), (1, .int k9), (2, .int w9)] := hl
  obtain ⟨wr, rd, ns, op, sr, md, su, pg, pb, sl, od, sa, fs, g, fa, f_x, f_wr, f_su, f_pg, f_pb, f_ns, f_sl, f_od, hgf, hnd, f_md, f_sa, hrow, ne_sl_od, hn40, hn⟩ := hX
  obtain ⟨rt, hf0, f_rt⟩ := hnd.2 0 (by decide) (by decide)
  refine lv_aload_n hx hb d_Di_read_0 rfl (lv_at hl 0 rfl) ?_
  refine lv_iload_n hx hb d_Di_read_1 rfl (lv_at hl 1 rfl) ?_
  refine hm_callPr (va_runV (As := [.int k9]) (b := x) (rest := []) ⟨hx, hb, hml, hown, hts⟩ (c_p_opened l D t G ak av h x wr rd ns op sr md k9 f_x) ⟨cw9B 1 hts mw_593 mw_594 mw_121 rfl rfl (by decide +kernel) ⟨Nat.le_of_ble_eq_true rfl, Nat.le_of_ble_eq_true rfl⟩, hts _ mw_595, hts _ mw_596⟩ (hP_V (q := (R_Di, F_Di, 9)) kE_ok hE hK hH f_x rfl) rfl rfl hl.1 rfl (lv_room (Nat.le_of_ble_eq_true rfl)) d_Di_read_2 ⟨Nat.le_of_ble_eq_true rfl, Nat.le_of_ble_eq_true rfl⟩) (fun r1 h2 H3 hp5  hH z4 => ?_)
  have hz : s.heap.size ≤ H3.size := Nat.le_trans hz z4
  obtain ⟨rfl, rfl⟩ := hp5
  refine W.eq (g2 := F0 m 5 ls [.null]) rfl ?_
  refine lv_astore_nN (lv' := [(3, .null), (0, .ref x), (1, .int k9), (2, .int w9)]) hx hb d_Di_read_5 rfl hl (by decide) rfl (fun ls hl => ?_)
  refine lv_aload_nN hx hb d_Di_read_6 rfl (lv_at hl 0 rfl) ?_
  refine lv_ifnullN (tgt := 29) hx hb d_Di_read_7 (by decide) ?_
  exact hm_throw hx hb (hml.trans hl.1.symm) htr hlocks htab hown (hat9 hts hE1 hH0 (isRef9 (U9 hE.2.2.2.2 hH0)) (isRef9 (V9 hE.2.2.2.2 hH0))) (hts _ mw_591) (hts _ mw_592) hz (Nat.le_of_ble_eq_true rfl) (Nat.le_of_ble_eq_true rfl) (Nat.le_of_ble_eq_true rfl) (Nat.le_of_ble_eq_true rfl) d_Di_read_29 d_Di_read_32 d_Di_read_33 d_Di_read_36

set_option maxHeartbeats 4000000 in
set_option maxRecDepth 100000 in
theorem c_x_treeT (l : Launch) (D : va_G) (t : Nat → ClassId) (G : hG) (ak av : Nat → Nat) (h : hM) (hfl : l.flags = flags0) (x n : Nat) (k9 w9 : Int32) (hX : FrX t h x n) (hT : treeT k9 w9 = 1) : MetT l y_Di_tree (.code y_Di_tree b_Di_tree 4 (some .int) :: lw_g) { frames := 6, cells := 1, slots := 6, locals := 90 } (hP (kF D t G ak av) D vwCl G h [.ref x, .int k9, .int w9]) := by
  refine MetT.ofW (cc := b_Di_tree) (maxL := 4) (ret := (some .int)) (by decide) rfl ?_
  intro p e s m args below meth c s₁ Bd hml htab hadm hv
  have htr : e.platform.stackTraces = false := Launch.traces_off hfl hadm
  obtain ⟨ha, ⟨hE, hE1⟩, hH⟩ := hv
  have hx := Bd.exec
  have hb := Bd.bytes
  have hr := Bd.returns
  have hts : ∀ w ∈ lw_g, w.before args s = true := fun w hw => atoms_spec (ws := (.code y_Di_tree b_Di_tree 4 (some .int) :: lw_g)) Bd.pre w (List.mem_cons_of_mem _ hw)
  have hown : s.vm.findClass R_Di = some m.cls := findClass_of_methodNamed Bd.named
  have hlocks := Bd.notSynchronized
  have hK := hE.1
  have hH0 := hH
  have hLo : hLc nof [] := hLc_nil
  have hz : s.heap.size ≤ s.heap.size := Nat.le_refl _
  have hkp : kp [] h h := kp_rf
  have hl := lv_entry [.ref x, .int k9, .int w9] (n := 4) (Nat.le_of_ble_eq_true rfl)
  rw [show entryFrame m args 4 = F0 m 0 ((lg_sl [.ref x, .int k9, .int w9] ++ List.replicate (4 - (lg_sl [.ref x, .int k9, .int w9]).length) Slot.unset).toArray) [] from (by rw [ha]; exact lg_entry_eq m [.ref x, .int k9, .int w9] 4)]
  generalize (lg_sl [.ref x, .int k9, .int w9] ++ List.replicate (4 - (lg_sl [.ref x, .int k9, .int w9]).length) Slot.unset).toArray = ls at hl ⊢
  have hl : lv_has ls 4 [(0, .ref x), (1, .int k9), (2, .int w9)] := hl
  obtain ⟨wr, rd, ns, op, sr, md, su, pg, pb, sl, od, sa, fs, g, fa, f_x, f_wr, f_su, f_pg, f_pb, f_ns, f_sl, f_od, hgf, hnd, f_md, f_sa, hrow, ne_sl_od, hn40, hn⟩ := hX
  obtain ⟨rt, hf0, f_rt⟩ := hnd.2 0 (by decide) (by decide)
  refine lv_aload_n hx hb d_Di_tree_0 rfl (lv_at hl 0 rfl) ?_
  refine hm_get (ci := 8) (v := .ref ns) (C := R_Di) (T := F_Di) (N := 9) hx hb hts ig_Di hown hK hH f_x rfl 2 (by decide) (hts _ mw_258) (fun _ h9 => h9) rfl d_Di_tree_1 ?_
  refine lv_iload_n hx hb d_Di_tree_4 rfl (lv_at hl 1 rfl) ?_
  by_cases hin : k9 = 0
  · skip
    refine hm_callPr (va_runV (As := [.int k9]) (b := ns) (rest := []) ⟨hx, hb, hml, hown, hts⟩ (c_p_nodeOf l D t G ak av h ns sl od rt fs 0 1 k9 f_ns f_sl f_rt hf0) ⟨cw9B 1 hts mw_274 mw_315 mw_187 rfl rfl (by decide +kernel) ⟨Nat.le_of_ble_eq_true rfl, Nat.le_of_ble_eq_true rfl⟩, hts _ mw_276, hts _ mw_277⟩ (hP_V (q := (R_Ns, F_Ns, 4)) kE_ok hE hK hH f_ns rfl) rfl rfl hl.1 rfl (lv_room (Nat.le_of_ble_eq_true rfl)) d_Di_tree_5 ⟨Nat.le_of_ble_eq_true rfl, Nat.le_of_ble_eq_true rfl⟩) (fun r1 h2 H3 hp5  hH z4 => ?_)
    have hz : s.heap.size ≤ H3.size := Nat.le_trans hz z4
    obtain ⟨hr9, rfl⟩ := hp5
    rw [if_pos hin] at hr9
    subst hr9
    refine W.eq (g2 := F0 m 8 ls [.ref rt]) rfl ?_
    refine lv_astore_n (lv' := [(3, .ref rt), (0, .ref x), (1, .int k9), (2, .int w9)]) hx hb d_Di_tree_8 rfl hl (by decide) rfl (fun ls hl => ?_)
    refine lv_aload_n hx hb d_Di_tree_9 rfl (lv_at hl 0 rfl) ?_
    refine lv_ifnonnull (tgt := 21) hx hb d_Di_tree_10 (by decide) ?_
    refine lv_iload_n hx hb d_Di_tree_21 rfl (lv_at hl 3 rfl) ?_
    refine lv_tableOut (tgt := 81) hx hb d_Di_tree_22 (tr_out (tr_t1 hT hin)) (by decide) ?_
    exact hm_throw hx hb (hml.trans hl.1.symm) htr hlocks htab hown (hat9 hts hE1 hH0 (isRef9 (U9 hE.2.2.2.2 hH0)) (isRef9 (V9 hE.2.2.2.2 hH0))) (hts _ mw_591) (hts _ mw_592) hz (Nat.le_of_ble_eq_true rfl) (Nat.le_of_ble_eq_true rfl) (Nat.le_of_ble_eq_true rfl) (Nat.le_of_ble_eq_true rfl) d_Di_tree_81 d_Di_tree_84 d_Di_tree_85 d_Di_tree_88
  · skip
    refine hm_callPr (va_runV (As := [.int k9]) (b := ns) (rest := []) ⟨hx, hb, hml, hown, hts⟩ (c_p_nodeOf l D t G ak av h ns sl od rt fs 0 1 k9 f_ns f_sl f_rt hf0) ⟨cw9B 1 hts mw_274 mw_315 mw_187 rfl rfl (by decide +kernel) ⟨Nat.le_of_ble_eq_true rfl, Nat.le_of_ble_eq_true rfl⟩, hts _ mw_276, hts _ mw_277⟩ (hP_V (q := (R_Ns, F_Ns, 4)) kE_ok hE hK hH f_ns rfl) rfl rfl hl.1 rfl (lv_room (Nat.le_of_ble_eq_true rfl)) d_Di_tree_5 ⟨Nat.le_of_ble_eq_true rfl, Nat.le_of_ble_eq_true rfl⟩) (fun r6 h7 H8 hp10  hH z9 => ?_)
    have hz : s.heap.size ≤ H8.size := Nat.le_trans hz z9
    obtain ⟨hr9, rfl⟩ := hp10
    rw [if_neg hin] at hr9
    subst hr9
    refine W.eq (g2 := F0 m 8 ls [.null]) rfl ?_
    refine lv_astore_nN (lv' := [(3, .null), (0, .ref x), (1, .int k9), (2, .int w9)]) hx hb d_Di_tree_8 rfl hl (by decide) rfl (fun ls hl => ?_)
    refine lv_aload_nN hx hb d_Di_tree_9 rfl (lv_at hl 0 rfl) ?_
    refine lv_ifnonnullN hx hb d_Di_tree_10 ?_
    exact hm_throw hx hb (hml.trans hl.1.symm) htr hlocks htab hown (hat9 hts hE1 hH0 (isRef9 (U9 hE.2.2.2.2 hH0)) (isRef9 (V9 hE.2.2.2.2 hH0))) (hts _ mw_591) (hts _ mw_592) hz (Nat.le_of_ble_eq_true rfl) (Nat.le_of_ble_eq_true rfl) (Nat.le_of_ble_eq_true rfl) (Nat.le_of_ble_eq_true rfl) d_Di_tree_13 d_Di_tree_16 d_Di_tree_17 d_Di_tree_20

set_option maxHeartbeats 4000000 in
set_option maxRecDepth 100000 in
theorem c_Node_parentNumber (l : Launch) (D : va_G) (t : Nat → ClassId) (G : hG) (ak av : Nat → Nat) (h : hM) (rt : Nat) (sc np : Int32) (f_rt : h rt = some (.inr (1, [.int 0, .null, .int 1, .long 0, .int 0, .int 0, .int 0, .int 0, .int 0, .int sc, .int np]))) : Met l y_No_parentNumber (.code y_No_parentNumber b_No_parentNumber 1 (some .int) :: lw_g) { frames := 0, cells := 0, slots := 0, locals := 0 } (hP (kE D t G ak av) D vwCl G h [.ref rt]) (hQi D vwCl G (fun r h' => r = -1 ∧ h = h')) 0 0 G.P := by
  refine Met.ofW (cc := b_No_parentNumber) (maxL := 1) (ret := (some .int)) (by decide) rfl ?_
  intro p e s m args below meth c s₁ Bd hml hv
  obtain ⟨ha, hE, hH⟩ := hv
  have hx := Bd.exec
  have hb := Bd.bytes
  have hr := Bd.returns
  have hts : ∀ w ∈ lw_g, w.before args s = true := fun w hw => atoms_spec (ws := (.code y_No_parentNumber b_No_parentNumber 1 (some .int) :: lw_g)) Bd.pre w (List.mem_cons_of_mem _ hw)
  have hown : s.vm.findClass R_No = some m.cls := findClass_of_methodNamed Bd.named
  have hlocks := Bd.notSynchronized
  have hK := hE.1
  have hH0 := hH
  have hLo : hLc G.P [] := hLc_nil
  have hz : s.heap.size ≤ s.heap.size := Nat.le_refl _
  have hkp : kp [] h h := kp_rf
  have hl := lv_entry [.ref rt] (n := 1) (Nat.le_of_ble_eq_true rfl)
  rw [show entryFrame m args 1 = F0 m 0 ((lg_sl [.ref rt] ++ List.replicate (1 - (lg_sl [.ref rt]).length) Slot.unset).toArray) [] from (by rw [ha]; exact lg_entry_eq m [.ref rt] 1)]
  generalize (lg_sl [.ref rt] ++ List.replicate (1 - (lg_sl [.ref rt]).length) Slot.unset).toArray = ls at hl ⊢
  have hl : lv_has ls 1 [(0, .ref rt)] := hl
  refine lv_aload_n hx hb d_No_parentNumber_0 rfl (lv_at hl 0 rfl) ?_
  refine hm_get (ci := 1) (v := .null) (C := R_No) (T := F_No) (N := 11) hx hb hts ig_No hown hK hH f_rt rfl 1 (by decide) (hts _ mw_12) (fun _ h9 => h9) rfl d_No_parentNumber_1 ?_
  refine lv_ifnonnullN hx hb d_No_parentNumber_4 ?_
  refine lv_iconst (v := -1) hx hb d_No_parentNumber_7 (by decide) ?_
  refine lv_goto (tgt := 18) hx hb d_No_parentNumber_8 (by decide) ?_
  exact W.iret (v := (-1)) hx hb hr (fun t9 ht hW => ⟨(-1), h, rfl, ⟨rfl, rfl⟩, by rw [ht]; exact hH, by rw [ht]; exact hz⟩) hLo d_No_parentNumber_18

set_option maxHeartbeats 4000000 in
set_option maxRecDepth 100000 in
theorem c_Node_sort (l : Launch) (D : va_G) (t : Nat → ClassId) (G : hG) (ak av : Nat → Nat) (h : hM) (rt : Nat) (sc np : Int32) (f_rt : h rt = some (.inr (1, [.int 0, .null, .int 1, .long 0, .int 0, .int 0, .int 0, .int 0, .int 0, .int sc, .int np]))) : Met l y_No_sort (.code y_No_sort b_No_sort 1 (some .int) :: lw_g) { frames := 0, cells := 0, slots := 0, locals := 0 } (hP (kE D t G ak av) D vwCl G h [.ref rt]) (hQi D vwCl G (fun r h' => r = 0 ∧ h = h')) 0 0 G.P := by
  refine Met.ofW (cc := b_No_sort) (maxL := 1) (ret := (some .int)) (by decide) rfl ?_
  intro p e s m args below meth c s₁ Bd hml hv
  obtain ⟨ha, hE, hH⟩ := hv
  have hx := Bd.exec
  have hb := Bd.bytes
  have hr := Bd.returns
  have hts : ∀ w ∈ lw_g, w.before args s = true := fun w hw => atoms_spec (ws := (.code y_No_sort b_No_sort 1 (some .int) :: lw_g)) Bd.pre w (List.mem_cons_of_mem _ hw)
  have hown : s.vm.findClass R_No = some m.cls := findClass_of_methodNamed Bd.named
  have hlocks := Bd.notSynchronized
  have hK := hE.1
  have hH0 := hH
  have hLo : hLc G.P [] := hLc_nil
  have hz : s.heap.size ≤ s.heap.size := Nat.le_refl _
  have hkp : kp [] h h := kp_rf
  have hl := lv_entry [.ref rt] (n := 1) (Nat.le_of_ble_eq_true rfl)
  rw [show entryFrame m args 1 = F0 m 0 ((lg_sl [.ref rt] ++ List.replicate (1 - (lg_sl [.ref rt]).length) Slot.unset).toArray) [] from (by rw [ha]; exact lg_entry_eq m [.ref rt] 1)]
  generalize (lg_sl [.ref rt] ++ List.replicate (1 - (lg_sl [.ref rt]).length) Slot.unset).toArray = ls at hl ⊢
  have hl : lv_has ls 1 [(0, .ref rt)] := hl
  refine lv_aload_n hx hb d_No_sort_0 rfl (lv_at hl 0 rfl) ?_
  refine hm_get (ci := 1) (v := .int 1) (C := R_No) (T := F_No) (N := 11) hx hb hts ig_No hown hK hH f_rt rfl 2 (by decide) (hts _ mw_13) (fun _ h9 => h9) rfl d_No_sort_1 ?_
  refine lv_if_eq (tgt := 11) hx hb d_No_sort_4 (by decide) (fun hc1 => absurd hc1 (by decide)) (fun hc1 => ?_)
  refine lv_iconst (v := 0) hx hb d_No_sort_7 (by decide) ?_
  refine lv_goto (tgt := 12) hx hb d_No_sort_8 (by decide) ?_
  exact W.iret (v := 0) hx hb hr (fun t9 ht hW => ⟨0, h, rfl, ⟨rfl, rfl⟩, by rw [ht]; exact hH, by rw [ht]; exact hz⟩) hLo d_No_sort_12

set_option maxHeartbeats 4000000 in
set_option maxRecDepth 100000 in
theorem c_x_treeR (l : Launch) (D : va_G) (t : Nat → ClassId) (G : hG) (ak av : Nat → Nat) (h : hM) (x n : Nat) (k9 w9 : Int32) (hX : FrX t h x n) (hT : treeT k9 w9 = 0) : Met l y_Di_tree (.code y_Di_tree b_Di_tree 4 (some .int) :: lw_g) { frames := 1, cells := 0, slots := 0, locals := 22 } (hP (kE D t G ak av) D vwCl G h [.ref x, .int k9, .int w9]) (hQi D vwCl G (fun r h' => r = treeC k9 w9 ∧ h = h')) 0 0 G.P := by
  refine Met.ofW (cc := b_Di_tree) (maxL := 4) (ret := (some .int)) (by decide) rfl ?_
  intro p e s m args below meth c s₁ Bd hml hv
  obtain ⟨ha, hE, hH⟩ := hv
  have hx := Bd.exec
  have hb := Bd.bytes
  have hr := Bd.returns
  have hts : ∀ w ∈ lw_g, w.before args s = true := fun w hw => atoms_spec (ws := (.code y_Di_tree b_Di_tree 4 (some .int) :: lw_g)) Bd.pre w (List.mem_cons_of_mem _ hw)
  have hown : s.vm.findClass R_Di = some m.cls := findClass_of_methodNamed Bd.named
  have hlocks := Bd.notSynchronized
  have hK := hE.1
  have hH0 := hH
  have hLo : hLc G.P [] := hLc_nil
  have hz : s.heap.size ≤ s.heap.size := Nat.le_refl _
  have hkp : kp [] h h := kp_rf
  have hl := lv_entry [.ref x, .int k9, .int w9] (n := 4) (Nat.le_of_ble_eq_true rfl)
  rw [show entryFrame m args 4 = F0 m 0 ((lg_sl [.ref x, .int k9, .int w9] ++ List.replicate (4 - (lg_sl [.ref x, .int k9, .int w9]).length) Slot.unset).toArray) [] from (by rw [ha]; exact lg_entry_eq m [.ref x, .int k9, .int w9] 4)]
  generalize (lg_sl [.ref x, .int k9, .int w9] ++ List.replicate (4 - (lg_sl [.ref x, .int k9, .int w9]).length) Slot.unset).toArray = ls at hl ⊢
  have hl : lv_has ls 4 [(0, .ref x), (1, .int k9), (2, .int w9)] := hl
  obtain ⟨wr, rd, ns, op, sr, md, su, pg, pb, sl, od, sa, fs, g, fa, f_x, f_wr, f_su, f_pg, f_pb, f_ns, f_sl, f_od, hgf, hnd, f_md, f_sa, hrow, ne_sl_od, hn40, hn⟩ := hX
  obtain ⟨rt, hf0, f_rt⟩ := hnd.2 0 (by decide) (by decide)
  obtain ⟨hk0, hw0⟩ := tr_t0 hT
  subst hk0
  refine lv_aload_n hx hb d_Di_tree_0 rfl (lv_at hl 0 rfl) ?_
  refine hm_get (ci := 8) (v := .ref ns) (C := R_Di) (T := F_Di) (N := 9) hx hb hts ig_Di hown hK hH f_x rfl 2 (by decide) (hts _ mw_258) (fun _ h9 => h9) rfl d_Di_tree_1 ?_
  refine lv_iload_n hx hb d_Di_tree_4 rfl (lv_at hl 1 rfl) ?_
  refine hm_callr (va_runV (As := [.int 0]) (b := ns) (rest := []) ⟨hx, hb, hml, hown, hts⟩ (c_Nodes_nodeOf l D t G ak av h ns sl od rt fs 0 1 0 f_ns f_sl f_rt hf0) ⟨cw9B 1 hts mw_274 mw_315 mw_187 rfl rfl (by decide +kernel) ⟨Nat.le_of_ble_eq_true rfl, Nat.le_of_ble_eq_true rfl⟩, hts _ mw_276, hts _ mw_277⟩ (hP_V (q := (R_Ns, F_Ns, 4)) kE_ok hE hK hH f_ns rfl) rfl rfl hl.1 rfl (lv_room (Nat.le_of_ble_eq_true rfl)) d_Di_tree_5 ⟨Nat.le_of_ble_eq_true rfl, Nat.le_of_ble_eq_true rfl⟩) hLo (fun r1 h2 H3 locs hp5 hH z4 hLo => ?_)
  have hz : s.heap.size ≤ H3.size := Nat.le_trans hz z4
  obtain ⟨hr9, rfl⟩ := hp5
  rw [if_pos rfl] at hr9
  subst hr9
  refine W.eq (g2 := F0 m 8 ls [.ref rt]) rfl ?_
  refine lv_astore_n (lv' := [(3, .ref rt), (0, .ref x), (1, .int 0), (2, .int w9)]) hx hb d_Di_tree_8 rfl hl (by decide) rfl (fun ls hl => ?_)
  refine lv_aload_n hx hb d_Di_tree_9 rfl (lv_at hl 0 rfl) ?_
  refine lv_ifnonnull (tgt := 21) hx hb d_Di_tree_10 (by decide) ?_
  refine lv_iload_n hx hb d_Di_tree_21 rfl (lv_at hl 3 rfl) ?_
  rcases tr_in hw0 with rfl | rfl | rfl | rfl | rfl
  · skip
    refine lv_tableIn (off := 34) (tgt := 56) hx hb d_Di_tree_22 (by decide) (by decide) rfl (by decide) ?_
    refine lv_aload_n hx hb d_Di_tree_56 rfl (lv_at hl 0 rfl) ?_
    refine hm_calli (va_runV (As := []) (b := rt) (rest := []) ⟨hx, hb, hml, hown, hts⟩ (c_Node_parentNumber l D t G ak av h rt 0 1 f_rt) ⟨cw9B 0 hts mw_597 mw_598 mw_40 rfl rfl (by decide +kernel) ⟨Nat.le_of_ble_eq_true rfl, Nat.le_of_ble_eq_true rfl⟩, hts _ mw_599, hts _ mw_600⟩ (hP_V (q := (R_No, F_No, 11)) kE_ok hE hK hH f_rt rfl) rfl rfl hl.1 rfl (lv_room (Nat.le_of_ble_eq_true rfl)) d_Di_tree_57 ⟨Nat.le_of_ble_eq_true rfl, Nat.le_of_ble_eq_true rfl⟩) hLo (fun r6 h7 H8 locs hp10 hH z9 hLo => ?_)
    have hz : s.heap.size ≤ H8.size := Nat.le_trans hz z9
    obtain ⟨rfl, rfl⟩ := hp10
    exact W.iret (v := (-1)) hx hb hr (fun t9 ht hW => ⟨(-1), h, rfl, ⟨by decide, rfl⟩, by rw [ht]; exact hH, by rw [ht]; exact hz⟩) hLo d_Di_tree_60
  · skip
    refine lv_tableIn (off := 39) (tgt := 61) hx hb d_Di_tree_22 (by decide) (by decide) rfl (by decide) ?_
    refine lv_aload_n hx hb d_Di_tree_61 rfl (lv_at hl 0 rfl) ?_
    refine hm_calli (va_runV (As := []) (b := rt) (rest := []) ⟨hx, hb, hml, hown, hts⟩ (c_Node_sort l D t G ak av h rt 0 1 f_rt) ⟨cw9B 0 hts mw_601 mw_602 mw_40 rfl rfl (by decide +kernel) ⟨Nat.le_of_ble_eq_true rfl, Nat.le_of_ble_eq_true rfl⟩, hts _ mw_603, hts _ mw_604⟩ (hP_V (q := (R_No, F_No, 11)) kE_ok hE hK hH f_rt rfl) rfl rfl hl.1 rfl (lv_room (Nat.le_of_ble_eq_true rfl)) d_Di_tree_62 ⟨Nat.le_of_ble_eq_true rfl, Nat.le_of_ble_eq_true rfl⟩) hLo (fun r11 h12 H13 locs hp15 hH z14 hLo => ?_)
    have hz : s.heap.size ≤ H13.size := Nat.le_trans hz z14
    obtain ⟨rfl, rfl⟩ := hp15
    exact W.iret (v := 0) hx hb hr (fun t9 ht hW => ⟨0, h, rfl, ⟨by decide, rfl⟩, by rw [ht]; exact hH, by rw [ht]; exact hz⟩) hLo d_Di_tree_65
  · skip
    refine lv_tableIn (off := 44) (tgt := 66) hx hb d_Di_tree_22 (by decide) (by decide) rfl (by decide) ?_
    refine lv_aload_n hx hb d_Di_tree_66 rfl (lv_at hl 0 rfl) ?_
    refine hm_get (ci := 1) (v := .int 0) (C := R_No) (T := F_No) (N := 11) hx hb hts ig_No hown hK hH f_rt rfl 5 (by decide) (hts _ mw_605) (fun _ h9 => h9) rfl d_Di_tree_67 ?_
    exact W.iret (v := 0) hx hb hr (fun t9 ht hW => ⟨0, h, rfl, ⟨by decide, rfl⟩, by rw [ht]; exact hH, by rw [ht]; exact hz⟩) hLo d_Di_tree_70
  · skip
    refine lv_tableIn (off := 49) (tgt := 71) hx hb d_Di_tree_22 (by decide) (by decide) rfl (by decide) ?_
    refine lv_aload_n hx hb d_Di_tree_71 rfl (lv_at hl 0 rfl) ?_
    refine hm_get (ci := 1) (v := .int 0) (C := R_No) (T := F_No) (N := 11) hx hb hts ig_No hown hK hH f_rt rfl 6 (by decide) (hts _ mw_606) (fun _ h9 => h9) rfl d_Di_tree_72 ?_
    exact W.iret (v := 0) hx hb hr (fun t9 ht hW => ⟨0, h, rfl, ⟨by decide, rfl⟩, by rw [ht]; exact hH, by rw [ht]; exact hz⟩) hLo d_Di_tree_75
  · skip
    refine lv_tableIn (off := 54) (tgt := 76) hx hb d_Di_tree_22 (by decide) (by decide) rfl (by decide) ?_
    refine lv_aload_n hx hb d_Di_tree_76 rfl (lv_at hl 0 rfl) ?_
    refine hm_get (ci := 1) (v := .int 0) (C := R_No) (T := F_No) (N := 11) hx hb hts ig_No hown hK hH f_rt rfl 8 (by decide) (hts _ mw_607) (fun _ h9 => h9) rfl d_Di_tree_77 ?_
    exact W.iret (v := 0) hx hb hr (fun t9 ht hW => ⟨0, h, rfl, ⟨by decide, rfl⟩, by rw [ht]; exact hH, by rw [ht]; exact hz⟩) hLo d_Di_tree_80
