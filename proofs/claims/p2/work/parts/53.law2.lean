set_option maxRecDepth 100000 in
theorem mw_1001 : Cond.code y_Di_state b_Di_state 2 (some .int) ∈ lw_g := lw_gin (List.mem_append_right _ (List.mem_of_getElem? (i := 767) rfl)) (by decide +kernel)
set_option maxRecDepth 100000 in
theorem mw_1002 : Cond.methodLink R_La 89 y_Di_state ∈ lw_g := lw_gin (List.mem_append_right _ (List.mem_of_getElem? (i := 764) rfl)) (by decide +kernel)
set_option maxRecDepth 100000 in
theorem mw_1003 : Cond.instanceMethod y_Di_state ∈ lw_g := lw_gin (List.mem_append_right _ (List.mem_of_getElem? (i := 765) rfl)) (by decide +kernel)
set_option maxRecDepth 100000 in
theorem mw_1004 : Cond.selects R_Di y_Di_state y_Di_state ∈ lw_g := lw_gin (List.mem_append_right _ (List.mem_of_getElem? (i := 766) rfl)) (by decide +kernel)
set_option maxRecDepth 100000 in
theorem mw_1005 : Cond.code y_Mo_state b_Mo_state 2 (some .int) ∈ lw_g := lw_gin (List.mem_append_right _ (List.mem_of_getElem? (i := 1309) rfl)) (by decide +kernel)
set_option maxRecDepth 100000 in
theorem mw_1006 : Cond.methodLink R_La 92 y_Mo_state ∈ lw_g := lw_gin (List.mem_append_right _ (List.mem_of_getElem? (i := 1306) rfl)) (by decide +kernel)
set_option maxRecDepth 100000 in
theorem mw_1007 : Cond.instanceMethod y_Mo_state ∈ lw_g := lw_gin (List.mem_append_right _ (List.mem_of_getElem? (i := 1307) rfl)) (by decide +kernel)
set_option maxRecDepth 100000 in
theorem mw_1008 : Cond.selects R_Mo y_Mo_state y_Mo_state ∈ lw_g := lw_gin (List.mem_append_right _ (List.mem_of_getElem? (i := 1308) rfl)) (by decide +kernel)
set_option maxRecDepth 100000 in
theorem mw_1009 : Cond.code y_Di_byteAt b_Di_byteAt 2 (some .int) ∈ lw_g := lw_gin (List.mem_append_right _ (List.mem_of_getElem? (i := 772) rfl)) (by decide +kernel)
set_option maxRecDepth 100000 in
theorem mw_1010 : Cond.methodLink R_La 93 y_Di_byteAt ∈ lw_g := lw_gin (List.mem_append_right _ (List.mem_of_getElem? (i := 769) rfl)) (by decide +kernel)
set_option maxRecDepth 100000 in
theorem mw_1011 : Cond.instanceMethod y_Di_byteAt ∈ lw_g := lw_gin (List.mem_append_right _ (List.mem_of_getElem? (i := 770) rfl)) (by decide +kernel)
set_option maxRecDepth 100000 in
theorem mw_1012 : Cond.selects R_Di y_Di_byteAt y_Di_byteAt ∈ lw_g := lw_gin (List.mem_append_right _ (List.mem_of_getElem? (i := 771) rfl)) (by decide +kernel)
set_option maxRecDepth 100000 in
theorem mw_1013 : Cond.code y_Mo_byteAt b_Mo_byteAt 2 (some .int) ∈ lw_g := lw_gin (List.mem_append_right _ (List.mem_of_getElem? (i := 1313) rfl)) (by decide +kernel)
set_option maxRecDepth 100000 in
theorem mw_1014 : Cond.methodLink R_La 96 y_Mo_byteAt ∈ lw_g := lw_gin (List.mem_append_right _ (List.mem_of_getElem? (i := 1310) rfl)) (by decide +kernel)
set_option maxRecDepth 100000 in
theorem mw_1015 : Cond.instanceMethod y_Mo_byteAt ∈ lw_g := lw_gin (List.mem_append_right _ (List.mem_of_getElem? (i := 1311) rfl)) (by decide +kernel)
set_option maxRecDepth 100000 in
theorem mw_1016 : Cond.selects R_Mo y_Mo_byteAt y_Mo_byteAt ∈ lw_g := lw_gin (List.mem_append_right _ (List.mem_of_getElem? (i := 1312) rfl)) (by decide +kernel)
set_option maxRecDepth 100000 in
theorem mw_1017 : Cond.code y_Di_spoil b_Di_spoil 3 (some .int) ∈ lw_g := lw_gin (List.mem_append_right _ (List.mem_of_getElem? (i := 777) rfl)) (by decide +kernel)
set_option maxRecDepth 100000 in
theorem mw_1018 : Cond.methodLink R_La 97 y_Di_spoil ∈ lw_g := lw_gin (List.mem_append_right _ (List.mem_of_getElem? (i := 774) rfl)) (by decide +kernel)
set_option maxRecDepth 100000 in
theorem mw_1019 : Cond.instanceMethod y_Di_spoil ∈ lw_g := lw_gin (List.mem_append_right _ (List.mem_of_getElem? (i := 775) rfl)) (by decide +kernel)
set_option maxRecDepth 100000 in
theorem mw_1020 : Cond.selects R_Di y_Di_spoil y_Di_spoil ∈ lw_g := lw_gin (List.mem_append_right _ (List.mem_of_getElem? (i := 776) rfl)) (by decide +kernel)
set_option maxRecDepth 100000 in
theorem mw_1021 : Cond.code y_Mo_spoil b_Mo_spoil 4 (some .int) ∈ lw_g := lw_gin (List.mem_append_right _ (List.mem_of_getElem? (i := 1317) rfl)) (by decide +kernel)
set_option maxRecDepth 100000 in
theorem mw_1022 : Cond.methodLink R_La 100 y_Mo_spoil ∈ lw_g := lw_gin (List.mem_append_right _ (List.mem_of_getElem? (i := 1314) rfl)) (by decide +kernel)
set_option maxRecDepth 100000 in
theorem mw_1023 : Cond.instanceMethod y_Mo_spoil ∈ lw_g := lw_gin (List.mem_append_right _ (List.mem_of_getElem? (i := 1315) rfl)) (by decide +kernel)
set_option maxRecDepth 100000 in
theorem mw_1024 : Cond.selects R_Mo y_Mo_spoil y_Mo_spoil ∈ lw_g := lw_gin (List.mem_append_right _ (List.mem_of_getElem? (i := 1316) rfl)) (by decide +kernel)
set_option maxRecDepth 100000 in
theorem mw_1025 : Cond.code y_Di_writes b_Di_writes 1 (some .int) ∈ lw_g := lw_gin (List.mem_append_right _ (List.mem_of_getElem? (i := 785) rfl)) (by decide +kernel)
set_option maxRecDepth 100000 in
theorem mw_1026 : Cond.methodLink R_La 101 y_Di_writes ∈ lw_g := lw_gin (List.mem_append_right _ (List.mem_of_getElem? (i := 782) rfl)) (by decide +kernel)
set_option maxRecDepth 100000 in
theorem mw_1027 : Cond.instanceMethod y_Di_writes ∈ lw_g := lw_gin (List.mem_append_right _ (List.mem_of_getElem? (i := 783) rfl)) (by decide +kernel)
set_option maxRecDepth 100000 in
theorem mw_1028 : Cond.selects R_Di y_Di_writes y_Di_writes ∈ lw_g := lw_gin (List.mem_append_right _ (List.mem_of_getElem? (i := 784) rfl)) (by decide +kernel)
set_option maxRecDepth 100000 in
theorem mw_1029 : Cond.code y_Mo_writes b_Mo_writes 1 (some .int) ∈ lw_g := lw_gin (List.mem_append_right _ (List.mem_of_getElem? (i := 1321) rfl)) (by decide +kernel)
set_option maxRecDepth 100000 in
theorem mw_1030 : Cond.methodLink R_La 104 y_Mo_writes ∈ lw_g := lw_gin (List.mem_append_right _ (List.mem_of_getElem? (i := 1318) rfl)) (by decide +kernel)
set_option maxRecDepth 100000 in
theorem mw_1031 : Cond.instanceMethod y_Mo_writes ∈ lw_g := lw_gin (List.mem_append_right _ (List.mem_of_getElem? (i := 1319) rfl)) (by decide +kernel)
set_option maxRecDepth 100000 in
theorem mw_1032 : Cond.selects R_Mo y_Mo_writes y_Mo_writes ∈ lw_g := lw_gin (List.mem_append_right _ (List.mem_of_getElem? (i := 1320) rfl)) (by decide +kernel)
set_option maxRecDepth 100000 in
theorem mw_1033 : Cond.codeWith y_La_mark b_La_mark 5 (some .int) [(0, 10, 13, 13)] ∈ lw_g := lw_gin (List.mem_append_right _ (List.mem_of_getElem? (i := 801) rfl)) (by decide +kernel)
set_option maxRecDepth 100000 in
theorem mw_1034 : Cond.methodLink R_La 105 y_La_mark ∈ lw_g := lw_gin (List.mem_append_right _ (List.mem_of_getElem? (i := 799) rfl)) (by decide +kernel)
set_option maxRecDepth 100000 in
theorem mw_1035 : Cond.static y_La_mark ∈ lw_g := lw_gin (List.mem_append_right _ (List.mem_of_getElem? (i := 800) rfl)) (by decide +kernel)
set_option maxRecDepth 100000 in
theorem mw_1036 : Cond.initialized R_La ∈ lw_g := lw_gin (List.mem_append_right _ (List.mem_of_getElem? (i := 0) rfl)) (by decide +kernel)
set_option maxRecDepth 100000 in
theorem mw_1037 : Cond.code y_Mo_mark b_Mo_mark 4 (some .int) ∈ lw_g := lw_gin (List.mem_append_right _ (List.mem_of_getElem? (i := 1214) rfl)) (by decide +kernel)
set_option maxRecDepth 100000 in
theorem mw_1038 : Cond.methodLink R_La 108 y_Mo_mark ∈ lw_g := lw_gin (List.mem_append_right _ (List.mem_of_getElem? (i := 1211) rfl)) (by decide +kernel)
set_option maxRecDepth 100000 in
theorem mw_1039 : Cond.instanceMethod y_Mo_mark ∈ lw_g := lw_gin (List.mem_append_right _ (List.mem_of_getElem? (i := 1212) rfl)) (by decide +kernel)
set_option maxRecDepth 100000 in
theorem mw_1040 : Cond.selects R_Mo y_Mo_mark y_Mo_mark ∈ lw_g := lw_gin (List.mem_append_right _ (List.mem_of_getElem? (i := 1213) rfl)) (by decide +kernel)
set_option maxRecDepth 100000 in
theorem mw_1041 : Cond.code y_Di_open b_Di_open 5 (some .int) ∈ lw_g := lw_gin (List.mem_append_right _ (List.mem_of_getElem? (i := 789) rfl)) (by decide +kernel)
set_option maxRecDepth 100000 in
theorem mw_1042 : Cond.methodLink R_La 109 y_Di_open ∈ lw_g := lw_gin (List.mem_append_right _ (List.mem_of_getElem? (i := 786) rfl)) (by decide +kernel)
set_option maxRecDepth 100000 in
theorem mw_1043 : Cond.instanceMethod y_Di_open ∈ lw_g := lw_gin (List.mem_append_right _ (List.mem_of_getElem? (i := 787) rfl)) (by decide +kernel)
set_option maxRecDepth 100000 in
theorem mw_1044 : Cond.selects R_Di y_Di_open y_Di_open ∈ lw_g := lw_gin (List.mem_append_right _ (List.mem_of_getElem? (i := 788) rfl)) (by decide +kernel)
set_option maxRecDepth 100000 in
theorem mw_1045 : Cond.code y_Mo_open b_Mo_open 5 (some .int) ∈ lw_g := lw_gin (List.mem_append_right _ (List.mem_of_getElem? (i := 1292) rfl)) (by decide +kernel)
set_option maxRecDepth 100000 in
theorem mw_1046 : Cond.methodLink R_La 112 y_Mo_open ∈ lw_g := lw_gin (List.mem_append_right _ (List.mem_of_getElem? (i := 1289) rfl)) (by decide +kernel)
set_option maxRecDepth 100000 in
theorem mw_1047 : Cond.instanceMethod y_Mo_open ∈ lw_g := lw_gin (List.mem_append_right _ (List.mem_of_getElem? (i := 1290) rfl)) (by decide +kernel)
set_option maxRecDepth 100000 in
theorem mw_1048 : Cond.selects R_Mo y_Mo_open y_Mo_open ∈ lw_g := lw_gin (List.mem_append_right _ (List.mem_of_getElem? (i := 1291) rfl)) (by decide +kernel)
set_option maxRecDepth 100000 in
theorem mw_1049 : Cond.codeWith y_La_node b_La_node 5 (some .int) [(0, 10, 13, 13)] ∈ lw_g := lw_gin (List.mem_append_right _ (List.mem_of_getElem? (i := 870) rfl)) (by decide +kernel)
set_option maxRecDepth 100000 in
theorem mw_1050 : Cond.methodLink R_La 113 y_La_node ∈ lw_g := lw_gin (List.mem_append_right _ (List.mem_of_getElem? (i := 868) rfl)) (by decide +kernel)
set_option maxRecDepth 100000 in
theorem mw_1051 : Cond.static y_La_node ∈ lw_g := lw_gin (List.mem_append_right _ (List.mem_of_getElem? (i := 869) rfl)) (by decide +kernel)
set_option maxRecDepth 100000 in
theorem mw_1052 : Cond.code y_Mo_node b_Mo_node 3 (some .int) ∈ lw_g := lw_gin (List.mem_append_right _ (List.mem_of_getElem? (i := 1297) rfl)) (by decide +kernel)
set_option maxRecDepth 100000 in
theorem mw_1053 : Cond.methodLink R_La 115 y_Mo_node ∈ lw_g := lw_gin (List.mem_append_right _ (List.mem_of_getElem? (i := 1294) rfl)) (by decide +kernel)
set_option maxRecDepth 100000 in
theorem mw_1054 : Cond.instanceMethod y_Mo_node ∈ lw_g := lw_gin (List.mem_append_right _ (List.mem_of_getElem? (i := 1295) rfl)) (by decide +kernel)
set_option maxRecDepth 100000 in
theorem mw_1055 : Cond.selects R_Mo y_Mo_node y_Mo_node ∈ lw_g := lw_gin (List.mem_append_right _ (List.mem_of_getElem? (i := 1296) rfl)) (by decide +kernel)
set_option maxRecDepth 100000 in
theorem mw_1056 : Cond.codeWith y_La_name b_La_name 4 (some .int) [(0, 8, 11, 13)] ∈ lw_g := lw_gin (List.mem_append_right _ (List.mem_of_getElem? (i := 886) rfl)) (by decide +kernel)
set_option maxRecDepth 100000 in
theorem mw_1057 : Cond.methodLink R_La 116 y_La_name ∈ lw_g := lw_gin (List.mem_append_right _ (List.mem_of_getElem? (i := 884) rfl)) (by decide +kernel)
set_option maxRecDepth 100000 in
theorem mw_1058 : Cond.static y_La_name ∈ lw_g := lw_gin (List.mem_append_right _ (List.mem_of_getElem? (i := 885) rfl)) (by decide +kernel)
set_option maxRecDepth 100000 in
theorem mw_1059 : Cond.code y_Mo_name b_Mo_name 2 (some .long) ∈ lw_g := lw_gin (List.mem_append_right _ (List.mem_of_getElem? (i := 1301) rfl)) (by decide +kernel)
set_option maxRecDepth 100000 in
theorem mw_1060 : Cond.methodLink R_La 119 y_Mo_name ∈ lw_g := lw_gin (List.mem_append_right _ (List.mem_of_getElem? (i := 1298) rfl)) (by decide +kernel)
set_option maxRecDepth 100000 in
theorem mw_1061 : Cond.instanceMethod y_Mo_name ∈ lw_g := lw_gin (List.mem_append_right _ (List.mem_of_getElem? (i := 1299) rfl)) (by decide +kernel)
set_option maxRecDepth 100000 in
theorem mw_1062 : Cond.selects R_Mo y_Mo_name y_Mo_name ∈ lw_g := lw_gin (List.mem_append_right _ (List.mem_of_getElem? (i := 1300) rfl)) (by decide +kernel)
set_option maxRecDepth 100000 in
theorem mw_1063 : Cond.codeWith y_La_read b_La_read 5 (some .int) [(0, 10, 13, 13)] ∈ lw_g := lw_gin (List.mem_append_right _ (List.mem_of_getElem? (i := 893) rfl)) (by decide +kernel)
set_option maxRecDepth 100000 in
theorem mw_1064 : Cond.methodLink R_La 120 y_La_read ∈ lw_g := lw_gin (List.mem_append_right _ (List.mem_of_getElem? (i := 891) rfl)) (by decide +kernel)
set_option maxRecDepth 100000 in
theorem mw_1065 : Cond.static y_La_read ∈ lw_g := lw_gin (List.mem_append_right _ (List.mem_of_getElem? (i := 892) rfl)) (by decide +kernel)
set_option maxRecDepth 100000 in
theorem mw_1066 : Cond.code y_Mo_read b_Mo_read 3 (some .int) ∈ lw_g := lw_gin (List.mem_append_right _ (List.mem_of_getElem? (i := 1305) rfl)) (by decide +kernel)
set_option maxRecDepth 100000 in
theorem mw_1067 : Cond.methodLink R_La 122 y_Mo_read ∈ lw_g := lw_gin (List.mem_append_right _ (List.mem_of_getElem? (i := 1302) rfl)) (by decide +kernel)
set_option maxRecDepth 100000 in
theorem mw_1068 : Cond.instanceMethod y_Mo_read ∈ lw_g := lw_gin (List.mem_append_right _ (List.mem_of_getElem? (i := 1303) rfl)) (by decide +kernel)
set_option maxRecDepth 100000 in
theorem mw_1069 : Cond.selects R_Mo y_Mo_read y_Mo_read ∈ lw_g := lw_gin (List.mem_append_right _ (List.mem_of_getElem? (i := 1304) rfl)) (by decide +kernel)
set_option maxRecDepth 100000 in
theorem mw_1070 : Cond.codeWith y_La_tree b_La_tree 5 (some .int) [(0, 10, 13, 13)] ∈ lw_g := lw_gin (List.mem_append_right _ (List.mem_of_getElem? (i := 900) rfl)) (by decide +kernel)
set_option maxRecDepth 100000 in
theorem mw_1071 : Cond.methodLink R_La 123 y_La_tree ∈ lw_g := lw_gin (List.mem_append_right _ (List.mem_of_getElem? (i := 898) rfl)) (by decide +kernel)
set_option maxRecDepth 100000 in
theorem mw_1072 : Cond.static y_La_tree ∈ lw_g := lw_gin (List.mem_append_right _ (List.mem_of_getElem? (i := 899) rfl)) (by decide +kernel)
set_option maxRecDepth 100000 in
theorem mw_1073 : Cond.code y_Mo_tree b_Mo_tree 3 (some .int) ∈ lw_g := lw_gin (List.mem_append_right _ (List.mem_of_getElem? (i := 1111) rfl)) (by decide +kernel)
set_option maxRecDepth 100000 in
theorem mw_1074 : Cond.methodLink R_La 125 y_Mo_tree ∈ lw_g := lw_gin (List.mem_append_right _ (List.mem_of_getElem? (i := 1108) rfl)) (by decide +kernel)
set_option maxRecDepth 100000 in
theorem mw_1075 : Cond.instanceMethod y_Mo_tree ∈ lw_g := lw_gin (List.mem_append_right _ (List.mem_of_getElem? (i := 1109) rfl)) (by decide +kernel)
set_option maxRecDepth 100000 in
theorem mw_1076 : Cond.selects R_Mo y_Mo_tree y_Mo_tree ∈ lw_g := lw_gin (List.mem_append_right _ (List.mem_of_getElem? (i := 1110) rfl)) (by decide +kernel)
theorem d_La_law_548 : decode b_La_law 548 = .ok (.aload_n 1, 1) := by decide +kernel
theorem d_La_law_549 : decode b_La_law 549 = .ok (.aload_n 0, 1) := by decide +kernel
theorem d_La_law_550 : decode b_La_law 550 = .ok (.iload 4, 2) := by decide +kernel
theorem d_La_law_552 : decode b_La_law 552 = .ok (.iconst 1, 1) := by decide +kernel
theorem d_La_law_553 : decode b_La_law 553 = .ok (.iadd, 1) := by decide +kernel
theorem d_La_law_554 : decode b_La_law 554 = .ok (.iaload, 1) := by decide +kernel
theorem d_La_law_555 : decode b_La_law 555 = .ok (.invokevirtual 89, 3) := by decide +kernel
theorem d_La_law_558 : decode b_La_law 558 = .ok (.pop, 1) := by decide +kernel
theorem d_La_law_559 : decode b_La_law 559 = .ok (.aload_n 2, 1) := by decide +kernel
theorem d_La_law_560 : decode b_La_law 560 = .ok (.aload_n 0, 1) := by decide +kernel
theorem d_La_law_561 : decode b_La_law 561 = .ok (.iload 4, 2) := by decide +kernel
theorem d_La_law_563 : decode b_La_law 563 = .ok (.iconst 1, 1) := by decide +kernel
theorem d_La_law_564 : decode b_La_law 564 = .ok (.iadd, 1) := by decide +kernel
theorem d_La_law_565 : decode b_La_law 565 = .ok (.iaload, 1) := by decide +kernel
theorem d_La_law_566 : decode b_La_law 566 = .ok (.invokevirtual 92, 3) := by decide +kernel
theorem d_La_law_569 : decode b_La_law 569 = .ok (.pop, 1) := by decide +kernel
theorem d_La_law_570 : decode b_La_law 570 = .ok (.goto 291, 3) := by decide +kernel
theorem d_La_law_573 : decode b_La_law 573 = .ok (.aload_n 1, 1) := by decide +kernel
theorem d_La_law_574 : decode b_La_law 574 = .ok (.aload_n 0, 1) := by decide +kernel
theorem d_La_law_575 : decode b_La_law 575 = .ok (.iload 4, 2) := by decide +kernel
theorem d_La_law_577 : decode b_La_law 577 = .ok (.iconst 1, 1) := by decide +kernel
theorem d_La_law_578 : decode b_La_law 578 = .ok (.iadd, 1) := by decide +kernel
theorem d_La_law_579 : decode b_La_law 579 = .ok (.iaload, 1) := by decide +kernel
theorem d_La_law_580 : decode b_La_law 580 = .ok (.invokevirtual 93, 3) := by decide +kernel
theorem d_La_law_583 : decode b_La_law 583 = .ok (.pop, 1) := by decide +kernel
theorem d_La_law_584 : decode b_La_law 584 = .ok (.aload_n 2, 1) := by decide +kernel
theorem d_La_law_585 : decode b_La_law 585 = .ok (.aload_n 0, 1) := by decide +kernel
theorem d_La_law_586 : decode b_La_law 586 = .ok (.iload 4, 2) := by decide +kernel
theorem d_La_law_588 : decode b_La_law 588 = .ok (.iconst 1, 1) := by decide +kernel
theorem d_La_law_589 : decode b_La_law 589 = .ok (.iadd, 1) := by decide +kernel
theorem d_La_law_590 : decode b_La_law 590 = .ok (.iaload, 1) := by decide +kernel
theorem d_La_law_591 : decode b_La_law 591 = .ok (.invokevirtual 96, 3) := by decide +kernel
theorem d_La_law_594 : decode b_La_law 594 = .ok (.pop, 1) := by decide +kernel
theorem d_La_law_595 : decode b_La_law 595 = .ok (.goto 266, 3) := by decide +kernel
theorem d_La_law_598 : decode b_La_law 598 = .ok (.aload_n 1, 1) := by decide +kernel
theorem d_La_law_599 : decode b_La_law 599 = .ok (.aload_n 0, 1) := by decide +kernel
theorem d_La_law_600 : decode b_La_law 600 = .ok (.iload 4, 2) := by decide +kernel
theorem d_La_law_602 : decode b_La_law 602 = .ok (.iconst 1, 1) := by decide +kernel
theorem d_La_law_603 : decode b_La_law 603 = .ok (.iadd, 1) := by decide +kernel
theorem d_La_law_604 : decode b_La_law 604 = .ok (.iaload, 1) := by decide +kernel
theorem d_La_law_605 : decode b_La_law 605 = .ok (.aload_n 0, 1) := by decide +kernel
theorem d_La_law_606 : decode b_La_law 606 = .ok (.iload 4, 2) := by decide +kernel
theorem d_La_law_608 : decode b_La_law 608 = .ok (.iconst 2, 1) := by decide +kernel
theorem d_La_law_609 : decode b_La_law 609 = .ok (.iadd, 1) := by decide +kernel
theorem d_La_law_610 : decode b_La_law 610 = .ok (.iaload, 1) := by decide +kernel
theorem d_La_law_611 : decode b_La_law 611 = .ok (.invokevirtual 97, 3) := by decide +kernel
theorem d_La_law_614 : decode b_La_law 614 = .ok (.pop, 1) := by decide +kernel
theorem d_La_law_615 : decode b_La_law 615 = .ok (.aload_n 2, 1) := by decide +kernel
theorem d_La_law_616 : decode b_La_law 616 = .ok (.aload_n 0, 1) := by decide +kernel
theorem d_La_law_617 : decode b_La_law 617 = .ok (.iload 4, 2) := by decide +kernel
theorem d_La_law_619 : decode b_La_law 619 = .ok (.iconst 1, 1) := by decide +kernel
theorem d_La_law_620 : decode b_La_law 620 = .ok (.iadd, 1) := by decide +kernel
theorem d_La_law_621 : decode b_La_law 621 = .ok (.iaload, 1) := by decide +kernel
theorem d_La_law_622 : decode b_La_law 622 = .ok (.aload_n 0, 1) := by decide +kernel
theorem d_La_law_623 : decode b_La_law 623 = .ok (.iload 4, 2) := by decide +kernel
theorem d_La_law_625 : decode b_La_law 625 = .ok (.iconst 2, 1) := by decide +kernel
theorem d_La_law_626 : decode b_La_law 626 = .ok (.iadd, 1) := by decide +kernel
theorem d_La_law_627 : decode b_La_law 627 = .ok (.iaload, 1) := by decide +kernel
theorem d_La_law_628 : decode b_La_law 628 = .ok (.invokevirtual 100, 3) := by decide +kernel
theorem d_La_law_631 : decode b_La_law 631 = .ok (.pop, 1) := by decide +kernel
theorem d_La_law_632 : decode b_La_law 632 = .ok (.goto 229, 3) := by decide +kernel
theorem d_La_law_635 : decode b_La_law 635 = .ok (.aload_n 1, 1) := by decide +kernel
theorem d_La_law_636 : decode b_La_law 636 = .ok (.invokevirtual 101, 3) := by decide +kernel
theorem d_La_law_639 : decode b_La_law 639 = .ok (.pop, 1) := by decide +kernel
theorem d_La_law_640 : decode b_La_law 640 = .ok (.aload_n 2, 1) := by decide +kernel
theorem d_La_law_641 : decode b_La_law 641 = .ok (.invokevirtual 104, 3) := by decide +kernel
theorem d_La_law_644 : decode b_La_law 644 = .ok (.pop, 1) := by decide +kernel
theorem d_La_law_645 : decode b_La_law 645 = .ok (.goto 216, 3) := by decide +kernel
theorem d_La_law_648 : decode b_La_law 648 = .ok (.aload_n 1, 1) := by decide +kernel
theorem d_La_law_649 : decode b_La_law 649 = .ok (.aload_n 0, 1) := by decide +kernel
theorem d_La_law_650 : decode b_La_law 650 = .ok (.iload 4, 2) := by decide +kernel
theorem d_La_law_652 : decode b_La_law 652 = .ok (.iconst 1, 1) := by decide +kernel
theorem d_La_law_653 : decode b_La_law 653 = .ok (.iadd, 1) := by decide +kernel
theorem d_La_law_654 : decode b_La_law 654 = .ok (.iaload, 1) := by decide +kernel
theorem d_La_law_655 : decode b_La_law 655 = .ok (.aload_n 0, 1) := by decide +kernel
theorem d_La_law_656 : decode b_La_law 656 = .ok (.iload 4, 2) := by decide +kernel
theorem d_La_law_658 : decode b_La_law 658 = .ok (.iconst 2, 1) := by decide +kernel
theorem d_La_law_659 : decode b_La_law 659 = .ok (.iadd, 1) := by decide +kernel
theorem d_La_law_660 : decode b_La_law 660 = .ok (.iaload, 1) := by decide +kernel
theorem d_La_law_661 : decode b_La_law 661 = .ok (.aload_n 3, 1) := by decide +kernel
theorem d_La_law_662 : decode b_La_law 662 = .ok (.invokestatic 105, 3) := by decide +kernel
theorem d_La_law_665 : decode b_La_law 665 = .ok (.istore 5, 2) := by decide +kernel
theorem d_La_law_667 : decode b_La_law 667 = .ok (.aload_n 2, 1) := by decide +kernel
theorem d_La_law_668 : decode b_La_law 668 = .ok (.aload_n 0, 1) := by decide +kernel
theorem d_La_law_669 : decode b_La_law 669 = .ok (.iload 4, 2) := by decide +kernel
theorem d_La_law_671 : decode b_La_law 671 = .ok (.iconst 1, 1) := by decide +kernel
theorem d_La_law_672 : decode b_La_law 672 = .ok (.iadd, 1) := by decide +kernel
theorem d_La_law_673 : decode b_La_law 673 = .ok (.iaload, 1) := by decide +kernel
theorem d_La_law_674 : decode b_La_law 674 = .ok (.aload_n 0, 1) := by decide +kernel
theorem d_La_law_675 : decode b_La_law 675 = .ok (.iload 4, 2) := by decide +kernel
theorem d_La_law_677 : decode b_La_law 677 = .ok (.iconst 2, 1) := by decide +kernel
theorem d_La_law_678 : decode b_La_law 678 = .ok (.iadd, 1) := by decide +kernel
theorem d_La_law_679 : decode b_La_law 679 = .ok (.iaload, 1) := by decide +kernel
theorem d_La_law_680 : decode b_La_law 680 = .ok (.invokevirtual 108, 3) := by decide +kernel
theorem d_La_law_683 : decode b_La_law 683 = .ok (.istore 6, 2) := by decide +kernel
theorem d_La_law_685 : decode b_La_law 685 = .ok (.goto 176, 3) := by decide +kernel
theorem d_La_law_688 : decode b_La_law 688 = .ok (.aload_n 1, 1) := by decide +kernel
theorem d_La_law_689 : decode b_La_law 689 = .ok (.aload_n 0, 1) := by decide +kernel
theorem d_La_law_690 : decode b_La_law 690 = .ok (.iload 4, 2) := by decide +kernel
theorem d_La_law_692 : decode b_La_law 692 = .ok (.iconst 1, 1) := by decide +kernel
theorem d_La_law_693 : decode b_La_law 693 = .ok (.iadd, 1) := by decide +kernel
theorem d_La_law_694 : decode b_La_law 694 = .ok (.iaload, 1) := by decide +kernel
theorem d_La_law_695 : decode b_La_law 695 = .ok (.invokevirtual 109, 3) := by decide +kernel
theorem d_La_law_698 : decode b_La_law 698 = .ok (.pop, 1) := by decide +kernel
theorem d_La_law_699 : decode b_La_law 699 = .ok (.aload_n 2, 1) := by decide +kernel
theorem d_La_law_700 : decode b_La_law 700 = .ok (.aload_n 0, 1) := by decide +kernel
theorem d_La_law_701 : decode b_La_law 701 = .ok (.iload 4, 2) := by decide +kernel
theorem d_La_law_703 : decode b_La_law 703 = .ok (.iconst 1, 1) := by decide +kernel
theorem d_La_law_704 : decode b_La_law 704 = .ok (.iadd, 1) := by decide +kernel
theorem d_La_law_705 : decode b_La_law 705 = .ok (.iaload, 1) := by decide +kernel
theorem d_La_law_706 : decode b_La_law 706 = .ok (.invokevirtual 112, 3) := by decide +kernel
theorem d_La_law_709 : decode b_La_law 709 = .ok (.pop, 1) := by decide +kernel
theorem d_La_law_710 : decode b_La_law 710 = .ok (.goto 151, 3) := by decide +kernel
theorem d_La_law_713 : decode b_La_law 713 = .ok (.aload_n 1, 1) := by decide +kernel
theorem d_La_law_714 : decode b_La_law 714 = .ok (.aload_n 0, 1) := by decide +kernel
theorem d_La_law_715 : decode b_La_law 715 = .ok (.iload 4, 2) := by decide +kernel
theorem d_La_law_717 : decode b_La_law 717 = .ok (.iconst 1, 1) := by decide +kernel
theorem d_La_law_718 : decode b_La_law 718 = .ok (.iadd, 1) := by decide +kernel
theorem d_La_law_719 : decode b_La_law 719 = .ok (.iaload, 1) := by decide +kernel
theorem d_La_law_720 : decode b_La_law 720 = .ok (.aload_n 0, 1) := by decide +kernel
theorem d_La_law_721 : decode b_La_law 721 = .ok (.iload 4, 2) := by decide +kernel
theorem d_La_law_723 : decode b_La_law 723 = .ok (.iconst 2, 1) := by decide +kernel
theorem d_La_law_724 : decode b_La_law 724 = .ok (.iadd, 1) := by decide +kernel
theorem d_La_law_725 : decode b_La_law 725 = .ok (.iaload, 1) := by decide +kernel
theorem d_La_law_726 : decode b_La_law 726 = .ok (.aload_n 3, 1) := by decide +kernel
theorem d_La_law_727 : decode b_La_law 727 = .ok (.invokestatic 113, 3) := by decide +kernel
theorem d_La_law_730 : decode b_La_law 730 = .ok (.istore 5, 2) := by decide +kernel
theorem d_La_law_732 : decode b_La_law 732 = .ok (.aload_n 2, 1) := by decide +kernel
theorem d_La_law_733 : decode b_La_law 733 = .ok (.aload_n 0, 1) := by decide +kernel
theorem d_La_law_734 : decode b_La_law 734 = .ok (.iload 4, 2) := by decide +kernel
theorem d_La_law_736 : decode b_La_law 736 = .ok (.iconst 1, 1) := by decide +kernel
theorem d_La_law_737 : decode b_La_law 737 = .ok (.iadd, 1) := by decide +kernel
theorem d_La_law_738 : decode b_La_law 738 = .ok (.iaload, 1) := by decide +kernel
theorem d_La_law_739 : decode b_La_law 739 = .ok (.aload_n 0, 1) := by decide +kernel
theorem d_La_law_740 : decode b_La_law 740 = .ok (.iload 4, 2) := by decide +kernel
theorem d_La_law_742 : decode b_La_law 742 = .ok (.iconst 2, 1) := by decide +kernel
theorem d_La_law_743 : decode b_La_law 743 = .ok (.iadd, 1) := by decide +kernel
theorem d_La_law_744 : decode b_La_law 744 = .ok (.iaload, 1) := by decide +kernel
theorem d_La_law_745 : decode b_La_law 745 = .ok (.invokevirtual 115, 3) := by decide +kernel
theorem d_La_law_748 : decode b_La_law 748 = .ok (.istore 6, 2) := by decide +kernel
theorem d_La_law_750 : decode b_La_law 750 = .ok (.goto 111, 3) := by decide +kernel
theorem d_La_law_753 : decode b_La_law 753 = .ok (.aload_n 1, 1) := by decide +kernel
theorem d_La_law_754 : decode b_La_law 754 = .ok (.aload_n 0, 1) := by decide +kernel
theorem d_La_law_755 : decode b_La_law 755 = .ok (.iload 4, 2) := by decide +kernel
theorem d_La_law_757 : decode b_La_law 757 = .ok (.iconst 1, 1) := by decide +kernel
theorem d_La_law_758 : decode b_La_law 758 = .ok (.iadd, 1) := by decide +kernel
theorem d_La_law_759 : decode b_La_law 759 = .ok (.iaload, 1) := by decide +kernel
theorem d_La_law_760 : decode b_La_law 760 = .ok (.aload_n 3, 1) := by decide +kernel
theorem d_La_law_761 : decode b_La_law 761 = .ok (.invokestatic 116, 3) := by decide +kernel
theorem d_La_law_764 : decode b_La_law 764 = .ok (.istore 5, 2) := by decide +kernel
theorem d_La_law_766 : decode b_La_law 766 = .ok (.aload_n 2, 1) := by decide +kernel
theorem d_La_law_767 : decode b_La_law 767 = .ok (.aload_n 0, 1) := by decide +kernel
theorem d_La_law_768 : decode b_La_law 768 = .ok (.iload 4, 2) := by decide +kernel
theorem d_La_law_770 : decode b_La_law 770 = .ok (.iconst 1, 1) := by decide +kernel
theorem d_La_law_771 : decode b_La_law 771 = .ok (.iadd, 1) := by decide +kernel
theorem d_La_law_772 : decode b_La_law 772 = .ok (.iaload, 1) := by decide +kernel
theorem d_La_law_773 : decode b_La_law 773 = .ok (.invokevirtual 119, 3) := by decide +kernel
theorem d_La_law_776 : decode b_La_law 776 = .ok (.lstore 6, 2) := by decide +kernel
theorem d_La_law_778 : decode b_La_law 778 = .ok (.goto 83, 3) := by decide +kernel
theorem d_La_law_781 : decode b_La_law 781 = .ok (.aload_n 1, 1) := by decide +kernel
theorem d_La_law_782 : decode b_La_law 782 = .ok (.aload_n 0, 1) := by decide +kernel
theorem d_La_law_783 : decode b_La_law 783 = .ok (.iload 4, 2) := by decide +kernel
theorem d_La_law_785 : decode b_La_law 785 = .ok (.iconst 1, 1) := by decide +kernel
theorem d_La_law_786 : decode b_La_law 786 = .ok (.iadd, 1) := by decide +kernel
theorem d_La_law_787 : decode b_La_law 787 = .ok (.iaload, 1) := by decide +kernel
theorem d_La_law_788 : decode b_La_law 788 = .ok (.aload_n 0, 1) := by decide +kernel
theorem d_La_law_789 : decode b_La_law 789 = .ok (.iload 4, 2) := by decide +kernel
theorem d_La_law_791 : decode b_La_law 791 = .ok (.iconst 2, 1) := by decide +kernel
theorem d_La_law_792 : decode b_La_law 792 = .ok (.iadd, 1) := by decide +kernel
theorem d_La_law_793 : decode b_La_law 793 = .ok (.iaload, 1) := by decide +kernel
theorem d_La_law_794 : decode b_La_law 794 = .ok (.aload_n 3, 1) := by decide +kernel
theorem d_La_law_795 : decode b_La_law 795 = .ok (.invokestatic 120, 3) := by decide +kernel
theorem d_La_law_798 : decode b_La_law 798 = .ok (.istore 5, 2) := by decide +kernel
theorem d_La_law_800 : decode b_La_law 800 = .ok (.aload_n 2, 1) := by decide +kernel
theorem d_La_law_801 : decode b_La_law 801 = .ok (.aload_n 0, 1) := by decide +kernel
theorem d_La_law_802 : decode b_La_law 802 = .ok (.iload 4, 2) := by decide +kernel
theorem d_La_law_804 : decode b_La_law 804 = .ok (.iconst 1, 1) := by decide +kernel
theorem d_La_law_805 : decode b_La_law 805 = .ok (.iadd, 1) := by decide +kernel
theorem d_La_law_806 : decode b_La_law 806 = .ok (.iaload, 1) := by decide +kernel
theorem d_La_law_807 : decode b_La_law 807 = .ok (.aload_n 0, 1) := by decide +kernel
theorem d_La_law_808 : decode b_La_law 808 = .ok (.iload 4, 2) := by decide +kernel
theorem d_La_law_810 : decode b_La_law 810 = .ok (.iconst 2, 1) := by decide +kernel
theorem d_La_law_811 : decode b_La_law 811 = .ok (.iadd, 1) := by decide +kernel
theorem d_La_law_812 : decode b_La_law 812 = .ok (.iaload, 1) := by decide +kernel
theorem d_La_law_813 : decode b_La_law 813 = .ok (.invokevirtual 122, 3) := by decide +kernel
theorem d_La_law_816 : decode b_La_law 816 = .ok (.istore 6, 2) := by decide +kernel
theorem d_La_law_818 : decode b_La_law 818 = .ok (.goto 43, 3) := by decide +kernel
theorem d_La_law_821 : decode b_La_law 821 = .ok (.aload_n 1, 1) := by decide +kernel
theorem d_La_law_822 : decode b_La_law 822 = .ok (.aload_n 0, 1) := by decide +kernel
theorem d_La_law_823 : decode b_La_law 823 = .ok (.iload 4, 2) := by decide +kernel
theorem d_La_law_825 : decode b_La_law 825 = .ok (.iconst 1, 1) := by decide +kernel
theorem d_La_law_826 : decode b_La_law 826 = .ok (.iadd, 1) := by decide +kernel
theorem d_La_law_827 : decode b_La_law 827 = .ok (.iaload, 1) := by decide +kernel
theorem d_La_law_828 : decode b_La_law 828 = .ok (.aload_n 0, 1) := by decide +kernel
theorem d_La_law_829 : decode b_La_law 829 = .ok (.iload 4, 2) := by decide +kernel
theorem d_La_law_831 : decode b_La_law 831 = .ok (.iconst 2, 1) := by decide +kernel
theorem d_La_law_832 : decode b_La_law 832 = .ok (.iadd, 1) := by decide +kernel
theorem d_La_law_833 : decode b_La_law 833 = .ok (.iaload, 1) := by decide +kernel
theorem d_La_law_834 : decode b_La_law 834 = .ok (.aload_n 3, 1) := by decide +kernel
theorem d_La_law_835 : decode b_La_law 835 = .ok (.invokestatic 123, 3) := by decide +kernel
theorem d_La_law_838 : decode b_La_law 838 = .ok (.istore 5, 2) := by decide +kernel
theorem d_La_law_840 : decode b_La_law 840 = .ok (.aload_n 2, 1) := by decide +kernel
theorem d_La_law_841 : decode b_La_law 841 = .ok (.aload_n 0, 1) := by decide +kernel
theorem d_La_law_842 : decode b_La_law 842 = .ok (.iload 4, 2) := by decide +kernel
theorem d_La_law_844 : decode b_La_law 844 = .ok (.iconst 1, 1) := by decide +kernel
theorem d_La_law_845 : decode b_La_law 845 = .ok (.iadd, 1) := by decide +kernel
theorem d_La_law_846 : decode b_La_law 846 = .ok (.iaload, 1) := by decide +kernel
theorem d_La_law_847 : decode b_La_law 847 = .ok (.aload_n 0, 1) := by decide +kernel
theorem d_La_law_848 : decode b_La_law 848 = .ok (.iload 4, 2) := by decide +kernel
theorem d_La_law_850 : decode b_La_law 850 = .ok (.iconst 2, 1) := by decide +kernel
theorem d_La_law_851 : decode b_La_law 851 = .ok (.iadd, 1) := by decide +kernel
theorem d_La_law_852 : decode b_La_law 852 = .ok (.iaload, 1) := by decide +kernel
theorem d_La_law_853 : decode b_La_law 853 = .ok (.invokevirtual 125, 3) := by decide +kernel
theorem d_La_law_856 : decode b_La_law 856 = .ok (.istore 6, 2) := by decide +kernel
theorem d_La_law_858 : decode b_La_law 858 = .ok (.goto 3, 3) := by decide +kernel
set_option maxHeartbeats 4000000 in
set_option maxRecDepth 100000 in
theorem law_c10 {p : Program} {e : Env} {s : State} {m : MethodId} {below : List Frame} {meth : Method} {c : Code} (l : Launch) (hfl : l.flags = flags0) {b : Nat} {xs : Nat → Int32} (hx : p.tables.exec = Jvm.exec) (hb : c.code = b_La_law) (hr : meth.sig.returnType = ret) (hml : c.maxLocals = 8) (hown : s.vm.findClass R_La = some m.cls) (hts : ∀ w ∈ lw_g, w.before #[Value.ref b] s = true) (hlocks : meth.locks = false) {D : va_G} {t : Nat → ClassId} {ak av : Nat → Nat} {n x mo ou r L9 : Nat} {τm : tM} {A : Nat → Nat} {τ : tM} {L : List Nat} {h1 h3 : hM} {H : Heap} {locs : List Loc} {ls : Array Slot} {cs ss : Nat} {i9 : Int32} (hn : n ≤ 200) (hE0 : kE D t (gNew s.heap) ak av s) (hT0 : kT (gNew s.heap) s) (hXs : va_X b L9 xs s s.heap) (hbl : b < s.heap.size) (hr5 : r < 512) (hi : i9.toInt = 1 + 6 * r) (hiL : 6 * r + 6 < L9) (hq : LK D t s n x mo ou τm A τ L h1 h3 H locs r cs ss) (hl : lv_has ls 8 [(4, .int i9), (3, .ref ou), (2, .ref mo), (1, .ref x), (0, .ref b)]) (K : ∀ (τ : tM) (L : List Nat) (h1 h3 : hM) (H : Heap) (locs : List Loc) (ls : Array Slot) (cs ss : Nat), LK D t s n x mo ou τm A τ L h1 h3 H locs (r + 1) cs ss → lv_has ls 8 [(4, .int i9), (3, .ref ou), (2, .ref mo), (1, .ref x), (0, .ref b)] → W p l e room_1 s m #[Value.ref b] below meth c H locs cs ss (lw_Z below #[Value.ref b] s) (F0 m 861 ls [])) : W p l e room_1 s m #[Value.ref b] below meth c H locs cs ss (lw_Z below #[Value.ref b] s) (F0 m 548 ls []) := by
  have hbA : ¬ P0 s b := Nat.not_le.mpr hbl
  obtain ⟨hQ, hX, T_ou, hM9, hcs, hss⟩ := hq
  obtain ⟨hT, T_x, hU, hTr, hL1, hL2⟩ := id hX
  obtain ⟨fx9, F_x⟩ := X_ob hT T_x
  obtain ⟨hTm, T_mo, hA, th, sd, lo, le, wr, ma, nu, di, pl, se, wg, op, F_m, hmk, hTr9, hEx9, hOp9, hma9⟩ := hM9
  obtain ⟨ph, hph⟩ : ∃ z, z = nl L h1 + spz h1 x := ⟨_, rfl⟩
  rw [← hph] at hcs hss
  refine lv_aload_n hx hb d_La_law_548 rfl (lv_at hl 3 rfl) ?_
  refine lv_aload_n hx hb d_La_law_549 rfl (lv_at hl 4 rfl) ?_
  refine lv_iload hx hb d_La_law_550 (lv_at hl 0 rfl) ?_
  refine lv_iconst (v := 1) hx hb d_La_law_552 (by decide) ?_
  refine lv_iadd hx hb d_La_law_553 ?_
  refine lv_topi (fun v21 e22 => ?_)
  have is_v21 : v21.toInt = i9.toInt + 1 := by rw [e22]; exact iAddK 1 rfl (by omega) (by omega)
  refine va_sld hx hb hXs hbl hbA hQ.1 (iIn (by omega) (by omega)) d_La_law_554 ?_
  refine lv_topi (fun v23 e24 => ?_)
  have px25 : ∀ q, (gD H h1).P q → P0 s q := LQ_px hQ
  refine hm_callPi (va_runV (As := [.int v23]) (b := x) (rest := []) ⟨hx, hb, hml, hown, hts⟩ (x_state l D t (gD H h1) ak av h1 τ n x v23 hn hT T_x) ⟨cw9B 1 hts mw_1001 mw_1002 mw_25 rfl rfl (by decide +kernel) ⟨Nat.le_of_ble_eq_true rfl, Nat.le_of_ble_eq_true rfl⟩, hts _ mw_1003, hts _ mw_1004⟩ (hP_V (q := (R_Di, F_Di, 9)) kE_ok (kE_g hE0 hQ.1 rfl px25) hE0.1 hQ.2.1 F_x rfl) rfl rfl hl.1 rfl (lv_room (Nat.le_of_ble_eq_true rfl)) d_La_law_555 ⟨rm_c (by omega), rm_s (by omega)⟩) (fun r26 h27 H28 hp30 hH31 z29 => ?_)
  have hLo := hQ.1.2.2
  obtain rfl := hp30
  have hQ := LQ_x hQ hH31 hLo
  have hph1 : nl L h1 + spz h1 x ≤ ph := Nat.le_of_eq hph.symm
  refine lv_pop hx hb d_La_law_558 rfl ?_
  refine lv_aload_n hx hb d_La_law_559 rfl (lv_at hl 2 rfl) ?_
  refine lv_aload_n hx hb d_La_law_560 rfl (lv_at hl 4 rfl) ?_
  refine lv_iload hx hb d_La_law_561 (lv_at hl 0 rfl) ?_
  refine lv_iconst (v := 1) hx hb d_La_law_563 (by decide) ?_
  refine lv_iadd hx hb d_La_law_564 ?_
  refine lv_topi (fun v32 e33 => ?_)
  have is_v32 : v32.toInt = i9.toInt + 1 := by rw [e33]; exact iAddK 1 rfl (by omega) (by omega)
  refine va_sld hx hb hXs hbl hbA hQ.1 (iIn (by omega) (by omega)) d_La_law_565 ?_
  refine lv_topi (fun v34 e35 => ?_)
  have px36 : ∀ q, (gD H28 h3).P q → P0 s q := LQ_py hQ
  refine hm_callXi (va_runV (As := [.int v34]) (b := mo) (rest := []) ⟨hx, hb, hml, hown, hts⟩ (m_state l D t (gD H28 h3) ak av h3 τm n mo v34 A th sd lo le wr ma nu di pl se wg op hn hTm T_mo F_m hA hmk ) ⟨cw9B 1 hts mw_1005 mw_1006 mw_579 rfl rfl (by decide +kernel) ⟨Nat.le_of_ble_eq_true rfl, Nat.le_of_ble_eq_true rfl⟩, hts _ mw_1007, hts _ mw_1008⟩ (hP_V (q := (R_Mo, F_Mo, 41)) kE_ok (kE_g hE0 hQ.1 rfl px36) hE0.1 hQ.2.2.1 F_m rfl) rfl rfl hl.1 rfl (lv_room (Nat.le_of_ble_eq_true rfl)) d_La_law_566 ⟨rm_c (by omega), rm_s (by omega)⟩) hQ.1.2.2 px36 (fun r37 h38 H39 locs hp41 hH42 z40 hLo => ?_)
  obtain ⟨hTm1, hkm, th1, F_m1, hmk1⟩ := hp41
  have hQ := LQ_y hQ hH42 hLo
  have hM1 : MI τm t n h38 mo A (r + 1) := ⟨hTm1, T_mo, hA, th1, sd, lo, le, wr, ma, nu, di, pl, se, wg, op, F_m1, hmk1, (TX_kf hkm hA T_mo (by decide) (by decide) (by decide) (by decide) (by decide) (by decide) hTr9 hEx9).1, (TX_kf hkm hA T_mo (by decide) (by decide) (by decide) (by decide) (by decide) (by decide) hTr9 hEx9).2, (OP_kf hkm hA T_mo (by decide) (by decide) hOp9), (by omega)⟩
  refine lv_pop hx hb d_La_law_569 rfl ?_
  refine lv_goto (tgt := 861) hx hb d_La_law_570 (by decide) ?_
  exact K τ L h1 h38 H39 locs ls ((cs + 0) + 0) ((ss + 0) + 0) ⟨hQ, hX, T_ou, hM1, by omega, by omega⟩ (lv_sub hl [0, 1, 2, 3, 4] rfl)

set_option maxHeartbeats 4000000 in
set_option maxRecDepth 100000 in
theorem law_c11 {p : Program} {e : Env} {s : State} {m : MethodId} {below : List Frame} {meth : Method} {c : Code} (l : Launch) (hfl : l.flags = flags0) {b : Nat} {xs : Nat → Int32} (hx : p.tables.exec = Jvm.exec) (hb : c.code = b_La_law) (hr : meth.sig.returnType = ret) (hml : c.maxLocals = 8) (hown : s.vm.findClass R_La = some m.cls) (hts : ∀ w ∈ lw_g, w.before #[Value.ref b] s = true) (hlocks : meth.locks = false) {D : va_G} {t : Nat → ClassId} {ak av : Nat → Nat} {n x mo ou r L9 : Nat} {τm : tM} {A : Nat → Nat} {τ : tM} {L : List Nat} {h1 h3 : hM} {H : Heap} {locs : List Loc} {ls : Array Slot} {cs ss : Nat} {i9 : Int32} (hn : n ≤ 200) (hE0 : kE D t (gNew s.heap) ak av s) (hT0 : kT (gNew s.heap) s) (hXs : va_X b L9 xs s s.heap) (hbl : b < s.heap.size) (hr5 : r < 512) (hi : i9.toInt = 1 + 6 * r) (hiL : 6 * r + 6 < L9) (hq : LK D t s n x mo ou τm A τ L h1 h3 H locs r cs ss) (hl : lv_has ls 8 [(4, .int i9), (3, .ref ou), (2, .ref mo), (1, .ref x), (0, .ref b)]) (K : ∀ (τ : tM) (L : List Nat) (h1 h3 : hM) (H : Heap) (locs : List Loc) (ls : Array Slot) (cs ss : Nat), LK D t s n x mo ou τm A τ L h1 h3 H locs (r + 1) cs ss → lv_has ls 8 [(4, .int i9), (3, .ref ou), (2, .ref mo), (1, .ref x), (0, .ref b)] → W p l e room_1 s m #[Value.ref b] below meth c H locs cs ss (lw_Z below #[Value.ref b] s) (F0 m 861 ls [])) : W p l e room_1 s m #[Value.ref b] below meth c H locs cs ss (lw_Z below #[Value.ref b] s) (F0 m 573 ls []) := by
  have hbA : ¬ P0 s b := Nat.not_le.mpr hbl
  obtain ⟨hQ, hX, T_ou, hM9, hcs, hss⟩ := hq
  obtain ⟨hT, T_x, hU, hTr, hL1, hL2⟩ := id hX
  obtain ⟨fx9, F_x⟩ := X_ob hT T_x
  obtain ⟨hTm, T_mo, hA, th, sd, lo, le, wr, ma, nu, di, pl, se, wg, op, F_m, hmk, hTr9, hEx9, hOp9, hma9⟩ := hM9
  obtain ⟨ph, hph⟩ : ∃ z, z = nl L h1 + spz h1 x := ⟨_, rfl⟩
  rw [← hph] at hcs hss
  refine lv_aload_n hx hb d_La_law_573 rfl (lv_at hl 3 rfl) ?_
  refine lv_aload_n hx hb d_La_law_574 rfl (lv_at hl 4 rfl) ?_
  refine lv_iload hx hb d_La_law_575 (lv_at hl 0 rfl) ?_
  refine lv_iconst (v := 1) hx hb d_La_law_577 (by decide) ?_
  refine lv_iadd hx hb d_La_law_578 ?_
  refine lv_topi (fun v21 e22 => ?_)
  have is_v21 : v21.toInt = i9.toInt + 1 := by rw [e22]; exact iAddK 1 rfl (by omega) (by omega)
  refine va_sld hx hb hXs hbl hbA hQ.1 (iIn (by omega) (by omega)) d_La_law_579 ?_
  refine lv_topi (fun v23 e24 => ?_)
  have px25 : ∀ q, (gD H h1).P q → P0 s q := LQ_px hQ
  refine hm_callPi (va_runV (As := [.int v23]) (b := x) (rest := []) ⟨hx, hb, hml, hown, hts⟩ (x_byteAt l D t (gD H h1) ak av h1 τ n x v23 hn hT T_x) ⟨cw9B 1 hts mw_1009 mw_1010 mw_25 rfl rfl (by decide +kernel) ⟨Nat.le_of_ble_eq_true rfl, Nat.le_of_ble_eq_true rfl⟩, hts _ mw_1011, hts _ mw_1012⟩ (hP_V (q := (R_Di, F_Di, 9)) kE_ok (kE_g hE0 hQ.1 rfl px25) hE0.1 hQ.2.1 F_x rfl) rfl rfl hl.1 rfl (lv_room (Nat.le_of_ble_eq_true rfl)) d_La_law_580 ⟨rm_c (by omega), rm_s (by omega)⟩) (fun r26 h27 H28 hp30 hH31 z29 => ?_)
  have hLo := hQ.1.2.2
  obtain rfl := hp30
  have hQ := LQ_x hQ hH31 hLo
  have hph1 : nl L h1 + spz h1 x ≤ ph := Nat.le_of_eq hph.symm
  refine lv_pop hx hb d_La_law_583 rfl ?_
  refine lv_aload_n hx hb d_La_law_584 rfl (lv_at hl 2 rfl) ?_
  refine lv_aload_n hx hb d_La_law_585 rfl (lv_at hl 4 rfl) ?_
  refine lv_iload hx hb d_La_law_586 (lv_at hl 0 rfl) ?_
  refine lv_iconst (v := 1) hx hb d_La_law_588 (by decide) ?_
  refine lv_iadd hx hb d_La_law_589 ?_
  refine lv_topi (fun v32 e33 => ?_)
  have is_v32 : v32.toInt = i9.toInt + 1 := by rw [e33]; exact iAddK 1 rfl (by omega) (by omega)
  refine va_sld hx hb hXs hbl hbA hQ.1 (iIn (by omega) (by omega)) d_La_law_590 ?_
  refine lv_topi (fun v34 e35 => ?_)
  have px36 : ∀ q, (gD H28 h3).P q → P0 s q := LQ_py hQ
  refine hm_callXi (va_runV (As := [.int v34]) (b := mo) (rest := []) ⟨hx, hb, hml, hown, hts⟩ (m_byteAt l D t (gD H28 h3) ak av h3 τm n mo v34 A th sd lo le wr ma nu di pl se wg op hn hTm T_mo F_m hA hmk ) ⟨cw9B 1 hts mw_1013 mw_1014 mw_579 rfl rfl (by decide +kernel) ⟨Nat.le_of_ble_eq_true rfl, Nat.le_of_ble_eq_true rfl⟩, hts _ mw_1015, hts _ mw_1016⟩ (hP_V (q := (R_Mo, F_Mo, 41)) kE_ok (kE_g hE0 hQ.1 rfl px36) hE0.1 hQ.2.2.1 F_m rfl) rfl rfl hl.1 rfl (lv_room (Nat.le_of_ble_eq_true rfl)) d_La_law_591 ⟨rm_c (by omega), rm_s (by omega)⟩) hQ.1.2.2 px36 (fun r37 h38 H39 locs hp41 hH42 z40 hLo => ?_)
  obtain ⟨hTm1, hkm, th1, F_m1, hmk1⟩ := hp41
  have hQ := LQ_y hQ hH42 hLo
  have hM1 : MI τm t n h38 mo A (r + 1) := ⟨hTm1, T_mo, hA, th1, sd, lo, le, wr, ma, nu, di, pl, se, wg, op, F_m1, hmk1, (TX_kf hkm hA T_mo (by decide) (by decide) (by decide) (by decide) (by decide) (by decide) hTr9 hEx9).1, (TX_kf hkm hA T_mo (by decide) (by decide) (by decide) (by decide) (by decide) (by decide) hTr9 hEx9).2, (OP_kf hkm hA T_mo (by decide) (by decide) hOp9), (by omega)⟩
  refine lv_pop hx hb d_La_law_594 rfl ?_
  refine lv_goto (tgt := 861) hx hb d_La_law_595 (by decide) ?_
  exact K τ L h1 h38 H39 locs ls ((cs + 0) + 0) ((ss + 0) + 0) ⟨hQ, hX, T_ou, hM1, by omega, by omega⟩ (lv_sub hl [0, 1, 2, 3, 4] rfl)

set_option maxHeartbeats 4000000 in
set_option maxRecDepth 100000 in
theorem law_c12 {p : Program} {e : Env} {s : State} {m : MethodId} {below : List Frame} {meth : Method} {c : Code} (l : Launch) (hfl : l.flags = flags0) {b : Nat} {xs : Nat → Int32} (hx : p.tables.exec = Jvm.exec) (hb : c.code = b_La_law) (hr : meth.sig.returnType = ret) (hml : c.maxLocals = 8) (hown : s.vm.findClass R_La = some m.cls) (hts : ∀ w ∈ lw_g, w.before #[Value.ref b] s = true) (hlocks : meth.locks = false) {D : va_G} {t : Nat → ClassId} {ak av : Nat → Nat} {n x mo ou r L9 : Nat} {τm : tM} {A : Nat → Nat} {τ : tM} {L : List Nat} {h1 h3 : hM} {H : Heap} {locs : List Loc} {ls : Array Slot} {cs ss : Nat} {i9 : Int32} (hn : n ≤ 200) (hE0 : kE D t (gNew s.heap) ak av s) (hT0 : kT (gNew s.heap) s) (hXs : va_X b L9 xs s s.heap) (hbl : b < s.heap.size) (hr5 : r < 512) (hi : i9.toInt = 1 + 6 * r) (hiL : 6 * r + 6 < L9) (hq : LK D t s n x mo ou τm A τ L h1 h3 H locs r cs ss) (hl : lv_has ls 8 [(4, .int i9), (3, .ref ou), (2, .ref mo), (1, .ref x), (0, .ref b)]) (K : ∀ (τ : tM) (L : List Nat) (h1 h3 : hM) (H : Heap) (locs : List Loc) (ls : Array Slot) (cs ss : Nat), LK D t s n x mo ou τm A τ L h1 h3 H locs (r + 1) cs ss → lv_has ls 8 [(4, .int i9), (3, .ref ou), (2, .ref mo), (1, .ref x), (0, .ref b)] → W p l e room_1 s m #[Value.ref b] below meth c H locs cs ss (lw_Z below #[Value.ref b] s) (F0 m 861 ls [])) : W p l e room_1 s m #[Value.ref b] below meth c H locs cs ss (lw_Z below #[Value.ref b] s) (F0 m 598 ls []) := by
  have hbA : ¬ P0 s b := Nat.not_le.mpr hbl
  obtain ⟨hQ, hX, T_ou, hM9, hcs, hss⟩ := hq
  obtain ⟨hT, T_x, hU, hTr, hL1, hL2⟩ := id hX
  obtain ⟨fx9, F_x⟩ := X_ob hT T_x
  obtain ⟨hTm, T_mo, hA, th, sd, lo, le, wr, ma, nu, di, pl, se, wg, op, F_m, hmk, hTr9, hEx9, hOp9, hma9⟩ := hM9
  obtain ⟨ph, hph⟩ : ∃ z, z = nl L h1 + spz h1 x := ⟨_, rfl⟩
  rw [← hph] at hcs hss
  refine lv_aload_n hx hb d_La_law_598 rfl (lv_at hl 3 rfl) ?_
  refine lv_aload_n hx hb d_La_law_599 rfl (lv_at hl 4 rfl) ?_
  refine lv_iload hx hb d_La_law_600 (lv_at hl 0 rfl) ?_
  refine lv_iconst (v := 1) hx hb d_La_law_602 (by decide) ?_
  refine lv_iadd hx hb d_La_law_603 ?_
  refine lv_topi (fun v21 e22 => ?_)
  have is_v21 : v21.toInt = i9.toInt + 1 := by rw [e22]; exact iAddK 1 rfl (by omega) (by omega)
  refine va_sld hx hb hXs hbl hbA hQ.1 (iIn (by omega) (by omega)) d_La_law_604 ?_
  refine lv_topi (fun v23 e24 => ?_)
  refine lv_aload_n hx hb d_La_law_605 rfl (lv_at hl 4 rfl) ?_
  refine lv_iload hx hb d_La_law_606 (lv_at hl 0 rfl) ?_
  refine lv_iconst (v := 2) hx hb d_La_law_608 (by decide) ?_
  refine lv_iadd hx hb d_La_law_609 ?_
  refine lv_topi (fun v25 e26 => ?_)
  have is_v25 : v25.toInt = i9.toInt + 2 := by rw [e26]; exact iAddK 2 rfl (by omega) (by omega)
  refine va_sld hx hb hXs hbl hbA hQ.1 (iIn (by omega) (by omega)) d_La_law_610 ?_
  refine lv_topi (fun v27 e28 => ?_)
  have px29 : ∀ q, (gD H h1).P q → P0 s q := LQ_px hQ
  refine hm_callXi (va_runV (As := [.int v23, .int v27]) (b := x) (rest := []) ⟨hx, hb, hml, hown, hts⟩ (x_spoil l D t (gD H h1) ak av h1 τ n x v23 v27 hn hT T_x ) ⟨cw9B 2 hts mw_1017 mw_1018 mw_25 rfl rfl (by decide +kernel) ⟨Nat.le_of_ble_eq_true rfl, Nat.le_of_ble_eq_true rfl⟩, hts _ mw_1019, hts _ mw_1020⟩ (hP_V (q := (R_Di, F_Di, 9)) kE_ok (kE_g hE0 hQ.1 rfl px29) hE0.1 hQ.2.1 F_x rfl) rfl rfl hl.1 rfl (lv_room (Nat.le_of_ble_eq_true rfl)) d_La_law_611 ⟨rm_c (by omega), rm_s (by omega)⟩) hQ.1.2.2 px29 (fun r30 h31 H32 locs hp34 hH35 z33 hLo => ?_)
  obtain ⟨hT1, hk1⟩ := hp34
  have hQ := LQ_x hQ hH35 hLo
  obtain ⟨hX, hph1⟩ := XI_k hX hT1 (TrP_kf hT1 hk1 (by decide) (by decide) (List.forall_mem_nil _) (knp_kf knp_rf hk1 (by decide) (List.forall_mem_nil _)) hTr) (nlp_kf nlp_rf hk1 (by decide) (List.forall_mem_nil _)) (spz_kf rfl hk1 T_x (by decide) (List.forall_mem_nil _))
  rw [← hph] at hph1
  refine lv_pop hx hb d_La_law_614 rfl ?_
  refine lv_aload_n hx hb d_La_law_615 rfl (lv_at hl 2 rfl) ?_
  refine lv_aload_n hx hb d_La_law_616 rfl (lv_at hl 4 rfl) ?_
  refine lv_iload hx hb d_La_law_617 (lv_at hl 0 rfl) ?_
  refine lv_iconst (v := 1) hx hb d_La_law_619 (by decide) ?_
  refine lv_iadd hx hb d_La_law_620 ?_
  refine lv_topi (fun v36 e37 => ?_)
  have is_v36 : v36.toInt = i9.toInt + 1 := by rw [e37]; exact iAddK 1 rfl (by omega) (by omega)
  refine va_sld hx hb hXs hbl hbA hQ.1 (iIn (by omega) (by omega)) d_La_law_621 ?_
  refine lv_topi (fun v38 e39 => ?_)
  refine lv_aload_n hx hb d_La_law_622 rfl (lv_at hl 4 rfl) ?_
  refine lv_iload hx hb d_La_law_623 (lv_at hl 0 rfl) ?_
  refine lv_iconst (v := 2) hx hb d_La_law_625 (by decide) ?_
  refine lv_iadd hx hb d_La_law_626 ?_
  refine lv_topi (fun v40 e41 => ?_)
  have is_v40 : v40.toInt = i9.toInt + 2 := by rw [e41]; exact iAddK 2 rfl (by omega) (by omega)
  refine va_sld hx hb hXs hbl hbA hQ.1 (iIn (by omega) (by omega)) d_La_law_627 ?_
  refine lv_topi (fun v42 e43 => ?_)
  have px44 : ∀ q, (gD H32 h3).P q → P0 s q := LQ_py hQ
  refine hm_callXi (va_runV (As := [.int v38, .int v42]) (b := mo) (rest := []) ⟨hx, hb, hml, hown, hts⟩ (m_spoil l D t (gD H32 h3) ak av h3 τm n mo v38 v42 A th sd lo le wr ma nu di pl se wg op hn hTm T_mo F_m hA hmk ) ⟨cw9B 2 hts mw_1021 mw_1022 mw_579 rfl rfl (by decide +kernel) ⟨Nat.le_of_ble_eq_true rfl, Nat.le_of_ble_eq_true rfl⟩, hts _ mw_1023, hts _ mw_1024⟩ (hP_V (q := (R_Mo, F_Mo, 41)) kE_ok (kE_g hE0 hQ.1 rfl px44) hE0.1 hQ.2.2.1 F_m rfl) rfl rfl hl.1 rfl (lv_room (Nat.le_of_ble_eq_true rfl)) d_La_law_628 ⟨rm_c (by omega), rm_s (by omega)⟩) hQ.1.2.2 px44 (fun r45 h46 H47 locs hp49 hH50 z48 hLo => ?_)
  obtain ⟨hTm1, hkm, th1, F_m1, hmk1⟩ := hp49
  have hQ := LQ_y hQ hH50 hLo
  have hM1 : MI τm t n h46 mo A (r + 1) := ⟨hTm1, T_mo, hA, th1, sd, lo, le, wr, ma, nu, di, pl, se, wg, op, F_m1, hmk1, (TX_kf hkm hA T_mo (by decide) (by decide) (by decide) (by decide) (by decide) (by decide) hTr9 hEx9).1, (TX_kf hkm hA T_mo (by decide) (by decide) (by decide) (by decide) (by decide) (by decide) hTr9 hEx9).2, (OP_kf hkm hA T_mo (by decide) (by decide) hOp9), (by omega)⟩
  refine lv_pop hx hb d_La_law_631 rfl ?_
  refine lv_goto (tgt := 861) hx hb d_La_law_632 (by decide) ?_
  exact K τ L h31 h46 H47 locs ls ((cs + 0) + 0) ((ss + 0) + 0) ⟨hQ, hX, T_ou, hM1, by omega, by omega⟩ (lv_sub hl [0, 1, 2, 3, 4] rfl)

set_option maxHeartbeats 4000000 in
set_option maxRecDepth 100000 in
theorem law_c13 {p : Program} {e : Env} {s : State} {m : MethodId} {below : List Frame} {meth : Method} {c : Code} (l : Launch) (hfl : l.flags = flags0) {b : Nat} {xs : Nat → Int32} (hx : p.tables.exec = Jvm.exec) (hb : c.code = b_La_law) (hr : meth.sig.returnType = ret) (hml : c.maxLocals = 8) (hown : s.vm.findClass R_La = some m.cls) (hts : ∀ w ∈ lw_g, w.before #[Value.ref b] s = true) (hlocks : meth.locks = false) {D : va_G} {t : Nat → ClassId} {ak av : Nat → Nat} {n x mo ou r L9 : Nat} {τm : tM} {A : Nat → Nat} {τ : tM} {L : List Nat} {h1 h3 : hM} {H : Heap} {locs : List Loc} {ls : Array Slot} {cs ss : Nat} {i9 : Int32} (hn : n ≤ 200) (hE0 : kE D t (gNew s.heap) ak av s) (hT0 : kT (gNew s.heap) s) (hXs : va_X b L9 xs s s.heap) (hbl : b < s.heap.size) (hr5 : r < 512) (hi : i9.toInt = 1 + 6 * r) (hiL : 6 * r + 6 < L9) (hq : LK D t s n x mo ou τm A τ L h1 h3 H locs r cs ss) (hl : lv_has ls 8 [(4, .int i9), (3, .ref ou), (2, .ref mo), (1, .ref x), (0, .ref b)]) (K : ∀ (τ : tM) (L : List Nat) (h1 h3 : hM) (H : Heap) (locs : List Loc) (ls : Array Slot) (cs ss : Nat), LK D t s n x mo ou τm A τ L h1 h3 H locs (r + 1) cs ss → lv_has ls 8 [(4, .int i9), (3, .ref ou), (2, .ref mo), (1, .ref x), (0, .ref b)] → W p l e room_1 s m #[Value.ref b] below meth c H locs cs ss (lw_Z below #[Value.ref b] s) (F0 m 861 ls [])) : W p l e room_1 s m #[Value.ref b] below meth c H locs cs ss (lw_Z below #[Value.ref b] s) (F0 m 635 ls []) := by
  have hbA : ¬ P0 s b := Nat.not_le.mpr hbl
  obtain ⟨hQ, hX, T_ou, hM9, hcs, hss⟩ := hq
  obtain ⟨hT, T_x, hU, hTr, hL1, hL2⟩ := id hX
  obtain ⟨fx9, F_x⟩ := X_ob hT T_x
  obtain ⟨hTm, T_mo, hA, th, sd, lo, le, wr, ma, nu, di, pl, se, wg, op, F_m, hmk, hTr9, hEx9, hOp9, hma9⟩ := hM9
  obtain ⟨ph, hph⟩ : ∃ z, z = nl L h1 + spz h1 x := ⟨_, rfl⟩
  rw [← hph] at hcs hss
  refine lv_aload_n hx hb d_La_law_635 rfl (lv_at hl 3 rfl) ?_
  have px21 : ∀ q, (gD H h1).P q → P0 s q := LQ_px hQ
  refine hm_callPi (va_runV (As := []) (b := x) (rest := []) ⟨hx, hb, hml, hown, hts⟩ (x_writes l D t (gD H h1) ak av h1 τ n x  hn hT T_x) ⟨cw9B 0 hts mw_1025 mw_1026 mw_25 rfl rfl (by decide +kernel) ⟨Nat.le_of_ble_eq_true rfl, Nat.le_of_ble_eq_true rfl⟩, hts _ mw_1027, hts _ mw_1028⟩ (hP_V (q := (R_Di, F_Di, 9)) kE_ok (kE_g hE0 hQ.1 rfl px21) hE0.1 hQ.2.1 F_x rfl) rfl rfl hl.1 rfl (lv_room (Nat.le_of_ble_eq_true rfl)) d_La_law_636 ⟨rm_c (by omega), rm_s (by omega)⟩) (fun r22 h23 H24 hp26 hH27 z25 => ?_)
  have hLo := hQ.1.2.2
  obtain rfl := hp26
  have hQ := LQ_x hQ hH27 hLo
  have hph1 : nl L h1 + spz h1 x ≤ ph := Nat.le_of_eq hph.symm
  refine lv_pop hx hb d_La_law_639 rfl ?_
  refine lv_aload_n hx hb d_La_law_640 rfl (lv_at hl 2 rfl) ?_
  have px28 : ∀ q, (gD H24 h3).P q → P0 s q := LQ_py hQ
  refine hm_callXi (va_runV (As := []) (b := mo) (rest := []) ⟨hx, hb, hml, hown, hts⟩ (m_writes l D t (gD H24 h3) ak av h3 τm n mo  A th sd lo le wr ma nu di pl se wg op hn hTm T_mo F_m hA hmk ) ⟨cw9B 0 hts mw_1029 mw_1030 mw_579 rfl rfl (by decide +kernel) ⟨Nat.le_of_ble_eq_true rfl, Nat.le_of_ble_eq_true rfl⟩, hts _ mw_1031, hts _ mw_1032⟩ (hP_V (q := (R_Mo, F_Mo, 41)) kE_ok (kE_g hE0 hQ.1 rfl px28) hE0.1 hQ.2.2.1 F_m rfl) rfl rfl hl.1 rfl (lv_room (Nat.le_of_ble_eq_true rfl)) d_La_law_641 ⟨rm_c (by omega), rm_s (by omega)⟩) hQ.1.2.2 px28 (fun r29 h30 H31 locs hp33 hH34 z32 hLo => ?_)
  obtain ⟨hTm1, hkm, th1, F_m1, hmk1⟩ := hp33
  have hQ := LQ_y hQ hH34 hLo
  have hM1 : MI τm t n h30 mo A (r + 1) := ⟨hTm1, T_mo, hA, th1, sd, lo, le, wr, ma, nu, di, pl, se, wg, op, F_m1, hmk1, (TX_kf hkm hA T_mo (by decide) (by decide) (by decide) (by decide) (by decide) (by decide) hTr9 hEx9).1, (TX_kf hkm hA T_mo (by decide) (by decide) (by decide) (by decide) (by decide) (by decide) hTr9 hEx9).2, (OP_kf hkm hA T_mo (by decide) (by decide) hOp9), (by omega)⟩
  refine lv_pop hx hb d_La_law_644 rfl ?_
  refine lv_goto (tgt := 861) hx hb d_La_law_645 (by decide) ?_
  exact K τ L h1 h30 H31 locs ls ((cs + 0) + 0) ((ss + 0) + 0) ⟨hQ, hX, T_ou, hM1, by omega, by omega⟩ (lv_sub hl [0, 1, 2, 3, 4] rfl)

set_option maxHeartbeats 4000000 in
set_option maxRecDepth 100000 in
theorem law_c14 {p : Program} {e : Env} {s : State} {m : MethodId} {below : List Frame} {meth : Method} {c : Code} (l : Launch) (hfl : l.flags = flags0) {b : Nat} {xs : Nat → Int32} (hx : p.tables.exec = Jvm.exec) (hb : c.code = b_La_law) (hr : meth.sig.returnType = ret) (hml : c.maxLocals = 8) (hown : s.vm.findClass R_La = some m.cls) (hts : ∀ w ∈ lw_g, w.before #[Value.ref b] s = true) (hlocks : meth.locks = false) {D : va_G} {t : Nat → ClassId} {ak av : Nat → Nat} {n x mo ou r L9 : Nat} {τm : tM} {A : Nat → Nat} {τ : tM} {L : List Nat} {h1 h3 : hM} {H : Heap} {locs : List Loc} {ls : Array Slot} {cs ss : Nat} {i9 : Int32} (hn : n ≤ 200) (hE0 : kE D t (gNew s.heap) ak av s) (hT0 : kT (gNew s.heap) s) (hXs : va_X b L9 xs s s.heap) (hbl : b < s.heap.size) (hr5 : r < 512) (hi : i9.toInt = 1 + 6 * r) (hiL : 6 * r + 6 < L9) (hq : LK D t s n x mo ou τm A τ L h1 h3 H locs r cs ss) (hl : lv_has ls 8 [(4, .int i9), (3, .ref ou), (2, .ref mo), (1, .ref x), (0, .ref b)]) (K : ∀ (τ : tM) (L : List Nat) (h1 h3 : hM) (H : Heap) (locs : List Loc) (ls : Array Slot) (cs ss : Nat), LK D t s n x mo ou τm A τ L h1 h3 H locs (r + 1) cs ss → lv_has ls 8 [(4, .int i9), (3, .ref ou), (2, .ref mo), (1, .ref x), (0, .ref b)] → W p l e room_1 s m #[Value.ref b] below meth c H locs cs ss (lw_Z below #[Value.ref b] s) (F0 m 861 ls [])) : W p l e room_1 s m #[Value.ref b] below meth c H locs cs ss (lw_Z below #[Value.ref b] s) (F0 m 648 ls []) := by
  have hbA : ¬ P0 s b := Nat.not_le.mpr hbl
  obtain ⟨hQ, hX, T_ou, hM9, hcs, hss⟩ := hq
  obtain ⟨hT, T_x, hU, hTr, hL1, hL2⟩ := id hX
  obtain ⟨fx9, F_x⟩ := X_ob hT T_x
  obtain ⟨hTm, T_mo, hA, th, sd, lo, le, wr, ma, nu, di, pl, se, wg, op, F_m, hmk, hTr9, hEx9, hOp9, hma9⟩ := hM9
  obtain ⟨ph, hph⟩ : ∃ z, z = nl L h1 + spz h1 x := ⟨_, rfl⟩
  rw [← hph] at hcs hss
  refine lv_aload_n hx hb d_La_law_648 rfl (lv_at hl 3 rfl) ?_
  refine lv_aload_n hx hb d_La_law_649 rfl (lv_at hl 4 rfl) ?_
  refine lv_iload hx hb d_La_law_650 (lv_at hl 0 rfl) ?_
  refine lv_iconst (v := 1) hx hb d_La_law_652 (by decide) ?_
  refine lv_iadd hx hb d_La_law_653 ?_
  refine lv_topi (fun v21 e22 => ?_)
  have is_v21 : v21.toInt = i9.toInt + 1 := by rw [e22]; exact iAddK 1 rfl (by omega) (by omega)
  refine va_sld hx hb hXs hbl hbA hQ.1 (iIn (by omega) (by omega)) d_La_law_654 ?_
  refine lv_topi (fun v23 e24 => ?_)
  refine lv_aload_n hx hb d_La_law_655 rfl (lv_at hl 4 rfl) ?_
  refine lv_iload hx hb d_La_law_656 (lv_at hl 0 rfl) ?_
  refine lv_iconst (v := 2) hx hb d_La_law_658 (by decide) ?_
  refine lv_iadd hx hb d_La_law_659 ?_
  refine lv_topi (fun v25 e26 => ?_)
  have is_v25 : v25.toInt = i9.toInt + 2 := by rw [e26]; exact iAddK 2 rfl (by omega) (by omega)
  refine va_sld hx hb hXs hbl hbA hQ.1 (iIn (by omega) (by omega)) d_La_law_660 ?_
  refine lv_topi (fun v27 e28 => ?_)
  refine lv_aload_n hx hb d_La_law_661 rfl (lv_at hl 1 rfl) ?_
  have px29 : ∀ q, (gD H h1).P q → P0 s q := LQ_px hQ
  refine hm_callXi (hm_runSW (n := 4) (As := [.ref x, .int v23, .int v27, .ref ou]) (rest := []) ⟨hx, hb, hml, hown, hts⟩ (h_mark l D t (gD H h1) ak av h1 hfl τ n x v23 v27 ou hn hT T_x T_ou) mw_1033 mw_1034 mw_1035 mw_1036 rfl rfl (by decide +kernel) ⟨Nat.le_of_ble_eq_true rfl, Nat.le_of_ble_eq_true rfl⟩ (hP_S kF_ok (kF_g hE0 hT0 hQ.1 rfl px29) hQ.2.1) rfl rfl hl.1 rfl (lv_room (Nat.le_of_ble_eq_true rfl)) d_La_law_662 ⟨rm_c (by omega), rm_s (by omega)⟩) hQ.1.2.2 px29 (fun r30 h31 H32 locs hp34 hH35 z33 hLo => ?_)
  obtain ⟨hT1, hk1⟩ := hp34
  have hQ := LQ_x hQ hH35 hLo
  obtain ⟨hX, hph1⟩ := XI_k hX hT1 (TrP_kf hT1 hk1 (by decide) (by decide) (List.forall_mem_nil _) (knp_kf knp_rf hk1 (by decide) (List.forall_mem_nil _)) hTr) (nlp_kf nlp_rf hk1 (by decide) (List.forall_mem_nil _)) (spz_kf rfl hk1 T_x (by decide) (List.forall_mem_nil _))
  rw [← hph] at hph1
  refine lv_istore (lv' := [(5, .int r30), (4, .int i9), (3, .ref ou), (2, .ref mo), (1, .ref x), (0, .ref b)]) hx hb d_La_law_665 hl (by decide) rfl (fun ls hl => ?_)
  refine lv_aload_n hx hb d_La_law_667 rfl (lv_at hl 3 rfl) ?_
  refine lv_aload_n hx hb d_La_law_668 rfl (lv_at hl 5 rfl) ?_
  refine lv_iload hx hb d_La_law_669 (lv_at hl 1 rfl) ?_
  refine lv_iconst (v := 1) hx hb d_La_law_671 (by decide) ?_
  refine lv_iadd hx hb d_La_law_672 ?_
  refine lv_topi (fun v36 e37 => ?_)
  have is_v36 : v36.toInt = i9.toInt + 1 := by rw [e37]; exact iAddK 1 rfl (by omega) (by omega)
  refine va_sld hx hb hXs hbl hbA hQ.1 (iIn (by omega) (by omega)) d_La_law_673 ?_
  refine lv_topi (fun v38 e39 => ?_)
  refine lv_aload_n hx hb d_La_law_674 rfl (lv_at hl 5 rfl) ?_
  refine lv_iload hx hb d_La_law_675 (lv_at hl 1 rfl) ?_
  refine lv_iconst (v := 2) hx hb d_La_law_677 (by decide) ?_
  refine lv_iadd hx hb d_La_law_678 ?_
  refine lv_topi (fun v40 e41 => ?_)
  have is_v40 : v40.toInt = i9.toInt + 2 := by rw [e41]; exact iAddK 2 rfl (by omega) (by omega)
  refine va_sld hx hb hXs hbl hbA hQ.1 (iIn (by omega) (by omega)) d_La_law_679 ?_
  refine lv_topi (fun v42 e43 => ?_)
  have px44 : ∀ q, (gD H32 h3).P q → P0 s q := LQ_py hQ
  refine hm_callXi (va_runV (As := [.int v38, .int v42]) (b := mo) (rest := []) ⟨hx, hb, hml, hown, hts⟩ (m_mark l D t (gD H32 h3) ak av h3 τm n mo v38 v42 A th sd lo le wr ma nu di pl se wg op hn hTm T_mo F_m hA hmk ) ⟨cw9B 2 hts mw_1037 mw_1038 mw_579 rfl rfl (by decide +kernel) ⟨Nat.le_of_ble_eq_true rfl, Nat.le_of_ble_eq_true rfl⟩, hts _ mw_1039, hts _ mw_1040⟩ (hP_V (q := (R_Mo, F_Mo, 41)) kE_ok (kE_g hE0 hQ.1 rfl px44) hE0.1 hQ.2.2.1 F_m rfl) rfl rfl hl.1 rfl (lv_room (Nat.le_of_ble_eq_true rfl)) d_La_law_680 ⟨rm_c (by omega), rm_s (by omega)⟩) hQ.1.2.2 px44 (fun r45 h46 H47 locs hp49 hH50 z48 hLo => ?_)
  obtain ⟨hTm1, hkm, th1, se1, wg1, F_m1, hmk1⟩ := hp49
  have hQ := LQ_y hQ hH50 hLo
  have hM1 : MI τm t n h46 mo A (r + 1) := ⟨hTm1, T_mo, hA, th1, sd, lo, le, wr, ma, nu, di, pl, se1, wg1, op, F_m1, hmk1, (TX_kf hkm hA T_mo (by decide) (by decide) (by decide) (by decide) (by decide) (by decide) hTr9 hEx9).1, (TX_kf hkm hA T_mo (by decide) (by decide) (by decide) (by decide) (by decide) (by decide) hTr9 hEx9).2, (OP_kf hkm hA T_mo (by decide) (by decide) hOp9), (by omega)⟩
  refine lv_istore (lv' := [(6, .int r45), (5, .int r30), (4, .int i9), (3, .ref ou), (2, .ref mo), (1, .ref x), (0, .ref b)]) hx hb d_La_law_683 hl (by decide) rfl (fun ls hl => ?_)
  refine lv_goto (tgt := 861) hx hb d_La_law_685 (by decide) ?_
  exact K τ L h31 h46 H47 locs ls ((cs + 1) + 0) ((ss + 6) + 0) ⟨hQ, hX, T_ou, hM1, by omega, by omega⟩ (lv_sub hl [2, 3, 4, 5, 6] rfl)

set_option maxHeartbeats 4000000 in
set_option maxRecDepth 100000 in
theorem law_c15 {p : Program} {e : Env} {s : State} {m : MethodId} {below : List Frame} {meth : Method} {c : Code} (l : Launch) (hfl : l.flags = flags0) {b : Nat} {xs : Nat → Int32} (hx : p.tables.exec = Jvm.exec) (hb : c.code = b_La_law) (hr : meth.sig.returnType = ret) (hml : c.maxLocals = 8) (hown : s.vm.findClass R_La = some m.cls) (hts : ∀ w ∈ lw_g, w.before #[Value.ref b] s = true) (hlocks : meth.locks = false) {D : va_G} {t : Nat → ClassId} {ak av : Nat → Nat} {n x mo ou r L9 : Nat} {τm : tM} {A : Nat → Nat} {τ : tM} {L : List Nat} {h1 h3 : hM} {H : Heap} {locs : List Loc} {ls : Array Slot} {cs ss : Nat} {i9 : Int32} (hn : n ≤ 200) (hE0 : kE D t (gNew s.heap) ak av s) (hT0 : kT (gNew s.heap) s) (hXs : va_X b L9 xs s s.heap) (hbl : b < s.heap.size) (hr5 : r < 512) (hi : i9.toInt = 1 + 6 * r) (hiL : 6 * r + 6 < L9) (hq : LK D t s n x mo ou τm A τ L h1 h3 H locs r cs ss) (hl : lv_has ls 8 [(4, .int i9), (3, .ref ou), (2, .ref mo), (1, .ref x), (0, .ref b)]) (K : ∀ (τ : tM) (L : List Nat) (h1 h3 : hM) (H : Heap) (locs : List Loc) (ls : Array Slot) (cs ss : Nat), LK D t s n x mo ou τm A τ L h1 h3 H locs (r + 1) cs ss → lv_has ls 8 [(4, .int i9), (3, .ref ou), (2, .ref mo), (1, .ref x), (0, .ref b)] → W p l e room_1 s m #[Value.ref b] below meth c H locs cs ss (lw_Z below #[Value.ref b] s) (F0 m 861 ls [])) : W p l e room_1 s m #[Value.ref b] below meth c H locs cs ss (lw_Z below #[Value.ref b] s) (F0 m 688 ls []) := by
  have hbA : ¬ P0 s b := Nat.not_le.mpr hbl
  obtain ⟨hQ, hX, T_ou, hM9, hcs, hss⟩ := hq
  obtain ⟨hT, T_x, hU, hTr, hL1, hL2⟩ := id hX
  obtain ⟨fx9, F_x⟩ := X_ob hT T_x
  obtain ⟨hTm, T_mo, hA, th, sd, lo, le, wr, ma, nu, di, pl, se, wg, op, F_m, hmk, hTr9, hEx9, hOp9, hma9⟩ := hM9
  obtain ⟨ph, hph⟩ : ∃ z, z = nl L h1 + spz h1 x := ⟨_, rfl⟩
  rw [← hph] at hcs hss
  refine lv_aload_n hx hb d_La_law_688 rfl (lv_at hl 3 rfl) ?_
  refine lv_aload_n hx hb d_La_law_689 rfl (lv_at hl 4 rfl) ?_
  refine lv_iload hx hb d_La_law_690 (lv_at hl 0 rfl) ?_
  refine lv_iconst (v := 1) hx hb d_La_law_692 (by decide) ?_
  refine lv_iadd hx hb d_La_law_693 ?_
  refine lv_topi (fun v21 e22 => ?_)
  have is_v21 : v21.toInt = i9.toInt + 1 := by rw [e22]; exact iAddK 1 rfl (by omega) (by omega)
  refine va_sld hx hb hXs hbl hbA hQ.1 (iIn (by omega) (by omega)) d_La_law_694 ?_
  refine lv_topi (fun v23 e24 => ?_)
  have px25 : ∀ q, (gD H h1).P q → P0 s q := LQ_px hQ
  refine hm_callXi (va_runV (As := [.int v23]) (b := x) (rest := []) ⟨hx, hb, hml, hown, hts⟩ (x_open l D t (gD H h1) ak av h1 τ n x v23 hn hT T_x ) ⟨cw9B 1 hts mw_1041 mw_1042 mw_25 rfl rfl (by decide +kernel) ⟨Nat.le_of_ble_eq_true rfl, Nat.le_of_ble_eq_true rfl⟩, hts _ mw_1043, hts _ mw_1044⟩ (hP_V (q := (R_Di, F_Di, 9)) kE_ok (kE_g hE0 hQ.1 rfl px25) hE0.1 hQ.2.1 F_x rfl) rfl rfl hl.1 rfl (lv_room (Nat.le_of_ble_eq_true rfl)) d_La_law_695 ⟨rm_c (by omega), rm_s (by omega)⟩) hQ.1.2.2 px25 (fun r26 h27 H28 locs hp30 hH31 z29 hLo => ?_)
  obtain ⟨hT1, hk1, hsp1⟩ := hp30
  have hQ := LQ_x hQ hH31 hLo
  obtain ⟨hX, hph1⟩ := XI_k hX hT1 (TrP_kf hT1 hk1 (by decide) (by decide) (List.forall_mem_nil _) (knp_kf knp_rf hk1 (by decide) (List.forall_mem_nil _)) hTr) (nlp_kf nlp_rf hk1 (by decide) (List.forall_mem_nil _)) hsp1
  rw [← hph] at hph1
  refine lv_pop hx hb d_La_law_698 rfl ?_
  refine lv_aload_n hx hb d_La_law_699 rfl (lv_at hl 2 rfl) ?_
  refine lv_aload_n hx hb d_La_law_700 rfl (lv_at hl 4 rfl) ?_
  refine lv_iload hx hb d_La_law_701 (lv_at hl 0 rfl) ?_
  refine lv_iconst (v := 1) hx hb d_La_law_703 (by decide) ?_
  refine lv_iadd hx hb d_La_law_704 ?_
  refine lv_topi (fun v32 e33 => ?_)
  have is_v32 : v32.toInt = i9.toInt + 1 := by rw [e33]; exact iAddK 1 rfl (by omega) (by omega)
  refine va_sld hx hb hXs hbl hbA hQ.1 (iIn (by omega) (by omega)) d_La_law_705 ?_
  refine lv_topi (fun v34 e35 => ?_)
  have px36 : ∀ q, (gD H28 h3).P q → P0 s q := LQ_py hQ
  refine hm_callXi (va_runV (As := [.int v34]) (b := mo) (rest := []) ⟨hx, hb, hml, hown, hts⟩ (m_open l D t (gD H28 h3) ak av h3 τm n mo v34 A th sd lo le wr ma nu di pl se wg op hn hTm T_mo F_m hA hmk hOp9) ⟨cw9B 1 hts mw_1045 mw_1046 mw_579 rfl rfl (by decide +kernel) ⟨Nat.le_of_ble_eq_true rfl, Nat.le_of_ble_eq_true rfl⟩, hts _ mw_1047, hts _ mw_1048⟩ (hP_V (q := (R_Mo, F_Mo, 41)) kE_ok (kE_g hE0 hQ.1 rfl px36) hE0.1 hQ.2.2.1 F_m rfl) rfl rfl hl.1 rfl (lv_room (Nat.le_of_ble_eq_true rfl)) d_La_law_706 ⟨rm_c (by omega), rm_s (by omega)⟩) hQ.1.2.2 px36 (fun r37 h38 H39 locs hp41 hH42 z40 hLo => ?_)
  obtain ⟨hTm1, hkm, th1, se1, wg1, op1, F_m1, hmk1, hX1⟩ := hp41
  have hQ := LQ_y hQ hH42 hLo
  have hM1 : MI τm t n h38 mo A (r + 1) := ⟨hTm1, T_mo, hA, th1, sd, lo, le, wr, ma, nu, di, pl, se1, wg1, op1, F_m1, hmk1, (TX_kf hkm hA T_mo (by decide) (by decide) (by decide) (by decide) (by decide) (by decide) hTr9 hEx9).1, (TX_kf hkm hA T_mo (by decide) (by decide) (by decide) (by decide) (by decide) (by decide) hTr9 hEx9).2, hX1, (by omega)⟩
  refine lv_pop hx hb d_La_law_709 rfl ?_
  refine lv_goto (tgt := 861) hx hb d_La_law_710 (by decide) ?_
  exact K τ L h27 h38 H39 locs ls ((cs + 0) + 0) ((ss + 0) + 0) ⟨hQ, hX, T_ou, hM1, by omega, by omega⟩ (lv_sub hl [0, 1, 2, 3, 4] rfl)

set_option maxHeartbeats 4000000 in
set_option maxRecDepth 100000 in
theorem law_c16 {p : Program} {e : Env} {s : State} {m : MethodId} {below : List Frame} {meth : Method} {c : Code} (l : Launch) (hfl : l.flags = flags0) {b : Nat} {xs : Nat → Int32} (hx : p.tables.exec = Jvm.exec) (hb : c.code = b_La_law) (hr : meth.sig.returnType = ret) (hml : c.maxLocals = 8) (hown : s.vm.findClass R_La = some m.cls) (hts : ∀ w ∈ lw_g, w.before #[Value.ref b] s = true) (hlocks : meth.locks = false) {D : va_G} {t : Nat → ClassId} {ak av : Nat → Nat} {n x mo ou r L9 : Nat} {τm : tM} {A : Nat → Nat} {τ : tM} {L : List Nat} {h1 h3 : hM} {H : Heap} {locs : List Loc} {ls : Array Slot} {cs ss : Nat} {i9 : Int32} (hn : n ≤ 200) (hE0 : kE D t (gNew s.heap) ak av s) (hT0 : kT (gNew s.heap) s) (hXs : va_X b L9 xs s s.heap) (hbl : b < s.heap.size) (hr5 : r < 512) (hi : i9.toInt = 1 + 6 * r) (hiL : 6 * r + 6 < L9) (hq : LK D t s n x mo ou τm A τ L h1 h3 H locs r cs ss) (hl : lv_has ls 8 [(4, .int i9), (3, .ref ou), (2, .ref mo), (1, .ref x), (0, .ref b)]) (K : ∀ (τ : tM) (L : List Nat) (h1 h3 : hM) (H : Heap) (locs : List Loc) (ls : Array Slot) (cs ss : Nat), LK D t s n x mo ou τm A τ L h1 h3 H locs (r + 1) cs ss → lv_has ls 8 [(4, .int i9), (3, .ref ou), (2, .ref mo), (1, .ref x), (0, .ref b)] → W p l e room_1 s m #[Value.ref b] below meth c H locs cs ss (lw_Z below #[Value.ref b] s) (F0 m 861 ls [])) : W p l e room_1 s m #[Value.ref b] below meth c H locs cs ss (lw_Z below #[Value.ref b] s) (F0 m 713 ls []) := by
  have hbA : ¬ P0 s b := Nat.not_le.mpr hbl
  obtain ⟨hQ, hX, T_ou, hM9, hcs, hss⟩ := hq
  obtain ⟨hT, T_x, hU, hTr, hL1, hL2⟩ := id hX
  obtain ⟨fx9, F_x⟩ := X_ob hT T_x
  obtain ⟨hTm, T_mo, hA, th, sd, lo, le, wr, ma, nu, di, pl, se, wg, op, F_m, hmk, hTr9, hEx9, hOp9, hma9⟩ := hM9
  obtain ⟨ph, hph⟩ : ∃ z, z = nl L h1 + spz h1 x := ⟨_, rfl⟩
  rw [← hph] at hcs hss
  refine lv_aload_n hx hb d_La_law_713 rfl (lv_at hl 3 rfl) ?_
  refine lv_aload_n hx hb d_La_law_714 rfl (lv_at hl 4 rfl) ?_
  refine lv_iload hx hb d_La_law_715 (lv_at hl 0 rfl) ?_
  refine lv_iconst (v := 1) hx hb d_La_law_717 (by decide) ?_
  refine lv_iadd hx hb d_La_law_718 ?_
  refine lv_topi (fun v21 e22 => ?_)
  have is_v21 : v21.toInt = i9.toInt + 1 := by rw [e22]; exact iAddK 1 rfl (by omega) (by omega)
  refine va_sld hx hb hXs hbl hbA hQ.1 (iIn (by omega) (by omega)) d_La_law_719 ?_
  refine lv_topi (fun v23 e24 => ?_)
  refine lv_aload_n hx hb d_La_law_720 rfl (lv_at hl 4 rfl) ?_
  refine lv_iload hx hb d_La_law_721 (lv_at hl 0 rfl) ?_
  refine lv_iconst (v := 2) hx hb d_La_law_723 (by decide) ?_
  refine lv_iadd hx hb d_La_law_724 ?_
  refine lv_topi (fun v25 e26 => ?_)
  have is_v25 : v25.toInt = i9.toInt + 2 := by rw [e26]; exact iAddK 2 rfl (by omega) (by omega)
  refine va_sld hx hb hXs hbl hbA hQ.1 (iIn (by omega) (by omega)) d_La_law_725 ?_
  refine lv_topi (fun v27 e28 => ?_)
  refine lv_aload_n hx hb d_La_law_726 rfl (lv_at hl 1 rfl) ?_
  have px29 : ∀ q, (gD H h1).P q → P0 s q := LQ_px hQ
  refine hm_callXi (hm_runSW (n := 4) (As := [.ref x, .int v23, .int v27, .ref ou]) (rest := []) ⟨hx, hb, hml, hown, hts⟩ (h_node l D t (gD H h1) ak av h1 hfl τ n x v23 v27 ou hn hT T_x T_ou) mw_1049 mw_1050 mw_1051 mw_1036 rfl rfl (by decide +kernel) ⟨Nat.le_of_ble_eq_true rfl, Nat.le_of_ble_eq_true rfl⟩ (hP_S kF_ok (kF_g hE0 hT0 hQ.1 rfl px29) hQ.2.1) rfl rfl hl.1 rfl (lv_room (Nat.le_of_ble_eq_true rfl)) d_La_law_727 ⟨rm_c (by omega), rm_s (by omega)⟩) hQ.1.2.2 px29 (fun r30 h31 H32 locs hp34 hH35 z33 hLo => ?_)
  obtain ⟨hT1, hk1⟩ := hp34
  have hQ := LQ_x hQ hH35 hLo
  obtain ⟨hX, hph1⟩ := XI_k hX hT1 (TrP_kf hT1 hk1 (by decide) (by decide) (List.forall_mem_nil _) (knp_kf knp_rf hk1 (by decide) (List.forall_mem_nil _)) hTr) (nlp_kf nlp_rf hk1 (by decide) (List.forall_mem_nil _)) (spz_kf rfl hk1 T_x (by decide) (List.forall_mem_nil _))
  rw [← hph] at hph1
  refine lv_istore (lv' := [(5, .int r30), (4, .int i9), (3, .ref ou), (2, .ref mo), (1, .ref x), (0, .ref b)]) hx hb d_La_law_730 hl (by decide) rfl (fun ls hl => ?_)
  refine lv_aload_n hx hb d_La_law_732 rfl (lv_at hl 3 rfl) ?_
  refine lv_aload_n hx hb d_La_law_733 rfl (lv_at hl 5 rfl) ?_
  refine lv_iload hx hb d_La_law_734 (lv_at hl 1 rfl) ?_
  refine lv_iconst (v := 1) hx hb d_La_law_736 (by decide) ?_
  refine lv_iadd hx hb d_La_law_737 ?_
  refine lv_topi (fun v36 e37 => ?_)
  have is_v36 : v36.toInt = i9.toInt + 1 := by rw [e37]; exact iAddK 1 rfl (by omega) (by omega)
  refine va_sld hx hb hXs hbl hbA hQ.1 (iIn (by omega) (by omega)) d_La_law_738 ?_
  refine lv_topi (fun v38 e39 => ?_)
  refine lv_aload_n hx hb d_La_law_739 rfl (lv_at hl 5 rfl) ?_
  refine lv_iload hx hb d_La_law_740 (lv_at hl 1 rfl) ?_
  refine lv_iconst (v := 2) hx hb d_La_law_742 (by decide) ?_
  refine lv_iadd hx hb d_La_law_743 ?_
  refine lv_topi (fun v40 e41 => ?_)
  have is_v40 : v40.toInt = i9.toInt + 2 := by rw [e41]; exact iAddK 2 rfl (by omega) (by omega)
  refine va_sld hx hb hXs hbl hbA hQ.1 (iIn (by omega) (by omega)) d_La_law_744 ?_
  refine lv_topi (fun v42 e43 => ?_)
  have px44 : ∀ q, (gD H32 h3).P q → P0 s q := LQ_py hQ
  refine hm_callXi (va_runV (As := [.int v38, .int v42]) (b := mo) (rest := []) ⟨hx, hb, hml, hown, hts⟩ (m_node l D t (gD H32 h3) ak av h3 τm n mo v38 v42 A th sd lo le wr ma nu di pl se wg op hn hTm T_mo F_m hA hmk ) ⟨cw9B 2 hts mw_1052 mw_1053 mw_579 rfl rfl (by decide +kernel) ⟨Nat.le_of_ble_eq_true rfl, Nat.le_of_ble_eq_true rfl⟩, hts _ mw_1054, hts _ mw_1055⟩ (hP_V (q := (R_Mo, F_Mo, 41)) kE_ok (kE_g hE0 hQ.1 rfl px44) hE0.1 hQ.2.2.1 F_m rfl) rfl rfl hl.1 rfl (lv_room (Nat.le_of_ble_eq_true rfl)) d_La_law_745 ⟨rm_c (by omega), rm_s (by omega)⟩) hQ.1.2.2 px44 (fun r45 h46 H47 locs hp49 hH50 z48 hLo => ?_)
  obtain ⟨hTm1, hkm, th1, F_m1, hmk1⟩ := hp49
  have hQ := LQ_y hQ hH50 hLo
  have hM1 : MI τm t n h46 mo A (r + 1) := ⟨hTm1, T_mo, hA, th1, sd, lo, le, wr, ma, nu, di, pl, se, wg, op, F_m1, hmk1, (TX_kf hkm hA T_mo (by decide) (by decide) (by decide) (by decide) (by decide) (by decide) hTr9 hEx9).1, (TX_kf hkm hA T_mo (by decide) (by decide) (by decide) (by decide) (by decide) (by decide) hTr9 hEx9).2, (OP_kf hkm hA T_mo (by decide) (by decide) hOp9), (by omega)⟩
  refine lv_istore (lv' := [(6, .int r45), (5, .int r30), (4, .int i9), (3, .ref ou), (2, .ref mo), (1, .ref x), (0, .ref b)]) hx hb d_La_law_748 hl (by decide) rfl (fun ls hl => ?_)
  refine lv_goto (tgt := 861) hx hb d_La_law_750 (by decide) ?_
  exact K τ L h31 h46 H47 locs ls ((cs + 1) + 0) ((ss + 6) + 0) ⟨hQ, hX, T_ou, hM1, by omega, by omega⟩ (lv_sub hl [2, 3, 4, 5, 6] rfl)

set_option maxHeartbeats 4000000 in
set_option maxRecDepth 100000 in
theorem law_c17 {p : Program} {e : Env} {s : State} {m : MethodId} {below : List Frame} {meth : Method} {c : Code} (l : Launch) (hfl : l.flags = flags0) {b : Nat} {xs : Nat → Int32} (hx : p.tables.exec = Jvm.exec) (hb : c.code = b_La_law) (hr : meth.sig.returnType = ret) (hml : c.maxLocals = 8) (hown : s.vm.findClass R_La = some m.cls) (hts : ∀ w ∈ lw_g, w.before #[Value.ref b] s = true) (hlocks : meth.locks = false) {D : va_G} {t : Nat → ClassId} {ak av : Nat → Nat} {n x mo ou r L9 : Nat} {τm : tM} {A : Nat → Nat} {τ : tM} {L : List Nat} {h1 h3 : hM} {H : Heap} {locs : List Loc} {ls : Array Slot} {cs ss : Nat} {i9 : Int32} (hn : n ≤ 200) (hE0 : kE D t (gNew s.heap) ak av s) (hT0 : kT (gNew s.heap) s) (hXs : va_X b L9 xs s s.heap) (hbl : b < s.heap.size) (hr5 : r < 512) (hi : i9.toInt = 1 + 6 * r) (hiL : 6 * r + 6 < L9) (hq : LK D t s n x mo ou τm A τ L h1 h3 H locs r cs ss) (hl : lv_has ls 8 [(4, .int i9), (3, .ref ou), (2, .ref mo), (1, .ref x), (0, .ref b)]) (K : ∀ (τ : tM) (L : List Nat) (h1 h3 : hM) (H : Heap) (locs : List Loc) (ls : Array Slot) (cs ss : Nat), LK D t s n x mo ou τm A τ L h1 h3 H locs (r + 1) cs ss → lv_has ls 8 [(4, .int i9), (3, .ref ou), (2, .ref mo), (1, .ref x), (0, .ref b)] → W p l e room_1 s m #[Value.ref b] below meth c H locs cs ss (lw_Z below #[Value.ref b] s) (F0 m 861 ls [])) : W p l e room_1 s m #[Value.ref b] below meth c H locs cs ss (lw_Z below #[Value.ref b] s) (F0 m 753 ls []) := by
  have hbA : ¬ P0 s b := Nat.not_le.mpr hbl
  obtain ⟨hQ, hX, T_ou, hM9, hcs, hss⟩ := hq
  obtain ⟨hT, T_x, hU, hTr, hL1, hL2⟩ := id hX
  obtain ⟨fx9, F_x⟩ := X_ob hT T_x
  obtain ⟨hTm, T_mo, hA, th, sd, lo, le, wr, ma, nu, di, pl, se, wg, op, F_m, hmk, hTr9, hEx9, hOp9, hma9⟩ := hM9
  obtain ⟨ph, hph⟩ : ∃ z, z = nl L h1 + spz h1 x := ⟨_, rfl⟩
  rw [← hph] at hcs hss
  refine lv_aload_n hx hb d_La_law_753 rfl (lv_at hl 3 rfl) ?_
  refine lv_aload_n hx hb d_La_law_754 rfl (lv_at hl 4 rfl) ?_
  refine lv_iload hx hb d_La_law_755 (lv_at hl 0 rfl) ?_
  refine lv_iconst (v := 1) hx hb d_La_law_757 (by decide) ?_
  refine lv_iadd hx hb d_La_law_758 ?_
  refine lv_topi (fun v21 e22 => ?_)
  have is_v21 : v21.toInt = i9.toInt + 1 := by rw [e22]; exact iAddK 1 rfl (by omega) (by omega)
  refine va_sld hx hb hXs hbl hbA hQ.1 (iIn (by omega) (by omega)) d_La_law_759 ?_
  refine lv_topi (fun v23 e24 => ?_)
  refine lv_aload_n hx hb d_La_law_760 rfl (lv_at hl 1 rfl) ?_
  have px25 : ∀ q, (gD H h1).P q → P0 s q := LQ_px hQ
  refine hm_callXi (hm_runSW (n := 3) (As := [.ref x, .int v23, .ref ou]) (rest := []) ⟨hx, hb, hml, hown, hts⟩ (h_name l D t (gD H h1) ak av h1 hfl τ n x v23 ou hn hT T_x T_ou) mw_1056 mw_1057 mw_1058 mw_1036 rfl rfl (by decide +kernel) ⟨Nat.le_of_ble_eq_true rfl, Nat.le_of_ble_eq_true rfl⟩ (hP_S kF_ok (kF_g hE0 hT0 hQ.1 rfl px25) hQ.2.1) rfl rfl hl.1 rfl (lv_room (Nat.le_of_ble_eq_true rfl)) d_La_law_761 ⟨rm_c (by omega), rm_s (by omega)⟩) hQ.1.2.2 px25 (fun r26 h27 H28 locs hp30 hH31 z29 hLo => ?_)
  obtain ⟨hT1, hk1⟩ := hp30
  have hQ := LQ_x hQ hH31 hLo
  obtain ⟨hX, hph1⟩ := XI_k hX hT1 (TrP_kf hT1 hk1 (by decide) (by decide) (List.forall_mem_nil _) (knp_kf knp_rf hk1 (by decide) (List.forall_mem_nil _)) hTr) (nlp_kf nlp_rf hk1 (by decide) (List.forall_mem_nil _)) (spz_kf rfl hk1 T_x (by decide) (List.forall_mem_nil _))
  rw [← hph] at hph1
  refine lv_istore (lv' := [(5, .int r26), (4, .int i9), (3, .ref ou), (2, .ref mo), (1, .ref x), (0, .ref b)]) hx hb d_La_law_764 hl (by decide) rfl (fun ls hl => ?_)
  refine lv_aload_n hx hb d_La_law_766 rfl (lv_at hl 3 rfl) ?_
  refine lv_aload_n hx hb d_La_law_767 rfl (lv_at hl 5 rfl) ?_
  refine lv_iload hx hb d_La_law_768 (lv_at hl 1 rfl) ?_
  refine lv_iconst (v := 1) hx hb d_La_law_770 (by decide) ?_
  refine lv_iadd hx hb d_La_law_771 ?_
  refine lv_topi (fun v32 e33 => ?_)
  have is_v32 : v32.toInt = i9.toInt + 1 := by rw [e33]; exact iAddK 1 rfl (by omega) (by omega)
  refine va_sld hx hb hXs hbl hbA hQ.1 (iIn (by omega) (by omega)) d_La_law_772 ?_
  refine lv_topi (fun v34 e35 => ?_)
  have px36 : ∀ q, (gD H28 h3).P q → P0 s q := LQ_py hQ
  refine hm_callXl (va_runV (As := [.int v34]) (b := mo) (rest := []) ⟨hx, hb, hml, hown, hts⟩ (m_name l D t (gD H28 h3) ak av h3 τm n mo v34 A th sd lo le wr ma nu di pl se wg op hn hTm T_mo F_m hA hmk ) ⟨cw9B 1 hts mw_1059 mw_1060 mw_579 rfl rfl (by decide +kernel) ⟨Nat.le_of_ble_eq_true rfl, Nat.le_of_ble_eq_true rfl⟩, hts _ mw_1061, hts _ mw_1062⟩ (hP_V (q := (R_Mo, F_Mo, 41)) kE_ok (kE_g hE0 hQ.1 rfl px36) hE0.1 hQ.2.2.1 F_m rfl) rfl rfl hl.1 rfl (lv_room (Nat.le_of_ble_eq_true rfl)) d_La_law_773 ⟨rm_c (by omega), rm_s (by omega)⟩) hQ.1.2.2 px36 (fun r37 h38 H39 locs hp41 hH42 z40 hLo => ?_)
  obtain ⟨hTm1, hkm, th1, F_m1, hmk1⟩ := hp41
  have hQ := LQ_y hQ hH42 hLo
  have hM1 : MI τm t n h38 mo A (r + 1) := ⟨hTm1, T_mo, hA, th1, sd, lo, le, wr, ma, nu, di, pl, se, wg, op, F_m1, hmk1, (TX_kf hkm hA T_mo (by decide) (by decide) (by decide) (by decide) (by decide) (by decide) hTr9 hEx9).1, (TX_kf hkm hA T_mo (by decide) (by decide) (by decide) (by decide) (by decide) (by decide) hTr9 hEx9).2, (OP_kf hkm hA T_mo (by decide) (by decide) hOp9), (by omega)⟩
  refine lv_lstore (lv' := [(6, .long r37), (5, .int r26), (4, .int i9), (3, .ref ou), (2, .ref mo), (1, .ref x), (0, .ref b)]) hx hb d_La_law_776 hl (by decide) rfl (fun ls hl => ?_)
  refine lv_goto (tgt := 861) hx hb d_La_law_778 (by decide) ?_
  exact K τ L h27 h38 H39 locs ls ((cs + 1) + 0) ((ss + 6) + 0) ⟨hQ, hX, T_ou, hM1, by omega, by omega⟩ (lv_sub hl [2, 3, 4, 5, 6] rfl)

set_option maxHeartbeats 4000000 in
set_option maxRecDepth 100000 in
theorem law_c18 {p : Program} {e : Env} {s : State} {m : MethodId} {below : List Frame} {meth : Method} {c : Code} (l : Launch) (hfl : l.flags = flags0) {b : Nat} {xs : Nat → Int32} (hx : p.tables.exec = Jvm.exec) (hb : c.code = b_La_law) (hr : meth.sig.returnType = ret) (hml : c.maxLocals = 8) (hown : s.vm.findClass R_La = some m.cls) (hts : ∀ w ∈ lw_g, w.before #[Value.ref b] s = true) (hlocks : meth.locks = false) {D : va_G} {t : Nat → ClassId} {ak av : Nat → Nat} {n x mo ou r L9 : Nat} {τm : tM} {A : Nat → Nat} {τ : tM} {L : List Nat} {h1 h3 : hM} {H : Heap} {locs : List Loc} {ls : Array Slot} {cs ss : Nat} {i9 : Int32} (hn : n ≤ 200) (hE0 : kE D t (gNew s.heap) ak av s) (hT0 : kT (gNew s.heap) s) (hXs : va_X b L9 xs s s.heap) (hbl : b < s.heap.size) (hr5 : r < 512) (hi : i9.toInt = 1 + 6 * r) (hiL : 6 * r + 6 < L9) (hq : LK D t s n x mo ou τm A τ L h1 h3 H locs r cs ss) (hl : lv_has ls 8 [(4, .int i9), (3, .ref ou), (2, .ref mo), (1, .ref x), (0, .ref b)]) (K : ∀ (τ : tM) (L : List Nat) (h1 h3 : hM) (H : Heap) (locs : List Loc) (ls : Array Slot) (cs ss : Nat), LK D t s n x mo ou τm A τ L h1 h3 H locs (r + 1) cs ss → lv_has ls 8 [(4, .int i9), (3, .ref ou), (2, .ref mo), (1, .ref x), (0, .ref b)] → W p l e room_1 s m #[Value.ref b] below meth c H locs cs ss (lw_Z below #[Value.ref b] s) (F0 m 861 ls [])) : W p l e room_1 s m #[Value.ref b] below meth c H locs cs ss (lw_Z below #[Value.ref b] s) (F0 m 781 ls []) := by
  have hbA : ¬ P0 s b := Nat.not_le.mpr hbl
  obtain ⟨hQ, hX, T_ou, hM9, hcs, hss⟩ := hq
  obtain ⟨hT, T_x, hU, hTr, hL1, hL2⟩ := id hX
  obtain ⟨fx9, F_x⟩ := X_ob hT T_x
  obtain ⟨hTm, T_mo, hA, th, sd, lo, le, wr, ma, nu, di, pl, se, wg, op, F_m, hmk, hTr9, hEx9, hOp9, hma9⟩ := hM9
  obtain ⟨ph, hph⟩ : ∃ z, z = nl L h1 + spz h1 x := ⟨_, rfl⟩
  rw [← hph] at hcs hss
  refine lv_aload_n hx hb d_La_law_781 rfl (lv_at hl 3 rfl) ?_
  refine lv_aload_n hx hb d_La_law_782 rfl (lv_at hl 4 rfl) ?_
  refine lv_iload hx hb d_La_law_783 (lv_at hl 0 rfl) ?_
  refine lv_iconst (v := 1) hx hb d_La_law_785 (by decide) ?_
  refine lv_iadd hx hb d_La_law_786 ?_
  refine lv_topi (fun v21 e22 => ?_)
  have is_v21 : v21.toInt = i9.toInt + 1 := by rw [e22]; exact iAddK 1 rfl (by omega) (by omega)
  refine va_sld hx hb hXs hbl hbA hQ.1 (iIn (by omega) (by omega)) d_La_law_787 ?_
  refine lv_topi (fun v23 e24 => ?_)
  refine lv_aload_n hx hb d_La_law_788 rfl (lv_at hl 4 rfl) ?_
  refine lv_iload hx hb d_La_law_789 (lv_at hl 0 rfl) ?_
  refine lv_iconst (v := 2) hx hb d_La_law_791 (by decide) ?_
  refine lv_iadd hx hb d_La_law_792 ?_
  refine lv_topi (fun v25 e26 => ?_)
  have is_v25 : v25.toInt = i9.toInt + 2 := by rw [e26]; exact iAddK 2 rfl (by omega) (by omega)
  refine va_sld hx hb hXs hbl hbA hQ.1 (iIn (by omega) (by omega)) d_La_law_793 ?_
  refine lv_topi (fun v27 e28 => ?_)
  refine lv_aload_n hx hb d_La_law_794 rfl (lv_at hl 1 rfl) ?_
  have px29 : ∀ q, (gD H h1).P q → P0 s q := LQ_px hQ
  refine hm_callXi (hm_runSW (n := 4) (As := [.ref x, .int v23, .int v27, .ref ou]) (rest := []) ⟨hx, hb, hml, hown, hts⟩ (h_read l D t (gD H h1) ak av h1 hfl τ n x v23 v27 ou hn hT T_x T_ou) mw_1063 mw_1064 mw_1065 mw_1036 rfl rfl (by decide +kernel) ⟨Nat.le_of_ble_eq_true rfl, Nat.le_of_ble_eq_true rfl⟩ (hP_S kF_ok (kF_g hE0 hT0 hQ.1 rfl px29) hQ.2.1) rfl rfl hl.1 rfl (lv_room (Nat.le_of_ble_eq_true rfl)) d_La_law_795 ⟨rm_c (by omega), rm_s (by omega)⟩) hQ.1.2.2 px29 (fun r30 h31 H32 locs hp34 hH35 z33 hLo => ?_)
  obtain ⟨hT1, hk1⟩ := hp34
  have hQ := LQ_x hQ hH35 hLo
  obtain ⟨hX, hph1⟩ := XI_k hX hT1 (TrP_kf hT1 hk1 (by decide) (by decide) (List.forall_mem_nil _) (knp_kf knp_rf hk1 (by decide) (List.forall_mem_nil _)) hTr) (nlp_kf nlp_rf hk1 (by decide) (List.forall_mem_nil _)) (spz_kf rfl hk1 T_x (by decide) (List.forall_mem_nil _))
  rw [← hph] at hph1
  refine lv_istore (lv' := [(5, .int r30), (4, .int i9), (3, .ref ou), (2, .ref mo), (1, .ref x), (0, .ref b)]) hx hb d_La_law_798 hl (by decide) rfl (fun ls hl => ?_)
  refine lv_aload_n hx hb d_La_law_800 rfl (lv_at hl 3 rfl) ?_
  refine lv_aload_n hx hb d_La_law_801 rfl (lv_at hl 5 rfl) ?_
  refine lv_iload hx hb d_La_law_802 (lv_at hl 1 rfl) ?_
  refine lv_iconst (v := 1) hx hb d_La_law_804 (by decide) ?_
  refine lv_iadd hx hb d_La_law_805 ?_
  refine lv_topi (fun v36 e37 => ?_)
  have is_v36 : v36.toInt = i9.toInt + 1 := by rw [e37]; exact iAddK 1 rfl (by omega) (by omega)
  refine va_sld hx hb hXs hbl hbA hQ.1 (iIn (by omega) (by omega)) d_La_law_806 ?_
  refine lv_topi (fun v38 e39 => ?_)
  refine lv_aload_n hx hb d_La_law_807 rfl (lv_at hl 5 rfl) ?_
  refine lv_iload hx hb d_La_law_808 (lv_at hl 1 rfl) ?_
  refine lv_iconst (v := 2) hx hb d_La_law_810 (by decide) ?_
  refine lv_iadd hx hb d_La_law_811 ?_
  refine lv_topi (fun v40 e41 => ?_)
  have is_v40 : v40.toInt = i9.toInt + 2 := by rw [e41]; exact iAddK 2 rfl (by omega) (by omega)
  refine va_sld hx hb hXs hbl hbA hQ.1 (iIn (by omega) (by omega)) d_La_law_812 ?_
  refine lv_topi (fun v42 e43 => ?_)
  have px44 : ∀ q, (gD H32 h3).P q → P0 s q := LQ_py hQ
  refine hm_callXi (va_runV (As := [.int v38, .int v42]) (b := mo) (rest := []) ⟨hx, hb, hml, hown, hts⟩ (m_read l D t (gD H32 h3) ak av h3 τm n mo v38 v42 A th sd lo le wr ma nu di pl se wg op hn hTm T_mo F_m hA hmk hOp9) ⟨cw9B 2 hts mw_1066 mw_1067 mw_579 rfl rfl (by decide +kernel) ⟨Nat.le_of_ble_eq_true rfl, Nat.le_of_ble_eq_true rfl⟩, hts _ mw_1068, hts _ mw_1069⟩ (hP_V (q := (R_Mo, F_Mo, 41)) kE_ok (kE_g hE0 hQ.1 rfl px44) hE0.1 hQ.2.2.1 F_m rfl) rfl rfl hl.1 rfl (lv_room (Nat.le_of_ble_eq_true rfl)) d_La_law_813 ⟨rm_c (by omega), rm_s (by omega)⟩) hQ.1.2.2 px44 (fun r45 h46 H47 locs hp49 hH50 z48 hLo => ?_)
  obtain ⟨hTm1, hkm, th1, F_m1, hmk1⟩ := hp49
  have hQ := LQ_y hQ hH50 hLo
  have hM1 : MI τm t n h46 mo A (r + 1) := ⟨hTm1, T_mo, hA, th1, sd, lo, le, wr, ma, nu, di, pl, se, wg, op, F_m1, hmk1, (TX_kf hkm hA T_mo (by decide) (by decide) (by decide) (by decide) (by decide) (by decide) hTr9 hEx9).1, (TX_kf hkm hA T_mo (by decide) (by decide) (by decide) (by decide) (by decide) (by decide) hTr9 hEx9).2, (OP_kf hkm hA T_mo (by decide) (by decide) hOp9), (by omega)⟩
  refine lv_istore (lv' := [(6, .int r45), (5, .int r30), (4, .int i9), (3, .ref ou), (2, .ref mo), (1, .ref x), (0, .ref b)]) hx hb d_La_law_816 hl (by decide) rfl (fun ls hl => ?_)
  refine lv_goto (tgt := 861) hx hb d_La_law_818 (by decide) ?_
  exact K τ L h31 h46 H47 locs ls ((cs + 1) + 0) ((ss + 6) + 0) ⟨hQ, hX, T_ou, hM1, by omega, by omega⟩ (lv_sub hl [2, 3, 4, 5, 6] rfl)

set_option maxHeartbeats 4000000 in
set_option maxRecDepth 100000 in
theorem law_c19 {p : Program} {e : Env} {s : State} {m : MethodId} {below : List Frame} {meth : Method} {c : Code} (l : Launch) (hfl : l.flags = flags0) {b : Nat} {xs : Nat → Int32} (hx : p.tables.exec = Jvm.exec) (hb : c.code = b_La_law) (hr : meth.sig.returnType = ret) (hml : c.maxLocals = 8) (hown : s.vm.findClass R_La = some m.cls) (hts : ∀ w ∈ lw_g, w.before #[Value.ref b] s = true) (hlocks : meth.locks = false) {D : va_G} {t : Nat → ClassId} {ak av : Nat → Nat} {n x mo ou r L9 : Nat} {τm : tM} {A : Nat → Nat} {τ : tM} {L : List Nat} {h1 h3 : hM} {H : Heap} {locs : List Loc} {ls : Array Slot} {cs ss : Nat} {i9 : Int32} (hn : n ≤ 200) (hE0 : kE D t (gNew s.heap) ak av s) (hT0 : kT (gNew s.heap) s) (hXs : va_X b L9 xs s s.heap) (hbl : b < s.heap.size) (hr5 : r < 512) (hi : i9.toInt = 1 + 6 * r) (hiL : 6 * r + 6 < L9) (hq : LK D t s n x mo ou τm A τ L h1 h3 H locs r cs ss) (hl : lv_has ls 8 [(4, .int i9), (3, .ref ou), (2, .ref mo), (1, .ref x), (0, .ref b)]) (K : ∀ (τ : tM) (L : List Nat) (h1 h3 : hM) (H : Heap) (locs : List Loc) (ls : Array Slot) (cs ss : Nat), LK D t s n x mo ou τm A τ L h1 h3 H locs (r + 1) cs ss → lv_has ls 8 [(4, .int i9), (3, .ref ou), (2, .ref mo), (1, .ref x), (0, .ref b)] → W p l e room_1 s m #[Value.ref b] below meth c H locs cs ss (lw_Z below #[Value.ref b] s) (F0 m 861 ls [])) : W p l e room_1 s m #[Value.ref b] below meth c H locs cs ss (lw_Z below #[Value.ref b] s) (F0 m 821 ls []) := by
  have hbA : ¬ P0 s b := Nat.not_le.mpr hbl
  obtain ⟨hQ, hX, T_ou, hM9, hcs, hss⟩ := hq
  obtain ⟨hT, T_x, hU, hTr, hL1, hL2⟩ := id hX
  obtain ⟨fx9, F_x⟩ := X_ob hT T_x
  obtain ⟨hTm, T_mo, hA, th, sd, lo, le, wr, ma, nu, di, pl, se, wg, op, F_m, hmk, hTr9, hEx9, hOp9, hma9⟩ := hM9
  obtain ⟨ph, hph⟩ : ∃ z, z = nl L h1 + spz h1 x := ⟨_, rfl⟩
  rw [← hph] at hcs hss
  refine lv_aload_n hx hb d_La_law_821 rfl (lv_at hl 3 rfl) ?_
  refine lv_aload_n hx hb d_La_law_822 rfl (lv_at hl 4 rfl) ?_
  refine lv_iload hx hb d_La_law_823 (lv_at hl 0 rfl) ?_
  refine lv_iconst (v := 1) hx hb d_La_law_825 (by decide) ?_
  refine lv_iadd hx hb d_La_law_826 ?_
  refine lv_topi (fun v21 e22 => ?_)
  have is_v21 : v21.toInt = i9.toInt + 1 := by rw [e22]; exact iAddK 1 rfl (by omega) (by omega)
  refine va_sld hx hb hXs hbl hbA hQ.1 (iIn (by omega) (by omega)) d_La_law_827 ?_
  refine lv_topi (fun v23 e24 => ?_)
  refine lv_aload_n hx hb d_La_law_828 rfl (lv_at hl 4 rfl) ?_
  refine lv_iload hx hb d_La_law_829 (lv_at hl 0 rfl) ?_
  refine lv_iconst (v := 2) hx hb d_La_law_831 (by decide) ?_
  refine lv_iadd hx hb d_La_law_832 ?_
  refine lv_topi (fun v25 e26 => ?_)
  have is_v25 : v25.toInt = i9.toInt + 2 := by rw [e26]; exact iAddK 2 rfl (by omega) (by omega)
  refine va_sld hx hb hXs hbl hbA hQ.1 (iIn (by omega) (by omega)) d_La_law_833 ?_
  refine lv_topi (fun v27 e28 => ?_)
  refine lv_aload_n hx hb d_La_law_834 rfl (lv_at hl 1 rfl) ?_
  have px29 : ∀ q, (gD H h1).P q → P0 s q := LQ_px hQ
  refine hm_callXi (hm_runSW (n := 4) (As := [.ref x, .int v23, .int v27, .ref ou]) (rest := []) ⟨hx, hb, hml, hown, hts⟩ (h_tree l D t (gD H h1) ak av h1 hfl τ n x v23 v27 ou hn hT T_x T_ou) mw_1070 mw_1071 mw_1072 mw_1036 rfl rfl (by decide +kernel) ⟨Nat.le_of_ble_eq_true rfl, Nat.le_of_ble_eq_true rfl⟩ (hP_S kF_ok (kF_g hE0 hT0 hQ.1 rfl px29) hQ.2.1) rfl rfl hl.1 rfl (lv_room (Nat.le_of_ble_eq_true rfl)) d_La_law_835 ⟨rm_c (by omega), rm_s (by omega)⟩) hQ.1.2.2 px29 (fun r30 h31 H32 locs hp34 hH35 z33 hLo => ?_)
  obtain ⟨hT1, hk1⟩ := hp34
  have hQ := LQ_x hQ hH35 hLo
  obtain ⟨hX, hph1⟩ := XI_k hX hT1 (TrP_kf hT1 hk1 (by decide) (by decide) (List.forall_mem_nil _) (knp_kf knp_rf hk1 (by decide) (List.forall_mem_nil _)) hTr) (nlp_kf nlp_rf hk1 (by decide) (List.forall_mem_nil _)) (spz_kf rfl hk1 T_x (by decide) (List.forall_mem_nil _))
  rw [← hph] at hph1
  refine lv_istore (lv' := [(5, .int r30), (4, .int i9), (3, .ref ou), (2, .ref mo), (1, .ref x), (0, .ref b)]) hx hb d_La_law_838 hl (by decide) rfl (fun ls hl => ?_)
  refine lv_aload_n hx hb d_La_law_840 rfl (lv_at hl 3 rfl) ?_
  refine lv_aload_n hx hb d_La_law_841 rfl (lv_at hl 5 rfl) ?_
  refine lv_iload hx hb d_La_law_842 (lv_at hl 1 rfl) ?_
  refine lv_iconst (v := 1) hx hb d_La_law_844 (by decide) ?_
  refine lv_iadd hx hb d_La_law_845 ?_
  refine lv_topi (fun v36 e37 => ?_)
  have is_v36 : v36.toInt = i9.toInt + 1 := by rw [e37]; exact iAddK 1 rfl (by omega) (by omega)
  refine va_sld hx hb hXs hbl hbA hQ.1 (iIn (by omega) (by omega)) d_La_law_846 ?_
  refine lv_topi (fun v38 e39 => ?_)
  refine lv_aload_n hx hb d_La_law_847 rfl (lv_at hl 5 rfl) ?_
  refine lv_iload hx hb d_La_law_848 (lv_at hl 1 rfl) ?_
  refine lv_iconst (v := 2) hx hb d_La_law_850 (by decide) ?_
  refine lv_iadd hx hb d_La_law_851 ?_
  refine lv_topi (fun v40 e41 => ?_)
  have is_v40 : v40.toInt = i9.toInt + 2 := by rw [e41]; exact iAddK 2 rfl (by omega) (by omega)
  refine va_sld hx hb hXs hbl hbA hQ.1 (iIn (by omega) (by omega)) d_La_law_852 ?_
  refine lv_topi (fun v42 e43 => ?_)
  have px44 : ∀ q, (gD H32 h3).P q → P0 s q := LQ_py hQ
  refine hm_callXi (va_runV (As := [.int v38, .int v42]) (b := mo) (rest := []) ⟨hx, hb, hml, hown, hts⟩ (m_tree l D t (gD H32 h3) ak av h3 τm n mo v38 v42 A th sd lo le wr ma nu di pl se wg op hn hTm T_mo F_m hA hmk ) ⟨cw9B 2 hts mw_1073 mw_1074 mw_579 rfl rfl (by decide +kernel) ⟨Nat.le_of_ble_eq_true rfl, Nat.le_of_ble_eq_true rfl⟩, hts _ mw_1075, hts _ mw_1076⟩ (hP_V (q := (R_Mo, F_Mo, 41)) kE_ok (kE_g hE0 hQ.1 rfl px44) hE0.1 hQ.2.2.1 F_m rfl) rfl rfl hl.1 rfl (lv_room (Nat.le_of_ble_eq_true rfl)) d_La_law_853 ⟨rm_c (by omega), rm_s (by omega)⟩) hQ.1.2.2 px44 (fun r45 h46 H47 locs hp49 hH50 z48 hLo => ?_)
  obtain ⟨hTm1, hkm, th1, F_m1, hmk1⟩ := hp49
  have hQ := LQ_y hQ hH50 hLo
  have hM1 : MI τm t n h46 mo A (r + 1) := ⟨hTm1, T_mo, hA, th1, sd, lo, le, wr, ma, nu, di, pl, se, wg, op, F_m1, hmk1, (TX_kf hkm hA T_mo (by decide) (by decide) (by decide) (by decide) (by decide) (by decide) hTr9 hEx9).1, (TX_kf hkm hA T_mo (by decide) (by decide) (by decide) (by decide) (by decide) (by decide) hTr9 hEx9).2, (OP_kf hkm hA T_mo (by decide) (by decide) hOp9), (by omega)⟩
  refine lv_istore (lv' := [(6, .int r45), (5, .int r30), (4, .int i9), (3, .ref ou), (2, .ref mo), (1, .ref x), (0, .ref b)]) hx hb d_La_law_856 hl (by decide) rfl (fun ls hl => ?_)
  refine lv_goto (tgt := 861) hx hb d_La_law_858 (by decide) ?_
  exact K τ L h31 h46 H47 locs ls ((cs + 1) + 0) ((ss + 6) + 0) ⟨hQ, hX, T_ou, hM1, by omega, by omega⟩ (lv_sub hl [2, 3, 4, 5, 6] rfl)
