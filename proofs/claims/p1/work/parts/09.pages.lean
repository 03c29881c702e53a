set_option maxRecDepth 100000 in
theorem mw_106 : Cond.code y_No_identifierLength b_No_identifierLength 1 (some .int) ∈ lw_g := lw_gin (List.mem_append_right _ (List.mem_of_getElem? (i := 467) rfl)) (by decide +kernel)
set_option maxRecDepth 100000 in
theorem mw_107 : Cond.methodLink R_Pg 124 y_No_identifierLength ∈ lw_g := lw_gin (List.mem_append_right _ (List.mem_of_getElem? (i := 549) rfl)) (by decide +kernel)
set_option maxRecDepth 100000 in
theorem mw_108 : Cond.instanceMethod y_No_identifierLength ∈ lw_g := lw_gin (List.mem_append_right _ (List.mem_of_getElem? (i := 465) rfl)) (by decide +kernel)
set_option maxRecDepth 100000 in
theorem mw_109 : Cond.selects R_No y_No_identifierLength y_No_identifierLength ∈ lw_g := lw_gin (List.mem_append_right _ (List.mem_of_getElem? (i := 466) rfl)) (by decide +kernel)
set_option maxRecDepth 100000 in
theorem mw_110 : Cond.fieldLink R_Pg 70 "WriteOnceDisc$Node" "parent" "LWriteOnceDisc$Node;" ∈ lw_g := lw_gin (List.mem_append_right _ (List.mem_of_getElem? (i := 97) rfl)) (by decide +kernel)
set_option maxRecDepth 100000 in
theorem mw_111 : Cond.fieldLink R_Pg 114 "WriteOnceDisc$Node" "sector" "I" ∈ lw_g := lw_gin (List.mem_append_right _ (List.mem_of_getElem? (i := 127) rfl)) (by decide +kernel)
set_option maxRecDepth 100000 in
theorem mw_112 : Cond.code y_Pg_putHigh b_Pg_putHigh 5 none ∈ lw_g := lw_gin (List.mem_append_right _ (List.mem_of_getElem? (i := 544) rfl)) (by decide +kernel)
set_option maxRecDepth 100000 in
theorem mw_113 : Cond.methodLink R_Pg 63 y_Pg_putHigh ∈ lw_g := lw_gin (List.mem_append_right _ (List.mem_of_getElem? (i := 541) rfl)) (by decide +kernel)
set_option maxRecDepth 100000 in
theorem mw_114 : Cond.instanceMethod y_Pg_putHigh ∈ lw_g := lw_gin (List.mem_append_right _ (List.mem_of_getElem? (i := 542) rfl)) (by decide +kernel)
set_option maxRecDepth 100000 in
theorem mw_115 : Cond.selects R_Pg y_Pg_putHigh y_Pg_putHigh ∈ lw_g := lw_gin (List.mem_append_right _ (List.mem_of_getElem? (i := 543) rfl)) (by decide +kernel)
set_option maxRecDepth 100000 in
theorem mw_116 : Cond.code y_Pg_putIdentifier b_Pg_putIdentifier 4 none ∈ lw_g := lw_gin (List.mem_append_right _ (List.mem_of_getElem? (i := 548) rfl)) (by decide +kernel)
set_option maxRecDepth 100000 in
theorem mw_117 : Cond.methodLink R_Pg 117 y_Pg_putIdentifier ∈ lw_g := lw_gin (List.mem_append_right _ (List.mem_of_getElem? (i := 545) rfl)) (by decide +kernel)
set_option maxRecDepth 100000 in
theorem mw_118 : Cond.instanceMethod y_Pg_putIdentifier ∈ lw_g := lw_gin (List.mem_append_right _ (List.mem_of_getElem? (i := 547) rfl)) (by decide +kernel)
set_option maxRecDepth 100000 in
theorem mw_119 : Cond.selects R_Pg y_Pg_putIdentifier y_Pg_putIdentifier ∈ lw_g := lw_gin (List.mem_append_left _ (List.mem_of_getElem? (i := 7) rfl)) (by decide +kernel)
set_option maxRecDepth 100000 in
theorem mw_120 : Cond.code y_Di_evened b_Di_evened 1 (some .int) ∈ lw_g := lw_gin (List.mem_append_right _ (List.mem_of_getElem? (i := 553) rfl)) (by decide +kernel)
set_option maxRecDepth 100000 in
theorem mw_121 : Cond.initialized R_Di ∈ lw_g := lw_gin (List.mem_append_right _ (List.mem_of_getElem? (i := 1) rfl)) (by decide +kernel)
set_option maxRecDepth 100000 in
theorem mw_122 : Cond.static y_Di_evened ∈ lw_g := lw_gin (List.mem_append_right _ (List.mem_of_getElem? (i := 552) rfl)) (by decide +kernel)
set_option maxRecDepth 100000 in
theorem mw_123 : Cond.code y_Pg_putLow b_Pg_putLow 5 none ∈ lw_g := lw_gin (List.mem_append_right _ (List.mem_of_getElem? (i := 540) rfl)) (by decide +kernel)
set_option maxRecDepth 100000 in
theorem mw_124 : Cond.methodLink R_Pg 46 y_Pg_putLow ∈ lw_g := lw_gin (List.mem_append_right _ (List.mem_of_getElem? (i := 537) rfl)) (by decide +kernel)
set_option maxRecDepth 100000 in
theorem mw_125 : Cond.instanceMethod y_Pg_putLow ∈ lw_g := lw_gin (List.mem_append_right _ (List.mem_of_getElem? (i := 538) rfl)) (by decide +kernel)
set_option maxRecDepth 100000 in
theorem mw_126 : Cond.selects R_Pg y_Pg_putLow y_Pg_putLow ∈ lw_g := lw_gin (List.mem_append_right _ (List.mem_of_getElem? (i := 539) rfl)) (by decide +kernel)
set_option maxRecDepth 100000 in
theorem mw_127 : Cond.code y_Pg_putBoth b_Pg_putBoth 5 none ∈ lw_g := lw_gin (List.mem_append_right _ (List.mem_of_getElem? (i := 572) rfl)) (by decide +kernel)
set_option maxRecDepth 100000 in
theorem mw_128 : Cond.methodLink R_Pg 60 y_Pg_putBoth ∈ lw_g := lw_gin (List.mem_append_right _ (List.mem_of_getElem? (i := 569) rfl)) (by decide +kernel)
set_option maxRecDepth 100000 in
theorem mw_129 : Cond.instanceMethod y_Pg_putBoth ∈ lw_g := lw_gin (List.mem_append_right _ (List.mem_of_getElem? (i := 570) rfl)) (by decide +kernel)
set_option maxRecDepth 100000 in
theorem mw_130 : Cond.selects R_Pg y_Pg_putBoth y_Pg_putBoth ∈ lw_g := lw_gin (List.mem_append_right _ (List.mem_of_getElem? (i := 571) rfl)) (by decide +kernel)
set_option maxRecDepth 100000 in
theorem mw_131 : Cond.fieldLink R_Pg 101 "WriteOnceDisc$Node" "isDirectory" "Z" ∈ lw_g := lw_gin (List.mem_append_right _ (List.mem_of_getElem? (i := 103) rfl)) (by decide +kernel)
set_option maxRecDepth 100000 in
theorem mw_132 : Cond.code y_Pg_clear b_Pg_clear 1 none ∈ lw_g := lw_gin (List.mem_append_right _ (List.mem_of_getElem? (i := 403) rfl)) (by decide +kernel)
set_option maxRecDepth 100000 in
theorem mw_133 : Cond.methodLink R_Pg 35 y_Pg_clear ∈ lw_g := lw_gin (List.mem_append_right _ (List.mem_of_getElem? (i := 400) rfl)) (by decide +kernel)
set_option maxRecDepth 100000 in
theorem mw_134 : Cond.instanceMethod y_Pg_clear ∈ lw_g := lw_gin (List.mem_append_right _ (List.mem_of_getElem? (i := 401) rfl)) (by decide +kernel)
set_option maxRecDepth 100000 in
theorem mw_135 : Cond.selects R_Pg y_Pg_clear y_Pg_clear ∈ lw_g := lw_gin (List.mem_append_right _ (List.mem_of_getElem? (i := 402) rfl)) (by decide +kernel)
set_option maxRecDepth 100000 in
theorem mw_136 : Cond.code y_Pg_putText b_Pg_putText 4 none ∈ lw_g := lw_gin (List.mem_append_right _ (List.mem_of_getElem? (i := 566) rfl)) (by decide +kernel)
set_option maxRecDepth 100000 in
theorem mw_137 : Cond.methodLink R_Pg 40 y_Pg_putText ∈ lw_g := lw_gin (List.mem_append_right _ (List.mem_of_getElem? (i := 563) rfl)) (by decide +kernel)
set_option maxRecDepth 100000 in
theorem mw_138 : Cond.instanceMethod y_Pg_putText ∈ lw_g := lw_gin (List.mem_append_right _ (List.mem_of_getElem? (i := 564) rfl)) (by decide +kernel)
set_option maxRecDepth 100000 in
theorem mw_139 : Cond.selects R_Pg y_Pg_putText y_Pg_putText ∈ lw_g := lw_gin (List.mem_append_right _ (List.mem_of_getElem? (i := 565) rfl)) (by decide +kernel)
set_option maxRecDepth 100000 in
theorem mw_140 : Cond.code y_Pg_fillWithStandard b_Pg_fillWithStandard 2 none ∈ lw_g := lw_gin (List.mem_append_right _ (List.mem_of_getElem? (i := 561) rfl)) (by decide +kernel)
set_option maxRecDepth 100000 in
theorem mw_141 : Cond.methodLink R_Pg 50 y_Pg_fillWithStandard ∈ lw_g := lw_gin (List.mem_append_right _ (List.mem_of_getElem? (i := 558) rfl)) (by decide +kernel)
set_option maxRecDepth 100000 in
theorem mw_142 : Cond.instanceMethod y_Pg_fillWithStandard ∈ lw_g := lw_gin (List.mem_append_right _ (List.mem_of_getElem? (i := 559) rfl)) (by decide +kernel)
set_option maxRecDepth 100000 in
theorem mw_143 : Cond.selects R_Pg y_Pg_fillWithStandard y_Pg_fillWithStandard ∈ lw_g := lw_gin (List.mem_append_right _ (List.mem_of_getElem? (i := 560) rfl)) (by decide +kernel)
set_option maxRecDepth 100000 in
theorem mw_144 : Cond.fieldLink R_Pg 54 "WriteOnceDisc$Medium" "sectors" "[LWriteOnceDisc$Sector;" ∈ lw_g := lw_gin (List.mem_append_right _ (List.mem_of_getElem? (i := 226) rfl)) (by decide +kernel)
set_option maxRecDepth 100000 in
theorem mw_145 : Cond.code y_Pg_putRecord b_Pg_putRecord 6 (some .int) ∈ lw_g := lw_gin (List.mem_append_right _ (List.mem_of_getElem? (i := 576) rfl)) (by decide +kernel)
set_option maxRecDepth 100000 in
theorem mw_146 : Cond.methodLink R_Pg 66 y_Pg_putRecord ∈ lw_g := lw_gin (List.mem_append_right _ (List.mem_of_getElem? (i := 573) rfl)) (by decide +kernel)
set_option maxRecDepth 100000 in
theorem mw_147 : Cond.instanceMethod y_Pg_putRecord ∈ lw_g := lw_gin (List.mem_append_right _ (List.mem_of_getElem? (i := 575) rfl)) (by decide +kernel)
set_option maxRecDepth 100000 in
theorem mw_148 : Cond.selects R_Pg y_Pg_putRecord y_Pg_putRecord ∈ lw_g := lw_gin (List.mem_append_left _ (List.mem_of_getElem? (i := 8) rfl)) (by decide +kernel)
set_option maxRecDepth 100000 in
theorem mw_149 : Cond.fieldLink R_Pg 104 "WriteOnceDisc$Node" "numberInPathTable" "I" ∈ lw_g := lw_gin (List.mem_append_right _ (List.mem_of_getElem? (i := 130) rfl)) (by decide +kernel)
set_option maxRecDepth 100000 in
theorem mw_150 : Cond.code y_Pg_putPathEntry b_Pg_putPathEntry 6 (some .int) ∈ lw_g := lw_gin (List.mem_append_right _ (List.mem_of_getElem? (i := 536) rfl)) (by decide +kernel)
set_option maxRecDepth 100000 in
theorem mw_151 : Cond.methodLink R_Pg 107 y_Pg_putPathEntry ∈ lw_g := lw_gin (List.mem_append_right _ (List.mem_of_getElem? (i := 533) rfl)) (by decide +kernel)
set_option maxRecDepth 100000 in
theorem mw_152 : Cond.instanceMethod y_Pg_putPathEntry ∈ lw_g := lw_gin (List.mem_append_right _ (List.mem_of_getElem? (i := 535) rfl)) (by decide +kernel)
set_option maxRecDepth 100000 in
theorem mw_153 : Cond.selects R_Pg y_Pg_putPathEntry y_Pg_putPathEntry ∈ lw_g := lw_gin (List.mem_append_left _ (List.mem_of_getElem? (i := 6) rfl)) (by decide +kernel)
theorem d_Di_evened_0 : decode b_Di_evened 0 = .ok (.iload_n 0, 1) := by decide +kernel
theorem d_Di_evened_1 : decode b_Di_evened 1 = .ok (.iload_n 0, 1) := by decide +kernel
theorem d_Di_evened_2 : decode b_Di_evened 2 = .ok (.iconst 2, 1) := by decide +kernel
theorem d_Di_evened_3 : decode b_Di_evened 3 = .ok (.irem, 1) := by decide +kernel
theorem d_Di_evened_4 : decode b_Di_evened 4 = .ok (.iadd, 1) := by decide +kernel
theorem d_Di_evened_5 : decode b_Di_evened 5 = .ok (.ireturn, 1) := by decide +kernel
theorem d_No_identifierLength_0 : decode b_No_identifierLength 0 = .ok (.aload_n 0, 1) := by decide +kernel
theorem d_No_identifierLength_1 : decode b_No_identifierLength 1 = .ok (.getfield 19, 3) := by decide +kernel
theorem d_No_identifierLength_4 : decode b_No_identifierLength 4 = .ok (.ifCond .eq 10, 3) := by decide +kernel
theorem d_No_identifierLength_7 : decode b_No_identifierLength 7 = .ok (.aload_n 0, 1) := by decide +kernel
theorem d_No_identifierLength_8 : decode b_No_identifierLength 8 = .ok (.getfield 27, 3) := by decide +kernel
theorem d_No_identifierLength_11 : decode b_No_identifierLength 11 = .ok (.goto 13, 3) := by decide +kernel
theorem d_No_identifierLength_24 : decode b_No_identifierLength 24 = .ok (.ireturn, 1) := by decide +kernel
theorem d_No_needsSectors_0 : decode b_No_needsSectors 0 = .ok (.aload_n 0, 1) := by decide +kernel
theorem d_No_needsSectors_1 : decode b_No_needsSectors 1 = .ok (.getfield 19, 3) := by decide +kernel
theorem d_No_needsSectors_4 : decode b_No_needsSectors 4 = .ok (.ifCond .ne 14, 3) := by decide +kernel
theorem d_No_needsSectors_18 : decode b_No_needsSectors 18 = .ok (.iconst 0, 1) := by decide +kernel
theorem d_No_needsSectors_19 : decode b_No_needsSectors 19 = .ok (.ireturn, 1) := by decide +kernel
theorem d_Pg_putIdentifier_0 : decode b_Pg_putIdentifier 0 = .ok (.iconst 0, 1) := by decide +kernel
theorem d_Pg_putIdentifier_1 : decode b_Pg_putIdentifier 1 = .ok (.istore_n 3, 1) := by decide +kernel
theorem d_Pg_putIdentifier_2 : decode b_Pg_putIdentifier 2 = .ok (.iload_n 3, 1) := by decide +kernel
theorem d_Pg_putIdentifier_3 : decode b_Pg_putIdentifier 3 = .ok (.aload_n 2, 1) := by decide +kernel
theorem d_Pg_putIdentifier_4 : decode b_Pg_putIdentifier 4 = .ok (.invokevirtual 124, 3) := by decide +kernel
theorem d_Pg_putIdentifier_7 : decode b_Pg_putIdentifier 7 = .ok (.if_icmp .ge 21, 3) := by decide +kernel
theorem d_Pg_putIdentifier_28 : decode b_Pg_putIdentifier 28 = .ok (.return_, 1) := by decide +kernel
theorem d_Pg_putPathEntry_0 : decode b_Pg_putPathEntry 0 = .ok (.aload_n 2, 1) := by decide +kernel
theorem d_Pg_putPathEntry_1 : decode b_Pg_putPathEntry 1 = .ok (.getfield 70, 3) := by decide +kernel
theorem d_Pg_putPathEntry_4 : decode b_Pg_putPathEntry 4 = .ok (.ifnonnull 7, 3) := by decide +kernel
theorem d_Pg_putPathEntry_7 : decode b_Pg_putPathEntry 7 = .ok (.iconst 1, 1) := by decide +kernel
theorem d_Pg_putPathEntry_8 : decode b_Pg_putPathEntry 8 = .ok (.goto 10, 3) := by decide +kernel
theorem d_Pg_putPathEntry_18 : decode b_Pg_putPathEntry 18 = .ok (.istore 4, 2) := by decide +kernel
theorem d_Pg_putPathEntry_20 : decode b_Pg_putPathEntry 20 = .ok (.aload_n 2, 1) := by decide +kernel
theorem d_Pg_putPathEntry_21 : decode b_Pg_putPathEntry 21 = .ok (.getfield 70, 3) := by decide +kernel
theorem d_Pg_putPathEntry_24 : decode b_Pg_putPathEntry 24 = .ok (.ifnonnull 7, 3) := by decide +kernel
theorem d_Pg_putPathEntry_27 : decode b_Pg_putPathEntry 27 = .ok (.iconst 1, 1) := by decide +kernel
theorem d_Pg_putPathEntry_28 : decode b_Pg_putPathEntry 28 = .ok (.goto 7, 3) := by decide +kernel
theorem d_Pg_putPathEntry_35 : decode b_Pg_putPathEntry 35 = .ok (.istore 5, 2) := by decide +kernel
theorem d_Pg_putPathEntry_37 : decode b_Pg_putPathEntry 37 = .ok (.aload_n 0, 1) := by decide +kernel
theorem d_Pg_putPathEntry_38 : decode b_Pg_putPathEntry 38 = .ok (.iload_n 1, 1) := by decide +kernel
theorem d_Pg_putPathEntry_39 : decode b_Pg_putPathEntry 39 = .ok (.iload 5, 2) := by decide +kernel
theorem d_Pg_putPathEntry_41 : decode b_Pg_putPathEntry 41 = .ok (.invokevirtual 31, 3) := by decide +kernel
theorem d_Pg_putPathEntry_44 : decode b_Pg_putPathEntry 44 = .ok (.iload_n 3, 1) := by decide +kernel
theorem d_Pg_putPathEntry_45 : decode b_Pg_putPathEntry 45 = .ok (.ifCond .eq 29, 3) := by decide +kernel
theorem d_Pg_putPathEntry_74 : decode b_Pg_putPathEntry 74 = .ok (.aload_n 0, 1) := by decide +kernel
theorem d_Pg_putPathEntry_75 : decode b_Pg_putPathEntry 75 = .ok (.iload_n 1, 1) := by decide +kernel
theorem d_Pg_putPathEntry_76 : decode b_Pg_putPathEntry 76 = .ok (.iconst 2, 1) := by decide +kernel
theorem d_Pg_putPathEntry_77 : decode b_Pg_putPathEntry 77 = .ok (.iadd, 1) := by decide +kernel
theorem d_Pg_putPathEntry_78 : decode b_Pg_putPathEntry 78 = .ok (.iconst 4, 1) := by decide +kernel
theorem d_Pg_putPathEntry_79 : decode b_Pg_putPathEntry 79 = .ok (.aload_n 2, 1) := by decide +kernel
theorem d_Pg_putPathEntry_80 : decode b_Pg_putPathEntry 80 = .ok (.getfield 114, 3) := by decide +kernel
theorem d_Pg_putPathEntry_83 : decode b_Pg_putPathEntry 83 = .ok (.invokevirtual 63, 3) := by decide +kernel
theorem d_Pg_putPathEntry_86 : decode b_Pg_putPathEntry 86 = .ok (.aload_n 0, 1) := by decide +kernel
theorem d_Pg_putPathEntry_87 : decode b_Pg_putPathEntry 87 = .ok (.iload_n 1, 1) := by decide +kernel
theorem d_Pg_putPathEntry_88 : decode b_Pg_putPathEntry 88 = .ok (.bipush 6, 2) := by decide +kernel
theorem d_Pg_putPathEntry_90 : decode b_Pg_putPathEntry 90 = .ok (.iadd, 1) := by decide +kernel
theorem d_Pg_putPathEntry_91 : decode b_Pg_putPathEntry 91 = .ok (.iconst 2, 1) := by decide +kernel
theorem d_Pg_putPathEntry_92 : decode b_Pg_putPathEntry 92 = .ok (.iload 4, 2) := by decide +kernel
theorem d_Pg_putPathEntry_94 : decode b_Pg_putPathEntry 94 = .ok (.invokevirtual 63, 3) := by decide +kernel
theorem d_Pg_putPathEntry_97 : decode b_Pg_putPathEntry 97 = .ok (.aload_n 0, 1) := by decide +kernel
theorem d_Pg_putPathEntry_98 : decode b_Pg_putPathEntry 98 = .ok (.iload_n 1, 1) := by decide +kernel
theorem d_Pg_putPathEntry_99 : decode b_Pg_putPathEntry 99 = .ok (.bipush 8, 2) := by decide +kernel
theorem d_Pg_putPathEntry_101 : decode b_Pg_putPathEntry 101 = .ok (.iadd, 1) := by decide +kernel
theorem d_Pg_putPathEntry_102 : decode b_Pg_putPathEntry 102 = .ok (.aload_n 2, 1) := by decide +kernel
theorem d_Pg_putPathEntry_103 : decode b_Pg_putPathEntry 103 = .ok (.invokevirtual 117, 3) := by decide +kernel
theorem d_Pg_putPathEntry_106 : decode b_Pg_putPathEntry 106 = .ok (.iload_n 1, 1) := by decide +kernel
theorem d_Pg_putPathEntry_107 : decode b_Pg_putPathEntry 107 = .ok (.bipush 8, 2) := by decide +kernel
theorem d_Pg_putPathEntry_109 : decode b_Pg_putPathEntry 109 = .ok (.iadd, 1) := by decide +kernel
theorem d_Pg_putPathEntry_110 : decode b_Pg_putPathEntry 110 = .ok (.iload 5, 2) := by decide +kernel
theorem d_Pg_putPathEntry_112 : decode b_Pg_putPathEntry 112 = .ok (.invokestatic 121, 3) := by decide +kernel
theorem d_Pg_putPathEntry_115 : decode b_Pg_putPathEntry 115 = .ok (.iadd, 1) := by decide +kernel
theorem d_Pg_putPathEntry_116 : decode b_Pg_putPathEntry 116 = .ok (.ireturn, 1) := by decide +kernel
theorem d_Pg_putPathEntry_48 : decode b_Pg_putPathEntry 48 = .ok (.aload_n 0, 1) := by decide +kernel
theorem d_Pg_putPathEntry_49 : decode b_Pg_putPathEntry 49 = .ok (.iload_n 1, 1) := by decide +kernel
theorem d_Pg_putPathEntry_50 : decode b_Pg_putPathEntry 50 = .ok (.iconst 2, 1) := by decide +kernel
theorem d_Pg_putPathEntry_51 : decode b_Pg_putPathEntry 51 = .ok (.iadd, 1) := by decide +kernel
theorem d_Pg_putPathEntry_52 : decode b_Pg_putPathEntry 52 = .ok (.iconst 4, 1) := by decide +kernel
theorem d_Pg_putPathEntry_53 : decode b_Pg_putPathEntry 53 = .ok (.aload_n 2, 1) := by decide +kernel
theorem d_Pg_putPathEntry_54 : decode b_Pg_putPathEntry 54 = .ok (.getfield 114, 3) := by decide +kernel
theorem d_Pg_putPathEntry_57 : decode b_Pg_putPathEntry 57 = .ok (.invokevirtual 46, 3) := by decide +kernel
theorem d_Pg_putPathEntry_60 : decode b_Pg_putPathEntry 60 = .ok (.aload_n 0, 1) := by decide +kernel
theorem d_Pg_putPathEntry_61 : decode b_Pg_putPathEntry 61 = .ok (.iload_n 1, 1) := by decide +kernel
theorem d_Pg_putPathEntry_62 : decode b_Pg_putPathEntry 62 = .ok (.bipush 6, 2) := by decide +kernel
theorem d_Pg_putPathEntry_64 : decode b_Pg_putPathEntry 64 = .ok (.iadd, 1) := by decide +kernel
theorem d_Pg_putPathEntry_65 : decode b_Pg_putPathEntry 65 = .ok (.iconst 2, 1) := by decide +kernel
theorem d_Pg_putPathEntry_66 : decode b_Pg_putPathEntry 66 = .ok (.iload 4, 2) := by decide +kernel
theorem d_Pg_putPathEntry_68 : decode b_Pg_putPathEntry 68 = .ok (.invokevirtual 46, 3) := by decide +kernel
theorem d_Pg_putPathEntry_71 : decode b_Pg_putPathEntry 71 = .ok (.goto 26, 3) := by decide +kernel
theorem d_Pg_putRecord_0 : decode b_Pg_putRecord 0 = .ok (.iload_n 3, 1) := by decide +kernel
theorem d_Pg_putRecord_1 : decode b_Pg_putRecord 1 = .ok (.iconst (-1), 1) := by decide +kernel
theorem d_Pg_putRecord_2 : decode b_Pg_putRecord 2 = .ok (.if_icmp .ne 10, 3) := by decide +kernel
theorem d_Pg_putRecord_12 : decode b_Pg_putRecord 12 = .ok (.iconst 1, 1) := by decide +kernel
theorem d_Pg_putRecord_13 : decode b_Pg_putRecord 13 = .ok (.istore 4, 2) := by decide +kernel
theorem d_Pg_putRecord_15 : decode b_Pg_putRecord 15 = .ok (.bipush 33, 2) := by decide +kernel
theorem d_Pg_putRecord_17 : decode b_Pg_putRecord 17 = .ok (.iload 4, 2) := by decide +kernel
theorem d_Pg_putRecord_19 : decode b_Pg_putRecord 19 = .ok (.iadd, 1) := by decide +kernel
theorem d_Pg_putRecord_20 : decode b_Pg_putRecord 20 = .ok (.invokestatic 121, 3) := by decide +kernel
theorem d_Pg_putRecord_23 : decode b_Pg_putRecord 23 = .ok (.istore 5, 2) := by decide +kernel
theorem d_Pg_putRecord_25 : decode b_Pg_putRecord 25 = .ok (.aload_n 0, 1) := by decide +kernel
theorem d_Pg_putRecord_26 : decode b_Pg_putRecord 26 = .ok (.iload_n 1, 1) := by decide +kernel
theorem d_Pg_putRecord_27 : decode b_Pg_putRecord 27 = .ok (.iload 5, 2) := by decide +kernel
theorem d_Pg_putRecord_29 : decode b_Pg_putRecord 29 = .ok (.invokevirtual 31, 3) := by decide +kernel
theorem d_Pg_putRecord_32 : decode b_Pg_putRecord 32 = .ok (.aload_n 0, 1) := by decide +kernel
theorem d_Pg_putRecord_33 : decode b_Pg_putRecord 33 = .ok (.iload_n 1, 1) := by decide +kernel
theorem d_Pg_putRecord_34 : decode b_Pg_putRecord 34 = .ok (.iconst 2, 1) := by decide +kernel
theorem d_Pg_putRecord_35 : decode b_Pg_putRecord 35 = .ok (.iadd, 1) := by decide +kernel
theorem d_Pg_putRecord_36 : decode b_Pg_putRecord 36 = .ok (.iconst 4, 1) := by decide +kernel
theorem d_Pg_putRecord_37 : decode b_Pg_putRecord 37 = .ok (.aload_n 2, 1) := by decide +kernel
theorem d_Pg_putRecord_38 : decode b_Pg_putRecord 38 = .ok (.getfield 114, 3) := by decide +kernel
theorem d_Pg_putRecord_41 : decode b_Pg_putRecord 41 = .ok (.invokevirtual 60, 3) := by decide +kernel
theorem d_Pg_putRecord_44 : decode b_Pg_putRecord 44 = .ok (.aload_n 0, 1) := by decide +kernel
theorem d_Pg_putRecord_45 : decode b_Pg_putRecord 45 = .ok (.iload_n 1, 1) := by decide +kernel
theorem d_Pg_putRecord_46 : decode b_Pg_putRecord 46 = .ok (.bipush 10, 2) := by decide +kernel
theorem d_Pg_putRecord_48 : decode b_Pg_putRecord 48 = .ok (.iadd, 1) := by decide +kernel
theorem d_Pg_putRecord_49 : decode b_Pg_putRecord 49 = .ok (.iconst 4, 1) := by decide +kernel
theorem d_Pg_putRecord_50 : decode b_Pg_putRecord 50 = .ok (.aload_n 2, 1) := by decide +kernel
theorem d_Pg_putRecord_51 : decode b_Pg_putRecord 51 = .ok (.getfield 101, 3) := by decide +kernel
theorem d_Pg_putRecord_54 : decode b_Pg_putRecord 54 = .ok (.ifCond .eq 9, 3) := by decide +kernel
theorem d_Pg_putRecord_57 : decode b_Pg_putRecord 57 = .ok (.sipush 2048, 3) := by decide +kernel
theorem d_Pg_putRecord_60 : decode b_Pg_putRecord 60 = .ok (.goto 7, 3) := by decide +kernel
theorem d_Pg_putRecord_67 : decode b_Pg_putRecord 67 = .ok (.invokevirtual 60, 3) := by decide +kernel
theorem d_Pg_putRecord_70 : decode b_Pg_putRecord 70 = .ok (.aload_n 0, 1) := by decide +kernel
theorem d_Pg_putRecord_71 : decode b_Pg_putRecord 71 = .ok (.iload_n 1, 1) := by decide +kernel
theorem d_Pg_putRecord_72 : decode b_Pg_putRecord 72 = .ok (.bipush 25, 2) := by decide +kernel
theorem d_Pg_putRecord_74 : decode b_Pg_putRecord 74 = .ok (.iadd, 1) := by decide +kernel
theorem d_Pg_putRecord_75 : decode b_Pg_putRecord 75 = .ok (.aload_n 2, 1) := by decide +kernel
theorem d_Pg_putRecord_76 : decode b_Pg_putRecord 76 = .ok (.getfield 101, 3) := by decide +kernel
theorem d_Pg_putRecord_79 : decode b_Pg_putRecord 79 = .ok (.ifCond .eq 7, 3) := by decide +kernel
theorem d_Pg_putRecord_82 : decode b_Pg_putRecord 82 = .ok (.iconst 2, 1) := by decide +kernel
theorem d_Pg_putRecord_83 : decode b_Pg_putRecord 83 = .ok (.goto 4, 3) := by decide +kernel
theorem d_Pg_putRecord_87 : decode b_Pg_putRecord 87 = .ok (.invokevirtual 31, 3) := by decide +kernel
theorem d_Pg_putRecord_90 : decode b_Pg_putRecord 90 = .ok (.aload_n 0, 1) := by decide +kernel
theorem d_Pg_putRecord_91 : decode b_Pg_putRecord 91 = .ok (.iload_n 1, 1) := by decide +kernel
theorem d_Pg_putRecord_92 : decode b_Pg_putRecord 92 = .ok (.bipush 28, 2) := by decide +kernel
theorem d_Pg_putRecord_94 : decode b_Pg_putRecord 94 = .ok (.iadd, 1) := by decide +kernel
theorem d_Pg_putRecord_95 : decode b_Pg_putRecord 95 = .ok (.iconst 2, 1) := by decide +kernel
theorem d_Pg_putRecord_96 : decode b_Pg_putRecord 96 = .ok (.iconst 1, 1) := by decide +kernel
theorem d_Pg_putRecord_97 : decode b_Pg_putRecord 97 = .ok (.invokevirtual 60, 3) := by decide +kernel
theorem d_Pg_putRecord_100 : decode b_Pg_putRecord 100 = .ok (.aload_n 0, 1) := by decide +kernel
theorem d_Pg_putRecord_101 : decode b_Pg_putRecord 101 = .ok (.iload_n 1, 1) := by decide +kernel
theorem d_Pg_putRecord_102 : decode b_Pg_putRecord 102 = .ok (.bipush 32, 2) := by decide +kernel
theorem d_Pg_putRecord_104 : decode b_Pg_putRecord 104 = .ok (.iadd, 1) := by decide +kernel
theorem d_Pg_putRecord_105 : decode b_Pg_putRecord 105 = .ok (.iload 4, 2) := by decide +kernel
theorem d_Pg_putRecord_107 : decode b_Pg_putRecord 107 = .ok (.invokevirtual 31, 3) := by decide +kernel
theorem d_Pg_putRecord_110 : decode b_Pg_putRecord 110 = .ok (.iload_n 3, 1) := by decide +kernel
theorem d_Pg_putRecord_111 : decode b_Pg_putRecord 111 = .ok (.iconst (-1), 1) := by decide +kernel
theorem d_Pg_putRecord_112 : decode b_Pg_putRecord 112 = .ok (.if_icmp .ne 15, 3) := by decide +kernel
theorem d_Pg_putRecord_127 : decode b_Pg_putRecord 127 = .ok (.aload_n 0, 1) := by decide +kernel
theorem d_Pg_putRecord_128 : decode b_Pg_putRecord 128 = .ok (.iload_n 1, 1) := by decide +kernel
theorem d_Pg_putRecord_129 : decode b_Pg_putRecord 129 = .ok (.bipush 33, 2) := by decide +kernel
theorem d_Pg_putRecord_131 : decode b_Pg_putRecord 131 = .ok (.iadd, 1) := by decide +kernel
theorem d_Pg_putRecord_132 : decode b_Pg_putRecord 132 = .ok (.iload_n 3, 1) := by decide +kernel
theorem d_Pg_putRecord_133 : decode b_Pg_putRecord 133 = .ok (.invokevirtual 31, 3) := by decide +kernel
theorem d_Pg_putRecord_136 : decode b_Pg_putRecord 136 = .ok (.iload_n 1, 1) := by decide +kernel
theorem d_Pg_putRecord_137 : decode b_Pg_putRecord 137 = .ok (.iload 5, 2) := by decide +kernel
theorem d_Pg_putRecord_139 : decode b_Pg_putRecord 139 = .ok (.iadd, 1) := by decide +kernel
theorem d_Pg_putRecord_140 : decode b_Pg_putRecord 140 = .ok (.ireturn, 1) := by decide +kernel
theorem d_Pg_fillWithStandard_0 : decode b_Pg_fillWithStandard 0 = .ok (.aload_n 0, 1) := by decide +kernel
theorem d_Pg_fillWithStandard_1 : decode b_Pg_fillWithStandard 1 = .ok (.invokevirtual 35, 3) := by decide +kernel
theorem d_Pg_fillWithStandard_4 : decode b_Pg_fillWithStandard 4 = .ok (.aload_n 0, 1) := by decide +kernel
theorem d_Pg_fillWithStandard_5 : decode b_Pg_fillWithStandard 5 = .ok (.iconst 0, 1) := by decide +kernel
theorem d_Pg_fillWithStandard_6 : decode b_Pg_fillWithStandard 6 = .ok (.iload_n 1, 1) := by decide +kernel
theorem d_Pg_fillWithStandard_7 : decode b_Pg_fillWithStandard 7 = .ok (.invokevirtual 31, 3) := by decide +kernel
theorem d_Pg_fillWithStandard_10 : decode b_Pg_fillWithStandard 10 = .ok (.aload_n 0, 1) := by decide +kernel
theorem d_Pg_fillWithStandard_11 : decode b_Pg_fillWithStandard 11 = .ok (.iconst 1, 1) := by decide +kernel
theorem d_Pg_fillWithStandard_12 : decode b_Pg_fillWithStandard 12 = .ok (.ldc 38, 2) := by decide +kernel
theorem d_Pg_fillWithStandard_14 : decode b_Pg_fillWithStandard 14 = .ok (.invokevirtual 40, 3) := by decide +kernel
theorem d_Pg_fillWithStandard_17 : decode b_Pg_fillWithStandard 17 = .ok (.aload_n 0, 1) := by decide +kernel
theorem d_Pg_fillWithStandard_18 : decode b_Pg_fillWithStandard 18 = .ok (.bipush 6, 2) := by decide +kernel
theorem d_Pg_fillWithStandard_20 : decode b_Pg_fillWithStandard 20 = .ok (.iconst 1, 1) := by decide +kernel
theorem d_Pg_fillWithStandard_21 : decode b_Pg_fillWithStandard 21 = .ok (.invokevirtual 31, 3) := by decide +kernel
theorem d_Pg_fillWithStandard_24 : decode b_Pg_fillWithStandard 24 = .ok (.return_, 1) := by decide +kernel
theorem d_Pg_fillWithMark_0 : decode b_Pg_fillWithMark 0 = .ok (.aload_n 0, 1) := by decide +kernel
theorem d_Pg_fillWithMark_1 : decode b_Pg_fillWithMark 1 = .ok (.invokevirtual 35, 3) := by decide +kernel
theorem d_Pg_fillWithMark_4 : decode b_Pg_fillWithMark 4 = .ok (.aload_n 0, 1) := by decide +kernel
theorem d_Pg_fillWithMark_5 : decode b_Pg_fillWithMark 5 = .ok (.iconst 0, 1) := by decide +kernel
theorem d_Pg_fillWithMark_6 : decode b_Pg_fillWithMark 6 = .ok (.ldc 44, 2) := by decide +kernel
theorem d_Pg_fillWithMark_8 : decode b_Pg_fillWithMark 8 = .ok (.invokevirtual 40, 3) := by decide +kernel
theorem d_Pg_fillWithMark_11 : decode b_Pg_fillWithMark 11 = .ok (.aload_n 0, 1) := by decide +kernel
theorem d_Pg_fillWithMark_12 : decode b_Pg_fillWithMark 12 = .ok (.iconst 4, 1) := by decide +kernel
theorem d_Pg_fillWithMark_13 : decode b_Pg_fillWithMark 13 = .ok (.iconst 4, 1) := by decide +kernel
theorem d_Pg_fillWithMark_14 : decode b_Pg_fillWithMark 14 = .ok (.iload_n 1, 1) := by decide +kernel
theorem d_Pg_fillWithMark_15 : decode b_Pg_fillWithMark 15 = .ok (.invokevirtual 46, 3) := by decide +kernel
theorem d_Pg_fillWithMark_18 : decode b_Pg_fillWithMark 18 = .ok (.aload_n 0, 1) := by decide +kernel
theorem d_Pg_fillWithMark_19 : decode b_Pg_fillWithMark 19 = .ok (.bipush 8, 2) := by decide +kernel
theorem d_Pg_fillWithMark_21 : decode b_Pg_fillWithMark 21 = .ok (.iconst 4, 1) := by decide +kernel
theorem d_Pg_fillWithMark_22 : decode b_Pg_fillWithMark 22 = .ok (.iload_n 2, 1) := by decide +kernel
theorem d_Pg_fillWithMark_23 : decode b_Pg_fillWithMark 23 = .ok (.invokevirtual 46, 3) := by decide +kernel
theorem d_Pg_fillWithMark_26 : decode b_Pg_fillWithMark 26 = .ok (.return_, 1) := by decide +kernel
theorem d_Pg_fillWithDescriptor_0 : decode b_Pg_fillWithDescriptor 0 = .ok (.aload_n 0, 1) := by decide +kernel
theorem d_Pg_fillWithDescriptor_1 : decode b_Pg_fillWithDescriptor 1 = .ok (.iconst 1, 1) := by decide +kernel
theorem d_Pg_fillWithDescriptor_2 : decode b_Pg_fillWithDescriptor 2 = .ok (.invokevirtual 50, 3) := by decide +kernel
theorem d_Pg_fillWithDescriptor_5 : decode b_Pg_fillWithDescriptor 5 = .ok (.aload_n 0, 1) := by decide +kernel
theorem d_Pg_fillWithDescriptor_6 : decode b_Pg_fillWithDescriptor 6 = .ok (.bipush 80, 2) := by decide +kernel
theorem d_Pg_fillWithDescriptor_8 : decode b_Pg_fillWithDescriptor 8 = .ok (.iconst 4, 1) := by decide +kernel
theorem d_Pg_fillWithDescriptor_9 : decode b_Pg_fillWithDescriptor 9 = .ok (.aload_n 1, 1) := by decide +kernel
theorem d_Pg_fillWithDescriptor_10 : decode b_Pg_fillWithDescriptor 10 = .ok (.getfield 54, 3) := by decide +kernel
theorem d_Pg_fillWithDescriptor_13 : decode b_Pg_fillWithDescriptor 13 = .ok (.arraylength, 1) := by decide +kernel
theorem d_Pg_fillWithDescriptor_14 : decode b_Pg_fillWithDescriptor 14 = .ok (.invokevirtual 60, 3) := by decide +kernel
theorem d_Pg_fillWithDescriptor_17 : decode b_Pg_fillWithDescriptor 17 = .ok (.aload_n 0, 1) := by decide +kernel
theorem d_Pg_fillWithDescriptor_18 : decode b_Pg_fillWithDescriptor 18 = .ok (.sipush 128, 3) := by decide +kernel
theorem d_Pg_fillWithDescriptor_21 : decode b_Pg_fillWithDescriptor 21 = .ok (.iconst 2, 1) := by decide +kernel
theorem d_Pg_fillWithDescriptor_22 : decode b_Pg_fillWithDescriptor 22 = .ok (.sipush 2048, 3) := by decide +kernel
theorem d_Pg_fillWithDescriptor_25 : decode b_Pg_fillWithDescriptor 25 = .ok (.invokevirtual 60, 3) := by decide +kernel
theorem d_Pg_fillWithDescriptor_28 : decode b_Pg_fillWithDescriptor 28 = .ok (.aload_n 0, 1) := by decide +kernel
theorem d_Pg_fillWithDescriptor_29 : decode b_Pg_fillWithDescriptor 29 = .ok (.sipush 132, 3) := by decide +kernel
theorem d_Pg_fillWithDescriptor_32 : decode b_Pg_fillWithDescriptor 32 = .ok (.iconst 4, 1) := by decide +kernel
theorem d_Pg_fillWithDescriptor_33 : decode b_Pg_fillWithDescriptor 33 = .ok (.iload_n 3, 1) := by decide +kernel
theorem d_Pg_fillWithDescriptor_34 : decode b_Pg_fillWithDescriptor 34 = .ok (.invokevirtual 60, 3) := by decide +kernel
theorem d_Pg_fillWithDescriptor_37 : decode b_Pg_fillWithDescriptor 37 = .ok (.aload_n 0, 1) := by decide +kernel
theorem d_Pg_fillWithDescriptor_38 : decode b_Pg_fillWithDescriptor 38 = .ok (.sipush 140, 3) := by decide +kernel
theorem d_Pg_fillWithDescriptor_41 : decode b_Pg_fillWithDescriptor 41 = .ok (.iconst 4, 1) := by decide +kernel
theorem d_Pg_fillWithDescriptor_42 : decode b_Pg_fillWithDescriptor 42 = .ok (.iload_n 2, 1) := by decide +kernel
theorem d_Pg_fillWithDescriptor_43 : decode b_Pg_fillWithDescriptor 43 = .ok (.bipush 18, 2) := by decide +kernel
theorem d_Pg_fillWithDescriptor_45 : decode b_Pg_fillWithDescriptor 45 = .ok (.iadd, 1) := by decide +kernel
theorem d_Pg_fillWithDescriptor_46 : decode b_Pg_fillWithDescriptor 46 = .ok (.invokevirtual 46, 3) := by decide +kernel
theorem d_Pg_fillWithDescriptor_49 : decode b_Pg_fillWithDescriptor 49 = .ok (.aload_n 0, 1) := by decide +kernel
theorem d_Pg_fillWithDescriptor_50 : decode b_Pg_fillWithDescriptor 50 = .ok (.sipush 148, 3) := by decide +kernel
theorem d_Pg_fillWithDescriptor_53 : decode b_Pg_fillWithDescriptor 53 = .ok (.iconst 4, 1) := by decide +kernel
theorem d_Pg_fillWithDescriptor_54 : decode b_Pg_fillWithDescriptor 54 = .ok (.iload_n 2, 1) := by decide +kernel
theorem d_Pg_fillWithDescriptor_55 : decode b_Pg_fillWithDescriptor 55 = .ok (.bipush 19, 2) := by decide +kernel
theorem d_Pg_fillWithDescriptor_57 : decode b_Pg_fillWithDescriptor 57 = .ok (.iadd, 1) := by decide +kernel
theorem d_Pg_fillWithDescriptor_58 : decode b_Pg_fillWithDescriptor 58 = .ok (.invokevirtual 63, 3) := by decide +kernel
theorem d_Pg_fillWithDescriptor_61 : decode b_Pg_fillWithDescriptor 61 = .ok (.aload_n 0, 1) := by decide +kernel
theorem d_Pg_fillWithDescriptor_62 : decode b_Pg_fillWithDescriptor 62 = .ok (.sipush 156, 3) := by decide +kernel
theorem d_Pg_fillWithDescriptor_65 : decode b_Pg_fillWithDescriptor 65 = .ok (.aload 4, 2) := by decide +kernel
theorem d_Pg_fillWithDescriptor_67 : decode b_Pg_fillWithDescriptor 67 = .ok (.iconst 0, 1) := by decide +kernel
theorem d_Pg_fillWithDescriptor_68 : decode b_Pg_fillWithDescriptor 68 = .ok (.invokevirtual 66, 3) := by decide +kernel
theorem d_Pg_fillWithDescriptor_71 : decode b_Pg_fillWithDescriptor 71 = .ok (.pop, 1) := by decide +kernel
theorem d_Pg_fillWithDescriptor_72 : decode b_Pg_fillWithDescriptor 72 = .ok (.return_, 1) := by decide +kernel
theorem d_Pg_fillWithPathTable_0 : decode b_Pg_fillWithPathTable 0 = .ok (.aload_n 0, 1) := by decide +kernel
theorem d_Pg_fillWithPathTable_1 : decode b_Pg_fillWithPathTable 1 = .ok (.invokevirtual 35, 3) := by decide +kernel
theorem d_Pg_fillWithPathTable_4 : decode b_Pg_fillWithPathTable 4 = .ok (.iconst 0, 1) := by decide +kernel
theorem d_Pg_fillWithPathTable_5 : decode b_Pg_fillWithPathTable 5 = .ok (.istore 4, 2) := by decide +kernel
theorem d_Pg_fillWithPathTable_7 : decode b_Pg_fillWithPathTable 7 = .ok (.iconst 0, 1) := by decide +kernel
theorem d_Pg_fillWithPathTable_8 : decode b_Pg_fillWithPathTable 8 = .ok (.istore 5, 2) := by decide +kernel
theorem d_Pg_fillWithPathTable_10 : decode b_Pg_fillWithPathTable 10 = .ok (.iconst 0, 1) := by decide +kernel
theorem d_Pg_fillWithPathTable_11 : decode b_Pg_fillWithPathTable 11 = .ok (.istore 6, 2) := by decide +kernel
theorem d_Pg_fillWithPathTable_13 : decode b_Pg_fillWithPathTable 13 = .ok (.iload 6, 2) := by decide +kernel
theorem d_Pg_fillWithPathTable_15 : decode b_Pg_fillWithPathTable 15 = .ok (.iload_n 2, 1) := by decide +kernel
theorem d_Pg_fillWithPathTable_16 : decode b_Pg_fillWithPathTable 16 = .ok (.if_icmp .ge 51, 3) := by decide +kernel
theorem d_Pg_fillWithPathTable_19 : decode b_Pg_fillWithPathTable 19 = .ok (.iload 6, 2) := by decide +kernel
theorem d_Pg_fillWithPathTable_21 : decode b_Pg_fillWithPathTable 21 = .ok (.aload_n 1, 1) := by decide +kernel
theorem d_Pg_fillWithPathTable_22 : decode b_Pg_fillWithPathTable 22 = .ok (.arraylength, 1) := by decide +kernel
theorem d_Pg_fillWithPathTable_23 : decode b_Pg_fillWithPathTable 23 = .ok (.if_icmp .ge 44, 3) := by decide +kernel
theorem d_Pg_fillWithPathTable_26 : decode b_Pg_fillWithPathTable 26 = .ok (.aload_n 1, 1) := by decide +kernel
theorem d_Pg_fillWithPathTable_27 : decode b_Pg_fillWithPathTable 27 = .ok (.iload 6, 2) := by decide +kernel
theorem d_Pg_fillWithPathTable_29 : decode b_Pg_fillWithPathTable 29 = .ok (.aaload, 1) := by decide +kernel
theorem d_Pg_fillWithPathTable_30 : decode b_Pg_fillWithPathTable 30 = .ok (.getfield 101, 3) := by decide +kernel
theorem d_Pg_fillWithPathTable_33 : decode b_Pg_fillWithPathTable 33 = .ok (.ifCond .eq 28, 3) := by decide +kernel
theorem d_Pg_fillWithPathTable_36 : decode b_Pg_fillWithPathTable 36 = .ok (.iinc 5 1, 3) := by decide +kernel
theorem d_Pg_fillWithPathTable_39 : decode b_Pg_fillWithPathTable 39 = .ok (.aload_n 1, 1) := by decide +kernel
theorem d_Pg_fillWithPathTable_40 : decode b_Pg_fillWithPathTable 40 = .ok (.iload 6, 2) := by decide +kernel
theorem d_Pg_fillWithPathTable_42 : decode b_Pg_fillWithPathTable 42 = .ok (.aaload, 1) := by decide +kernel
theorem d_Pg_fillWithPathTable_43 : decode b_Pg_fillWithPathTable 43 = .ok (.iload 5, 2) := by decide +kernel
theorem d_Pg_fillWithPathTable_45 : decode b_Pg_fillWithPathTable 45 = .ok (.putfield 104, 3) := by decide +kernel
theorem d_Pg_fillWithPathTable_48 : decode b_Pg_fillWithPathTable 48 = .ok (.aload_n 0, 1) := by decide +kernel
theorem d_Pg_fillWithPathTable_49 : decode b_Pg_fillWithPathTable 49 = .ok (.iload 4, 2) := by decide +kernel
theorem d_Pg_fillWithPathTable_51 : decode b_Pg_fillWithPathTable 51 = .ok (.aload_n 1, 1) := by decide +kernel
theorem d_Pg_fillWithPathTable_52 : decode b_Pg_fillWithPathTable 52 = .ok (.iload 6, 2) := by decide +kernel
theorem d_Pg_fillWithPathTable_54 : decode b_Pg_fillWithPathTable 54 = .ok (.aaload, 1) := by decide +kernel
theorem d_Pg_fillWithPathTable_55 : decode b_Pg_fillWithPathTable 55 = .ok (.iload_n 3, 1) := by decide +kernel
theorem d_Pg_fillWithPathTable_56 : decode b_Pg_fillWithPathTable 56 = .ok (.invokevirtual 107, 3) := by decide +kernel
theorem d_Pg_fillWithPathTable_59 : decode b_Pg_fillWithPathTable 59 = .ok (.istore 4, 2) := by decide +kernel
theorem d_Pg_fillWithPathTable_61 : decode b_Pg_fillWithPathTable 61 = .ok (.iinc 6 1, 3) := by decide +kernel
theorem d_Pg_fillWithPathTable_64 : decode b_Pg_fillWithPathTable 64 = .ok (.goto (-51), 3) := by decide +kernel
theorem d_Pg_fillWithPathTable_67 : decode b_Pg_fillWithPathTable 67 = .ok (.iload 4, 2) := by decide +kernel
theorem d_Pg_fillWithPathTable_69 : decode b_Pg_fillWithPathTable 69 = .ok (.ireturn, 1) := by decide +kernel
theorem d_Pg_fillWithDirectory_0 : decode b_Pg_fillWithDirectory 0 = .ok (.aload_n 0, 1) := by decide +kernel
theorem d_Pg_fillWithDirectory_1 : decode b_Pg_fillWithDirectory 1 = .ok (.invokevirtual 35, 3) := by decide +kernel
theorem d_Pg_fillWithDirectory_4 : decode b_Pg_fillWithDirectory 4 = .ok (.aload_n 0, 1) := by decide +kernel
theorem d_Pg_fillWithDirectory_5 : decode b_Pg_fillWithDirectory 5 = .ok (.iconst 0, 1) := by decide +kernel
theorem d_Pg_fillWithDirectory_6 : decode b_Pg_fillWithDirectory 6 = .ok (.aload_n 1, 1) := by decide +kernel
theorem d_Pg_fillWithDirectory_7 : decode b_Pg_fillWithDirectory 7 = .ok (.iconst 0, 1) := by decide +kernel
theorem d_Pg_fillWithDirectory_8 : decode b_Pg_fillWithDirectory 8 = .ok (.invokevirtual 66, 3) := by decide +kernel
theorem d_Pg_fillWithDirectory_11 : decode b_Pg_fillWithDirectory 11 = .ok (.istore 4, 2) := by decide +kernel
theorem d_Pg_fillWithDirectory_13 : decode b_Pg_fillWithDirectory 13 = .ok (.aload_n 0, 1) := by decide +kernel
theorem d_Pg_fillWithDirectory_14 : decode b_Pg_fillWithDirectory 14 = .ok (.iload 4, 2) := by decide +kernel
theorem d_Pg_fillWithDirectory_16 : decode b_Pg_fillWithDirectory 16 = .ok (.aload_n 1, 1) := by decide +kernel
theorem d_Pg_fillWithDirectory_17 : decode b_Pg_fillWithDirectory 17 = .ok (.getfield 70, 3) := by decide +kernel
theorem d_Pg_fillWithDirectory_20 : decode b_Pg_fillWithDirectory 20 = .ok (.ifnonnull 7, 3) := by decide +kernel
theorem d_Pg_fillWithDirectory_23 : decode b_Pg_fillWithDirectory 23 = .ok (.aload_n 1, 1) := by decide +kernel
theorem d_Pg_fillWithDirectory_24 : decode b_Pg_fillWithDirectory 24 = .ok (.goto 7, 3) := by decide +kernel
theorem d_Pg_fillWithDirectory_31 : decode b_Pg_fillWithDirectory 31 = .ok (.iconst 1, 1) := by decide +kernel
theorem d_Pg_fillWithDirectory_32 : decode b_Pg_fillWithDirectory 32 = .ok (.invokevirtual 66, 3) := by decide +kernel
theorem d_Pg_fillWithDirectory_35 : decode b_Pg_fillWithDirectory 35 = .ok (.istore 4, 2) := by decide +kernel
theorem d_Pg_fillWithDirectory_37 : decode b_Pg_fillWithDirectory 37 = .ok (.iconst 0, 1) := by decide +kernel
theorem d_Pg_fillWithDirectory_38 : decode b_Pg_fillWithDirectory 38 = .ok (.istore 5, 2) := by decide +kernel
theorem d_Pg_fillWithDirectory_40 : decode b_Pg_fillWithDirectory 40 = .ok (.iload 5, 2) := by decide +kernel
theorem d_Pg_fillWithDirectory_42 : decode b_Pg_fillWithDirectory 42 = .ok (.iload_n 3, 1) := by decide +kernel
theorem d_Pg_fillWithDirectory_43 : decode b_Pg_fillWithDirectory 43 = .ok (.if_icmp .ge 40, 3) := by decide +kernel
theorem d_Pg_fillWithDirectory_46 : decode b_Pg_fillWithDirectory 46 = .ok (.iload 5, 2) := by decide +kernel
theorem d_Pg_fillWithDirectory_48 : decode b_Pg_fillWithDirectory 48 = .ok (.aload_n 2, 1) := by decide +kernel
theorem d_Pg_fillWithDirectory_49 : decode b_Pg_fillWithDirectory 49 = .ok (.arraylength, 1) := by decide +kernel
theorem d_Pg_fillWithDirectory_50 : decode b_Pg_fillWithDirectory 50 = .ok (.if_icmp .ge 33, 3) := by decide +kernel
theorem d_Pg_fillWithDirectory_53 : decode b_Pg_fillWithDirectory 53 = .ok (.aload_n 2, 1) := by decide +kernel
theorem d_Pg_fillWithDirectory_54 : decode b_Pg_fillWithDirectory 54 = .ok (.iload 5, 2) := by decide +kernel
theorem d_Pg_fillWithDirectory_56 : decode b_Pg_fillWithDirectory 56 = .ok (.aaload, 1) := by decide +kernel
theorem d_Pg_fillWithDirectory_57 : decode b_Pg_fillWithDirectory 57 = .ok (.getfield 70, 3) := by decide +kernel
theorem d_Pg_fillWithDirectory_60 : decode b_Pg_fillWithDirectory 60 = .ok (.aload_n 1, 1) := by decide +kernel
theorem d_Pg_fillWithDirectory_61 : decode b_Pg_fillWithDirectory 61 = .ok (.if_acmp .ne 16, 3) := by decide +kernel
theorem d_Pg_fillWithDirectory_77 : decode b_Pg_fillWithDirectory 77 = .ok (.iinc 5 1, 3) := by decide +kernel
theorem d_Pg_fillWithDirectory_80 : decode b_Pg_fillWithDirectory 80 = .ok (.goto (-40), 3) := by decide +kernel
theorem d_Pg_fillWithDirectory_83 : decode b_Pg_fillWithDirectory 83 = .ok (.return_, 1) := by decide +kernel
set_option maxHeartbeats 4000000 in
set_option maxRecDepth 100000 in
theorem c_Di_evened (l : Launch) (D : va_G) (t : Nat → ClassId) (G : hG) (ak av : Nat → Nat) (h : hM) (x : Int32) : Met l y_Di_evened (.code y_Di_evened b_Di_evened 1 (some .int) :: lw_g) { frames := 0, cells := 0, slots := 0, locals := 0 } (hP (kE D t G ak av) D vwCl G h [.int x]) (hQi D vwCl G (fun r h' => r = x + (x - x / 2 * 2) ∧ h = h')) 0 0 G.P := by
  refine Met.ofW (cc := b_Di_evened) (maxL := 1) (ret := (some .int)) (by decide) rfl ?_
  intro p e s m args below meth c s₁ Bd hml hv
  obtain ⟨ha, hE, hH⟩ := hv
  have hx := Bd.exec
  have hb := Bd.bytes
  have hr := Bd.returns
  have hts : ∀ w ∈ lw_g, w.before args s = true := fun w hw => atoms_spec (ws := (.code y_Di_evened b_Di_evened 1 (some .int) :: lw_g)) Bd.pre w (List.mem_cons_of_mem _ hw)
  have hown : s.vm.findClass R_Di = some m.cls := findClass_of_methodNamed Bd.named
  have hlocks := Bd.notSynchronized
  have hK := hE.1
  have hH0 := hH
  have hLo : hLc G.P [] := hLc_nil
  have hz : s.heap.size ≤ s.heap.size := Nat.le_refl _
  have hkp : kp [] h h := kp_rf
  have hl := lv_entry [.int x] (n := 1) (Nat.le_of_ble_eq_true rfl)
  rw [show entryFrame m args 1 = F0 m 0 ((lg_sl [.int x] ++ List.replicate (1 - (lg_sl [.int x]).length) Slot.unset).toArray) [] from (by rw [ha]; exact lg_entry_eq m [.int x] 1)]
  generalize (lg_sl [.int x] ++ List.replicate (1 - (lg_sl [.int x]).length) Slot.unset).toArray = ls at hl ⊢
  have hl : lv_has ls 1 [(0, .int x)] := hl
  refine lv_iload_n hx hb d_Di_evened_0 rfl (lv_at hl 0 rfl) ?_
  refine lv_iload_n hx hb d_Di_evened_1 rfl (lv_at hl 0 rfl) ?_
  refine lv_iconst (v := 2) hx hb d_Di_evened_2 (by decide) ?_
  refine lv_irem hx hb d_Di_evened_3 (by decide) ?_
  refine lv_iadd hx hb d_Di_evened_4 ?_
  exact W.iret (v := x + (x - x / 2 * 2)) hx hb hr (fun t9 ht hW => ⟨x + (x - x / 2 * 2), h, rfl, ⟨rfl, rfl⟩, by rw [ht]; exact hH, by rw [ht]; exact hz⟩) hLo d_Di_evened_5

set_option maxHeartbeats 4000000 in
set_option maxRecDepth 100000 in
theorem c_Node_idlen_root (l : Launch) (D : va_G) (t : Nat → ClassId) (G : hG) (ak av : Nat → Nat) (h : hM) (rt : Nat) (sc np : Int32) (f_rt : h rt = some (.inr (1, [.int 0, .null, .int 1, .long 0, .int 0, .int 0, .int 0, .int 0, .int 0, .int sc, .int np]))) : Met l y_No_identifierLength (.code y_No_identifierLength b_No_identifierLength 1 (some .int) :: lw_g) { frames := 0, cells := 0, slots := 0, locals := 0 } (hP (kE D t G ak av) D vwCl G h [.ref rt]) (hQi D vwCl G (fun r h' => r = 0 ∧ h = h')) 0 0 G.P := by
  refine Met.ofW (cc := b_No_identifierLength) (maxL := 1) (ret := (some .int)) (by decide) rfl ?_
  intro p e s m args below meth c s₁ Bd hml hv
  obtain ⟨ha, hE, hH⟩ := hv
  have hx := Bd.exec
  have hb := Bd.bytes
  have hr := Bd.returns
  have hts : ∀ w ∈ lw_g, w.before args s = true := fun w hw => atoms_spec (ws := (.code y_No_identifierLength b_No_identifierLength 1 (some .int) :: lw_g)) Bd.pre w (List.mem_cons_of_mem _ hw)
  have hown : s.vm.findClass R_No = some m.cls := findClass_of_methodNamed Bd.named
  have hlocks := Bd.notSynchronized
  have hK := hE.1
  have hH0 := hH
  have hLo : hLc G.P [] := hLc_nil
  have hz : s.heap.size ≤ s.heap.size := Nat.le_refl _
  have hkp : kp [] h h := kp_rf
  have hl := lv_entry [.ref rt] (n := 1) (Nat.le_of_ble_eq_true rfl)
  rw [show entryFrame m args 1 = F0 m 0 ((lg_sl [.ref rt] ++ List.replicate (1 - (lg_sl [.ref rt]).length) Slot.unset).toArray) [] from (by rw [ha]; exact lg_entry_eq m [.ref rt] 1)]
  generalize (lg_sl [.ref rt] ++ List.replicate (1 - (lg_sl [.ref rt]).length) Slot.unset).toArray = ls at hl ⊢
  have hl : lv_has ls 1 [(0, .ref rt)] := hl
  refine lv_aload_n hx hb d_No_identifierLength_0 rfl (lv_at hl 0 rfl) ?_
  refine hm_get (ci := 1) (v := .int 1) (C := R_No) (T := F_No) (N := 11) hx hb hts ig_No hown hK hH f_rt rfl 2 (by decide) (hts _ mw_13) (fun _ h9 => h9) rfl d_No_identifierLength_1 ?_
  refine lv_if_eq (tgt := 14) hx hb d_No_identifierLength_4 (by decide) (fun hc1 => absurd hc1 (by decide)) (fun hc1 => ?_)
  refine lv_aload_n hx hb d_No_identifierLength_7 rfl (lv_at hl 0 rfl) ?_
  refine hm_get (ci := 1) (v := .int 0) (C := R_No) (T := F_No) (N := 11) hx hb hts ig_No hown hK hH f_rt rfl 4 (by decide) (hts _ mw_15) (fun _ h9 => h9) rfl d_No_identifierLength_8 ?_
  refine lv_goto (tgt := 24) hx hb d_No_identifierLength_11 (by decide) ?_
  exact W.iret (v := 0) hx hb hr (fun t9 ht hW => ⟨0, h, rfl, ⟨rfl, rfl⟩, by rw [ht]; exact hH, by rw [ht]; exact hz⟩) hLo d_No_identifierLength_24

set_option maxHeartbeats 4000000 in
set_option maxRecDepth 100000 in
theorem c_Node_needs_root (l : Launch) (D : va_G) (t : Nat → ClassId) (G : hG) (ak av : Nat → Nat) (h : hM) (rt : Nat) (sc np : Int32) (f_rt : h rt = some (.inr (1, [.int 0, .null, .int 1, .long 0, .int 0, .int 0, .int 0, .int 0, .int 0, .int sc, .int np]))) : Met l y_No_needsSectors (.code y_No_needsSectors b_No_needsSectors 1 (some .boolean) :: lw_g) { frames := 0, cells := 0, slots := 0, locals := 0 } (hP (kE D t G ak av) D vwCl G h [.ref rt]) (hQi D vwCl G (fun r h' => r = 0 ∧ h = h')) 0 0 G.P := by
  refine Met.ofW (cc := b_No_needsSectors) (maxL := 1) (ret := (some .boolean)) (by decide) rfl ?_
  intro p e s m args below meth c s₁ Bd hml hv
  obtain ⟨ha, hE, hH⟩ := hv
  have hx := Bd.exec
  have hb := Bd.bytes
  have hr := Bd.returns
  have hts : ∀ w ∈ lw_g, w.before args s = true := fun w hw => atoms_spec (ws := (.code y_No_needsSectors b_No_needsSectors 1 (some .boolean) :: lw_g)) Bd.pre w (List.mem_cons_of_mem _ hw)
  have hown : s.vm.findClass R_No = some m.cls := findClass_of_methodNamed Bd.named
  have hlocks := Bd.notSynchronized
  have hK := hE.1
  have hH0 := hH
  have hLo : hLc G.P [] := hLc_nil
  have hz : s.heap.size ≤ s.heap.size := Nat.le_refl _
  have hkp : kp [] h h := kp_rf
  have hl := lv_entry [.ref rt] (n := 1) (Nat.le_of_ble_eq_true rfl)
  rw [show entryFrame m args 1 = F0 m 0 ((lg_sl [.ref rt] ++ List.replicate (1 - (lg_sl [.ref rt]).length) Slot.unset).toArray) [] from (by rw [ha]; exact lg_entry_eq m [.ref rt] 1)]
  generalize (lg_sl [.ref rt] ++ List.replicate (1 - (lg_sl [.ref rt]).length) Slot.unset).toArray = ls at hl ⊢
  have hl : lv_has ls 1 [(0, .ref rt)] := hl
  refine lv_aload_n hx hb d_No_needsSectors_0 rfl (lv_at hl 0 rfl) ?_
  refine hm_get (ci := 1) (v := .int 1) (C := R_No) (T := F_No) (N := 11) hx hb hts ig_No hown hK hH f_rt rfl 2 (by decide) (hts _ mw_13) (fun _ h9 => h9) rfl d_No_needsSectors_1 ?_
  refine lv_if_ne (tgt := 18) hx hb d_No_needsSectors_4 (by decide) (fun hc1 => ?_) (fun hc1 => absurd hc1 (by decide))
  refine lv_iconst (v := 0) hx hb d_No_needsSectors_18 (by decide) ?_
  exact W.zret (v := 0) hx hb hr (by decide) (fun t9 ht hW => ⟨0, h, rfl, ⟨rfl, rfl⟩, by rw [ht]; exact hH, by rw [ht]; exact hz⟩) hLo d_No_needsSectors_19

set_option maxHeartbeats 4000000 in
set_option maxRecDepth 100000 in
theorem c_Page_putId_root (l : Launch) (D : va_G) (t : Nat → ClassId) (G : hG) (ak av : Nat → Nat) (h : hM) (pg pb rt : Nat) (at_ sc np : Int32) (f_pg : h pg = some (.inr (3, [.ref pb]))) (hpb : pgF t h pb 2048) (f_rt : h rt = some (.inr (1, [.int 0, .null, .int 1, .long 0, .int 0, .int 0, .int 0, .int 0, .int 0, .int sc, .int np]))) : Met l y_Pg_putIdentifier (.code y_Pg_putIdentifier b_Pg_putIdentifier 4 none :: lw_g) { frames := 1, cells := 0, slots := 0, locals := 20 } (hP (kE D t G ak av) D vwCl G h [.ref pg, .int at_, .ref rt]) (hQv D vwCl G (fun h' => kp [pb] h h' ∧ pgF t h' pb 2048)) 0 0 G.P := by
  refine Met.ofW (cc := b_Pg_putIdentifier) (maxL := 4) (ret := none) (by decide) rfl ?_
  intro p e s m args below meth c s₁ Bd hml hv
  obtain ⟨ha, hE, hH⟩ := hv
  have hx := Bd.exec
  have hb := Bd.bytes
  have hr := Bd.returns
  have hts : ∀ w ∈ lw_g, w.before args s = true := fun w hw => atoms_spec (ws := (.code y_Pg_putIdentifier b_Pg_putIdentifier 4 none :: lw_g)) Bd.pre w (List.mem_cons_of_mem _ hw)
  have hown : s.vm.findClass R_Pg = some m.cls := findClass_of_methodNamed Bd.named
  have hlocks := Bd.notSynchronized
  have hK := hE.1
  have hH0 := hH
  have hLo : hLc G.P [] := hLc_nil
  have hz : s.heap.size ≤ s.heap.size := Nat.le_refl _
  have hkp : kp [pb] h h := kp_rf
  have hl := lv_entry [.ref pg, .int at_, .ref rt] (n := 4) (Nat.le_of_ble_eq_true rfl)
  rw [show entryFrame m args 4 = F0 m 0 ((lg_sl [.ref pg, .int at_, .ref rt] ++ List.replicate (4 - (lg_sl [.ref pg, .int at_, .ref rt]).length) Slot.unset).toArray) [] from (by rw [ha]; exact lg_entry_eq m [.ref pg, .int at_, .ref rt] 4)]
  generalize (lg_sl [.ref pg, .int at_, .ref rt] ++ List.replicate (4 - (lg_sl [.ref pg, .int at_, .ref rt]).length) Slot.unset).toArray = ls at hl ⊢
  have hl : lv_has ls 4 [(0, .ref pg), (1, .int at_), (2, .ref rt)] := hl
  obtain ⟨f, hfit, f_pb⟩ := hpb
  refine lv_iconst (v := 0) hx hb d_Pg_putIdentifier_0 (by decide) ?_
  refine lv_istore_n (lv' := [(3, .int 0), (0, .ref pg), (1, .int at_), (2, .ref rt)]) hx hb d_Pg_putIdentifier_1 rfl hl (by decide) rfl (fun ls hl => ?_)
  refine lv_iload_n hx hb d_Pg_putIdentifier_2 rfl (lv_at hl 0 rfl) ?_
  refine lv_aload_n hx hb d_Pg_putIdentifier_3 rfl (lv_at hl 3 rfl) ?_
  refine hm_calli (va_runV (As := []) (b := rt) (rest := [.int 0]) ⟨hx, hb, hml, hown, hts⟩ (c_Node_idlen_root l D t G ak av h rt sc np f_rt) ⟨cw9B 0 hts mw_106 mw_107 mw_40 rfl rfl (by decide +kernel) ⟨Nat.le_of_ble_eq_true rfl, Nat.le_of_ble_eq_true rfl⟩, hts _ mw_108, hts _ mw_109⟩ (hP_V (q := (R_No, F_No, 11)) kE_ok hE hK hH f_rt rfl) rfl rfl hl.1 rfl (lv_room (Nat.le_of_ble_eq_true rfl)) d_Pg_putIdentifier_4 ⟨Nat.le_of_ble_eq_true rfl, Nat.le_of_ble_eq_true rfl⟩) hLo (fun r1 h2 H3 locs hp5 hH z4 hLo => ?_)
  have hz : s.heap.size ≤ H3.size := Nat.le_trans hz z4
  obtain ⟨rfl, rfl⟩ := hp5
  refine lv_icmp_ge (tgt := 28) hx hb d_Pg_putIdentifier_7 (by decide) (fun hc6 => ?_) (fun hc6 => absurd (by decide) hc6)
  exact W.vret hx hb hr (fun t9 ht hW => ⟨h, rfl, ⟨hkp, f, hfit, f_pb⟩, by rw [ht]; exact hH, by rw [ht]; exact hz⟩) hLo d_Pg_putIdentifier_28

set_option maxHeartbeats 4000000 in
set_option maxRecDepth 100000 in
theorem c_Page_putEntry_root (l : Launch) (D : va_G) (t : Nat → ClassId) (G : hG) (ak av : Nat → Nat) (h : hM) (pg pb rt : Nat) (at_ lw sc np : Int32) (f_pg : h pg = some (.inr (3, [.ref pb]))) (hpb : pgF t h pb 2048) (f_rt : h rt = some (.inr (1, [.int 0, .null, .int 1, .long 0, .int 0, .int 0, .int 0, .int 0, .int 0, .int sc, .int np]))) : Met l y_Pg_putPathEntry (.code y_Pg_putPathEntry b_Pg_putPathEntry 6 (some .int) :: lw_g) { frames := 2, cells := 0, slots := 0, locals := 46 } (hP (kE D t G ak av) D vwCl G h [.ref pg, .int at_, .ref rt, .int lw]) (hQi D vwCl G (fun r h' => r = at_ + 8 + (1 + (1 - 1 / 2 * 2)) ∧ kp [pb] h h' ∧ pgF t h' pb 2048)) 0 0 G.P := by
  refine Met.ofW (cc := b_Pg_putPathEntry) (maxL := 6) (ret := (some .int)) (by decide) rfl ?_
  intro p e s m args below meth c s₁ Bd hml hv
  obtain ⟨ha, hE, hH⟩ := hv
  have hx := Bd.exec
  have hb := Bd.bytes
  have hr := Bd.returns
  have hts : ∀ w ∈ lw_g, w.before args s = true := fun w hw => atoms_spec (ws := (.code y_Pg_putPathEntry b_Pg_putPathEntry 6 (some .int) :: lw_g)) Bd.pre w (List.mem_cons_of_mem _ hw)
  have hown : s.vm.findClass R_Pg = some m.cls := findClass_of_methodNamed Bd.named
  have hlocks := Bd.notSynchronized
  have hK := hE.1
  have hH0 := hH
  have hLo : hLc G.P [] := hLc_nil
  have hz : s.heap.size ≤ s.heap.size := Nat.le_refl _
  have hkp : kp [pb] h h := kp_rf
  have hl := lv_entry [.ref pg, .int at_, .ref rt, .int lw] (n := 6) (Nat.le_of_ble_eq_true rfl)
  rw [show entryFrame m args 6 = F0 m 0 ((lg_sl [.ref pg, .int at_, .ref rt, .int lw] ++ List.replicate (6 - (lg_sl [.ref pg, .int at_, .ref rt, .int lw]).length) Slot.unset).toArray) [] from (by rw [ha]; exact lg_entry_eq m [.ref pg, .int at_, .ref rt, .int lw] 6)]
  generalize (lg_sl [.ref pg, .int at_, .ref rt, .int lw] ++ List.replicate (6 - (lg_sl [.ref pg, .int at_, .ref rt, .int lw]).length) Slot.unset).toArray = ls at hl ⊢
  have hl : lv_has ls 6 [(0, .ref pg), (1, .int at_), (2, .ref rt), (3, .int lw)] := hl
  obtain ⟨f, hfit, f_pb⟩ := hpb
  refine lv_aload_n hx hb d_Pg_putPathEntry_0 rfl (lv_at hl 2 rfl) ?_
  refine hm_get (ci := 1) (v := .null) (C := R_No) (T := F_No) (N := 11) hx hb hts ig_No hown hK hH f_rt rfl 1 (by decide) (hts _ mw_110) (fun _ h9 => h9) rfl d_Pg_putPathEntry_1 ?_
  refine lv_ifnonnullN hx hb d_Pg_putPathEntry_4 ?_
  refine lv_iconst (v := 1) hx hb d_Pg_putPathEntry_7 (by decide) ?_
  refine lv_goto (tgt := 18) hx hb d_Pg_putPathEntry_8 (by decide) ?_
  refine lv_istore (lv' := [(4, .int 1), (0, .ref pg), (1, .int at_), (2, .ref rt), (3, .int lw)]) hx hb d_Pg_putPathEntry_18 hl (by decide) rfl (fun ls hl => ?_)
  refine lv_aload_n hx hb d_Pg_putPathEntry_20 rfl (lv_at hl 3 rfl) ?_
  refine hm_get (ci := 1) (v := .null) (C := R_No) (T := F_No) (N := 11) hx hb hts ig_No hown hK hH f_rt rfl 1 (by decide) (hts _ mw_110) (fun _ h9 => h9) rfl d_Pg_putPathEntry_21 ?_
  refine lv_ifnonnullN hx hb d_Pg_putPathEntry_24 ?_
  refine lv_iconst (v := 1) hx hb d_Pg_putPathEntry_27 (by decide) ?_
  refine lv_goto (tgt := 35) hx hb d_Pg_putPathEntry_28 (by decide) ?_
  refine lv_istore (lv' := [(5, .int 1), (4, .int 1), (0, .ref pg), (1, .int at_), (2, .ref rt), (3, .int lw)]) hx hb d_Pg_putPathEntry_35 hl (by decide) rfl (fun ls hl => ?_)
  refine lv_aload_n hx hb d_Pg_putPathEntry_37 rfl (lv_at hl 2 rfl) ?_
  refine lv_iload_n hx hb d_Pg_putPathEntry_38 rfl (lv_at hl 3 rfl) ?_
  refine lv_iload hx hb d_Pg_putPathEntry_39 (lv_at hl 0 rfl) ?_
  refine hm_callv (va_runV (As := [.int at_, .int 1]) (b := pg) (rest := []) ⟨hx, hb, hml, hown, hts⟩ (c_Page_put l D t G ak av h pg pb 2048 at_ 1 f_pg ⟨f, hfit, f_pb⟩ (by decide)) ⟨cw9B 2 hts mw_66 mw_67 mw_52 rfl rfl (by decide +kernel) ⟨Nat.le_of_ble_eq_true rfl, Nat.le_of_ble_eq_true rfl⟩, hts _ mw_68, hts _ mw_69⟩ (hP_V (q := (R_Pg, F_Pg, 1)) kE_ok hE hK hH f_pg rfl) rfl rfl hl.1 rfl (lv_room (Nat.le_of_ble_eq_true rfl)) d_Pg_putPathEntry_41 ⟨Nat.le_of_ble_eq_true rfl, Nat.le_of_ble_eq_true rfl⟩) hLo (fun h1 H2 locs hp4 hH z3 hLo => ?_)
  have hz : s.heap.size ≤ H2.size := Nat.le_trans hz z3
  obtain ⟨hk9, f, hfit, f_pb2⟩ := hp4
  have f_pg : h1 pg = some (.inr (3, [.ref pb])) := kp_at hk9 f_pg (nmc (Ne.symm (h_neA f_pb f_pg)) nm0)
  have f_rt : h1 rt = some (.inr (1, [.int 0, .null, .int 1, .long 0, .int 0, .int 0, .int 0, .int 0, .int 0, .int sc, .int np])) := kp_at hk9 f_rt (nmc (Ne.symm (h_neA f_pb f_rt)) nm0)
  have hkp : kp [pb] h h1 := kp_tr2 hkp hk9 (List.forall_mem_cons.mpr ⟨Or.inl (by simp), List.forall_mem_nil _⟩)
  have f_pb : h1 pb = some (.inl ((t 0), 2048, .inl f)) := f_pb2
  refine lv_iload_n hx hb d_Pg_putPathEntry_44 rfl (lv_at hl 5 rfl) ?_
  refine lv_if_eq (tgt := 74) hx hb d_Pg_putPathEntry_45 (by decide) (fun hc5 => ?_) (fun hc5 => ?_)
  · skip
    refine lv_aload_n hx hb d_Pg_putPathEntry_74 rfl (lv_at hl 2 rfl) ?_
    refine lv_iload_n hx hb d_Pg_putPathEntry_75 rfl (lv_at hl 3 rfl) ?_
    refine lv_iconst (v := 2) hx hb d_Pg_putPathEntry_76 (by decide) ?_
    refine lv_iadd hx hb d_Pg_putPathEntry_77 ?_
    refine lv_iconst (v := 4) hx hb d_Pg_putPathEntry_78 (by decide) ?_
    refine lv_aload_n hx hb d_Pg_putPathEntry_79 rfl (lv_at hl 4 rfl) ?_
    refine hm_get (ci := 1) (v := .int sc) (C := R_No) (T := F_No) (N := 11) hx hb hts ig_No hown hK hH f_rt rfl 9 (by decide) (hts _ mw_111) (fun _ h9 => h9) rfl d_Pg_putPathEntry_80 ?_
    refine hm_callv (va_runV (As := [.int (at_ + 2), .int 4, .int sc]) (b := pg) (rest := []) ⟨hx, hb, hml, hown, hts⟩ (c_Page_putHigh l D t G ak av h1 pg pb 2048 (at_ + 2) 4 sc f_pg ⟨f, hfit, f_pb⟩ (by decide)) ⟨cw9B 3 hts mw_112 mw_113 mw_52 rfl rfl (by decide +kernel) ⟨Nat.le_of_ble_eq_true rfl, Nat.le_of_ble_eq_true rfl⟩, hts _ mw_114, hts _ mw_115⟩ (hP_V (q := (R_Pg, F_Pg, 1)) kE_ok hE hK hH f_pg rfl) rfl rfl hl.1 rfl (lv_room (Nat.le_of_ble_eq_true rfl)) d_Pg_putPathEntry_83 ⟨Nat.le_of_ble_eq_true rfl, Nat.le_of_ble_eq_true rfl⟩) hLo (fun h6 H7 locs hp9 hH z8 hLo => ?_)
    have hz : s.heap.size ≤ H7.size := Nat.le_trans hz z8
    obtain ⟨hk9, f, hfit, f_pb2⟩ := hp9
    have f_pg : h6 pg = some (.inr (3, [.ref pb])) := kp_at hk9 f_pg (nmc (Ne.symm (h_neA f_pb f_pg)) nm0)
    have f_rt : h6 rt = some (.inr (1, [.int 0, .null, .int 1, .long 0, .int 0, .int 0, .int 0, .int 0, .int 0, .int sc, .int np])) := kp_at hk9 f_rt (nmc (Ne.symm (h_neA f_pb f_rt)) nm0)
    have hkp : kp [pb] h h6 := kp_tr2 hkp hk9 (List.forall_mem_cons.mpr ⟨Or.inl (by simp), List.forall_mem_nil _⟩)
    have f_pb : h6 pb = some (.inl ((t 0), 2048, .inl f)) := f_pb2
    refine lv_aload_n hx hb d_Pg_putPathEntry_86 rfl (lv_at hl 2 rfl) ?_
    refine lv_iload_n hx hb d_Pg_putPathEntry_87 rfl (lv_at hl 3 rfl) ?_
    refine lv_bipush (v := 6) hx hb d_Pg_putPathEntry_88 (by decide) ?_
    refine lv_iadd hx hb d_Pg_putPathEntry_90 ?_
    refine lv_iconst (v := 2) hx hb d_Pg_putPathEntry_91 (by decide) ?_
    refine lv_iload hx hb d_Pg_putPathEntry_92 (lv_at hl 1 rfl) ?_
    refine hm_callv (va_runV (As := [.int (at_ + 6), .int 2, .int 1]) (b := pg) (rest := []) ⟨hx, hb, hml, hown, hts⟩ (c_Page_putHigh l D t G ak av h6 pg pb 2048 (at_ + 6) 2 1 f_pg ⟨f, hfit, f_pb⟩ (by decide)) ⟨cw9B 3 hts mw_112 mw_113 mw_52 rfl rfl (by decide +kernel) ⟨Nat.le_of_ble_eq_true rfl, Nat.le_of_ble_eq_true rfl⟩, hts _ mw_114, hts _ mw_115⟩ (hP_V (q := (R_Pg, F_Pg, 1)) kE_ok hE hK hH f_pg rfl) rfl rfl hl.1 rfl (lv_room (Nat.le_of_ble_eq_true rfl)) d_Pg_putPathEntry_94 ⟨Nat.le_of_ble_eq_true rfl, Nat.le_of_ble_eq_true rfl⟩) hLo (fun h10 H11 locs hp13 hH z12 hLo => ?_)
    have hz : s.heap.size ≤ H11.size := Nat.le_trans hz z12
    obtain ⟨hk9, f, hfit, f_pb2⟩ := hp13
    have f_pg : h10 pg = some (.inr (3, [.ref pb])) := kp_at hk9 f_pg (nmc (Ne.symm (h_neA f_pb f_pg)) nm0)
    have f_rt : h10 rt = some (.inr (1, [.int 0, .null, .int 1, .long 0, .int 0, .int 0, .int 0, .int 0, .int 0, .int sc, .int np])) := kp_at hk9 f_rt (nmc (Ne.symm (h_neA f_pb f_rt)) nm0)
    have hkp : kp [pb] h h10 := kp_tr2 hkp hk9 (List.forall_mem_cons.mpr ⟨Or.inl (by simp), List.forall_mem_nil _⟩)
    have f_pb : h10 pb = some (.inl ((t 0), 2048, .inl f)) := f_pb2
    refine lv_aload_n hx hb d_Pg_putPathEntry_97 rfl (lv_at hl 2 rfl) ?_
    refine lv_iload_n hx hb d_Pg_putPathEntry_98 rfl (lv_at hl 3 rfl) ?_
    refine lv_bipush (v := 8) hx hb d_Pg_putPathEntry_99 (by decide) ?_
    refine lv_iadd hx hb d_Pg_putPathEntry_101 ?_
    refine lv_aload_n hx hb d_Pg_putPathEntry_102 rfl (lv_at hl 4 rfl) ?_
    refine hm_callv (va_runV (As := [.int (at_ + 8), .ref rt]) (b := pg) (rest := []) ⟨hx, hb, hml, hown, hts⟩ (c_Page_putId_root l D t G ak av h10 pg pb rt (at_ + 8) sc np f_pg ⟨f, hfit, f_pb⟩ f_rt) ⟨cw9B 2 hts mw_116 mw_117 mw_52 rfl rfl (by decide +kernel) ⟨Nat.le_of_ble_eq_true rfl, Nat.le_of_ble_eq_true rfl⟩, hts _ mw_118, hts _ mw_119⟩ (hP_V (q := (R_Pg, F_Pg, 1)) kE_ok hE hK hH f_pg rfl) rfl rfl hl.1 rfl (lv_room (Nat.le_of_ble_eq_true rfl)) d_Pg_putPathEntry_103 ⟨Nat.le_of_ble_eq_true rfl, Nat.le_of_ble_eq_true rfl⟩) hLo (fun h14 H15 locs hp17 hH z16 hLo => ?_)
    have hz : s.heap.size ≤ H15.size := Nat.le_trans hz z16
    obtain ⟨hk9, f, hfit, f_pb2⟩ := hp17
    have f_pg : h14 pg = some (.inr (3, [.ref pb])) := kp_at hk9 f_pg (nmc (Ne.symm (h_neA f_pb f_pg)) nm0)
    have f_rt : h14 rt = some (.inr (1, [.int 0, .null, .int 1, .long 0, .int 0, .int 0, .int 0, .int 0, .int 0, .int sc, .int np])) := kp_at hk9 f_rt (nmc (Ne.symm (h_neA f_pb f_rt)) nm0)
    have hkp : kp [pb] h h14 := kp_tr2 hkp hk9 (List.forall_mem_cons.mpr ⟨Or.inl (by simp), List.forall_mem_nil _⟩)
    have f_pb : h14 pb = some (.inl ((t 0), 2048, .inl f)) := f_pb2
    refine lv_iload_n hx hb d_Pg_putPathEntry_106 rfl (lv_at hl 3 rfl) ?_
    refine lv_bipush (v := 8) hx hb d_Pg_putPathEntry_107 (by decide) ?_
    refine lv_iadd hx hb d_Pg_putPathEntry_109 ?_
    refine lv_iload hx hb d_Pg_putPathEntry_110 (lv_at hl 0 rfl) ?_
    refine hm_calli (va_runSN (As := [.int 1]) (rest := [.int (at_ + 8)]) ⟨hx, hb, hml, hown, hts⟩ (c_Di_evened l D t G ak av h14 1) ⟨cw9N 1 hts mw_120 (nmU hE nM_7) mw_121 rfl rfl (by decide +kernel) ⟨Nat.le_of_ble_eq_true rfl, Nat.le_of_ble_eq_true rfl⟩, hts _ mw_122, trivial⟩ (hP_S kE_ok hE hH) rfl rfl hl.1 rfl (lv_room (Nat.le_of_ble_eq_true rfl)) d_Pg_putPathEntry_112 ⟨Nat.le_of_ble_eq_true rfl, Nat.le_of_ble_eq_true rfl⟩) hLo (fun r18 h19 H20 locs hp22 hH z21 hLo => ?_)
    have hz : s.heap.size ≤ H20.size := Nat.le_trans hz z21
    obtain ⟨rfl, rfl⟩ := hp22
    refine lv_iadd hx hb d_Pg_putPathEntry_115 ?_
    exact W.iret (v := (at_ + 8) + (1 + (1 - 1 / 2 * 2))) hx hb hr (fun t9 ht hW => ⟨(at_ + 8) + (1 + (1 - 1 / 2 * 2)), h14, rfl, ⟨rfl, hkp, f, hfit, f_pb⟩, by rw [ht]; exact hH, by rw [ht]; exact hz⟩) hLo d_Pg_putPathEntry_116
  · skip
    refine lv_aload_n hx hb d_Pg_putPathEntry_48 rfl (lv_at hl 2 rfl) ?_
    refine lv_iload_n hx hb d_Pg_putPathEntry_49 rfl (lv_at hl 3 rfl) ?_
    refine lv_iconst (v := 2) hx hb d_Pg_putPathEntry_50 (by decide) ?_
    refine lv_iadd hx hb d_Pg_putPathEntry_51 ?_
    refine lv_iconst (v := 4) hx hb d_Pg_putPathEntry_52 (by decide) ?_
    refine lv_aload_n hx hb d_Pg_putPathEntry_53 rfl (lv_at hl 4 rfl) ?_
    refine hm_get (ci := 1) (v := .int sc) (C := R_No) (T := F_No) (N := 11) hx hb hts ig_No hown hK hH f_rt rfl 9 (by decide) (hts _ mw_111) (fun _ h9 => h9) rfl d_Pg_putPathEntry_54 ?_
    refine hm_callv (va_runV (As := [.int (at_ + 2), .int 4, .int sc]) (b := pg) (rest := []) ⟨hx, hb, hml, hown, hts⟩ (c_Page_putLow l D t G ak av h1 pg pb 2048 (at_ + 2) 4 sc f_pg ⟨f, hfit, f_pb⟩ (by decide)) ⟨cw9B 3 hts mw_123 mw_124 mw_52 rfl rfl (by decide +kernel) ⟨Nat.le_of_ble_eq_true rfl, Nat.le_of_ble_eq_true rfl⟩, hts _ mw_125, hts _ mw_126⟩ (hP_V (q := (R_Pg, F_Pg, 1)) kE_ok hE hK hH f_pg rfl) rfl rfl hl.1 rfl (lv_room (Nat.le_of_ble_eq_true rfl)) d_Pg_putPathEntry_57 ⟨Nat.le_of_ble_eq_true rfl, Nat.le_of_ble_eq_true rfl⟩) hLo (fun h23 H24 locs hp26 hH z25 hLo => ?_)
    have hz : s.heap.size ≤ H24.size := Nat.le_trans hz z25
    obtain ⟨hk9, f, hfit, f_pb2⟩ := hp26
    have f_pg : h23 pg = some (.inr (3, [.ref pb])) := kp_at hk9 f_pg (nmc (Ne.symm (h_neA f_pb f_pg)) nm0)
    have f_rt : h23 rt = some (.inr (1, [.int 0, .null, .int 1, .long 0, .int 0, .int 0, .int 0, .int 0, .int 0, .int sc, .int np])) := kp_at hk9 f_rt (nmc (Ne.symm (h_neA f_pb f_rt)) nm0)
    have hkp : kp [pb] h h23 := kp_tr2 hkp hk9 (List.forall_mem_cons.mpr ⟨Or.inl (by simp), List.forall_mem_nil _⟩)
    have f_pb : h23 pb = some (.inl ((t 0), 2048, .inl f)) := f_pb2
    refine lv_aload_n hx hb d_Pg_putPathEntry_60 rfl (lv_at hl 2 rfl) ?_
    refine lv_iload_n hx hb d_Pg_putPathEntry_61 rfl (lv_at hl 3 rfl) ?_
    refine lv_bipush (v := 6) hx hb d_Pg_putPathEntry_62 (by decide) ?_
    refine lv_iadd hx hb d_Pg_putPathEntry_64 ?_
    refine lv_iconst (v := 2) hx hb d_Pg_putPathEntry_65 (by decide) ?_
    refine lv_iload hx hb d_Pg_putPathEntry_66 (lv_at hl 1 rfl) ?_
    refine hm_callv (va_runV (As := [.int (at_ + 6), .int 2, .int 1]) (b := pg) (rest := []) ⟨hx, hb, hml, hown, hts⟩ (c_Page_putLow l D t G ak av h23 pg pb 2048 (at_ + 6) 2 1 f_pg ⟨f, hfit, f_pb⟩ (by decide)) ⟨cw9B 3 hts mw_123 mw_124 mw_52 rfl rfl (by decide +kernel) ⟨Nat.le_of_ble_eq_true rfl, Nat.le_of_ble_eq_true rfl⟩, hts _ mw_125, hts _ mw_126⟩ (hP_V (q := (R_Pg, F_Pg, 1)) kE_ok hE hK hH f_pg rfl) rfl rfl hl.1 rfl (lv_room (Nat.le_of_ble_eq_true rfl)) d_Pg_putPathEntry_68 ⟨Nat.le_of_ble_eq_true rfl, Nat.le_of_ble_eq_true rfl⟩) hLo (fun h27 H28 locs hp30 hH z29 hLo => ?_)
    have hz : s.heap.size ≤ H28.size := Nat.le_trans hz z29
    obtain ⟨hk9, f, hfit, f_pb2⟩ := hp30
    have f_pg : h27 pg = some (.inr (3, [.ref pb])) := kp_at hk9 f_pg (nmc (Ne.symm (h_neA f_pb f_pg)) nm0)
    have f_rt : h27 rt = some (.inr (1, [.int 0, .null, .int 1, .long 0, .int 0, .int 0, .int 0, .int 0, .int 0, .int sc, .int np])) := kp_at hk9 f_rt (nmc (Ne.symm (h_neA f_pb f_rt)) nm0)
    have hkp : kp [pb] h h27 := kp_tr2 hkp hk9 (List.forall_mem_cons.mpr ⟨Or.inl (by simp), List.forall_mem_nil _⟩)
    have f_pb : h27 pb = some (.inl ((t 0), 2048, .inl f)) := f_pb2
    refine lv_goto (tgt := 97) hx hb d_Pg_putPathEntry_71 (by decide) ?_
    refine lv_aload_n hx hb d_Pg_putPathEntry_97 rfl (lv_at hl 2 rfl) ?_
    refine lv_iload_n hx hb d_Pg_putPathEntry_98 rfl (lv_at hl 3 rfl) ?_
    refine lv_bipush (v := 8) hx hb d_Pg_putPathEntry_99 (by decide) ?_
    refine lv_iadd hx hb d_Pg_putPathEntry_101 ?_
    refine lv_aload_n hx hb d_Pg_putPathEntry_102 rfl (lv_at hl 4 rfl) ?_
    refine hm_callv (va_runV (As := [.int (at_ + 8), .ref rt]) (b := pg) (rest := []) ⟨hx, hb, hml, hown, hts⟩ (c_Page_putId_root l D t G ak av h27 pg pb rt (at_ + 8) sc np f_pg ⟨f, hfit, f_pb⟩ f_rt) ⟨cw9B 2 hts mw_116 mw_117 mw_52 rfl rfl (by decide +kernel) ⟨Nat.le_of_ble_eq_true rfl, Nat.le_of_ble_eq_true rfl⟩, hts _ mw_118, hts _ mw_119⟩ (hP_V (q := (R_Pg, F_Pg, 1)) kE_ok hE hK hH f_pg rfl) rfl rfl hl.1 rfl (lv_room (Nat.le_of_ble_eq_true rfl)) d_Pg_putPathEntry_103 ⟨Nat.le_of_ble_eq_true rfl, Nat.le_of_ble_eq_true rfl⟩) hLo (fun h31 H32 locs hp34 hH z33 hLo => ?_)
    have hz : s.heap.size ≤ H32.size := Nat.le_trans hz z33
    obtain ⟨hk9, f, hfit, f_pb2⟩ := hp34
    have f_pg : h31 pg = some (.inr (3, [.ref pb])) := kp_at hk9 f_pg (nmc (Ne.symm (h_neA f_pb f_pg)) nm0)
    have f_rt : h31 rt = some (.inr (1, [.int 0, .null, .int 1, .long 0, .int 0, .int 0, .int 0, .int 0, .int 0, .int sc, .int np])) := kp_at hk9 f_rt (nmc (Ne.symm (h_neA f_pb f_rt)) nm0)
    have hkp : kp [pb] h h31 := kp_tr2 hkp hk9 (List.forall_mem_cons.mpr ⟨Or.inl (by simp), List.forall_mem_nil _⟩)
    have f_pb : h31 pb = some (.inl ((t 0), 2048, .inl f)) := f_pb2
    refine lv_iload_n hx hb d_Pg_putPathEntry_106 rfl (lv_at hl 3 rfl) ?_
    refine lv_bipush (v := 8) hx hb d_Pg_putPathEntry_107 (by decide) ?_
    refine lv_iadd hx hb d_Pg_putPathEntry_109 ?_
    refine lv_iload hx hb d_Pg_putPathEntry_110 (lv_at hl 0 rfl) ?_
    refine hm_calli (va_runSN (As := [.int 1]) (rest := [.int (at_ + 8)]) ⟨hx, hb, hml, hown, hts⟩ (c_Di_evened l D t G ak av h31 1) ⟨cw9N 1 hts mw_120 (nmU hE nM_7) mw_121 rfl rfl (by decide +kernel) ⟨Nat.le_of_ble_eq_true rfl, Nat.le_of_ble_eq_true rfl⟩, hts _ mw_122, trivial⟩ (hP_S kE_ok hE hH) rfl rfl hl.1 rfl (lv_room (Nat.le_of_ble_eq_true rfl)) d_Pg_putPathEntry_112 ⟨Nat.le_of_ble_eq_true rfl, Nat.le_of_ble_eq_true rfl⟩) hLo (fun r35 h36 H37 locs hp39 hH z38 hLo => ?_)
    have hz : s.heap.size ≤ H37.size := Nat.le_trans hz z38
    obtain ⟨rfl, rfl⟩ := hp39
    refine lv_iadd hx hb d_Pg_putPathEntry_115 ?_
    exact W.iret (v := (at_ + 8) + (1 + (1 - 1 / 2 * 2))) hx hb hr (fun t9 ht hW => ⟨(at_ + 8) + (1 + (1 - 1 / 2 * 2)), h31, rfl, ⟨rfl, hkp, f, hfit, f_pb⟩, by rw [ht]; exact hH, by rw [ht]; exact hz⟩) hLo d_Pg_putPathEntry_116

set_option maxHeartbeats 4000000 in
set_option maxRecDepth 100000 in
theorem c_Page_putRecord_root0 (l : Launch) (D : va_G) (t : Nat → ClassId) (G : hG) (ak av : Nat → Nat) (h : hM) (pg pb rt : Nat) (at_ sc np : Int32) (f_pg : h pg = some (.inr (3, [.ref pb]))) (hpb : pgF t h pb 2048) (f_rt : h rt = some (.inr (1, [.int 0, .null, .int 1, .long 0, .int 0, .int 0, .int 0, .int 0, .int 0, .int sc, .int np]))) : Met l y_Pg_putRecord (.code y_Pg_putRecord b_Pg_putRecord 6 (some .int) :: lw_g) { frames := 2, cells := 0, slots := 0, locals := 46 } (hP (kE D t G ak av) D vwCl G h [.ref pg, .int at_, .ref rt, .int 0]) (hQi D vwCl G (fun r h' => r = at_ + 34 ∧ kp [pb] h h' ∧ pgF t h' pb 2048)) 0 0 G.P := by
  refine Met.ofW (cc := b_Pg_putRecord) (maxL := 6) (ret := (some .int)) (by decide) rfl ?_
  intro p e s m args below meth c s₁ Bd hml hv
  obtain ⟨ha, hE, hH⟩ := hv
  have hx := Bd.exec
  have hb := Bd.bytes
  have hr := Bd.returns
  have hts : ∀ w ∈ lw_g, w.before args s = true := fun w hw => atoms_spec (ws := (.code y_Pg_putRecord b_Pg_putRecord 6 (some .int) :: lw_g)) Bd.pre w (List.mem_cons_of_mem _ hw)
  have hown : s.vm.findClass R_Pg = some m.cls := findClass_of_methodNamed Bd.named
  have hlocks := Bd.notSynchronized
  have hK := hE.1
  have hH0 := hH
  have hLo : hLc G.P [] := hLc_nil
  have hz : s.heap.size ≤ s.heap.size := Nat.le_refl _
  have hkp : kp [pb] h h := kp_rf
  have hl := lv_entry [.ref pg, .int at_, .ref rt, .int 0] (n := 6) (Nat.le_of_ble_eq_true rfl)
  rw [show entryFrame m args 6 = F0 m 0 ((lg_sl [.ref pg, .int at_, .ref rt, .int 0] ++ List.replicate (6 - (lg_sl [.ref pg, .int at_, .ref rt, .int 0]).length) Slot.unset).toArray) [] from (by rw [ha]; exact lg_entry_eq m [.ref pg, .int at_, .ref rt, .int 0] 6)]
  generalize (lg_sl [.ref pg, .int at_, .ref rt, .int 0] ++ List.replicate (6 - (lg_sl [.ref pg, .int at_, .ref rt, .int 0]).length) Slot.unset).toArray = ls at hl ⊢
  have hl : lv_has ls 6 [(0, .ref pg), (1, .int at_), (2, .ref rt), (3, .int 0)] := hl
  obtain ⟨f, hfit, f_pb⟩ := hpb
  refine lv_iload_n hx hb d_Pg_putRecord_0 rfl (lv_at hl 3 rfl) ?_
  refine lv_iconst (v := -1) hx hb d_Pg_putRecord_1 (by decide) ?_
  refine lv_icmp_ne (tgt := 12) hx hb d_Pg_putRecord_2 (by decide) (fun hc1 => ?_) (fun hc1 => absurd hc1 (by decide))
  refine lv_iconst (v := 1) hx hb d_Pg_putRecord_12 (by decide) ?_
  refine lv_istore (lv' := [(4, .int 1), (0, .ref pg), (1, .int at_), (2, .ref rt), (3, .int 0)]) hx hb d_Pg_putRecord_13 hl (by decide) rfl (fun ls hl => ?_)
  refine lv_bipush (v := 33) hx hb d_Pg_putRecord_15 (by decide) ?_
  refine lv_iload hx hb d_Pg_putRecord_17 (lv_at hl 0 rfl) ?_
  refine lv_iadd hx hb d_Pg_putRecord_19 ?_
  refine hm_calli (va_runSN (As := [.int (33 + 1)]) (rest := []) ⟨hx, hb, hml, hown, hts⟩ (c_Di_evened l D t G ak av h (33 + 1)) ⟨cw9N 1 hts mw_120 (nmU hE nM_7) mw_121 rfl rfl (by decide +kernel) ⟨Nat.le_of_ble_eq_true rfl, Nat.le_of_ble_eq_true rfl⟩, hts _ mw_122, trivial⟩ (hP_S kE_ok hE hH) rfl rfl hl.1 rfl (lv_room (Nat.le_of_ble_eq_true rfl)) d_Pg_putRecord_20 ⟨Nat.le_of_ble_eq_true rfl, Nat.le_of_ble_eq_true rfl⟩) hLo (fun r2 h3 H4 locs hp6 hH z5 hLo => ?_)
  have hz : s.heap.size ≤ H4.size := Nat.le_trans hz z5
  obtain ⟨rfl, rfl⟩ := hp6
  refine lv_topi (fun v7 e8 => ?_)
  obtain rfl : v7 = 34 := e8.trans (by decide)
  refine lv_istore (lv' := [(5, .int 34), (4, .int 1), (0, .ref pg), (1, .int at_), (2, .ref rt), (3, .int 0)]) hx hb d_Pg_putRecord_23 hl (by decide) rfl (fun ls hl => ?_)
  refine lv_aload_n hx hb d_Pg_putRecord_25 rfl (lv_at hl 2 rfl) ?_
  refine lv_iload_n hx hb d_Pg_putRecord_26 rfl (lv_at hl 3 rfl) ?_
  refine lv_iload hx hb d_Pg_putRecord_27 (lv_at hl 0 rfl) ?_
  refine hm_callv (va_runV (As := [.int at_, .int 34]) (b := pg) (rest := []) ⟨hx, hb, hml, hown, hts⟩ (c_Page_put l D t G ak av h pg pb 2048 at_ 34 f_pg ⟨f, hfit, f_pb⟩ (by decide)) ⟨cw9B 2 hts mw_66 mw_67 mw_52 rfl rfl (by decide +kernel) ⟨Nat.le_of_ble_eq_true rfl, Nat.le_of_ble_eq_true rfl⟩, hts _ mw_68, hts _ mw_69⟩ (hP_V (q := (R_Pg, F_Pg, 1)) kE_ok hE hK hH f_pg rfl) rfl rfl hl.1 rfl (lv_room (Nat.le_of_ble_eq_true rfl)) d_Pg_putRecord_29 ⟨Nat.le_of_ble_eq_true rfl, Nat.le_of_ble_eq_true rfl⟩) hLo (fun h9 H10 locs hp12 hH z11 hLo => ?_)
  have hz : s.heap.size ≤ H10.size := Nat.le_trans hz z11
  obtain ⟨hk9, f, hfit, f_pb2⟩ := hp12
  have f_pg : h9 pg = some (.inr (3, [.ref pb])) := kp_at hk9 f_pg (nmc (Ne.symm (h_neA f_pb f_pg)) nm0)
  have f_rt : h9 rt = some (.inr (1, [.int 0, .null, .int 1, .long 0, .int 0, .int 0, .int 0, .int 0, .int 0, .int sc, .int np])) := kp_at hk9 f_rt (nmc (Ne.symm (h_neA f_pb f_rt)) nm0)
  have hkp : kp [pb] h h9 := kp_tr2 hkp hk9 (List.forall_mem_cons.mpr ⟨Or.inl (by simp), List.forall_mem_nil _⟩)
  have f_pb : h9 pb = some (.inl ((t 0), 2048, .inl f)) := f_pb2
  refine lv_aload_n hx hb d_Pg_putRecord_32 rfl (lv_at hl 2 rfl) ?_
  refine lv_iload_n hx hb d_Pg_putRecord_33 rfl (lv_at hl 3 rfl) ?_
  refine lv_iconst (v := 2) hx hb d_Pg_putRecord_34 (by decide) ?_
  refine lv_iadd hx hb d_Pg_putRecord_35 ?_
  refine lv_iconst (v := 4) hx hb d_Pg_putRecord_36 (by decide) ?_
  refine lv_aload_n hx hb d_Pg_putRecord_37 rfl (lv_at hl 4 rfl) ?_
  refine hm_get (ci := 1) (v := .int sc) (C := R_No) (T := F_No) (N := 11) hx hb hts ig_No hown hK hH f_rt rfl 9 (by decide) (hts _ mw_111) (fun _ h9 => h9) rfl d_Pg_putRecord_38 ?_
  refine hm_callv (va_runV (As := [.int (at_ + 2), .int 4, .int sc]) (b := pg) (rest := []) ⟨hx, hb, hml, hown, hts⟩ (c_Page_putBoth l D t G ak av h9 pg pb 2048 (at_ + 2) 4 sc f_pg ⟨f, hfit, f_pb⟩ (by decide)) ⟨cw9B 3 hts mw_127 mw_128 mw_52 rfl rfl (by decide +kernel) ⟨Nat.le_of_ble_eq_true rfl, Nat.le_of_ble_eq_true rfl⟩, hts _ mw_129, hts _ mw_130⟩ (hP_V (q := (R_Pg, F_Pg, 1)) kE_ok hE hK hH f_pg rfl) rfl rfl hl.1 rfl (lv_room (Nat.le_of_ble_eq_true rfl)) d_Pg_putRecord_41 ⟨Nat.le_of_ble_eq_true rfl, Nat.le_of_ble_eq_true rfl⟩) hLo (fun h13 H14 locs hp16 hH z15 hLo => ?_)
  have hz : s.heap.size ≤ H14.size := Nat.le_trans hz z15
  obtain ⟨hk9, f, hfit, f_pb2⟩ := hp16
  have f_pg : h13 pg = some (.inr (3, [.ref pb])) := kp_at hk9 f_pg (nmc (Ne.symm (h_neA f_pb f_pg)) nm0)
  have f_rt : h13 rt = some (.inr (1, [.int 0, .null, .int 1, .long 0, .int 0, .int 0, .int 0, .int 0, .int 0, .int sc, .int np])) := kp_at hk9 f_rt (nmc (Ne.symm (h_neA f_pb f_rt)) nm0)
  have hkp : kp [pb] h h13 := kp_tr2 hkp hk9 (List.forall_mem_cons.mpr ⟨Or.inl (by simp), List.forall_mem_nil _⟩)
  have f_pb : h13 pb = some (.inl ((t 0), 2048, .inl f)) := f_pb2
  refine lv_aload_n hx hb d_Pg_putRecord_44 rfl (lv_at hl 2 rfl) ?_
  refine lv_iload_n hx hb d_Pg_putRecord_45 rfl (lv_at hl 3 rfl) ?_
  refine lv_bipush (v := 10) hx hb d_Pg_putRecord_46 (by decide) ?_
  refine lv_iadd hx hb d_Pg_putRecord_48 ?_
  refine lv_iconst (v := 4) hx hb d_Pg_putRecord_49 (by decide) ?_
  refine lv_aload_n hx hb d_Pg_putRecord_50 rfl (lv_at hl 4 rfl) ?_
  refine hm_get (ci := 1) (v := .int 1) (C := R_No) (T := F_No) (N := 11) hx hb hts ig_No hown hK hH f_rt rfl 2 (by decide) (hts _ mw_131) (fun _ h9 => h9) rfl d_Pg_putRecord_51 ?_
  refine lv_if_eq (tgt := 63) hx hb d_Pg_putRecord_54 (by decide) (fun hc17 => absurd hc17 (by decide)) (fun hc17 => ?_)
  refine lv_sipush (v := 2048) hx hb d_Pg_putRecord_57 (by decide) ?_
  refine lv_goto (tgt := 67) hx hb d_Pg_putRecord_60 (by decide) ?_
  refine hm_callv (va_runV (As := [.int (at_ + 10), .int 4, .int 2048]) (b := pg) (rest := []) ⟨hx, hb, hml, hown, hts⟩ (c_Page_putBoth l D t G ak av h13 pg pb 2048 (at_ + 10) 4 2048 f_pg ⟨f, hfit, f_pb⟩ (by decide)) ⟨cw9B 3 hts mw_127 mw_128 mw_52 rfl rfl (by decide +kernel) ⟨Nat.le_of_ble_eq_true rfl, Nat.le_of_ble_eq_true rfl⟩, hts _ mw_129, hts _ mw_130⟩ (hP_V (q := (R_Pg, F_Pg, 1)) kE_ok hE hK hH f_pg rfl) rfl rfl hl.1 rfl (lv_room (Nat.le_of_ble_eq_true rfl)) d_Pg_putRecord_67 ⟨Nat.le_of_ble_eq_true rfl, Nat.le_of_ble_eq_true rfl⟩) hLo (fun h18 H19 locs hp21 hH z20 hLo => ?_)
  have hz : s.heap.size ≤ H19.size := Nat.le_trans hz z20
  obtain ⟨hk9, f, hfit, f_pb2⟩ := hp21
  have f_pg : h18 pg = some (.inr (3, [.ref pb])) := kp_at hk9 f_pg (nmc (Ne.symm (h_neA f_pb f_pg)) nm0)
  have f_rt : h18 rt = some (.inr (1, [.int 0, .null, .int 1, .long 0, .int 0, .int 0, .int 0, .int 0, .int 0, .int sc, .int np])) := kp_at hk9 f_rt (nmc (Ne.symm (h_neA f_pb f_rt)) nm0)
  have hkp : kp [pb] h h18 := kp_tr2 hkp hk9 (List.forall_mem_cons.mpr ⟨Or.inl (by simp), List.forall_mem_nil _⟩)
  have f_pb : h18 pb = some (.inl ((t 0), 2048, .inl f)) := f_pb2
  refine lv_aload_n hx hb d_Pg_putRecord_70 rfl (lv_at hl 2 rfl) ?_
  refine lv_iload_n hx hb d_Pg_putRecord_71 rfl (lv_at hl 3 rfl) ?_
  refine lv_bipush (v := 25) hx hb d_Pg_putRecord_72 (by decide) ?_
  refine lv_iadd hx hb d_Pg_putRecord_74 ?_
  refine lv_aload_n hx hb d_Pg_putRecord_75 rfl (lv_at hl 4 rfl) ?_
  refine hm_get (ci := 1) (v := .int 1) (C := R_No) (T := F_No) (N := 11) hx hb hts ig_No hown hK hH f_rt rfl 2 (by decide) (hts _ mw_131) (fun _ h9 => h9) rfl d_Pg_putRecord_76 ?_
  refine lv_if_eq (tgt := 86) hx hb d_Pg_putRecord_79 (by decide) (fun hc22 => absurd hc22 (by decide)) (fun hc22 => ?_)
  refine lv_iconst (v := 2) hx hb d_Pg_putRecord_82 (by decide) ?_
  refine lv_goto (tgt := 87) hx hb d_Pg_putRecord_83 (by decide) ?_
  refine hm_callv (va_runV (As := [.int (at_ + 25), .int 2]) (b := pg) (rest := []) ⟨hx, hb, hml, hown, hts⟩ (c_Page_put l D t G ak av h18 pg pb 2048 (at_ + 25) 2 f_pg ⟨f, hfit, f_pb⟩ (by decide)) ⟨cw9B 2 hts mw_66 mw_67 mw_52 rfl rfl (by decide +kernel) ⟨Nat.le_of_ble_eq_true rfl, Nat.le_of_ble_eq_true rfl⟩, hts _ mw_68, hts _ mw_69⟩ (hP_V (q := (R_Pg, F_Pg, 1)) kE_ok hE hK hH f_pg rfl) rfl rfl hl.1 rfl (lv_room (Nat.le_of_ble_eq_true rfl)) d_Pg_putRecord_87 ⟨Nat.le_of_ble_eq_true rfl, Nat.le_of_ble_eq_true rfl⟩) hLo (fun h23 H24 locs hp26 hH z25 hLo => ?_)
  have hz : s.heap.size ≤ H24.size := Nat.le_trans hz z25
  obtain ⟨hk9, f, hfit, f_pb2⟩ := hp26
  have f_pg : h23 pg = some (.inr (3, [.ref pb])) := kp_at hk9 f_pg (nmc (Ne.symm (h_neA f_pb f_pg)) nm0)
  have f_rt : h23 rt = some (.inr (1, [.int 0, .null, .int 1, .long 0, .int 0, .int 0, .int 0, .int 0, .int 0, .int sc, .int np])) := kp_at hk9 f_rt (nmc (Ne.symm (h_neA f_pb f_rt)) nm0)
  have hkp : kp [pb] h h23 := kp_tr2 hkp hk9 (List.forall_mem_cons.mpr ⟨Or.inl (by simp), List.forall_mem_nil _⟩)
  have f_pb : h23 pb = some (.inl ((t 0), 2048, .inl f)) := f_pb2
  refine lv_aload_n hx hb d_Pg_putRecord_90 rfl (lv_at hl 2 rfl) ?_
  refine lv_iload_n hx hb d_Pg_putRecord_91 rfl (lv_at hl 3 rfl) ?_
  refine lv_bipush (v := 28) hx hb d_Pg_putRecord_92 (by decide) ?_
  refine lv_iadd hx hb d_Pg_putRecord_94 ?_
  refine lv_iconst (v := 2) hx hb d_Pg_putRecord_95 (by decide) ?_
  refine lv_iconst (v := 1) hx hb d_Pg_putRecord_96 (by decide) ?_
  refine hm_callv (va_runV (As := [.int (at_ + 28), .int 2, .int 1]) (b := pg) (rest := []) ⟨hx, hb, hml, hown, hts⟩ (c_Page_putBoth l D t G ak av h23 pg pb 2048 (at_ + 28) 2 1 f_pg ⟨f, hfit, f_pb⟩ (by decide)) ⟨cw9B 3 hts mw_127 mw_128 mw_52 rfl rfl (by decide +kernel) ⟨Nat.le_of_ble_eq_true rfl, Nat.le_of_ble_eq_true rfl⟩, hts _ mw_129, hts _ mw_130⟩ (hP_V (q := (R_Pg, F_Pg, 1)) kE_ok hE hK hH f_pg rfl) rfl rfl hl.1 rfl (lv_room (Nat.le_of_ble_eq_true rfl)) d_Pg_putRecord_97 ⟨Nat.le_of_ble_eq_true rfl, Nat.le_of_ble_eq_true rfl⟩) hLo (fun h27 H28 locs hp30 hH z29 hLo => ?_)
  have hz : s.heap.size ≤ H28.size := Nat.le_trans hz z29
  obtain ⟨hk9, f, hfit, f_pb2⟩ := hp30
  have f_pg : h27 pg = some (.inr (3, [.ref pb])) := kp_at hk9 f_pg (nmc (Ne.symm (h_neA f_pb f_pg)) nm0)
  have f_rt : h27 rt = some (.inr (1, [.int 0, .null, .int 1, .long 0, .int 0, .int 0, .int 0, .int 0, .int 0, .int sc, .int np])) := kp_at hk9 f_rt (nmc (Ne.symm (h_neA f_pb f_rt)) nm0)
  have hkp : kp [pb] h h27 := kp_tr2 hkp hk9 (List.forall_mem_cons.mpr ⟨Or.inl (by simp), List.forall_mem_nil _⟩)
  have f_pb : h27 pb = some (.inl ((t 0), 2048, .inl f)) := f_pb2
  refine lv_aload_n hx hb d_Pg_putRecord_100 rfl (lv_at hl 2 rfl) ?_
  refine lv_iload_n hx hb d_Pg_putRecord_101 rfl (lv_at hl 3 rfl) ?_
  refine lv_bipush (v := 32) hx hb d_Pg_putRecord_102 (by decide) ?_
  refine lv_iadd hx hb d_Pg_putRecord_104 ?_
  refine lv_iload hx hb d_Pg_putRecord_105 (lv_at hl 1 rfl) ?_
  refine hm_callv (va_runV (As := [.int (at_ + 32), .int 1]) (b := pg) (rest := []) ⟨hx, hb, hml, hown, hts⟩ (c_Page_put l D t G ak av h27 pg pb 2048 (at_ + 32) 1 f_pg ⟨f, hfit, f_pb⟩ (by decide)) ⟨cw9B 2 hts mw_66 mw_67 mw_52 rfl rfl (by decide +kernel) ⟨Nat.le_of_ble_eq_true rfl, Nat.le_of_ble_eq_true rfl⟩, hts _ mw_68, hts _ mw_69⟩ (hP_V (q := (R_Pg, F_Pg, 1)) kE_ok hE hK hH f_pg rfl) rfl rfl hl.1 rfl (lv_room (Nat.le_of_ble_eq_true rfl)) d_Pg_putRecord_107 ⟨Nat.le_of_ble_eq_true rfl, Nat.le_of_ble_eq_true rfl⟩) hLo (fun h31 H32 locs hp34 hH z33 hLo => ?_)
  have hz : s.heap.size ≤ H32.size := Nat.le_trans hz z33
  obtain ⟨hk9, f, hfit, f_pb2⟩ := hp34
  have f_pg : h31 pg = some (.inr (3, [.ref pb])) := kp_at hk9 f_pg (nmc (Ne.symm (h_neA f_pb f_pg)) nm0)
  have f_rt : h31 rt = some (.inr (1, [.int 0, .null, .int 1, .long 0, .int 0, .int 0, .int 0, .int 0, .int 0, .int sc, .int np])) := kp_at hk9 f_rt (nmc (Ne.symm (h_neA f_pb f_rt)) nm0)
  have hkp : kp [pb] h h31 := kp_tr2 hkp hk9 (List.forall_mem_cons.mpr ⟨Or.inl (by simp), List.forall_mem_nil _⟩)
  have f_pb : h31 pb = some (.inl ((t 0), 2048, .inl f)) := f_pb2
  refine lv_iload_n hx hb d_Pg_putRecord_110 rfl (lv_at hl 5 rfl) ?_
  refine lv_iconst (v := -1) hx hb d_Pg_putRecord_111 (by decide) ?_
  refine lv_icmp_ne (tgt := 127) hx hb d_Pg_putRecord_112 (by decide) (fun hc35 => ?_) (fun hc35 => absurd hc35 (by decide))
  refine lv_aload_n hx hb d_Pg_putRecord_127 rfl (lv_at hl 2 rfl) ?_
  refine lv_iload_n hx hb d_Pg_putRecord_128 rfl (lv_at hl 3 rfl) ?_
  refine lv_bipush (v := 33) hx hb d_Pg_putRecord_129 (by decide) ?_
  refine lv_iadd hx hb d_Pg_putRecord_131 ?_
  refine lv_iload_n hx hb d_Pg_putRecord_132 rfl (lv_at hl 5 rfl) ?_
  refine hm_callv (va_runV (As := [.int (at_ + 33), .int 0]) (b := pg) (rest := []) ⟨hx, hb, hml, hown, hts⟩ (c_Page_put l D t G ak av h31 pg pb 2048 (at_ + 33) 0 f_pg ⟨f, hfit, f_pb⟩ (by decide)) ⟨cw9B 2 hts mw_66 mw_67 mw_52 rfl rfl (by decide +kernel) ⟨Nat.le_of_ble_eq_true rfl, Nat.le_of_ble_eq_true rfl⟩, hts _ mw_68, hts _ mw_69⟩ (hP_V (q := (R_Pg, F_Pg, 1)) kE_ok hE hK hH f_pg rfl) rfl rfl hl.1 rfl (lv_room (Nat.le_of_ble_eq_true rfl)) d_Pg_putRecord_133 ⟨Nat.le_of_ble_eq_true rfl, Nat.le_of_ble_eq_true rfl⟩) hLo (fun h36 H37 locs hp39 hH z38 hLo => ?_)
  have hz : s.heap.size ≤ H37.size := Nat.le_trans hz z38
  obtain ⟨hk9, f, hfit, f_pb2⟩ := hp39
  have f_pg : h36 pg = some (.inr (3, [.ref pb])) := kp_at hk9 f_pg (nmc (Ne.symm (h_neA f_pb f_pg)) nm0)
  have f_rt : h36 rt = some (.inr (1, [.int 0, .null, .int 1, .long 0, .int 0, .int 0, .int 0, .int 0, .int 0, .int sc, .int np])) := kp_at hk9 f_rt (nmc (Ne.symm (h_neA f_pb f_rt)) nm0)
  have hkp : kp [pb] h h36 := kp_tr2 hkp hk9 (List.forall_mem_cons.mpr ⟨Or.inl (by simp), List.forall_mem_nil _⟩)
  have f_pb : h36 pb = some (.inl ((t 0), 2048, .inl f)) := f_pb2
  refine lv_iload_n hx hb d_Pg_putRecord_136 rfl (lv_at hl 3 rfl) ?_
  refine lv_iload hx hb d_Pg_putRecord_137 (lv_at hl 0 rfl) ?_
  refine lv_iadd hx hb d_Pg_putRecord_139 ?_
  exact W.iret (v := at_ + 34) hx hb hr (fun t9 ht hW => ⟨at_ + 34, h36, rfl, ⟨rfl, hkp, f, hfit, f_pb⟩, by rw [ht]; exact hH, by rw [ht]; exact hz⟩) hLo d_Pg_putRecord_140

set_option maxHeartbeats 4000000 in
set_option maxRecDepth 100000 in
theorem c_Page_putRecord_root1 (l : Launch) (D : va_G) (t : Nat → ClassId) (G : hG) (ak av : Nat → Nat) (h : hM) (pg pb rt : Nat) (at_ sc np : Int32) (f_pg : h pg = some (.inr (3, [.ref pb]))) (hpb : pgF t h pb 2048) (f_rt : h rt = some (.inr (1, [.int 0, .null, .int 1, .long 0, .int 0, .int 0, .int 0, .int 0, .int 0, .int sc, .int np]))) : Met l y_Pg_putRecord (.code y_Pg_putRecord b_Pg_putRecord 6 (some .int) :: lw_g) { frames := 2, cells := 0, slots := 0, locals := 46 } (hP (kE D t G ak av) D vwCl G h [.ref pg, .int at_, .ref rt, .int 1]) (hQi D vwCl G (fun r h' => r = at_ + 34 ∧ kp [pb] h h' ∧ pgF t h' pb 2048)) 0 0 G.P := by
  refine Met.ofW (cc := b_Pg_putRecord) (maxL := 6) (ret := (some .int)) (by decide) rfl ?_
  intro p e s m args below meth c s₁ Bd hml hv
  obtain ⟨ha, hE, hH⟩ := hv
  have hx := Bd.exec
  have hb := Bd.bytes
  have hr := Bd.returns
  have hts : ∀ w ∈ lw_g, w.before args s = true := fun w hw => atoms_spec (ws := (.code y_Pg_putRecord b_Pg_putRecord 6 (some .int) :: lw_g)) Bd.pre w (List.mem_cons_of_mem _ hw)
  have hown : s.vm.findClass R_Pg = some m.cls := findClass_of_methodNamed Bd.named
  have hlocks := Bd.notSynchronized
  have hK := hE.1
  have hH0 := hH
  have hLo : hLc G.P [] := hLc_nil
  have hz : s.heap.size ≤ s.heap.size := Nat.le_refl _
  have hkp : kp [pb] h h := kp_rf
  have hl := lv_entry [.ref pg, .int at_, .ref rt, .int 1] (n := 6) (Nat.le_of_ble_eq_true rfl)
  rw [show entryFrame m args 6 = F0 m 0 ((lg_sl [.ref pg, .int at_, .ref rt, .int 1] ++ List.replicate (6 - (lg_sl [.ref pg, .int at_, .ref rt, .int 1]).length) Slot.unset).toArray) [] from (by rw [ha]; exact lg_entry_eq m [.ref pg, .int at_, .ref rt, .int 1] 6)]
  generalize (lg_sl [.ref pg, .int at_, .ref rt, .int 1] ++ List.replicate (6 - (lg_sl [.ref pg, .int at_, .ref rt, .int 1]).length) Slot.unset).toArray = ls at hl ⊢
  have hl : lv_has ls 6 [(0, .ref pg), (1, .int at_), (2, .ref rt), (3, .int 1)] := hl
  obtain ⟨f, hfit, f_pb⟩ := hpb
  refine lv_iload_n hx hb d_Pg_putRecord_0 rfl (lv_at hl 3 rfl) ?_
  refine lv_iconst (v := -1) hx hb d_Pg_putRecord_1 (by decide) ?_
  refine lv_icmp_ne (tgt := 12) hx hb d_Pg_putRecord_2 (by decide) (fun hc1 => ?_) (fun hc1 => absurd hc1 (by decide))
  refine lv_iconst (v := 1) hx hb d_Pg_putRecord_12 (by decide) ?_
  refine lv_istore (lv' := [(4, .int 1), (0, .ref pg), (1, .int at_), (2, .ref rt), (3, .int 1)]) hx hb d_Pg_putRecord_13 hl (by decide) rfl (fun ls hl => ?_)
  refine lv_bipush (v := 33) hx hb d_Pg_putRecord_15 (by decide) ?_
  refine lv_iload hx hb d_Pg_putRecord_17 (lv_at hl 0 rfl) ?_
  refine lv_iadd hx hb d_Pg_putRecord_19 ?_
  refine hm_calli (va_runSN (As := [.int (33 + 1)]) (rest := []) ⟨hx, hb, hml, hown, hts⟩ (c_Di_evened l D t G ak av h (33 + 1)) ⟨cw9N 1 hts mw_120 (nmU hE nM_7) mw_121 rfl rfl (by decide +kernel) ⟨Nat.le_of_ble_eq_true rfl, Nat.le_of_ble_eq_true rfl⟩, hts _ mw_122, trivial⟩ (hP_S kE_ok hE hH) rfl rfl hl.1 rfl (lv_room (Nat.le_of_ble_eq_true rfl)) d_Pg_putRecord_20 ⟨Nat.le_of_ble_eq_true rfl, Nat.le_of_ble_eq_true rfl⟩) hLo (fun r2 h3 H4 locs hp6 hH z5 hLo => ?_)
  have hz : s.heap.size ≤ H4.size := Nat.le_trans hz z5
  obtain ⟨rfl, rfl⟩ := hp6
  refine lv_topi (fun v7 e8 => ?_)
  obtain rfl : v7 = 34 := e8.trans (by decide)
  refine lv_istore (lv' := [(5, .int 34), (4, .int 1), (0, .ref pg), (1, .int at_), (2, .ref rt), (3, .int 1)]) hx hb d_Pg_putRecord_23 hl (by decide) rfl (fun ls hl => ?_)
  refine lv_aload_n hx hb d_Pg_putRecord_25 rfl (lv_at hl 2 rfl) ?_
  refine lv_iload_n hx hb d_Pg_putRecord_26 rfl (lv_at hl 3 rfl) ?_
  refine lv_iload hx hb d_Pg_putRecord_27 (lv_at hl 0 rfl) ?_
  refine hm_callv (va_runV (As := [.int at_, .int 34]) (b := pg) (rest := []) ⟨hx, hb, hml, hown, hts⟩ (c_Page_put l D t G ak av h pg pb 2048 at_ 34 f_pg ⟨f, hfit, f_pb⟩ (by decide)) ⟨cw9B 2 hts mw_66 mw_67 mw_52 rfl rfl (by decide +kernel) ⟨Nat.le_of_ble_eq_true rfl, Nat.le_of_ble_eq_true rfl⟩, hts _ mw_68, hts _ mw_69⟩ (hP_V (q := (R_Pg, F_Pg, 1)) kE_ok hE hK hH f_pg rfl) rfl rfl hl.1 rfl (lv_room (Nat.le_of_ble_eq_true rfl)) d_Pg_putRecord_29 ⟨Nat.le_of_ble_eq_true rfl, Nat.le_of_ble_eq_true rfl⟩) hLo (fun h9 H10 locs hp12 hH z11 hLo => ?_)
  have hz : s.heap.size ≤ H10.size := Nat.le_trans hz z11
  obtain ⟨hk9, f, hfit, f_pb2⟩ := hp12
  have f_pg : h9 pg = some (.inr (3, [.ref pb])) := kp_at hk9 f_pg (nmc (Ne.symm (h_neA f_pb f_pg)) nm0)
  have f_rt : h9 rt = some (.inr (1, [.int 0, .null, .int 1, .long 0, .int 0, .int 0, .int 0, .int 0, .int 0, .int sc, .int np])) := kp_at hk9 f_rt (nmc (Ne.symm (h_neA f_pb f_rt)) nm0)
  have hkp : kp [pb] h h9 := kp_tr2 hkp hk9 (List.forall_mem_cons.mpr ⟨Or.inl (by simp), List.forall_mem_nil _⟩)
  have f_pb : h9 pb = some (.inl ((t 0), 2048, .inl f)) := f_pb2
  refine lv_aload_n hx hb d_Pg_putRecord_32 rfl (lv_at hl 2 rfl) ?_
  refine lv_iload_n hx hb d_Pg_putRecord_33 rfl (lv_at hl 3 rfl) ?_
  refine lv_iconst (v := 2) hx hb d_Pg_putRecord_34 (by decide) ?_
  refine lv_iadd hx hb d_Pg_putRecord_35 ?_
  refine lv_iconst (v := 4) hx hb d_Pg_putRecord_36 (by decide) ?_
  refine lv_aload_n hx hb d_Pg_putRecord_37 rfl (lv_at hl 4 rfl) ?_
  refine hm_get (ci := 1) (v := .int sc) (C := R_No) (T := F_No) (N := 11) hx hb hts ig_No hown hK hH f_rt rfl 9 (by decide) (hts _ mw_111) (fun _ h9 => h9) rfl d_Pg_putRecord_38 ?_
  refine hm_callv (va_runV (As := [.int (at_ + 2), .int 4, .int sc]) (b := pg) (rest := []) ⟨hx, hb, hml, hown, hts⟩ (c_Page_putBoth l D t G ak av h9 pg pb 2048 (at_ + 2) 4 sc f_pg ⟨f, hfit, f_pb⟩ (by decide)) ⟨cw9B 3 hts mw_127 mw_128 mw_52 rfl rfl (by decide +kernel) ⟨Nat.le_of_ble_eq_true rfl, Nat.le_of_ble_eq_true rfl⟩, hts _ mw_129, hts _ mw_130⟩ (hP_V (q := (R_Pg, F_Pg, 1)) kE_ok hE hK hH f_pg rfl) rfl rfl hl.1 rfl (lv_room (Nat.le_of_ble_eq_true rfl)) d_Pg_putRecord_41 ⟨Nat.le_of_ble_eq_true rfl, Nat.le_of_ble_eq_true rfl⟩) hLo (fun h13 H14 locs hp16 hH z15 hLo => ?_)
  have hz : s.heap.size ≤ H14.size := Nat.le_trans hz z15
  obtain ⟨hk9, f, hfit, f_pb2⟩ := hp16
  have f_pg : h13 pg = some (.inr (3, [.ref pb])) := kp_at hk9 f_pg (nmc (Ne.symm (h_neA f_pb f_pg)) nm0)
  have f_rt : h13 rt = some (.inr (1, [.int 0, .null, .int 1, .long 0, .int 0, .int 0, .int 0, .int 0, .int 0, .int sc, .int np])) := kp_at hk9 f_rt (nmc (Ne.symm (h_neA f_pb f_rt)) nm0)
  have hkp : kp [pb] h h13 := kp_tr2 hkp hk9 (List.forall_mem_cons.mpr ⟨Or.inl (by simp), List.forall_mem_nil _⟩)
  have f_pb : h13 pb = some (.inl ((t 0), 2048, .inl f)) := f_pb2
  refine lv_aload_n hx hb d_Pg_putRecord_44 rfl (lv_at hl 2 rfl) ?_
  refine lv_iload_n hx hb d_Pg_putRecord_45 rfl (lv_at hl 3 rfl) ?_
  refine lv_bipush (v := 10) hx hb d_Pg_putRecord_46 (by decide) ?_
  refine lv_iadd hx hb d_Pg_putRecord_48 ?_
  refine lv_iconst (v := 4) hx hb d_Pg_putRecord_49 (by decide) ?_
  refine lv_aload_n hx hb d_Pg_putRecord_50 rfl (lv_at hl 4 rfl) ?_
  refine hm_get (ci := 1) (v := .int 1) (C := R_No) (T := F_No) (N := 11) hx hb hts ig_No hown hK hH f_rt rfl 2 (by decide) (hts _ mw_131) (fun _ h9 => h9) rfl d_Pg_putRecord_51 ?_
  refine lv_if_eq (tgt := 63) hx hb d_Pg_putRecord_54 (by decide) (fun hc17 => absurd hc17 (by decide)) (fun hc17 => ?_)
  refine lv_sipush (v := 2048) hx hb d_Pg_putRecord_57 (by decide) ?_
  refine lv_goto (tgt := 67) hx hb d_Pg_putRecord_60 (by decide) ?_
  refine hm_callv (va_runV (As := [.int (at_ + 10), .int 4, .int 2048]) (b := pg) (rest := []) ⟨hx, hb, hml, hown, hts⟩ (c_Page_putBoth l D t G ak av h13 pg pb 2048 (at_ + 10) 4 2048 f_pg ⟨f, hfit, f_pb⟩ (by decide)) ⟨cw9B 3 hts mw_127 mw_128 mw_52 rfl rfl (by decide +kernel) ⟨Nat.le_of_ble_eq_true rfl, Nat.le_of_ble_eq_true rfl⟩, hts _ mw_129, hts _ mw_130⟩ (hP_V (q := (R_Pg, F_Pg, 1)) kE_ok hE hK hH f_pg rfl) rfl rfl hl.1 rfl (lv_room (Nat.le_of_ble_eq_true rfl)) d_Pg_putRecord_67 ⟨Nat.le_of_ble_eq_true rfl, Nat.le_of_ble_eq_true rfl⟩) hLo (fun h18 H19 locs hp21 hH z20 hLo => ?_)
  have hz : s.heap.size ≤ H19.size := Nat.le_trans hz z20
  obtain ⟨hk9, f, hfit, f_pb2⟩ := hp21
  have f_pg : h18 pg = some (.inr (3, [.ref pb])) := kp_at hk9 f_pg (nmc (Ne.symm (h_neA f_pb f_pg)) nm0)
  have f_rt : h18 rt = some (.inr (1, [.int 0, .null, .int 1, .long 0, .int 0, .int 0, .int 0, .int 0, .int 0, .int sc, .int np])) := kp_at hk9 f_rt (nmc (Ne.symm (h_neA f_pb f_rt)) nm0)
  have hkp : kp [pb] h h18 := kp_tr2 hkp hk9 (List.forall_mem_cons.mpr ⟨Or.inl (by simp), List.forall_mem_nil _⟩)
  have f_pb : h18 pb = some (.inl ((t 0), 2048, .inl f)) := f_pb2
  refine lv_aload_n hx hb d_Pg_putRecord_70 rfl (lv_at hl 2 rfl) ?_
  refine lv_iload_n hx hb d_Pg_putRecord_71 rfl (lv_at hl 3 rfl) ?_
  refine lv_bipush (v := 25) hx hb d_Pg_putRecord_72 (by decide) ?_
  refine lv_iadd hx hb d_Pg_putRecord_74 ?_
  refine lv_aload_n hx hb d_Pg_putRecord_75 rfl (lv_at hl 4 rfl) ?_
  refine hm_get (ci := 1) (v := .int 1) (C := R_No) (T := F_No) (N := 11) hx hb hts ig_No hown hK hH f_rt rfl 2 (by decide) (hts _ mw_131) (fun _ h9 => h9) rfl d_Pg_putRecord_76 ?_
  refine lv_if_eq (tgt := 86) hx hb d_Pg_putRecord_79 (by decide) (fun hc22 => absurd hc22 (by decide)) (fun hc22 => ?_)
  refine lv_iconst (v := 2) hx hb d_Pg_putRecord_82 (by decide) ?_
  refine lv_goto (tgt := 87) hx hb d_Pg_putRecord_83 (by decide) ?_
  refine hm_callv (va_runV (As := [.int (at_ + 25), .int 2]) (b := pg) (rest := []) ⟨hx, hb, hml, hown, hts⟩ (c_Page_put l D t G ak av h18 pg pb 2048 (at_ + 25) 2 f_pg ⟨f, hfit, f_pb⟩ (by decide)) ⟨cw9B 2 hts mw_66 mw_67 mw_52 rfl rfl (by decide +kernel) ⟨Nat.le_of_ble_eq_true rfl, Nat.le_of_ble_eq_true rfl⟩, hts _ mw_68, hts _ mw_69⟩ (hP_V (q := (R_Pg, F_Pg, 1)) kE_ok hE hK hH f_pg rfl) rfl rfl hl.1 rfl (lv_room (Nat.le_of_ble_eq_true rfl)) d_Pg_putRecord_87 ⟨Nat.le_of_ble_eq_true rfl, Nat.le_of_ble_eq_true rfl⟩) hLo (fun h23 H24 locs hp26 hH z25 hLo => ?_)
  have hz : s.heap.size ≤ H24.size := Nat.le_trans hz z25
  obtain ⟨hk9, f, hfit, f_pb2⟩ := hp26
  have f_pg : h23 pg = some (.inr (3, [.ref pb])) := kp_at hk9 f_pg (nmc (Ne.symm (h_neA f_pb f_pg)) nm0)
  have f_rt : h23 rt = some (.inr (1, [.int 0, .null, .int 1, .long 0, .int 0, .int 0, .int 0, .int 0, .int 0, .int sc, .int np])) := kp_at hk9 f_rt (nmc (Ne.symm (h_neA f_pb f_rt)) nm0)
  have hkp : kp [pb] h h23 := kp_tr2 hkp hk9 (List.forall_mem_cons.mpr ⟨Or.inl (by simp), List.forall_mem_nil _⟩)
  have f_pb : h23 pb = some (.inl ((t 0), 2048, .inl f)) := f_pb2
  refine lv_aload_n hx hb d_Pg_putRecord_90 rfl (lv_at hl 2 rfl) ?_
  refine lv_iload_n hx hb d_Pg_putRecord_91 rfl (lv_at hl 3 rfl) ?_
  refine lv_bipush (v := 28) hx hb d_Pg_putRecord_92 (by decide) ?_
  refine lv_iadd hx hb d_Pg_putRecord_94 ?_
  refine lv_iconst (v := 2) hx hb d_Pg_putRecord_95 (by decide) ?_
  refine lv_iconst (v := 1) hx hb d_Pg_putRecord_96 (by decide) ?_
  refine hm_callv (va_runV (As := [.int (at_ + 28), .int 2, .int 1]) (b := pg) (rest := []) ⟨hx, hb, hml, hown, hts⟩ (c_Page_putBoth l D t G ak av h23 pg pb 2048 (at_ + 28) 2 1 f_pg ⟨f, hfit, f_pb⟩ (by decide)) ⟨cw9B 3 hts mw_127 mw_128 mw_52 rfl rfl (by decide +kernel) ⟨Nat.le_of_ble_eq_true rfl, Nat.le_of_ble_eq_true rfl⟩, hts _ mw_129, hts _ mw_130⟩ (hP_V (q := (R_Pg, F_Pg, 1)) kE_ok hE hK hH f_pg rfl) rfl rfl hl.1 rfl (lv_room (Nat.le_of_ble_eq_true rfl)) d_Pg_putRecord_97 ⟨Nat.le_of_ble_eq_true rfl, Nat.le_of_ble_eq_true rfl⟩) hLo (fun h27 H28 locs hp30 hH z29 hLo => ?_)
  have hz : s.heap.size ≤ H28.size := Nat.le_trans hz z29
  obtain ⟨hk9, f, hfit, f_pb2⟩ := hp30
  have f_pg : h27 pg = some (.inr (3, [.ref pb])) := kp_at hk9 f_pg (nmc (Ne.symm (h_neA f_pb f_pg)) nm0)
  have f_rt : h27 rt = some (.inr (1, [.int 0, .null, .int 1, .long 0, .int 0, .int 0, .int 0, .int 0, .int 0, .int sc, .int np])) := kp_at hk9 f_rt (nmc (Ne.symm (h_neA f_pb f_rt)) nm0)
  have hkp : kp [pb] h h27 := kp_tr2 hkp hk9 (List.forall_mem_cons.mpr ⟨Or.inl (by simp), List.forall_mem_nil _⟩)
  have f_pb : h27 pb = some (.inl ((t 0), 2048, .inl f)) := f_pb2
  refine lv_aload_n hx hb d_Pg_putRecord_100 rfl (lv_at hl 2 rfl) ?_
  refine lv_iload_n hx hb d_Pg_putRecord_101 rfl (lv_at hl 3 rfl) ?_
  refine lv_bipush (v := 32) hx hb d_Pg_putRecord_102 (by decide) ?_
  refine lv_iadd hx hb d_Pg_putRecord_104 ?_
  refine lv_iload hx hb d_Pg_putRecord_105 (lv_at hl 1 rfl) ?_
  refine hm_callv (va_runV (As := [.int (at_ + 32), .int 1]) (b := pg) (rest := []) ⟨hx, hb, hml, hown, hts⟩ (c_Page_put l D t G ak av h27 pg pb 2048 (at_ + 32) 1 f_pg ⟨f, hfit, f_pb⟩ (by decide)) ⟨cw9B 2 hts mw_66 mw_67 mw_52 rfl rfl (by decide +kernel) ⟨Nat.le_of_ble_eq_true rfl, Nat.le_of_ble_eq_true rfl⟩, hts _ mw_68, hts _ mw_69⟩ (hP_V (q := (R_Pg, F_Pg, 1)) kE_ok hE hK hH f_pg rfl) rfl rfl hl.1 rfl (lv_room (Nat.le_of_ble_eq_true rfl)) d_Pg_putRecord_107 ⟨Nat.le_of_ble_eq_true rfl, Nat.le_of_ble_eq_true rfl⟩) hLo (fun h31 H32 locs hp34 hH z33 hLo => ?_)
  have hz : s.heap.size ≤ H32.size := Nat.le_trans hz z33
  obtain ⟨hk9, f, hfit, f_pb2⟩ := hp34
  have f_pg : h31 pg = some (.inr (3, [.ref pb])) := kp_at hk9 f_pg (nmc (Ne.symm (h_neA f_pb f_pg)) nm0)
  have f_rt : h31 rt = some (.inr (1, [.int 0, .null, .int 1, .long 0, .int 0, .int 0, .int 0, .int 0, .int 0, .int sc, .int np])) := kp_at hk9 f_rt (nmc (Ne.symm (h_neA f_pb f_rt)) nm0)
  have hkp : kp [pb] h h31 := kp_tr2 hkp hk9 (List.forall_mem_cons.mpr ⟨Or.inl (by simp), List.forall_mem_nil _⟩)
  have f_pb : h31 pb = some (.inl ((t 0), 2048, .inl f)) := f_pb2
  refine lv_iload_n hx hb d_Pg_putRecord_110 rfl (lv_at hl 5 rfl) ?_
  refine lv_iconst (v := -1) hx hb d_Pg_putRecord_111 (by decide) ?_
  refine lv_icmp_ne (tgt := 127) hx hb d_Pg_putRecord_112 (by decide) (fun hc35 => ?_) (fun hc35 => absurd hc35 (by decide))
  refine lv_aload_n hx hb d_Pg_putRecord_127 rfl (lv_at hl 2 rfl) ?_
  refine lv_iload_n hx hb d_Pg_putRecord_128 rfl (lv_at hl 3 rfl) ?_
  refine lv_bipush (v := 33) hx hb d_Pg_putRecord_129 (by decide) ?_
  refine lv_iadd hx hb d_Pg_putRecord_131 ?_
  refine lv_iload_n hx hb d_Pg_putRecord_132 rfl (lv_at hl 5 rfl) ?_
  refine hm_callv (va_runV (As := [.int (at_ + 33), .int 1]) (b := pg) (rest := []) ⟨hx, hb, hml, hown, hts⟩ (c_Page_put l D t G ak av h31 pg pb 2048 (at_ + 33) 1 f_pg ⟨f, hfit, f_pb⟩ (by decide)) ⟨cw9B 2 hts mw_66 mw_67 mw_52 rfl rfl (by decide +kernel) ⟨Nat.le_of_ble_eq_true rfl, Nat.le_of_ble_eq_true rfl⟩, hts _ mw_68, hts _ mw_69⟩ (hP_V (q := (R_Pg, F_Pg, 1)) kE_ok hE hK hH f_pg rfl) rfl rfl hl.1 rfl (lv_room (Nat.le_of_ble_eq_true rfl)) d_Pg_putRecord_133 ⟨Nat.le_of_ble_eq_true rfl, Nat.le_of_ble_eq_true rfl⟩) hLo (fun h36 H37 locs hp39 hH z38 hLo => ?_)
  have hz : s.heap.size ≤ H37.size := Nat.le_trans hz z38
  obtain ⟨hk9, f, hfit, f_pb2⟩ := hp39
  have f_pg : h36 pg = some (.inr (3, [.ref pb])) := kp_at hk9 f_pg (nmc (Ne.symm (h_neA f_pb f_pg)) nm0)
  have f_rt : h36 rt = some (.inr (1, [.int 0, .null, .int 1, .long 0, .int 0, .int 0, .int 0, .int 0, .int 0, .int sc, .int np])) := kp_at hk9 f_rt (nmc (Ne.symm (h_neA f_pb f_rt)) nm0)
  have hkp : kp [pb] h h36 := kp_tr2 hkp hk9 (List.forall_mem_cons.mpr ⟨Or.inl (by simp), List.forall_mem_nil _⟩)
  have f_pb : h36 pb = some (.inl ((t 0), 2048, .inl f)) := f_pb2
  refine lv_iload_n hx hb d_Pg_putRecord_136 rfl (lv_at hl 3 rfl) ?_
  refine lv_iload hx hb d_Pg_putRecord_137 (lv_at hl 0 rfl) ?_
  refine lv_iadd hx hb d_Pg_putRecord_139 ?_
  exact W.iret (v := at_ + 34) hx hb hr (fun t9 ht hW => ⟨at_ + 34, h36, rfl, ⟨rfl, hkp, f, hfit, f_pb⟩, by rw [ht]; exact hH, by rw [ht]; exact hz⟩) hLo d_Pg_putRecord_140

set_option maxHeartbeats 4000000 in
set_option maxRecDepth 100000 in
theorem c_Page_standard (l : Launch) (D : va_G) (t : Nat → ClassId) (G : hG) (ak av : Nat → Nat) (h : hM) (pg pb : Nat) (bg : Int32) (f_pg : h pg = some (.inr (3, [.ref pb]))) (hpb : pgF t h pb 2048) : Met l y_Pg_fillWithStandard (.code y_Pg_fillWithStandard b_Pg_fillWithStandard 2 none :: lw_g) { frames := 5, cells := 0, slots := 0, locals := 108 } (hP (kE D t G ak av) D vwCl G h [.ref pg, .int bg]) (hQv D vwCl G (fun h' => kp [pb] h h' ∧ pgF t h' pb 2048)) 0 0 G.P := by
  refine Met.ofW (cc := b_Pg_fillWithStandard) (maxL := 2) (ret := none) (by decide) rfl ?_
  intro p e s m args below meth c s₁ Bd hml hv
  obtain ⟨ha, hE, hH⟩ := hv
  have hx := Bd.exec
  have hb := Bd.bytes
  have hr := Bd.returns
  have hts : ∀ w ∈ lw_g, w.before args s = true := fun w hw => atoms_spec (ws := (.code y_Pg_fillWithStandard b_Pg_fillWithStandard 2 none :: lw_g)) Bd.pre w (List.mem_cons_of_mem _ hw)
  have hown : s.vm.findClass R_Pg = some m.cls := findClass_of_methodNamed Bd.named
  have hlocks := Bd.notSynchronized
  have hK := hE.1
  have hH0 := hH
  have hLo : hLc G.P [] := hLc_nil
  have hz : s.heap.size ≤ s.heap.size := Nat.le_refl _
  have hkp : kp [pb] h h := kp_rf
  have hl := lv_entry [.ref pg, .int bg] (n := 2) (Nat.le_of_ble_eq_true rfl)
  rw [show entryFrame m args 2 = F0 m 0 ((lg_sl [.ref pg, .int bg] ++ List.replicate (2 - (lg_sl [.ref pg, .int bg]).length) Slot.unset).toArray) [] from (by rw [ha]; exact lg_entry_eq m [.ref pg, .int bg] 2)]
  generalize (lg_sl [.ref pg, .int bg] ++ List.replicate (2 - (lg_sl [.ref pg, .int bg]).length) Slot.unset).toArray = ls at hl ⊢
  have hl : lv_has ls 2 [(0, .ref pg), (1, .int bg)] := hl
  obtain ⟨f, hfit, f_pb⟩ := hpb
  refine lv_aload_n hx hb d_Pg_fillWithStandard_0 rfl (lv_at hl 0 rfl) ?_
  refine hm_callv (va_runV (As := []) (b := pg) (rest := []) ⟨hx, hb, hml, hown, hts⟩ (c_Page_clear l D t G ak av h pg pb 2048  f_pg ⟨f, hfit, f_pb⟩ (by decide)) ⟨cw9B 0 hts mw_132 mw_133 mw_52 rfl rfl (by decide +kernel) ⟨Nat.le_of_ble_eq_true rfl, Nat.le_of_ble_eq_true rfl⟩, hts _ mw_134, hts _ mw_135⟩ (hP_V (q := (R_Pg, F_Pg, 1)) kE_ok hE hK hH f_pg rfl) rfl rfl hl.1 rfl (lv_room (Nat.le_of_ble_eq_true rfl)) d_Pg_fillWithStandard_1 ⟨Nat.le_of_ble_eq_true rfl, Nat.le_of_ble_eq_true rfl⟩) hLo (fun h1 H2 locs hp4 hH z3 hLo => ?_)
  have hz : s.heap.size ≤ H2.size := Nat.le_trans hz z3
  obtain ⟨hk9, f, hfit, f_pb2⟩ := hp4
  have f_pg : h1 pg = some (.inr (3, [.ref pb])) := kp_at hk9 f_pg (nmc (Ne.symm (h_neA f_pb f_pg)) nm0)
  have hkp : kp [pb] h h1 := kp_tr2 hkp hk9 (List.forall_mem_cons.mpr ⟨Or.inl (by simp), List.forall_mem_nil _⟩)
  have f_pb : h1 pb = some (.inl ((t 0), 2048, .inl f)) := f_pb2
  refine lv_aload_n hx hb d_Pg_fillWithStandard_4 rfl (lv_at hl 0 rfl) ?_
  refine lv_iconst (v := 0) hx hb d_Pg_fillWithStandard_5 (by decide) ?_
  refine lv_iload_n hx hb d_Pg_fillWithStandard_6 rfl (lv_at hl 1 rfl) ?_
  refine hm_callv (va_runV (As := [.int 0, .int bg]) (b := pg) (rest := []) ⟨hx, hb, hml, hown, hts⟩ (c_Page_put l D t G ak av h1 pg pb 2048 0 bg f_pg ⟨f, hfit, f_pb⟩ (by decide)) ⟨cw9B 2 hts mw_66 mw_67 mw_52 rfl rfl (by decide +kernel) ⟨Nat.le_of_ble_eq_true rfl, Nat.le_of_ble_eq_true rfl⟩, hts _ mw_68, hts _ mw_69⟩ (hP_V (q := (R_Pg, F_Pg, 1)) kE_ok hE hK hH f_pg rfl) rfl rfl hl.1 rfl (lv_room (Nat.le_of_ble_eq_true rfl)) d_Pg_fillWithStandard_7 ⟨Nat.le_of_ble_eq_true rfl, Nat.le_of_ble_eq_true rfl⟩) hLo (fun h5 H6 locs hp8 hH z7 hLo => ?_)
  have hz : s.heap.size ≤ H6.size := Nat.le_trans hz z7
  obtain ⟨hk9, f, hfit, f_pb2⟩ := hp8
  have f_pg : h5 pg = some (.inr (3, [.ref pb])) := kp_at hk9 f_pg (nmc (Ne.symm (h_neA f_pb f_pg)) nm0)
  have hkp : kp [pb] h h5 := kp_tr2 hkp hk9 (List.forall_mem_cons.mpr ⟨Or.inl (by simp), List.forall_mem_nil _⟩)
  have f_pb : h5 pb = some (.inl ((t 0), 2048, .inl f)) := f_pb2
  refine lv_aload_n hx hb d_Pg_fillWithStandard_10 rfl (lv_at hl 0 rfl) ?_
  refine lv_iconst (v := 1) hx hb d_Pg_fillWithStandard_11 (by decide) ?_
  refine va_ldcS hx hb hown hE.2.2.2.2.2.1 d_Pg_fillWithStandard_12 ?_
  refine hm_callv (va_runV (As := [.int 1, .ref (ak 0)]) (b := pg) (rest := []) ⟨hx, hb, hml, hown, hts⟩ (c_Page_putText l D t G ak av h5 pg pb 2048 0 1 f_pg ⟨f, hfit, f_pb⟩ (by decide) (by decide)) ⟨cw9B 2 hts mw_136 mw_137 mw_52 rfl rfl (by decide +kernel) ⟨Nat.le_of_ble_eq_true rfl, Nat.le_of_ble_eq_true rfl⟩, hts _ mw_138, hts _ mw_139⟩ (hP_V (q := (R_Pg, F_Pg, 1)) kE_ok hE hK hH f_pg rfl) rfl rfl hl.1 rfl (lv_room (Nat.le_of_ble_eq_true rfl)) d_Pg_fillWithStandard_14 ⟨Nat.le_of_ble_eq_true rfl, Nat.le_of_ble_eq_true rfl⟩) hLo (fun h9 H10 locs hp12 hH z11 hLo => ?_)
  have hz : s.heap.size ≤ H10.size := Nat.le_trans hz z11
  obtain ⟨hk9, f, hfit, f_pb2⟩ := hp12
  have f_pg : h9 pg = some (.inr (3, [.ref pb])) := kp_at hk9 f_pg (nmc (Ne.symm (h_neA f_pb f_pg)) nm0)
  have hkp : kp [pb] h h9 := kp_tr2 hkp hk9 (List.forall_mem_cons.mpr ⟨Or.inl (by simp), List.forall_mem_nil _⟩)
  have f_pb : h9 pb = some (.inl ((t 0), 2048, .inl f)) := f_pb2
  refine lv_aload_n hx hb d_Pg_fillWithStandard_17 rfl (lv_at hl 0 rfl) ?_
  refine lv_bipush (v := 6) hx hb d_Pg_fillWithStandard_18 (by decide) ?_
  refine lv_iconst (v := 1) hx hb d_Pg_fillWithStandard_20 (by decide) ?_
  refine hm_callv (va_runV (As := [.int 6, .int 1]) (b := pg) (rest := []) ⟨hx, hb, hml, hown, hts⟩ (c_Page_put l D t G ak av h9 pg pb 2048 6 1 f_pg ⟨f, hfit, f_pb⟩ (by decide)) ⟨cw9B 2 hts mw_66 mw_67 mw_52 rfl rfl (by decide +kernel) ⟨Nat.le_of_ble_eq_true rfl, Nat.le_of_ble_eq_true rfl⟩, hts _ mw_68, hts _ mw_69⟩ (hP_V (q := (R_Pg, F_Pg, 1)) kE_ok hE hK hH f_pg rfl) rfl rfl hl.1 rfl (lv_room (Nat.le_of_ble_eq_true rfl)) d_Pg_fillWithStandard_21 ⟨Nat.le_of_ble_eq_true rfl, Nat.le_of_ble_eq_true rfl⟩) hLo (fun h13 H14 locs hp16 hH z15 hLo => ?_)
  have hz : s.heap.size ≤ H14.size := Nat.le_trans hz z15
  obtain ⟨hk9, f, hfit, f_pb2⟩ := hp16
  have f_pg : h13 pg = some (.inr (3, [.ref pb])) := kp_at hk9 f_pg (nmc (Ne.symm (h_neA f_pb f_pg)) nm0)
  have hkp : kp [pb] h h13 := kp_tr2 hkp hk9 (List.forall_mem_cons.mpr ⟨Or.inl (by simp), List.forall_mem_nil _⟩)
  have f_pb : h13 pb = some (.inl ((t 0), 2048, .inl f)) := f_pb2
  exact W.vret hx hb hr (fun t9 ht hW => ⟨h13, rfl, ⟨hkp, f, hfit, f_pb⟩, by rw [ht]; exact hH, by rw [ht]; exact hz⟩) hLo d_Pg_fillWithStandard_24

set_option maxHeartbeats 4000000 in
set_option maxRecDepth 100000 in
theorem c_Page_mark (l : Launch) (D : va_G) (t : Nat → ClassId) (G : hG) (ak av : Nat → Nat) (h : hM) (pg pb : Nat) (bs nu : Int32) (f_pg : h pg = some (.inr (3, [.ref pb]))) (hpb : pgF t h pb 2048) : Met l y_Pg_fillWithMark (.code y_Pg_fillWithMark b_Pg_fillWithMark 3 none :: lw_g) { frames := 5, cells := 0, slots := 0, locals := 108 } (hP (kE D t G ak av) D vwCl G h [.ref pg, .int bs, .int nu]) (hQv D vwCl G (fun h' => kp [pb] h h' ∧ pgF t h' pb 2048)) 0 0 G.P := by
  refine Met.ofW (cc := b_Pg_fillWithMark) (maxL := 3) (ret := none) (by decide) rfl ?_
  intro p e s m args below meth c s₁ Bd hml hv
  obtain ⟨ha, hE, hH⟩ := hv
  have hx := Bd.exec
  have hb := Bd.bytes
  have hr := Bd.returns
  have hts : ∀ w ∈ lw_g, w.before args s = true := fun w hw => atoms_spec (ws := (.code y_Pg_fillWithMark b_Pg_fillWithMark 3 none :: lw_g)) Bd.pre w (List.mem_cons_of_mem _ hw)
  have hown : s.vm.findClass R_Pg = some m.cls := findClass_of_methodNamed Bd.named
  have hlocks := Bd.notSynchronized
  have hK := hE.1
  have hH0 := hH
  have hLo : hLc G.P [] := hLc_nil
  have hz : s.heap.size ≤ s.heap.size := Nat.le_refl _
  have hkp : kp [pb] h h := kp_rf
  have hl := lv_entry [.ref pg, .int bs, .int nu] (n := 3) (Nat.le_of_ble_eq_true rfl)
  rw [show entryFrame m args 3 = F0 m 0 ((lg_sl [.ref pg, .int bs, .int nu] ++ List.replicate (3 - (lg_sl [.ref pg, .int bs, .int nu]).length) Slot.unset).toArray) [] from (by rw [ha]; exact lg_entry_eq m [.ref pg, .int bs, .int nu] 3)]
  generalize (lg_sl [.ref pg, .int bs, .int nu] ++ List.replicate (3 - (lg_sl [.ref pg, .int bs, .int nu]).length) Slot.unset).toArray = ls at hl ⊢
  have hl : lv_has ls 3 [(0, .ref pg), (1, .int bs), (2, .int nu)] := hl
  obtain ⟨f, hfit, f_pb⟩ := hpb
  refine lv_aload_n hx hb d_Pg_fillWithMark_0 rfl (lv_at hl 0 rfl) ?_
  refine hm_callv (va_runV (As := []) (b := pg) (rest := []) ⟨hx, hb, hml, hown, hts⟩ (c_Page_clear l D t G ak av h pg pb 2048  f_pg ⟨f, hfit, f_pb⟩ (by decide)) ⟨cw9B 0 hts mw_132 mw_133 mw_52 rfl rfl (by decide +kernel) ⟨Nat.le_of_ble_eq_true rfl, Nat.le_of_ble_eq_true rfl⟩, hts _ mw_134, hts _ mw_135⟩ (hP_V (q := (R_Pg, F_Pg, 1)) kE_ok hE hK hH f_pg rfl) rfl rfl hl.1 rfl (lv_room (Nat.le_of_ble_eq_true rfl)) d_Pg_fillWithMark_1 ⟨Nat.le_of_ble_eq_true rfl, Nat.le_of_ble_eq_true rfl⟩) hLo (fun h1 H2 locs hp4 hH z3 hLo => ?_)
  have hz : s.heap.size ≤ H2.size := Nat.le_trans hz z3
  obtain ⟨hk9, f, hfit, f_pb2⟩ := hp4
  have f_pg : h1 pg = some (.inr (3, [.ref pb])) := kp_at hk9 f_pg (nmc (Ne.symm (h_neA f_pb f_pg)) nm0)
  have hkp : kp [pb] h h1 := kp_tr2 hkp hk9 (List.forall_mem_cons.mpr ⟨Or.inl (by simp), List.forall_mem_nil _⟩)
  have f_pb : h1 pb = some (.inl ((t 0), 2048, .inl f)) := f_pb2
  refine lv_aload_n hx hb d_Pg_fillWithMark_4 rfl (lv_at hl 0 rfl) ?_
  refine lv_iconst (v := 0) hx hb d_Pg_fillWithMark_5 (by decide) ?_
  refine va_ldcS hx hb hown hE.2.2.2.2.2.2.1 d_Pg_fillWithMark_6 ?_
  refine hm_callv (va_runV (As := [.int 0, .ref (ak 1)]) (b := pg) (rest := []) ⟨hx, hb, hml, hown, hts⟩ (c_Page_putText l D t G ak av h1 pg pb 2048 1 0 f_pg ⟨f, hfit, f_pb⟩ (by decide) (by decide)) ⟨cw9B 2 hts mw_136 mw_137 mw_52 rfl rfl (by decide +kernel) ⟨Nat.le_of_ble_eq_true rfl, Nat.le_of_ble_eq_true rfl⟩, hts _ mw_138, hts _ mw_139⟩ (hP_V (q := (R_Pg, F_Pg, 1)) kE_ok hE hK hH f_pg rfl) rfl rfl hl.1 rfl (lv_room (Nat.le_of_ble_eq_true rfl)) d_Pg_fillWithMark_8 ⟨Nat.le_of_ble_eq_true rfl, Nat.le_of_ble_eq_true rfl⟩) hLo (fun h5 H6 locs hp8 hH z7 hLo => ?_)
  have hz : s.heap.size ≤ H6.size := Nat.le_trans hz z7
  obtain ⟨hk9, f, hfit, f_pb2⟩ := hp8
  have f_pg : h5 pg = some (.inr (3, [.ref pb])) := kp_at hk9 f_pg (nmc (Ne.symm (h_neA f_pb f_pg)) nm0)
  have hkp : kp [pb] h h5 := kp_tr2 hkp hk9 (List.forall_mem_cons.mpr ⟨Or.inl (by simp), List.forall_mem_nil _⟩)
  have f_pb : h5 pb = some (.inl ((t 0), 2048, .inl f)) := f_pb2
  refine lv_aload_n hx hb d_Pg_fillWithMark_11 rfl (lv_at hl 0 rfl) ?_
  refine lv_iconst (v := 4) hx hb d_Pg_fillWithMark_12 (by decide) ?_
  refine lv_iconst (v := 4) hx hb d_Pg_fillWithMark_13 (by decide) ?_
  refine lv_iload_n hx hb d_Pg_fillWithMark_14 rfl (lv_at hl 1 rfl) ?_
  refine hm_callv (va_runV (As := [.int 4, .int 4, .int bs]) (b := pg) (rest := []) ⟨hx, hb, hml, hown, hts⟩ (c_Page_putLow l D t G ak av h5 pg pb 2048 4 4 bs f_pg ⟨f, hfit, f_pb⟩ (by decide)) ⟨cw9B 3 hts mw_123 mw_124 mw_52 rfl rfl (by decide +kernel) ⟨Nat.le_of_ble_eq_true rfl, Nat.le_of_ble_eq_true rfl⟩, hts _ mw_125, hts _ mw_126⟩ (hP_V (q := (R_Pg, F_Pg, 1)) kE_ok hE hK hH f_pg rfl) rfl rfl hl.1 rfl (lv_room (Nat.le_of_ble_eq_true rfl)) d_Pg_fillWithMark_15 ⟨Nat.le_of_ble_eq_true rfl, Nat.le_of_ble_eq_true rfl⟩) hLo (fun h9 H10 locs hp12 hH z11 hLo => ?_)
  have hz : s.heap.size ≤ H10.size := Nat.le_trans hz z11
  obtain ⟨hk9, f, hfit, f_pb2⟩ := hp12
  have f_pg : h9 pg = some (.inr (3, [.ref pb])) := kp_at hk9 f_pg (nmc (Ne.symm (h_neA f_pb f_pg)) nm0)
  have hkp : kp [pb] h h9 := kp_tr2 hkp hk9 (List.forall_mem_cons.mpr ⟨Or.inl (by simp), List.forall_mem_nil _⟩)
  have f_pb : h9 pb = some (.inl ((t 0), 2048, .inl f)) := f_pb2
  refine lv_aload_n hx hb d_Pg_fillWithMark_18 rfl (lv_at hl 0 rfl) ?_
  refine lv_bipush (v := 8) hx hb d_Pg_fillWithMark_19 (by decide) ?_
  refine lv_iconst (v := 4) hx hb d_Pg_fillWithMark_21 (by decide) ?_
  refine lv_iload_n hx hb d_Pg_fillWithMark_22 rfl (lv_at hl 2 rfl) ?_
  refine hm_callv (va_runV (As := [.int 8, .int 4, .int nu]) (b := pg) (rest := []) ⟨hx, hb, hml, hown, hts⟩ (c_Page_putLow l D t G ak av h9 pg pb 2048 8 4 nu f_pg ⟨f, hfit, f_pb⟩ (by decide)) ⟨cw9B 3 hts mw_123 mw_124 mw_52 rfl rfl (by decide +kernel) ⟨Nat.le_of_ble_eq_true rfl, Nat.le_of_ble_eq_true rfl⟩, hts _ mw_125, hts _ mw_126⟩ (hP_V (q := (R_Pg, F_Pg, 1)) kE_ok hE hK hH f_pg rfl) rfl rfl hl.1 rfl (lv_room (Nat.le_of_ble_eq_true rfl)) d_Pg_fillWithMark_23 ⟨Nat.le_of_ble_eq_true rfl, Nat.le_of_ble_eq_true rfl⟩) hLo (fun h13 H14 locs hp16 hH z15 hLo => ?_)
  have hz : s.heap.size ≤ H14.size := Nat.le_trans hz z15
  obtain ⟨hk9, f, hfit, f_pb2⟩ := hp16
  have f_pg : h13 pg = some (.inr (3, [.ref pb])) := kp_at hk9 f_pg (nmc (Ne.symm (h_neA f_pb f_pg)) nm0)
  have hkp : kp [pb] h h13 := kp_tr2 hkp hk9 (List.forall_mem_cons.mpr ⟨Or.inl (by simp), List.forall_mem_nil _⟩)
  have f_pb : h13 pb = some (.inl ((t 0), 2048, .inl f)) := f_pb2
  exact W.vret hx hb hr (fun t9 ht hW => ⟨h13, rfl, ⟨hkp, f, hfit, f_pb⟩, by rw [ht]; exact hH, by rw [ht]; exact hz⟩) hLo d_Pg_fillWithMark_26

set_option maxHeartbeats 4000000 in
set_option maxRecDepth 100000 in
theorem c_Page_descriptor (l : Launch) (D : va_G) (t : Nat → ClassId) (G : hG) (ak av : Nat → Nat) (h : hM) (pg pb md sa rt n fr : Nat) (fa : Nat → Option Nat) (bs tb sc np : Int32) (f_pg : h pg = some (.inr (3, [.ref pb]))) (hpb : pgF t h pb 2048) (f_md : h md = some (.inr (0, [.ref sa, .int (nI fr)]))) (f_sa : h sa = some (.inl ((t 5), n, .inr (.inr (.inr (.inr fa)))))) (f_rt : h rt = some (.inr (1, [.int 0, .null, .int 1, .long 0, .int 0, .int 0, .int 0, .int 0, .int 0, .int sc, .int np]))) : Met l y_Pg_fillWithDescriptor (.code y_Pg_fillWithDescriptor b_Pg_fillWithDescriptor 5 none :: lw_g) { frames := 6, cells := 0, slots := 0, locals := 129 } (hP (kE D t G ak av) D vwCl G h [.ref pg, .ref md, .int bs, .int tb, .ref rt]) (hQv D vwCl G (fun h' => kp [pb] h h' ∧ pgF t h' pb 2048)) 0 0 G.P := by
  refine Met.ofW (cc := b_Pg_fillWithDescriptor) (maxL := 5) (ret := none) (by decide) rfl ?_
  intro p e s m args below meth c s₁ Bd hml hv
  obtain ⟨ha, hE, hH⟩ := hv
  have hx := Bd.exec
  have hb := Bd.bytes
  have hr := Bd.returns
  have hts : ∀ w ∈ lw_g, w.before args s = true := fun w hw => atoms_spec (ws := (.code y_Pg_fillWithDescriptor b_Pg_fillWithDescriptor 5 none :: lw_g)) Bd.pre w (List.mem_cons_of_mem _ hw)
  have hown : s.vm.findClass R_Pg = some m.cls := findClass_of_methodNamed Bd.named
  have hlocks := Bd.notSynchronized
  have hK := hE.1
  have hH0 := hH
  have hLo : hLc G.P [] := hLc_nil
  have hz : s.heap.size ≤ s.heap.size := Nat.le_refl _
  have hkp : kp [pb] h h := kp_rf
  have hl := lv_entry [.ref pg, .ref md, .int bs, .int tb, .ref rt] (n := 5) (Nat.le_of_ble_eq_true rfl)
  rw [show entryFrame m args 5 = F0 m 0 ((lg_sl [.ref pg, .ref md, .int bs, .int tb, .ref rt] ++ List.replicate (5 - (lg_sl [.ref pg, .ref md, .int bs, .int tb, .ref rt]).length) Slot.unset).toArray) [] from (by rw [ha]; exact lg_entry_eq m [.ref pg, .ref md, .int bs, .int tb, .ref rt] 5)]
  generalize (lg_sl [.ref pg, .ref md, .int bs, .int tb, .ref rt] ++ List.replicate (5 - (lg_sl [.ref pg, .ref md, .int bs, .int tb, .ref rt]).length) Slot.unset).toArray = ls at hl ⊢
  have hl : lv_has ls 5 [(0, .ref pg), (1, .ref md), (2, .int bs), (3, .int tb), (4, .ref rt)] := hl
  obtain ⟨f, hfit, f_pb⟩ := hpb
  refine lv_aload_n hx hb d_Pg_fillWithDescriptor_0 rfl (lv_at hl 0 rfl) ?_
  refine lv_iconst (v := 1) hx hb d_Pg_fillWithDescriptor_1 (by decide) ?_
  refine hm_callv (va_runV (As := [.int 1]) (b := pg) (rest := []) ⟨hx, hb, hml, hown, hts⟩ (c_Page_standard l D t G ak av h pg pb 1 f_pg ⟨f, hfit, f_pb⟩) ⟨cw9B 1 hts mw_140 mw_141 mw_52 rfl rfl (by decide +kernel) ⟨Nat.le_of_ble_eq_true rfl, Nat.le_of_ble_eq_true rfl⟩, hts _ mw_142, hts _ mw_143⟩ (hP_V (q := (R_Pg, F_Pg, 1)) kE_ok hE hK hH f_pg rfl) rfl rfl hl.1 rfl (lv_room (Nat.le_of_ble_eq_true rfl)) d_Pg_fillWithDescriptor_2 ⟨Nat.le_of_ble_eq_true rfl, Nat.le_of_ble_eq_true rfl⟩) hLo (fun h1 H2 locs hp4 hH z3 hLo => ?_)
  have hz : s.heap.size ≤ H2.size := Nat.le_trans hz z3
  obtain ⟨hk9, f, hfit, f_pb2⟩ := hp4
  have f_pg : h1 pg = some (.inr (3, [.ref pb])) := kp_at hk9 f_pg (nmc (Ne.symm (h_neA f_pb f_pg)) nm0)
  have f_md : h1 md = some (.inr (0, [.ref sa, .int (nI fr)])) := kp_at hk9 f_md (nmc (Ne.symm (h_neA f_pb f_md)) nm0)
  have f_sa : h1 sa = some (.inl ((t 5), n, .inr (.inr (.inr (.inr fa))))) := kp_at hk9 f_sa (nmc (h_neK (k1 := 4) (k2 := 0) f_sa f_pb rfl rfl (by decide)) nm0)
  have f_rt : h1 rt = some (.inr (1, [.int 0, .null, .int 1, .long 0, .int 0, .int 0, .int 0, .int 0, .int 0, .int sc, .int np])) := kp_at hk9 f_rt (nmc (Ne.symm (h_neA f_pb f_rt)) nm0)
  have hkp : kp [pb] h h1 := kp_tr2 hkp hk9 (List.forall_mem_cons.mpr ⟨Or.inl (by simp), List.forall_mem_nil _⟩)
  have f_pb : h1 pb = some (.inl ((t 0), 2048, .inl f)) := f_pb2
  refine lv_aload_n hx hb d_Pg_fillWithDescriptor_5 rfl (lv_at hl 0 rfl) ?_
  refine lv_bipush (v := 80) hx hb d_Pg_fillWithDescriptor_6 (by decide) ?_
  refine lv_iconst (v := 4) hx hb d_Pg_fillWithDescriptor_8 (by decide) ?_
  refine lv_aload_n hx hb d_Pg_fillWithDescriptor_9 rfl (lv_at hl 1 rfl) ?_
  refine hm_get (ci := 0) (v := .ref sa) (C := R_Me) (T := F_Me) (N := 2) hx hb hts ig_Me hown hK hH f_md rfl 0 (by decide) (hts _ mw_144) (fun _ h9 => h9) rfl d_Pg_fillWithDescriptor_10 ?_
  refine hm_alen (v := nI n) hx hb hK hH 5 f_sa (ty := (.object "WriteOnceDisc$Sector")) rfl rfl d_Pg_fillWithDescriptor_13 ?_
  refine hm_callv (va_runV (As := [.int 80, .int 4, .int (nI n)]) (b := pg) (rest := []) ⟨hx, hb, hml, hown, hts⟩ (c_Page_putBoth l D t G ak av h1 pg pb 2048 80 4 (nI n) f_pg ⟨f, hfit, f_pb⟩ (by decide)) ⟨cw9B 3 hts mw_127 mw_128 mw_52 rfl rfl (by decide +kernel) ⟨Nat.le_of_ble_eq_true rfl, Nat.le_of_ble_eq_true rfl⟩, hts _ mw_129, hts _ mw_130⟩ (hP_V (q := (R_Pg, F_Pg, 1)) kE_ok hE hK hH f_pg rfl) rfl rfl hl.1 rfl (lv_room (Nat.le_of_ble_eq_true rfl)) d_Pg_fillWithDescriptor_14 ⟨Nat.le_of_ble_eq_true rfl, Nat.le_of_ble_eq_true rfl⟩) hLo (fun h5 H6 locs hp8 hH z7 hLo => ?_)
  have hz : s.heap.size ≤ H6.size := Nat.le_trans hz z7
  obtain ⟨hk9, f, hfit, f_pb2⟩ := hp8
  have f_pg : h5 pg = some (.inr (3, [.ref pb])) := kp_at hk9 f_pg (nmc (Ne.symm (h_neA f_pb f_pg)) nm0)
  have f_md : h5 md = some (.inr (0, [.ref sa, .int (nI fr)])) := kp_at hk9 f_md (nmc (Ne.symm (h_neA f_pb f_md)) nm0)
  have f_sa : h5 sa = some (.inl ((t 5), n, .inr (.inr (.inr (.inr fa))))) := kp_at hk9 f_sa (nmc (h_neK (k1 := 4) (k2 := 0) f_sa f_pb rfl rfl (by decide)) nm0)
  have f_rt : h5 rt = some (.inr (1, [.int 0, .null, .int 1, .long 0, .int 0, .int 0, .int 0, .int 0, .int 0, .int sc, .int np])) := kp_at hk9 f_rt (nmc (Ne.symm (h_neA f_pb f_rt)) nm0)
  have hkp : kp [pb] h h5 := kp_tr2 hkp hk9 (List.forall_mem_cons.mpr ⟨Or.inl (by simp), List.forall_mem_nil _⟩)
  have f_pb : h5 pb = some (.inl ((t 0), 2048, .inl f)) := f_pb2
  refine lv_aload_n hx hb d_Pg_fillWithDescriptor_17 rfl (lv_at hl 0 rfl) ?_
  refine lv_sipush (v := 128) hx hb d_Pg_fillWithDescriptor_18 (by decide) ?_
  refine lv_iconst (v := 2) hx hb d_Pg_fillWithDescriptor_21 (by decide) ?_
  refine lv_sipush (v := 2048) hx hb d_Pg_fillWithDescriptor_22 (by decide) ?_
  refine hm_callv (va_runV (As := [.int 128, .int 2, .int 2048]) (b := pg) (rest := []) ⟨hx, hb, hml, hown, hts⟩ (c_Page_putBoth l D t G ak av h5 pg pb 2048 128 2 2048 f_pg ⟨f, hfit, f_pb⟩ (by decide)) ⟨cw9B 3 hts mw_127 mw_128 mw_52 rfl rfl (by decide +kernel) ⟨Nat.le_of_ble_eq_true rfl, Nat.le_of_ble_eq_true rfl⟩, hts _ mw_129, hts _ mw_130⟩ (hP_V (q := (R_Pg, F_Pg, 1)) kE_ok hE hK hH f_pg rfl) rfl rfl hl.1 rfl (lv_room (Nat.le_of_ble_eq_true rfl)) d_Pg_fillWithDescriptor_25 ⟨Nat.le_of_ble_eq_true rfl, Nat.le_of_ble_eq_true rfl⟩) hLo (fun h9 H10 locs hp12 hH z11 hLo => ?_)
  have hz : s.heap.size ≤ H10.size := Nat.le_trans hz z11
  obtain ⟨hk9, f, hfit, f_pb2⟩ := hp12
  have f_pg : h9 pg = some (.inr (3, [.ref pb])) := kp_at hk9 f_pg (nmc (Ne.symm (h_neA f_pb f_pg)) nm0)
  have f_md : h9 md = some (.inr (0, [.ref sa, .int (nI fr)])) := kp_at hk9 f_md (nmc (Ne.symm (h_neA f_pb f_md)) nm0)
  have f_sa : h9 sa = some (.inl ((t 5), n, .inr (.inr (.inr (.inr fa))))) := kp_at hk9 f_sa (nmc (h_neK (k1 := 4) (k2 := 0) f_sa f_pb rfl rfl (by decide)) nm0)
  have f_rt : h9 rt = some (.inr (1, [.int 0, .null, .int 1, .long 0, .int 0, .int 0, .int 0, .int 0, .int 0, .int sc, .int np])) := kp_at hk9 f_rt (nmc (Ne.symm (h_neA f_pb f_rt)) nm0)
  have hkp : kp [pb] h h9 := kp_tr2 hkp hk9 (List.forall_mem_cons.mpr ⟨Or.inl (by simp), List.forall_mem_nil _⟩)
  have f_pb : h9 pb = some (.inl ((t 0), 2048, .inl f)) := f_pb2
  refine lv_aload_n hx hb d_Pg_fillWithDescriptor_28 rfl (lv_at hl 0 rfl) ?_
  refine lv_sipush (v := 132) hx hb d_Pg_fillWithDescriptor_29 (by decide) ?_
  refine lv_iconst (v := 4) hx hb d_Pg_fillWithDescriptor_32 (by decide) ?_
  refine lv_iload_n hx hb d_Pg_fillWithDescriptor_33 rfl (lv_at hl 3 rfl) ?_
  refine hm_callv (va_runV (As := [.int 132, .int 4, .int tb]) (b := pg) (rest := []) ⟨hx, hb, hml, hown, hts⟩ (c_Page_putBoth l D t G ak av h9 pg pb 2048 132 4 tb f_pg ⟨f, hfit, f_pb⟩ (by decide)) ⟨cw9B 3 hts mw_127 mw_128 mw_52 rfl rfl (by decide +kernel) ⟨Nat.le_of_ble_eq_true rfl, Nat.le_of_ble_eq_true rfl⟩, hts _ mw_129, hts _ mw_130⟩ (hP_V (q := (R_Pg, F_Pg, 1)) kE_ok hE hK hH f_pg rfl) rfl rfl hl.1 rfl (lv_room (Nat.le_of_ble_eq_true rfl)) d_Pg_fillWithDescriptor_34 ⟨Nat.le_of_ble_eq_true rfl, Nat.le_of_ble_eq_true rfl⟩) hLo (fun h13 H14 locs hp16 hH z15 hLo => ?_)
  have hz : s.heap.size ≤ H14.size := Nat.le_trans hz z15
  obtain ⟨hk9, f, hfit, f_pb2⟩ := hp16
  have f_pg : h13 pg = some (.inr (3, [.ref pb])) := kp_at hk9 f_pg (nmc (Ne.symm (h_neA f_pb f_pg)) nm0)
  have f_md : h13 md = some (.inr (0, [.ref sa, .int (nI fr)])) := kp_at hk9 f_md (nmc (Ne.symm (h_neA f_pb f_md)) nm0)
  have f_sa : h13 sa = some (.inl ((t 5), n, .inr (.inr (.inr (.inr fa))))) := kp_at hk9 f_sa (nmc (h_neK (k1 := 4) (k2 := 0) f_sa f_pb rfl rfl (by decide)) nm0)
  have f_rt : h13 rt = some (.inr (1, [.int 0, .null, .int 1, .long 0, .int 0, .int 0, .int 0, .int 0, .int 0, .int sc, .int np])) := kp_at hk9 f_rt (nmc (Ne.symm (h_neA f_pb f_rt)) nm0)
  have hkp : kp [pb] h h13 := kp_tr2 hkp hk9 (List.forall_mem_cons.mpr ⟨Or.inl (by simp), List.forall_mem_nil _⟩)
  have f_pb : h13 pb = some (.inl ((t 0), 2048, .inl f)) := f_pb2
  refine lv_aload_n hx hb d_Pg_fillWithDescriptor_37 rfl (lv_at hl 0 rfl) ?_
  refine lv_sipush (v := 140) hx hb d_Pg_fillWithDescriptor_38 (by decide) ?_
  refine lv_iconst (v := 4) hx hb d_Pg_fillWithDescriptor_41 (by decide) ?_
  refine lv_iload_n hx hb d_Pg_fillWithDescriptor_42 rfl (lv_at hl 2 rfl) ?_
  refine lv_bipush (v := 18) hx hb d_Pg_fillWithDescriptor_43 (by decide) ?_
  refine lv_iadd hx hb d_Pg_fillWithDescriptor_45 ?_
  refine hm_callv (va_runV (As := [.int 140, .int 4, .int (bs + 18)]) (b := pg) (rest := []) ⟨hx, hb, hml, hown, hts⟩ (c_Page_putLow l D t G ak av h13 pg pb 2048 140 4 (bs + 18) f_pg ⟨f, hfit, f_pb⟩ (by decide)) ⟨cw9B 3 hts mw_123 mw_124 mw_52 rfl rfl (by decide +kernel) ⟨Nat.le_of_ble_eq_true rfl, Nat.le_of_ble_eq_true rfl⟩, hts _ mw_125, hts _ mw_126⟩ (hP_V (q := (R_Pg, F_Pg, 1)) kE_ok hE hK hH f_pg rfl) rfl rfl hl.1 rfl (lv_room (Nat.le_of_ble_eq_true rfl)) d_Pg_fillWithDescriptor_46 ⟨Nat.le_of_ble_eq_true rfl, Nat.le_of_ble_eq_true rfl⟩) hLo (fun h17 H18 locs hp20 hH z19 hLo => ?_)
  have hz : s.heap.size ≤ H18.size := Nat.le_trans hz z19
  obtain ⟨hk9, f, hfit, f_pb2⟩ := hp20
  have f_pg : h17 pg = some (.inr (3, [.ref pb])) := kp_at hk9 f_pg (nmc (Ne.symm (h_neA f_pb f_pg)) nm0)
  have f_md : h17 md = some (.inr (0, [.ref sa, .int (nI fr)])) := kp_at hk9 f_md (nmc (Ne.symm (h_neA f_pb f_md)) nm0)
  have f_sa : h17 sa = some (.inl ((t 5), n, .inr (.inr (.inr (.inr fa))))) := kp_at hk9 f_sa (nmc (h_neK (k1 := 4) (k2 := 0) f_sa f_pb rfl rfl (by decide)) nm0)
  have f_rt : h17 rt = some (.inr (1, [.int 0, .null, .int 1, .long 0, .int 0, .int 0, .int 0, .int 0, .int 0, .int sc, .int np])) := kp_at hk9 f_rt (nmc (Ne.symm (h_neA f_pb f_rt)) nm0)
  have hkp : kp [pb] h h17 := kp_tr2 hkp hk9 (List.forall_mem_cons.mpr ⟨Or.inl (by simp), List.forall_mem_nil _⟩)
  have f_pb : h17 pb = some (.inl ((t 0), 2048, .inl f)) := f_pb2
  refine lv_aload_n hx hb d_Pg_fillWithDescriptor_49 rfl (lv_at hl 0 rfl) ?_
  refine lv_sipush (v := 148) hx hb d_Pg_fillWithDescriptor_50 (by decide) ?_
  refine lv_iconst (v := 4) hx hb d_Pg_fillWithDescriptor_53 (by decide) ?_
  refine lv_iload_n hx hb d_Pg_fillWithDescriptor_54 rfl (lv_at hl 2 rfl) ?_
  refine lv_bipush (v := 19) hx hb d_Pg_fillWithDescriptor_55 (by decide) ?_
  refine lv_iadd hx hb d_Pg_fillWithDescriptor_57 ?_
  refine hm_callv (va_runV (As := [.int 148, .int 4, .int (bs + 19)]) (b := pg) (rest := []) ⟨hx, hb, hml, hown, hts⟩ (c_Page_putHigh l D t G ak av h17 pg pb 2048 148 4 (bs + 19) f_pg ⟨f, hfit, f_pb⟩ (by decide)) ⟨cw9B 3 hts mw_112 mw_113 mw_52 rfl rfl (by decide +kernel) ⟨Nat.le_of_ble_eq_true rfl, Nat.le_of_ble_eq_true rfl⟩, hts _ mw_114, hts _ mw_115⟩ (hP_V (q := (R_Pg, F_Pg, 1)) kE_ok hE hK hH f_pg rfl) rfl rfl hl.1 rfl (lv_room (Nat.le_of_ble_eq_true rfl)) d_Pg_fillWithDescriptor_58 ⟨Nat.le_of_ble_eq_true rfl, Nat.le_of_ble_eq_true rfl⟩) hLo (fun h21 H22 locs hp24 hH z23 hLo => ?_)
  have hz : s.heap.size ≤ H22.size := Nat.le_trans hz z23
  obtain ⟨hk9, f, hfit, f_pb2⟩ := hp24
  have f_pg : h21 pg = some (.inr (3, [.ref pb])) := kp_at hk9 f_pg (nmc (Ne.symm (h_neA f_pb f_pg)) nm0)
  have f_md : h21 md = some (.inr (0, [.ref sa, .int (nI fr)])) := kp_at hk9 f_md (nmc (Ne.symm (h_neA f_pb f_md)) nm0)
  have f_sa : h21 sa = some (.inl ((t 5), n, .inr (.inr (.inr (.inr fa))))) := kp_at hk9 f_sa (nmc (h_neK (k1 := 4) (k2 := 0) f_sa f_pb rfl rfl (by decide)) nm0)
  have f_rt : h21 rt = some (.inr (1, [.int 0, .null, .int 1, .long 0, .int 0, .int 0, .int 0, .int 0, .int 0, .int sc, .int np])) := kp_at hk9 f_rt (nmc (Ne.symm (h_neA f_pb f_rt)) nm0)
  have hkp : kp [pb] h h21 := kp_tr2 hkp hk9 (List.forall_mem_cons.mpr ⟨Or.inl (by simp), List.forall_mem_nil _⟩)
  have f_pb : h21 pb = some (.inl ((t 0), 2048, .inl f)) := f_pb2
  refine lv_aload_n hx hb d_Pg_fillWithDescriptor_61 rfl (lv_at hl 0 rfl) ?_
  refine lv_sipush (v := 156) hx hb d_Pg_fillWithDescriptor_62 (by decide) ?_
  refine lv_aload hx hb d_Pg_fillWithDescriptor_65 (lv_at hl 4 rfl) ?_
  refine lv_iconst (v := 0) hx hb d_Pg_fillWithDescriptor_67 (by decide) ?_
  refine hm_calli (va_runV (As := [.int 156, .ref rt, .int 0]) (b := pg) (rest := []) ⟨hx, hb, hml, hown, hts⟩ (c_Page_putRecord_root0 l D t G ak av h21 pg pb rt 156 sc np f_pg ⟨f, hfit, f_pb⟩ f_rt) ⟨cw9B 3 hts mw_145 mw_146 mw_52 rfl rfl (by decide +kernel) ⟨Nat.le_of_ble_eq_true rfl, Nat.le_of_ble_eq_true rfl⟩, hts _ mw_147, hts _ mw_148⟩ (hP_V (q := (R_Pg, F_Pg, 1)) kE_ok hE hK hH f_pg rfl) rfl rfl hl.1 rfl (lv_room (Nat.le_of_ble_eq_true rfl)) d_Pg_fillWithDescriptor_68 ⟨Nat.le_of_ble_eq_true rfl, Nat.le_of_ble_eq_true rfl⟩) hLo (fun r25 h26 H27 locs hp29 hH z28 hLo => ?_)
  have hz : s.heap.size ≤ H27.size := Nat.le_trans hz z28
  obtain ⟨rfl, hp9⟩ := hp29
  obtain ⟨hk9, f, hfit, f_pb2⟩ := hp9
  have f_pg : h26 pg = some (.inr (3, [.ref pb])) := kp_at hk9 f_pg (nmc (Ne.symm (h_neA f_pb f_pg)) nm0)
  have f_md : h26 md = some (.inr (0, [.ref sa, .int (nI fr)])) := kp_at hk9 f_md (nmc (Ne.symm (h_neA f_pb f_md)) nm0)
  have f_sa : h26 sa = some (.inl ((t 5), n, .inr (.inr (.inr (.inr fa))))) := kp_at hk9 f_sa (nmc (h_neK (k1 := 4) (k2 := 0) f_sa f_pb rfl rfl (by decide)) nm0)
  have f_rt : h26 rt = some (.inr (1, [.int 0, .null, .int 1, .long 0, .int 0, .int 0, .int 0, .int 0, .int 0, .int sc, .int np])) := kp_at hk9 f_rt (nmc (Ne.symm (h_neA f_pb f_rt)) nm0)
  have hkp : kp [pb] h h26 := kp_tr2 hkp hk9 (List.forall_mem_cons.mpr ⟨Or.inl (by simp), List.forall_mem_nil _⟩)
  have f_pb : h26 pb = some (.inl ((t 0), 2048, .inl f)) := f_pb2
  refine lv_pop hx hb d_Pg_fillWithDescriptor_71 rfl ?_
  exact W.vret hx hb hr (fun t9 ht hW => ⟨h26, rfl, ⟨hkp, f, hfit, f_pb⟩, by rw [ht]; exact hH, by rw [ht]; exact hz⟩) hLo d_Pg_fillWithDescriptor_72

set_option maxHeartbeats 4000000 in
set_option maxRecDepth 100000 in
theorem c_Page_pathtable (l : Launch) (D : va_G) (t : Nat → ClassId) (G : hG) (ak av : Nat → Nat) (h : hM) (pg pb od rt : Nat) (g : Nat → Option Nat) (lw sc np : Int32) (f_pg : h pg = some (.inr (3, [.ref pb]))) (hpb : pgF t h pb 2048) (f_od : h od = some (.inl ((t 4), 30, .inr (.inr (.inr (.inr g)))))) (f_rt : h rt = some (.inr (1, [.int 0, .null, .int 1, .long 0, .int 0, .int 0, .int 0, .int 0, .int 0, .int sc, .int np]))) (hg0 : g 0 = some rt) : Met l y_Pg_fillWithPathTable (.code y_Pg_fillWithPathTable b_Pg_fillWithPathTable 7 (some .int) :: lw_g) { frames := 3, cells := 0, slots := 0, locals := 71 } (hP (kE D t G ak av) D vwCl G h [.ref pg, .ref od, .int 1, .int lw]) (hQi D vwCl G (fun r h' => r = 10 ∧ kp [pb, rt] h h' ∧ h' rt = some (.inr (1, [.int 0, .null, .int 1, .long 0, .int 0, .int 0, .int 0, .int 0, .int 0, .int sc, .int (0 + 1)])) ∧ pgF t h' pb 2048)) 0 0 G.P := by
  refine Met.ofW (cc := b_Pg_fillWithPathTable) (maxL := 7) (ret := (some .int)) (by decide) rfl ?_
  intro p e s m args below meth c s₁ Bd hml hv
  obtain ⟨ha, hE, hH⟩ := hv
  have hx := Bd.exec
  have hb := Bd.bytes
  have hr := Bd.returns
  have hts : ∀ w ∈ lw_g, w.before args s = true := fun w hw => atoms_spec (ws := (.code y_Pg_fillWithPathTable b_Pg_fillWithPathTable 7 (some .int) :: lw_g)) Bd.pre w (List.mem_cons_of_mem _ hw)
  have hown : s.vm.findClass R_Pg = some m.cls := findClass_of_methodNamed Bd.named
  have hlocks := Bd.notSynchronized
  have hK := hE.1
  have hH0 := hH
  have hLo : hLc G.P [] := hLc_nil
  have hz : s.heap.size ≤ s.heap.size := Nat.le_refl _
  have hkp : kp [pb, rt] h h := kp_rf
  have hl := lv_entry [.ref pg, .ref od, .int 1, .int lw] (n := 7) (Nat.le_of_ble_eq_true rfl)
  rw [show entryFrame m args 7 = F0 m 0 ((lg_sl [.ref pg, .ref od, .int 1, .int lw] ++ List.replicate (7 - (lg_sl [.ref pg, .ref od, .int 1, .int lw]).length) Slot.unset).toArray) [] from (by rw [ha]; exact lg_entry_eq m [.ref pg, .ref od, .int 1, .int lw] 7)]
  generalize (lg_sl [.ref pg, .ref od, .int 1, .int lw] ++ List.replicate (7 - (lg_sl [.ref pg, .ref od, .int 1, .int lw]).length) Slot.unset).toArray = ls at hl ⊢
  have hl : lv_has ls 7 [(0, .ref pg), (1, .ref od), (2, .int 1), (3, .int lw)] := hl
  obtain ⟨f, hfit, f_pb⟩ := hpb
  refine lv_aload_n hx hb d_Pg_fillWithPathTable_0 rfl (lv_at hl 0 rfl) ?_
  refine hm_callv (va_runV (As := []) (b := pg) (rest := []) ⟨hx, hb, hml, hown, hts⟩ (c_Page_clear l D t G ak av h pg pb 2048  f_pg ⟨f, hfit, f_pb⟩ (by decide)) ⟨cw9B 0 hts mw_132 mw_133 mw_52 rfl rfl (by decide +kernel) ⟨Nat.le_of_ble_eq_true rfl, Nat.le_of_ble_eq_true rfl⟩, hts _ mw_134, hts _ mw_135⟩ (hP_V (q := (R_Pg, F_Pg, 1)) kE_ok hE hK hH f_pg rfl) rfl rfl hl.1 rfl (lv_room (Nat.le_of_ble_eq_true rfl)) d_Pg_fillWithPathTable_1 ⟨Nat.le_of_ble_eq_true rfl, Nat.le_of_ble_eq_true rfl⟩) hLo (fun h1 H2 locs hp4 hH z3 hLo => ?_)
  have hz : s.heap.size ≤ H2.size := Nat.le_trans hz z3
  obtain ⟨hk9, f, hfit, f_pb2⟩ := hp4
  have f_pg : h1 pg = some (.inr (3, [.ref pb])) := kp_at hk9 f_pg (nmc (Ne.symm (h_neA f_pb f_pg)) nm0)
  have f_od : h1 od = some (.inl ((t 4), 30, .inr (.inr (.inr (.inr g))))) := kp_at hk9 f_od (nmc (h_neK (k1 := 4) (k2 := 0) f_od f_pb rfl rfl (by decide)) nm0)
  have f_rt : h1 rt = some (.inr (1, [.int 0, .null, .int 1, .long 0, .int 0, .int 0, .int 0, .int 0, .int 0, .int sc, .int np])) := kp_at hk9 f_rt (nmc (Ne.symm (h_neA f_pb f_rt)) nm0)
  have hkp : kp [pb, rt] h h1 := kp_tr2 hkp hk9 (List.forall_mem_cons.mpr ⟨Or.inl (by simp), List.forall_mem_nil _⟩)
  have f_pb : h1 pb = some (.inl ((t 0), 2048, .inl f)) := f_pb2
  refine lv_iconst (v := 0) hx hb d_Pg_fillWithPathTable_4 (by decide) ?_
  refine lv_istore (lv' := [(4, .int 0), (0, .ref pg), (1, .ref od), (2, .int 1), (3, .int lw)]) hx hb d_Pg_fillWithPathTable_5 hl (by decide) rfl (fun ls hl => ?_)
  refine lv_iconst (v := 0) hx hb d_Pg_fillWithPathTable_7 (by decide) ?_
  refine lv_istore (lv' := [(5, .int 0), (4, .int 0), (0, .ref pg), (1, .ref od), (2, .int 1), (3, .int lw)]) hx hb d_Pg_fillWithPathTable_8 hl (by decide) rfl (fun ls hl => ?_)
  refine lv_iconst (v := 0) hx hb d_Pg_fillWithPathTable_10 (by decide) ?_
  refine lv_istore (lv' := [(6, .int 0), (5, .int 0), (4, .int 0), (0, .ref pg), (1, .ref od), (2, .int 1), (3, .int lw)]) hx hb d_Pg_fillWithPathTable_11 hl (by decide) rfl (fun ls hl => ?_)
  refine lv_iload hx hb d_Pg_fillWithPathTable_13 (lv_at hl 0 rfl) ?_
  refine lv_iload_n hx hb d_Pg_fillWithPathTable_15 rfl (lv_at hl 5 rfl) ?_
  refine lv_icmp_ge (tgt := 67) hx hb d_Pg_fillWithPathTable_16 (by decide) (fun hc5 => absurd hc5 (by decide)) (fun hc5 => ?_)
  refine lv_iload hx hb d_Pg_fillWithPathTable_19 (lv_at hl 0 rfl) ?_
  refine lv_aload_n hx hb d_Pg_fillWithPathTable_21 rfl (lv_at hl 4 rfl) ?_
  refine hm_alen (v := 30) hx hb hK hH 4 f_od (ty := (.object "WriteOnceDisc$Node")) rfl (show Int32.ofNat 30 = 30 by decide) d_Pg_fillWithPathTable_22 ?_
  refine lv_icmp_ge (tgt := 67) hx hb d_Pg_fillWithPathTable_23 (by decide) (fun hc6 => absurd hc6 (by decide)) (fun hc6 => ?_)
  refine lv_aload_n hx hb d_Pg_fillWithPathTable_26 rfl (lv_at hl 4 rfl) ?_
  refine lv_iload hx hb d_Pg_fillWithPathTable_27 (lv_at hl 0 rfl) ?_
  refine hj_aald (v := .ref rt) hx hb hK hH 4 f_od (C := R_No) rfl 0 (by decide) (by decide) (by decide) (by rw [hg0]; rfl) d_Pg_fillWithPathTable_29 ?_
  refine hm_get (ci := 1) (v := .int 1) (C := R_No) (T := F_No) (N := 11) hx hb hts ig_No hown hK hH f_rt rfl 2 (by decide) (hts _ mw_131) (fun _ h9 => h9) rfl d_Pg_fillWithPathTable_30 ?_
  refine lv_if_eq (tgt := 61) hx hb d_Pg_fillWithPathTable_33 (by decide) (fun hc7 => absurd hc7 (by decide)) (fun hc7 => ?_)
  refine lv_iinc (v := 0 + 1) (lv' := [(5, .int (0 + 1)), (6, .int 0), (4, .int 0), (0, .ref pg), (1, .ref od), (2, .int 1), (3, .int lw)]) hx hb d_Pg_fillWithPathTable_36 hl (k := 1) rfl (by rfl) (by decide) rfl (fun ls hl => ?_)
  refine lv_aload_n hx hb d_Pg_fillWithPathTable_39 rfl (lv_at hl 4 rfl) ?_
  refine lv_iload hx hb d_Pg_fillWithPathTable_40 (lv_at hl 1 rfl) ?_
  refine hj_aald (v := .ref rt) hx hb hK hH 4 f_od (C := R_No) rfl 0 (by decide) (by decide) (by decide) (by rw [hg0]; rfl) d_Pg_fillWithPathTable_42 ?_
  refine lv_iload hx hb d_Pg_fillWithPathTable_43 (lv_at hl 0 rfl) ?_
  refine hm_put (ci := 1) (v := .int (0 + 1)) (ty := .int) (C := R_No) (T := F_No) (N := 11) hx hb hts ig_No t_No tk_No nm_No hown hK hH hLo f_rt rfl 10 (by decide) (hts _ mw_149) (fun _ h9 => h9) rfl (by decide +kernel) rfl rfl (Nat.le_of_ble_eq_true rfl) d_Pg_fillWithPathTable_45 (fun H8 locs hH z9 hLo => ?_)
  have hz : s.heap.size ≤ H8.size := by rw [z9]; exact hz
  obtain ⟨h10, e11⟩ : ∃ z, z = hu h1 rt (.inr (1, [.int 0, .null, .int 1, .long 0, .int 0, .int 0, .int 0, .int 0, .int 0, .int sc, .int (0 + 1)])) := ⟨_, rfl⟩
  have hH : hm D vwCl G h10 H8 := by rw [e11]; exact hH
  have f_pg : h10 pg = some (.inr (3, [.ref pb])) := by rw [e11, hu_n (h_neC f_pg f_rt (by decide))]; exact f_pg
  have f_od : h10 od = some (.inl ((t 4), 30, .inr (.inr (.inr (.inr g))))) := by rw [e11, hu_n (h_neA f_od f_rt)]; exact f_od
  have f_pb : h10 pb = some (.inl ((t 0), 2048, .inl f)) := by rw [e11, hu_n (h_neA f_pb f_rt)]; exact f_pb
  have f_rt : h10 rt = some (.inr (1, [.int 0, .null, .int 1, .long 0, .int 0, .int 0, .int 0, .int 0, .int 0, .int sc, .int (0 + 1)])) := by rw [e11]; exact hu_s _ _ _
  have hkp : kp [pb, rt] h h10 := by rw [e11]; exact kp_put hkp (by simp)
  refine lv_aload_n hx hb d_Pg_fillWithPathTable_48 rfl (lv_at hl 3 rfl) ?_
  refine lv_iload hx hb d_Pg_fillWithPathTable_49 (lv_at hl 2 rfl) ?_
  refine lv_aload_n hx hb d_Pg_fillWithPathTable_51 rfl (lv_at hl 4 rfl) ?_
  refine lv_iload hx hb d_Pg_fillWithPathTable_52 (lv_at hl 1 rfl) ?_
  refine hj_aald (v := .ref rt) hx hb hK hH 4 f_od (C := R_No) rfl 0 (by decide) (by decide) (by decide) (by rw [hg0]; rfl) d_Pg_fillWithPathTable_54 ?_
  refine lv_iload_n hx hb d_Pg_fillWithPathTable_55 rfl (lv_at hl 6 rfl) ?_
  refine hm_calli (va_runV (As := [.int 0, .ref rt, .int lw]) (b := pg) (rest := []) ⟨hx, hb, hml, hown, hts⟩ (c_Page_putEntry_root l D t G ak av h10 pg pb rt 0 lw sc (0 + 1) f_pg ⟨f, hfit, f_pb⟩ f_rt) ⟨cw9B 3 hts mw_150 mw_151 mw_52 rfl rfl (by decide +kernel) ⟨Nat.le_of_ble_eq_true rfl, Nat.le_of_ble_eq_true rfl⟩, hts _ mw_152, hts _ mw_153⟩ (hP_V (q := (R_Pg, F_Pg, 1)) kE_ok hE hK hH f_pg rfl) rfl rfl hl.1 rfl (lv_room (Nat.le_of_ble_eq_true rfl)) d_Pg_fillWithPathTable_56 ⟨Nat.le_of_ble_eq_true rfl, Nat.le_of_ble_eq_true rfl⟩) hLo (fun r12 h13 H14 locs hp16 hH z15 hLo => ?_)
  have hz : s.heap.size ≤ H14.size := Nat.le_trans hz z15
  obtain ⟨rfl, hp9⟩ := hp16
  obtain ⟨hk9, f, hfit, f_pb2⟩ := hp9
  have f_pg : h13 pg = some (.inr (3, [.ref pb])) := kp_at hk9 f_pg (nmc (Ne.symm (h_neA f_pb f_pg)) nm0)
  have f_od : h13 od = some (.inl ((t 4), 30, .inr (.inr (.inr (.inr g))))) := kp_at hk9 f_od (nmc (h_neK (k1 := 4) (k2 := 0) f_od f_pb rfl rfl (by decide)) nm0)
  have f_rt : h13 rt = some (.inr (1, [.int 0, .null, .int 1, .long 0, .int 0, .int 0, .int 0, .int 0, .int 0, .int sc, .int (0 + 1)])) := kp_at hk9 f_rt (nmc (Ne.symm (h_neA f_pb f_rt)) nm0)
  have hkp : kp [pb, rt] h h13 := kp_tr2 hkp hk9 (List.forall_mem_cons.mpr ⟨Or.inl (by simp), List.forall_mem_nil _⟩)
  have f_pb : h13 pb = some (.inl ((t 0), 2048, .inl f)) := f_pb2
  refine lv_istore (lv' := [(4, .int (0 + 8 + (1 + (1 - 1 / 2 * 2)))), (5, .int (0 + 1)), (6, .int 0), (0, .ref pg), (1, .ref od), (2, .int 1), (3, .int lw)]) hx hb d_Pg_fillWithPathTable_59 hl (by decide) rfl (fun ls hl => ?_)
  refine lv_iinc (v := 0 + 1) (lv' := [(6, .int (0 + 1)), (4, .int (0 + 8 + (1 + (1 - 1 / 2 * 2)))), (5, .int (0 + 1)), (0, .ref pg), (1, .ref od), (2, .int 1), (3, .int lw)]) hx hb d_Pg_fillWithPathTable_61 hl (k := 2) rfl (by rfl) (by decide) rfl (fun ls hl => ?_)
  refine lv_goto (tgt := 13) hx hb d_Pg_fillWithPathTable_64 (by decide) ?_
  refine lv_iload hx hb d_Pg_fillWithPathTable_13 (lv_at hl 0 rfl) ?_
  refine lv_iload_n hx hb d_Pg_fillWithPathTable_15 rfl (lv_at hl 5 rfl) ?_
  refine lv_icmp_ge (tgt := 67) hx hb d_Pg_fillWithPathTable_16 (by decide) (fun hc17 => ?_) (fun hc17 => absurd (by decide) hc17)
  refine lv_iload hx hb d_Pg_fillWithPathTable_67 (lv_at hl 1 rfl) ?_
  exact W.iret (v := 0 + 8 + (1 + (1 - 1 / 2 * 2))) hx hb hr (fun t9 ht hW => ⟨0 + 8 + (1 + (1 - 1 / 2 * 2)), h13, rfl, ⟨by decide, hkp, f_rt, f, hfit, f_pb⟩, by rw [ht]; exact hH, by rw [ht]; exact hz⟩) hLo d_Pg_fillWithPathTable_69

set_option maxHeartbeats 4000000 in
set_option maxRecDepth 100000 in
theorem c_Page_directory (l : Launch) (D : va_G) (t : Nat → ClassId) (G : hG) (ak av : Nat → Nat) (h : hM) (pg pb od rt : Nat) (g : Nat → Option Nat) (sc np : Int32) (f_pg : h pg = some (.inr (3, [.ref pb]))) (hpb : pgF t h pb 2048) (f_od : h od = some (.inl ((t 4), 30, .inr (.inr (.inr (.inr g)))))) (f_rt : h rt = some (.inr (1, [.int 0, .null, .int 1, .long 0, .int 0, .int 0, .int 0, .int 0, .int 0, .int sc, .int np]))) (hg0 : g 0 = some rt) : Met l y_Pg_fillWithDirectory (.code y_Pg_fillWithDirectory b_Pg_fillWithDirectory 6 none :: lw_g) { frames := 3, cells := 0, slots := 0, locals := 71 } (hP (kE D t G ak av) D vwCl G h [.ref pg, .ref rt, .ref od, .int 1]) (hQv D vwCl G (fun h' => kp [pb] h h' ∧ pgF t h' pb 2048)) 0 0 G.P := by
  refine Met.ofW (cc := b_Pg_fillWithDirectory) (maxL := 6) (ret := none) (by decide) rfl ?_
  intro p e s m args below meth c s₁ Bd hml hv
  obtain ⟨ha, hE, hH⟩ := hv
  have hx := Bd.exec
  have hb := Bd.bytes
  have hr := Bd.returns
  have hts : ∀ w ∈ lw_g, w.before args s = true := fun w hw => atoms_spec (ws := (.code y_Pg_fillWithDirectory b_Pg_fillWithDirectory 6 none :: lw_g)) Bd.pre w (List.mem_cons_of_mem _ hw)
  have hown : s.vm.findClass R_Pg = some m.cls := findClass_of_methodNamed Bd.named
  have hlocks := Bd.notSynchronized
  have hK := hE.1
  have hH0 := hH
  have hLo : hLc G.P [] := hLc_nil
  have hz : s.heap.size ≤ s.heap.size := Nat.le_refl _
  have hkp : kp [pb] h h := kp_rf
  have hl := lv_entry [.ref pg, .ref rt, .ref od, .int 1] (n := 6) (Nat.le_of_ble_eq_true rfl)
  rw [show entryFrame m args 6 = F0 m 0 ((lg_sl [.ref pg, .ref rt, .ref od, .int 1] ++ List.replicate (6 - (lg_sl [.ref pg, .ref rt, .ref od, .int 1]).length) Slot.unset).toArray) [] from (by rw [ha]; exact lg_entry_eq m [.ref pg, .ref rt, .ref od, .int 1] 6)]
  generalize (lg_sl [.ref pg, .ref rt, .ref od, .int 1] ++ List.replicate (6 - (lg_sl [.ref pg, .ref rt, .ref od, .int 1]).length) Slot.unset).toArray = ls at hl ⊢
  have hl : lv_has ls 6 [(0, .ref pg), (1, .ref rt), (2, .ref od), (3, .int 1)] := hl
  obtain ⟨f, hfit, f_pb⟩ := hpb
  refine lv_aload_n hx hb d_Pg_fillWithDirectory_0 rfl (lv_at hl 0 rfl) ?_
  refine hm_callv (va_runV (As := []) (b := pg) (rest := []) ⟨hx, hb, hml, hown, hts⟩ (c_Page_clear l D t G ak av h pg pb 2048  f_pg ⟨f, hfit, f_pb⟩ (by decide)) ⟨cw9B 0 hts mw_132 mw_133 mw_52 rfl rfl (by decide +kernel) ⟨Nat.le_of_ble_eq_true rfl, Nat.le_of_ble_eq_true rfl⟩, hts _ mw_134, hts _ mw_135⟩ (hP_V (q := (R_Pg, F_Pg, 1)) kE_ok hE hK hH f_pg rfl) rfl rfl hl.1 rfl (lv_room (Nat.le_of_ble_eq_true rfl)) d_Pg_fillWithDirectory_1 ⟨Nat.le_of_ble_eq_true rfl, Nat.le_of_ble_eq_true rfl⟩) hLo (fun h1 H2 locs hp4 hH z3 hLo => ?_)
  have hz : s.heap.size ≤ H2.size := Nat.le_trans hz z3
  obtain ⟨hk9, f, hfit, f_pb2⟩ := hp4
  have f_pg : h1 pg = some (.inr (3, [.ref pb])) := kp_at hk9 f_pg (nmc (Ne.symm (h_neA f_pb f_pg)) nm0)
  have f_od : h1 od = some (.inl ((t 4), 30, .inr (.inr (.inr (.inr g))))) := kp_at hk9 f_od (nmc (h_neK (k1 := 4) (k2 := 0) f_od f_pb rfl rfl (by decide)) nm0)
  have f_rt : h1 rt = some (.inr (1, [.int 0, .null, .int 1, .long 0, .int 0, .int 0, .int 0, .int 0, .int 0, .int sc, .int np])) := kp_at hk9 f_rt (nmc (Ne.symm (h_neA f_pb f_rt)) nm0)
  have hkp : kp [pb] h h1 := kp_tr2 hkp hk9 (List.forall_mem_cons.mpr ⟨Or.inl (by simp), List.forall_mem_nil _⟩)
  have f_pb : h1 pb = some (.inl ((t 0), 2048, .inl f)) := f_pb2
  refine lv_aload_n hx hb d_Pg_fillWithDirectory_4 rfl (lv_at hl 0 rfl) ?_
  refine lv_iconst (v := 0) hx hb d_Pg_fillWithDirectory_5 (by decide) ?_
  refine lv_aload_n hx hb d_Pg_fillWithDirectory_6 rfl (lv_at hl 1 rfl) ?_
  refine lv_iconst (v := 0) hx hb d_Pg_fillWithDirectory_7 (by decide) ?_
  refine hm_calli (va_runV (As := [.int 0, .ref rt, .int 0]) (b := pg) (rest := []) ⟨hx, hb, hml, hown, hts⟩ (c_Page_putRecord_root0 l D t G ak av h1 pg pb rt 0 sc np f_pg ⟨f, hfit, f_pb⟩ f_rt) ⟨cw9B 3 hts mw_145 mw_146 mw_52 rfl rfl (by decide +kernel) ⟨Nat.le_of_ble_eq_true rfl, Nat.le_of_ble_eq_true rfl⟩, hts _ mw_147, hts _ mw_148⟩ (hP_V (q := (R_Pg, F_Pg, 1)) kE_ok hE hK hH f_pg rfl) rfl rfl hl.1 rfl (lv_room (Nat.le_of_ble_eq_true rfl)) d_Pg_fillWithDirectory_8 ⟨Nat.le_of_ble_eq_true rfl, Nat.le_of_ble_eq_true rfl⟩) hLo (fun r5 h6 H7 locs hp9 hH z8 hLo => ?_)
  have hz : s.heap.size ≤ H7.size := Nat.le_trans hz z8
  obtain ⟨rfl, hp9⟩ := hp9
  obtain ⟨hk9, f, hfit, f_pb2⟩ := hp9
  have f_pg : h6 pg = some (.inr (3, [.ref pb])) := kp_at hk9 f_pg (nmc (Ne.symm (h_neA f_pb f_pg)) nm0)
  have f_od : h6 od = some (.inl ((t 4), 30, .inr (.inr (.inr (.inr g))))) := kp_at hk9 f_od (nmc (h_neK (k1 := 4) (k2 := 0) f_od f_pb rfl rfl (by decide)) nm0)
  have f_rt : h6 rt = some (.inr (1, [.int 0, .null, .int 1, .long 0, .int 0, .int 0, .int 0, .int 0, .int 0, .int sc, .int np])) := kp_at hk9 f_rt (nmc (Ne.symm (h_neA f_pb f_rt)) nm0)
  have hkp : kp [pb] h h6 := kp_tr2 hkp hk9 (List.forall_mem_cons.mpr ⟨Or.inl (by simp), List.forall_mem_nil _⟩)
  have f_pb : h6 pb = some (.inl ((t 0), 2048, .inl f)) := f_pb2
  refine lv_istore (lv' := [(4, .int (0 + 34)), (0, .ref pg), (1, .ref rt), (2, .ref od), (3, .int 1)]) hx hb d_Pg_fillWithDirectory_11 hl (by decide) rfl (fun ls hl => ?_)
  refine lv_aload_n hx hb d_Pg_fillWithDirectory_13 rfl (lv_at hl 1 rfl) ?_
  refine lv_iload hx hb d_Pg_fillWithDirectory_14 (lv_at hl 0 rfl) ?_
  refine lv_aload_n hx hb d_Pg_fillWithDirectory_16 rfl (lv_at hl 2 rfl) ?_
  refine hm_get (ci := 1) (v := .null) (C := R_No) (T := F_No) (N := 11) hx hb hts ig_No hown hK hH f_rt rfl 1 (by decide) (hts _ mw_110) (fun _ h9 => h9) rfl d_Pg_fillWithDirectory_17 ?_
  refine lv_ifnonnullN hx hb d_Pg_fillWithDirectory_20 ?_
  refine lv_aload_n hx hb d_Pg_fillWithDirectory_23 rfl (lv_at hl 2 rfl) ?_
  refine lv_goto (tgt := 31) hx hb d_Pg_fillWithDirectory_24 (by decide) ?_
  refine lv_iconst (v := 1) hx hb d_Pg_fillWithDirectory_31 (by decide) ?_
  refine hm_calli (va_runV (As := [.int (0 + 34), .ref rt, .int 1]) (b := pg) (rest := []) ⟨hx, hb, hml, hown, hts⟩ (c_Page_putRecord_root1 l D t G ak av h6 pg pb rt (0 + 34) sc np f_pg ⟨f, hfit, f_pb⟩ f_rt) ⟨cw9B 3 hts mw_145 mw_146 mw_52 rfl rfl (by decide +kernel) ⟨Nat.le_of_ble_eq_true rfl, Nat.le_of_ble_eq_true rfl⟩, hts _ mw_147, hts _ mw_148⟩ (hP_V (q := (R_Pg, F_Pg, 1)) kE_ok hE hK hH f_pg rfl) rfl rfl hl.1 rfl (lv_room (Nat.le_of_ble_eq_true rfl)) d_Pg_fillWithDirectory_32 ⟨Nat.le_of_ble_eq_true rfl, Nat.le_of_ble_eq_true rfl⟩) hLo (fun r10 h11 H12 locs hp14 hH z13 hLo => ?_)
  have hz : s.heap.size ≤ H12.size := Nat.le_trans hz z13
  obtain ⟨rfl, hp9⟩ := hp14
  obtain ⟨hk9, f, hfit, f_pb2⟩ := hp9
  have f_pg : h11 pg = some (.inr (3, [.ref pb])) := kp_at hk9 f_pg (nmc (Ne.symm (h_neA f_pb f_pg)) nm0)
  have f_od : h11 od = some (.inl ((t 4), 30, .inr (.inr (.inr (.inr g))))) := kp_at hk9 f_od (nmc (h_neK (k1 := 4) (k2 := 0) f_od f_pb rfl rfl (by decide)) nm0)
  have f_rt : h11 rt = some (.inr (1, [.int 0, .null, .int 1, .long 0, .int 0, .int 0, .int 0, .int 0, .int 0, .int sc, .int np])) := kp_at hk9 f_rt (nmc (Ne.symm (h_neA f_pb f_rt)) nm0)
  have hkp : kp [pb] h h11 := kp_tr2 hkp hk9 (List.forall_mem_cons.mpr ⟨Or.inl (by simp), List.forall_mem_nil _⟩)
  have f_pb : h11 pb = some (.inl ((t 0), 2048, .inl f)) := f_pb2
  refine lv_istore (lv' := [(4, .int (0 + 34 + 34)), (0, .ref pg), (1, .ref rt), (2, .ref od), (3, .int 1)]) hx hb d_Pg_fillWithDirectory_35 hl (by decide) rfl (fun ls hl => ?_)
  refine lv_iconst (v := 0) hx hb d_Pg_fillWithDirectory_37 (by decide) ?_
  refine lv_istore (lv' := [(5, .int 0), (4, .int (0 + 34 + 34)), (0, .ref pg), (1, .ref rt), (2, .ref od), (3, .int 1)]) hx hb d_Pg_fillWithDirectory_38 hl (by decide) rfl (fun ls hl => ?_)
  refine lv_iload hx hb d_Pg_fillWithDirectory_40 (lv_at hl 0 rfl) ?_
  refine lv_iload_n hx hb d_Pg_fillWithDirectory_42 rfl (lv_at hl 5 rfl) ?_
  refine lv_icmp_ge (tgt := 83) hx hb d_Pg_fillWithDirectory_43 (by decide) (fun hc15 => absurd hc15 (by decide)) (fun hc15 => ?_)
  refine lv_iload hx hb d_Pg_fillWithDirectory_46 (lv_at hl 0 rfl) ?_
  refine lv_aload_n hx hb d_Pg_fillWithDirectory_48 rfl (lv_at hl 4 rfl) ?_
  refine hm_alen (v := 30) hx hb hK hH 4 f_od (ty := (.object "WriteOnceDisc$Node")) rfl (show Int32.ofNat 30 = 30 by decide) d_Pg_fillWithDirectory_49 ?_
  refine lv_icmp_ge (tgt := 83) hx hb d_Pg_fillWithDirectory_50 (by decide) (fun hc16 => absurd hc16 (by decide)) (fun hc16 => ?_)
  refine lv_aload_n hx hb d_Pg_fillWithDirectory_53 rfl (lv_at hl 4 rfl) ?_
  refine lv_iload hx hb d_Pg_fillWithDirectory_54 (lv_at hl 0 rfl) ?_
  refine hj_aald (v := .ref rt) hx hb hK hH 4 f_od (C := R_No) rfl 0 (by decide) (by decide) (by decide) (by rw [hg0]; rfl) d_Pg_fillWithDirectory_56 ?_
  refine hm_get (ci := 1) (v := .null) (C := R_No) (T := F_No) (N := 11) hx hb hts ig_No hown hK hH f_rt rfl 1 (by decide) (hts _ mw_110) (fun _ h9 => h9) rfl d_Pg_fillWithDirectory_57 ?_
  refine lv_aload_n hx hb d_Pg_fillWithDirectory_60 rfl (lv_at hl 3 rfl) ?_
  refine lv_acmp_ne (rx := none) (ry := some rt) (tgt := 77) hx hb d_Pg_fillWithDirectory_61 (by decide) (fun hc17 => ?_) (fun hc17 => absurd hc17 (by simp))
  refine lv_iinc (v := 0 + 1) (lv' := [(5, .int (0 + 1)), (4, .int (0 + 34 + 34)), (0, .ref pg), (1, .ref rt), (2, .ref od), (3, .int 1)]) hx hb d_Pg_fillWithDirectory_77 hl (k := 0) rfl (by rfl) (by decide) rfl (fun ls hl => ?_)
  refine lv_goto (tgt := 40) hx hb d_Pg_fillWithDirectory_80 (by decide) ?_
  refine lv_iload hx hb d_Pg_fillWithDirectory_40 (lv_at hl 0 rfl) ?_
  refine lv_iload_n hx hb d_Pg_fillWithDirectory_42 rfl (lv_at hl 5 rfl) ?_
  refine lv_icmp_ge (tgt := 83) hx hb d_Pg_fillWithDirectory_43 (by decide) (fun hc18 => ?_) (fun hc18 => absurd (by decide) hc18)
  exact W.vret hx hb hr (fun t9 ht hW => ⟨h11, rfl, ⟨hkp, f, hfit, f_pb⟩, by rw [ht]; exact hH, by rw [ht]; exact hz⟩) hLo d_Pg_fillWithDirectory_83
