set_option maxRecDepth 100000 in
theorem mw_589 : Cond.fieldLink R_Mo 122 "WriteOnceDiscModel" "writes" "I" ∈ lw_g := lw_gin (List.mem_append_right _ (List.mem_of_getElem? (i := 925) rfl)) (by decide +kernel)
set_option maxRecDepth 100000 in
theorem mw_590 : Cond.fieldLink R_Mo 103 "WriteOnceDiscModel" "left" "I" ∈ lw_g := lw_gin (List.mem_append_right _ (List.mem_of_getElem? (i := 924) rfl)) (by decide +kernel)
set_option maxRecDepth 100000 in
theorem mw_591 : Cond.fieldLink R_Mo 21 "WriteOnceDiscModel" "page" "[B" ∈ lw_g := lw_gin (List.mem_append_right _ (List.mem_of_getElem? (i := 926) rfl)) (by decide +kernel)
set_option maxRecDepth 100000 in
theorem mw_592 : Cond.fieldLink R_Mo 17 "WriteOnceDiscModel" "defective" "[Z" ∈ lw_g := lw_gin (List.mem_append_right _ (List.mem_of_getElem? (i := 922) rfl)) (by decide +kernel)
set_option maxRecDepth 100000 in
theorem mw_593 : Cond.fieldLink R_Mo 125 "WriteOnceDiscModel" "lost" "Z" ∈ lw_g := lw_gin (List.mem_append_right _ (List.mem_of_getElem? (i := 923) rfl)) (by decide +kernel)
set_option maxRecDepth 100000 in
theorem mw_594 : Cond.fieldLink R_Mo 109 "WriteOnceDiscModel" "thrown" "I" ∈ lw_g := lw_gin (List.mem_append_right _ (List.mem_of_getElem? (i := 917) rfl)) (by decide +kernel)
set_option maxRecDepth 100000 in
theorem mw_595 : Cond.fieldLink R_Mo 112 "WriteOnceDiscModel" "many" "I" ∈ lw_g := lw_gin (List.mem_append_right _ (List.mem_of_getElem? (i := 927) rfl)) (by decide +kernel)
set_option maxRecDepth 100000 in
theorem mw_596 : Cond.fieldLink R_Mo 24 "WriteOnceDiscModel" "isThere" "[Z" ∈ lw_g := lw_gin (List.mem_append_right _ (List.mem_of_getElem? (i := 928) rfl)) (by decide +kernel)
set_option maxRecDepth 100000 in
theorem mw_597 : Cond.fieldLink R_Mo 30 "WriteOnceDiscModel" "parent" "[I" ∈ lw_g := lw_gin (List.mem_append_right _ (List.mem_of_getElem? (i := 930) rfl)) (by decide +kernel)
set_option maxRecDepth 100000 in
theorem mw_598 : Cond.fieldLink R_Mo 34 "WriteOnceDiscModel" "name" "[J" ∈ lw_g := lw_gin (List.mem_append_right _ (List.mem_of_getElem? (i := 931) rfl)) (by decide +kernel)
theorem d_Mo_burn_0 : decode b_Mo_burn 0 = .ok (.aload_n 0, 1) := by decide +kernel
theorem d_Mo_burn_1 : decode b_Mo_burn 1 = .ok (.dup, 1) := by decide +kernel
theorem d_Mo_burn_2 : decode b_Mo_burn 2 = .ok (.getfield 122, 3) := by decide +kernel
theorem d_Mo_burn_5 : decode b_Mo_burn 5 = .ok (.iconst 1, 1) := by decide +kernel
theorem d_Mo_burn_6 : decode b_Mo_burn 6 = .ok (.iadd, 1) := by decide +kernel
theorem d_Mo_burn_7 : decode b_Mo_burn 7 = .ok (.putfield 122, 3) := by decide +kernel
theorem d_Mo_burn_10 : decode b_Mo_burn 10 = .ok (.aload_n 0, 1) := by decide +kernel
theorem d_Mo_burn_11 : decode b_Mo_burn 11 = .ok (.getfield 103, 3) := by decide +kernel
theorem d_Mo_burn_14 : decode b_Mo_burn 14 = .ok (.ifCond .ne 19, 3) := by decide +kernel
theorem d_Mo_burn_50 : decode b_Mo_burn 50 = .ok (.iload_n 1, 1) := by decide +kernel
theorem d_Mo_burn_51 : decode b_Mo_burn 51 = .ok (.aload_n 0, 1) := by decide +kernel
theorem d_Mo_burn_52 : decode b_Mo_burn 52 = .ok (.getfield 115, 3) := by decide +kernel
theorem d_Mo_burn_55 : decode b_Mo_burn 55 = .ok (.if_icmp .ne 23, 3) := by decide +kernel
theorem d_Mo_burn_78 : decode b_Mo_burn 78 = .ok (.aload_n 0, 1) := by decide +kernel
theorem d_Mo_burn_79 : decode b_Mo_burn 79 = .ok (.getfield 14, 3) := by decide +kernel
theorem d_Mo_burn_82 : decode b_Mo_burn 82 = .ok (.iload_n 1, 1) := by decide +kernel
theorem d_Mo_burn_83 : decode b_Mo_burn 83 = .ok (.iload_n 2, 1) := by decide +kernel
theorem d_Mo_burn_84 : decode b_Mo_burn 84 = .ok (.iadd, 1) := by decide +kernel
theorem d_Mo_burn_85 : decode b_Mo_burn 85 = .ok (.iconst 1, 1) := by decide +kernel
theorem d_Mo_burn_86 : decode b_Mo_burn 86 = .ok (.bastore, 1) := by decide +kernel
theorem d_Mo_burn_87 : decode b_Mo_burn 87 = .ok (.iconst 0, 1) := by decide +kernel
theorem d_Mo_burn_88 : decode b_Mo_burn 88 = .ok (.istore_n 3, 1) := by decide +kernel
theorem d_Mo_burn_89 : decode b_Mo_burn 89 = .ok (.iload_n 3, 1) := by decide +kernel
theorem d_Mo_burn_90 : decode b_Mo_burn 90 = .ok (.sipush 2048, 3) := by decide +kernel
theorem d_Mo_burn_93 : decode b_Mo_burn 93 = .ok (.if_icmp .ge 29, 3) := by decide +kernel
theorem d_Mo_burn_122 : decode b_Mo_burn 122 = .ok (.iconst 0, 1) := by decide +kernel
theorem d_Mo_burn_123 : decode b_Mo_burn 123 = .ok (.ireturn, 1) := by decide +kernel
theorem d_Mo_burn_96 : decode b_Mo_burn 96 = .ok (.aload_n 0, 1) := by decide +kernel
theorem d_Mo_burn_97 : decode b_Mo_burn 97 = .ok (.getfield 8, 3) := by decide +kernel
theorem d_Mo_burn_100 : decode b_Mo_burn 100 = .ok (.sipush 2048, 3) := by decide +kernel
theorem d_Mo_burn_103 : decode b_Mo_burn 103 = .ok (.iload_n 1, 1) := by decide +kernel
theorem d_Mo_burn_104 : decode b_Mo_burn 104 = .ok (.iload_n 2, 1) := by decide +kernel
theorem d_Mo_burn_105 : decode b_Mo_burn 105 = .ok (.iadd, 1) := by decide +kernel
theorem d_Mo_burn_106 : decode b_Mo_burn 106 = .ok (.imul, 1) := by decide +kernel
theorem d_Mo_burn_107 : decode b_Mo_burn 107 = .ok (.iload_n 3, 1) := by decide +kernel
theorem d_Mo_burn_108 : decode b_Mo_burn 108 = .ok (.iadd, 1) := by decide +kernel
theorem d_Mo_burn_109 : decode b_Mo_burn 109 = .ok (.aload_n 0, 1) := by decide +kernel
theorem d_Mo_burn_110 : decode b_Mo_burn 110 = .ok (.getfield 21, 3) := by decide +kernel
theorem d_Mo_burn_113 : decode b_Mo_burn 113 = .ok (.iload_n 3, 1) := by decide +kernel
theorem d_Mo_burn_114 : decode b_Mo_burn 114 = .ok (.baload, 1) := by decide +kernel
theorem d_Mo_burn_115 : decode b_Mo_burn 115 = .ok (.bastore, 1) := by decide +kernel
theorem d_Mo_burn_116 : decode b_Mo_burn 116 = .ok (.iinc 3 1, 3) := by decide +kernel
theorem d_Mo_burn_119 : decode b_Mo_burn 119 = .ok (.goto (-30), 3) := by decide +kernel
theorem d_Mo_burn_58 : decode b_Mo_burn 58 = .ok (.aload_n 0, 1) := by decide +kernel
theorem d_Mo_burn_59 : decode b_Mo_burn 59 = .ok (.getfield 17, 3) := by decide +kernel
theorem d_Mo_burn_62 : decode b_Mo_burn 62 = .ok (.iload_n 2, 1) := by decide +kernel
theorem d_Mo_burn_63 : decode b_Mo_burn 63 = .ok (.baload, 1) := by decide +kernel
theorem d_Mo_burn_64 : decode b_Mo_burn 64 = .ok (.ifCond .eq 14, 3) := by decide +kernel
theorem d_Mo_burn_67 : decode b_Mo_burn 67 = .ok (.aload_n 0, 1) := by decide +kernel
theorem d_Mo_burn_68 : decode b_Mo_burn 68 = .ok (.getfield 14, 3) := by decide +kernel
theorem d_Mo_burn_71 : decode b_Mo_burn 71 = .ok (.iload_n 1, 1) := by decide +kernel
theorem d_Mo_burn_72 : decode b_Mo_burn 72 = .ok (.iload_n 2, 1) := by decide +kernel
theorem d_Mo_burn_73 : decode b_Mo_burn 73 = .ok (.iadd, 1) := by decide +kernel
theorem d_Mo_burn_74 : decode b_Mo_burn 74 = .ok (.iconst 2, 1) := by decide +kernel
theorem d_Mo_burn_75 : decode b_Mo_burn 75 = .ok (.bastore, 1) := by decide +kernel
theorem d_Mo_burn_76 : decode b_Mo_burn 76 = .ok (.iconst 1, 1) := by decide +kernel
theorem d_Mo_burn_77 : decode b_Mo_burn 77 = .ok (.ireturn, 1) := by decide +kernel
theorem d_Mo_burn_33 : decode b_Mo_burn 33 = .ok (.aload_n 0, 1) := by decide +kernel
theorem d_Mo_burn_34 : decode b_Mo_burn 34 = .ok (.getfield 103, 3) := by decide +kernel
theorem d_Mo_burn_37 : decode b_Mo_burn 37 = .ok (.ifCond .le 13, 3) := by decide +kernel
theorem d_Mo_burn_40 : decode b_Mo_burn 40 = .ok (.aload_n 0, 1) := by decide +kernel
theorem d_Mo_burn_41 : decode b_Mo_burn 41 = .ok (.dup, 1) := by decide +kernel
theorem d_Mo_burn_42 : decode b_Mo_burn 42 = .ok (.getfield 103, 3) := by decide +kernel
theorem d_Mo_burn_45 : decode b_Mo_burn 45 = .ok (.iconst 1, 1) := by decide +kernel
theorem d_Mo_burn_46 : decode b_Mo_burn 46 = .ok (.isub, 1) := by decide +kernel
theorem d_Mo_burn_47 : decode b_Mo_burn 47 = .ok (.putfield 103, 3) := by decide +kernel
theorem d_Mo_burn_17 : decode b_Mo_burn 17 = .ok (.aload_n 0, 1) := by decide +kernel
theorem d_Mo_burn_18 : decode b_Mo_burn 18 = .ok (.getfield 14, 3) := by decide +kernel
theorem d_Mo_burn_21 : decode b_Mo_burn 21 = .ok (.iload_n 1, 1) := by decide +kernel
theorem d_Mo_burn_22 : decode b_Mo_burn 22 = .ok (.iload_n 2, 1) := by decide +kernel
theorem d_Mo_burn_23 : decode b_Mo_burn 23 = .ok (.iadd, 1) := by decide +kernel
theorem d_Mo_burn_24 : decode b_Mo_burn 24 = .ok (.iconst 2, 1) := by decide +kernel
theorem d_Mo_burn_25 : decode b_Mo_burn 25 = .ok (.bastore, 1) := by decide +kernel
theorem d_Mo_burn_26 : decode b_Mo_burn 26 = .ok (.aload_n 0, 1) := by decide +kernel
theorem d_Mo_burn_27 : decode b_Mo_burn 27 = .ok (.iconst 1, 1) := by decide +kernel
theorem d_Mo_burn_28 : decode b_Mo_burn 28 = .ok (.putfield 125, 3) := by decide +kernel
theorem d_Mo_burn_31 : decode b_Mo_burn 31 = .ok (.iconst 2, 1) := by decide +kernel
theorem d_Mo_burn_32 : decode b_Mo_burn 32 = .ok (.ireturn, 1) := by decide +kernel
theorem d_Mo_defect_0 : decode b_Mo_defect 0 = .ok (.aload_n 0, 1) := by decide +kernel
theorem d_Mo_defect_1 : decode b_Mo_defect 1 = .ok (.iconst 0, 1) := by decide +kernel
theorem d_Mo_defect_2 : decode b_Mo_defect 2 = .ok (.putfield 109, 3) := by decide +kernel
theorem d_Mo_defect_5 : decode b_Mo_defect 5 = .ok (.iload_n 1, 1) := by decide +kernel
theorem d_Mo_defect_6 : decode b_Mo_defect 6 = .ok (.iconst 0, 1) := by decide +kernel
theorem d_Mo_defect_7 : decode b_Mo_defect 7 = .ok (.aload_n 0, 1) := by decide +kernel
theorem d_Mo_defect_8 : decode b_Mo_defect 8 = .ok (.getfield 99, 3) := by decide +kernel
theorem d_Mo_defect_11 : decode b_Mo_defect 11 = .ok (.iconst 1, 1) := by decide +kernel
theorem d_Mo_defect_12 : decode b_Mo_defect 12 = .ok (.isub, 1) := by decide +kernel
theorem d_Mo_defect_13 : decode b_Mo_defect 13 = .ok (.invokestatic 118, 3) := by decide +kernel
theorem d_Mo_defect_16 : decode b_Mo_defect 16 = .ok (.ifCond .ne 5, 3) := by decide +kernel
theorem d_Mo_defect_19 : decode b_Mo_defect 19 = .ok (.iconst 0, 1) := by decide +kernel
theorem d_Mo_defect_20 : decode b_Mo_defect 20 = .ok (.ireturn, 1) := by decide +kernel
theorem d_Mo_defect_21 : decode b_Mo_defect 21 = .ok (.aload_n 0, 1) := by decide +kernel
theorem d_Mo_defect_22 : decode b_Mo_defect 22 = .ok (.getfield 14, 3) := by decide +kernel
theorem d_Mo_defect_25 : decode b_Mo_defect 25 = .ok (.aload_n 0, 1) := by decide +kernel
theorem d_Mo_defect_26 : decode b_Mo_defect 26 = .ok (.getfield 115, 3) := by decide +kernel
theorem d_Mo_defect_29 : decode b_Mo_defect 29 = .ok (.iload_n 1, 1) := by decide +kernel
theorem d_Mo_defect_30 : decode b_Mo_defect 30 = .ok (.iadd, 1) := by decide +kernel
theorem d_Mo_defect_31 : decode b_Mo_defect 31 = .ok (.baload, 1) := by decide +kernel
theorem d_Mo_defect_32 : decode b_Mo_defect 32 = .ok (.ifCond .ne 10, 3) := by decide +kernel
theorem d_Mo_defect_42 : decode b_Mo_defect 42 = .ok (.iconst 1, 1) := by decide +kernel
theorem d_Mo_defect_43 : decode b_Mo_defect 43 = .ok (.ireturn, 1) := by decide +kernel
theorem d_Mo_defect_35 : decode b_Mo_defect 35 = .ok (.aload_n 0, 1) := by decide +kernel
theorem d_Mo_defect_36 : decode b_Mo_defect 36 = .ok (.getfield 17, 3) := by decide +kernel
theorem d_Mo_defect_39 : decode b_Mo_defect 39 = .ok (.iload_n 1, 1) := by decide +kernel
theorem d_Mo_defect_40 : decode b_Mo_defect 40 = .ok (.iconst 1, 1) := by decide +kernel
theorem d_Mo_defect_41 : decode b_Mo_defect 41 = .ok (.bastore, 1) := by decide +kernel
theorem d_Mo_power_0 : decode b_Mo_power 0 = .ok (.aload_n 0, 1) := by decide +kernel
theorem d_Mo_power_1 : decode b_Mo_power 1 = .ok (.iconst 0, 1) := by decide +kernel
theorem d_Mo_power_2 : decode b_Mo_power 2 = .ok (.putfield 109, 3) := by decide +kernel
theorem d_Mo_power_5 : decode b_Mo_power 5 = .ok (.aload_n 0, 1) := by decide +kernel
theorem d_Mo_power_6 : decode b_Mo_power 6 = .ok (.getfield 125, 3) := by decide +kernel
theorem d_Mo_power_9 : decode b_Mo_power 9 = .ok (.ifCond .ne 16, 3) := by decide +kernel
theorem d_Mo_power_25 : decode b_Mo_power 25 = .ok (.return_, 1) := by decide +kernel
theorem d_Mo_power_12 : decode b_Mo_power 12 = .ok (.aload_n 0, 1) := by decide +kernel
theorem d_Mo_power_13 : decode b_Mo_power 13 = .ok (.iload_n 1, 1) := by decide +kernel
theorem d_Mo_power_14 : decode b_Mo_power 14 = .ok (.ifCond .ge 7, 3) := by decide +kernel
theorem d_Mo_power_21 : decode b_Mo_power 21 = .ok (.iload_n 1, 1) := by decide +kernel
theorem d_Mo_power_22 : decode b_Mo_power 22 = .ok (.putfield 103, 3) := by decide +kernel
theorem d_Mo_power_17 : decode b_Mo_power 17 = .ok (.iconst (-1), 1) := by decide +kernel
theorem d_Mo_power_18 : decode b_Mo_power 18 = .ok (.goto 4, 3) := by decide +kernel
theorem d_Mo_isNode_0 : decode b_Mo_isNode 0 = .ok (.iload_n 1, 1) := by decide +kernel
theorem d_Mo_isNode_1 : decode b_Mo_isNode 1 = .ok (.ifCond .lt 24, 3) := by decide +kernel
theorem d_Mo_isNode_25 : decode b_Mo_isNode 25 = .ok (.iconst 0, 1) := by decide +kernel
theorem d_Mo_isNode_26 : decode b_Mo_isNode 26 = .ok (.ireturn, 1) := by decide +kernel
theorem d_Mo_isNode_4 : decode b_Mo_isNode 4 = .ok (.iload_n 1, 1) := by decide +kernel
theorem d_Mo_isNode_5 : decode b_Mo_isNode 5 = .ok (.aload_n 0, 1) := by decide +kernel
theorem d_Mo_isNode_6 : decode b_Mo_isNode 6 = .ok (.getfield 112, 3) := by decide +kernel
theorem d_Mo_isNode_9 : decode b_Mo_isNode 9 = .ok (.if_icmp .ge 16, 3) := by decide +kernel
theorem d_Mo_isNode_12 : decode b_Mo_isNode 12 = .ok (.aload_n 0, 1) := by decide +kernel
theorem d_Mo_isNode_13 : decode b_Mo_isNode 13 = .ok (.getfield 24, 3) := by decide +kernel
theorem d_Mo_isNode_16 : decode b_Mo_isNode 16 = .ok (.iload_n 1, 1) := by decide +kernel
theorem d_Mo_isNode_17 : decode b_Mo_isNode 17 = .ok (.baload, 1) := by decide +kernel
theorem d_Mo_isNode_18 : decode b_Mo_isNode 18 = .ok (.ifCond .eq 7, 3) := by decide +kernel
theorem d_Mo_isNode_21 : decode b_Mo_isNode 21 = .ok (.iconst 1, 1) := by decide +kernel
theorem d_Mo_isNode_22 : decode b_Mo_isNode 22 = .ok (.goto 4, 3) := by decide +kernel
theorem d_Mo_namedIn_0 : decode b_Mo_namedIn 0 = .ok (.iconst 1, 1) := by decide +kernel
theorem d_Mo_namedIn_1 : decode b_Mo_namedIn 1 = .ok (.istore 4, 2) := by decide +kernel
theorem d_Mo_namedIn_3 : decode b_Mo_namedIn 3 = .ok (.iload 4, 2) := by decide +kernel
theorem d_Mo_namedIn_5 : decode b_Mo_namedIn 5 = .ok (.aload_n 0, 1) := by decide +kernel
theorem d_Mo_namedIn_6 : decode b_Mo_namedIn 6 = .ok (.getfield 112, 3) := by decide +kernel
theorem d_Mo_namedIn_9 : decode b_Mo_namedIn 9 = .ok (.if_icmp .ge 45, 3) := by decide +kernel
theorem d_Mo_namedIn_54 : decode b_Mo_namedIn 54 = .ok (.iconst (-1), 1) := by decide +kernel
theorem d_Mo_namedIn_55 : decode b_Mo_namedIn 55 = .ok (.ireturn, 1) := by decide +kernel
theorem d_Mo_namedIn_12 : decode b_Mo_namedIn 12 = .ok (.aload_n 0, 1) := by decide +kernel
theorem d_Mo_namedIn_13 : decode b_Mo_namedIn 13 = .ok (.getfield 24, 3) := by decide +kernel
theorem d_Mo_namedIn_16 : decode b_Mo_namedIn 16 = .ok (.iload 4, 2) := by decide +kernel
theorem d_Mo_namedIn_18 : decode b_Mo_namedIn 18 = .ok (.baload, 1) := by decide +kernel
theorem d_Mo_namedIn_19 : decode b_Mo_namedIn 19 = .ok (.ifCond .eq 29, 3) := by decide +kernel
theorem d_Mo_namedIn_48 : decode b_Mo_namedIn 48 = .ok (.iinc 4 1, 3) := by decide +kernel
theorem d_Mo_namedIn_51 : decode b_Mo_namedIn 51 = .ok (.goto (-48), 3) := by decide +kernel
theorem d_Mo_namedIn_22 : decode b_Mo_namedIn 22 = .ok (.aload_n 0, 1) := by decide +kernel
theorem d_Mo_namedIn_23 : decode b_Mo_namedIn 23 = .ok (.getfield 30, 3) := by decide +kernel
theorem d_Mo_namedIn_26 : decode b_Mo_namedIn 26 = .ok (.iload 4, 2) := by decide +kernel
theorem d_Mo_namedIn_28 : decode b_Mo_namedIn 28 = .ok (.iaload, 1) := by decide +kernel
theorem d_Mo_namedIn_29 : decode b_Mo_namedIn 29 = .ok (.iload_n 1, 1) := by decide +kernel
theorem d_Mo_namedIn_30 : decode b_Mo_namedIn 30 = .ok (.if_icmp .ne 18, 3) := by decide +kernel
theorem d_Mo_namedIn_33 : decode b_Mo_namedIn 33 = .ok (.aload_n 0, 1) := by decide +kernel
theorem d_Mo_namedIn_34 : decode b_Mo_namedIn 34 = .ok (.getfield 34, 3) := by decide +kernel
theorem d_Mo_namedIn_37 : decode b_Mo_namedIn 37 = .ok (.iload 4, 2) := by decide +kernel
theorem d_Mo_namedIn_39 : decode b_Mo_namedIn 39 = .ok (.laload, 1) := by decide +kernel
theorem d_Mo_namedIn_40 : decode b_Mo_namedIn 40 = .ok (.lload_n 2, 1) := by decide +kernel
theorem d_Mo_namedIn_41 : decode b_Mo_namedIn 41 = .ok (.lcmp, 1) := by decide +kernel
theorem d_Mo_namedIn_42 : decode b_Mo_namedIn 42 = .ok (.ifCond .ne 6, 3) := by decide +kernel
theorem d_Mo_namedIn_45 : decode b_Mo_namedIn 45 = .ok (.iload 4, 2) := by decide +kernel
theorem d_Mo_namedIn_47 : decode b_Mo_namedIn 47 = .ok (.ireturn, 1) := by decide +kernel
theorem d_Mo_depthOf_0 : decode b_Mo_depthOf 0 = .ok (.iconst 0, 1) := by decide +kernel
theorem d_Mo_depthOf_1 : decode b_Mo_depthOf 1 = .ok (.istore_n 2, 1) := by decide +kernel
theorem d_Mo_depthOf_2 : decode b_Mo_depthOf 2 = .ok (.iload_n 1, 1) := by decide +kernel
theorem d_Mo_depthOf_3 : decode b_Mo_depthOf 3 = .ok (.istore_n 3, 1) := by decide +kernel
theorem d_Mo_depthOf_4 : decode b_Mo_depthOf 4 = .ok (.iload_n 3, 1) := by decide +kernel
theorem d_Mo_depthOf_5 : decode b_Mo_depthOf 5 = .ok (.ifCond .le 16, 3) := by decide +kernel
theorem d_Mo_depthOf_21 : decode b_Mo_depthOf 21 = .ok (.iload_n 2, 1) := by decide +kernel
theorem d_Mo_depthOf_22 : decode b_Mo_depthOf 22 = .ok (.ireturn, 1) := by decide +kernel
theorem d_Mo_depthOf_8 : decode b_Mo_depthOf 8 = .ok (.iinc 2 1, 3) := by decide +kernel
theorem d_Mo_depthOf_11 : decode b_Mo_depthOf 11 = .ok (.aload_n 0, 1) := by decide +kernel
theorem d_Mo_depthOf_12 : decode b_Mo_depthOf 12 = .ok (.getfield 30, 3) := by decide +kernel
theorem d_Mo_depthOf_15 : decode b_Mo_depthOf 15 = .ok (.iload_n 3, 1) := by decide +kernel
theorem d_Mo_depthOf_16 : decode b_Mo_depthOf 16 = .ok (.iaload, 1) := by decide +kernel
theorem d_Mo_depthOf_17 : decode b_Mo_depthOf 17 = .ok (.istore_n 3, 1) := by decide +kernel
theorem d_Mo_depthOf_18 : decode b_Mo_depthOf 18 = .ok (.goto (-14), 3) := by decide +kernel
theorem d_Mo_liesIn_0 : decode b_Mo_liesIn 0 = .ok (.iload_n 1, 1) := by decide +kernel
theorem d_Mo_liesIn_1 : decode b_Mo_liesIn 1 = .ok (.istore_n 3, 1) := by decide +kernel
theorem d_Mo_liesIn_2 : decode b_Mo_liesIn 2 = .ok (.iload_n 3, 1) := by decide +kernel
theorem d_Mo_liesIn_3 : decode b_Mo_liesIn 3 = .ok (.ifCond .le 18, 3) := by decide +kernel
theorem d_Mo_liesIn_21 : decode b_Mo_liesIn 21 = .ok (.iload_n 3, 1) := by decide +kernel
theorem d_Mo_liesIn_22 : decode b_Mo_liesIn 22 = .ok (.iload_n 2, 1) := by decide +kernel
theorem d_Mo_liesIn_23 : decode b_Mo_liesIn 23 = .ok (.if_icmp .ne 7, 3) := by decide +kernel
theorem d_Mo_liesIn_30 : decode b_Mo_liesIn 30 = .ok (.iconst 0, 1) := by decide +kernel
theorem d_Mo_liesIn_31 : decode b_Mo_liesIn 31 = .ok (.ireturn, 1) := by decide +kernel
theorem d_Mo_liesIn_26 : decode b_Mo_liesIn 26 = .ok (.iconst 1, 1) := by decide +kernel
theorem d_Mo_liesIn_27 : decode b_Mo_liesIn 27 = .ok (.goto 4, 3) := by decide +kernel
theorem d_Mo_liesIn_6 : decode b_Mo_liesIn 6 = .ok (.iload_n 3, 1) := by decide +kernel
theorem d_Mo_liesIn_7 : decode b_Mo_liesIn 7 = .ok (.iload_n 2, 1) := by decide +kernel
theorem d_Mo_liesIn_8 : decode b_Mo_liesIn 8 = .ok (.if_icmp .eq 13, 3) := by decide +kernel
theorem d_Mo_liesIn_11 : decode b_Mo_liesIn 11 = .ok (.aload_n 0, 1) := by decide +kernel
theorem d_Mo_liesIn_12 : decode b_Mo_liesIn 12 = .ok (.getfield 30, 3) := by decide +kernel
theorem d_Mo_liesIn_15 : decode b_Mo_liesIn 15 = .ok (.iload_n 3, 1) := by decide +kernel
theorem d_Mo_liesIn_16 : decode b_Mo_liesIn 16 = .ok (.iaload, 1) := by decide +kernel
theorem d_Mo_liesIn_17 : decode b_Mo_liesIn 17 = .ok (.istore_n 3, 1) := by decide +kernel
theorem d_Mo_liesIn_18 : decode b_Mo_liesIn 18 = .ok (.goto (-16), 3) := by decide +kernel
theorem d_Mo_alive_0 : decode b_Mo_alive 0 = .ok (.iconst 0, 1) := by decide +kernel
theorem d_Mo_alive_1 : decode b_Mo_alive 1 = .ok (.istore_n 1, 1) := by decide +kernel
theorem d_Mo_alive_2 : decode b_Mo_alive 2 = .ok (.iconst 0, 1) := by decide +kernel
theorem d_Mo_alive_3 : decode b_Mo_alive 3 = .ok (.istore_n 2, 1) := by decide +kernel
theorem d_Mo_alive_4 : decode b_Mo_alive 4 = .ok (.iload_n 2, 1) := by decide +kernel
theorem d_Mo_alive_5 : decode b_Mo_alive 5 = .ok (.aload_n 0, 1) := by decide +kernel
theorem d_Mo_alive_6 : decode b_Mo_alive 6 = .ok (.getfield 112, 3) := by decide +kernel
theorem d_Mo_alive_9 : decode b_Mo_alive 9 = .ok (.if_icmp .ge 26, 3) := by decide +kernel
theorem d_Mo_alive_35 : decode b_Mo_alive 35 = .ok (.iload_n 1, 1) := by decide +kernel
theorem d_Mo_alive_36 : decode b_Mo_alive 36 = .ok (.ireturn, 1) := by decide +kernel
theorem d_Mo_alive_12 : decode b_Mo_alive 12 = .ok (.iload_n 1, 1) := by decide +kernel
theorem d_Mo_alive_13 : decode b_Mo_alive 13 = .ok (.aload_n 0, 1) := by decide +kernel
theorem d_Mo_alive_14 : decode b_Mo_alive 14 = .ok (.getfield 24, 3) := by decide +kernel
theorem d_Mo_alive_17 : decode b_Mo_alive 17 = .ok (.iload_n 2, 1) := by decide +kernel
theorem d_Mo_alive_18 : decode b_Mo_alive 18 = .ok (.baload, 1) := by decide +kernel
theorem d_Mo_alive_19 : decode b_Mo_alive 19 = .ok (.ifCond .eq 7, 3) := by decide +kernel
theorem d_Mo_alive_26 : decode b_Mo_alive 26 = .ok (.iconst 0, 1) := by decide +kernel
theorem d_Mo_alive_27 : decode b_Mo_alive 27 = .ok (.iadd, 1) := by decide +kernel
theorem d_Mo_alive_28 : decode b_Mo_alive 28 = .ok (.istore_n 1, 1) := by decide +kernel
theorem d_Mo_alive_29 : decode b_Mo_alive 29 = .ok (.iinc 2 1, 3) := by decide +kernel
theorem d_Mo_alive_32 : decode b_Mo_alive 32 = .ok (.goto (-28), 3) := by decide +kernel
theorem d_Mo_alive_22 : decode b_Mo_alive 22 = .ok (.iconst 1, 1) := by decide +kernel
theorem d_Mo_alive_23 : decode b_Mo_alive 23 = .ok (.goto 4, 3) := by decide +kernel
/-! identifiers -/
def shU (w : Int64) (k : Int32) : Int64 := (w.toUInt64 >>> (k.toInt64.toUInt64 &&& Int64.toUInt64 63)).toInt64
def letL (w : Int64) : Nat → Int32 → Int32
  | 0, i => i
  | k + 1, i => if lg_cmp (shU w (8 * i)) 0 = 0 then i else letL w k (i + 1)
def letF (w : Int64) : Int32 := letL w 8 0
def ltF (w : Int64) (i : Int32) : Int32 := (shU w (8 * (letF w - 1 - i)) &&& 255).toInt32
def idF (w : Int64) (d i : Int32) : Int32 := if i < letF w then ltF w i else if ¬ d = 0 then 0 else if ¬ i ≤ letF w + 2 then 0 else if ¬ i = letF w then (if ¬ i = letF w + 1 then 49 else 59) else 46
theorem letL_end {w : Int64} {k : Nat} {i : Int32} (hk : (8 - i.toInt).toNat = k) (h8 : 8 ≤ i.toInt) : letL w k i = i := by
  obtain rfl : k = 0 := by omega
  rfl
theorem letL_z {w : Int64} {k : Nat} {i : Int32} (hk : (8 - i.toInt).toNat = k) (h8 : i.toInt < 8) (hz : lg_cmp (shU w (8 * i)) 0 = 0) : letL w k i = i := by
  obtain ⟨j, rfl⟩ : ∃ j, k = j + 1 := ⟨k - 1, by omega⟩
  rw [letL, if_pos hz]
theorem letL_s {w : Int64} {k k' : Nat} {i j : Int32} (hk : (8 - i.toInt).toNat = k) (hj : j = i + 1) (hj2 : j.toInt = i.toInt + 1) (hk' : (8 - j.toInt).toNat = k') (h8 : i.toInt < 8) (hz : ¬ lg_cmp (shU w (8 * i)) 0 = 0) : letL w k' j = letL w k i := by
  obtain rfl : k = k' + 1 := by omega
  rw [letL, if_neg hz, hj]
theorem l_and8 (x : Int64) : 0 ≤ (x &&& 255).toInt32.toInt ∧ (x &&& 255).toInt32.toInt ≤ 255 := by
  have h : (x &&& 255).toBitVec.toNat ≤ 255 := by
    rw [Int64.toBitVec_and, BitVec.toNat_and]
    exact Nat.and_le_right
  have h2 : (x &&& 255).toInt = ((x &&& 255).toBitVec.toNat : Int) := by
    rw [← Int64.toInt_toBitVec, BitVec.toInt_eq_toNat_of_lt (by omega)]
  rw [Int64.toInt_toInt32, h2, Int.bmod_eq_of_le (by omega) (by omega)]
  omega
theorem idF_b (w : Int64) (d i : Int32) : 0 ≤ (idF w d i).toInt ∧ (idF w d i).toInt ≤ 255 := by
  unfold idF
  split
  · exact l_and8 _
  · split
    · decide
    · split
      · decide
      · split
        · split <;> decide
        · decide
/-- how two rows of bytes stand to each other -/
def gtK (a b : Nat → Int32) : Prop := ∃ i, i < 12 ∧ (∀ j, j < i → a j = b j) ∧ (b i).toInt < (a i).toInt
theorem gtK_ir {a : Nat → Int32} (h : gtK a a) : False := by
  obtain ⟨i, -, -, h⟩ := h
  omega
theorem gtK_tr {a b c : Nat → Int32} (h1 : gtK a b) (h2 : gtK b c) : gtK a c := by
  obtain ⟨i, i1, i2, i3⟩ := h1
  obtain ⟨j, j1, j2, j3⟩ := h2
  rcases Nat.lt_trichotomy i j with h | h | h
  · exact ⟨i, i1, fun q hq => (i2 q hq).trans (j2 q (by omega)), by rw [← j2 i h]; exact i3⟩
  · subst h
    exact ⟨i, i1, fun q hq => (i2 q hq).trans (j2 q hq), by omega⟩
  · exact ⟨j, j1, fun q hq => (i2 q (by omega)).trans (j2 q hq), by rw [i2 j h]; exact j3⟩
def kyF (nm : Nat → Int64) (di : Nat → Int32) (k : Nat) : Nat → Int32 := fun i => idF (nm k) (di k) (nI i)
theorem cmp_s {a b : Nat → Int32} {i j : Int32} {x y : Int32} (h0 : 0 ≤ i.toInt) (hj : j.toInt = i.toInt + 1) (he : ∀ q : Nat, q < i.toInt.toNat → a q = b q) (hx : x = a i.toInt.toNat) (hy : y = b i.toInt.toNat) (hd : x.toInt - y.toInt = 0) : ∀ q : Nat, q < j.toInt.toNat → a q = b q := fun q hq => by
  by_cases h : q < i.toInt.toNat
  · exact he q h
  · obtain rfl : q = i.toInt.toNat := by omega
    rw [← hx, ← hy]
    exact Int32.toInt_inj.mp (by omega)
theorem nI_to {i : Int32} (h : 0 ≤ i.toInt) : nI i.toInt.toNat = i := (i_nI h).symm
/-- what next answers -/
def nxP (it di pa : Nat → Int32) (nm : Nat → Int64) (m : Int) (d b r : Int32) : Prop := r = -1 ∨ (1 ≤ r.toInt ∧ r.toInt < m ∧ it r.toInt.toNat = 1 ∧ pa r.toInt.toNat = d ∧ (0 ≤ b.toInt → gtK (kyF nm di r.toInt.toNat) (kyF nm di b.toInt.toNat)))
theorem exM_add {it di sz iw ex : Nat → Int32} {m n : Nat} {d s : Int32} (hE : exM it di sz iw ex m n) (hs : 0 ≤ s.toInt ∧ s.toInt ≤ 6000) : exM (upd it m 1) (upd di m d) (upd sz m s) (upd iw m 0) (upd ex m 0) (m + 1) n := fun k hk h1 h2 => by
  by_cases hkm : k = m
  · subst hkm
    rw [upd_s, upd_s]
    exact ⟨hs.1, by omega, fun z => absurd z (by decide)⟩
  · rw [upd_n _ hkm] at h1 h2
    rw [upd_n _ hkm, upd_n _ hkm, upd_n _ hkm]
    exact hE k (by omega) h1 h2
theorem exM_put {it di sz iw ex : Nat → Int32} {m n q : Nat} {s : Int32} (hE : exM it di sz iw ex m n) (hs : 0 ≤ s.toInt ∧ s.toInt ≤ 6000) : exM it di (upd sz q s) (upd iw q 0) (upd ex q 0) m n := fun k hk h1 h2 => by
  by_cases hkm : k = q
  · subst hkm
    rw [upd_s, upd_s]
    exact ⟨hs.1, by omega, fun z => absurd z (by decide)⟩
  · rw [upd_n _ hkm, upd_n _ hkm, upd_n _ hkm]
    exact hE k hk h1 h2
theorem exM_drop {it di sz iw ex : Nat → Int32} {m n q : Nat} (hE : exM it di sz iw ex m n) : exM (upd it q 0) di sz iw ex m n := fun k hk h1 h2 => by
  by_cases hkm : k = q
  · rw [hkm, upd_s] at h1
    exact absurd h1 (by decide)
  · rw [upd_n _ hkm] at h1
    exact hE k hk h1 h2
theorem no_ch {it pa : Nat → Int32} {m : Nat} {k i j : Int32} {a b : Int32} (h0 : 0 ≤ i.toInt) (hj : j.toInt = i.toInt + 1) (hN : ∀ q : Nat, q < i.toInt.toNat → lvM it m q → q ≠ 0 → (pa q).toInt ≠ k.toInt.toNat) (hs : ¬ it i.toInt.toNat = 1 ∨ (pa i.toInt.toNat).toInt ≠ k.toInt.toNat) : ∀ q : Nat, q < j.toInt.toNat → lvM it m q → q ≠ 0 → (pa q).toInt ≠ k.toInt.toNat := fun q hq h1 h2 => by
  by_cases h : q < i.toInt.toNat
  · exact hN q h h1 h2
  · obtain rfl : q = i.toInt.toNat := by omega
    rcases hs with h3 | h3
    · exact absurd h1.2 h3
    · exact h3

set_option maxHeartbeats 4000000 in
set_option maxRecDepth 100000 in
theorem m_burn (l : Launch) (D : va_G) (t : Nat → ClassId) (G : hG) (ak av : Nat → Nat) (h : hM) (τ : tM) (n : Nat) (m9 : Nat) (f9 : Int32) (s9 : Int32) (A : Nat → Nat) (th sd lo le wr ma nu di pl se wg op : Int32) (hn : n ≤ 200) (hT : TI τ t n h) (T_m9 : τ m9 = (20, 0)) (F_m9 : h m9 = some (.inr (9, mf A n th sd lo le wr ma nu di pl se wg op))) (hA : ∀ i, i < 28 → τ (A i) = (30, i)) (hmk : mOk sd lo ma se op) (hf : f9.toInt = 0 ∨ f9.toInt = 200) (hs0 : 0 ≤ s9.toInt) (hs1 : s9.toInt < n) : Met l y_Mo_burn (.code y_Mo_burn b_Mo_burn 4 (some .int) :: lw_g) { frames := 0, cells := 0, slots := 0, locals := 0 } (hP (kE D t G ak av) D vwCl G h [.ref m9, .int f9, .int s9]) (hQi D vwCl G (fun r h' => TI τ t n h' ∧ kf τ [(30, 1), (30, 0)] [m9] h h' ∧ (∃ (lo' : Int32) (le' : Int32) (wr' : Int32), h' m9 = some (.inr (9, mf A n th sd lo' le' wr' ma nu di pl se wg op)) ∧ mOk sd lo' ma se op ∧ ((r = 0 ∨ r = 1 ∨ r = 2) ∧ ¬ aI h' (A 1) (f9.toInt.toNat + s9.toInt.toNat) = 0)))) 0 0 G.P := by
  refine Met.ofW (cc := b_Mo_burn) (maxL := 4) (ret := (some .int)) (by decide) rfl ?_
  intro p e s m args below meth c s₁ Bd hml hv
  obtain ⟨ha, hE, hH⟩ := hv
  have hx := Bd.exec
  have hb := Bd.bytes
  have hr := Bd.returns
  have hts : ∀ w ∈ lw_g, w.before args s = true := fun w hw => atoms_spec (ws := (.code y_Mo_burn b_Mo_burn 4 (some .int) :: lw_g)) Bd.pre w (List.mem_cons_of_mem _ hw)
  have hown : s.vm.findClass R_Mo = some m.cls := findClass_of_methodNamed Bd.named
  have hlocks := Bd.notSynchronized
  have hK := hE.1
  have hH0 := hH
  have hLo : hLc G.P [] := hLc_nil
  have hz : s.heap.size ≤ s.heap.size := Nat.le_refl _
  have hl := lv_entry [.ref m9, .int f9, .int s9] (n := 4) (Nat.le_of_ble_eq_true rfl)
  rw [show entryFrame m args 4 = F0 m 0 ((lg_sl [.ref m9, .int f9, .int s9] ++ List.replicate (4 - (lg_sl [.ref m9, .int f9, .int s9]).length) Slot.unset).toArray) [] from (by rw [ha]; exact lg_entry_eq m [.ref m9, .int f9, .int s9] 4)]
  generalize (lg_sl [.ref m9, .int f9, .int s9] ++ List.replicate (4 - (lg_sl [.ref m9, .int f9, .int s9]).length) Slot.unset).toArray = ls at hl ⊢
  have hl : lv_has ls 4 [(0, .ref m9), (1, .int f9), (2, .int s9)] := hl
  have hkf : kf τ [(30, 1), (30, 0)] [m9] h h := kf_rf
  obtain ⟨hsd, hlo, hma, hse, hop⟩ := id hmk
  have inI : (nI n).toInt = n := nI_toInt (by omega)
  have hf0 : 0 ≤ f9.toInt := by omega
  refine lv_aload_n hx hb d_Mo_burn_0 rfl (lv_at hl 0 rfl) ?_
  refine lv_dup hx hb d_Mo_burn_1 rfl ?_
  refine hm_get (ci := 9) (v := .int wr) (C := R_Mo) (T := F_Mo) (N := 41) hx hb hts ig_Mo hown hK hH F_m9 rfl 8 (by decide) (hts _ mw_589) (fun _ h9 => h9) rfl d_Mo_burn_2 ?_
  refine lv_iconst (v := 1) hx hb d_Mo_burn_5 (by decide) ?_
  refine lv_iadd hx hb d_Mo_burn_6 ?_
  refine lv_topi (fun v_1 e_2 => ?_)
  refine hm_put (ci := 9) (v := .int v_1) (ty := .int) (C := R_Mo) (T := F_Mo) (N := 41) hx hb hts ig_Mo t_Mo tk_Mo nm_Mo hown hK hH hLo F_m9 rfl 8 (by decide) (hts _ mw_589) (fun _ h9 => h9) rfl (by decide +kernel) rfl rfl (Nat.le_of_ble_eq_true rfl) d_Mo_burn_7 (fun H_3 locs hH z_4 hLo => ?_)
  have hz : s.heap.size ≤ H_3.size := by rw [z_4]; exact hz
  obtain ⟨h_5, e_6⟩ : ∃ z, z = hu h m9 (.inr (9, mf A n th sd lo le v_1 ma nu di pl se wg op)) := ⟨_, rfl⟩
  have hH : hm D vwCl G h_5 H_3 := by rw [e_6]; exact hH
  have F_m9 : h_5 m9 = some (.inr (9, mf A n th sd lo le v_1 ma nu di pl se wg op)) := by rw [e_6]; exact hu_s _ _ _
  have hT : TI τ t n h_5 := by rw [e_6]; exact TI_put hT T_m9 (by decide) ⟨_, rfl⟩
  have hkf : kf τ [(30, 1), (30, 0)] [m9] h h_5 := by rw [e_6]; exact kf_putM hkf (by simp)
  refine lv_aload_n hx hb d_Mo_burn_10 rfl (lv_at hl 0 rfl) ?_
  refine hm_get (ci := 9) (v := .int le) (C := R_Mo) (T := F_Mo) (N := 41) hx hb hts ig_Mo hown hK hH F_m9 rfl 7 (by decide) (hts _ mw_590) (fun _ h9 => h9) rfl d_Mo_burn_11 ?_
  refine lv_if_ne (tgt := 33) hx hb d_Mo_burn_14 (by decide) (fun hc_7 => ?_) (fun hc_7 => ?_)
  · skip
    refine hm_cut (α := Unit) (fun un9 ls H locs HH => ∃ (lq9 : Int32), (lv_has ls 4 [(0, .ref m9), (1, .int f9), (2, .int s9)]) ∧ (hm D vwCl G HH H) ∧ (s.heap.size ≤ H.size) ∧ (hLc G.P locs) ∧ (TI τ t n HH) ∧ (kf τ [(30, 1), (30, 0)] [m9] h HH) ∧ (HH m9 = some (.inr (9, mf A n th sd lo lq9 v_1 ma nu di pl se wg op)))) 50 (fun un9 => []) ?_ (fun J50 => ?_)
    · skip
      rintro un9 ls H locs HH ⟨lq9, hl, hH, hz, hLo, hT, hkf, F_m9⟩
      refine lv_iload_n hx hb d_Mo_burn_50 rfl (lv_at hl 1 rfl) ?_
      refine lv_aload_n hx hb d_Mo_burn_51 rfl (lv_at hl 0 rfl) ?_
      refine hm_get (ci := 9) (v := .int sd) (C := R_Mo) (T := F_Mo) (N := 41) hx hb hts ig_Mo hown hK hH F_m9 rfl 2 (by decide) (hts _ mw_586) (fun _ h9 => h9) rfl d_Mo_burn_52 ?_
      refine lv_icmp_ne (tgt := 78) hx hb d_Mo_burn_55 (by decide) (fun hc_8 => ?_) (fun hc_8 => ?_)
      · skip
        refine lv_aload_n hx hb d_Mo_burn_78 rfl (lv_at hl 0 rfl) ?_
        refine hm_get (ci := 9) (v := .ref (A 1)) (C := R_Mo) (T := F_Mo) (N := 41) hx hb hts ig_Mo hown hK hH F_m9 rfl 4 (by decide) (hts _ mw_588) (fun _ h9 => h9) rfl d_Mo_burn_79 ?_
        refine lv_iload_n hx hb d_Mo_burn_82 rfl (lv_at hl 1 rfl) ?_
        refine lv_iload_n hx hb d_Mo_burn_83 rfl (lv_at hl 2 rfl) ?_
        refine lv_iadd hx hb d_Mo_burn_84 ?_
        refine lv_topi (fun v_9 e_10 => ?_)
        refine lv_iconst (v := 1) hx hb d_Mo_burn_85 (by decide) ?_
        obtain ⟨g_11, F_A1, c_12⟩ := TI_arB (L := 400) hT (hA 1 (by decide)) rfl rfl
        have is_13 : v_9.toInt = f9.toInt + s9.toInt := by rw [e_10]; exact iAdd (by omega) (by omega)
        refine hm_bast hx hb hK hH hLo 0 F_A1 rfl (iIn (by omega) (by omega)) d_Mo_burn_86 (fun H_14 locs hH z_15 hLo => ?_)
        have hz : s.heap.size ≤ H_14.size := by rw [z_15]; exact hz
        obtain ⟨h_16, e_17⟩ : ∃ z, z = hu HH (A 1) (.inl ((t 0), 400, .inl (upd g_11 v_9.toNatClampNeg (vp_nar .byte (1 : Int32))))) := ⟨_, rfl⟩
        have hH : hm D vwCl G h_16 H_14 := by rw [e_17]; exact hH
        have F_m9 : h_16 m9 = some (.inr (9, mf A n th sd lo lq9 v_1 ma nu di pl se wg op)) := by rw [e_17, hu_n (tne T_m9 (hA 1 (by decide)) (by decide))]; exact F_m9
        have F_A1 : h_16 (A 1) = some (.inl ((t 0), 400, .inl (upd g_11 v_9.toNatClampNeg (vp_nar .byte (1 : Int32))))) := by rw [e_17]; exact hu_s _ _ _
        have hT : TI τ t n h_16 := by rw [e_17]; exact TI_put hT (hA 1 (by decide)) (by decide) (ok_B rfl rfl (sb_fitU c_12 (fitNar _)))
        have hkf : kf τ [(30, 1), (30, 0)] [m9] h h_16 := by rw [e_17]; exact kf_put hkf (hA 1 (by decide)) List.mem_cons_self
        obtain ⟨g_18, e_19⟩ : ∃ z, z = upd g_11 v_9.toNatClampNeg (vp_nar .byte (1 : Int32)) := ⟨_, rfl⟩
        rw [← e_19] at F_A1
        have c_20 : sb_Fit g_18 := by rw [e_19]; exact (sb_fitU c_12 (fitNar _))
        refine lv_iconst (v := 0) hx hb d_Mo_burn_87 (by decide) ?_
        refine lv_istore_n (lv' := [(3, .int 0), (0, .ref m9), (1, .int f9), (2, .int s9)]) hx hb d_Mo_burn_88 rfl hl (by decide) rfl (fun ls hl => ?_)
        refine hm_loop (fun k89 ls H locs hh89 => ∃ (i9 : Int32), k89 = mU i9 ∧ lv_has ls 4 [(0, .ref m9), (1, .int f9), (2, .int s9), (3, .int i9)] ∧ hm D vwCl G hh89 H ∧ s.heap.size ≤ H.size ∧ hLc G.P locs ∧ hh89 m9 = some (.inr (9, mf A n th sd lo lq9 v_1 ma nu di pl se wg op)) ∧ hh89 (A 1) = some (.inl ((t 0), 400, .inl g_18)) ∧ (TI τ t n hh89) ∧ (kf τ [(30, 1), (30, 0)] [m9] h hh89) ∧ (0 ≤ i9.toInt)) ?_ (hh := h_16) ⟨0, rfl, (lv_sub hl [1, 2, 3, 0] rfl), hH, hz, hLo, F_m9, F_A1, hT, hkf, (by decide)⟩
        rintro k89 ls H locs hh89 ⟨i9, hk89, hl, hH, hz, hLo, F_m9, F_A1, hT, hkf, I_i9⟩ ih89
        refine lv_iload_n hx hb d_Mo_burn_89 rfl (lv_at hl 3 rfl) ?_
        refine lv_sipush (v := 2048) hx hb d_Mo_burn_90 (by decide) ?_
        refine lv_icmp_ge (tgt := 122) hx hb d_Mo_burn_93 (by decide) (fun hc_21 => ?_) (fun hc_21 => ?_)
        · skip
          have ic_22 : 2048 ≤ i9.toInt := iLe hc_21
          refine lv_iconst (v := 0) hx hb d_Mo_burn_122 (by decide) ?_
          exact W.iret (v := 0) hx hb hr (fun t9 ht hW => ⟨0, hh89, rfl, ⟨hT, hkf, ⟨lo, lq9, v_1, F_m9, ⟨hsd, hlo, (by omega), ⟨by omega, by omega⟩, ⟨by omega, by omega⟩⟩, ⟨Or.inl rfl, (by rw [aI_of F_A1, e_19, show f9.toInt.toNat + s9.toInt.toNat = v_9.toNatClampNeg by rw [clN]; omega, upd_s]; decide)⟩⟩⟩, by rw [ht]; exact hH, by rw [ht]; exact hz⟩) hLo d_Mo_burn_123
        · skip
          have ic_23 : i9.toInt < 2048 := iNe hc_21
          refine lv_aload_n hx hb d_Mo_burn_96 rfl (lv_at hl 0 rfl) ?_
          refine hm_get (ci := 9) (v := .ref (A 0)) (C := R_Mo) (T := F_Mo) (N := 41) hx hb hts ig_Mo hown hK hH F_m9 rfl 3 (by decide) (hts _ mw_585) (fun _ h9 => h9) rfl d_Mo_burn_97 ?_
          refine lv_sipush (v := 2048) hx hb d_Mo_burn_100 (by decide) ?_
          refine lv_iload_n hx hb d_Mo_burn_103 rfl (lv_at hl 1 rfl) ?_
          refine lv_iload_n hx hb d_Mo_burn_104 rfl (lv_at hl 2 rfl) ?_
          refine lv_iadd hx hb d_Mo_burn_105 ?_
          refine lv_topi (fun v_24 e_25 => ?_)
          obtain rfl : v_9 = v_24 := (e_25.trans (e_10.symm)).symm
          refine lv_imul hx hb d_Mo_burn_106 ?_
          refine lv_topi (fun v_26 e_27 => ?_)
          refine lv_iload_n hx hb d_Mo_burn_107 rfl (lv_at hl 3 rfl) ?_
          refine lv_iadd hx hb d_Mo_burn_108 ?_
          refine lv_topi (fun v_28 e_29 => ?_)
          refine lv_aload_n hx hb d_Mo_burn_109 rfl (lv_at hl 0 rfl) ?_
          refine hm_get (ci := 9) (v := .ref (A 3)) (C := R_Mo) (T := F_Mo) (N := 41) hx hb hts ig_Mo hown hK hH F_m9 rfl 9 (by decide) (hts _ mw_591) (fun _ h9 => h9) rfl d_Mo_burn_110 ?_
          refine lv_iload_n hx hb d_Mo_burn_113 rfl (lv_at hl 3 rfl) ?_
          obtain ⟨g_30, F_A3, c_31⟩ := TI_arB (L := 2048) hT (hA 3 (by decide)) rfl rfl
          refine hm_bald hx hb hK hH 0 F_A3 rfl (iIn (by omega) (by omega)) d_Mo_burn_114 ?_
          refine lv_topi (fun v_32 e_33 => ?_)
          obtain ⟨g_34, F_A0, c_35⟩ := TI_arB (L := 819200) hT (hA 0 (by decide)) rfl rfl
          have is_36 : v_9.toInt = f9.toInt + s9.toInt := by rw [e_10]; exact iAdd (by omega) (by omega)
          have is_37 : v_26.toInt = 2048 * v_9.toInt := by rw [e_27]; exact iMulL 2048 rfl (by omega) (by omega)
          have is_38 : v_28.toInt = v_26.toInt + i9.toInt := by rw [e_29]; exact iAdd (by omega) (by omega)
          refine hm_bast hx hb hK hH hLo 0 F_A0 rfl (iIn (by omega) (by omega)) d_Mo_burn_115 (fun H_39 locs hH z_40 hLo => ?_)
          have hz : s.heap.size ≤ H_39.size := by rw [z_40]; exact hz
          obtain ⟨h_41, e_42⟩ : ∃ z, z = hu hh89 (A 0) (.inl ((t 0), 819200, .inl (upd g_34 v_28.toNatClampNeg (vp_nar .byte v_32)))) := ⟨_, rfl⟩
          have hH : hm D vwCl G h_41 H_39 := by rw [e_42]; exact hH
          have F_m9 : h_41 m9 = some (.inr (9, mf A n th sd lo lq9 v_1 ma nu di pl se wg op)) := by rw [e_42, hu_n (tne T_m9 (hA 0 (by decide)) (by decide))]; exact F_m9
          have F_A1 : h_41 (A 1) = some (.inl ((t 0), 400, .inl g_18)) := by rw [e_42, hu_n (tneF (hA 1 (by decide)) (hA 0 (by decide)) (by decide))]; exact F_A1
          have F_A3 : h_41 (A 3) = some (.inl ((t 0), 2048, .inl g_30)) := by rw [e_42, hu_n (tneF (hA 3 (by decide)) (hA 0 (by decide)) (by decide))]; exact F_A3
          have F_A0 : h_41 (A 0) = some (.inl ((t 0), 819200, .inl (upd g_34 v_28.toNatClampNeg (vp_nar .byte v_32)))) := by rw [e_42]; exact hu_s _ _ _
          have hT : TI τ t n h_41 := by rw [e_42]; exact TI_put hT (hA 0 (by decide)) (by decide) (ok_B rfl rfl (sb_fitU c_35 (fitNar _)))
          have hkf : kf τ [(30, 1), (30, 0)] [m9] h h_41 := by rw [e_42]; exact kf_put hkf (hA 0 (by decide)) (List.mem_cons_of_mem _ List.mem_cons_self)
          obtain ⟨g_43, e_44⟩ : ∃ z, z = upd g_34 v_28.toNatClampNeg (vp_nar .byte v_32) := ⟨_, rfl⟩
          rw [← e_44] at F_A0
          have c_45 : sb_Fit g_43 := by rw [e_44]; exact (sb_fitU c_35 (fitNar _))
          obtain ⟨j_46, e_47⟩ : ∃ z : Int32, z = i9 + 1 := ⟨_, rfl⟩
          refine lv_iinc (v := j_46) (lv' := [(3, .int j_46), (0, .ref m9), (1, .int f9), (2, .int s9)]) hx hb d_Mo_burn_116 hl (k := 3) rfl e_47.symm (by decide) rfl (fun ls hl => ?_)
          refine lv_goto (tgt := 89) hx hb d_Mo_burn_119 (by decide) ?_
          have is_48 : j_46.toInt = i9.toInt + 1 := by rw [e_47]; exact iAddK 1 rfl (by omega) (by omega)
          exact ih89 (mU j_46) ls _ locs _ (by rw [hk89]; exact mU_lt (by omega)) ⟨j_46, rfl, (lv_sub hl [1, 2, 3, 0] rfl), hH, hz, hLo, F_m9, F_A1, hT, hkf, (by omega)⟩
      · skip
        have ic_49 : f9.toInt = sd.toInt := congrArg Int32.toInt hc_8
        refine lv_aload_n hx hb d_Mo_burn_58 rfl (lv_at hl 0 rfl) ?_
        refine hm_get (ci := 9) (v := .ref (A 2)) (C := R_Mo) (T := F_Mo) (N := 41) hx hb hts ig_Mo hown hK hH F_m9 rfl 5 (by decide) (hts _ mw_592) (fun _ h9 => h9) rfl d_Mo_burn_59 ?_
        refine lv_iload_n hx hb d_Mo_burn_62 rfl (lv_at hl 2 rfl) ?_
        obtain ⟨g_50, F_A2, c_51⟩ := TI_arZ (L := 200) hT (hA 2 (by decide)) rfl rfl
        refine hm_zald hx hb hK hH 1 F_A2 rfl (iIn (by omega) (by omega)) d_Mo_burn_63 ?_
        refine lv_topi (fun v_52 e_53 => ?_)
        have c_54 : zb v_52 := by rw [e_53]; exact c_51 _
        refine lv_if_eq (tgt := 78) hx hb d_Mo_burn_64 (by decide) (fun hc_55 => ?_) (fun hc_55 => ?_)
        · skip
          have ic_56 : v_52.toInt = 0 := congrArg Int32.toInt hc_55
          refine lv_aload_n hx hb d_Mo_burn_78 rfl (lv_at hl 0 rfl) ?_
          refine hm_get (ci := 9) (v := .ref (A 1)) (C := R_Mo) (T := F_Mo) (N := 41) hx hb hts ig_Mo hown hK hH F_m9 rfl 4 (by decide) (hts _ mw_588) (fun _ h9 => h9) rfl d_Mo_burn_79 ?_
          refine lv_iload_n hx hb d_Mo_burn_82 rfl (lv_at hl 1 rfl) ?_
          refine lv_iload_n hx hb d_Mo_burn_83 rfl (lv_at hl 2 rfl) ?_
          refine lv_iadd hx hb d_Mo_burn_84 ?_
          refine lv_topi (fun v_57 e_58 => ?_)
          refine lv_iconst (v := 1) hx hb d_Mo_burn_85 (by decide) ?_
          obtain ⟨g_59, F_A1, c_60⟩ := TI_arB (L := 400) hT (hA 1 (by decide)) rfl rfl
          have is_61 : v_57.toInt = f9.toInt + s9.toInt := by rw [e_58]; exact iAdd (by omega) (by omega)
          refine hm_bast hx hb hK hH hLo 0 F_A1 rfl (iIn (by omega) (by omega)) d_Mo_burn_86 (fun H_62 locs hH z_63 hLo => ?_)
          have hz : s.heap.size ≤ H_62.size := by rw [z_63]; exact hz
          obtain ⟨h_64, e_65⟩ : ∃ z, z = hu HH (A 1) (.inl ((t 0), 400, .inl (upd g_59 v_57.toNatClampNeg (vp_nar .byte (1 : Int32))))) := ⟨_, rfl⟩
          have hH : hm D vwCl G h_64 H_62 := by rw [e_65]; exact hH
          have F_m9 : h_64 m9 = some (.inr (9, mf A n th sd lo lq9 v_1 ma nu di pl se wg op)) := by rw [e_65, hu_n (tne T_m9 (hA 1 (by decide)) (by decide))]; exact F_m9
          have F_A2 : h_64 (A 2) = some (.inl ((t 1), 200, .inl g_50)) := by rw [e_65, hu_n (tneF (hA 2 (by decide)) (hA 1 (by decide)) (by decide))]; exact F_A2
          have F_A1 : h_64 (A 1) = some (.inl ((t 0), 400, .inl (upd g_59 v_57.toNatClampNeg (vp_nar .byte (1 : Int32))))) := by rw [e_65]; exact hu_s _ _ _
          have hT : TI τ t n h_64 := by rw [e_65]; exact TI_put hT (hA 1 (by decide)) (by decide) (ok_B rfl rfl (sb_fitU c_60 (fitNar _)))
          have hkf : kf τ [(30, 1), (30, 0)] [m9] h h_64 := by rw [e_65]; exact kf_put hkf (hA 1 (by decide)) List.mem_cons_self
          obtain ⟨g_66, e_67⟩ : ∃ z, z = upd g_59 v_57.toNatClampNeg (vp_nar .byte (1 : Int32)) := ⟨_, rfl⟩
          rw [← e_67] at F_A1
          have c_68 : sb_Fit g_66 := by rw [e_67]; exact (sb_fitU c_60 (fitNar _))
          refine lv_iconst (v := 0) hx hb d_Mo_burn_87 (by decide) ?_
          refine lv_istore_n (lv' := [(3, .int 0), (0, .ref m9), (1, .int f9), (2, .int s9)]) hx hb d_Mo_burn_88 rfl hl (by decide) rfl (fun ls hl => ?_)
          refine hm_loop (fun k89 ls H locs hh89 => ∃ (i9 : Int32), k89 = mU i9 ∧ lv_has ls 4 [(0, .ref m9), (1, .int f9), (2, .int s9), (3, .int i9)] ∧ hm D vwCl G hh89 H ∧ s.heap.size ≤ H.size ∧ hLc G.P locs ∧ hh89 m9 = some (.inr (9, mf A n th sd lo lq9 v_1 ma nu di pl se wg op)) ∧ hh89 (A 1) = some (.inl ((t 0), 400, .inl g_66)) ∧ (TI τ t n hh89) ∧ (kf τ [(30, 1), (30, 0)] [m9] h hh89) ∧ (0 ≤ i9.toInt)) ?_ (hh := h_64) ⟨0, rfl, (lv_sub hl [1, 2, 3, 0] rfl), hH, hz, hLo, F_m9, F_A1, hT, hkf, (by decide)⟩
          rintro k89 ls H locs hh89 ⟨i9, hk89, hl, hH, hz, hLo, F_m9, F_A1, hT, hkf, I_i9⟩ ih89
          refine lv_iload_n hx hb d_Mo_burn_89 rfl (lv_at hl 3 rfl) ?_
          refine lv_sipush (v := 2048) hx hb d_Mo_burn_90 (by decide) ?_
          refine lv_icmp_ge (tgt := 122) hx hb d_Mo_burn_93 (by decide) (fun hc_69 => ?_) (fun hc_69 => ?_)
          · skip
            have ic_70 : 2048 ≤ i9.toInt := iLe hc_69
            refine lv_iconst (v := 0) hx hb d_Mo_burn_122 (by decide) ?_
            exact W.iret (v := 0) hx hb hr (fun t9 ht hW => ⟨0, hh89, rfl, ⟨hT, hkf, ⟨lo, lq9, v_1, F_m9, ⟨hsd, hlo, (by omega), ⟨by omega, by omega⟩, ⟨by omega, by omega⟩⟩, ⟨Or.inl rfl, (by rw [aI_of F_A1, e_67, show f9.toInt.toNat + s9.toInt.toNat = v_57.toNatClampNeg by rw [clN]; omega, upd_s]; decide)⟩⟩⟩, by rw [ht]; exact hH, by rw [ht]; exact hz⟩) hLo d_Mo_burn_123
          · skip
            have ic_71 : i9.toInt < 2048 := iNe hc_69
            refine lv_aload_n hx hb d_Mo_burn_96 rfl (lv_at hl 0 rfl) ?_
            refine hm_get (ci := 9) (v := .ref (A 0)) (C := R_Mo) (T := F_Mo) (N := 41) hx hb hts ig_Mo hown hK hH F_m9 rfl 3 (by decide) (hts _ mw_585) (fun _ h9 => h9) rfl d_Mo_burn_97 ?_
            refine lv_sipush (v := 2048) hx hb d_Mo_burn_100 (by decide) ?_
            refine lv_iload_n hx hb d_Mo_burn_103 rfl (lv_at hl 1 rfl) ?_
            refine lv_iload_n hx hb d_Mo_burn_104 rfl (lv_at hl 2 rfl) ?_
            refine lv_iadd hx hb d_Mo_burn_105 ?_
            refine lv_topi (fun v_72 e_73 => ?_)
            obtain rfl : v_57 = v_72 := (e_73.trans (e_58.symm)).symm
            refine lv_imul hx hb d_Mo_burn_106 ?_
            refine lv_topi (fun v_74 e_75 => ?_)
            refine lv_iload_n hx hb d_Mo_burn_107 rfl (lv_at hl 3 rfl) ?_
            refine lv_iadd hx hb d_Mo_burn_108 ?_
            refine lv_topi (fun v_76 e_77 => ?_)
            refine lv_aload_n hx hb d_Mo_burn_109 rfl (lv_at hl 0 rfl) ?_
            refine hm_get (ci := 9) (v := .ref (A 3)) (C := R_Mo) (T := F_Mo) (N := 41) hx hb hts ig_Mo hown hK hH F_m9 rfl 9 (by decide) (hts _ mw_591) (fun _ h9 => h9) rfl d_Mo_burn_110 ?_
            refine lv_iload_n hx hb d_Mo_burn_113 rfl (lv_at hl 3 rfl) ?_
            obtain ⟨g_78, F_A3, c_79⟩ := TI_arB (L := 2048) hT (hA 3 (by decide)) rfl rfl
            refine hm_bald hx hb hK hH 0 F_A3 rfl (iIn (by omega) (by omega)) d_Mo_burn_114 ?_
            refine lv_topi (fun v_80 e_81 => ?_)
            obtain ⟨g_82, F_A0, c_83⟩ := TI_arB (L := 819200) hT (hA 0 (by decide)) rfl rfl
            have is_84 : v_57.toInt = f9.toInt + s9.toInt := by rw [e_58]; exact iAdd (by omega) (by omega)
            have is_85 : v_74.toInt = 2048 * v_57.toInt := by rw [e_75]; exact iMulL 2048 rfl (by omega) (by omega)
            have is_86 : v_76.toInt = v_74.toInt + i9.toInt := by rw [e_77]; exact iAdd (by omega) (by omega)
            refine hm_bast hx hb hK hH hLo 0 F_A0 rfl (iIn (by omega) (by omega)) d_Mo_burn_115 (fun H_87 locs hH z_88 hLo => ?_)
            have hz : s.heap.size ≤ H_87.size := by rw [z_88]; exact hz
            obtain ⟨h_89, e_90⟩ : ∃ z, z = hu hh89 (A 0) (.inl ((t 0), 819200, .inl (upd g_82 v_76.toNatClampNeg (vp_nar .byte v_80)))) := ⟨_, rfl⟩
            have hH : hm D vwCl G h_89 H_87 := by rw [e_90]; exact hH
            have F_m9 : h_89 m9 = some (.inr (9, mf A n th sd lo lq9 v_1 ma nu di pl se wg op)) := by rw [e_90, hu_n (tne T_m9 (hA 0 (by decide)) (by decide))]; exact F_m9
            have F_A1 : h_89 (A 1) = some (.inl ((t 0), 400, .inl g_66)) := by rw [e_90, hu_n (tneF (hA 1 (by decide)) (hA 0 (by decide)) (by decide))]; exact F_A1
            have F_A3 : h_89 (A 3) = some (.inl ((t 0), 2048, .inl g_78)) := by rw [e_90, hu_n (tneF (hA 3 (by decide)) (hA 0 (by decide)) (by decide))]; exact F_A3
            have F_A0 : h_89 (A 0) = some (.inl ((t 0), 819200, .inl (upd g_82 v_76.toNatClampNeg (vp_nar .byte v_80)))) := by rw [e_90]; exact hu_s _ _ _
            have hT : TI τ t n h_89 := by rw [e_90]; exact TI_put hT (hA 0 (by decide)) (by decide) (ok_B rfl rfl (sb_fitU c_83 (fitNar _)))
            have hkf : kf τ [(30, 1), (30, 0)] [m9] h h_89 := by rw [e_90]; exact kf_put hkf (hA 0 (by decide)) (List.mem_cons_of_mem _ List.mem_cons_self)
            obtain ⟨g_91, e_92⟩ : ∃ z, z = upd g_82 v_76.toNatClampNeg (vp_nar .byte v_80) := ⟨_, rfl⟩
            rw [← e_92] at F_A0
            have c_93 : sb_Fit g_91 := by rw [e_92]; exact (sb_fitU c_83 (fitNar _))
            obtain ⟨j_94, e_95⟩ : ∃ z : Int32, z = i9 + 1 := ⟨_, rfl⟩
            refine lv_iinc (v := j_94) (lv' := [(3, .int j_94), (0, .ref m9), (1, .int f9), (2, .int s9)]) hx hb d_Mo_burn_116 hl (k := 3) rfl e_95.symm (by decide) rfl (fun ls hl => ?_)
            refine lv_goto (tgt := 89) hx hb d_Mo_burn_119 (by decide) ?_
            have is_96 : j_94.toInt = i9.toInt + 1 := by rw [e_95]; exact iAddK 1 rfl (by omega) (by omega)
            exact ih89 (mU j_94) ls _ locs _ (by rw [hk89]; exact mU_lt (by omega)) ⟨j_94, rfl, (lv_sub hl [1, 2, 3, 0] rfl), hH, hz, hLo, F_m9, F_A1, hT, hkf, (by omega)⟩
        · skip
          refine lv_aload_n hx hb d_Mo_burn_67 rfl (lv_at hl 0 rfl) ?_
          refine hm_get (ci := 9) (v := .ref (A 1)) (C := R_Mo) (T := F_Mo) (N := 41) hx hb hts ig_Mo hown hK hH F_m9 rfl 4 (by decide) (hts _ mw_588) (fun _ h9 => h9) rfl d_Mo_burn_68 ?_
          refine lv_iload_n hx hb d_Mo_burn_71 rfl (lv_at hl 1 rfl) ?_
          refine lv_iload_n hx hb d_Mo_burn_72 rfl (lv_at hl 2 rfl) ?_
          refine lv_iadd hx hb d_Mo_burn_73 ?_
          refine lv_topi (fun v_97 e_98 => ?_)
          refine lv_iconst (v := 2) hx hb d_Mo_burn_74 (by decide) ?_
          obtain ⟨g_99, F_A1, c_100⟩ := TI_arB (L := 400) hT (hA 1 (by decide)) rfl rfl
          have is_101 : v_97.toInt = f9.toInt + s9.toInt := by rw [e_98]; exact iAdd (by omega) (by omega)
          refine hm_bast hx hb hK hH hLo 0 F_A1 rfl (iIn (by omega) (by omega)) d_Mo_burn_75 (fun H_102 locs hH z_103 hLo => ?_)
          have hz : s.heap.size ≤ H_102.size := by rw [z_103]; exact hz
          obtain ⟨h_104, e_105⟩ : ∃ z, z = hu HH (A 1) (.inl ((t 0), 400, .inl (upd g_99 v_97.toNatClampNeg (vp_nar .byte (2 : Int32))))) := ⟨_, rfl⟩
          have hH : hm D vwCl G h_104 H_102 := by rw [e_105]; exact hH
          have F_m9 : h_104 m9 = some (.inr (9, mf A n th sd lo lq9 v_1 ma nu di pl se wg op)) := by rw [e_105, hu_n (tne T_m9 (hA 1 (by decide)) (by decide))]; exact F_m9
          have F_A2 : h_104 (A 2) = some (.inl ((t 1), 200, .inl g_50)) := by rw [e_105, hu_n (tneF (hA 2 (by decide)) (hA 1 (by decide)) (by decide))]; exact F_A2
          have F_A1 : h_104 (A 1) = some (.inl ((t 0), 400, .inl (upd g_99 v_97.toNatClampNeg (vp_nar .byte (2 : Int32))))) := by rw [e_105]; exact hu_s _ _ _
          have hT : TI τ t n h_104 := by rw [e_105]; exact TI_put hT (hA 1 (by decide)) (by decide) (ok_B rfl rfl (sb_fitU c_100 (fitNar _)))
          have hkf : kf τ [(30, 1), (30, 0)] [m9] h h_104 := by rw [e_105]; exact kf_put hkf (hA 1 (by decide)) List.mem_cons_self
          obtain ⟨g_106, e_107⟩ : ∃ z, z = upd g_99 v_97.toNatClampNeg (vp_nar .byte (2 : Int32)) := ⟨_, rfl⟩
          rw [← e_107] at F_A1
          have c_108 : sb_Fit g_106 := by rw [e_107]; exact (sb_fitU c_100 (fitNar _))
          refine lv_iconst (v := 1) hx hb d_Mo_burn_76 (by decide) ?_
          exact W.iret (v := 1) hx hb hr (fun t9 ht hW => ⟨1, h_104, rfl, ⟨hT, hkf, ⟨lo, lq9, v_1, F_m9, ⟨hsd, hlo, (by omega), ⟨by omega, by omega⟩, ⟨by omega, by omega⟩⟩, ⟨Or.inr (Or.inl rfl), (by rw [aI_of F_A1, e_107, show f9.toInt.toNat + s9.toInt.toNat = v_97.toNatClampNeg by rw [clN]; omega, upd_s]; decide)⟩⟩⟩, by rw [ht]; exact hH, by rw [ht]; exact hz⟩) hLo d_Mo_burn_77
    · skip
      refine lv_aload_n hx hb d_Mo_burn_33 rfl (lv_at hl 0 rfl) ?_
      refine hm_get (ci := 9) (v := .int le) (C := R_Mo) (T := F_Mo) (N := 41) hx hb hts ig_Mo hown hK hH F_m9 rfl 7 (by decide) (hts _ mw_590) (fun _ h9 => h9) rfl d_Mo_burn_34 ?_
      refine lv_if_le (tgt := 50) hx hb d_Mo_burn_37 (by decide) (fun hc_109 => ?_) (fun hc_109 => ?_)
      · skip
        have ic_110 : le.toInt ≤ 0 := iLe hc_109
        exact J50 () _ _ _ _ ⟨le, (lv_sub hl [0, 1, 2] rfl), hH, hz, hLo, hT, hkf, F_m9⟩
      · skip
        have ic_111 : 0 < le.toInt := iNe hc_109
        have iu_112 : le.toInt < 2147483648 := iUp _
        refine lv_aload_n hx hb d_Mo_burn_40 rfl (lv_at hl 0 rfl) ?_
        refine lv_dup hx hb d_Mo_burn_41 rfl ?_
        refine hm_get (ci := 9) (v := .int le) (C := R_Mo) (T := F_Mo) (N := 41) hx hb hts ig_Mo hown hK hH F_m9 rfl 7 (by decide) (hts _ mw_590) (fun _ h9 => h9) rfl d_Mo_burn_42 ?_
        refine lv_iconst (v := 1) hx hb d_Mo_burn_45 (by decide) ?_
        refine lv_isub hx hb d_Mo_burn_46 ?_
        refine lv_topi (fun v_113 e_114 => ?_)
        refine hm_put (ci := 9) (v := .int v_113) (ty := .int) (C := R_Mo) (T := F_Mo) (N := 41) hx hb hts ig_Mo t_Mo tk_Mo nm_Mo hown hK hH hLo F_m9 rfl 7 (by decide) (hts _ mw_590) (fun _ h9 => h9) rfl (by decide +kernel) rfl rfl (Nat.le_of_ble_eq_true rfl) d_Mo_burn_47 (fun H_115 locs hH z_116 hLo => ?_)
        have hz : s.heap.size ≤ H_115.size := by rw [z_116]; exact hz
        obtain ⟨h_117, e_118⟩ : ∃ z, z = hu h_5 m9 (.inr (9, mf A n th sd lo v_113 v_1 ma nu di pl se wg op)) := ⟨_, rfl⟩
        have hH : hm D vwCl G h_117 H_115 := by rw [e_118]; exact hH
        have F_m9 : h_117 m9 = some (.inr (9, mf A n th sd lo v_113 v_1 ma nu di pl se wg op)) := by rw [e_118]; exact hu_s _ _ _
        have hT : TI τ t n h_117 := by rw [e_118]; exact TI_put hT T_m9 (by decide) ⟨_, rfl⟩
        have hkf : kf τ [(30, 1), (30, 0)] [m9] h h_117 := by rw [e_118]; exact kf_putM hkf (by simp)
        exact J50 () _ _ _ _ ⟨v_113, (lv_sub hl [0, 1, 2] rfl), hH, hz, hLo, hT, hkf, F_m9⟩
  · skip
    have ic_119 : le.toInt = 0 := congrArg Int32.toInt hc_7
    refine lv_aload_n hx hb d_Mo_burn_17 rfl (lv_at hl 0 rfl) ?_
    refine hm_get (ci := 9) (v := .ref (A 1)) (C := R_Mo) (T := F_Mo) (N := 41) hx hb hts ig_Mo hown hK hH F_m9 rfl 4 (by decide) (hts _ mw_588) (fun _ h9 => h9) rfl d_Mo_burn_18 ?_
    refine lv_iload_n hx hb d_Mo_burn_21 rfl (lv_at hl 1 rfl) ?_
    refine lv_iload_n hx hb d_Mo_burn_22 rfl (lv_at hl 2 rfl) ?_
    refine lv_iadd hx hb d_Mo_burn_23 ?_
    refine lv_topi (fun v_120 e_121 => ?_)
    refine lv_iconst (v := 2) hx hb d_Mo_burn_24 (by decide) ?_
    obtain ⟨g_122, F_A1, c_123⟩ := TI_arB (L := 400) hT (hA 1 (by decide)) rfl rfl
    have is_124 : v_120.toInt = f9.toInt + s9.toInt := by rw [e_121]; exact iAdd (by omega) (by omega)
    refine hm_bast hx hb hK hH hLo 0 F_A1 rfl (iIn (by omega) (by omega)) d_Mo_burn_25 (fun H_125 locs hH z_126 hLo => ?_)
    have hz : s.heap.size ≤ H_125.size := by rw [z_126]; exact hz
    obtain ⟨h_127, e_128⟩ : ∃ z, z = hu h_5 (A 1) (.inl ((t 0), 400, .inl (upd g_122 v_120.toNatClampNeg (vp_nar .byte (2 : Int32))))) := ⟨_, rfl⟩
    have hH : hm D vwCl G h_127 H_125 := by rw [e_128]; exact hH
    have F_m9 : h_127 m9 = some (.inr (9, mf A n th sd lo le v_1 ma nu di pl se wg op)) := by rw [e_128, hu_n (tne T_m9 (hA 1 (by decide)) (by decide))]; exact F_m9
    have F_A1 : h_127 (A 1) = some (.inl ((t 0), 400, .inl (upd g_122 v_120.toNatClampNeg (vp_nar .byte (2 : Int32))))) := by rw [e_128]; exact hu_s _ _ _
    have hT : TI τ t n h_127 := by rw [e_128]; exact TI_put hT (hA 1 (by decide)) (by decide) (ok_B rfl rfl (sb_fitU c_123 (fitNar _)))
    have hkf : kf τ [(30, 1), (30, 0)] [m9] h h_127 := by rw [e_128]; exact kf_put hkf (hA 1 (by decide)) List.mem_cons_self
    obtain ⟨g_129, e_130⟩ : ∃ z, z = upd g_122 v_120.toNatClampNeg (vp_nar .byte (2 : Int32)) := ⟨_, rfl⟩
    rw [← e_130] at F_A1
    have c_131 : sb_Fit g_129 := by rw [e_130]; exact (sb_fitU c_123 (fitNar _))
    refine lv_aload_n hx hb d_Mo_burn_26 rfl (lv_at hl 0 rfl) ?_
    refine lv_iconst (v := 1) hx hb d_Mo_burn_27 (by decide) ?_
    refine hm_put (ci := 9) (v := .int 1) (ty := .boolean) (C := R_Mo) (T := F_Mo) (N := 41) hx hb hts ig_Mo t_Mo tk_Mo nm_Mo hown hK hH hLo F_m9 rfl 6 (by decide) (hts _ mw_593) (fun _ h9 => h9) rfl (by decide +kernel) (by decide) (by decide) (Nat.le_of_ble_eq_true rfl) d_Mo_burn_28 (fun H_132 locs hH z_133 hLo => ?_)
    have hz : s.heap.size ≤ H_132.size := by rw [z_133]; exact hz
    obtain ⟨h_134, e_135⟩ : ∃ z, z = hu h_127 m9 (.inr (9, mf A n th sd 1 le v_1 ma nu di pl se wg op)) := ⟨_, rfl⟩
    have hH : hm D vwCl G h_134 H_132 := by rw [e_135]; exact hH
    have F_A1 : h_134 (A 1) = some (.inl ((t 0), 400, .inl g_129)) := by rw [e_135, hu_n (tne (hA 1 (by decide)) T_m9 (by decide))]; exact F_A1
    have F_m9 : h_134 m9 = some (.inr (9, mf A n th sd 1 le v_1 ma nu di pl se wg op)) := by rw [e_135]; exact hu_s _ _ _
    have hT : TI τ t n h_134 := by rw [e_135]; exact TI_put hT T_m9 (by decide) ⟨_, rfl⟩
    have hkf : kf τ [(30, 1), (30, 0)] [m9] h h_134 := by rw [e_135]; exact kf_putM hkf (by simp)
    refine lv_iconst (v := 2) hx hb d_Mo_burn_31 (by decide) ?_
    exact W.iret (v := 2) hx hb hr (fun t9 ht hW => ⟨2, h_134, rfl, ⟨hT, hkf, ⟨(1 : Int32), le, v_1, F_m9, ⟨hsd, zb1, (by omega), ⟨by omega, by omega⟩, ⟨by omega, by omega⟩⟩, ⟨Or.inr (Or.inr rfl), (by rw [aI_of F_A1, e_130, show f9.toInt.toNat + s9.toInt.toNat = v_120.toNatClampNeg by rw [clN]; omega, upd_s]; decide)⟩⟩⟩, by rw [ht]; exact hH, by rw [ht]; exact hz⟩) hLo d_Mo_burn_32

set_option maxHeartbeats 4000000 in
set_option maxRecDepth 100000 in
theorem m_defect (l : Launch) (D : va_G) (t : Nat → ClassId) (G : hG) (ak av : Nat → Nat) (h : hM) (τ : tM) (n : Nat) (m9 : Nat) (s9 : Int32) (A : Nat → Nat) (th sd lo le wr ma nu di pl se wg op : Int32) (hn : n ≤ 200) (hT : TI τ t n h) (T_m9 : τ m9 = (20, 0)) (F_m9 : h m9 = some (.inr (9, mf A n th sd lo le wr ma nu di pl se wg op))) (hA : ∀ i, i < 28 → τ (A i) = (30, i)) (hmk : mOk sd lo ma se op) : Met l y_Mo_defect (.code y_Mo_defect b_Mo_defect 2 (some .boolean) :: lw_g) { frames := 1, cells := 0, slots := 0, locals := 22 } (hP (kE D t G ak av) D vwCl G h [.ref m9, .int s9]) (hQi D vwCl G (fun r h' => zb r ∧ TI τ t n h' ∧ kf τ [(30, 2)] [m9] h h' ∧ (∃ (th' : Int32), h' m9 = some (.inr (9, mf A n th' sd lo le wr ma nu di pl se wg op)) ∧ mOk sd lo ma se op ∧ ((r = 0 ∧ (s9.toInt < 0 ∨ (n : Int) ≤ s9.toInt)) ∨ (r = 1 ∧ 0 ≤ s9.toInt ∧ s9.toInt < n))))) 0 0 G.P := by
  refine Met.ofW (cc := b_Mo_defect) (maxL := 2) (ret := (some .boolean)) (by decide) rfl ?_
  intro p e s m args below meth c s₁ Bd hml hv
  obtain ⟨ha, hE, hH⟩ := hv
  have hx := Bd.exec
  have hb := Bd.bytes
  have hr := Bd.returns
  have hts : ∀ w ∈ lw_g, w.before args s = true := fun w hw => atoms_spec (ws := (.code y_Mo_defect b_Mo_defect 2 (some .boolean) :: lw_g)) Bd.pre w (List.mem_cons_of_mem _ hw)
  have hown : s.vm.findClass R_Mo = some m.cls := findClass_of_methodNamed Bd.named
  have hlocks := Bd.notSynchronized
  have hK := hE.1
  have hH0 := hH
  have hLo : hLc G.P [] := hLc_nil
  have hz : s.heap.size ≤ s.heap.size := Nat.le_refl _
  have hl := lv_entry [.ref m9, .int s9] (n := 2) (Nat.le_of_ble_eq_true rfl)
  rw [show entryFrame m args 2 = F0 m 0 ((lg_sl [.ref m9, .int s9] ++ List.replicate (2 - (lg_sl [.ref m9, .int s9]).length) Slot.unset).toArray) [] from (by rw [ha]; exact lg_entry_eq m [.ref m9, .int s9] 2)]
  generalize (lg_sl [.ref m9, .int s9] ++ List.replicate (2 - (lg_sl [.ref m9, .int s9]).length) Slot.unset).toArray = ls at hl ⊢
  have hl : lv_has ls 2 [(0, .ref m9), (1, .int s9)] := hl
  have hkf : kf τ [(30, 2)] [m9] h h := kf_rf
  obtain ⟨hsd, hlo, hma, hse, hop⟩ := id hmk
  have inI : (nI n).toInt = n := nI_toInt (by omega)
  refine lv_aload_n hx hb d_Mo_defect_0 rfl (lv_at hl 0 rfl) ?_
  refine lv_iconst (v := 0) hx hb d_Mo_defect_1 (by decide) ?_
  refine hm_put (ci := 9) (v := .int 0) (ty := .int) (C := R_Mo) (T := F_Mo) (N := 41) hx hb hts ig_Mo t_Mo tk_Mo nm_Mo hown hK hH hLo F_m9 rfl 0 (by decide) (hts _ mw_594) (fun _ h9 => h9) rfl (by decide +kernel) rfl rfl (Nat.le_of_ble_eq_true rfl) d_Mo_defect_2 (fun H_1 locs hH z_2 hLo => ?_)
  have hz : s.heap.size ≤ H_1.size := by rw [z_2]; exact hz
  obtain ⟨h_3, e_4⟩ : ∃ z, z = hu h m9 (.inr (9, mf A n 0 sd lo le wr ma nu di pl se wg op)) := ⟨_, rfl⟩
  have hH : hm D vwCl G h_3 H_1 := by rw [e_4]; exact hH
  have F_m9 : h_3 m9 = some (.inr (9, mf A n 0 sd lo le wr ma nu di pl se wg op)) := by rw [e_4]; exact hu_s _ _ _
  have hT : TI τ t n h_3 := by rw [e_4]; exact TI_put hT T_m9 (by decide) ⟨_, rfl⟩
  have hkf : kf τ [(30, 2)] [m9] h h_3 := by rw [e_4]; exact kf_putM hkf (by simp)
  refine lv_iload_n hx hb d_Mo_defect_5 rfl (lv_at hl 1 rfl) ?_
  refine lv_iconst (v := 0) hx hb d_Mo_defect_6 (by decide) ?_
  refine lv_aload_n hx hb d_Mo_defect_7 rfl (lv_at hl 0 rfl) ?_
  refine hm_get (ci := 9) (v := .int (nI n)) (C := R_Mo) (T := F_Mo) (N := 41) hx hb hts ig_Mo hown hK hH F_m9 rfl 1 (by decide) (hts _ mw_587) (fun _ h9 => h9) rfl d_Mo_defect_8 ?_
  refine lv_iconst (v := 1) hx hb d_Mo_defect_11 (by decide) ?_
  refine lv_isub hx hb d_Mo_defect_12 ?_
  refine lv_topi (fun v_5 e_6 => ?_)
  refine hm_callPi (va_runS (As := [.int s9, .int 0, .int v_5]) (rest := []) ⟨hx, hb, hml, hown, hts⟩ (m_in l D t G ak av h_3 τ n s9 0 v_5    hn hT    ) ⟨cw9B 3 hts mw_582 mw_583 mw_579 rfl rfl (by decide +kernel) ⟨Nat.le_of_ble_eq_true rfl, Nat.le_of_ble_eq_true rfl⟩, hts _ mw_584⟩ (hP_S kE_ok hE hH) rfl rfl hl.1 rfl (lv_room (Nat.le_of_ble_eq_true rfl)) d_Mo_defect_13 ⟨Nat.le_of_ble_eq_true rfl, Nat.le_of_ble_eq_true rfl⟩) (fun r_7 h_8 H_9 hp_11  hH z_10 => ?_)
  have hz : s.heap.size ≤ H_9.size := Nat.le_trans hz z_10
  obtain ⟨c_12, xp_13, rfl⟩ := hp_11
  have il_14 : (0 : Int32).toInt = 0 := rfl
  have is_15 : v_5.toInt = (nI n).toInt - 1 := by rw [e_6]; exact iDecS 1 rfl (by decide) (by omega)
  rcases xp_13 with ⟨rfl, ix9⟩ | ⟨rfl, ix9, iy9⟩
  · skip
    refine lv_if_ne (tgt := 21) hx hb d_Mo_defect_16 (by decide) (fun hc_16 => absurd hc_16 (by decide)) (fun hc_16 => ?_)
    refine lv_iconst (v := 0) hx hb d_Mo_defect_19 (by decide) ?_
    exact W.zret (v := 0) hx hb hr (by decide) (fun t9 ht hW => ⟨0, h_3, rfl, ⟨zb0, hT, hkf, ⟨(0 : Int32), F_m9, ⟨hsd, hlo, (by omega), ⟨by omega, by omega⟩, ⟨by omega, by omega⟩⟩, Or.inl ⟨rfl, by omega⟩⟩⟩, by rw [ht]; exact hH, by rw [ht]; exact hz⟩) hLo d_Mo_defect_20
  · skip
    refine lv_if_ne (tgt := 21) hx hb d_Mo_defect_16 (by decide) (fun hc_17 => ?_) (fun hc_17 => absurd hc_17 (by decide))
    refine lv_aload_n hx hb d_Mo_defect_21 rfl (lv_at hl 0 rfl) ?_
    refine hm_get (ci := 9) (v := .ref (A 1)) (C := R_Mo) (T := F_Mo) (N := 41) hx hb hts ig_Mo hown hK hH F_m9 rfl 4 (by decide) (hts _ mw_588) (fun _ h9 => h9) rfl d_Mo_defect_22 ?_
    refine lv_aload_n hx hb d_Mo_defect_25 rfl (lv_at hl 0 rfl) ?_
    refine hm_get (ci := 9) (v := .int sd) (C := R_Mo) (T := F_Mo) (N := 41) hx hb hts ig_Mo hown hK hH F_m9 rfl 2 (by decide) (hts _ mw_586) (fun _ h9 => h9) rfl d_Mo_defect_26 ?_
    refine lv_iload_n hx hb d_Mo_defect_29 rfl (lv_at hl 1 rfl) ?_
    refine lv_iadd hx hb d_Mo_defect_30 ?_
    refine lv_topi (fun v_18 e_19 => ?_)
    obtain ⟨g_20, F_A1, c_21⟩ := TI_arB (L := 400) hT (hA 1 (by decide)) rfl rfl
    have is_22 : v_18.toInt = sd.toInt + s9.toInt := by rw [e_19]; exact iAdd (by omega) (by omega)
    refine hm_bald hx hb hK hH 0 F_A1 rfl (iIn (by omega) (by omega)) d_Mo_defect_31 ?_
    refine lv_topi (fun v_23 e_24 => ?_)
    refine lv_if_ne (tgt := 42) hx hb d_Mo_defect_32 (by decide) (fun hc_25 => ?_) (fun hc_25 => ?_)
    · skip
      refine lv_iconst (v := 1) hx hb d_Mo_defect_42 (by decide) ?_
      exact W.zret (v := 1) hx hb hr (by decide) (fun t9 ht hW => ⟨1, h_3, rfl, ⟨zb1, hT, hkf, ⟨(0 : Int32), F_m9, ⟨hsd, hlo, (by omega), ⟨by omega, by omega⟩, ⟨by omega, by omega⟩⟩, Or.inr ⟨rfl, by omega, by omega⟩⟩⟩, by rw [ht]; exact hH, by rw [ht]; exact hz⟩) hLo d_Mo_defect_43
    · skip
      have ic_26 : v_23.toInt = 0 := congrArg Int32.toInt hc_25
      refine lv_aload_n hx hb d_Mo_defect_35 rfl (lv_at hl 0 rfl) ?_
      refine hm_get (ci := 9) (v := .ref (A 2)) (C := R_Mo) (T := F_Mo) (N := 41) hx hb hts ig_Mo hown hK hH F_m9 rfl 5 (by decide) (hts _ mw_592) (fun _ h9 => h9) rfl d_Mo_defect_36 ?_
      refine lv_iload_n hx hb d_Mo_defect_39 rfl (lv_at hl 1 rfl) ?_
      refine lv_iconst (v := 1) hx hb d_Mo_defect_40 (by decide) ?_
      obtain ⟨g_27, F_A2, c_28⟩ := TI_arZ (L := 200) hT (hA 2 (by decide)) rfl rfl
      refine hm_zast hx hb hK hH hLo 1 F_A2 rfl (iIn (by omega) (by omega)) d_Mo_defect_41 (fun H_29 locs hH z_30 hLo => ?_)
      have hz : s.heap.size ≤ H_29.size := by rw [z_30]; exact hz
      rw [zb_nar (v := 1) zb1] at hH
      obtain ⟨h_31, e_32⟩ : ∃ z, z = hu h_3 (A 2) (.inl ((t 1), 200, .inl (upd g_27 s9.toNatClampNeg (1 : Int32)))) := ⟨_, rfl⟩
      have hH : hm D vwCl G h_31 H_29 := by rw [e_32]; exact hH
      have F_m9 : h_31 m9 = some (.inr (9, mf A n 0 sd lo le wr ma nu di pl se wg op)) := by rw [e_32, hu_n (tne T_m9 (hA 2 (by decide)) (by decide))]; exact F_m9
      have F_A1 : h_31 (A 1) = some (.inl ((t 0), 400, .inl g_20)) := by rw [e_32, hu_n (tneF (hA 1 (by decide)) (hA 2 (by decide)) (by decide))]; exact F_A1
      have F_A2 : h_31 (A 2) = some (.inl ((t 1), 200, .inl (upd g_27 s9.toNatClampNeg (1 : Int32)))) := by rw [e_32]; exact hu_s _ _ _
      have hT : TI τ t n h_31 := by rw [e_32]; exact TI_put hT (hA 2 (by decide)) (by decide) (ok_Z rfl rfl (zbF_up c_28 zb1))
      have hkf : kf τ [(30, 2)] [m9] h h_31 := by rw [e_32]; exact kf_put hkf (hA 2 (by decide)) List.mem_cons_self
      obtain ⟨g_33, e_34⟩ : ∃ z, z = upd g_27 s9.toNatClampNeg (1 : Int32) := ⟨_, rfl⟩
      rw [← e_34] at F_A2
      have c_35 : zbF g_33 := by rw [e_34]; exact (zbF_up c_28 zb1)
      refine lv_iconst (v := 1) hx hb d_Mo_defect_42 (by decide) ?_
      exact W.zret (v := 1) hx hb hr (by decide) (fun t9 ht hW => ⟨1, h_31, rfl, ⟨zb1, hT, hkf, ⟨(0 : Int32), F_m9, ⟨hsd, hlo, (by omega), ⟨by omega, by omega⟩, ⟨by omega, by omega⟩⟩, Or.inr ⟨rfl, by omega, by omega⟩⟩⟩, by rw [ht]; exact hH, by rw [ht]; exact hz⟩) hLo d_Mo_defect_43

set_option maxHeartbeats 4000000 in
set_option maxRecDepth 100000 in
theorem m_power (l : Launch) (D : va_G) (t : Nat → ClassId) (G : hG) (ak av : Nat → Nat) (h : hM) (τ : tM) (n : Nat) (m9 : Nat) (a9 : Int32) (A : Nat → Nat) (th sd lo le wr ma nu di pl se wg op : Int32) (hn : n ≤ 200) (hT : TI τ t n h) (T_m9 : τ m9 = (20, 0)) (F_m9 : h m9 = some (.inr (9, mf A n th sd lo le wr ma nu di pl se wg op))) (hA : ∀ i, i < 28 → τ (A i) = (30, i)) (hmk : mOk sd lo ma se op) : Met l y_Mo_power (.code y_Mo_power b_Mo_power 2 none :: lw_g) { frames := 0, cells := 0, slots := 0, locals := 0 } (hP (kE D t G ak av) D vwCl G h [.ref m9, .int a9]) (hQv D vwCl G (fun h' => TI τ t n h' ∧ kf τ [] [m9] h h' ∧ (∃ (th' : Int32) (le' : Int32), h' m9 = some (.inr (9, mf A n th' sd lo le' wr ma nu di pl se wg op)) ∧ mOk sd lo ma se op))) 0 0 G.P := by
  refine Met.ofW (cc := b_Mo_power) (maxL := 2) (ret := none) (by decide) rfl ?_
  intro p e s m args below meth c s₁ Bd hml hv
  obtain ⟨ha, hE, hH⟩ := hv
  have hx := Bd.exec
  have hb := Bd.bytes
  have hr := Bd.returns
  have hts : ∀ w ∈ lw_g, w.before args s = true := fun w hw => atoms_spec (ws := (.code y_Mo_power b_Mo_power 2 none :: lw_g)) Bd.pre w (List.mem_cons_of_mem _ hw)
  have hown : s.vm.findClass R_Mo = some m.cls := findClass_of_methodNamed Bd.named
  have hlocks := Bd.notSynchronized
  have hK := hE.1
  have hH0 := hH
  have hLo : hLc G.P [] := hLc_nil
  have hz : s.heap.size ≤ s.heap.size := Nat.le_refl _
  have hl := lv_entry [.ref m9, .int a9] (n := 2) (Nat.le_of_ble_eq_true rfl)
  rw [show entryFrame m args 2 = F0 m 0 ((lg_sl [.ref m9, .int a9] ++ List.replicate (2 - (lg_sl [.ref m9, .int a9]).length) Slot.unset).toArray) [] from (by rw [ha]; exact lg_entry_eq m [.ref m9, .int a9] 2)]
  generalize (lg_sl [.ref m9, .int a9] ++ List.replicate (2 - (lg_sl [.ref m9, .int a9]).length) Slot.unset).toArray = ls at hl ⊢
  have hl : lv_has ls 2 [(0, .ref m9), (1, .int a9)] := hl
  have hkf : kf τ [] [m9] h h := kf_rf
  obtain ⟨hsd, hlo, hma, hse, hop⟩ := id hmk
  have inI : (nI n).toInt = n := nI_toInt (by omega)
  refine lv_aload_n hx hb d_Mo_power_0 rfl (lv_at hl 0 rfl) ?_
  refine lv_iconst (v := 0) hx hb d_Mo_power_1 (by decide) ?_
  refine hm_put (ci := 9) (v := .int 0) (ty := .int) (C := R_Mo) (T := F_Mo) (N := 41) hx hb hts ig_Mo t_Mo tk_Mo nm_Mo hown hK hH hLo F_m9 rfl 0 (by decide) (hts _ mw_594) (fun _ h9 => h9) rfl (by decide +kernel) rfl rfl (Nat.le_of_ble_eq_true rfl) d_Mo_power_2 (fun H_1 locs hH z_2 hLo => ?_)
  have hz : s.heap.size ≤ H_1.size := by rw [z_2]; exact hz
  obtain ⟨h_3, e_4⟩ : ∃ z, z = hu h m9 (.inr (9, mf A n 0 sd lo le wr ma nu di pl se wg op)) := ⟨_, rfl⟩
  have hH : hm D vwCl G h_3 H_1 := by rw [e_4]; exact hH
  have F_m9 : h_3 m9 = some (.inr (9, mf A n 0 sd lo le wr ma nu di pl se wg op)) := by rw [e_4]; exact hu_s _ _ _
  have hT : TI τ t n h_3 := by rw [e_4]; exact TI_put hT T_m9 (by decide) ⟨_, rfl⟩
  have hkf : kf τ [] [m9] h h_3 := by rw [e_4]; exact kf_putM hkf (by simp)
  refine lv_aload_n hx hb d_Mo_power_5 rfl (lv_at hl 0 rfl) ?_
  refine hm_get (ci := 9) (v := .int lo) (C := R_Mo) (T := F_Mo) (N := 41) hx hb hts ig_Mo hown hK hH F_m9 rfl 6 (by decide) (hts _ mw_593) (fun _ h9 => h9) rfl d_Mo_power_6 ?_
  refine lv_if_ne (tgt := 25) hx hb d_Mo_power_9 (by decide) (fun hc_5 => ?_) (fun hc_5 => ?_)
  · skip
    exact W.vret hx hb hr (fun t9 ht hW => ⟨h_3, rfl, ⟨hT, hkf, ⟨(0 : Int32), le, F_m9, ⟨hsd, hlo, (by omega), ⟨by omega, by omega⟩, ⟨by omega, by omega⟩⟩⟩⟩, by rw [ht]; exact hH, by rw [ht]; exact hz⟩) hLo d_Mo_power_25
  · skip
    have ic_6 : lo.toInt = 0 := congrArg Int32.toInt hc_5
    refine lv_aload_n hx hb d_Mo_power_12 rfl (lv_at hl 0 rfl) ?_
    refine lv_iload_n hx hb d_Mo_power_13 rfl (lv_at hl 1 rfl) ?_
    refine lv_if_ge (tgt := 21) hx hb d_Mo_power_14 (by decide) (fun hc_7 => ?_) (fun hc_7 => ?_)
    · skip
      have ic_8 : 0 ≤ a9.toInt := iLe hc_7
      refine lv_iload_n hx hb d_Mo_power_21 rfl (lv_at hl 1 rfl) ?_
      refine hm_put (ci := 9) (v := .int a9) (ty := .int) (C := R_Mo) (T := F_Mo) (N := 41) hx hb hts ig_Mo t_Mo tk_Mo nm_Mo hown hK hH hLo F_m9 rfl 7 (by decide) (hts _ mw_590) (fun _ h9 => h9) rfl (by decide +kernel) rfl rfl (Nat.le_of_ble_eq_true rfl) d_Mo_power_22 (fun H_9 locs hH z_10 hLo => ?_)
      have hz : s.heap.size ≤ H_9.size := by rw [z_10]; exact hz
      obtain ⟨h_11, e_12⟩ : ∃ z, z = hu h_3 m9 (.inr (9, mf A n 0 sd lo a9 wr ma nu di pl se wg op)) := ⟨_, rfl⟩
      have hH : hm D vwCl G h_11 H_9 := by rw [e_12]; exact hH
      have F_m9 : h_11 m9 = some (.inr (9, mf A n 0 sd lo a9 wr ma nu di pl se wg op)) := by rw [e_12]; exact hu_s _ _ _
      have hT : TI τ t n h_11 := by rw [e_12]; exact TI_put hT T_m9 (by decide) ⟨_, rfl⟩
      have hkf : kf τ [] [m9] h h_11 := by rw [e_12]; exact kf_putM hkf (by simp)
      exact W.vret hx hb hr (fun t9 ht hW => ⟨h_11, rfl, ⟨hT, hkf, ⟨(0 : Int32), a9, F_m9, ⟨hsd, hlo, (by omega), ⟨by omega, by omega⟩, ⟨by omega, by omega⟩⟩⟩⟩, by rw [ht]; exact hH, by rw [ht]; exact hz⟩) hLo d_Mo_power_25
    · skip
      have ic_13 : a9.toInt < 0 := iNe hc_7
      refine lv_iconst (v := -1) hx hb d_Mo_power_17 (by decide) ?_
      refine lv_goto (tgt := 22) hx hb d_Mo_power_18 (by decide) ?_
      refine hm_put (ci := 9) (v := .int (-1)) (ty := .int) (C := R_Mo) (T := F_Mo) (N := 41) hx hb hts ig_Mo t_Mo tk_Mo nm_Mo hown hK hH hLo F_m9 rfl 7 (by decide) (hts _ mw_590) (fun _ h9 => h9) rfl (by decide +kernel) rfl rfl (Nat.le_of_ble_eq_true rfl) d_Mo_power_22 (fun H_14 locs hH z_15 hLo => ?_)
      have hz : s.heap.size ≤ H_14.size := by rw [z_15]; exact hz
      obtain ⟨h_16, e_17⟩ : ∃ z, z = hu h_3 m9 (.inr (9, mf A n 0 sd lo (-1) wr ma nu di pl se wg op)) := ⟨_, rfl⟩
      have hH : hm D vwCl G h_16 H_14 := by rw [e_17]; exact hH
      have F_m9 : h_16 m9 = some (.inr (9, mf A n 0 sd lo (-1) wr ma nu di pl se wg op)) := by rw [e_17]; exact hu_s _ _ _
      have hT : TI τ t n h_16 := by rw [e_17]; exact TI_put hT T_m9 (by decide) ⟨_, rfl⟩
      have hkf : kf τ [] [m9] h h_16 := by rw [e_17]; exact kf_putM hkf (by simp)
      exact W.vret hx hb hr (fun t9 ht hW => ⟨h_16, rfl, ⟨hT, hkf, ⟨(0 : Int32), ((-1) : Int32), F_m9, ⟨hsd, hlo, (by omega), ⟨by omega, by omega⟩, ⟨by omega, by omega⟩⟩⟩⟩, by rw [ht]; exact hH, by rw [ht]; exact hz⟩) hLo d_Mo_power_25

set_option maxHeartbeats 4000000 in
set_option maxRecDepth 100000 in
theorem m_isNode (l : Launch) (D : va_G) (t : Nat → ClassId) (G : hG) (ak av : Nat → Nat) (h : hM) (τ : tM) (n : Nat) (m9 : Nat) (k9 : Int32) (A : Nat → Nat) (th sd lo le wr ma nu di pl se wg op : Int32) (hn : n ≤ 200) (hT : TI τ t n h) (T_m9 : τ m9 = (20, 0)) (F_m9 : h m9 = some (.inr (9, mf A n th sd lo le wr ma nu di pl se wg op))) (hA : ∀ i, i < 28 → τ (A i) = (30, i)) (hmk : mOk sd lo ma se op) : Met l y_Mo_isNode (.code y_Mo_isNode b_Mo_isNode 2 (some .boolean) :: lw_g) { frames := 0, cells := 0, slots := 0, locals := 0 } (hP (kE D t G ak av) D vwCl G h [.ref m9, .int k9]) (hQi D vwCl G (fun r h' => zb r ∧ (r = 1 → 0 ≤ k9.toInt ∧ k9.toInt < ma.toInt ∧ aI h (A 4) k9.toInt.toNat = 1) ∧ h = h')) 0 0 nof := by
  refine Met.ofW (cc := b_Mo_isNode) (maxL := 2) (ret := (some .boolean)) (by decide) rfl ?_
  intro p e s m args below meth c s₁ Bd hml hv
  obtain ⟨ha, hE, hH⟩ := hv
  have hx := Bd.exec
  have hb := Bd.bytes
  have hr := Bd.returns
  have hts : ∀ w ∈ lw_g, w.before args s = true := fun w hw => atoms_spec (ws := (.code y_Mo_isNode b_Mo_isNode 2 (some .boolean) :: lw_g)) Bd.pre w (List.mem_cons_of_mem _ hw)
  have hown : s.vm.findClass R_Mo = some m.cls := findClass_of_methodNamed Bd.named
  have hlocks := Bd.notSynchronized
  have hK := hE.1
  have hH0 := hH
  have hLo : hLc nof [] := hLc_nil
  have hz : s.heap.size ≤ s.heap.size := Nat.le_refl _
  have hl := lv_entry [.ref m9, .int k9] (n := 2) (Nat.le_of_ble_eq_true rfl)
  rw [show entryFrame m args 2 = F0 m 0 ((lg_sl [.ref m9, .int k9] ++ List.replicate (2 - (lg_sl [.ref m9, .int k9]).length) Slot.unset).toArray) [] from (by rw [ha]; exact lg_entry_eq m [.ref m9, .int k9] 2)]
  generalize (lg_sl [.ref m9, .int k9] ++ List.replicate (2 - (lg_sl [.ref m9, .int k9]).length) Slot.unset).toArray = ls at hl ⊢
  have hl : lv_has ls 2 [(0, .ref m9), (1, .int k9)] := hl
  obtain ⟨hsd, hlo, hma, hse, hop⟩ := id hmk
  have inI : (nI n).toInt = n := nI_toInt (by omega)
  obtain ⟨g_1, F_A4, c_2⟩ := TI_arZ (L := 700) hT (hA 4 (by decide)) rfl rfl
  refine lv_iload_n hx hb d_Mo_isNode_0 rfl (lv_at hl 1 rfl) ?_
  refine lv_if_lt (tgt := 25) hx hb d_Mo_isNode_1 (by decide) (fun hc_3 => ?_) (fun hc_3 => ?_)
  · skip
    have ic_4 : k9.toInt < 0 := iLt hc_3
    refine lv_iconst (v := 0) hx hb d_Mo_isNode_25 (by decide) ?_
    exact W.zret (v := 0) hx hb hr (by decide) (fun t9 ht hW => ⟨0, h, rfl, ⟨zb0, (fun z => absurd z (by decide)), rfl⟩, by rw [ht]; exact hH, by rw [ht]; exact hz⟩) hLo d_Mo_isNode_26
  · skip
    have ic_5 : 0 ≤ k9.toInt := iNl hc_3
    refine lv_iload_n hx hb d_Mo_isNode_4 rfl (lv_at hl 1 rfl) ?_
    refine lv_aload_n hx hb d_Mo_isNode_5 rfl (lv_at hl 0 rfl) ?_
    refine hm_get (ci := 9) (v := .int ma) (C := R_Mo) (T := F_Mo) (N := 41) hx hb hts ig_Mo hown hK hH F_m9 rfl 10 (by decide) (hts _ mw_595) (fun _ h9 => h9) rfl d_Mo_isNode_6 ?_
    refine lv_icmp_ge (tgt := 25) hx hb d_Mo_isNode_9 (by decide) (fun hc_6 => ?_) (fun hc_6 => ?_)
    · skip
      have ic_7 : ma.toInt ≤ k9.toInt := iLe hc_6
      refine lv_iconst (v := 0) hx hb d_Mo_isNode_25 (by decide) ?_
      exact W.zret (v := 0) hx hb hr (by decide) (fun t9 ht hW => ⟨0, h, rfl, ⟨zb0, (fun z => absurd z (by decide)), rfl⟩, by rw [ht]; exact hH, by rw [ht]; exact hz⟩) hLo d_Mo_isNode_26
    · skip
      have ic_8 : k9.toInt < ma.toInt := iNe hc_6
      have iu_9 : ma.toInt < 2147483648 := iUp _
      refine lv_aload_n hx hb d_Mo_isNode_12 rfl (lv_at hl 0 rfl) ?_
      refine hm_get (ci := 9) (v := .ref (A 4)) (C := R_Mo) (T := F_Mo) (N := 41) hx hb hts ig_Mo hown hK hH F_m9 rfl 11 (by decide) (hts _ mw_596) (fun _ h9 => h9) rfl d_Mo_isNode_13 ?_
      refine lv_iload_n hx hb d_Mo_isNode_16 rfl (lv_at hl 1 rfl) ?_
      refine hm_zald hx hb hK hH 1 F_A4 rfl (iIn (by omega) (by omega)) d_Mo_isNode_17 ?_
      refine lv_topi (fun v_10 e_11 => ?_)
      have c_12 : zb v_10 := by rw [e_11]; exact c_2 _
      refine lv_if_eq (tgt := 25) hx hb d_Mo_isNode_18 (by decide) (fun hc_13 => ?_) (fun hc_13 => ?_)
      · skip
        have ic_14 : v_10.toInt = 0 := congrArg Int32.toInt hc_13
        refine lv_iconst (v := 0) hx hb d_Mo_isNode_25 (by decide) ?_
        exact W.zret (v := 0) hx hb hr (by decide) (fun t9 ht hW => ⟨0, h, rfl, ⟨zb0, (fun z => absurd z (by decide)), rfl⟩, by rw [ht]; exact hH, by rw [ht]; exact hz⟩) hLo d_Mo_isNode_26
      · skip
        refine lv_iconst (v := 1) hx hb d_Mo_isNode_21 (by decide) ?_
        refine lv_goto (tgt := 26) hx hb d_Mo_isNode_22 (by decide) ?_
        exact W.zret (v := 1) hx hb hr (by decide) (fun t9 ht hW => ⟨1, h, rfl, ⟨zb1, (fun _ => ⟨by omega, by omega, by
          rw [aI_of F_A4, ← clN, ← e_11]
          rcases c_12 with hq | hq
          · exact absurd hq hc_13
          · exact hq⟩), rfl⟩, by rw [ht]; exact hH, by rw [ht]; exact hz⟩) hLo d_Mo_isNode_26

set_option maxHeartbeats 4000000 in
set_option maxRecDepth 100000 in
theorem m_named (l : Launch) (D : va_G) (t : Nat → ClassId) (G : hG) (ak av : Nat → Nat) (h : hM) (τ : tM) (n : Nat) (m9 : Nat) (d9 : Int32) (w9 : Int64) (A : Nat → Nat) (th sd lo le wr ma nu di pl se wg op : Int32) (hn : n ≤ 200) (hT : TI τ t n h) (T_m9 : τ m9 = (20, 0)) (F_m9 : h m9 = some (.inr (9, mf A n th sd lo le wr ma nu di pl se wg op))) (hA : ∀ i, i < 28 → τ (A i) = (30, i)) (hmk : mOk sd lo ma se op) : Met l y_Mo_namedIn (.code y_Mo_namedIn b_Mo_namedIn 5 (some .int) :: lw_g) { frames := 0, cells := 0, slots := 0, locals := 0 } (hP (kE D t G ak av) D vwCl G h [.ref m9, .int d9, .long w9]) (hQi D vwCl G (fun r h' => h = h')) 0 0 nof := by
  refine Met.ofW (cc := b_Mo_namedIn) (maxL := 5) (ret := (some .int)) (by decide) rfl ?_
  intro p e s m args below meth c s₁ Bd hml hv
  obtain ⟨ha, hE, hH⟩ := hv
  have hx := Bd.exec
  have hb := Bd.bytes
  have hr := Bd.returns
  have hts : ∀ w ∈ lw_g, w.before args s = true := fun w hw => atoms_spec (ws := (.code y_Mo_namedIn b_Mo_namedIn 5 (some .int) :: lw_g)) Bd.pre w (List.mem_cons_of_mem _ hw)
  have hown : s.vm.findClass R_Mo = some m.cls := findClass_of_methodNamed Bd.named
  have hlocks := Bd.notSynchronized
  have hK := hE.1
  have hH0 := hH
  have hLo : hLc nof [] := hLc_nil
  have hz : s.heap.size ≤ s.heap.size := Nat.le_refl _
  have hl := lv_entry [.ref m9, .int d9, .long w9] (n := 5) (Nat.le_of_ble_eq_true rfl)
  rw [show entryFrame m args 5 = F0 m 0 ((lg_sl [.ref m9, .int d9, .long w9] ++ List.replicate (5 - (lg_sl [.ref m9, .int d9, .long w9]).length) Slot.unset).toArray) [] from (by rw [ha]; exact lg_entry_eq m [.ref m9, .int d9, .long w9] 5)]
  generalize (lg_sl [.ref m9, .int d9, .long w9] ++ List.replicate (5 - (lg_sl [.ref m9, .int d9, .long w9]).length) Slot.unset).toArray = ls at hl ⊢
  have hl : lv_has ls 5 [(0, .ref m9), (1, .int d9), (2, .long w9)] := hl
  obtain ⟨hsd, hlo, hma, hse, hop⟩ := id hmk
  have inI : (nI n).toInt = n := nI_toInt (by omega)
  refine lv_iconst (v := 1) hx hb d_Mo_namedIn_0 (by decide) ?_
  refine lv_istore (lv' := [(4, .int 1), (0, .ref m9), (1, .int d9), (2, .long w9)]) hx hb d_Mo_namedIn_1 hl (by decide) rfl (fun ls hl => ?_)
  refine hm_loop (fun k3 ls H locs hh3 => ∃ (i9 : Int32), k3 = mU i9 ∧ lv_has ls 5 [(0, .ref m9), (1, .int d9), (2, .long w9), (4, .int i9)] ∧ hm D vwCl G hh3 H ∧ s.heap.size ≤ H.size ∧ hLc nof locs ∧ (h = hh3) ∧ (0 ≤ i9.toInt)) ?_ (hh := h) ⟨1, rfl, (lv_sub hl [1, 2, 3, 0] rfl), hH, hz, hLo, rfl, (by decide)⟩
  rintro k3 ls H locs hh3 ⟨i9, hk3, hl, hH, hz, hLo, rfl, I_i9⟩ ih3
  refine lv_iload hx hb d_Mo_namedIn_3 (lv_at hl 3 rfl) ?_
  refine lv_aload_n hx hb d_Mo_namedIn_5 rfl (lv_at hl 0 rfl) ?_
  refine hm_get (ci := 9) (v := .int ma) (C := R_Mo) (T := F_Mo) (N := 41) hx hb hts ig_Mo hown hK hH F_m9 rfl 10 (by decide) (hts _ mw_595) (fun _ h9 => h9) rfl d_Mo_namedIn_6 ?_
  refine lv_icmp_ge (tgt := 54) hx hb d_Mo_namedIn_9 (by decide) (fun hc_1 => ?_) (fun hc_1 => ?_)
  · skip
    have ic_2 : ma.toInt ≤ i9.toInt := iLe hc_1
    refine lv_iconst (v := -1) hx hb d_Mo_namedIn_54 (by decide) ?_
    exact W.iret (v := (-1)) hx hb hr (fun t9 ht hW => ⟨(-1), h, rfl, rfl, by rw [ht]; exact hH, by rw [ht]; exact hz⟩) hLo d_Mo_namedIn_55
  · skip
    have ic_3 : i9.toInt < ma.toInt := iNe hc_1
    have iu_4 : ma.toInt < 2147483648 := iUp _
    refine lv_aload_n hx hb d_Mo_namedIn_12 rfl (lv_at hl 0 rfl) ?_
    refine hm_get (ci := 9) (v := .ref (A 4)) (C := R_Mo) (T := F_Mo) (N := 41) hx hb hts ig_Mo hown hK hH F_m9 rfl 11 (by decide) (hts _ mw_596) (fun _ h9 => h9) rfl d_Mo_namedIn_13 ?_
    refine lv_iload hx hb d_Mo_namedIn_16 (lv_at hl 3 rfl) ?_
    obtain ⟨g_5, F_A4, c_6⟩ := TI_arZ (L := 700) hT (hA 4 (by decide)) rfl rfl
    refine hm_zald hx hb hK hH 1 F_A4 rfl (iIn (by omega) (by omega)) d_Mo_namedIn_18 ?_
    refine lv_topi (fun v_7 e_8 => ?_)
    have c_9 : zb v_7 := by rw [e_8]; exact c_6 _
    refine lv_if_eq (tgt := 48) hx hb d_Mo_namedIn_19 (by decide) (fun hc_10 => ?_) (fun hc_10 => ?_)
    · skip
      have ic_11 : v_7.toInt = 0 := congrArg Int32.toInt hc_10
      obtain ⟨j_12, e_13⟩ : ∃ z : Int32, z = i9 + 1 := ⟨_, rfl⟩
      refine lv_iinc (v := j_12) (lv' := [(4, .int j_12), (0, .ref m9), (1, .int d9), (2, .long w9)]) hx hb d_Mo_namedIn_48 hl (k := 3) rfl e_13.symm (by decide) rfl (fun ls hl => ?_)
      refine lv_goto (tgt := 3) hx hb d_Mo_namedIn_51 (by decide) ?_
      have is_14 : j_12.toInt = i9.toInt + 1 := by rw [e_13]; exact iAddK 1 rfl (by omega) (by omega)
      exact ih3 (mU j_12) ls _ locs _ (by rw [hk3]; exact mU_lt (by omega)) ⟨j_12, rfl, (lv_sub hl [1, 2, 3, 0] rfl), hH, hz, hLo, rfl, (by omega)⟩
    · skip
      refine lv_aload_n hx hb d_Mo_namedIn_22 rfl (lv_at hl 0 rfl) ?_
      refine hm_get (ci := 9) (v := .ref (A 6)) (C := R_Mo) (T := F_Mo) (N := 41) hx hb hts ig_Mo hown hK hH F_m9 rfl 13 (by decide) (hts _ mw_597) (fun _ h9 => h9) rfl d_Mo_namedIn_23 ?_
      refine lv_iload hx hb d_Mo_namedIn_26 (lv_at hl 3 rfl) ?_
      obtain ⟨g_15, F_A6⟩ := TI_arI (L := 700) hT (hA 6 (by decide)) rfl rfl
      refine hm_iald hx hb hK hH 2 F_A6 rfl (iIn (by omega) (by omega)) d_Mo_namedIn_28 ?_
      refine lv_topi (fun v_16 e_17 => ?_)
      refine lv_iload_n hx hb d_Mo_namedIn_29 rfl (lv_at hl 1 rfl) ?_
      refine lv_icmp_ne (tgt := 48) hx hb d_Mo_namedIn_30 (by decide) (fun hc_18 => ?_) (fun hc_18 => ?_)
      · skip
        obtain ⟨j_19, e_20⟩ : ∃ z : Int32, z = i9 + 1 := ⟨_, rfl⟩
        refine lv_iinc (v := j_19) (lv' := [(4, .int j_19), (0, .ref m9), (1, .int d9), (2, .long w9)]) hx hb d_Mo_namedIn_48 hl (k := 3) rfl e_20.symm (by decide) rfl (fun ls hl => ?_)
        refine lv_goto (tgt := 3) hx hb d_Mo_namedIn_51 (by decide) ?_
        have is_21 : j_19.toInt = i9.toInt + 1 := by rw [e_20]; exact iAddK 1 rfl (by omega) (by omega)
        exact ih3 (mU j_19) ls _ locs _ (by rw [hk3]; exact mU_lt (by omega)) ⟨j_19, rfl, (lv_sub hl [1, 2, 3, 0] rfl), hH, hz, hLo, rfl, (by omega)⟩
      · skip
        have ic_22 : v_16.toInt = d9.toInt := congrArg Int32.toInt hc_18
        refine lv_aload_n hx hb d_Mo_namedIn_33 rfl (lv_at hl 0 rfl) ?_
        refine hm_get (ci := 9) (v := .ref (A 7)) (C := R_Mo) (T := F_Mo) (N := 41) hx hb hts ig_Mo hown hK hH F_m9 rfl 14 (by decide) (hts _ mw_598) (fun _ h9 => h9) rfl d_Mo_namedIn_34 ?_
        refine lv_iload hx hb d_Mo_namedIn_37 (lv_at hl 3 rfl) ?_
        obtain ⟨g_23, F_A7⟩ := TI_arJ (L := 700) hT (hA 7 (by decide)) rfl rfl
        refine hm_lald hx hb hK hH 3 F_A7 rfl (iIn (by omega) (by omega)) d_Mo_namedIn_39 ?_
        refine lv_topl (fun v_24 e_25 => ?_)
        refine lv_lload_n hx hb d_Mo_namedIn_40 rfl (lv_at hl 2 rfl) ?_
        refine W.lcmp hx hb d_Mo_namedIn_41 ?_
        refine lv_if_ne (tgt := 48) hx hb d_Mo_namedIn_42 (by decide) (fun hc_26 => ?_) (fun hc_26 => ?_)
        · skip
          obtain ⟨j_27, e_28⟩ : ∃ z : Int32, z = i9 + 1 := ⟨_, rfl⟩
          refine lv_iinc (v := j_27) (lv' := [(4, .int j_27), (0, .ref m9), (1, .int d9), (2, .long w9)]) hx hb d_Mo_namedIn_48 hl (k := 3) rfl e_28.symm (by decide) rfl (fun ls hl => ?_)
          refine lv_goto (tgt := 3) hx hb d_Mo_namedIn_51 (by decide) ?_
          have is_29 : j_27.toInt = i9.toInt + 1 := by rw [e_28]; exact iAddK 1 rfl (by omega) (by omega)
          exact ih3 (mU j_27) ls _ locs _ (by rw [hk3]; exact mU_lt (by omega)) ⟨j_27, rfl, (lv_sub hl [1, 2, 3, 0] rfl), hH, hz, hLo, rfl, (by omega)⟩
        · skip
          refine lv_iload hx hb d_Mo_namedIn_45 (lv_at hl 3 rfl) ?_
          exact W.iret (v := i9) hx hb hr (fun t9 ht hW => ⟨i9, h, rfl, rfl, by rw [ht]; exact hH, by rw [ht]; exact hz⟩) hLo d_Mo_namedIn_47

set_option maxHeartbeats 4000000 in
set_option maxRecDepth 100000 in
theorem m_depth (l : Launch) (D : va_G) (t : Nat → ClassId) (G : hG) (ak av : Nat → Nat) (h : hM) (τ : tM) (n : Nat) (m9 : Nat) (k9 : Int32) (A : Nat → Nat) (th sd lo le wr ma nu di pl se wg op : Int32) (hn : n ≤ 200) (hT : TI τ t n h) (T_m9 : τ m9 = (20, 0)) (F_m9 : h m9 = some (.inr (9, mf A n th sd lo le wr ma nu di pl se wg op))) (hA : ∀ i, i < 28 → τ (A i) = (30, i)) (hmk : mOk sd lo ma se op) (hTm : treeM (aI h (A 4)) (aI h (A 6)) ma.toInt.toNat) (hk0 : 0 ≤ k9.toInt) (hlv : lvM (aI h (A 4)) ma.toInt.toNat k9.toInt.toNat) : Met l y_Mo_depthOf (.code y_Mo_depthOf b_Mo_depthOf 4 (some .int) :: lw_g) { frames := 0, cells := 0, slots := 0, locals := 0 } (hP (kE D t G ak av) D vwCl G h [.ref m9, .int k9]) (hQi D vwCl G (fun r h' => h = h')) 0 0 nof := by
  refine Met.ofW (cc := b_Mo_depthOf) (maxL := 4) (ret := (some .int)) (by decide) rfl ?_
  intro p e s m args below meth c s₁ Bd hml hv
  obtain ⟨ha, hE, hH⟩ := hv
  have hx := Bd.exec
  have hb := Bd.bytes
  have hr := Bd.returns
  have hts : ∀ w ∈ lw_g, w.before args s = true := fun w hw => atoms_spec (ws := (.code y_Mo_depthOf b_Mo_depthOf 4 (some .int) :: lw_g)) Bd.pre w (List.mem_cons_of_mem _ hw)
  have hown : s.vm.findClass R_Mo = some m.cls := findClass_of_methodNamed Bd.named
  have hlocks := Bd.notSynchronized
  have hK := hE.1
  have hH0 := hH
  have hLo : hLc nof [] := hLc_nil
  have hz : s.heap.size ≤ s.heap.size := Nat.le_refl _
  have hl := lv_entry [.ref m9, .int k9] (n := 4) (Nat.le_of_ble_eq_true rfl)
  rw [show entryFrame m args 4 = F0 m 0 ((lg_sl [.ref m9, .int k9] ++ List.replicate (4 - (lg_sl [.ref m9, .int k9]).length) Slot.unset).toArray) [] from (by rw [ha]; exact lg_entry_eq m [.ref m9, .int k9] 4)]
  generalize (lg_sl [.ref m9, .int k9] ++ List.replicate (4 - (lg_sl [.ref m9, .int k9]).length) Slot.unset).toArray = ls at hl ⊢
  have hl : lv_has ls 4 [(0, .ref m9), (1, .int k9)] := hl
  obtain ⟨hsd, hlo, hma, hse, hop⟩ := id hmk
  have inI : (nI n).toInt = n := nI_toInt (by omega)
  obtain ⟨g_1, F_A4, c_2⟩ := TI_arZ (L := 700) hT (hA 4 (by decide)) rfl rfl
  obtain ⟨g_3, F_A6⟩ := TI_arI (L := 700) hT (hA 6 (by decide)) rfl rfl
  rw [aI_of F_A4] at hlv
  rw [aI_of F_A4, aI_of F_A6] at hTm
  obtain ⟨k0, hD⟩ := dpQ_0 hTm hk0 hlv
  refine lv_iconst (v := 0) hx hb d_Mo_depthOf_0 (by decide) ?_
  refine lv_istore_n (lv' := [(2, .int 0), (0, .ref m9), (1, .int k9)]) hx hb d_Mo_depthOf_1 rfl hl (by decide) rfl (fun ls hl => ?_)
  refine lv_iload_n hx hb d_Mo_depthOf_2 rfl (lv_at hl 2 rfl) ?_
  refine lv_istore_n (lv' := [(3, .int k9), (2, .int 0), (0, .ref m9), (1, .int k9)]) hx hb d_Mo_depthOf_3 rfl hl (by decide) rfl (fun ls hl => ?_)
  refine hm_loop (fun k4 ls H locs hh4 => ∃ (n9 : Int32) (q9 : Int32) (kq : Nat), k4 = kq ∧ lv_has ls 4 [(0, .ref m9), (1, .int k9), (2, .int n9), (3, .int q9)] ∧ hm D vwCl G hh4 H ∧ s.heap.size ≤ H.size ∧ hLc nof locs ∧ (h = hh4) ∧ (dpQ (prM g_3) (lvM g_1 ma.toInt.toNat) kq q9)) ?_ (hh := h) ⟨0, k9, k0, rfl, (lv_sub hl [2, 3, 1, 0] rfl), hH, hz, hLo, rfl, hD⟩
  rintro k4 ls H locs hh4 ⟨n9, q9, kq, hk4, hl, hH, hz, hLo, rfl, hD⟩ ih4
  have hqm := dpQ_lt hD
  refine lv_iload_n hx hb d_Mo_depthOf_4 rfl (lv_at hl 3 rfl) ?_
  refine lv_if_le (tgt := 21) hx hb d_Mo_depthOf_5 (by decide) (fun hc_4 => ?_) (fun hc_4 => ?_)
  · skip
    have ic_5 : q9.toInt ≤ 0 := iLe hc_4
    refine lv_iload_n hx hb d_Mo_depthOf_21 rfl (lv_at hl 2 rfl) ?_
    exact W.iret (v := n9) hx hb hr (fun t9 ht hW => ⟨n9, h, rfl, rfl, by rw [ht]; exact hH, by rw [ht]; exact hz⟩) hLo d_Mo_depthOf_22
  · skip
    have ic_6 : 0 < q9.toInt := iNe hc_4
    have iu_7 : q9.toInt < 2147483648 := iUp _
    obtain ⟨j_8, e_9⟩ : ∃ z : Int32, z = n9 + 1 := ⟨_, rfl⟩
    refine lv_iinc (v := j_8) (lv' := [(2, .int j_8), (0, .ref m9), (1, .int k9), (3, .int q9)]) hx hb d_Mo_depthOf_8 hl (k := 2) rfl e_9.symm (by decide) rfl (fun ls hl => ?_)
    refine lv_aload_n hx hb d_Mo_depthOf_11 rfl (lv_at hl 1 rfl) ?_
    refine hm_get (ci := 9) (v := .ref (A 6)) (C := R_Mo) (T := F_Mo) (N := 41) hx hb hts ig_Mo hown hK hH F_m9 rfl 13 (by decide) (hts _ mw_597) (fun _ h9 => h9) rfl d_Mo_depthOf_12 ?_
    refine lv_iload_n hx hb d_Mo_depthOf_15 rfl (lv_at hl 3 rfl) ?_
    refine hm_iald hx hb hK hH 2 F_A6 rfl (iIn (by omega) (by omega)) d_Mo_depthOf_16 ?_
    refine lv_topi (fun v_10 e_11 => ?_)
    refine lv_istore_n (lv' := [(3, .int v_10), (2, .int j_8), (0, .ref m9), (1, .int k9)]) hx hb d_Mo_depthOf_17 rfl hl (by decide) rfl (fun ls hl => ?_)
    refine lv_goto (tgt := 4) hx hb d_Mo_depthOf_18 (by decide) ?_
    obtain ⟨k8, hk8, hD8, hp8⟩ := dpQ_next hTm hD (by omega) e_11
    exact ih4 (k8) ls _ locs _ (by rw [hk4]; exact hk8) ⟨j_8, v_10, k8, rfl, (lv_sub hl [2, 3, 1, 0] rfl), hH, hz, hLo, rfl, hD8⟩

set_option maxHeartbeats 4000000 in
set_option maxRecDepth 100000 in
theorem m_lies (l : Launch) (D : va_G) (t : Nat → ClassId) (G : hG) (ak av : Nat → Nat) (h : hM) (τ : tM) (n : Nat) (m9 : Nat) (k9 : Int32) (d9 : Int32) (A : Nat → Nat) (th sd lo le wr ma nu di pl se wg op : Int32) (hn : n ≤ 200) (hT : TI τ t n h) (T_m9 : τ m9 = (20, 0)) (F_m9 : h m9 = some (.inr (9, mf A n th sd lo le wr ma nu di pl se wg op))) (hA : ∀ i, i < 28 → τ (A i) = (30, i)) (hmk : mOk sd lo ma se op) (hTm : treeM (aI h (A 4)) (aI h (A 6)) ma.toInt.toNat) (hk0 : 0 ≤ k9.toInt) (hlv : lvM (aI h (A 4)) ma.toInt.toNat k9.toInt.toNat) (hd0 : 0 ≤ d9.toInt) : Met l y_Mo_liesIn (.code y_Mo_liesIn b_Mo_liesIn 4 (some .boolean) :: lw_g) { frames := 0, cells := 0, slots := 0, locals := 0 } (hP (kE D t G ak av) D vwCl G h [.ref m9, .int k9, .int d9]) (hQi D vwCl G (fun r h' => zb r ∧ (r = 0 → ∃ j, ChN (prM (aI h (A 6))) d9.toInt.toNat j k9.toInt.toNat) ∧ h = h')) 0 0 nof := by
  refine Met.ofW (cc := b_Mo_liesIn) (maxL := 4) (ret := (some .boolean)) (by decide) rfl ?_
  intro p e s m args below meth c s₁ Bd hml hv
  obtain ⟨ha, hE, hH⟩ := hv
  have hx := Bd.exec
  have hb := Bd.bytes
  have hr := Bd.returns
  have hts : ∀ w ∈ lw_g, w.before args s = true := fun w hw => atoms_spec (ws := (.code y_Mo_liesIn b_Mo_liesIn 4 (some .boolean) :: lw_g)) Bd.pre w (List.mem_cons_of_mem _ hw)
  have hown : s.vm.findClass R_Mo = some m.cls := findClass_of_methodNamed Bd.named
  have hlocks := Bd.notSynchronized
  have hK := hE.1
  have hH0 := hH
  have hLo : hLc nof [] := hLc_nil
  have hz : s.heap.size ≤ s.heap.size := Nat.le_refl _
  have hl := lv_entry [.ref m9, .int k9, .int d9] (n := 4) (Nat.le_of_ble_eq_true rfl)
  rw [show entryFrame m args 4 = F0 m 0 ((lg_sl [.ref m9, .int k9, .int d9] ++ List.replicate (4 - (lg_sl [.ref m9, .int k9, .int d9]).length) Slot.unset).toArray) [] from (by rw [ha]; exact lg_entry_eq m [.ref m9, .int k9, .int d9] 4)]
  generalize (lg_sl [.ref m9, .int k9, .int d9] ++ List.replicate (4 - (lg_sl [.ref m9, .int k9, .int d9]).length) Slot.unset).toArray = ls at hl ⊢
  have hl : lv_has ls 4 [(0, .ref m9), (1, .int k9), (2, .int d9)] := hl
  obtain ⟨hsd, hlo, hma, hse, hop⟩ := id hmk
  have inI : (nI n).toInt = n := nI_toInt (by omega)
  obtain ⟨g_1, F_A4, c_2⟩ := TI_arZ (L := 700) hT (hA 4 (by decide)) rfl rfl
  obtain ⟨g_3, F_A6⟩ := TI_arI (L := 700) hT (hA 6 (by decide)) rfl rfl
  rw [aI_of F_A4] at hlv
  rw [aI_of F_A4, aI_of F_A6] at hTm
  obtain ⟨k0, hD⟩ := dpQ_0 hTm hk0 hlv
  refine lv_iload_n hx hb d_Mo_liesIn_0 rfl (lv_at hl 1 rfl) ?_
  refine lv_istore_n (lv' := [(3, .int k9), (0, .ref m9), (1, .int k9), (2, .int d9)]) hx hb d_Mo_liesIn_1 rfl hl (by decide) rfl (fun ls hl => ?_)
  refine hm_loop (fun k2 ls H locs hh2 => ∃ (q9 : Int32) (kq : Nat), k2 = kq ∧ lv_has ls 4 [(0, .ref m9), (1, .int k9), (2, .int d9), (3, .int q9)] ∧ hm D vwCl G hh2 H ∧ s.heap.size ≤ H.size ∧ hLc nof locs ∧ (h = hh2) ∧ (dpQ (prM g_3) (lvM g_1 ma.toInt.toNat) kq q9) ∧ (∀ j, ChN (prM g_3) d9.toInt.toNat j q9.toInt.toNat → ∃ j2, ChN (prM g_3) d9.toInt.toNat j2 k9.toInt.toNat)) ?_ (hh := h) ⟨k9, k0, rfl, (lv_sub hl [1, 2, 3, 0] rfl), hH, hz, hLo, rfl, hD, (fun j hj => ⟨j, hj⟩)⟩
  rintro k2 ls H locs hh2 ⟨q9, kq, hk2, hl, hH, hz, hLo, rfl, hD, hWq⟩ ih2
  have hqm := dpQ_lt hD
  refine lv_iload_n hx hb d_Mo_liesIn_2 rfl (lv_at hl 3 rfl) ?_
  refine lv_if_le (tgt := 21) hx hb d_Mo_liesIn_3 (by decide) (fun hc_4 => ?_) (fun hc_4 => ?_)
  · skip
    have ic_5 : q9.toInt ≤ 0 := iLe hc_4
    refine lv_iload_n hx hb d_Mo_liesIn_21 rfl (lv_at hl 3 rfl) ?_
    refine lv_iload_n hx hb d_Mo_liesIn_22 rfl (lv_at hl 2 rfl) ?_
    refine lv_icmp_ne (tgt := 30) hx hb d_Mo_liesIn_23 (by decide) (fun hc_6 => ?_) (fun hc_6 => ?_)
    · skip
      refine lv_iconst (v := 0) hx hb d_Mo_liesIn_30 (by decide) ?_
      exact W.zret (v := 0) hx hb hr (by decide) (fun t9 ht hW => ⟨0, h, rfl, ⟨zb0, (fun _ => by
        first
          | exact absurd (show q9 = d9 by assumption) hc_6
          | (rw [aI_of F_A6]; exact hWq 0 ⟨fun z => hc_6 (Int32.toInt_inj.mp (by have := hD.1; omega)), by unfold prM; rw [if_pos (by have := hD.1; omega)]⟩)), rfl⟩, by rw [ht]; exact hH, by rw [ht]; exact hz⟩) hLo d_Mo_liesIn_31
    · skip
      have ic_7 : q9.toInt = d9.toInt := congrArg Int32.toInt hc_6
      refine lv_iconst (v := 1) hx hb d_Mo_liesIn_26 (by decide) ?_
      refine lv_goto (tgt := 31) hx hb d_Mo_liesIn_27 (by decide) ?_
      exact W.zret (v := 1) hx hb hr (by decide) (fun t9 ht hW => ⟨1, h, rfl, ⟨zb1, (fun z => absurd z (by decide)), rfl⟩, by rw [ht]; exact hH, by rw [ht]; exact hz⟩) hLo d_Mo_liesIn_31
  · skip
    have ic_8 : 0 < q9.toInt := iNe hc_4
    have iu_9 : q9.toInt < 2147483648 := iUp _
    refine lv_iload_n hx hb d_Mo_liesIn_6 rfl (lv_at hl 3 rfl) ?_
    refine lv_iload_n hx hb d_Mo_liesIn_7 rfl (lv_at hl 2 rfl) ?_
    refine lv_icmp_eq (tgt := 21) hx hb d_Mo_liesIn_8 (by decide) (fun hc_10 => ?_) (fun hc_10 => ?_)
    · skip
      have ic_11 : q9.toInt = d9.toInt := congrArg Int32.toInt hc_10
      refine lv_iload_n hx hb d_Mo_liesIn_21 rfl (lv_at hl 3 rfl) ?_
      refine lv_iload_n hx hb d_Mo_liesIn_22 rfl (lv_at hl 2 rfl) ?_
      refine lv_icmp_ne (tgt := 30) hx hb d_Mo_liesIn_23 (by decide) (fun hc_12 => ?_) (fun hc_12 => ?_)
      · skip
        refine lv_iconst (v := 0) hx hb d_Mo_liesIn_30 (by decide) ?_
        exact W.zret (v := 0) hx hb hr (by decide) (fun t9 ht hW => ⟨0, h, rfl, ⟨zb0, (fun _ => by
          first
            | exact absurd (show q9 = d9 by assumption) hc_12
            | (rw [aI_of F_A6]; exact hWq 0 ⟨fun z => hc_12 (Int32.toInt_inj.mp (by have := hD.1; omega)), by unfold prM; rw [if_pos (by have := hD.1; omega)]⟩)), rfl⟩, by rw [ht]; exact hH, by rw [ht]; exact hz⟩) hLo d_Mo_liesIn_31
      · skip
        have ic_13 : q9.toInt = d9.toInt := congrArg Int32.toInt hc_12
        refine lv_iconst (v := 1) hx hb d_Mo_liesIn_26 (by decide) ?_
        refine lv_goto (tgt := 31) hx hb d_Mo_liesIn_27 (by decide) ?_
        exact W.zret (v := 1) hx hb hr (by decide) (fun t9 ht hW => ⟨1, h, rfl, ⟨zb1, (fun z => absurd z (by decide)), rfl⟩, by rw [ht]; exact hH, by rw [ht]; exact hz⟩) hLo d_Mo_liesIn_31
    · skip
      refine lv_aload_n hx hb d_Mo_liesIn_11 rfl (lv_at hl 0 rfl) ?_
      refine hm_get (ci := 9) (v := .ref (A 6)) (C := R_Mo) (T := F_Mo) (N := 41) hx hb hts ig_Mo hown hK hH F_m9 rfl 13 (by decide) (hts _ mw_597) (fun _ h9 => h9) rfl d_Mo_liesIn_12 ?_
      refine lv_iload_n hx hb d_Mo_liesIn_15 rfl (lv_at hl 3 rfl) ?_
      refine hm_iald hx hb hK hH 2 F_A6 rfl (iIn (by omega) (by omega)) d_Mo_liesIn_16 ?_
      refine lv_topi (fun v_14 e_15 => ?_)
      refine lv_istore_n (lv' := [(3, .int v_14), (0, .ref m9), (1, .int k9), (2, .int d9)]) hx hb d_Mo_liesIn_17 rfl hl (by decide) rfl (fun ls hl => ?_)
      refine lv_goto (tgt := 2) hx hb d_Mo_liesIn_18 (by decide) ?_
      obtain ⟨k8, hk8, hD8, hp8⟩ := dpQ_next hTm hD (by omega) e_15
      have hW8 : ∀ j, ChN (prM g_3) d9.toInt.toNat j v_14.toInt.toNat → ∃ j2, ChN (prM g_3) d9.toInt.toNat j2 k9.toInt.toNat := fun j hj => hWq (j + 1) ⟨fun z => hc_10 (Int32.toInt_inj.mp (by have := hD.1; omega)), _, hp8, hj⟩
      exact ih2 (k8) ls _ locs _ (by rw [hk2]; exact hk8) ⟨v_14, k8, rfl, (lv_sub hl [1, 2, 3, 0] rfl), hH, hz, hLo, rfl, hD8, hW8⟩

set_option maxHeartbeats 4000000 in
set_option maxRecDepth 100000 in
theorem m_alive (l : Launch) (D : va_G) (t : Nat → ClassId) (G : hG) (ak av : Nat → Nat) (h : hM) (τ : tM) (n : Nat) (m9 : Nat) (A : Nat → Nat) (th sd lo le wr ma nu di pl se wg op : Int32) (hn : n ≤ 200) (hT : TI τ t n h) (T_m9 : τ m9 = (20, 0)) (F_m9 : h m9 = some (.inr (9, mf A n th sd lo le wr ma nu di pl se wg op))) (hA : ∀ i, i < 28 → τ (A i) = (30, i)) (hmk : mOk sd lo ma se op) : Met l y_Mo_alive (.code y_Mo_alive b_Mo_alive 3 (some .int) :: lw_g) { frames := 0, cells := 0, slots := 0, locals := 0 } (hP (kE D t G ak av) D vwCl G h [.ref m9]) (hQi D vwCl G (fun r h' => r.toInt = cntP (alB (aI h (A 4))) ma.toInt.toNat ∧ h = h')) 0 0 nof := by
  refine Met.ofW (cc := b_Mo_alive) (maxL := 3) (ret := (some .int)) (by decide) rfl ?_
  intro p e s m args below meth c s₁ Bd hml hv
  obtain ⟨ha, hE, hH⟩ := hv
  have hx := Bd.exec
  have hb := Bd.bytes
  have hr := Bd.returns
  have hts : ∀ w ∈ lw_g, w.before args s = true := fun w hw => atoms_spec (ws := (.code y_Mo_alive b_Mo_alive 3 (some .int) :: lw_g)) Bd.pre w (List.mem_cons_of_mem _ hw)
  have hown : s.vm.findClass R_Mo = some m.cls := findClass_of_methodNamed Bd.named
  have hlocks := Bd.notSynchronized
  have hK := hE.1
  have hH0 := hH
  have hLo : hLc nof [] := hLc_nil
  have hz : s.heap.size ≤ s.heap.size := Nat.le_refl _
  have hl := lv_entry [.ref m9] (n := 3) (Nat.le_of_ble_eq_true rfl)
  rw [show entryFrame m args 3 = F0 m 0 ((lg_sl [.ref m9] ++ List.replicate (3 - (lg_sl [.ref m9]).length) Slot.unset).toArray) [] from (by rw [ha]; exact lg_entry_eq m [.ref m9] 3)]
  generalize (lg_sl [.ref m9] ++ List.replicate (3 - (lg_sl [.ref m9]).length) Slot.unset).toArray = ls at hl ⊢
  have hl : lv_has ls 3 [(0, .ref m9)] := hl
  obtain ⟨hsd, hlo, hma, hse, hop⟩ := id hmk
  have inI : (nI n).toInt = n := nI_toInt (by omega)
  obtain ⟨g_1, F_A4, c_2⟩ := TI_arZ (L := 700) hT (hA 4 (by decide)) rfl rfl
  refine lv_iconst (v := 0) hx hb d_Mo_alive_0 (by decide) ?_
  refine lv_istore_n (lv' := [(1, .int 0), (0, .ref m9)]) hx hb d_Mo_alive_1 rfl hl (by decide) rfl (fun ls hl => ?_)
  refine lv_iconst (v := 0) hx hb d_Mo_alive_2 (by decide) ?_
  refine lv_istore_n (lv' := [(2, .int 0), (1, .int 0), (0, .ref m9)]) hx hb d_Mo_alive_3 rfl hl (by decide) rfl (fun ls hl => ?_)
  refine hm_loop (fun k4 ls H locs hh4 => ∃ (n9 : Int32) (i9 : Int32), k4 = mU i9 ∧ lv_has ls 3 [(0, .ref m9), (1, .int n9), (2, .int i9)] ∧ hm D vwCl G hh4 H ∧ s.heap.size ≤ H.size ∧ hLc nof locs ∧ (h = hh4) ∧ (0 ≤ i9.toInt ∧ (i9.toInt ≤ ma.toInt ∨ i9.toInt = 0) ∧ 0 ≤ n9.toInt ∧ n9.toInt ≤ i9.toInt) ∧ (n9.toInt = cntP (alB g_1) i9.toInt.toNat)) ?_ (hh := h) ⟨0, 0, rfl, (lv_sub hl [2, 1, 0] rfl), hH, hz, hLo, rfl, ⟨by decide, Or.inr rfl, by decide, by decide⟩, rfl⟩
  rintro k4 ls H locs hh4 ⟨n9, i9, hk4, hl, hH, hz, hLo, rfl, I_i9, hcn⟩ ih4
  refine lv_iload_n hx hb d_Mo_alive_4 rfl (lv_at hl 2 rfl) ?_
  refine lv_aload_n hx hb d_Mo_alive_5 rfl (lv_at hl 0 rfl) ?_
  refine hm_get (ci := 9) (v := .int ma) (C := R_Mo) (T := F_Mo) (N := 41) hx hb hts ig_Mo hown hK hH F_m9 rfl 10 (by decide) (hts _ mw_595) (fun _ h9 => h9) rfl d_Mo_alive_6 ?_
  refine lv_icmp_ge (tgt := 35) hx hb d_Mo_alive_9 (by decide) (fun hc_3 => ?_) (fun hc_3 => ?_)
  · skip
    have ic_4 : ma.toInt ≤ i9.toInt := iLe hc_3
    refine lv_iload_n hx hb d_Mo_alive_35 rfl (lv_at hl 1 rfl) ?_
    exact W.iret (v := n9) hx hb hr (fun t9 ht hW => ⟨n9, h, rfl, ⟨(by rw [aI_of F_A4, hcn, show ma.toInt.toNat = i9.toInt.toNat by omega]), rfl⟩, by rw [ht]; exact hH, by rw [ht]; exact hz⟩) hLo d_Mo_alive_36
  · skip
    have ic_5 : i9.toInt < ma.toInt := iNe hc_3
    have iu_6 : ma.toInt < 2147483648 := iUp _
    refine lv_iload_n hx hb d_Mo_alive_12 rfl (lv_at hl 1 rfl) ?_
    refine lv_aload_n hx hb d_Mo_alive_13 rfl (lv_at hl 0 rfl) ?_
    refine hm_get (ci := 9) (v := .ref (A 4)) (C := R_Mo) (T := F_Mo) (N := 41) hx hb hts ig_Mo hown hK hH F_m9 rfl 11 (by decide) (hts _ mw_596) (fun _ h9 => h9) rfl d_Mo_alive_14 ?_
    refine lv_iload_n hx hb d_Mo_alive_17 rfl (lv_at hl 2 rfl) ?_
    refine hm_zald hx hb hK hH 1 F_A4 rfl (iIn (by omega) (by omega)) d_Mo_alive_18 ?_
    refine lv_topi (fun v_7 e_8 => ?_)
    have c_9 : zb v_7 := by rw [e_8]; exact c_2 _
    refine lv_if_eq (tgt := 26) hx hb d_Mo_alive_19 (by decide) (fun hc_10 => ?_) (fun hc_10 => ?_)
    · skip
      have ic_11 : v_7.toInt = 0 := congrArg Int32.toInt hc_10
      refine lv_iconst (v := 0) hx hb d_Mo_alive_26 (by decide) ?_
      refine lv_iadd hx hb d_Mo_alive_27 ?_
      refine lv_topi (fun v_12 e_13 => ?_)
      refine lv_istore_n (lv' := [(1, .int v_12), (0, .ref m9), (2, .int i9)]) hx hb d_Mo_alive_28 rfl hl (by decide) rfl (fun ls hl => ?_)
      obtain ⟨j_14, e_15⟩ : ∃ z : Int32, z = i9 + 1 := ⟨_, rfl⟩
      refine lv_iinc (v := j_14) (lv' := [(2, .int j_14), (1, .int v_12), (0, .ref m9)]) hx hb d_Mo_alive_29 hl (k := 2) rfl e_15.symm (by decide) rfl (fun ls hl => ?_)
      refine lv_goto (tgt := 4) hx hb d_Mo_alive_32 (by decide) ?_
      have is_16 : v_12.toInt = n9.toInt + 0 := by rw [e_13]; exact iAddK 0 rfl (by omega) (by omega)
      have is_17 : j_14.toInt = i9.toInt + 1 := by rw [e_15]; exact iAddK 1 rfl (by omega) (by omega)
      exact ih4 (mU j_14) ls _ locs _ (by rw [hk4]; exact mU_lt (by omega)) ⟨v_12, j_14, rfl, (lv_sub hl [2, 1, 0] rfl), hH, hz, hLo, rfl, ⟨by omega, by omega, by omega, by omega⟩, (cnt_step (v := 0) I_i9.1 (by omega) e_8 c_9 hcn (by rw [if_pos hc_10]; omega))⟩
    · skip
      refine lv_iconst (v := 1) hx hb d_Mo_alive_22 (by decide) ?_
      refine lv_goto (tgt := 27) hx hb d_Mo_alive_23 (by decide) ?_
      refine lv_iadd hx hb d_Mo_alive_27 ?_
      refine lv_topi (fun v_18 e_19 => ?_)
      refine lv_istore_n (lv' := [(1, .int v_18), (0, .ref m9), (2, .int i9)]) hx hb d_Mo_alive_28 rfl hl (by decide) rfl (fun ls hl => ?_)
      obtain ⟨j_20, e_21⟩ : ∃ z : Int32, z = i9 + 1 := ⟨_, rfl⟩
      refine lv_iinc (v := j_20) (lv' := [(2, .int j_20), (1, .int v_18), (0, .ref m9)]) hx hb d_Mo_alive_29 hl (k := 2) rfl e_21.symm (by decide) rfl (fun ls hl => ?_)
      refine lv_goto (tgt := 4) hx hb d_Mo_alive_32 (by decide) ?_
      have is_22 : v_18.toInt = n9.toInt + 1 := by rw [e_19]; exact iAddK 1 rfl (by omega) (by omega)
      have is_23 : j_20.toInt = i9.toInt + 1 := by rw [e_21]; exact iAddK 1 rfl (by omega) (by omega)
      exact ih4 (mU j_20) ls _ locs _ (by rw [hk4]; exact mU_lt (by omega)) ⟨v_18, j_20, rfl, (lv_sub hl [2, 1, 0] rfl), hH, hz, hLo, rfl, ⟨by omega, by omega, by omega, by omega⟩, (cnt_step (v := 0) I_i9.1 (by omega) e_8 c_9 hcn (by rw [if_neg hc_10]; omega))⟩
