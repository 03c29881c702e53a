set_option maxRecDepth 100000 in
theorem mw_799 : Cond.code y_Mo_isMark b_Mo_isMark 4 (some .boolean) ∈ lw_g := lw_gin (List.mem_append_right _ (List.mem_of_getElem? (i := 1222) rfl)) (by decide +kernel)
set_option maxRecDepth 100000 in
theorem mw_800 : Cond.methodLink R_Mo 311 y_Mo_isMark ∈ lw_g := lw_gin (List.mem_append_right _ (List.mem_of_getElem? (i := 1219) rfl)) (by decide +kernel)
set_option maxRecDepth 100000 in
theorem mw_801 : Cond.instanceMethod y_Mo_isMark ∈ lw_g := lw_gin (List.mem_append_right _ (List.mem_of_getElem? (i := 1221) rfl)) (by decide +kernel)
set_option maxRecDepth 100000 in
theorem mw_802 : Cond.selects R_Mo y_Mo_isMark y_Mo_isMark ∈ lw_g := lw_gin (List.mem_append_left _ (List.mem_of_getElem? (i := 53) rfl)) (by decide +kernel)
set_option maxRecDepth 100000 in
theorem mw_803 : Cond.code y_Mo_markAt b_Mo_markAt 4 (some .int) ∈ lw_g := lw_gin (List.mem_append_right _ (List.mem_of_getElem? (i := 1218) rfl)) (by decide +kernel)
set_option maxRecDepth 100000 in
theorem mw_804 : Cond.methodLink R_Mo 314 y_Mo_markAt ∈ lw_g := lw_gin (List.mem_append_right _ (List.mem_of_getElem? (i := 1215) rfl)) (by decide +kernel)
set_option maxRecDepth 100000 in
theorem mw_805 : Cond.instanceMethod y_Mo_markAt ∈ lw_g := lw_gin (List.mem_append_right _ (List.mem_of_getElem? (i := 1217) rfl)) (by decide +kernel)
set_option maxRecDepth 100000 in
theorem mw_806 : Cond.selects R_Mo y_Mo_markAt y_Mo_markAt ∈ lw_g := lw_gin (List.mem_append_left _ (List.mem_of_getElem? (i := 52) rfl)) (by decide +kernel)
set_option maxRecDepth 100000 in
theorem mw_807 : Cond.code y_Mo_look b_Mo_look 2 (some .int) ∈ lw_g := lw_gin (List.mem_append_right _ (List.mem_of_getElem? (i := 1234) rfl)) (by decide +kernel)
set_option maxRecDepth 100000 in
theorem mw_808 : Cond.methodLink R_Mo 317 y_Mo_look ∈ lw_g := lw_gin (List.mem_append_right _ (List.mem_of_getElem? (i := 1231) rfl)) (by decide +kernel)
set_option maxRecDepth 100000 in
theorem mw_809 : Cond.instanceMethod y_Mo_look ∈ lw_g := lw_gin (List.mem_append_right _ (List.mem_of_getElem? (i := 1233) rfl)) (by decide +kernel)
set_option maxRecDepth 100000 in
theorem mw_810 : Cond.selects R_Mo y_Mo_look y_Mo_look ∈ lw_g := lw_gin (List.mem_append_left _ (List.mem_of_getElem? (i := 56) rfl)) (by decide +kernel)
set_option maxRecDepth 100000 in
theorem mw_811 : Cond.code y_Mo_rootAlone b_Mo_rootAlone 1 none ∈ lw_g := lw_gin (List.mem_append_right _ (List.mem_of_getElem? (i := 916) rfl)) (by decide +kernel)
set_option maxRecDepth 100000 in
theorem mw_812 : Cond.methodLink R_Mo 106 y_Mo_rootAlone ∈ lw_g := lw_gin (List.mem_append_right _ (List.mem_of_getElem? (i := 913) rfl)) (by decide +kernel)
set_option maxRecDepth 100000 in
theorem mw_813 : Cond.instanceMethod y_Mo_rootAlone ∈ lw_g := lw_gin (List.mem_append_right _ (List.mem_of_getElem? (i := 915) rfl)) (by decide +kernel)
set_option maxRecDepth 100000 in
theorem mw_814 : Cond.selects R_Mo y_Mo_rootAlone y_Mo_rootAlone ∈ lw_g := lw_gin (List.mem_append_left _ (List.mem_of_getElem? (i := 27) rfl)) (by decide +kernel)
set_option maxRecDepth 100000 in
theorem mw_815 : Cond.constant R_Mo 320 (-1000000) ∈ lw_g := lw_gin (List.mem_append_right _ (List.mem_of_getElem? (i := 1293) rfl)) (by decide +kernel)
set_option maxRecDepth 100000 in
theorem mw_816 : Cond.fieldLink R_Mo 84 "WriteOnceDiscModel" "oAbove" "[I" ∈ lw_g := lw_gin (List.mem_append_right _ (List.mem_of_getElem? (i := 952) rfl)) (by decide +kernel)
set_option maxRecDepth 100000 in
theorem mw_817 : Cond.fieldLink R_Mo 87 "WriteOnceDiscModel" "oDirectory" "[Z" ∈ lw_g := lw_gin (List.mem_append_right _ (List.mem_of_getElem? (i := 953) rfl)) (by decide +kernel)
set_option maxRecDepth 100000 in
theorem mw_818 : Cond.fieldLink R_Mo 90 "WriteOnceDiscModel" "oSize" "[I" ∈ lw_g := lw_gin (List.mem_append_right _ (List.mem_of_getElem? (i := 954) rfl)) (by decide +kernel)
set_option maxRecDepth 100000 in
theorem mw_819 : Cond.fieldLink R_Mo 93 "WriteOnceDiscModel" "oSector" "[I" ∈ lw_g := lw_gin (List.mem_append_right _ (List.mem_of_getElem? (i := 955) rfl)) (by decide +kernel)
set_option maxRecDepth 100000 in
theorem mw_820 : Cond.fieldLink R_Mo 96 "WriteOnceDiscModel" "oName" "[J" ∈ lw_g := lw_gin (List.mem_append_right _ (List.mem_of_getElem? (i := 956) rfl)) (by decide +kernel)
theorem d_Mo_isMark_0 : decode b_Mo_isMark 0 = .ok (.sipush 2048, 3) := by decide +kernel
theorem d_Mo_isMark_3 : decode b_Mo_isMark 3 = .ok (.iload_n 1, 1) := by decide +kernel
theorem d_Mo_isMark_4 : decode b_Mo_isMark 4 = .ok (.imul, 1) := by decide +kernel
theorem d_Mo_isMark_5 : decode b_Mo_isMark 5 = .ok (.istore_n 2, 1) := by decide +kernel
theorem d_Mo_isMark_6 : decode b_Mo_isMark 6 = .ok (.aload_n 0, 1) := by decide +kernel
theorem d_Mo_isMark_7 : decode b_Mo_isMark 7 = .ok (.iload_n 1, 1) := by decide +kernel
theorem d_Mo_isMark_8 : decode b_Mo_isMark 8 = .ok (.invokevirtual 260, 3) := by decide +kernel
theorem d_Mo_isMark_11 : decode b_Mo_isMark 11 = .ok (.ifCond .eq 49, 3) := by decide +kernel
theorem d_Mo_isMark_60 : decode b_Mo_isMark 60 = .ok (.iconst 0, 1) := by decide +kernel
theorem d_Mo_isMark_61 : decode b_Mo_isMark 61 = .ok (.ireturn, 1) := by decide +kernel
theorem d_Mo_isMark_14 : decode b_Mo_isMark 14 = .ok (.aload_n 0, 1) := by decide +kernel
theorem d_Mo_isMark_15 : decode b_Mo_isMark 15 = .ok (.iload_n 2, 1) := by decide +kernel
theorem d_Mo_isMark_16 : decode b_Mo_isMark 16 = .ok (.invokevirtual 225, 3) := by decide +kernel
theorem d_Mo_isMark_19 : decode b_Mo_isMark 19 = .ok (.bipush 77, 2) := by decide +kernel
theorem d_Mo_isMark_21 : decode b_Mo_isMark 21 = .ok (.if_icmp .ne 39, 3) := by decide +kernel
theorem d_Mo_isMark_24 : decode b_Mo_isMark 24 = .ok (.aload_n 0, 1) := by decide +kernel
theorem d_Mo_isMark_25 : decode b_Mo_isMark 25 = .ok (.iload_n 2, 1) := by decide +kernel
theorem d_Mo_isMark_26 : decode b_Mo_isMark 26 = .ok (.iconst 1, 1) := by decide +kernel
theorem d_Mo_isMark_27 : decode b_Mo_isMark 27 = .ok (.iadd, 1) := by decide +kernel
theorem d_Mo_isMark_28 : decode b_Mo_isMark 28 = .ok (.invokevirtual 225, 3) := by decide +kernel
theorem d_Mo_isMark_31 : decode b_Mo_isMark 31 = .ok (.bipush 65, 2) := by decide +kernel
theorem d_Mo_isMark_33 : decode b_Mo_isMark 33 = .ok (.if_icmp .ne 27, 3) := by decide +kernel
theorem d_Mo_isMark_36 : decode b_Mo_isMark 36 = .ok (.aload_n 0, 1) := by decide +kernel
theorem d_Mo_isMark_37 : decode b_Mo_isMark 37 = .ok (.iload_n 2, 1) := by decide +kernel
theorem d_Mo_isMark_38 : decode b_Mo_isMark 38 = .ok (.iconst 2, 1) := by decide +kernel
theorem d_Mo_isMark_39 : decode b_Mo_isMark 39 = .ok (.iadd, 1) := by decide +kernel
theorem d_Mo_isMark_40 : decode b_Mo_isMark 40 = .ok (.invokevirtual 225, 3) := by decide +kernel
theorem d_Mo_isMark_43 : decode b_Mo_isMark 43 = .ok (.bipush 82, 2) := by decide +kernel
theorem d_Mo_isMark_45 : decode b_Mo_isMark 45 = .ok (.if_icmp .ne 15, 3) := by decide +kernel
theorem d_Mo_isMark_48 : decode b_Mo_isMark 48 = .ok (.aload_n 0, 1) := by decide +kernel
theorem d_Mo_isMark_49 : decode b_Mo_isMark 49 = .ok (.iload_n 2, 1) := by decide +kernel
theorem d_Mo_isMark_50 : decode b_Mo_isMark 50 = .ok (.iconst 3, 1) := by decide +kernel
theorem d_Mo_isMark_51 : decode b_Mo_isMark 51 = .ok (.iadd, 1) := by decide +kernel
theorem d_Mo_isMark_52 : decode b_Mo_isMark 52 = .ok (.invokevirtual 225, 3) := by decide +kernel
theorem d_Mo_isMark_55 : decode b_Mo_isMark 55 = .ok (.bipush 75, 2) := by decide +kernel
theorem d_Mo_isMark_57 : decode b_Mo_isMark 57 = .ok (.if_icmp .eq 5, 3) := by decide +kernel
theorem d_Mo_isMark_62 : decode b_Mo_isMark 62 = .ok (.aload_n 0, 1) := by decide +kernel
theorem d_Mo_isMark_63 : decode b_Mo_isMark 63 = .ok (.iload_n 2, 1) := by decide +kernel
theorem d_Mo_isMark_64 : decode b_Mo_isMark 64 = .ok (.iconst 4, 1) := by decide +kernel
theorem d_Mo_isMark_65 : decode b_Mo_isMark 65 = .ok (.iadd, 1) := by decide +kernel
theorem d_Mo_isMark_66 : decode b_Mo_isMark 66 = .ok (.iconst 4, 1) := by decide +kernel
theorem d_Mo_isMark_67 : decode b_Mo_isMark 67 = .ok (.invokevirtual 266, 3) := by decide +kernel
theorem d_Mo_isMark_70 : decode b_Mo_isMark 70 = .ok (.istore_n 3, 1) := by decide +kernel
theorem d_Mo_isMark_71 : decode b_Mo_isMark 71 = .ok (.iload_n 3, 1) := by decide +kernel
theorem d_Mo_isMark_72 : decode b_Mo_isMark 72 = .ok (.ifCond .lt 24, 3) := by decide +kernel
theorem d_Mo_isMark_96 : decode b_Mo_isMark 96 = .ok (.iconst 0, 1) := by decide +kernel
theorem d_Mo_isMark_97 : decode b_Mo_isMark 97 = .ok (.ireturn, 1) := by decide +kernel
theorem d_Mo_isMark_75 : decode b_Mo_isMark 75 = .ok (.iload_n 3, 1) := by decide +kernel
theorem d_Mo_isMark_76 : decode b_Mo_isMark 76 = .ok (.iload_n 1, 1) := by decide +kernel
theorem d_Mo_isMark_77 : decode b_Mo_isMark 77 = .ok (.if_icmp .ge 19, 3) := by decide +kernel
theorem d_Mo_isMark_80 : decode b_Mo_isMark 80 = .ok (.aload_n 0, 1) := by decide +kernel
theorem d_Mo_isMark_81 : decode b_Mo_isMark 81 = .ok (.iload_n 2, 1) := by decide +kernel
theorem d_Mo_isMark_82 : decode b_Mo_isMark 82 = .ok (.bipush 8, 2) := by decide +kernel
theorem d_Mo_isMark_84 : decode b_Mo_isMark 84 = .ok (.iadd, 1) := by decide +kernel
theorem d_Mo_isMark_85 : decode b_Mo_isMark 85 = .ok (.iconst 4, 1) := by decide +kernel
theorem d_Mo_isMark_86 : decode b_Mo_isMark 86 = .ok (.invokevirtual 266, 3) := by decide +kernel
theorem d_Mo_isMark_89 : decode b_Mo_isMark 89 = .ok (.ifCond .le 7, 3) := by decide +kernel
theorem d_Mo_isMark_92 : decode b_Mo_isMark 92 = .ok (.iconst 1, 1) := by decide +kernel
theorem d_Mo_isMark_93 : decode b_Mo_isMark 93 = .ok (.goto 4, 3) := by decide +kernel
theorem d_Mo_markAt_0 : decode b_Mo_markAt 0 = .ok (.iload_n 1, 1) := by decide +kernel
theorem d_Mo_markAt_1 : decode b_Mo_markAt 1 = .ok (.istore_n 2, 1) := by decide +kernel
theorem d_Mo_markAt_2 : decode b_Mo_markAt 2 = .ok (.iconst 0, 1) := by decide +kernel
theorem d_Mo_markAt_3 : decode b_Mo_markAt 3 = .ok (.istore_n 3, 1) := by decide +kernel
theorem d_Mo_markAt_4 : decode b_Mo_markAt 4 = .ok (.iload_n 3, 1) := by decide +kernel
theorem d_Mo_markAt_5 : decode b_Mo_markAt 5 = .ok (.aload_n 0, 1) := by decide +kernel
theorem d_Mo_markAt_6 : decode b_Mo_markAt 6 = .ok (.getfield 99, 3) := by decide +kernel
theorem d_Mo_markAt_9 : decode b_Mo_markAt 9 = .ok (.if_icmp .ge 33, 3) := by decide +kernel
theorem d_Mo_markAt_42 : decode b_Mo_markAt 42 = .ok (.iconst (-1), 1) := by decide +kernel
theorem d_Mo_markAt_43 : decode b_Mo_markAt 43 = .ok (.ireturn, 1) := by decide +kernel
theorem d_Mo_markAt_12 : decode b_Mo_markAt 12 = .ok (.iload_n 1, 1) := by decide +kernel
theorem d_Mo_markAt_13 : decode b_Mo_markAt 13 = .ok (.ifCond .lt 29, 3) := by decide +kernel
theorem d_Mo_markAt_16 : decode b_Mo_markAt 16 = .ok (.aload_n 0, 1) := by decide +kernel
theorem d_Mo_markAt_17 : decode b_Mo_markAt 17 = .ok (.iload_n 3, 1) := by decide +kernel
theorem d_Mo_markAt_18 : decode b_Mo_markAt 18 = .ok (.invokevirtual 311, 3) := by decide +kernel
theorem d_Mo_markAt_21 : decode b_Mo_markAt 21 = .ok (.ifCond .ne 6, 3) := by decide +kernel
theorem d_Mo_markAt_24 : decode b_Mo_markAt 24 = .ok (.goto 12, 3) := by decide +kernel
theorem d_Mo_markAt_36 : decode b_Mo_markAt 36 = .ok (.iinc 3 1, 3) := by decide +kernel
theorem d_Mo_markAt_39 : decode b_Mo_markAt 39 = .ok (.goto (-35), 3) := by decide +kernel
theorem d_Mo_markAt_27 : decode b_Mo_markAt 27 = .ok (.iload_n 2, 1) := by decide +kernel
theorem d_Mo_markAt_28 : decode b_Mo_markAt 28 = .ok (.ifCond .ne 5, 3) := by decide +kernel
theorem d_Mo_markAt_33 : decode b_Mo_markAt 33 = .ok (.iinc 2 (-1), 3) := by decide +kernel
theorem d_Mo_markAt_31 : decode b_Mo_markAt 31 = .ok (.iload_n 3, 1) := by decide +kernel
theorem d_Mo_markAt_32 : decode b_Mo_markAt 32 = .ok (.ireturn, 1) := by decide +kernel
theorem d_Mo_mark_0 : decode b_Mo_mark 0 = .ok (.aload_n 0, 1) := by decide +kernel
theorem d_Mo_mark_1 : decode b_Mo_mark 1 = .ok (.iload_n 1, 1) := by decide +kernel
theorem d_Mo_mark_2 : decode b_Mo_mark 2 = .ok (.invokevirtual 314, 3) := by decide +kernel
theorem d_Mo_mark_5 : decode b_Mo_mark 5 = .ok (.istore_n 3, 1) := by decide +kernel
theorem d_Mo_mark_6 : decode b_Mo_mark 6 = .ok (.aload_n 0, 1) := by decide +kernel
theorem d_Mo_mark_7 : decode b_Mo_mark 7 = .ok (.iload_n 3, 1) := by decide +kernel
theorem d_Mo_mark_8 : decode b_Mo_mark 8 = .ok (.ifCond .lt 16, 3) := by decide +kernel
theorem d_Mo_mark_24 : decode b_Mo_mark 24 = .ok (.iconst 1, 1) := by decide +kernel
theorem d_Mo_mark_25 : decode b_Mo_mark 25 = .ok (.putfield 109, 3) := by decide +kernel
theorem d_Mo_mark_28 : decode b_Mo_mark 28 = .ok (.aload_n 0, 1) := by decide +kernel
theorem d_Mo_mark_29 : decode b_Mo_mark 29 = .ok (.getfield 109, 3) := by decide +kernel
theorem d_Mo_mark_32 : decode b_Mo_mark 32 = .ok (.iconst 1, 1) := by decide +kernel
theorem d_Mo_mark_33 : decode b_Mo_mark 33 = .ok (.if_icmp .ne 5, 3) := by decide +kernel
theorem d_Mo_mark_36 : decode b_Mo_mark 36 = .ok (.iconst 0, 1) := by decide +kernel
theorem d_Mo_mark_37 : decode b_Mo_mark 37 = .ok (.ireturn, 1) := by decide +kernel
theorem d_Mo_mark_11 : decode b_Mo_mark 11 = .ok (.iload_n 2, 1) := by decide +kernel
theorem d_Mo_mark_12 : decode b_Mo_mark 12 = .ok (.iconst 0, 1) := by decide +kernel
theorem d_Mo_mark_13 : decode b_Mo_mark 13 = .ok (.iconst 3, 1) := by decide +kernel
theorem d_Mo_mark_14 : decode b_Mo_mark 14 = .ok (.invokestatic 118, 3) := by decide +kernel
theorem d_Mo_mark_17 : decode b_Mo_mark 17 = .ok (.ifCond .eq 7, 3) := by decide +kernel
theorem d_Mo_mark_20 : decode b_Mo_mark 20 = .ok (.iconst 0, 1) := by decide +kernel
theorem d_Mo_mark_21 : decode b_Mo_mark 21 = .ok (.goto 4, 3) := by decide +kernel
theorem d_Mo_mark_38 : decode b_Mo_mark 38 = .ok (.iload_n 2, 1) := by decide +kernel
theorem d_Mo_mark_39 : decode b_Mo_mark 39 = .ok (.ifCond .ne 7, 3) := by decide +kernel
theorem d_Mo_mark_46 : decode b_Mo_mark 46 = .ok (.iload_n 2, 1) := by decide +kernel
theorem d_Mo_mark_47 : decode b_Mo_mark 47 = .ok (.iconst 1, 1) := by decide +kernel
theorem d_Mo_mark_48 : decode b_Mo_mark 48 = .ok (.if_icmp .ne 18, 3) := by decide +kernel
theorem d_Mo_mark_66 : decode b_Mo_mark 66 = .ok (.iload_n 2, 1) := by decide +kernel
theorem d_Mo_mark_67 : decode b_Mo_mark 67 = .ok (.iconst 2, 1) := by decide +kernel
theorem d_Mo_mark_68 : decode b_Mo_mark 68 = .ok (.if_icmp .ne 19, 3) := by decide +kernel
theorem d_Mo_mark_87 : decode b_Mo_mark 87 = .ok (.aload_n 0, 1) := by decide +kernel
theorem d_Mo_mark_88 : decode b_Mo_mark 88 = .ok (.aload_n 0, 1) := by decide +kernel
theorem d_Mo_mark_89 : decode b_Mo_mark 89 = .ok (.sipush 2048, 3) := by decide +kernel
theorem d_Mo_mark_92 : decode b_Mo_mark 92 = .ok (.iload_n 3, 1) := by decide +kernel
theorem d_Mo_mark_93 : decode b_Mo_mark 93 = .ok (.imul, 1) := by decide +kernel
theorem d_Mo_mark_94 : decode b_Mo_mark 94 = .ok (.iconst 4, 1) := by decide +kernel
theorem d_Mo_mark_95 : decode b_Mo_mark 95 = .ok (.iadd, 1) := by decide +kernel
theorem d_Mo_mark_96 : decode b_Mo_mark 96 = .ok (.iconst 4, 1) := by decide +kernel
theorem d_Mo_mark_97 : decode b_Mo_mark 97 = .ok (.invokevirtual 266, 3) := by decide +kernel
theorem d_Mo_mark_100 : decode b_Mo_mark 100 = .ok (.invokevirtual 317, 3) := by decide +kernel
theorem d_Mo_mark_103 : decode b_Mo_mark 103 = .ok (.ireturn, 1) := by decide +kernel
theorem d_Mo_mark_71 : decode b_Mo_mark 71 = .ok (.aload_n 0, 1) := by decide +kernel
theorem d_Mo_mark_72 : decode b_Mo_mark 72 = .ok (.sipush 2048, 3) := by decide +kernel
theorem d_Mo_mark_75 : decode b_Mo_mark 75 = .ok (.iload_n 3, 1) := by decide +kernel
theorem d_Mo_mark_76 : decode b_Mo_mark 76 = .ok (.imul, 1) := by decide +kernel
theorem d_Mo_mark_77 : decode b_Mo_mark 77 = .ok (.bipush 8, 2) := by decide +kernel
theorem d_Mo_mark_79 : decode b_Mo_mark 79 = .ok (.iadd, 1) := by decide +kernel
theorem d_Mo_mark_80 : decode b_Mo_mark 80 = .ok (.iconst 4, 1) := by decide +kernel
theorem d_Mo_mark_81 : decode b_Mo_mark 81 = .ok (.invokevirtual 266, 3) := by decide +kernel
theorem d_Mo_mark_84 : decode b_Mo_mark 84 = .ok (.goto 19, 3) := by decide +kernel
theorem d_Mo_mark_51 : decode b_Mo_mark 51 = .ok (.aload_n 0, 1) := by decide +kernel
theorem d_Mo_mark_52 : decode b_Mo_mark 52 = .ok (.sipush 2048, 3) := by decide +kernel
theorem d_Mo_mark_55 : decode b_Mo_mark 55 = .ok (.iload_n 3, 1) := by decide +kernel
theorem d_Mo_mark_56 : decode b_Mo_mark 56 = .ok (.imul, 1) := by decide +kernel
theorem d_Mo_mark_57 : decode b_Mo_mark 57 = .ok (.iconst 4, 1) := by decide +kernel
theorem d_Mo_mark_58 : decode b_Mo_mark 58 = .ok (.iadd, 1) := by decide +kernel
theorem d_Mo_mark_59 : decode b_Mo_mark 59 = .ok (.iconst 4, 1) := by decide +kernel
theorem d_Mo_mark_60 : decode b_Mo_mark 60 = .ok (.invokevirtual 266, 3) := by decide +kernel
theorem d_Mo_mark_63 : decode b_Mo_mark 63 = .ok (.goto 40, 3) := by decide +kernel
theorem d_Mo_mark_42 : decode b_Mo_mark 42 = .ok (.iload_n 3, 1) := by decide +kernel
theorem d_Mo_mark_43 : decode b_Mo_mark 43 = .ok (.goto 60, 3) := by decide +kernel
theorem d_Mo_rootAlone_0 : decode b_Mo_rootAlone 0 = .ok (.aload_n 0, 1) := by decide +kernel
theorem d_Mo_rootAlone_1 : decode b_Mo_rootAlone 1 = .ok (.iconst 1, 1) := by decide +kernel
theorem d_Mo_rootAlone_2 : decode b_Mo_rootAlone 2 = .ok (.putfield 112, 3) := by decide +kernel
theorem d_Mo_rootAlone_5 : decode b_Mo_rootAlone 5 = .ok (.aload_n 0, 1) := by decide +kernel
theorem d_Mo_rootAlone_6 : decode b_Mo_rootAlone 6 = .ok (.getfield 24, 3) := by decide +kernel
theorem d_Mo_rootAlone_9 : decode b_Mo_rootAlone 9 = .ok (.iconst 0, 1) := by decide +kernel
theorem d_Mo_rootAlone_10 : decode b_Mo_rootAlone 10 = .ok (.iconst 1, 1) := by decide +kernel
theorem d_Mo_rootAlone_11 : decode b_Mo_rootAlone 11 = .ok (.bastore, 1) := by decide +kernel
theorem d_Mo_rootAlone_12 : decode b_Mo_rootAlone 12 = .ok (.aload_n 0, 1) := by decide +kernel
theorem d_Mo_rootAlone_13 : decode b_Mo_rootAlone 13 = .ok (.getfield 27, 3) := by decide +kernel
theorem d_Mo_rootAlone_16 : decode b_Mo_rootAlone 16 = .ok (.iconst 0, 1) := by decide +kernel
theorem d_Mo_rootAlone_17 : decode b_Mo_rootAlone 17 = .ok (.iconst 1, 1) := by decide +kernel
theorem d_Mo_rootAlone_18 : decode b_Mo_rootAlone 18 = .ok (.bastore, 1) := by decide +kernel
theorem d_Mo_rootAlone_19 : decode b_Mo_rootAlone 19 = .ok (.aload_n 0, 1) := by decide +kernel
theorem d_Mo_rootAlone_20 : decode b_Mo_rootAlone 20 = .ok (.getfield 30, 3) := by decide +kernel
theorem d_Mo_rootAlone_23 : decode b_Mo_rootAlone 23 = .ok (.iconst 0, 1) := by decide +kernel
theorem d_Mo_rootAlone_24 : decode b_Mo_rootAlone 24 = .ok (.iconst (-1), 1) := by decide +kernel
theorem d_Mo_rootAlone_25 : decode b_Mo_rootAlone 25 = .ok (.iastore, 1) := by decide +kernel
theorem d_Mo_rootAlone_26 : decode b_Mo_rootAlone 26 = .ok (.aload_n 0, 1) := by decide +kernel
theorem d_Mo_rootAlone_27 : decode b_Mo_rootAlone 27 = .ok (.getfield 34, 3) := by decide +kernel
theorem d_Mo_rootAlone_30 : decode b_Mo_rootAlone 30 = .ok (.iconst 0, 1) := by decide +kernel
theorem d_Mo_rootAlone_31 : decode b_Mo_rootAlone 31 = .ok (.lconst 0, 1) := by decide +kernel
theorem d_Mo_rootAlone_32 : decode b_Mo_rootAlone 32 = .ok (.lastore, 1) := by decide +kernel
theorem d_Mo_rootAlone_33 : decode b_Mo_rootAlone 33 = .ok (.aload_n 0, 1) := by decide +kernel
theorem d_Mo_rootAlone_34 : decode b_Mo_rootAlone 34 = .ok (.getfield 38, 3) := by decide +kernel
theorem d_Mo_rootAlone_37 : decode b_Mo_rootAlone 37 = .ok (.iconst 0, 1) := by decide +kernel
theorem d_Mo_rootAlone_38 : decode b_Mo_rootAlone 38 = .ok (.iconst 0, 1) := by decide +kernel
theorem d_Mo_rootAlone_39 : decode b_Mo_rootAlone 39 = .ok (.iastore, 1) := by decide +kernel
theorem d_Mo_rootAlone_40 : decode b_Mo_rootAlone 40 = .ok (.aload_n 0, 1) := by decide +kernel
theorem d_Mo_rootAlone_41 : decode b_Mo_rootAlone 41 = .ok (.getfield 41, 3) := by decide +kernel
theorem d_Mo_rootAlone_44 : decode b_Mo_rootAlone 44 = .ok (.iconst 0, 1) := by decide +kernel
theorem d_Mo_rootAlone_45 : decode b_Mo_rootAlone 45 = .ok (.iconst 0, 1) := by decide +kernel
theorem d_Mo_rootAlone_46 : decode b_Mo_rootAlone 46 = .ok (.iastore, 1) := by decide +kernel
theorem d_Mo_rootAlone_47 : decode b_Mo_rootAlone 47 = .ok (.aload_n 0, 1) := by decide +kernel
theorem d_Mo_rootAlone_48 : decode b_Mo_rootAlone 48 = .ok (.getfield 47, 3) := by decide +kernel
theorem d_Mo_rootAlone_51 : decode b_Mo_rootAlone 51 = .ok (.iconst 0, 1) := by decide +kernel
theorem d_Mo_rootAlone_52 : decode b_Mo_rootAlone 52 = .ok (.iconst 0, 1) := by decide +kernel
theorem d_Mo_rootAlone_53 : decode b_Mo_rootAlone 53 = .ok (.iastore, 1) := by decide +kernel
theorem d_Mo_rootAlone_54 : decode b_Mo_rootAlone 54 = .ok (.return_, 1) := by decide +kernel
theorem d_Mo_discover_0 : decode b_Mo_discover 0 = .ok (.aload_n 0, 1) := by decide +kernel
theorem d_Mo_discover_1 : decode b_Mo_discover 1 = .ok (.iconst 0, 1) := by decide +kernel
theorem d_Mo_discover_2 : decode b_Mo_discover 2 = .ok (.putfield 109, 3) := by decide +kernel
theorem d_Mo_discover_5 : decode b_Mo_discover 5 = .ok (.iconst 0, 1) := by decide +kernel
theorem d_Mo_discover_6 : decode b_Mo_discover 6 = .ok (.istore_n 1, 1) := by decide +kernel
theorem d_Mo_discover_7 : decode b_Mo_discover 7 = .ok (.iconst (-1), 1) := by decide +kernel
theorem d_Mo_discover_8 : decode b_Mo_discover 8 = .ok (.istore_n 2, 1) := by decide +kernel
theorem d_Mo_discover_9 : decode b_Mo_discover 9 = .ok (.iconst 0, 1) := by decide +kernel
theorem d_Mo_discover_10 : decode b_Mo_discover 10 = .ok (.istore_n 3, 1) := by decide +kernel
theorem d_Mo_discover_11 : decode b_Mo_discover 11 = .ok (.iload_n 3, 1) := by decide +kernel
theorem d_Mo_discover_12 : decode b_Mo_discover 12 = .ok (.aload_n 0, 1) := by decide +kernel
theorem d_Mo_discover_13 : decode b_Mo_discover 13 = .ok (.getfield 99, 3) := by decide +kernel
theorem d_Mo_discover_16 : decode b_Mo_discover 16 = .ok (.if_icmp .ge 44, 3) := by decide +kernel
theorem d_Mo_discover_72 : decode b_Mo_discover 72 = .ok (.aload_n 0, 1) := by decide +kernel
theorem d_Mo_discover_73 : decode b_Mo_discover 73 = .ok (.iconst 0, 1) := by decide +kernel
theorem d_Mo_discover_74 : decode b_Mo_discover 74 = .ok (.putfield 125, 3) := by decide +kernel
theorem d_Mo_discover_77 : decode b_Mo_discover 77 = .ok (.aload_n 0, 1) := by decide +kernel
theorem d_Mo_discover_78 : decode b_Mo_discover 78 = .ok (.iconst 0, 1) := by decide +kernel
theorem d_Mo_discover_79 : decode b_Mo_discover 79 = .ok (.putfield 247, 3) := by decide +kernel
theorem d_Mo_discover_82 : decode b_Mo_discover 82 = .ok (.iconst 0, 1) := by decide +kernel
theorem d_Mo_discover_83 : decode b_Mo_discover 83 = .ok (.istore_n 3, 1) := by decide +kernel
theorem d_Mo_discover_84 : decode b_Mo_discover 84 = .ok (.iload_n 3, 1) := by decide +kernel
theorem d_Mo_discover_85 : decode b_Mo_discover 85 = .ok (.aload_n 0, 1) := by decide +kernel
theorem d_Mo_discover_86 : decode b_Mo_discover 86 = .ok (.getfield 112, 3) := by decide +kernel
theorem d_Mo_discover_89 : decode b_Mo_discover 89 = .ok (.if_icmp .ge 16, 3) := by decide +kernel
theorem d_Mo_discover_105 : decode b_Mo_discover 105 = .ok (.aload_n 0, 1) := by decide +kernel
theorem d_Mo_discover_106 : decode b_Mo_discover 106 = .ok (.invokevirtual 106, 3) := by decide +kernel
theorem d_Mo_discover_109 : decode b_Mo_discover 109 = .ok (.iload_n 2, 1) := by decide +kernel
theorem d_Mo_discover_110 : decode b_Mo_discover 110 = .ok (.ifCond .ge 5, 3) := by decide +kernel
theorem d_Mo_discover_115 : decode b_Mo_discover 115 = .ok (.aload_n 0, 1) := by decide +kernel
theorem d_Mo_discover_116 : decode b_Mo_discover 116 = .ok (.aload_n 0, 1) := by decide +kernel
theorem d_Mo_discover_117 : decode b_Mo_discover 117 = .ok (.sipush 2048, 3) := by decide +kernel
theorem d_Mo_discover_120 : decode b_Mo_discover 120 = .ok (.iload_n 2, 1) := by decide +kernel
theorem d_Mo_discover_121 : decode b_Mo_discover 121 = .ok (.imul, 1) := by decide +kernel
theorem d_Mo_discover_122 : decode b_Mo_discover 122 = .ok (.bipush 8, 2) := by decide +kernel
theorem d_Mo_discover_124 : decode b_Mo_discover 124 = .ok (.iadd, 1) := by decide +kernel
theorem d_Mo_discover_125 : decode b_Mo_discover 125 = .ok (.iconst 4, 1) := by decide +kernel
theorem d_Mo_discover_126 : decode b_Mo_discover 126 = .ok (.invokevirtual 266, 3) := by decide +kernel
theorem d_Mo_discover_129 : decode b_Mo_discover 129 = .ok (.putfield 247, 3) := by decide +kernel
theorem d_Mo_discover_132 : decode b_Mo_discover 132 = .ok (.aload_n 0, 1) := by decide +kernel
theorem d_Mo_discover_133 : decode b_Mo_discover 133 = .ok (.aload_n 0, 1) := by decide +kernel
theorem d_Mo_discover_134 : decode b_Mo_discover 134 = .ok (.aload_n 0, 1) := by decide +kernel
theorem d_Mo_discover_135 : decode b_Mo_discover 135 = .ok (.sipush 2048, 3) := by decide +kernel
theorem d_Mo_discover_138 : decode b_Mo_discover 138 = .ok (.iload_n 2, 1) := by decide +kernel
theorem d_Mo_discover_139 : decode b_Mo_discover 139 = .ok (.imul, 1) := by decide +kernel
theorem d_Mo_discover_140 : decode b_Mo_discover 140 = .ok (.iconst 4, 1) := by decide +kernel
theorem d_Mo_discover_141 : decode b_Mo_discover 141 = .ok (.iadd, 1) := by decide +kernel
theorem d_Mo_discover_142 : decode b_Mo_discover 142 = .ok (.iconst 4, 1) := by decide +kernel
theorem d_Mo_discover_143 : decode b_Mo_discover 143 = .ok (.invokevirtual 266, 3) := by decide +kernel
theorem d_Mo_discover_146 : decode b_Mo_discover 146 = .ok (.invokevirtual 317, 3) := by decide +kernel
theorem d_Mo_discover_149 : decode b_Mo_discover 149 = .ok (.putfield 112, 3) := by decide +kernel
theorem d_Mo_discover_152 : decode b_Mo_discover 152 = .ok (.iconst 1, 1) := by decide +kernel
theorem d_Mo_discover_153 : decode b_Mo_discover 153 = .ok (.istore_n 3, 1) := by decide +kernel
theorem d_Mo_discover_154 : decode b_Mo_discover 154 = .ok (.iload_n 3, 1) := by decide +kernel
theorem d_Mo_discover_155 : decode b_Mo_discover 155 = .ok (.aload_n 0, 1) := by decide +kernel
theorem d_Mo_discover_156 : decode b_Mo_discover 156 = .ok (.getfield 112, 3) := by decide +kernel
theorem d_Mo_discover_159 : decode b_Mo_discover 159 = .ok (.if_icmp .ge 129, 3) := by decide +kernel
theorem d_Mo_discover_288 : decode b_Mo_discover 288 = .ok (.iload_n 1, 1) := by decide +kernel
theorem d_Mo_discover_289 : decode b_Mo_discover 289 = .ok (.ireturn, 1) := by decide +kernel
theorem d_Mo_discover_162 : decode b_Mo_discover 162 = .ok (.aload_n 0, 1) := by decide +kernel
theorem d_Mo_discover_163 : decode b_Mo_discover 163 = .ok (.getfield 24, 3) := by decide +kernel
theorem d_Mo_discover_166 : decode b_Mo_discover 166 = .ok (.iload_n 3, 1) := by decide +kernel
theorem d_Mo_discover_167 : decode b_Mo_discover 167 = .ok (.iconst 1, 1) := by decide +kernel
theorem d_Mo_discover_168 : decode b_Mo_discover 168 = .ok (.bastore, 1) := by decide +kernel
theorem d_Mo_discover_169 : decode b_Mo_discover 169 = .ok (.aload_n 0, 1) := by decide +kernel
theorem d_Mo_discover_170 : decode b_Mo_discover 170 = .ok (.getfield 27, 3) := by decide +kernel
theorem d_Mo_discover_173 : decode b_Mo_discover 173 = .ok (.iload_n 3, 1) := by decide +kernel
theorem d_Mo_discover_174 : decode b_Mo_discover 174 = .ok (.aload_n 0, 1) := by decide +kernel
theorem d_Mo_discover_175 : decode b_Mo_discover 175 = .ok (.getfield 69, 3) := by decide +kernel
theorem d_Mo_discover_178 : decode b_Mo_discover 178 = .ok (.iload_n 3, 1) := by decide +kernel
theorem d_Mo_discover_179 : decode b_Mo_discover 179 = .ok (.baload, 1) := by decide +kernel
theorem d_Mo_discover_180 : decode b_Mo_discover 180 = .ok (.bastore, 1) := by decide +kernel
theorem d_Mo_discover_181 : decode b_Mo_discover 181 = .ok (.aload_n 0, 1) := by decide +kernel
theorem d_Mo_discover_182 : decode b_Mo_discover 182 = .ok (.getfield 30, 3) := by decide +kernel
theorem d_Mo_discover_185 : decode b_Mo_discover 185 = .ok (.iload_n 3, 1) := by decide +kernel
theorem d_Mo_discover_186 : decode b_Mo_discover 186 = .ok (.aload_n 0, 1) := by decide +kernel
theorem d_Mo_discover_187 : decode b_Mo_discover 187 = .ok (.getfield 66, 3) := by decide +kernel
theorem d_Mo_discover_190 : decode b_Mo_discover 190 = .ok (.iload_n 3, 1) := by decide +kernel
theorem d_Mo_discover_191 : decode b_Mo_discover 191 = .ok (.iaload, 1) := by decide +kernel
theorem d_Mo_discover_192 : decode b_Mo_discover 192 = .ok (.iastore, 1) := by decide +kernel
theorem d_Mo_discover_193 : decode b_Mo_discover 193 = .ok (.aload_n 0, 1) := by decide +kernel
theorem d_Mo_discover_194 : decode b_Mo_discover 194 = .ok (.getfield 34, 3) := by decide +kernel
theorem d_Mo_discover_197 : decode b_Mo_discover 197 = .ok (.iload_n 3, 1) := by decide +kernel
theorem d_Mo_discover_198 : decode b_Mo_discover 198 = .ok (.aload_n 0, 1) := by decide +kernel
theorem d_Mo_discover_199 : decode b_Mo_discover 199 = .ok (.getfield 78, 3) := by decide +kernel
theorem d_Mo_discover_202 : decode b_Mo_discover 202 = .ok (.iload_n 3, 1) := by decide +kernel
theorem d_Mo_discover_203 : decode b_Mo_discover 203 = .ok (.laload, 1) := by decide +kernel
theorem d_Mo_discover_204 : decode b_Mo_discover 204 = .ok (.lastore, 1) := by decide +kernel
theorem d_Mo_discover_205 : decode b_Mo_discover 205 = .ok (.aload_n 0, 1) := by decide +kernel
theorem d_Mo_discover_206 : decode b_Mo_discover 206 = .ok (.getfield 38, 3) := by decide +kernel
theorem d_Mo_discover_209 : decode b_Mo_discover 209 = .ok (.iload_n 3, 1) := by decide +kernel
theorem d_Mo_discover_210 : decode b_Mo_discover 210 = .ok (.aload_n 0, 1) := by decide +kernel
theorem d_Mo_discover_211 : decode b_Mo_discover 211 = .ok (.getfield 69, 3) := by decide +kernel
theorem d_Mo_discover_214 : decode b_Mo_discover 214 = .ok (.iload_n 3, 1) := by decide +kernel
theorem d_Mo_discover_215 : decode b_Mo_discover 215 = .ok (.baload, 1) := by decide +kernel
theorem d_Mo_discover_216 : decode b_Mo_discover 216 = .ok (.ifCond .eq 7, 3) := by decide +kernel
theorem d_Mo_discover_223 : decode b_Mo_discover 223 = .ok (.aload_n 0, 1) := by decide +kernel
theorem d_Mo_discover_224 : decode b_Mo_discover 224 = .ok (.getfield 72, 3) := by decide +kernel
theorem d_Mo_discover_227 : decode b_Mo_discover 227 = .ok (.iload_n 3, 1) := by decide +kernel
theorem d_Mo_discover_228 : decode b_Mo_discover 228 = .ok (.iaload, 1) := by decide +kernel
theorem d_Mo_discover_229 : decode b_Mo_discover 229 = .ok (.iastore, 1) := by decide +kernel
theorem d_Mo_discover_230 : decode b_Mo_discover 230 = .ok (.aload_n 0, 1) := by decide +kernel
theorem d_Mo_discover_231 : decode b_Mo_discover 231 = .ok (.getfield 41, 3) := by decide +kernel
theorem d_Mo_discover_234 : decode b_Mo_discover 234 = .ok (.iload_n 3, 1) := by decide +kernel
theorem d_Mo_discover_235 : decode b_Mo_discover 235 = .ok (.aload_n 0, 1) := by decide +kernel
theorem d_Mo_discover_236 : decode b_Mo_discover 236 = .ok (.getfield 69, 3) := by decide +kernel
theorem d_Mo_discover_239 : decode b_Mo_discover 239 = .ok (.iload_n 3, 1) := by decide +kernel
theorem d_Mo_discover_240 : decode b_Mo_discover 240 = .ok (.baload, 1) := by decide +kernel
theorem d_Mo_discover_241 : decode b_Mo_discover 241 = .ok (.ifCond .eq 7, 3) := by decide +kernel
theorem d_Mo_discover_248 : decode b_Mo_discover 248 = .ok (.iconst (-1), 1) := by decide +kernel
theorem d_Mo_discover_249 : decode b_Mo_discover 249 = .ok (.iastore, 1) := by decide +kernel
theorem d_Mo_discover_250 : decode b_Mo_discover 250 = .ok (.aload_n 0, 1) := by decide +kernel
theorem d_Mo_discover_251 : decode b_Mo_discover 251 = .ok (.getfield 44, 3) := by decide +kernel
theorem d_Mo_discover_254 : decode b_Mo_discover 254 = .ok (.iload_n 3, 1) := by decide +kernel
theorem d_Mo_discover_255 : decode b_Mo_discover 255 = .ok (.iconst 1, 1) := by decide +kernel
theorem d_Mo_discover_256 : decode b_Mo_discover 256 = .ok (.bastore, 1) := by decide +kernel
theorem d_Mo_discover_257 : decode b_Mo_discover 257 = .ok (.aload_n 0, 1) := by decide +kernel
theorem d_Mo_discover_258 : decode b_Mo_discover 258 = .ok (.getfield 47, 3) := by decide +kernel
theorem d_Mo_discover_261 : decode b_Mo_discover 261 = .ok (.iload_n 3, 1) := by decide +kernel
theorem d_Mo_discover_262 : decode b_Mo_discover 262 = .ok (.aload_n 0, 1) := by decide +kernel
theorem d_Mo_discover_263 : decode b_Mo_discover 263 = .ok (.getfield 69, 3) := by decide +kernel
theorem d_Mo_discover_266 : decode b_Mo_discover 266 = .ok (.iload_n 3, 1) := by decide +kernel
theorem d_Mo_discover_267 : decode b_Mo_discover 267 = .ok (.baload, 1) := by decide +kernel
theorem d_Mo_discover_268 : decode b_Mo_discover 268 = .ok (.ifCond .eq 7, 3) := by decide +kernel
theorem d_Mo_discover_275 : decode b_Mo_discover 275 = .ok (.aload_n 0, 1) := by decide +kernel
theorem d_Mo_discover_276 : decode b_Mo_discover 276 = .ok (.getfield 75, 3) := by decide +kernel
theorem d_Mo_discover_279 : decode b_Mo_discover 279 = .ok (.iload_n 3, 1) := by decide +kernel
theorem d_Mo_discover_280 : decode b_Mo_discover 280 = .ok (.iaload, 1) := by decide +kernel
theorem d_Mo_discover_281 : decode b_Mo_discover 281 = .ok (.iastore, 1) := by decide +kernel
theorem d_Mo_discover_282 : decode b_Mo_discover 282 = .ok (.iinc 3 1, 3) := by decide +kernel
theorem d_Mo_discover_285 : decode b_Mo_discover 285 = .ok (.goto (-131), 3) := by decide +kernel
theorem d_Mo_discover_219 : decode b_Mo_discover 219 = .ok (.iconst 0, 1) := by decide +kernel
theorem d_Mo_discover_220 : decode b_Mo_discover 220 = .ok (.goto 9, 3) := by decide +kernel
theorem d_Mo_discover_244 : decode b_Mo_discover 244 = .ok (.iconst 0, 1) := by decide +kernel
theorem d_Mo_discover_245 : decode b_Mo_discover 245 = .ok (.goto 4, 3) := by decide +kernel
theorem d_Mo_discover_271 : decode b_Mo_discover 271 = .ok (.iconst 0, 1) := by decide +kernel
theorem d_Mo_discover_272 : decode b_Mo_discover 272 = .ok (.goto 9, 3) := by decide +kernel
theorem d_Mo_discover_113 : decode b_Mo_discover 113 = .ok (.iconst 0, 1) := by decide +kernel
theorem d_Mo_discover_114 : decode b_Mo_discover 114 = .ok (.ireturn, 1) := by decide +kernel
theorem d_Mo_discover_92 : decode b_Mo_discover 92 = .ok (.aload_n 0, 1) := by decide +kernel
theorem d_Mo_discover_93 : decode b_Mo_discover 93 = .ok (.getfield 24, 3) := by decide +kernel
theorem d_Mo_discover_96 : decode b_Mo_discover 96 = .ok (.iload_n 3, 1) := by decide +kernel
theorem d_Mo_discover_97 : decode b_Mo_discover 97 = .ok (.iconst 0, 1) := by decide +kernel
theorem d_Mo_discover_98 : decode b_Mo_discover 98 = .ok (.bastore, 1) := by decide +kernel
theorem d_Mo_discover_99 : decode b_Mo_discover 99 = .ok (.iinc 3 1, 3) := by decide +kernel
theorem d_Mo_discover_102 : decode b_Mo_discover 102 = .ok (.goto (-18), 3) := by decide +kernel
theorem d_Mo_discover_60 : decode b_Mo_discover 60 = .ok (.aload_n 0, 1) := by decide +kernel
theorem d_Mo_discover_61 : decode b_Mo_discover 61 = .ok (.getfield 125, 3) := by decide +kernel
theorem d_Mo_discover_64 : decode b_Mo_discover 64 = .ok (.ifCond .eq 8, 3) := by decide +kernel
theorem d_Mo_discover_67 : decode b_Mo_discover 67 = .ok (.aload_n 0, 1) := by decide +kernel
theorem d_Mo_discover_68 : decode b_Mo_discover 68 = .ok (.iconst (-1), 1) := by decide +kernel
theorem d_Mo_discover_69 : decode b_Mo_discover 69 = .ok (.putfield 103, 3) := by decide +kernel
theorem d_Mo_discover_19 : decode b_Mo_discover 19 = .ok (.aload_n 0, 1) := by decide +kernel
theorem d_Mo_discover_20 : decode b_Mo_discover 20 = .ok (.iload_n 3, 1) := by decide +kernel
theorem d_Mo_discover_21 : decode b_Mo_discover 21 = .ok (.invokevirtual 311, 3) := by decide +kernel
theorem d_Mo_discover_24 : decode b_Mo_discover 24 = .ok (.ifCond .eq 30, 3) := by decide +kernel
theorem d_Mo_discover_54 : decode b_Mo_discover 54 = .ok (.iinc 3 1, 3) := by decide +kernel
theorem d_Mo_discover_57 : decode b_Mo_discover 57 = .ok (.goto (-46), 3) := by decide +kernel
theorem d_Mo_discover_27 : decode b_Mo_discover 27 = .ok (.aload_n 0, 1) := by decide +kernel
theorem d_Mo_discover_28 : decode b_Mo_discover 28 = .ok (.aload_n 0, 1) := by decide +kernel
theorem d_Mo_discover_29 : decode b_Mo_discover 29 = .ok (.sipush 2048, 3) := by decide +kernel
theorem d_Mo_discover_32 : decode b_Mo_discover 32 = .ok (.iload_n 3, 1) := by decide +kernel
theorem d_Mo_discover_33 : decode b_Mo_discover 33 = .ok (.imul, 1) := by decide +kernel
theorem d_Mo_discover_34 : decode b_Mo_discover 34 = .ok (.iconst 4, 1) := by decide +kernel
theorem d_Mo_discover_35 : decode b_Mo_discover 35 = .ok (.iadd, 1) := by decide +kernel
theorem d_Mo_discover_36 : decode b_Mo_discover 36 = .ok (.iconst 4, 1) := by decide +kernel
theorem d_Mo_discover_37 : decode b_Mo_discover 37 = .ok (.invokevirtual 266, 3) := by decide +kernel
theorem d_Mo_discover_40 : decode b_Mo_discover 40 = .ok (.invokevirtual 317, 3) := by decide +kernel
theorem d_Mo_discover_43 : decode b_Mo_discover 43 = .ok (.ifCond .ge 6, 3) := by decide +kernel
theorem d_Mo_discover_49 : decode b_Mo_discover 49 = .ok (.iinc 1 1, 3) := by decide +kernel
theorem d_Mo_discover_52 : decode b_Mo_discover 52 = .ok (.iload_n 3, 1) := by decide +kernel
theorem d_Mo_discover_53 : decode b_Mo_discover 53 = .ok (.istore_n 2, 1) := by decide +kernel
theorem d_Mo_discover_46 : decode b_Mo_discover 46 = .ok (.goto 8, 3) := by decide +kernel
theorem d_Mo_open_0 : decode b_Mo_open 0 = .ok (.aload_n 0, 1) := by decide +kernel
theorem d_Mo_open_1 : decode b_Mo_open 1 = .ok (.iconst 0, 1) := by decide +kernel
theorem d_Mo_open_2 : decode b_Mo_open 2 = .ok (.putfield 109, 3) := by decide +kernel
theorem d_Mo_open_5 : decode b_Mo_open 5 = .ok (.aload_n 0, 1) := by decide +kernel
theorem d_Mo_open_6 : decode b_Mo_open 6 = .ok (.iload_n 1, 1) := by decide +kernel
theorem d_Mo_open_7 : decode b_Mo_open 7 = .ok (.invokevirtual 314, 3) := by decide +kernel
theorem d_Mo_open_10 : decode b_Mo_open 10 = .ok (.istore_n 2, 1) := by decide +kernel
theorem d_Mo_open_11 : decode b_Mo_open 11 = .ok (.iload_n 2, 1) := by decide +kernel
theorem d_Mo_open_12 : decode b_Mo_open 12 = .ok (.ifCond .ge 7, 3) := by decide +kernel
theorem d_Mo_open_15 : decode b_Mo_open 15 = .ok (.ldc_w 320, 3) := by decide +kernel
theorem d_Mo_open_18 : decode b_Mo_open 18 = .ok (.ireturn, 1) := by decide +kernel
theorem d_Mo_open_19 : decode b_Mo_open 19 = .ok (.aload_n 0, 1) := by decide +kernel
theorem d_Mo_open_20 : decode b_Mo_open 20 = .ok (.aload_n 0, 1) := by decide +kernel
theorem d_Mo_open_21 : decode b_Mo_open 21 = .ok (.sipush 2048, 3) := by decide +kernel
theorem d_Mo_open_24 : decode b_Mo_open 24 = .ok (.iload_n 2, 1) := by decide +kernel
theorem d_Mo_open_25 : decode b_Mo_open 25 = .ok (.imul, 1) := by decide +kernel
theorem d_Mo_open_26 : decode b_Mo_open 26 = .ok (.iconst 4, 1) := by decide +kernel
theorem d_Mo_open_27 : decode b_Mo_open 27 = .ok (.iadd, 1) := by decide +kernel
theorem d_Mo_open_28 : decode b_Mo_open 28 = .ok (.iconst 4, 1) := by decide +kernel
theorem d_Mo_open_29 : decode b_Mo_open 29 = .ok (.invokevirtual 266, 3) := by decide +kernel
theorem d_Mo_open_32 : decode b_Mo_open 32 = .ok (.invokevirtual 317, 3) := by decide +kernel
theorem d_Mo_open_35 : decode b_Mo_open 35 = .ok (.istore_n 3, 1) := by decide +kernel
theorem d_Mo_open_36 : decode b_Mo_open 36 = .ok (.aload_n 0, 1) := by decide +kernel
theorem d_Mo_open_46 : decode b_Mo_open 46 = .ok (.putfield 254, 3) := by decide +kernel
theorem d_Mo_open_49 : decode b_Mo_open 49 = .ok (.iconst 0, 1) := by decide +kernel
theorem d_Mo_open_50 : decode b_Mo_open 50 = .ok (.istore 4, 2) := by decide +kernel
theorem d_Mo_open_52 : decode b_Mo_open 52 = .ok (.iload 4, 2) := by decide +kernel
theorem d_Mo_open_54 : decode b_Mo_open 54 = .ok (.aload_n 0, 1) := by decide +kernel
theorem d_Mo_open_55 : decode b_Mo_open 55 = .ok (.getfield 254, 3) := by decide +kernel
theorem d_Mo_open_58 : decode b_Mo_open 58 = .ok (.if_icmp .ge 79, 3) := by decide +kernel
theorem d_Mo_open_137 : decode b_Mo_open 137 = .ok (.iload_n 3, 1) := by decide +kernel
theorem d_Mo_open_138 : decode b_Mo_open 138 = .ok (.ireturn, 1) := by decide +kernel
theorem d_Mo_open_61 : decode b_Mo_open 61 = .ok (.aload_n 0, 1) := by decide +kernel
theorem d_Mo_open_62 : decode b_Mo_open 62 = .ok (.getfield 84, 3) := by decide +kernel
theorem d_Mo_open_65 : decode b_Mo_open 65 = .ok (.iload 4, 2) := by decide +kernel
theorem d_Mo_open_67 : decode b_Mo_open 67 = .ok (.aload_n 0, 1) := by decide +kernel
theorem d_Mo_open_68 : decode b_Mo_open 68 = .ok (.getfield 66, 3) := by decide +kernel
theorem d_Mo_open_71 : decode b_Mo_open 71 = .ok (.iload 4, 2) := by decide +kernel
theorem d_Mo_open_73 : decode b_Mo_open 73 = .ok (.iaload, 1) := by decide +kernel
theorem d_Mo_open_74 : decode b_Mo_open 74 = .ok (.iastore, 1) := by decide +kernel
theorem d_Mo_open_75 : decode b_Mo_open 75 = .ok (.aload_n 0, 1) := by decide +kernel
theorem d_Mo_open_76 : decode b_Mo_open 76 = .ok (.getfield 87, 3) := by decide +kernel
theorem d_Mo_open_79 : decode b_Mo_open 79 = .ok (.iload 4, 2) := by decide +kernel
theorem d_Mo_open_81 : decode b_Mo_open 81 = .ok (.aload_n 0, 1) := by decide +kernel
theorem d_Mo_open_82 : decode b_Mo_open 82 = .ok (.getfield 69, 3) := by decide +kernel
theorem d_Mo_open_85 : decode b_Mo_open 85 = .ok (.iload 4, 2) := by decide +kernel
theorem d_Mo_open_87 : decode b_Mo_open 87 = .ok (.baload, 1) := by decide +kernel
theorem d_Mo_open_88 : decode b_Mo_open 88 = .ok (.bastore, 1) := by decide +kernel
theorem d_Mo_open_89 : decode b_Mo_open 89 = .ok (.aload_n 0, 1) := by decide +kernel
theorem d_Mo_open_90 : decode b_Mo_open 90 = .ok (.getfield 90, 3) := by decide +kernel
theorem d_Mo_open_93 : decode b_Mo_open 93 = .ok (.iload 4, 2) := by decide +kernel
theorem d_Mo_open_95 : decode b_Mo_open 95 = .ok (.aload_n 0, 1) := by decide +kernel
theorem d_Mo_open_96 : decode b_Mo_open 96 = .ok (.getfield 72, 3) := by decide +kernel
theorem d_Mo_open_99 : decode b_Mo_open 99 = .ok (.iload 4, 2) := by decide +kernel
theorem d_Mo_open_101 : decode b_Mo_open 101 = .ok (.iaload, 1) := by decide +kernel
theorem d_Mo_open_102 : decode b_Mo_open 102 = .ok (.iastore, 1) := by decide +kernel
theorem d_Mo_open_103 : decode b_Mo_open 103 = .ok (.aload_n 0, 1) := by decide +kernel
theorem d_Mo_open_104 : decode b_Mo_open 104 = .ok (.getfield 93, 3) := by decide +kernel
theorem d_Mo_open_107 : decode b_Mo_open 107 = .ok (.iload 4, 2) := by decide +kernel
theorem d_Mo_open_109 : decode b_Mo_open 109 = .ok (.aload_n 0, 1) := by decide +kernel
theorem d_Mo_open_110 : decode b_Mo_open 110 = .ok (.getfield 75, 3) := by decide +kernel
theorem d_Mo_open_113 : decode b_Mo_open 113 = .ok (.iload 4, 2) := by decide +kernel
theorem d_Mo_open_115 : decode b_Mo_open 115 = .ok (.iaload, 1) := by decide +kernel
theorem d_Mo_open_116 : decode b_Mo_open 116 = .ok (.iastore, 1) := by decide +kernel
theorem d_Mo_open_117 : decode b_Mo_open 117 = .ok (.aload_n 0, 1) := by decide +kernel
theorem d_Mo_open_118 : decode b_Mo_open 118 = .ok (.getfield 96, 3) := by decide +kernel
theorem d_Mo_open_121 : decode b_Mo_open 121 = .ok (.iload 4, 2) := by decide +kernel
theorem d_Mo_open_123 : decode b_Mo_open 123 = .ok (.aload_n 0, 1) := by decide +kernel
theorem d_Mo_open_124 : decode b_Mo_open 124 = .ok (.getfield 78, 3) := by decide +kernel
theorem d_Mo_open_127 : decode b_Mo_open 127 = .ok (.iload 4, 2) := by decide +kernel
theorem d_Mo_open_129 : decode b_Mo_open 129 = .ok (.laload, 1) := by decide +kernel
theorem d_Mo_open_130 : decode b_Mo_open 130 = .ok (.lastore, 1) := by decide +kernel
theorem d_Mo_open_131 : decode b_Mo_open 131 = .ok (.iinc 4 1, 3) := by decide +kernel
theorem d_Mo_open_134 : decode b_Mo_open 134 = .ok (.goto (-82), 3) := by decide +kernel
theorem d_Mo_open_37 : decode b_Mo_open 37 = .ok (.iload_n 3, 1) := by decide +kernel
theorem d_Mo_open_38 : decode b_Mo_open 38 = .ok (.ifCond .ge 7, 3) := by decide +kernel
theorem d_Mo_open_45 : decode b_Mo_open 45 = .ok (.iload_n 3, 1) := by decide +kernel
theorem d_Mo_open_41 : decode b_Mo_open 41 = .ok (.iconst 0, 1) := by decide +kernel
theorem d_Mo_open_42 : decode b_Mo_open 42 = .ok (.goto 4, 3) := by decide +kernel
theorem d_Mo_node_0 : decode b_Mo_node 0 = .ok (.aload_n 0, 1) := by decide +kernel
theorem d_Mo_node_1 : decode b_Mo_node 1 = .ok (.iload_n 1, 1) := by decide +kernel
theorem d_Mo_node_2 : decode b_Mo_node 2 = .ok (.iconst 0, 1) := by decide +kernel
theorem d_Mo_node_3 : decode b_Mo_node 3 = .ok (.aload_n 0, 1) := by decide +kernel
theorem d_Mo_node_4 : decode b_Mo_node 4 = .ok (.getfield 254, 3) := by decide +kernel
theorem d_Mo_node_7 : decode b_Mo_node 7 = .ok (.iconst 1, 1) := by decide +kernel
theorem d_Mo_node_8 : decode b_Mo_node 8 = .ok (.isub, 1) := by decide +kernel
theorem d_Mo_node_9 : decode b_Mo_node 9 = .ok (.invokestatic 118, 3) := by decide +kernel
theorem d_Mo_node_12 : decode b_Mo_node 12 = .ok (.ifCond .eq 16, 3) := by decide +kernel
theorem d_Mo_node_28 : decode b_Mo_node 28 = .ok (.iconst 1, 1) := by decide +kernel
theorem d_Mo_node_29 : decode b_Mo_node 29 = .ok (.putfield 109, 3) := by decide +kernel
theorem d_Mo_node_32 : decode b_Mo_node 32 = .ok (.aload_n 0, 1) := by decide +kernel
theorem d_Mo_node_33 : decode b_Mo_node 33 = .ok (.getfield 109, 3) := by decide +kernel
theorem d_Mo_node_36 : decode b_Mo_node 36 = .ok (.iconst 1, 1) := by decide +kernel
theorem d_Mo_node_37 : decode b_Mo_node 37 = .ok (.if_icmp .ne 5, 3) := by decide +kernel
theorem d_Mo_node_40 : decode b_Mo_node 40 = .ok (.iconst 0, 1) := by decide +kernel
theorem d_Mo_node_41 : decode b_Mo_node 41 = .ok (.ireturn, 1) := by decide +kernel
theorem d_Mo_node_15 : decode b_Mo_node 15 = .ok (.iload_n 2, 1) := by decide +kernel
theorem d_Mo_node_16 : decode b_Mo_node 16 = .ok (.iconst 0, 1) := by decide +kernel
theorem d_Mo_node_17 : decode b_Mo_node 17 = .ok (.iconst 3, 1) := by decide +kernel
theorem d_Mo_node_18 : decode b_Mo_node 18 = .ok (.invokestatic 118, 3) := by decide +kernel
theorem d_Mo_node_21 : decode b_Mo_node 21 = .ok (.ifCond .eq 7, 3) := by decide +kernel
theorem d_Mo_node_24 : decode b_Mo_node 24 = .ok (.iconst 0, 1) := by decide +kernel
theorem d_Mo_node_25 : decode b_Mo_node 25 = .ok (.goto 4, 3) := by decide +kernel
theorem d_Mo_node_42 : decode b_Mo_node 42 = .ok (.iload_n 2, 1) := by decide +kernel
theorem d_Mo_node_43 : decode b_Mo_node 43 = .ok (.ifCond .ne 12, 3) := by decide +kernel
theorem d_Mo_node_55 : decode b_Mo_node 55 = .ok (.iload_n 2, 1) := by decide +kernel
theorem d_Mo_node_56 : decode b_Mo_node 56 = .ok (.iconst 1, 1) := by decide +kernel
theorem d_Mo_node_57 : decode b_Mo_node 57 = .ok (.if_icmp .ne 20, 3) := by decide +kernel
theorem d_Mo_node_77 : decode b_Mo_node 77 = .ok (.iload_n 2, 1) := by decide +kernel
theorem d_Mo_node_78 : decode b_Mo_node 78 = .ok (.iconst 2, 1) := by decide +kernel
theorem d_Mo_node_79 : decode b_Mo_node 79 = .ok (.if_icmp .ne 12, 3) := by decide +kernel
theorem d_Mo_node_91 : decode b_Mo_node 91 = .ok (.aload_n 0, 1) := by decide +kernel
theorem d_Mo_node_92 : decode b_Mo_node 92 = .ok (.getfield 93, 3) := by decide +kernel
theorem d_Mo_node_95 : decode b_Mo_node 95 = .ok (.iload_n 1, 1) := by decide +kernel
theorem d_Mo_node_96 : decode b_Mo_node 96 = .ok (.iaload, 1) := by decide +kernel
theorem d_Mo_node_97 : decode b_Mo_node 97 = .ok (.ireturn, 1) := by decide +kernel
theorem d_Mo_node_82 : decode b_Mo_node 82 = .ok (.aload_n 0, 1) := by decide +kernel
theorem d_Mo_node_83 : decode b_Mo_node 83 = .ok (.getfield 90, 3) := by decide +kernel
theorem d_Mo_node_86 : decode b_Mo_node 86 = .ok (.iload_n 1, 1) := by decide +kernel
theorem d_Mo_node_87 : decode b_Mo_node 87 = .ok (.iaload, 1) := by decide +kernel
theorem d_Mo_node_88 : decode b_Mo_node 88 = .ok (.goto 9, 3) := by decide +kernel
theorem d_Mo_node_60 : decode b_Mo_node 60 = .ok (.aload_n 0, 1) := by decide +kernel
theorem d_Mo_node_61 : decode b_Mo_node 61 = .ok (.getfield 87, 3) := by decide +kernel
theorem d_Mo_node_64 : decode b_Mo_node 64 = .ok (.iload_n 1, 1) := by decide +kernel
theorem d_Mo_node_65 : decode b_Mo_node 65 = .ok (.baload, 1) := by decide +kernel
theorem d_Mo_node_66 : decode b_Mo_node 66 = .ok (.ifCond .eq 7, 3) := by decide +kernel
theorem d_Mo_node_73 : decode b_Mo_node 73 = .ok (.iconst 1, 1) := by decide +kernel
theorem d_Mo_node_74 : decode b_Mo_node 74 = .ok (.goto 23, 3) := by decide +kernel
theorem d_Mo_node_69 : decode b_Mo_node 69 = .ok (.iconst 0, 1) := by decide +kernel
theorem d_Mo_node_70 : decode b_Mo_node 70 = .ok (.goto 27, 3) := by decide +kernel
theorem d_Mo_node_46 : decode b_Mo_node 46 = .ok (.aload_n 0, 1) := by decide +kernel
theorem d_Mo_node_47 : decode b_Mo_node 47 = .ok (.getfield 84, 3) := by decide +kernel
theorem d_Mo_node_50 : decode b_Mo_node 50 = .ok (.iload_n 1, 1) := by decide +kernel
theorem d_Mo_node_51 : decode b_Mo_node 51 = .ok (.iaload, 1) := by decide +kernel
theorem d_Mo_node_52 : decode b_Mo_node 52 = .ok (.goto 45, 3) := by decide +kernel
theorem d_Mo_name_0 : decode b_Mo_name 0 = .ok (.aload_n 0, 1) := by decide +kernel
theorem d_Mo_name_1 : decode b_Mo_name 1 = .ok (.iload_n 1, 1) := by decide +kernel
theorem d_Mo_name_2 : decode b_Mo_name 2 = .ok (.iconst 0, 1) := by decide +kernel
theorem d_Mo_name_3 : decode b_Mo_name 3 = .ok (.aload_n 0, 1) := by decide +kernel
theorem d_Mo_name_4 : decode b_Mo_name 4 = .ok (.getfield 254, 3) := by decide +kernel
theorem d_Mo_name_7 : decode b_Mo_name 7 = .ok (.iconst 1, 1) := by decide +kernel
theorem d_Mo_name_8 : decode b_Mo_name 8 = .ok (.isub, 1) := by decide +kernel
theorem d_Mo_name_9 : decode b_Mo_name 9 = .ok (.invokestatic 118, 3) := by decide +kernel
theorem d_Mo_name_12 : decode b_Mo_name 12 = .ok (.ifCond .eq 7, 3) := by decide +kernel
theorem d_Mo_name_19 : decode b_Mo_name 19 = .ok (.iconst 1, 1) := by decide +kernel
theorem d_Mo_name_20 : decode b_Mo_name 20 = .ok (.putfield 109, 3) := by decide +kernel
theorem d_Mo_name_23 : decode b_Mo_name 23 = .ok (.aload_n 0, 1) := by decide +kernel
theorem d_Mo_name_24 : decode b_Mo_name 24 = .ok (.getfield 109, 3) := by decide +kernel
theorem d_Mo_name_27 : decode b_Mo_name 27 = .ok (.iconst 1, 1) := by decide +kernel
theorem d_Mo_name_28 : decode b_Mo_name 28 = .ok (.if_icmp .ne 7, 3) := by decide +kernel
theorem d_Mo_name_31 : decode b_Mo_name 31 = .ok (.lconst 0, 1) := by decide +kernel
theorem d_Mo_name_32 : decode b_Mo_name 32 = .ok (.goto 9, 3) := by decide +kernel
theorem d_Mo_name_41 : decode b_Mo_name 41 = .ok (.lreturn, 1) := by decide +kernel
theorem d_Mo_name_15 : decode b_Mo_name 15 = .ok (.iconst 0, 1) := by decide +kernel
theorem d_Mo_name_16 : decode b_Mo_name 16 = .ok (.goto 4, 3) := by decide +kernel
theorem d_Mo_name_35 : decode b_Mo_name 35 = .ok (.aload_n 0, 1) := by decide +kernel
theorem d_Mo_name_36 : decode b_Mo_name 36 = .ok (.getfield 96, 3) := by decide +kernel
theorem d_Mo_name_39 : decode b_Mo_name 39 = .ok (.iload_n 1, 1) := by decide +kernel
theorem d_Mo_name_40 : decode b_Mo_name 40 = .ok (.laload, 1) := by decide +kernel
theorem d_Mo_read_0 : decode b_Mo_read 0 = .ok (.aload_n 0, 1) := by decide +kernel
theorem d_Mo_read_1 : decode b_Mo_read 1 = .ok (.iload_n 1, 1) := by decide +kernel
theorem d_Mo_read_2 : decode b_Mo_read 2 = .ok (.iconst 0, 1) := by decide +kernel
theorem d_Mo_read_3 : decode b_Mo_read 3 = .ok (.aload_n 0, 1) := by decide +kernel
theorem d_Mo_read_4 : decode b_Mo_read 4 = .ok (.getfield 254, 3) := by decide +kernel
theorem d_Mo_read_7 : decode b_Mo_read 7 = .ok (.iconst 1, 1) := by decide +kernel
theorem d_Mo_read_8 : decode b_Mo_read 8 = .ok (.isub, 1) := by decide +kernel
theorem d_Mo_read_9 : decode b_Mo_read 9 = .ok (.invokestatic 118, 3) := by decide +kernel
theorem d_Mo_read_12 : decode b_Mo_read 12 = .ok (.ifCond .eq 32, 3) := by decide +kernel
theorem d_Mo_read_44 : decode b_Mo_read 44 = .ok (.iconst 1, 1) := by decide +kernel
theorem d_Mo_read_45 : decode b_Mo_read 45 = .ok (.putfield 109, 3) := by decide +kernel
theorem d_Mo_read_48 : decode b_Mo_read 48 = .ok (.aload_n 0, 1) := by decide +kernel
theorem d_Mo_read_49 : decode b_Mo_read 49 = .ok (.getfield 109, 3) := by decide +kernel
theorem d_Mo_read_52 : decode b_Mo_read 52 = .ok (.iconst 1, 1) := by decide +kernel
theorem d_Mo_read_53 : decode b_Mo_read 53 = .ok (.if_icmp .ne 7, 3) := by decide +kernel
theorem d_Mo_read_56 : decode b_Mo_read 56 = .ok (.iconst 0, 1) := by decide +kernel
theorem d_Mo_read_57 : decode b_Mo_read 57 = .ok (.goto 19, 3) := by decide +kernel
theorem d_Mo_read_76 : decode b_Mo_read 76 = .ok (.ireturn, 1) := by decide +kernel
theorem d_Mo_read_15 : decode b_Mo_read 15 = .ok (.aload_n 0, 1) := by decide +kernel
theorem d_Mo_read_16 : decode b_Mo_read 16 = .ok (.getfield 87, 3) := by decide +kernel
theorem d_Mo_read_19 : decode b_Mo_read 19 = .ok (.iload_n 1, 1) := by decide +kernel
theorem d_Mo_read_20 : decode b_Mo_read 20 = .ok (.baload, 1) := by decide +kernel
theorem d_Mo_read_21 : decode b_Mo_read 21 = .ok (.ifCond .ne 23, 3) := by decide +kernel
theorem d_Mo_read_24 : decode b_Mo_read 24 = .ok (.iload_n 2, 1) := by decide +kernel
theorem d_Mo_read_25 : decode b_Mo_read 25 = .ok (.iconst 0, 1) := by decide +kernel
theorem d_Mo_read_26 : decode b_Mo_read 26 = .ok (.aload_n 0, 1) := by decide +kernel
theorem d_Mo_read_27 : decode b_Mo_read 27 = .ok (.getfield 90, 3) := by decide +kernel
theorem d_Mo_read_30 : decode b_Mo_read 30 = .ok (.iload_n 1, 1) := by decide +kernel
theorem d_Mo_read_31 : decode b_Mo_read 31 = .ok (.iaload, 1) := by decide +kernel
theorem d_Mo_read_32 : decode b_Mo_read 32 = .ok (.iconst 1, 1) := by decide +kernel
theorem d_Mo_read_33 : decode b_Mo_read 33 = .ok (.isub, 1) := by decide +kernel
theorem d_Mo_read_34 : decode b_Mo_read 34 = .ok (.invokestatic 118, 3) := by decide +kernel
theorem d_Mo_read_37 : decode b_Mo_read 37 = .ok (.ifCond .eq 7, 3) := by decide +kernel
theorem d_Mo_read_40 : decode b_Mo_read 40 = .ok (.iconst 0, 1) := by decide +kernel
theorem d_Mo_read_41 : decode b_Mo_read 41 = .ok (.goto 4, 3) := by decide +kernel
theorem d_Mo_read_60 : decode b_Mo_read 60 = .ok (.aload_n 0, 1) := by decide +kernel
theorem d_Mo_read_61 : decode b_Mo_read 61 = .ok (.sipush 2048, 3) := by decide +kernel
theorem d_Mo_read_64 : decode b_Mo_read 64 = .ok (.aload_n 0, 1) := by decide +kernel
theorem d_Mo_read_65 : decode b_Mo_read 65 = .ok (.getfield 93, 3) := by decide +kernel
theorem d_Mo_read_68 : decode b_Mo_read 68 = .ok (.iload_n 1, 1) := by decide +kernel
theorem d_Mo_read_69 : decode b_Mo_read 69 = .ok (.iaload, 1) := by decide +kernel
theorem d_Mo_read_70 : decode b_Mo_read 70 = .ok (.imul, 1) := by decide +kernel
theorem d_Mo_read_71 : decode b_Mo_read 71 = .ok (.iload_n 2, 1) := by decide +kernel
theorem d_Mo_read_72 : decode b_Mo_read 72 = .ok (.iadd, 1) := by decide +kernel
theorem d_Mo_read_73 : decode b_Mo_read 73 = .ok (.invokevirtual 225, 3) := by decide +kernel
theorem d_Mo_state_0 : decode b_Mo_state 0 = .ok (.aload_n 0, 1) := by decide +kernel
theorem d_Mo_state_1 : decode b_Mo_state 1 = .ok (.iconst 0, 1) := by decide +kernel
theorem d_Mo_state_2 : decode b_Mo_state 2 = .ok (.putfield 109, 3) := by decide +kernel
theorem d_Mo_state_5 : decode b_Mo_state 5 = .ok (.iload_n 1, 1) := by decide +kernel
theorem d_Mo_state_6 : decode b_Mo_state 6 = .ok (.iconst 0, 1) := by decide +kernel
theorem d_Mo_state_7 : decode b_Mo_state 7 = .ok (.aload_n 0, 1) := by decide +kernel
theorem d_Mo_state_8 : decode b_Mo_state 8 = .ok (.getfield 99, 3) := by decide +kernel
theorem d_Mo_state_11 : decode b_Mo_state 11 = .ok (.iconst 1, 1) := by decide +kernel
theorem d_Mo_state_12 : decode b_Mo_state 12 = .ok (.isub, 1) := by decide +kernel
theorem d_Mo_state_13 : decode b_Mo_state 13 = .ok (.invokestatic 118, 3) := by decide +kernel
theorem d_Mo_state_16 : decode b_Mo_state 16 = .ok (.ifCond .eq 17, 3) := by decide +kernel
theorem d_Mo_state_33 : decode b_Mo_state 33 = .ok (.iconst (-1), 1) := by decide +kernel
theorem d_Mo_state_34 : decode b_Mo_state 34 = .ok (.ireturn, 1) := by decide +kernel
theorem d_Mo_state_19 : decode b_Mo_state 19 = .ok (.aload_n 0, 1) := by decide +kernel
theorem d_Mo_state_20 : decode b_Mo_state 20 = .ok (.getfield 14, 3) := by decide +kernel
theorem d_Mo_state_23 : decode b_Mo_state 23 = .ok (.aload_n 0, 1) := by decide +kernel
theorem d_Mo_state_24 : decode b_Mo_state 24 = .ok (.getfield 115, 3) := by decide +kernel
theorem d_Mo_state_27 : decode b_Mo_state 27 = .ok (.iload_n 1, 1) := by decide +kernel
theorem d_Mo_state_28 : decode b_Mo_state 28 = .ok (.iadd, 1) := by decide +kernel
theorem d_Mo_state_29 : decode b_Mo_state 29 = .ok (.baload, 1) := by decide +kernel
theorem d_Mo_state_30 : decode b_Mo_state 30 = .ok (.goto 4, 3) := by decide +kernel
theorem d_Mo_byteAt_0 : decode b_Mo_byteAt 0 = .ok (.aload_n 0, 1) := by decide +kernel
theorem d_Mo_byteAt_1 : decode b_Mo_byteAt 1 = .ok (.iconst 0, 1) := by decide +kernel
theorem d_Mo_byteAt_2 : decode b_Mo_byteAt 2 = .ok (.putfield 109, 3) := by decide +kernel
theorem d_Mo_byteAt_5 : decode b_Mo_byteAt 5 = .ok (.iload_n 1, 1) := by decide +kernel
theorem d_Mo_byteAt_6 : decode b_Mo_byteAt 6 = .ok (.iconst 0, 1) := by decide +kernel
theorem d_Mo_byteAt_7 : decode b_Mo_byteAt 7 = .ok (.sipush 2048, 3) := by decide +kernel
theorem d_Mo_byteAt_10 : decode b_Mo_byteAt 10 = .ok (.aload_n 0, 1) := by decide +kernel
theorem d_Mo_byteAt_11 : decode b_Mo_byteAt 11 = .ok (.getfield 99, 3) := by decide +kernel
theorem d_Mo_byteAt_14 : decode b_Mo_byteAt 14 = .ok (.imul, 1) := by decide +kernel
theorem d_Mo_byteAt_15 : decode b_Mo_byteAt 15 = .ok (.iconst 1, 1) := by decide +kernel
theorem d_Mo_byteAt_16 : decode b_Mo_byteAt 16 = .ok (.isub, 1) := by decide +kernel
theorem d_Mo_byteAt_17 : decode b_Mo_byteAt 17 = .ok (.invokestatic 118, 3) := by decide +kernel
theorem d_Mo_byteAt_20 : decode b_Mo_byteAt 20 = .ok (.ifCond .eq 11, 3) := by decide +kernel
theorem d_Mo_byteAt_31 : decode b_Mo_byteAt 31 = .ok (.iconst (-1), 1) := by decide +kernel
theorem d_Mo_byteAt_32 : decode b_Mo_byteAt 32 = .ok (.ireturn, 1) := by decide +kernel
theorem d_Mo_byteAt_23 : decode b_Mo_byteAt 23 = .ok (.aload_n 0, 1) := by decide +kernel
theorem d_Mo_byteAt_24 : decode b_Mo_byteAt 24 = .ok (.iload_n 1, 1) := by decide +kernel
theorem d_Mo_byteAt_25 : decode b_Mo_byteAt 25 = .ok (.invokevirtual 225, 3) := by decide +kernel
theorem d_Mo_byteAt_28 : decode b_Mo_byteAt 28 = .ok (.goto 4, 3) := by decide +kernel
theorem d_Mo_spoil_0 : decode b_Mo_spoil 0 = .ok (.aload_n 0, 1) := by decide +kernel
theorem d_Mo_spoil_1 : decode b_Mo_spoil 1 = .ok (.iconst 0, 1) := by decide +kernel
theorem d_Mo_spoil_2 : decode b_Mo_spoil 2 = .ok (.putfield 109, 3) := by decide +kernel
theorem d_Mo_spoil_5 : decode b_Mo_spoil 5 = .ok (.iload_n 1, 1) := by decide +kernel
theorem d_Mo_spoil_6 : decode b_Mo_spoil 6 = .ok (.iconst 0, 1) := by decide +kernel
theorem d_Mo_spoil_7 : decode b_Mo_spoil 7 = .ok (.sipush 2048, 3) := by decide +kernel
theorem d_Mo_spoil_10 : decode b_Mo_spoil 10 = .ok (.aload_n 0, 1) := by decide +kernel
theorem d_Mo_spoil_11 : decode b_Mo_spoil 11 = .ok (.getfield 99, 3) := by decide +kernel
theorem d_Mo_spoil_14 : decode b_Mo_spoil 14 = .ok (.imul, 1) := by decide +kernel
theorem d_Mo_spoil_15 : decode b_Mo_spoil 15 = .ok (.iconst 1, 1) := by decide +kernel
theorem d_Mo_spoil_16 : decode b_Mo_spoil 16 = .ok (.isub, 1) := by decide +kernel
theorem d_Mo_spoil_17 : decode b_Mo_spoil 17 = .ok (.invokestatic 118, 3) := by decide +kernel
theorem d_Mo_spoil_20 : decode b_Mo_spoil 20 = .ok (.ifCond .eq 22, 3) := by decide +kernel
theorem d_Mo_spoil_42 : decode b_Mo_spoil 42 = .ok (.iconst (-1), 1) := by decide +kernel
theorem d_Mo_spoil_43 : decode b_Mo_spoil 43 = .ok (.ireturn, 1) := by decide +kernel
theorem d_Mo_spoil_23 : decode b_Mo_spoil 23 = .ok (.aload_n 0, 1) := by decide +kernel
theorem d_Mo_spoil_24 : decode b_Mo_spoil 24 = .ok (.getfield 14, 3) := by decide +kernel
theorem d_Mo_spoil_27 : decode b_Mo_spoil 27 = .ok (.aload_n 0, 1) := by decide +kernel
theorem d_Mo_spoil_28 : decode b_Mo_spoil 28 = .ok (.getfield 115, 3) := by decide +kernel
theorem d_Mo_spoil_31 : decode b_Mo_spoil 31 = .ok (.iload_n 1, 1) := by decide +kernel
theorem d_Mo_spoil_32 : decode b_Mo_spoil 32 = .ok (.sipush 2048, 3) := by decide +kernel
theorem d_Mo_spoil_35 : decode b_Mo_spoil 35 = .ok (.idiv, 1) := by decide +kernel
theorem d_Mo_spoil_36 : decode b_Mo_spoil 36 = .ok (.iadd, 1) := by decide +kernel
theorem d_Mo_spoil_37 : decode b_Mo_spoil 37 = .ok (.baload, 1) := by decide +kernel
theorem d_Mo_spoil_38 : decode b_Mo_spoil 38 = .ok (.iconst 1, 1) := by decide +kernel
theorem d_Mo_spoil_39 : decode b_Mo_spoil 39 = .ok (.if_icmp .eq 5, 3) := by decide +kernel
theorem d_Mo_spoil_44 : decode b_Mo_spoil 44 = .ok (.aload_n 0, 1) := by decide +kernel
theorem d_Mo_spoil_45 : decode b_Mo_spoil 45 = .ok (.iload_n 1, 1) := by decide +kernel
theorem d_Mo_spoil_46 : decode b_Mo_spoil 46 = .ok (.invokevirtual 225, 3) := by decide +kernel
theorem d_Mo_spoil_49 : decode b_Mo_spoil 49 = .ok (.istore_n 3, 1) := by decide +kernel
theorem d_Mo_spoil_50 : decode b_Mo_spoil 50 = .ok (.aload_n 0, 1) := by decide +kernel
theorem d_Mo_spoil_51 : decode b_Mo_spoil 51 = .ok (.getfield 8, 3) := by decide +kernel
theorem d_Mo_spoil_54 : decode b_Mo_spoil 54 = .ok (.sipush 2048, 3) := by decide +kernel
theorem d_Mo_spoil_57 : decode b_Mo_spoil 57 = .ok (.aload_n 0, 1) := by decide +kernel
theorem d_Mo_spoil_58 : decode b_Mo_spoil 58 = .ok (.getfield 115, 3) := by decide +kernel
theorem d_Mo_spoil_61 : decode b_Mo_spoil 61 = .ok (.imul, 1) := by decide +kernel
theorem d_Mo_spoil_62 : decode b_Mo_spoil 62 = .ok (.iload_n 1, 1) := by decide +kernel
theorem d_Mo_spoil_63 : decode b_Mo_spoil 63 = .ok (.iadd, 1) := by decide +kernel
theorem d_Mo_spoil_64 : decode b_Mo_spoil 64 = .ok (.iload_n 2, 1) := by decide +kernel
theorem d_Mo_spoil_65 : decode b_Mo_spoil 65 = .ok (.i2b, 1) := by decide +kernel
theorem d_Mo_spoil_66 : decode b_Mo_spoil 66 = .ok (.bastore, 1) := by decide +kernel
theorem d_Mo_spoil_67 : decode b_Mo_spoil 67 = .ok (.iload_n 3, 1) := by decide +kernel
theorem d_Mo_spoil_68 : decode b_Mo_spoil 68 = .ok (.ireturn, 1) := by decide +kernel
theorem d_Mo_writes_0 : decode b_Mo_writes 0 = .ok (.aload_n 0, 1) := by decide +kernel
theorem d_Mo_writes_1 : decode b_Mo_writes 1 = .ok (.iconst 0, 1) := by decide +kernel
theorem d_Mo_writes_2 : decode b_Mo_writes 2 = .ok (.putfield 109, 3) := by decide +kernel
theorem d_Mo_writes_5 : decode b_Mo_writes 5 = .ok (.aload_n 0, 1) := by decide +kernel
theorem d_Mo_writes_6 : decode b_Mo_writes 6 = .ok (.getfield 122, 3) := by decide +kernel
theorem d_Mo_writes_9 : decode b_Mo_writes 9 = .ok (.ireturn, 1) := by decide +kernel
/-! MY OWN ROWS: what is discovered, what is opened -/
theorem orP {a : Int32} {P : Prop} (h : a = -1 ∨ P) (h0 : 0 ≤ a.toInt) : P := h.resolve_left (fun z => by rw [z] at h0; exact absurd h0 (by decide))
theorem root_t {it pa : Nat → Int32} {m : Int32} (h0 : it 0 = 1) (hm : m = 1) : treeM it pa m.toInt.toNat := by
  rw [hm]
  exact treeM_rank (m := 1) (by decide) (fun a ha => by
    obtain rfl : a = 0 := by omega
    exact ⟨h0, fun z => absurd rfl z⟩)
theorem root_e {it di sz iw ex : Nat → Int32} {m : Int32} {n : Nat} (h0 : di 0 = 1) (hm : m = 1) : exM it di sz iw ex m.toInt.toNat n := by
  rw [hm]
  intro k hk h1 h2
  obtain rfl : k = 0 := by
    have : k < 1 := hk
    omega
  rw [h0] at h2
  exact absurd h2 (by decide)
theorem look_s {ab sz sc : Nat → Int32} {n : Nat} {r se : Int32} (h : r.toInt < 0 ∨ (r = se ∧ seQ ab sz sc se.toInt.toNat n)) : seQ ab sz sc r.toInt.toNat n := by
  rcases h with h | ⟨rfl, h⟩
  · rw [show r.toInt.toNat = 0 by omega]
    exact seQ_0
  · exact h
theorem look_30 {P : Prop} {r se : Int32} (h : r.toInt < 0 ∨ (r = se ∧ P)) (hs : se.toInt ≤ 30) : r.toInt ≤ 30 := by
  rcases h with h | ⟨rfl, -⟩
  · omega
  · exact hs
/-- the tree as it is copied from what was read -/
def dcQ (it di pa sz ex ab sz0 sc : Nat → Int32) (i : Nat) : Prop := (it 0 = 1 ∧ di 0 = 1) ∧ ∀ k, 1 ≤ k → k < i → it k = 1 ∧ pa k = ab k ∧ (di k = 0 → sz k = sz0 k ∧ ex k = sc k)
theorem dc_0 {it di pa sz ex ab sz0 sc : Nat → Int32} (h1 : it 0 = 1) (h2 : di 0 = 1) : dcQ it di pa sz ex ab sz0 sc 1 := ⟨⟨h1, h2⟩, fun k a b => absurd b (by omega)⟩
theorem dc_s {it di pa sz ex ab sz0 sc it' di' pa' sz' ex' : Nat → Int32} {i j d p s x : Int32} (hD : dcQ it di pa sz ex ab sz0 sc i.toInt.toNat) (h1 : 1 ≤ i.toInt) (hj : j.toInt = i.toInt + 1) (e4 : it' = upd it i.toNatClampNeg 1) (e5 : di' = upd di i.toNatClampNeg d) (e6 : pa' = upd pa i.toNatClampNeg p) (e8 : sz' = upd sz i.toNatClampNeg s) (e11 : ex' = upd ex i.toNatClampNeg x) (hp : p = ab i.toNatClampNeg) (hd : d = 0 → s = sz0 i.toNatClampNeg ∧ x = sc i.toNatClampNeg) : dcQ it' di' pa' sz' ex' ab sz0 sc j.toInt.toNat := by
  rw [clN] at e4 e5 e6 e8 e11
  refine ⟨⟨by rw [e4, upd_n _ (by omega)]; exact hD.1.1, by rw [e5, upd_n _ (by omega)]; exact hD.1.2⟩, fun k a b => ?_⟩
  by_cases h : k = i.toInt.toNat
  · subst h
    rw [e4, e5, e6, e8, e11, upd_s, upd_s, upd_s, upd_s, upd_s]
    exact ⟨rfl, hp, hd⟩
  · rw [e4, e5, e6, e8, e11, upd_n _ h, upd_n _ h, upd_n _ h, upd_n _ h, upd_n _ h]
    exact hD.2 k a (by omega)
theorem dc_t {it di pa sz ex ab sz0 sc : Nat → Int32} {i m n : Nat} (hD : dcQ it di pa sz ex ab sz0 sc i) (hS : seQ ab sz0 sc m n) (hm : m ≤ i) (h30 : m ≤ 30) : treeM it pa m := treeM_rank h30 (fun a ha => by
  by_cases h0 : a = 0
  · subst h0
    exact ⟨hD.1.1, fun z => absurd rfl z⟩
  · obtain ⟨h1, h2, -⟩ := hD.2 a (by omega) (by omega)
    obtain ⟨⟨g1, -⟩, g2, -⟩ := hS a ha
    exact ⟨h1, fun z => by rw [h2]; exact ⟨g2 z, g1⟩⟩)
theorem dc_e {it di pa sz ex ab sz0 sc iw : Nat → Int32} {i m n : Nat} (hn : n ≤ 200) (hD : dcQ it di pa sz ex ab sz0 sc i) (hS : seQ ab sz0 sc m n) (hm : m ≤ i) : exM it di sz iw ex m n := fun a ha h1 h2 => by
  by_cases h0 : a = 0
  · subst h0
    rw [hD.1.2] at h2
    exact absurd h2 (by decide)
  · obtain ⟨-, -, h3⟩ := hD.2 a (by omega) (by omega)
    obtain ⟨-, -, g1, g2, g3⟩ := hS a ha
    obtain ⟨h4, h5⟩ := h3 h2
    rw [h4, h5]
    exact ⟨g1, by omega, fun _ _ => ⟨g2, g3⟩⟩
/-- the opened session -/
def opQ (sz sc : Nat → Int32) (m n : Nat) : Prop := ∀ k, k < m → 0 ≤ (sz k).toInt ∧ 0 ≤ (sc k).toInt ∧ (sc k).toInt * 2048 + (sz k).toInt ≤ 2048 * n
theorem opQ_0 {sz sc : Nat → Int32} {n : Nat} : opQ sz sc 0 n := fun k hk => absurd hk (Nat.not_lt_zero k)
theorem opQ_at {sz sc : Nat → Int32} {n : Nat} {d m : Int32} (hS : opQ sz sc m.toInt.toNat n) (h0 : 0 ≤ d.toInt) (hd : d.toInt < m.toInt) : 0 ≤ (sz d.toInt.toNat).toInt ∧ 0 ≤ (sc d.toInt.toNat).toInt ∧ (sc d.toInt.toNat).toInt * 2048 + (sz d.toInt.toNat).toInt ≤ 2048 * n := hS d.toInt.toNat (toN_lt h0 hd)
theorem opQ_c {sz sc ab sz0 sc0 : Nat → Int32} {i m n : Nat} (h1 : ∀ q, q < i → sz q = sz0 q) (h2 : ∀ q, q < i → sc q = sc0 q) (hS : seQ ab sz0 sc0 m n) (hm : m ≤ i) : opQ sz sc m n := fun k hk => by
  rw [h1 k (by omega), h2 k (by omega)]
  exact (hS k hk).2.2

set_option maxHeartbeats 4000000 in
set_option maxRecDepth 100000 in
theorem m_isMark (l : Launch) (D : va_G) (t : Nat → ClassId) (G : hG) (ak av : Nat → Nat) (h : hM) (τ : tM) (n : Nat) (m9 : Nat) (s9 : Int32) (A : Nat → Nat) (th sd lo le wr ma nu di pl se wg op : Int32) (hn : n ≤ 200) (hT : TI τ t n h) (T_m9 : τ m9 = (20, 0)) (F_m9 : h m9 = some (.inr (9, mf A n th sd lo le wr ma nu di pl se wg op))) (hA : ∀ i, i < 28 → τ (A i) = (30, i)) (hmk : mOk sd lo ma se op) (hs0 : 0 ≤ s9.toInt) (hs1 : s9.toInt < n) : Met l y_Mo_isMark (.code y_Mo_isMark b_Mo_isMark 4 (some .boolean) :: lw_g) { frames := 2, cells := 0, slots := 0, locals := 45 } (hP (kE D t G ak av) D vwCl G h [.ref m9, .int s9]) (hQi D vwCl G (fun r h' => zb r ∧ (r = 1 → (∃ lo, loF (aI h (A 0)) sd (2048 * s9 + 4) 4 0 = lo ∧ 0 ≤ lo.toInt ∧ lo.toInt < s9.toInt)) ∧ h = h')) 0 0 nof := by
  refine Met.ofW (cc := b_Mo_isMark) (maxL := 4) (ret := (some .boolean)) (by decide) rfl ?_
  intro p e s m args below meth c s₁ Bd hml hv
  obtain ⟨ha, hE, hH⟩ := hv
  have hx := Bd.exec
  have hb := Bd.bytes
  have hr := Bd.returns
  have hts : ∀ w ∈ lw_g, w.before args s = true := fun w hw => atoms_spec (ws := (.code y_Mo_isMark b_Mo_isMark 4 (some .boolean) :: lw_g)) Bd.pre w (List.mem_cons_of_mem _ hw)
  have hown : s.vm.findClass R_Mo = some m.cls := findClass_of_methodNamed Bd.named
  have hlocks := Bd.notSynchronized
  have hK := hE.1
  have hH0 := hH
  have hLo : hLc nof [] := hLc_nil
  have hz : s.heap.size ≤ s.heap.size := Nat.le_refl _
  have hl := lv_entry [.ref m9, .int s9] (n := 4) (Nat.le_of_ble_eq_true rfl)
  rw [show entryFrame m args 4 = F0 m 0 ((lg_sl [.ref m9, .int s9] ++ List.replicate (4 - (lg_sl [.ref m9, .int s9]).length) Slot.unset).toArray) [] from (by rw [ha]; exact lg_entry_eq m [.ref m9, .int s9] 4)]
  generalize (lg_sl [.ref m9, .int s9] ++ List.replicate (4 - (lg_sl [.ref m9, .int s9]).length) Slot.unset).toArray = ls at hl ⊢
  have hl : lv_has ls 4 [(0, .ref m9), (1, .int s9)] := hl
  obtain ⟨hsd, hlo, hma, hse, hop⟩ := id hmk
  have inI : (nI n).toInt = n := nI_toInt (by omega)
  obtain ⟨g_1, F_A0, c_2⟩ := TI_arB (L := 819200) hT (hA 0 (by decide)) rfl rfl
  refine lv_sipush (v := 2048) hx hb d_Mo_isMark_0 (by decide) ?_
  refine lv_iload_n hx hb d_Mo_isMark_3 rfl (lv_at hl 1 rfl) ?_
  refine lv_imul hx hb d_Mo_isMark_4 ?_
  refine lv_topi (fun v_3 e_4 => ?_)
  refine lv_istore_n (lv' := [(2, .int v_3), (0, .ref m9), (1, .int s9)]) hx hb d_Mo_isMark_5 rfl hl (by decide) rfl (fun ls hl => ?_)
  refine lv_aload_n hx hb d_Mo_isMark_6 rfl (lv_at hl 1 rfl) ?_
  refine lv_iload_n hx hb d_Mo_isMark_7 rfl (lv_at hl 2 rfl) ?_
  refine hm_callPi (va_runV (As := [.int s9]) (b := m9) (rest := []) ⟨hx, hb, hml, hown, hts⟩ (m_isW l D t G ak av h τ n m9 s9 A th sd lo le wr ma nu di pl se wg op   hn hT T_m9  F_m9 hA ⟨hsd, hlo, (by omega), ⟨by omega, by omega⟩, ⟨by omega, by omega⟩⟩ ) ⟨cw9B 1 hts mw_734 mw_735 mw_579 rfl rfl (by decide +kernel) ⟨Nat.le_of_ble_eq_true rfl, Nat.le_of_ble_eq_true rfl⟩, hts _ mw_736, hts _ mw_737⟩ (hP_V (q := (R_Mo, F_Mo, 41)) kE_ok hE hK hH F_m9 rfl) rfl rfl hl.1 rfl (lv_room (Nat.le_of_ble_eq_true rfl)) d_Mo_isMark_8 ⟨Nat.le_of_ble_eq_true rfl, Nat.le_of_ble_eq_true rfl⟩) (fun r_5 h_6 H_7 hp_9  hH z_8 => ?_)
  have hz : s.heap.size ≤ H_7.size := Nat.le_trans hz z_8
  obtain ⟨c_10, xp_11, rfl⟩ := hp_9
  refine lv_if_eq (tgt := 60) hx hb d_Mo_isMark_11 (by decide) (fun hc_12 => ?_) (fun hc_12 => ?_)
  · skip
    have ic_13 : r_5.toInt = 0 := congrArg Int32.toInt hc_12
    refine lv_iconst (v := 0) hx hb d_Mo_isMark_60 (by decide) ?_
    exact W.zret (v := 0) hx hb hr (by decide) (fun t9 ht hW => ⟨0, h, rfl, ⟨zb0, (fun z => absurd z (by decide)), rfl⟩, by rw [ht]; exact hH, by rw [ht]; exact hz⟩) hLo d_Mo_isMark_61
  · skip
    refine lv_aload_n hx hb d_Mo_isMark_14 rfl (lv_at hl 1 rfl) ?_
    refine lv_iload_n hx hb d_Mo_isMark_15 rfl (lv_at hl 0 rfl) ?_
    have is_14 : v_3.toInt = 2048 * s9.toInt := by rw [e_4]; exact iMulL 2048 rfl (by omega) (by omega)
    refine hm_callPi (va_runV (As := [.int v_3]) (b := m9) (rest := []) ⟨hx, hb, hml, hown, hts⟩ (m_get l D t G ak av h τ n m9 v_3 A th sd lo le wr ma nu di pl se wg op   hn hT T_m9  F_m9 hA ⟨hsd, hlo, (by omega), ⟨by omega, by omega⟩, ⟨by omega, by omega⟩⟩ (by omega) (by omega)) ⟨cw9B 1 hts mw_698 mw_699 mw_579 rfl rfl (by decide +kernel) ⟨Nat.le_of_ble_eq_true rfl, Nat.le_of_ble_eq_true rfl⟩, hts _ mw_700, hts _ mw_701⟩ (hP_V (q := (R_Mo, F_Mo, 41)) kE_ok hE hK hH F_m9 rfl) rfl rfl hl.1 rfl (lv_room (Nat.le_of_ble_eq_true rfl)) d_Mo_isMark_16 ⟨Nat.le_of_ble_eq_true rfl, Nat.le_of_ble_eq_true rfl⟩) (fun r_15 h_16 H_17 hp_19  hH z_18 => ?_)
    have hz : s.heap.size ≤ H_17.size := Nat.le_trans hz z_18
    obtain ⟨xp_20, rfl⟩ := hp_19
    obtain ⟨ia_21, eg_22⟩ := xp_20
    rw [aI_of F_A0] at eg_22
    refine lv_bipush (v := 77) hx hb d_Mo_isMark_19 (by decide) ?_
    refine lv_icmp_ne (tgt := 60) hx hb d_Mo_isMark_21 (by decide) (fun hc_23 => ?_) (fun hc_23 => ?_)
    · skip
      refine lv_iconst (v := 0) hx hb d_Mo_isMark_60 (by decide) ?_
      exact W.zret (v := 0) hx hb hr (by decide) (fun t9 ht hW => ⟨0, h, rfl, ⟨zb0, (fun z => absurd z (by decide)), rfl⟩, by rw [ht]; exact hH, by rw [ht]; exact hz⟩) hLo d_Mo_isMark_61
    · skip
      have ic_24 : r_15.toInt = 77 := congrArg Int32.toInt hc_23
      refine lv_aload_n hx hb d_Mo_isMark_24 rfl (lv_at hl 1 rfl) ?_
      refine lv_iload_n hx hb d_Mo_isMark_25 rfl (lv_at hl 0 rfl) ?_
      refine lv_iconst (v := 1) hx hb d_Mo_isMark_26 (by decide) ?_
      refine lv_iadd hx hb d_Mo_isMark_27 ?_
      refine lv_topi (fun v_25 e_26 => ?_)
      have is_27 : v_25.toInt = v_3.toInt + 1 := by rw [e_26]; exact iAddK 1 rfl (by omega) (by omega)
      refine hm_callPi (va_runV (As := [.int v_25]) (b := m9) (rest := []) ⟨hx, hb, hml, hown, hts⟩ (m_get l D t G ak av h τ n m9 v_25 A th sd lo le wr ma nu di pl se wg op   hn hT T_m9  F_m9 hA ⟨hsd, hlo, (by omega), ⟨by omega, by omega⟩, ⟨by omega, by omega⟩⟩ (by omega) (by omega)) ⟨cw9B 1 hts mw_698 mw_699 mw_579 rfl rfl (by decide +kernel) ⟨Nat.le_of_ble_eq_true rfl, Nat.le_of_ble_eq_true rfl⟩, hts _ mw_700, hts _ mw_701⟩ (hP_V (q := (R_Mo, F_Mo, 41)) kE_ok hE hK hH F_m9 rfl) rfl rfl hl.1 rfl (lv_room (Nat.le_of_ble_eq_true rfl)) d_Mo_isMark_28 ⟨Nat.le_of_ble_eq_true rfl, Nat.le_of_ble_eq_true rfl⟩) (fun r_28 h_29 H_30 hp_32  hH z_31 => ?_)
      have hz : s.heap.size ≤ H_30.size := Nat.le_trans hz z_31
      obtain ⟨xp_33, rfl⟩ := hp_32
      obtain ⟨ia_34, eg_35⟩ := xp_33
      rw [aI_of F_A0] at eg_35
      refine lv_bipush (v := 65) hx hb d_Mo_isMark_31 (by decide) ?_
      refine lv_icmp_ne (tgt := 60) hx hb d_Mo_isMark_33 (by decide) (fun hc_36 => ?_) (fun hc_36 => ?_)
      · skip
        refine lv_iconst (v := 0) hx hb d_Mo_isMark_60 (by decide) ?_
        exact W.zret (v := 0) hx hb hr (by decide) (fun t9 ht hW => ⟨0, h, rfl, ⟨zb0, (fun z => absurd z (by decide)), rfl⟩, by rw [ht]; exact hH, by rw [ht]; exact hz⟩) hLo d_Mo_isMark_61
      · skip
        have ic_37 : r_28.toInt = 65 := congrArg Int32.toInt hc_36
        refine lv_aload_n hx hb d_Mo_isMark_36 rfl (lv_at hl 1 rfl) ?_
        refine lv_iload_n hx hb d_Mo_isMark_37 rfl (lv_at hl 0 rfl) ?_
        refine lv_iconst (v := 2) hx hb d_Mo_isMark_38 (by decide) ?_
        refine lv_iadd hx hb d_Mo_isMark_39 ?_
        refine lv_topi (fun v_38 e_39 => ?_)
        have is_40 : v_38.toInt = v_3.toInt + 2 := by rw [e_39]; exact iAddK 2 rfl (by omega) (by omega)
        refine hm_callPi (va_runV (As := [.int v_38]) (b := m9) (rest := []) ⟨hx, hb, hml, hown, hts⟩ (m_get l D t G ak av h τ n m9 v_38 A th sd lo le wr ma nu di pl se wg op   hn hT T_m9  F_m9 hA ⟨hsd, hlo, (by omega), ⟨by omega, by omega⟩, ⟨by omega, by omega⟩⟩ (by omega) (by omega)) ⟨cw9B 1 hts mw_698 mw_699 mw_579 rfl rfl (by decide +kernel) ⟨Nat.le_of_ble_eq_true rfl, Nat.le_of_ble_eq_true rfl⟩, hts _ mw_700, hts _ mw_701⟩ (hP_V (q := (R_Mo, F_Mo, 41)) kE_ok hE hK hH F_m9 rfl) rfl rfl hl.1 rfl (lv_room (Nat.le_of_ble_eq_true rfl)) d_Mo_isMark_40 ⟨Nat.le_of_ble_eq_true rfl, Nat.le_of_ble_eq_true rfl⟩) (fun r_41 h_42 H_43 hp_45  hH z_44 => ?_)
        have hz : s.heap.size ≤ H_43.size := Nat.le_trans hz z_44
        obtain ⟨xp_46, rfl⟩ := hp_45
        obtain ⟨ia_47, eg_48⟩ := xp_46
        rw [aI_of F_A0] at eg_48
        refine lv_bipush (v := 82) hx hb d_Mo_isMark_43 (by decide) ?_
        refine lv_icmp_ne (tgt := 60) hx hb d_Mo_isMark_45 (by decide) (fun hc_49 => ?_) (fun hc_49 => ?_)
        · skip
          refine lv_iconst (v := 0) hx hb d_Mo_isMark_60 (by decide) ?_
          exact W.zret (v := 0) hx hb hr (by decide) (fun t9 ht hW => ⟨0, h, rfl, ⟨zb0, (fun z => absurd z (by decide)), rfl⟩, by rw [ht]; exact hH, by rw [ht]; exact hz⟩) hLo d_Mo_isMark_61
        · skip
          have ic_50 : r_41.toInt = 82 := congrArg Int32.toInt hc_49
          refine lv_aload_n hx hb d_Mo_isMark_48 rfl (lv_at hl 1 rfl) ?_
          refine lv_iload_n hx hb d_Mo_isMark_49 rfl (lv_at hl 0 rfl) ?_
          refine lv_iconst (v := 3) hx hb d_Mo_isMark_50 (by decide) ?_
          refine lv_iadd hx hb d_Mo_isMark_51 ?_
          refine lv_topi (fun v_51 e_52 => ?_)
          have is_53 : v_51.toInt = v_3.toInt + 3 := by rw [e_52]; exact iAddK 3 rfl (by omega) (by omega)
          refine hm_callPi (va_runV (As := [.int v_51]) (b := m9) (rest := []) ⟨hx, hb, hml, hown, hts⟩ (m_get l D t G ak av h τ n m9 v_51 A th sd lo le wr ma nu di pl se wg op   hn hT T_m9  F_m9 hA ⟨hsd, hlo, (by omega), ⟨by omega, by omega⟩, ⟨by omega, by omega⟩⟩ (by omega) (by omega)) ⟨cw9B 1 hts mw_698 mw_699 mw_579 rfl rfl (by decide +kernel) ⟨Nat.le_of_ble_eq_true rfl, Nat.le_of_ble_eq_true rfl⟩, hts _ mw_700, hts _ mw_701⟩ (hP_V (q := (R_Mo, F_Mo, 41)) kE_ok hE hK hH F_m9 rfl) rfl rfl hl.1 rfl (lv_room (Nat.le_of_ble_eq_true rfl)) d_Mo_isMark_52 ⟨Nat.le_of_ble_eq_true rfl, Nat.le_of_ble_eq_true rfl⟩) (fun r_54 h_55 H_56 hp_58  hH z_57 => ?_)
          have hz : s.heap.size ≤ H_56.size := Nat.le_trans hz z_57
          obtain ⟨xp_59, rfl⟩ := hp_58
          obtain ⟨ia_60, eg_61⟩ := xp_59
          rw [aI_of F_A0] at eg_61
          refine lv_bipush (v := 75) hx hb d_Mo_isMark_55 (by decide) ?_
          refine lv_icmp_eq (tgt := 62) hx hb d_Mo_isMark_57 (by decide) (fun hc_62 => ?_) (fun hc_62 => ?_)
          · skip
            have ic_63 : r_54.toInt = 75 := congrArg Int32.toInt hc_62
            refine lv_aload_n hx hb d_Mo_isMark_62 rfl (lv_at hl 1 rfl) ?_
            refine lv_iload_n hx hb d_Mo_isMark_63 rfl (lv_at hl 0 rfl) ?_
            refine lv_iconst (v := 4) hx hb d_Mo_isMark_64 (by decide) ?_
            refine lv_iadd hx hb d_Mo_isMark_65 ?_
            refine lv_topi (fun v_64 e_65 => ?_)
            refine lv_iconst (v := 4) hx hb d_Mo_isMark_66 (by decide) ?_
            have is_66 : v_64.toInt = v_3.toInt + 4 := by rw [e_65]; exact iAddK 4 rfl (by omega) (by omega)
            refine hm_callPi (va_runV (As := [.int v_64, .int 4]) (b := m9) (rest := []) ⟨hx, hb, hml, hown, hts⟩ (m_lowAt l D t G ak av h τ n m9 v_64 4 A th sd lo le wr ma nu di pl se wg op   hn hT T_m9  F_m9 hA ⟨hsd, hlo, (by omega), ⟨by omega, by omega⟩, ⟨by omega, by omega⟩⟩ (by have l0 : (4 : Int32).toInt = 4 := rfl; omega) (by have l0 : (4 : Int32).toInt = 4 := rfl; omega) (by have l0 : (4 : Int32).toInt = 4 := rfl; omega)) ⟨cw9B 2 hts mw_742 mw_743 mw_579 rfl rfl (by decide +kernel) ⟨Nat.le_of_ble_eq_true rfl, Nat.le_of_ble_eq_true rfl⟩, hts _ mw_744, hts _ mw_745⟩ (hP_V (q := (R_Mo, F_Mo, 41)) kE_ok hE hK hH F_m9 rfl) rfl rfl hl.1 rfl (lv_room (Nat.le_of_ble_eq_true rfl)) d_Mo_isMark_67 ⟨Nat.le_of_ble_eq_true rfl, Nat.le_of_ble_eq_true rfl⟩) (fun r_67 h_68 H_69 hp_71  hH z_70 => ?_)
            have hz : s.heap.size ≤ H_69.size := Nat.le_trans hz z_70
            obtain ⟨xp_72, rfl⟩ := hp_71
            have el_73 : r_67 = loF g_1 sd v_64 4 0 := by rw [aI_of F_A0] at xp_72; exact xp_72
            refine lv_istore_n (lv' := [(3, .int r_67), (2, .int v_3), (0, .ref m9), (1, .int s9)]) hx hb d_Mo_isMark_70 rfl hl (by decide) rfl (fun ls hl => ?_)
            refine lv_iload_n hx hb d_Mo_isMark_71 rfl (lv_at hl 0 rfl) ?_
            refine lv_if_lt (tgt := 96) hx hb d_Mo_isMark_72 (by decide) (fun hc_74 => ?_) (fun hc_74 => ?_)
            · skip
              have ic_75 : r_67.toInt < 0 := iLt hc_74
              refine lv_iconst (v := 0) hx hb d_Mo_isMark_96 (by decide) ?_
              exact W.zret (v := 0) hx hb hr (by decide) (fun t9 ht hW => ⟨0, h, rfl, ⟨zb0, (fun z => absurd z (by decide)), rfl⟩, by rw [ht]; exact hH, by rw [ht]; exact hz⟩) hLo d_Mo_isMark_97
            · skip
              have ic_76 : 0 ≤ r_67.toInt := iNl hc_74
              refine lv_iload_n hx hb d_Mo_isMark_75 rfl (lv_at hl 0 rfl) ?_
              refine lv_iload_n hx hb d_Mo_isMark_76 rfl (lv_at hl 3 rfl) ?_
              refine lv_icmp_ge (tgt := 96) hx hb d_Mo_isMark_77 (by decide) (fun hc_77 => ?_) (fun hc_77 => ?_)
              · skip
                have ic_78 : s9.toInt ≤ r_67.toInt := iLe hc_77
                refine lv_iconst (v := 0) hx hb d_Mo_isMark_96 (by decide) ?_
                exact W.zret (v := 0) hx hb hr (by decide) (fun t9 ht hW => ⟨0, h, rfl, ⟨zb0, (fun z => absurd z (by decide)), rfl⟩, by rw [ht]; exact hH, by rw [ht]; exact hz⟩) hLo d_Mo_isMark_97
              · skip
                have ic_79 : r_67.toInt < s9.toInt := iNe hc_77
                have iu_80 : s9.toInt < 2147483648 := iUp _
                refine lv_aload_n hx hb d_Mo_isMark_80 rfl (lv_at hl 2 rfl) ?_
                refine lv_iload_n hx hb d_Mo_isMark_81 rfl (lv_at hl 1 rfl) ?_
                refine lv_bipush (v := 8) hx hb d_Mo_isMark_82 (by decide) ?_
                refine lv_iadd hx hb d_Mo_isMark_84 ?_
                refine lv_topi (fun v_81 e_82 => ?_)
                refine lv_iconst (v := 4) hx hb d_Mo_isMark_85 (by decide) ?_
                have is_83 : v_81.toInt = v_3.toInt + 8 := by rw [e_82]; exact iAddK 8 rfl (by omega) (by omega)
                refine hm_callPi (va_runV (As := [.int v_81, .int 4]) (b := m9) (rest := []) ⟨hx, hb, hml, hown, hts⟩ (m_lowAt l D t G ak av h τ n m9 v_81 4 A th sd lo le wr ma nu di pl se wg op   hn hT T_m9  F_m9 hA ⟨hsd, hlo, (by omega), ⟨by omega, by omega⟩, ⟨by omega, by omega⟩⟩ (by have l0 : (4 : Int32).toInt = 4 := rfl; omega) (by have l0 : (4 : Int32).toInt = 4 := rfl; omega) (by have l0 : (4 : Int32).toInt = 4 := rfl; omega)) ⟨cw9B 2 hts mw_742 mw_743 mw_579 rfl rfl (by decide +kernel) ⟨Nat.le_of_ble_eq_true rfl, Nat.le_of_ble_eq_true rfl⟩, hts _ mw_744, hts _ mw_745⟩ (hP_V (q := (R_Mo, F_Mo, 41)) kE_ok hE hK hH F_m9 rfl) rfl rfl hl.1 rfl (lv_room (Nat.le_of_ble_eq_true rfl)) d_Mo_isMark_86 ⟨Nat.le_of_ble_eq_true rfl, Nat.le_of_ble_eq_true rfl⟩) (fun r_84 h_85 H_86 hp_88  hH z_87 => ?_)
                have hz : s.heap.size ≤ H_86.size := Nat.le_trans hz z_87
                obtain ⟨xp_89, rfl⟩ := hp_88
                have el_90 : r_84 = loF g_1 sd v_81 4 0 := by rw [aI_of F_A0] at xp_89; exact xp_89
                refine lv_if_le (tgt := 96) hx hb d_Mo_isMark_89 (by decide) (fun hc_91 => ?_) (fun hc_91 => ?_)
                · skip
                  have ic_92 : r_84.toInt ≤ 0 := iLe hc_91
                  refine lv_iconst (v := 0) hx hb d_Mo_isMark_96 (by decide) ?_
                  exact W.zret (v := 0) hx hb hr (by decide) (fun t9 ht hW => ⟨0, h, rfl, ⟨zb0, (fun z => absurd z (by decide)), rfl⟩, by rw [ht]; exact hH, by rw [ht]; exact hz⟩) hLo d_Mo_isMark_97
                · skip
                  have ic_93 : 0 < r_84.toInt := iNe hc_91
                  have iu_94 : r_84.toInt < 2147483648 := iUp _
                  refine lv_iconst (v := 1) hx hb d_Mo_isMark_92 (by decide) ?_
                  refine lv_goto (tgt := 97) hx hb d_Mo_isMark_93 (by decide) ?_
                  exact W.zret (v := 1) hx hb hr (by decide) (fun t9 ht hW => ⟨1, h, rfl, ⟨zb1, (fun _ => ⟨r_67, by rw [aI_of F_A0, ← e_4, ← e_65]; exact el_73.symm, by omega, by omega⟩), rfl⟩, by rw [ht]; exact hH, by rw [ht]; exact hz⟩) hLo d_Mo_isMark_97
          · skip
            refine lv_iconst (v := 0) hx hb d_Mo_isMark_60 (by decide) ?_
            exact W.zret (v := 0) hx hb hr (by decide) (fun t9 ht hW => ⟨0, h, rfl, ⟨zb0, (fun z => absurd z (by decide)), rfl⟩, by rw [ht]; exact hH, by rw [ht]; exact hz⟩) hLo d_Mo_isMark_61

set_option maxHeartbeats 4000000 in
set_option maxRecDepth 100000 in
theorem m_markAt (l : Launch) (D : va_G) (t : Nat → ClassId) (G : hG) (ak av : Nat → Nat) (h : hM) (τ : tM) (n : Nat) (m9 : Nat) (i9 : Int32) (A : Nat → Nat) (th sd lo le wr ma nu di pl se wg op : Int32) (hn : n ≤ 200) (hT : TI τ t n h) (T_m9 : τ m9 = (20, 0)) (F_m9 : h m9 = some (.inr (9, mf A n th sd lo le wr ma nu di pl se wg op))) (hA : ∀ i, i < 28 → τ (A i) = (30, i)) (hmk : mOk sd lo ma se op) : Met l y_Mo_markAt (.code y_Mo_markAt b_Mo_markAt 4 (some .int) :: lw_g) { frames := 3, cells := 0, slots := 0, locals := 68 } (hP (kE D t G ak av) D vwCl G h [.ref m9, .int i9]) (hQi D vwCl G (fun r h' => (r = -1 ∨ (0 ≤ r.toInt ∧ r.toInt < n ∧ (∃ lo, loF (aI h (A 0)) sd (2048 * r + 4) 4 0 = lo ∧ 0 ≤ lo.toInt ∧ lo.toInt < 200))) ∧ h = h')) 0 0 nof := by
  refine Met.ofW (cc := b_Mo_markAt) (maxL := 4) (ret := (some .int)) (by decide) rfl ?_
  intro p e s m args below meth c s₁ Bd hml hv
  obtain ⟨ha, hE, hH⟩ := hv
  have hx := Bd.exec
  have hb := Bd.bytes
  have hr := Bd.returns
  have hts : ∀ w ∈ lw_g, w.before args s = true := fun w hw => atoms_spec (ws := (.code y_Mo_markAt b_Mo_markAt 4 (some .int) :: lw_g)) Bd.pre w (List.mem_cons_of_mem _ hw)
  have hown : s.vm.findClass R_Mo = some m.cls := findClass_of_methodNamed Bd.named
  have hlocks := Bd.notSynchronized
  have hK := hE.1
  have hH0 := hH
  have hLo : hLc nof [] := hLc_nil
  have hz : s.heap.size ≤ s.heap.size := Nat.le_refl _
  have hl := lv_entry [.ref m9, .int i9] (n := 4) (Nat.le_of_ble_eq_true rfl)
  rw [show entryFrame m args 4 = F0 m 0 ((lg_sl [.ref m9, .int i9] ++ List.replicate (4 - (lg_sl [.ref m9, .int i9]).length) Slot.unset).toArray) [] from (by rw [ha]; exact lg_entry_eq m [.ref m9, .int i9] 4)]
  generalize (lg_sl [.ref m9, .int i9] ++ List.replicate (4 - (lg_sl [.ref m9, .int i9]).length) Slot.unset).toArray = ls at hl ⊢
  have hl : lv_has ls 4 [(0, .ref m9), (1, .int i9)] := hl
  obtain ⟨hsd, hlo, hma, hse, hop⟩ := id hmk
  have inI : (nI n).toInt = n := nI_toInt (by omega)
  obtain ⟨g_1, F_A0, c_2⟩ := TI_arB (L := 819200) hT (hA 0 (by decide)) rfl rfl
  refine lv_iload_n hx hb d_Mo_markAt_0 rfl (lv_at hl 1 rfl) ?_
  refine lv_istore_n (lv' := [(2, .int i9), (0, .ref m9), (1, .int i9)]) hx hb d_Mo_markAt_1 rfl hl (by decide) rfl (fun ls hl => ?_)
  refine lv_iconst (v := 0) hx hb d_Mo_markAt_2 (by decide) ?_
  refine lv_istore_n (lv' := [(3, .int 0), (2, .int i9), (0, .ref m9), (1, .int i9)]) hx hb d_Mo_markAt_3 rfl hl (by decide) rfl (fun ls hl => ?_)
  refine hm_loop (fun k4 ls H locs hh4 => ∃ (n9 : Int32) (s9 : Int32), k4 = mU s9 ∧ lv_has ls 4 [(0, .ref m9), (1, .int i9), (2, .int n9), (3, .int s9)] ∧ hm D vwCl G hh4 H ∧ s.heap.size ≤ H.size ∧ hLc nof locs ∧ (h = hh4) ∧ (0 ≤ s9.toInt)) ?_ (hh := h) ⟨i9, 0, rfl, (lv_sub hl [2, 3, 1, 0] rfl), hH, hz, hLo, rfl, (by decide)⟩
  rintro k4 ls H locs hh4 ⟨n9, s9, hk4, hl, hH, hz, hLo, rfl, I_s9⟩ ih4
  refine lv_iload_n hx hb d_Mo_markAt_4 rfl (lv_at hl 3 rfl) ?_
  refine lv_aload_n hx hb d_Mo_markAt_5 rfl (lv_at hl 0 rfl) ?_
  refine hm_get (ci := 9) (v := .int (nI n)) (C := R_Mo) (T := F_Mo) (N := 41) hx hb hts ig_Mo hown hK hH F_m9 rfl 1 (by decide) (hts _ mw_587) (fun _ h9 => h9) rfl d_Mo_markAt_6 ?_
  refine lv_icmp_ge (tgt := 42) hx hb d_Mo_markAt_9 (by decide) (fun hc_3 => ?_) (fun hc_3 => ?_)
  · skip
    have ic_4 : (nI n).toInt ≤ s9.toInt := iLe hc_3
    refine lv_iconst (v := -1) hx hb d_Mo_markAt_42 (by decide) ?_
    exact W.iret (v := (-1)) hx hb hr (fun t9 ht hW => ⟨(-1), h, rfl, ⟨(Or.inl rfl), rfl⟩, by rw [ht]; exact hH, by rw [ht]; exact hz⟩) hLo d_Mo_markAt_43
  · skip
    have ic_5 : s9.toInt < (nI n).toInt := iNe hc_3
    have iu_6 : (nI n).toInt < 2147483648 := iUp _
    refine lv_iload_n hx hb d_Mo_markAt_12 rfl (lv_at hl 1 rfl) ?_
    refine lv_if_lt (tgt := 42) hx hb d_Mo_markAt_13 (by decide) (fun hc_7 => ?_) (fun hc_7 => ?_)
    · skip
      have ic_8 : i9.toInt < 0 := iLt hc_7
      refine lv_iconst (v := -1) hx hb d_Mo_markAt_42 (by decide) ?_
      exact W.iret (v := (-1)) hx hb hr (fun t9 ht hW => ⟨(-1), h, rfl, ⟨(Or.inl rfl), rfl⟩, by rw [ht]; exact hH, by rw [ht]; exact hz⟩) hLo d_Mo_markAt_43
    · skip
      have ic_9 : 0 ≤ i9.toInt := iNl hc_7
      refine lv_aload_n hx hb d_Mo_markAt_16 rfl (lv_at hl 0 rfl) ?_
      refine lv_iload_n hx hb d_Mo_markAt_17 rfl (lv_at hl 3 rfl) ?_
      refine hm_callPi (va_runV (As := [.int s9]) (b := m9) (rest := []) ⟨hx, hb, hml, hown, hts⟩ (m_isMark l D t G ak av h τ n m9 s9 A th sd lo le wr ma nu di pl se wg op   hn hT T_m9  F_m9 hA ⟨hsd, hlo, (by omega), ⟨by omega, by omega⟩, ⟨by omega, by omega⟩⟩ (by omega) (by omega)) ⟨cw9B 1 hts mw_799 mw_800 mw_579 rfl rfl (by decide +kernel) ⟨Nat.le_of_ble_eq_true rfl, Nat.le_of_ble_eq_true rfl⟩, hts _ mw_801, hts _ mw_802⟩ (hP_V (q := (R_Mo, F_Mo, 41)) kE_ok hE hK hH F_m9 rfl) rfl rfl hl.1 rfl (lv_room (Nat.le_of_ble_eq_true rfl)) d_Mo_markAt_18 ⟨Nat.le_of_ble_eq_true rfl, Nat.le_of_ble_eq_true rfl⟩) (fun r_10 h_11 H_12 hp_14  hH z_13 => ?_)
      have hz : s.heap.size ≤ H_12.size := Nat.le_trans hz z_13
      obtain ⟨c_15, xp_16, rfl⟩ := hp_14
      rw [aI_of F_A0] at xp_16
      rcases c_15 with rfl | rfl
      · skip
        refine lv_if_ne (tgt := 27) hx hb d_Mo_markAt_21 (by decide) (fun hc_17 => absurd hc_17 (by decide)) (fun hc_17 => ?_)
        refine lv_goto (tgt := 36) hx hb d_Mo_markAt_24 (by decide) ?_
        obtain ⟨j_18, e_19⟩ : ∃ z : Int32, z = s9 + 1 := ⟨_, rfl⟩
        refine lv_iinc (v := j_18) (lv' := [(3, .int j_18), (0, .ref m9), (1, .int i9), (2, .int n9)]) hx hb d_Mo_markAt_36 hl (k := 3) rfl e_19.symm (by decide) rfl (fun ls hl => ?_)
        refine lv_goto (tgt := 4) hx hb d_Mo_markAt_39 (by decide) ?_
        have is_20 : j_18.toInt = s9.toInt + 1 := by rw [e_19]; exact iAddK 1 rfl (by omega) (by omega)
        exact ih4 (mU j_18) ls _ locs _ (by rw [hk4]; exact mU_lt (by omega)) ⟨n9, j_18, rfl, (lv_sub hl [1, 2, 3, 0] rfl), hH, hz, hLo, rfl, (by omega)⟩
      · skip
        obtain ⟨lo9, l1, l2, l3⟩ := xp_16 rfl
        refine lv_if_ne (tgt := 27) hx hb d_Mo_markAt_21 (by decide) (fun hc_21 => ?_) (fun hc_21 => absurd hc_21 (by decide))
        refine lv_iload_n hx hb d_Mo_markAt_27 rfl (lv_at hl 2 rfl) ?_
        refine lv_if_ne (tgt := 33) hx hb d_Mo_markAt_28 (by decide) (fun hc_22 => ?_) (fun hc_22 => ?_)
        · skip
          obtain ⟨j_23, e_24⟩ : ∃ z : Int32, z = n9 + (-1) := ⟨_, rfl⟩
          refine lv_iinc (v := j_23) (lv' := [(2, .int j_23), (0, .ref m9), (1, .int i9), (3, .int s9)]) hx hb d_Mo_markAt_33 hl (k := 2) rfl e_24.symm (by decide) rfl (fun ls hl => ?_)
          obtain ⟨j_25, e_26⟩ : ∃ z : Int32, z = s9 + 1 := ⟨_, rfl⟩
          refine lv_iinc (v := j_25) (lv' := [(3, .int j_25), (2, .int j_23), (0, .ref m9), (1, .int i9)]) hx hb d_Mo_markAt_36 hl (k := 3) rfl e_26.symm (by decide) rfl (fun ls hl => ?_)
          refine lv_goto (tgt := 4) hx hb d_Mo_markAt_39 (by decide) ?_
          have is_27 : j_25.toInt = s9.toInt + 1 := by rw [e_26]; exact iAddK 1 rfl (by omega) (by omega)
          exact ih4 (mU j_25) ls _ locs _ (by rw [hk4]; exact mU_lt (by omega)) ⟨j_23, j_25, rfl, (lv_sub hl [2, 3, 1, 0] rfl), hH, hz, hLo, rfl, (by omega)⟩
        · skip
          have ic_28 : n9.toInt = 0 := congrArg Int32.toInt hc_22
          refine lv_iload_n hx hb d_Mo_markAt_31 rfl (lv_at hl 3 rfl) ?_
          exact W.iret (v := s9) hx hb hr (fun t9 ht hW => ⟨s9, h, rfl, ⟨(Or.inr ⟨by omega, by omega, lo9, by rw [aI_of F_A0]; exact l1, l2, by omega⟩), rfl⟩, by rw [ht]; exact hH, by rw [ht]; exact hz⟩) hLo d_Mo_markAt_32

set_option maxHeartbeats 4000000 in
set_option maxRecDepth 100000 in
theorem m_mark (l : Launch) (D : va_G) (t : Nat → ClassId) (G : hG) (ak av : Nat → Nat) (h : hM) (τ : tM) (n : Nat) (m9 : Nat) (i9 : Int32) (w9 : Int32) (A : Nat → Nat) (th sd lo le wr ma nu di pl se wg op : Int32) (hn : n ≤ 200) (hT : TI τ t n h) (T_m9 : τ m9 = (20, 0)) (F_m9 : h m9 = some (.inr (9, mf A n th sd lo le wr ma nu di pl se wg op))) (hA : ∀ i, i < 28 → τ (A i) = (30, i)) (hmk : mOk sd lo ma se op) : Met l y_Mo_mark (.code y_Mo_mark b_Mo_mark 4 (some .int) :: lw_g) { frames := 8, cells := 0, slots := 0, locals := 192 } (hP (kE D t G ak av) D vwCl G h [.ref m9, .int i9, .int w9]) (hQi D vwCl G (fun r h' => TI τ t n h' ∧ kf τ [(30, 17), (30, 18), (30, 19), (30, 20), (30, 21), (30, 22)] [m9] h h' ∧ (∃ (th' : Int32) (se' : Int32) (wg' : Int32), h' m9 = some (.inr (9, mf A n th' sd lo le wr ma nu di pl se' wg' op)) ∧ mOk sd lo ma se' op))) 0 0 G.P := by
  refine Met.ofW (cc := b_Mo_mark) (maxL := 4) (ret := (some .int)) (by decide) rfl ?_
  intro p e s m args below meth c s₁ Bd hml hv
  obtain ⟨ha, hE, hH⟩ := hv
  have hx := Bd.exec
  have hb := Bd.bytes
  have hr := Bd.returns
  have hts : ∀ w ∈ lw_g, w.before args s = true := fun w hw => atoms_spec (ws := (.code y_Mo_mark b_Mo_mark 4 (some .int) :: lw_g)) Bd.pre w (List.mem_cons_of_mem _ hw)
  have hown : s.vm.findClass R_Mo = some m.cls := findClass_of_methodNamed Bd.named
  have hlocks := Bd.notSynchronized
  have hK := hE.1
  have hH0 := hH
  have hLo : hLc G.P [] := hLc_nil
  have hz : s.heap.size ≤ s.heap.size := Nat.le_refl _
  have hl := lv_entry [.ref m9, .int i9, .int w9] (n := 4) (Nat.le_of_ble_eq_true rfl)
  rw [show entryFrame m args 4 = F0 m 0 ((lg_sl [.ref m9, .int i9, .int w9] ++ List.replicate (4 - (lg_sl [.ref m9, .int i9, .int w9]).length) Slot.unset).toArray) [] from (by rw [ha]; exact lg_entry_eq m [.ref m9, .int i9, .int w9] 4)]
  generalize (lg_sl [.ref m9, .int i9, .int w9] ++ List.replicate (4 - (lg_sl [.ref m9, .int i9, .int w9]).length) Slot.unset).toArray = ls at hl ⊢
  have hl : lv_has ls 4 [(0, .ref m9), (1, .int i9), (2, .int w9)] := hl
  have hkf : kf τ [(30, 17), (30, 18), (30, 19), (30, 20), (30, 21), (30, 22)] [m9] h h := kf_rf
  obtain ⟨hsd, hlo, hma, hse, hop⟩ := id hmk
  have inI : (nI n).toInt = n := nI_toInt (by omega)
  obtain ⟨g_1, F_A0, c_2⟩ := TI_arB (L := 819200) hT (hA 0 (by decide)) rfl rfl
  refine lv_aload_n hx hb d_Mo_mark_0 rfl (lv_at hl 0 rfl) ?_
  refine lv_iload_n hx hb d_Mo_mark_1 rfl (lv_at hl 1 rfl) ?_
  refine hm_callPi (va_runV (As := [.int i9]) (b := m9) (rest := []) ⟨hx, hb, hml, hown, hts⟩ (m_markAt l D t G ak av h τ n m9 i9 A th sd lo le wr ma nu di pl se wg op   hn hT T_m9  F_m9 hA ⟨hsd, hlo, (by omega), ⟨by omega, by omega⟩, ⟨by omega, by omega⟩⟩ ) ⟨cw9B 1 hts mw_803 mw_804 mw_579 rfl rfl (by decide +kernel) ⟨Nat.le_of_ble_eq_true rfl, Nat.le_of_ble_eq_true rfl⟩, hts _ mw_805, hts _ mw_806⟩ (hP_V (q := (R_Mo, F_Mo, 41)) kE_ok hE hK hH F_m9 rfl) rfl rfl hl.1 rfl (lv_room (Nat.le_of_ble_eq_true rfl)) d_Mo_mark_2 ⟨Nat.le_of_ble_eq_true rfl, Nat.le_of_ble_eq_true rfl⟩) (fun r_3 h_4 H_5 hp_7  hH z_6 => ?_)
  have hz : s.heap.size ≤ H_5.size := Nat.le_trans hz z_6
  obtain ⟨xp_8, rfl⟩ := hp_7
  rw [aI_of F_A0] at xp_8
  rcases xp_8 with rfl | ⟨k1, k2, lo9, l1, l2, l3⟩
  · skip
    refine lv_istore_n (lv' := [(3, .int (-1)), (0, .ref m9), (1, .int i9), (2, .int w9)]) hx hb d_Mo_mark_5 rfl hl (by decide) rfl (fun ls hl => ?_)
    refine lv_aload_n hx hb d_Mo_mark_6 rfl (lv_at hl 1 rfl) ?_
    refine lv_iload_n hx hb d_Mo_mark_7 rfl (lv_at hl 0 rfl) ?_
    refine lv_if_lt (tgt := 24) hx hb d_Mo_mark_8 (by decide) (fun hc_9 => ?_) (fun hc_9 => absurd hc_9 (by decide))
    refine lv_iconst (v := 1) hx hb d_Mo_mark_24 (by decide) ?_
    refine hm_put (ci := 9) (v := .int 1) (ty := .int) (C := R_Mo) (T := F_Mo) (N := 41) hx hb hts ig_Mo t_Mo tk_Mo nm_Mo hown hK hH hLo F_m9 rfl 0 (by decide) (hts _ mw_594) (fun _ h9 => h9) rfl (by decide +kernel) rfl rfl (Nat.le_of_ble_eq_true rfl) d_Mo_mark_25 (fun H_10 locs hH z_11 hLo => ?_)
    have hz : s.heap.size ≤ H_10.size := by rw [z_11]; exact hz
    obtain ⟨h_12, e_13⟩ : ∃ z, z = hu h m9 (.inr (9, mf A n 1 sd lo le wr ma nu di pl se wg op)) := ⟨_, rfl⟩
    have hH : hm D vwCl G h_12 H_10 := by rw [e_13]; exact hH
    have F_A0 : h_12 (A 0) = some (.inl ((t 0), 819200, .inl g_1)) := by rw [e_13, hu_n (tne (hA 0 (by decide)) T_m9 (by decide))]; exact F_A0
    have F_m9 : h_12 m9 = some (.inr (9, mf A n 1 sd lo le wr ma nu di pl se wg op)) := by rw [e_13]; exact hu_s _ _ _
    have hT : TI τ t n h_12 := by rw [e_13]; exact TI_put hT T_m9 (by decide) ⟨_, rfl⟩
    have hkf : kf τ [(30, 17), (30, 18), (30, 19), (30, 20), (30, 21), (30, 22)] [m9] h h_12 := by rw [e_13]; exact kf_putM hkf (by simp)
    refine lv_aload_n hx hb d_Mo_mark_28 rfl (lv_at hl 1 rfl) ?_
    refine hm_get (ci := 9) (v := .int 1) (C := R_Mo) (T := F_Mo) (N := 41) hx hb hts ig_Mo hown hK hH F_m9 rfl 0 (by decide) (hts _ mw_594) (fun _ h9 => h9) rfl d_Mo_mark_29 ?_
    refine lv_iconst (v := 1) hx hb d_Mo_mark_32 (by decide) ?_
    refine lv_icmp_ne (tgt := 38) hx hb d_Mo_mark_33 (by decide) (fun hc_14 => absurd hc_14 (by decide)) (fun hc_14 => ?_)
    refine lv_iconst (v := 0) hx hb d_Mo_mark_36 (by decide) ?_
    exact W.iret (v := 0) hx hb hr (fun t9 ht hW => ⟨0, h_12, rfl, ⟨hT, hkf, ⟨(1 : Int32), se, wg, F_m9, ⟨hsd, hlo, (by omega), ⟨by omega, by omega⟩, ⟨by omega, by omega⟩⟩⟩⟩, by rw [ht]; exact hH, by rw [ht]; exact hz⟩) hLo d_Mo_mark_37
  · skip
    refine lv_istore_n (lv' := [(3, .int r_3), (0, .ref m9), (1, .int i9), (2, .int w9)]) hx hb d_Mo_mark_5 rfl hl (by decide) rfl (fun ls hl => ?_)
    refine lv_aload_n hx hb d_Mo_mark_6 rfl (lv_at hl 1 rfl) ?_
    refine lv_iload_n hx hb d_Mo_mark_7 rfl (lv_at hl 0 rfl) ?_
    refine lv_if_lt (tgt := 24) hx hb d_Mo_mark_8 (by decide) (fun hc_15 => ?_) (fun hc_15 => ?_)
    · skip
      have ic_16 : r_3.toInt < 0 := iLt hc_15
      refine lv_iconst (v := 1) hx hb d_Mo_mark_24 (by decide) ?_
      refine hm_put (ci := 9) (v := .int 1) (ty := .int) (C := R_Mo) (T := F_Mo) (N := 41) hx hb hts ig_Mo t_Mo tk_Mo nm_Mo hown hK hH hLo F_m9 rfl 0 (by decide) (hts _ mw_594) (fun _ h9 => h9) rfl (by decide +kernel) rfl rfl (Nat.le_of_ble_eq_true rfl) d_Mo_mark_25 (fun H_17 locs hH z_18 hLo => ?_)
      have hz : s.heap.size ≤ H_17.size := by rw [z_18]; exact hz
      obtain ⟨h_19, e_20⟩ : ∃ z, z = hu h m9 (.inr (9, mf A n 1 sd lo le wr ma nu di pl se wg op)) := ⟨_, rfl⟩
      have hH : hm D vwCl G h_19 H_17 := by rw [e_20]; exact hH
      have F_A0 : h_19 (A 0) = some (.inl ((t 0), 819200, .inl g_1)) := by rw [e_20, hu_n (tne (hA 0 (by decide)) T_m9 (by decide))]; exact F_A0
      have F_m9 : h_19 m9 = some (.inr (9, mf A n 1 sd lo le wr ma nu di pl se wg op)) := by rw [e_20]; exact hu_s _ _ _
      have hT : TI τ t n h_19 := by rw [e_20]; exact TI_put hT T_m9 (by decide) ⟨_, rfl⟩
      have hkf : kf τ [(30, 17), (30, 18), (30, 19), (30, 20), (30, 21), (30, 22)] [m9] h h_19 := by rw [e_20]; exact kf_putM hkf (by simp)
      refine lv_aload_n hx hb d_Mo_mark_28 rfl (lv_at hl 1 rfl) ?_
      refine hm_get (ci := 9) (v := .int 1) (C := R_Mo) (T := F_Mo) (N := 41) hx hb hts ig_Mo hown hK hH F_m9 rfl 0 (by decide) (hts _ mw_594) (fun _ h9 => h9) rfl d_Mo_mark_29 ?_
      refine lv_iconst (v := 1) hx hb d_Mo_mark_32 (by decide) ?_
      refine lv_icmp_ne (tgt := 38) hx hb d_Mo_mark_33 (by decide) (fun hc_21 => absurd hc_21 (by decide)) (fun hc_21 => ?_)
      refine lv_iconst (v := 0) hx hb d_Mo_mark_36 (by decide) ?_
      exact W.iret (v := 0) hx hb hr (fun t9 ht hW => ⟨0, h_19, rfl, ⟨hT, hkf, ⟨(1 : Int32), se, wg, F_m9, ⟨hsd, hlo, (by omega), ⟨by omega, by omega⟩, ⟨by omega, by omega⟩⟩⟩⟩, by rw [ht]; exact hH, by rw [ht]; exact hz⟩) hLo d_Mo_mark_37
    · skip
      have ic_22 : 0 ≤ r_3.toInt := iNl hc_15
      refine lv_iload_n hx hb d_Mo_mark_11 rfl (lv_at hl 3 rfl) ?_
      refine lv_iconst (v := 0) hx hb d_Mo_mark_12 (by decide) ?_
      refine lv_iconst (v := 3) hx hb d_Mo_mark_13 (by decide) ?_
      refine hm_callPi (va_runS (As := [.int w9, .int 0, .int 3]) (rest := [.ref m9]) ⟨hx, hb, hml, hown, hts⟩ (m_in l D t G ak av h τ n w9 0 3    hn hT    ) ⟨cw9B 3 hts mw_582 mw_583 mw_579 rfl rfl (by decide +kernel) ⟨Nat.le_of_ble_eq_true rfl, Nat.le_of_ble_eq_true rfl⟩, hts _ mw_584⟩ (hP_S kE_ok hE hH) rfl rfl hl.1 rfl (lv_room (Nat.le_of_ble_eq_true rfl)) d_Mo_mark_14 ⟨Nat.le_of_ble_eq_true rfl, Nat.le_of_ble_eq_true rfl⟩) (fun r_23 h_24 H_25 hp_27  hH z_26 => ?_)
      have hz : s.heap.size ≤ H_25.size := Nat.le_trans hz z_26
      obtain ⟨c_28, xp_29, rfl⟩ := hp_27
      have il_30 : (0 : Int32).toInt = 0 := rfl
      have il_31 : (3 : Int32).toInt = 3 := rfl
      rcases xp_29 with ⟨rfl, ix9⟩ | ⟨rfl, ix9, iy9⟩
      · skip
        refine lv_if_eq (tgt := 24) hx hb d_Mo_mark_17 (by decide) (fun hc_32 => ?_) (fun hc_32 => absurd hc_32 (by decide))
        refine lv_iconst (v := 1) hx hb d_Mo_mark_24 (by decide) ?_
        refine hm_put (ci := 9) (v := .int 1) (ty := .int) (C := R_Mo) (T := F_Mo) (N := 41) hx hb hts ig_Mo t_Mo tk_Mo nm_Mo hown hK hH hLo F_m9 rfl 0 (by decide) (hts _ mw_594) (fun _ h9 => h9) rfl (by decide +kernel) rfl rfl (Nat.le_of_ble_eq_true rfl) d_Mo_mark_25 (fun H_33 locs hH z_34 hLo => ?_)
        have hz : s.heap.size ≤ H_33.size := by rw [z_34]; exact hz
        obtain ⟨h_35, e_36⟩ : ∃ z, z = hu h m9 (.inr (9, mf A n 1 sd lo le wr ma nu di pl se wg op)) := ⟨_, rfl⟩
        have hH : hm D vwCl G h_35 H_33 := by rw [e_36]; exact hH
        have F_A0 : h_35 (A 0) = some (.inl ((t 0), 819200, .inl g_1)) := by rw [e_36, hu_n (tne (hA 0 (by decide)) T_m9 (by decide))]; exact F_A0
        have F_m9 : h_35 m9 = some (.inr (9, mf A n 1 sd lo le wr ma nu di pl se wg op)) := by rw [e_36]; exact hu_s _ _ _
        have hT : TI τ t n h_35 := by rw [e_36]; exact TI_put hT T_m9 (by decide) ⟨_, rfl⟩
        have hkf : kf τ [(30, 17), (30, 18), (30, 19), (30, 20), (30, 21), (30, 22)] [m9] h h_35 := by rw [e_36]; exact kf_putM hkf (by simp)
        refine lv_aload_n hx hb d_Mo_mark_28 rfl (lv_at hl 1 rfl) ?_
        refine hm_get (ci := 9) (v := .int 1) (C := R_Mo) (T := F_Mo) (N := 41) hx hb hts ig_Mo hown hK hH F_m9 rfl 0 (by decide) (hts _ mw_594) (fun _ h9 => h9) rfl d_Mo_mark_29 ?_
        refine lv_iconst (v := 1) hx hb d_Mo_mark_32 (by decide) ?_
        refine lv_icmp_ne (tgt := 38) hx hb d_Mo_mark_33 (by decide) (fun hc_37 => absurd hc_37 (by decide)) (fun hc_37 => ?_)
        refine lv_iconst (v := 0) hx hb d_Mo_mark_36 (by decide) ?_
        exact W.iret (v := 0) hx hb hr (fun t9 ht hW => ⟨0, h_35, rfl, ⟨hT, hkf, ⟨(1 : Int32), se, wg, F_m9, ⟨hsd, hlo, (by omega), ⟨by omega, by omega⟩, ⟨by omega, by omega⟩⟩⟩⟩, by rw [ht]; exact hH, by rw [ht]; exact hz⟩) hLo d_Mo_mark_37
      · skip
        refine lv_if_eq (tgt := 24) hx hb d_Mo_mark_17 (by decide) (fun hc_38 => absurd hc_38 (by decide)) (fun hc_38 => ?_)
        refine lv_iconst (v := 0) hx hb d_Mo_mark_20 (by decide) ?_
        refine lv_goto (tgt := 25) hx hb d_Mo_mark_21 (by decide) ?_
        refine hm_put (ci := 9) (v := .int 0) (ty := .int) (C := R_Mo) (T := F_Mo) (N := 41) hx hb hts ig_Mo t_Mo tk_Mo nm_Mo hown hK hH hLo F_m9 rfl 0 (by decide) (hts _ mw_594) (fun _ h9 => h9) rfl (by decide +kernel) rfl rfl (Nat.le_of_ble_eq_true rfl) d_Mo_mark_25 (fun H_39 locs hH z_40 hLo => ?_)
        have hz : s.heap.size ≤ H_39.size := by rw [z_40]; exact hz
        obtain ⟨h_41, e_42⟩ : ∃ z, z = hu h m9 (.inr (9, mf A n 0 sd lo le wr ma nu di pl se wg op)) := ⟨_, rfl⟩
        have hH : hm D vwCl G h_41 H_39 := by rw [e_42]; exact hH
        have F_A0 : h_41 (A 0) = some (.inl ((t 0), 819200, .inl g_1)) := by rw [e_42, hu_n (tne (hA 0 (by decide)) T_m9 (by decide))]; exact F_A0
        have F_m9 : h_41 m9 = some (.inr (9, mf A n 0 sd lo le wr ma nu di pl se wg op)) := by rw [e_42]; exact hu_s _ _ _
        have hT : TI τ t n h_41 := by rw [e_42]; exact TI_put hT T_m9 (by decide) ⟨_, rfl⟩
        have hkf : kf τ [(30, 17), (30, 18), (30, 19), (30, 20), (30, 21), (30, 22)] [m9] h h_41 := by rw [e_42]; exact kf_putM hkf (by simp)
        refine lv_aload_n hx hb d_Mo_mark_28 rfl (lv_at hl 1 rfl) ?_
        refine hm_get (ci := 9) (v := .int 0) (C := R_Mo) (T := F_Mo) (N := 41) hx hb hts ig_Mo hown hK hH F_m9 rfl 0 (by decide) (hts _ mw_594) (fun _ h9 => h9) rfl d_Mo_mark_29 ?_
        refine lv_iconst (v := 1) hx hb d_Mo_mark_32 (by decide) ?_
        refine lv_icmp_ne (tgt := 38) hx hb d_Mo_mark_33 (by decide) (fun hc_43 => ?_) (fun hc_43 => absurd hc_43 (by decide))
        refine lv_iload_n hx hb d_Mo_mark_38 rfl (lv_at hl 3 rfl) ?_
        refine lv_if_ne (tgt := 46) hx hb d_Mo_mark_39 (by decide) (fun hc_44 => ?_) (fun hc_44 => ?_)
        · skip
          refine lv_iload_n hx hb d_Mo_mark_46 rfl (lv_at hl 3 rfl) ?_
          refine lv_iconst (v := 1) hx hb d_Mo_mark_47 (by decide) ?_
          refine lv_icmp_ne (tgt := 66) hx hb d_Mo_mark_48 (by decide) (fun hc_45 => ?_) (fun hc_45 => ?_)
          · skip
            refine lv_iload_n hx hb d_Mo_mark_66 rfl (lv_at hl 3 rfl) ?_
            refine lv_iconst (v := 2) hx hb d_Mo_mark_67 (by decide) ?_
            refine lv_icmp_ne (tgt := 87) hx hb d_Mo_mark_68 (by decide) (fun hc_46 => ?_) (fun hc_46 => ?_)
            · skip
              refine lv_aload_n hx hb d_Mo_mark_87 rfl (lv_at hl 1 rfl) ?_
              refine lv_aload_n hx hb d_Mo_mark_88 rfl (lv_at hl 1 rfl) ?_
              refine lv_sipush (v := 2048) hx hb d_Mo_mark_89 (by decide) ?_
              refine lv_iload_n hx hb d_Mo_mark_92 rfl (lv_at hl 0 rfl) ?_
              refine lv_imul hx hb d_Mo_mark_93 ?_
              refine lv_topi (fun v_47 e_48 => ?_)
              refine lv_iconst (v := 4) hx hb d_Mo_mark_94 (by decide) ?_
              refine lv_iadd hx hb d_Mo_mark_95 ?_
              refine lv_topi (fun v_49 e_50 => ?_)
              refine lv_iconst (v := 4) hx hb d_Mo_mark_96 (by decide) ?_
              have is_51 : v_47.toInt = 2048 * r_3.toInt := by rw [e_48]; exact iMulL 2048 rfl (by omega) (by omega)
              have is_52 : v_49.toInt = v_47.toInt + 4 := by rw [e_50]; exact iAddK 4 rfl (by omega) (by omega)
              refine hm_callPi (va_runV (As := [.int v_49, .int 4]) (b := m9) (rest := [.ref m9]) ⟨hx, hb, hml, hown, hts⟩ (m_lowAt l D t G ak av h_41 τ n m9 v_49 4 A (0 : Int32) sd lo le wr ma nu di pl se wg op   hn hT T_m9  F_m9 hA ⟨hsd, hlo, (by omega), ⟨by omega, by omega⟩, ⟨by omega, by omega⟩⟩ (by have l0 : (4 : Int32).toInt = 4 := rfl; omega) (by have l0 : (4 : Int32).toInt = 4 := rfl; omega) (by have l0 : (4 : Int32).toInt = 4 := rfl; omega)) ⟨cw9B 2 hts mw_742 mw_743 mw_579 rfl rfl (by decide +kernel) ⟨Nat.le_of_ble_eq_true rfl, Nat.le_of_ble_eq_true rfl⟩, hts _ mw_744, hts _ mw_745⟩ (hP_V (q := (R_Mo, F_Mo, 41)) kE_ok hE hK hH F_m9 rfl) rfl rfl hl.1 rfl (lv_room (Nat.le_of_ble_eq_true rfl)) d_Mo_mark_97 ⟨Nat.le_of_ble_eq_true rfl, Nat.le_of_ble_eq_true rfl⟩) (fun r_53 h_54 H_55 hp_57  hH z_56 => ?_)
              have hz : s.heap.size ≤ H_55.size := Nat.le_trans hz z_56
              obtain ⟨xp_58, rfl⟩ := hp_57
              have el_59 : r_53 = loF g_1 sd v_49 4 0 := by rw [aI_of F_A0] at xp_58; exact xp_58
              have elo : r_53 = lo9 := by rw [el_59, e_50, e_48]; exact l1
              have ilo := congrArg Int32.toInt elo
              refine hm_calli (va_runV (As := [.int r_53]) (b := m9) (rest := []) ⟨hx, hb, hml, hown, hts⟩ (m_look l D t G ak av h_41 τ n m9 r_53 A (0 : Int32) sd lo le wr ma nu di pl se wg op   hn hT T_m9  F_m9 hA ⟨hsd, hlo, (by omega), ⟨by omega, by omega⟩, ⟨by omega, by omega⟩⟩ (by omega) (by omega)) ⟨cw9B 1 hts mw_807 mw_808 mw_579 rfl rfl (by decide +kernel) ⟨Nat.le_of_ble_eq_true rfl, Nat.le_of_ble_eq_true rfl⟩, hts _ mw_809, hts _ mw_810⟩ (hP_V (q := (R_Mo, F_Mo, 41)) kE_ok hE hK hH F_m9 rfl) rfl rfl hl.1 rfl (lv_room (Nat.le_of_ble_eq_true rfl)) d_Mo_mark_100 ⟨Nat.le_of_ble_eq_true rfl, Nat.le_of_ble_eq_true rfl⟩) hLo (fun r_60 h_61 H_62 locs hp_64 hH z_63 hLo => ?_)
              have hz : s.heap.size ≤ H_62.size := Nat.le_trans hz z_63
              have hT0 := hT
              obtain ⟨hT, kf_66, xp_65⟩ := hp_64
              have F_A0 : h_61 (A 0) = some (.inl ((t 0), 819200, .inl g_1)) := kf_at kf_66 (hA 0 (by decide)) (by decide) (tncF (by decide) (tncF (by decide) (tncF (by decide) (tncF (by decide) (tncF (by decide) (tncF (by decide) tn0)))))) (nmc (tne (hA 0 (by decide)) T_m9 (by decide)) nm0) F_A0
              have hkf : kf τ [(30, 17), (30, 18), (30, 19), (30, 20), (30, 21), (30, 22)] [m9] h h_61 := kf_tr hkf kf_66 (List.forall_mem_cons.mpr ⟨List.mem_cons_self, List.forall_mem_cons.mpr ⟨(List.mem_cons_of_mem _ List.mem_cons_self), List.forall_mem_cons.mpr ⟨(List.mem_cons_of_mem _ (List.mem_cons_of_mem _ List.mem_cons_self)), List.forall_mem_cons.mpr ⟨(List.mem_cons_of_mem _ (List.mem_cons_of_mem _ (List.mem_cons_of_mem _ List.mem_cons_self))), List.forall_mem_cons.mpr ⟨(List.mem_cons_of_mem _ (List.mem_cons_of_mem _ (List.mem_cons_of_mem _ (List.mem_cons_of_mem _ List.mem_cons_self)))), List.forall_mem_cons.mpr ⟨(List.mem_cons_of_mem _ (List.mem_cons_of_mem _ (List.mem_cons_of_mem _ (List.mem_cons_of_mem _ (List.mem_cons_of_mem _ List.mem_cons_self))))), List.forall_mem_nil _⟩⟩⟩⟩⟩⟩) (List.forall_mem_cons.mpr ⟨Or.inl (by simp), List.forall_mem_nil _⟩)
              obtain ⟨se_67, wg_68, F_m9, mk_69, xq_70⟩ := xp_65
              obtain ⟨m_71, m_72, m_73, m_74, m_75⟩ := mk_69
              exact W.iret (v := r_60) hx hb hr (fun t9 ht hW => ⟨r_60, h_61, rfl, ⟨hT, hkf, ⟨(0 : Int32), se_67, wg_68, F_m9, ⟨m_71, m_72, (by omega), ⟨by omega, by omega⟩, ⟨by omega, by omega⟩⟩⟩⟩, by rw [ht]; exact hH, by rw [ht]; exact hz⟩) hLo d_Mo_mark_103
            · skip
              have ic_76 : w9.toInt = 2 := congrArg Int32.toInt hc_46
              refine lv_aload_n hx hb d_Mo_mark_71 rfl (lv_at hl 1 rfl) ?_
              refine lv_sipush (v := 2048) hx hb d_Mo_mark_72 (by decide) ?_
              refine lv_iload_n hx hb d_Mo_mark_75 rfl (lv_at hl 0 rfl) ?_
              refine lv_imul hx hb d_Mo_mark_76 ?_
              refine lv_topi (fun v_77 e_78 => ?_)
              refine lv_bipush (v := 8) hx hb d_Mo_mark_77 (by decide) ?_
              refine lv_iadd hx hb d_Mo_mark_79 ?_
              refine lv_topi (fun v_79 e_80 => ?_)
              refine lv_iconst (v := 4) hx hb d_Mo_mark_80 (by decide) ?_
              have is_81 : v_77.toInt = 2048 * r_3.toInt := by rw [e_78]; exact iMulL 2048 rfl (by omega) (by omega)
              have is_82 : v_79.toInt = v_77.toInt + 8 := by rw [e_80]; exact iAddK 8 rfl (by omega) (by omega)
              refine hm_callPi (va_runV (As := [.int v_79, .int 4]) (b := m9) (rest := []) ⟨hx, hb, hml, hown, hts⟩ (m_lowAt l D t G ak av h_41 τ n m9 v_79 4 A (0 : Int32) sd lo le wr ma nu di pl se wg op   hn hT T_m9  F_m9 hA ⟨hsd, hlo, (by omega), ⟨by omega, by omega⟩, ⟨by omega, by omega⟩⟩ (by have l0 : (4 : Int32).toInt = 4 := rfl; omega) (by have l0 : (4 : Int32).toInt = 4 := rfl; omega) (by have l0 : (4 : Int32).toInt = 4 := rfl; omega)) ⟨cw9B 2 hts mw_742 mw_743 mw_579 rfl rfl (by decide +kernel) ⟨Nat.le_of_ble_eq_true rfl, Nat.le_of_ble_eq_true rfl⟩, hts _ mw_744, hts _ mw_745⟩ (hP_V (q := (R_Mo, F_Mo, 41)) kE_ok hE hK hH F_m9 rfl) rfl rfl hl.1 rfl (lv_room (Nat.le_of_ble_eq_true rfl)) d_Mo_mark_81 ⟨Nat.le_of_ble_eq_true rfl, Nat.le_of_ble_eq_true rfl⟩) (fun r_83 h_84 H_85 hp_87  hH z_86 => ?_)
              have hz : s.heap.size ≤ H_85.size := Nat.le_trans hz z_86
              obtain ⟨xp_88, rfl⟩ := hp_87
              have el_89 : r_83 = loF g_1 sd v_79 4 0 := by rw [aI_of F_A0] at xp_88; exact xp_88
              refine lv_goto (tgt := 103) hx hb d_Mo_mark_84 (by decide) ?_
              exact W.iret (v := r_83) hx hb hr (fun t9 ht hW => ⟨r_83, h_41, rfl, ⟨hT, hkf, ⟨(0 : Int32), se, wg, F_m9, ⟨hsd, hlo, (by omega), ⟨by omega, by omega⟩, ⟨by omega, by omega⟩⟩⟩⟩, by rw [ht]; exact hH, by rw [ht]; exact hz⟩) hLo d_Mo_mark_103
          · skip
            have ic_90 : w9.toInt = 1 := congrArg Int32.toInt hc_45
            refine lv_aload_n hx hb d_Mo_mark_51 rfl (lv_at hl 1 rfl) ?_
            refine lv_sipush (v := 2048) hx hb d_Mo_mark_52 (by decide) ?_
            refine lv_iload_n hx hb d_Mo_mark_55 rfl (lv_at hl 0 rfl) ?_
            refine lv_imul hx hb d_Mo_mark_56 ?_
            refine lv_topi (fun v_91 e_92 => ?_)
            refine lv_iconst (v := 4) hx hb d_Mo_mark_57 (by decide) ?_
            refine lv_iadd hx hb d_Mo_mark_58 ?_
            refine lv_topi (fun v_93 e_94 => ?_)
            refine lv_iconst (v := 4) hx hb d_Mo_mark_59 (by decide) ?_
            have is_95 : v_91.toInt = 2048 * r_3.toInt := by rw [e_92]; exact iMulL 2048 rfl (by omega) (by omega)
            have is_96 : v_93.toInt = v_91.toInt + 4 := by rw [e_94]; exact iAddK 4 rfl (by omega) (by omega)
            refine hm_callPi (va_runV (As := [.int v_93, .int 4]) (b := m9) (rest := []) ⟨hx, hb, hml, hown, hts⟩ (m_lowAt l D t G ak av h_41 τ n m9 v_93 4 A (0 : Int32) sd lo le wr ma nu di pl se wg op   hn hT T_m9  F_m9 hA ⟨hsd, hlo, (by omega), ⟨by omega, by omega⟩, ⟨by omega, by omega⟩⟩ (by have l0 : (4 : Int32).toInt = 4 := rfl; omega) (by have l0 : (4 : Int32).toInt = 4 := rfl; omega) (by have l0 : (4 : Int32).toInt = 4 := rfl; omega)) ⟨cw9B 2 hts mw_742 mw_743 mw_579 rfl rfl (by decide +kernel) ⟨Nat.le_of_ble_eq_true rfl, Nat.le_of_ble_eq_true rfl⟩, hts _ mw_744, hts _ mw_745⟩ (hP_V (q := (R_Mo, F_Mo, 41)) kE_ok hE hK hH F_m9 rfl) rfl rfl hl.1 rfl (lv_room (Nat.le_of_ble_eq_true rfl)) d_Mo_mark_60 ⟨Nat.le_of_ble_eq_true rfl, Nat.le_of_ble_eq_true rfl⟩) (fun r_97 h_98 H_99 hp_101  hH z_100 => ?_)
            have hz : s.heap.size ≤ H_99.size := Nat.le_trans hz z_100
            obtain ⟨xp_102, rfl⟩ := hp_101
            have el_103 : r_97 = loF g_1 sd v_93 4 0 := by rw [aI_of F_A0] at xp_102; exact xp_102
            refine lv_goto (tgt := 103) hx hb d_Mo_mark_63 (by decide) ?_
            exact W.iret (v := r_97) hx hb hr (fun t9 ht hW => ⟨r_97, h_41, rfl, ⟨hT, hkf, ⟨(0 : Int32), se, wg, F_m9, ⟨hsd, hlo, (by omega), ⟨by omega, by omega⟩, ⟨by omega, by omega⟩⟩⟩⟩, by rw [ht]; exact hH, by rw [ht]; exact hz⟩) hLo d_Mo_mark_103
        · skip
          have ic_104 : w9.toInt = 0 := congrArg Int32.toInt hc_44
          refine lv_iload_n hx hb d_Mo_mark_42 rfl (lv_at hl 0 rfl) ?_
          refine lv_goto (tgt := 103) hx hb d_Mo_mark_43 (by decide) ?_
          exact W.iret (v := r_3) hx hb hr (fun t9 ht hW => ⟨r_3, h_41, rfl, ⟨hT, hkf, ⟨(0 : Int32), se, wg, F_m9, ⟨hsd, hlo, (by omega), ⟨by omega, by omega⟩, ⟨by omega, by omega⟩⟩⟩⟩, by rw [ht]; exact hH, by rw [ht]; exact hz⟩) hLo d_Mo_mark_103

set_option maxHeartbeats 4000000 in
set_option maxRecDepth 100000 in
theorem m_root (l : Launch) (D : va_G) (t : Nat → ClassId) (G : hG) (ak av : Nat → Nat) (h : hM) (τ : tM) (n : Nat) (m9 : Nat) (A : Nat → Nat) (th sd lo le wr ma nu di pl se wg op : Int32) (hn : n ≤ 200) (hT : TI τ t n h) (T_m9 : τ m9 = (20, 0)) (F_m9 : h m9 = some (.inr (9, mf A n th sd lo le wr ma nu di pl se wg op))) (hA : ∀ i, i < 28 → τ (A i) = (30, i)) (hmk : mOk sd lo ma se op) : Met l y_Mo_rootAlone (.code y_Mo_rootAlone b_Mo_rootAlone 1 none :: lw_g) { frames := 0, cells := 0, slots := 0, locals := 0 } (hP (kE D t G ak av) D vwCl G h [.ref m9]) (hQv D vwCl G (fun h' => TI τ t n h' ∧ kf τ [(30, 4), (30, 5), (30, 6), (30, 7), (30, 8), (30, 9), (30, 11)] [m9] h h' ∧ (∃ (ma' : Int32), h' m9 = some (.inr (9, mf A n th sd lo le wr ma' nu di pl se wg op)) ∧ mOk sd lo ma' se op ∧ (ma' = 1 ∧ aI h' (A 4) = upd (aI h (A 4)) 0 1 ∧ aI h' (A 5) = upd (aI h (A 5)) 0 1)))) 0 0 G.P := by
  refine Met.ofW (cc := b_Mo_rootAlone) (maxL := 1) (ret := none) (by decide) rfl ?_
  intro p e s m args below meth c s₁ Bd hml hv
  obtain ⟨ha, hE, hH⟩ := hv
  have hx := Bd.exec
  have hb := Bd.bytes
  have hr := Bd.returns
  have hts : ∀ w ∈ lw_g, w.before args s = true := fun w hw => atoms_spec (ws := (.code y_Mo_rootAlone b_Mo_rootAlone 1 none :: lw_g)) Bd.pre w (List.mem_cons_of_mem _ hw)
  have hown : s.vm.findClass R_Mo = some m.cls := findClass_of_methodNamed Bd.named
  have hlocks := Bd.notSynchronized
  have hK := hE.1
  have hH0 := hH
  have hLo : hLc G.P [] := hLc_nil
  have hz : s.heap.size ≤ s.heap.size := Nat.le_refl _
  have hl := lv_entry [.ref m9] (n := 1) (Nat.le_of_ble_eq_true rfl)
  rw [show entryFrame m args 1 = F0 m 0 ((lg_sl [.ref m9] ++ List.replicate (1 - (lg_sl [.ref m9]).length) Slot.unset).toArray) [] from (by rw [ha]; exact lg_entry_eq m [.ref m9] 1)]
  generalize (lg_sl [.ref m9] ++ List.replicate (1 - (lg_sl [.ref m9]).length) Slot.unset).toArray = ls at hl ⊢
  have hl : lv_has ls 1 [(0, .ref m9)] := hl
  have hkf : kf τ [(30, 4), (30, 5), (30, 6), (30, 7), (30, 8), (30, 9), (30, 11)] [m9] h h := kf_rf
  obtain ⟨hsd, hlo, hma, hse, hop⟩ := id hmk
  have inI : (nI n).toInt = n := nI_toInt (by omega)
  obtain ⟨g_1, F_A4, c_2⟩ := TI_arZ (L := 700) hT (hA 4 (by decide)) rfl rfl
  obtain ⟨g_3, F_A5, c_4⟩ := TI_arZ (L := 700) hT (hA 5 (by decide)) rfl rfl
  have h4e := aI_of F_A4
  have h5e := aI_of F_A5
  refine lv_aload_n hx hb d_Mo_rootAlone_0 rfl (lv_at hl 0 rfl) ?_
  refine lv_iconst (v := 1) hx hb d_Mo_rootAlone_1 (by decide) ?_
  refine hm_put (ci := 9) (v := .int 1) (ty := .int) (C := R_Mo) (T := F_Mo) (N := 41) hx hb hts ig_Mo t_Mo tk_Mo nm_Mo hown hK hH hLo F_m9 rfl 10 (by decide) (hts _ mw_595) (fun _ h9 => h9) rfl (by decide +kernel) rfl rfl (Nat.le_of_ble_eq_true rfl) d_Mo_rootAlone_2 (fun H_5 locs hH z_6 hLo => ?_)
  have hz : s.heap.size ≤ H_5.size := by rw [z_6]; exact hz
  obtain ⟨h_7, e_8⟩ : ∃ z, z = hu h m9 (.inr (9, mf A n th sd lo le wr 1 nu di pl se wg op)) := ⟨_, rfl⟩
  have hH : hm D vwCl G h_7 H_5 := by rw [e_8]; exact hH
  have F_A4 : h_7 (A 4) = some (.inl ((t 1), 700, .inl g_1)) := by rw [e_8, hu_n (tne (hA 4 (by decide)) T_m9 (by decide))]; exact F_A4
  have F_A5 : h_7 (A 5) = some (.inl ((t 1), 700, .inl g_3)) := by rw [e_8, hu_n (tne (hA 5 (by decide)) T_m9 (by decide))]; exact F_A5
  have F_m9 : h_7 m9 = some (.inr (9, mf A n th sd lo le wr 1 nu di pl se wg op)) := by rw [e_8]; exact hu_s _ _ _
  have hT : TI τ t n h_7 := by rw [e_8]; exact TI_put hT T_m9 (by decide) ⟨_, rfl⟩
  have hkf : kf τ [(30, 4), (30, 5), (30, 6), (30, 7), (30, 8), (30, 9), (30, 11)] [m9] h h_7 := by rw [e_8]; exact kf_putM hkf (by simp)
  refine lv_aload_n hx hb d_Mo_rootAlone_5 rfl (lv_at hl 0 rfl) ?_
  refine hm_get (ci := 9) (v := .ref (A 4)) (C := R_Mo) (T := F_Mo) (N := 41) hx hb hts ig_Mo hown hK hH F_m9 rfl 11 (by decide) (hts _ mw_596) (fun _ h9 => h9) rfl d_Mo_rootAlone_6 ?_
  refine lv_iconst (v := 0) hx hb d_Mo_rootAlone_9 (by decide) ?_
  refine lv_iconst (v := 1) hx hb d_Mo_rootAlone_10 (by decide) ?_
  refine hm_zast hx hb hK hH hLo 1 F_A4 rfl (iIn (by decide) (by decide)) d_Mo_rootAlone_11 (fun H_9 locs hH z_10 hLo => ?_)
  have hz : s.heap.size ≤ H_9.size := by rw [z_10]; exact hz
  rw [zb_nar (v := 1) zb1] at hH
  obtain ⟨h_11, e_12⟩ : ∃ z, z = hu h_7 (A 4) (.inl ((t 1), 700, .inl (upd g_1 ((0 : Int32).toNatClampNeg) (1 : Int32)))) := ⟨_, rfl⟩
  have hH : hm D vwCl G h_11 H_9 := by rw [e_12]; exact hH
  have F_m9 : h_11 m9 = some (.inr (9, mf A n th sd lo le wr 1 nu di pl se wg op)) := by rw [e_12, hu_n (tne T_m9 (hA 4 (by decide)) (by decide))]; exact F_m9
  have F_A5 : h_11 (A 5) = some (.inl ((t 1), 700, .inl g_3)) := by rw [e_12, hu_n (tneF (hA 5 (by decide)) (hA 4 (by decide)) (by decide))]; exact F_A5
  have F_A4 : h_11 (A 4) = some (.inl ((t 1), 700, .inl (upd g_1 ((0 : Int32).toNatClampNeg) (1 : Int32)))) := by rw [e_12]; exact hu_s _ _ _
  have hT : TI τ t n h_11 := by rw [e_12]; exact TI_put hT (hA 4 (by decide)) (by decide) (ok_Z rfl rfl (zbF_up c_2 zb1))
  have hkf : kf τ [(30, 4), (30, 5), (30, 6), (30, 7), (30, 8), (30, 9), (30, 11)] [m9] h h_11 := by rw [e_12]; exact kf_put hkf (hA 4 (by decide)) List.mem_cons_self
  obtain ⟨g_13, e_14⟩ : ∃ z, z = upd g_1 ((0 : Int32).toNatClampNeg) (1 : Int32) := ⟨_, rfl⟩
  rw [← e_14] at F_A4
  have c_15 : zbF g_13 := by rw [e_14]; exact (zbF_up c_2 zb1)
  refine lv_aload_n hx hb d_Mo_rootAlone_12 rfl (lv_at hl 0 rfl) ?_
  refine hm_get (ci := 9) (v := .ref (A 5)) (C := R_Mo) (T := F_Mo) (N := 41) hx hb hts ig_Mo hown hK hH F_m9 rfl 12 (by decide) (hts _ mw_606) (fun _ h9 => h9) rfl d_Mo_rootAlone_13 ?_
  refine lv_iconst (v := 0) hx hb d_Mo_rootAlone_16 (by decide) ?_
  refine lv_iconst (v := 1) hx hb d_Mo_rootAlone_17 (by decide) ?_
  refine hm_zast hx hb hK hH hLo 1 F_A5 rfl (iIn (by decide) (by decide)) d_Mo_rootAlone_18 (fun H_16 locs hH z_17 hLo => ?_)
  have hz : s.heap.size ≤ H_16.size := by rw [z_17]; exact hz
  rw [zb_nar (v := 1) zb1] at hH
  obtain ⟨h_18, e_19⟩ : ∃ z, z = hu h_11 (A 5) (.inl ((t 1), 700, .inl (upd g_3 ((0 : Int32).toNatClampNeg) (1 : Int32)))) := ⟨_, rfl⟩
  have hH : hm D vwCl G h_18 H_16 := by rw [e_19]; exact hH
  have F_m9 : h_18 m9 = some (.inr (9, mf A n th sd lo le wr 1 nu di pl se wg op)) := by rw [e_19, hu_n (tne T_m9 (hA 5 (by decide)) (by decide))]; exact F_m9
  have F_A4 : h_18 (A 4) = some (.inl ((t 1), 700, .inl g_13)) := by rw [e_19, hu_n (tneF (hA 4 (by decide)) (hA 5 (by decide)) (by decide))]; exact F_A4
  have F_A5 : h_18 (A 5) = some (.inl ((t 1), 700, .inl (upd g_3 ((0 : Int32).toNatClampNeg) (1 : Int32)))) := by rw [e_19]; exact hu_s _ _ _
  have hT : TI τ t n h_18 := by rw [e_19]; exact TI_put hT (hA 5 (by decide)) (by decide) (ok_Z rfl rfl (zbF_up c_4 zb1))
  have hkf : kf τ [(30, 4), (30, 5), (30, 6), (30, 7), (30, 8), (30, 9), (30, 11)] [m9] h h_18 := by rw [e_19]; exact kf_put hkf (hA 5 (by decide)) (List.mem_cons_of_mem _ List.mem_cons_self)
  obtain ⟨g_20, e_21⟩ : ∃ z, z = upd g_3 ((0 : Int32).toNatClampNeg) (1 : Int32) := ⟨_, rfl⟩
  rw [← e_21] at F_A5
  have c_22 : zbF g_20 := by rw [e_21]; exact (zbF_up c_4 zb1)
  refine lv_aload_n hx hb d_Mo_rootAlone_19 rfl (lv_at hl 0 rfl) ?_
  refine hm_get (ci := 9) (v := .ref (A 6)) (C := R_Mo) (T := F_Mo) (N := 41) hx hb hts ig_Mo hown hK hH F_m9 rfl 13 (by decide) (hts _ mw_597) (fun _ h9 => h9) rfl d_Mo_rootAlone_20 ?_
  refine lv_iconst (v := 0) hx hb d_Mo_rootAlone_23 (by decide) ?_
  refine lv_iconst (v := -1) hx hb d_Mo_rootAlone_24 (by decide) ?_
  obtain ⟨g_23, F_A6⟩ := TI_arI (L := 700) hT (hA 6 (by decide)) rfl rfl
  refine hm_iast hx hb hK hH hLo 2 F_A6 rfl (iIn (by decide) (by decide)) d_Mo_rootAlone_25 (fun H_24 locs hH z_25 hLo => ?_)
  have hz : s.heap.size ≤ H_24.size := by rw [z_25]; exact hz
  obtain ⟨h_26, e_27⟩ : ∃ z, z = hu h_18 (A 6) (.inl ((t 2), 700, .inl (upd g_23 ((0 : Int32).toNatClampNeg) ((-1) : Int32)))) := ⟨_, rfl⟩
  have hH : hm D vwCl G h_26 H_24 := by rw [e_27]; exact hH
  have F_m9 : h_26 m9 = some (.inr (9, mf A n th sd lo le wr 1 nu di pl se wg op)) := by rw [e_27, hu_n (tne T_m9 (hA 6 (by decide)) (by decide))]; exact F_m9
  have F_A4 : h_26 (A 4) = some (.inl ((t 1), 700, .inl g_13)) := by rw [e_27, hu_n (tneF (hA 4 (by decide)) (hA 6 (by decide)) (by decide))]; exact F_A4
  have F_A5 : h_26 (A 5) = some (.inl ((t 1), 700, .inl g_20)) := by rw [e_27, hu_n (tneF (hA 5 (by decide)) (hA 6 (by decide)) (by decide))]; exact F_A5
  have F_A6 : h_26 (A 6) = some (.inl ((t 2), 700, .inl (upd g_23 ((0 : Int32).toNatClampNeg) ((-1) : Int32)))) := by rw [e_27]; exact hu_s _ _ _
  have hT : TI τ t n h_26 := by rw [e_27]; exact TI_put hT (hA 6 (by decide)) (by decide) (ok_I rfl rfl)
  have hkf : kf τ [(30, 4), (30, 5), (30, 6), (30, 7), (30, 8), (30, 9), (30, 11)] [m9] h h_26 := by rw [e_27]; exact kf_put hkf (hA 6 (by decide)) (List.mem_cons_of_mem _ (List.mem_cons_of_mem _ List.mem_cons_self))
  obtain ⟨g_28, e_29⟩ : ∃ z, z = upd g_23 ((0 : Int32).toNatClampNeg) ((-1) : Int32) := ⟨_, rfl⟩
  rw [← e_29] at F_A6
  refine lv_aload_n hx hb d_Mo_rootAlone_26 rfl (lv_at hl 0 rfl) ?_
  refine hm_get (ci := 9) (v := .ref (A 7)) (C := R_Mo) (T := F_Mo) (N := 41) hx hb hts ig_Mo hown hK hH F_m9 rfl 14 (by decide) (hts _ mw_598) (fun _ h9 => h9) rfl d_Mo_rootAlone_27 ?_
  refine lv_iconst (v := 0) hx hb d_Mo_rootAlone_30 (by decide) ?_
  refine lv_lconst (v := 0) hx hb d_Mo_rootAlone_31 (by decide) ?_
  obtain ⟨g_30, F_A7⟩ := TI_arJ (L := 700) hT (hA 7 (by decide)) rfl rfl
  refine hm_last hx hb hK hH hLo 3 F_A7 rfl (iIn (by decide) (by decide)) d_Mo_rootAlone_32 (fun H_31 locs hH z_32 hLo => ?_)
  have hz : s.heap.size ≤ H_31.size := by rw [z_32]; exact hz
  obtain ⟨h_33, e_34⟩ : ∃ z, z = hu h_26 (A 7) (.inl ((t 3), 700, .inr (.inl (vp_updL g_30 ((0 : Int32).toNatClampNeg) (0 : Int64))))) := ⟨_, rfl⟩
  have hH : hm D vwCl G h_33 H_31 := by rw [e_34]; exact hH
  have F_m9 : h_33 m9 = some (.inr (9, mf A n th sd lo le wr 1 nu di pl se wg op)) := by rw [e_34, hu_n (tne T_m9 (hA 7 (by decide)) (by decide))]; exact F_m9
  have F_A4 : h_33 (A 4) = some (.inl ((t 1), 700, .inl g_13)) := by rw [e_34, hu_n (tneF (hA 4 (by decide)) (hA 7 (by decide)) (by decide))]; exact F_A4
  have F_A5 : h_33 (A 5) = some (.inl ((t 1), 700, .inl g_20)) := by rw [e_34, hu_n (tneF (hA 5 (by decide)) (hA 7 (by decide)) (by decide))]; exact F_A5
  have F_A6 : h_33 (A 6) = some (.inl ((t 2), 700, .inl g_28)) := by rw [e_34, hu_n (tneF (hA 6 (by decide)) (hA 7 (by decide)) (by decide))]; exact F_A6
  have F_A7 : h_33 (A 7) = some (.inl ((t 3), 700, .inr (.inl (vp_updL g_30 ((0 : Int32).toNatClampNeg) (0 : Int64))))) := by rw [e_34]; exact hu_s _ _ _
  have hT : TI τ t n h_33 := by rw [e_34]; exact TI_put hT (hA 7 (by decide)) (by decide) (ok_J rfl rfl)
  have hkf : kf τ [(30, 4), (30, 5), (30, 6), (30, 7), (30, 8), (30, 9), (30, 11)] [m9] h h_33 := by rw [e_34]; exact kf_put hkf (hA 7 (by decide)) (List.mem_cons_of_mem _ (List.mem_cons_of_mem _ (List.mem_cons_of_mem _ List.mem_cons_self)))
  obtain ⟨g_35, e_36⟩ : ∃ z, z = vp_updL g_30 ((0 : Int32).toNatClampNeg) (0 : Int64) := ⟨_, rfl⟩
  rw [← e_36] at F_A7
  refine lv_aload_n hx hb d_Mo_rootAlone_33 rfl (lv_at hl 0 rfl) ?_
  refine hm_get (ci := 9) (v := .ref (A 8)) (C := R_Mo) (T := F_Mo) (N := 41) hx hb hts ig_Mo hown hK hH F_m9 rfl 15 (by decide) (hts _ mw_615) (fun _ h9 => h9) rfl d_Mo_rootAlone_34 ?_
  refine lv_iconst (v := 0) hx hb d_Mo_rootAlone_37 (by decide) ?_
  refine lv_iconst (v := 0) hx hb d_Mo_rootAlone_38 (by decide) ?_
  obtain ⟨g_37, F_A8⟩ := TI_arI (L := 700) hT (hA 8 (by decide)) rfl rfl
  refine hm_iast hx hb hK hH hLo 2 F_A8 rfl (iIn (by decide) (by decide)) d_Mo_rootAlone_39 (fun H_38 locs hH z_39 hLo => ?_)
  have hz : s.heap.size ≤ H_38.size := by rw [z_39]; exact hz
  obtain ⟨h_40, e_41⟩ : ∃ z, z = hu h_33 (A 8) (.inl ((t 2), 700, .inl (upd g_37 ((0 : Int32).toNatClampNeg) (0 : Int32)))) := ⟨_, rfl⟩
  have hH : hm D vwCl G h_40 H_38 := by rw [e_41]; exact hH
  have F_m9 : h_40 m9 = some (.inr (9, mf A n th sd lo le wr 1 nu di pl se wg op)) := by rw [e_41, hu_n (tne T_m9 (hA 8 (by decide)) (by decide))]; exact F_m9
  have F_A4 : h_40 (A 4) = some (.inl ((t 1), 700, .inl g_13)) := by rw [e_41, hu_n (tneF (hA 4 (by decide)) (hA 8 (by decide)) (by decide))]; exact F_A4
  have F_A5 : h_40 (A 5) = some (.inl ((t 1), 700, .inl g_20)) := by rw [e_41, hu_n (tneF (hA 5 (by decide)) (hA 8 (by decide)) (by decide))]; exact F_A5
  have F_A6 : h_40 (A 6) = some (.inl ((t 2), 700, .inl g_28)) := by rw [e_41, hu_n (tneF (hA 6 (by decide)) (hA 8 (by decide)) (by decide))]; exact F_A6
  have F_A7 : h_40 (A 7) = some (.inl ((t 3), 700, .inr (.inl g_35))) := by rw [e_41, hu_n (tneF (hA 7 (by decide)) (hA 8 (by decide)) (by decide))]; exact F_A7
  have F_A8 : h_40 (A 8) = some (.inl ((t 2), 700, .inl (upd g_37 ((0 : Int32).toNatClampNeg) (0 : Int32)))) := by rw [e_41]; exact hu_s _ _ _
  have hT : TI τ t n h_40 := by rw [e_41]; exact TI_put hT (hA 8 (by decide)) (by decide) (ok_I rfl rfl)
  have hkf : kf τ [(30, 4), (30, 5), (30, 6), (30, 7), (30, 8), (30, 9), (30, 11)] [m9] h h_40 := by rw [e_41]; exact kf_put hkf (hA 8 (by decide)) (List.mem_cons_of_mem _ (List.mem_cons_of_mem _ (List.mem_cons_of_mem _ (List.mem_cons_of_mem _ List.mem_cons_self))))
  obtain ⟨g_42, e_43⟩ : ∃ z, z = upd g_37 ((0 : Int32).toNatClampNeg) (0 : Int32) := ⟨_, rfl⟩
  rw [← e_43] at F_A8
  refine lv_aload_n hx hb d_Mo_rootAlone_40 rfl (lv_at hl 0 rfl) ?_
  refine hm_get (ci := 9) (v := .ref (A 9)) (C := R_Mo) (T := F_Mo) (N := 41) hx hb hts ig_Mo hown hK hH F_m9 rfl 16 (by decide) (hts _ mw_616) (fun _ h9 => h9) rfl d_Mo_rootAlone_41 ?_
  refine lv_iconst (v := 0) hx hb d_Mo_rootAlone_44 (by decide) ?_
  refine lv_iconst (v := 0) hx hb d_Mo_rootAlone_45 (by decide) ?_
  obtain ⟨g_44, F_A9⟩ := TI_arI (L := 700) hT (hA 9 (by decide)) rfl rfl
  refine hm_iast hx hb hK hH hLo 2 F_A9 rfl (iIn (by decide) (by decide)) d_Mo_rootAlone_46 (fun H_45 locs hH z_46 hLo => ?_)
  have hz : s.heap.size ≤ H_45.size := by rw [z_46]; exact hz
  obtain ⟨h_47, e_48⟩ : ∃ z, z = hu h_40 (A 9) (.inl ((t 2), 700, .inl (upd g_44 ((0 : Int32).toNatClampNeg) (0 : Int32)))) := ⟨_, rfl⟩
  have hH : hm D vwCl G h_47 H_45 := by rw [e_48]; exact hH
  have F_m9 : h_47 m9 = some (.inr (9, mf A n th sd lo le wr 1 nu di pl se wg op)) := by rw [e_48, hu_n (tne T_m9 (hA 9 (by decide)) (by decide))]; exact F_m9
  have F_A4 : h_47 (A 4) = some (.inl ((t 1), 700, .inl g_13)) := by rw [e_48, hu_n (tneF (hA 4 (by decide)) (hA 9 (by decide)) (by decide))]; exact F_A4
  have F_A5 : h_47 (A 5) = some (.inl ((t 1), 700, .inl g_20)) := by rw [e_48, hu_n (tneF (hA 5 (by decide)) (hA 9 (by decide)) (by decide))]; exact F_A5
  have F_A6 : h_47 (A 6) = some (.inl ((t 2), 700, .inl g_28)) := by rw [e_48, hu_n (tneF (hA 6 (by decide)) (hA 9 (by decide)) (by decide))]; exact F_A6
  have F_A7 : h_47 (A 7) = some (.inl ((t 3), 700, .inr (.inl g_35))) := by rw [e_48, hu_n (tneF (hA 7 (by decide)) (hA 9 (by decide)) (by decide))]; exact F_A7
  have F_A8 : h_47 (A 8) = some (.inl ((t 2), 700, .inl g_42)) := by rw [e_48, hu_n (tneF (hA 8 (by decide)) (hA 9 (by decide)) (by decide))]; exact F_A8
  have F_A9 : h_47 (A 9) = some (.inl ((t 2), 700, .inl (upd g_44 ((0 : Int32).toNatClampNeg) (0 : Int32)))) := by rw [e_48]; exact hu_s _ _ _
  have hT : TI τ t n h_47 := by rw [e_48]; exact TI_put hT (hA 9 (by decide)) (by decide) (ok_I rfl rfl)
  have hkf : kf τ [(30, 4), (30, 5), (30, 6), (30, 7), (30, 8), (30, 9), (30, 11)] [m9] h h_47 := by rw [e_48]; exact kf_put hkf (hA 9 (by decide)) (List.mem_cons_of_mem _ (List.mem_cons_of_mem _ (List.mem_cons_of_mem _ (List.mem_cons_of_mem _ (List.mem_cons_of_mem _ List.mem_cons_self)))))
  obtain ⟨g_49, e_50⟩ : ∃ z, z = upd g_44 ((0 : Int32).toNatClampNeg) (0 : Int32) := ⟨_, rfl⟩
  rw [← e_50] at F_A9
  refine lv_aload_n hx hb d_Mo_rootAlone_47 rfl (lv_at hl 0 rfl) ?_
  refine hm_get (ci := 9) (v := .ref (A 11)) (C := R_Mo) (T := F_Mo) (N := 41) hx hb hts ig_Mo hown hK hH F_m9 rfl 18 (by decide) (hts _ mw_618) (fun _ h9 => h9) rfl d_Mo_rootAlone_48 ?_
  refine lv_iconst (v := 0) hx hb d_Mo_rootAlone_51 (by decide) ?_
  refine lv_iconst (v := 0) hx hb d_Mo_rootAlone_52 (by decide) ?_
  obtain ⟨g_51, F_A11⟩ := TI_arI (L := 700) hT (hA 11 (by decide)) rfl rfl
  refine hm_iast hx hb hK hH hLo 2 F_A11 rfl (iIn (by decide) (by decide)) d_Mo_rootAlone_53 (fun H_52 locs hH z_53 hLo => ?_)
  have hz : s.heap.size ≤ H_52.size := by rw [z_53]; exact hz
  obtain ⟨h_54, e_55⟩ : ∃ z, z = hu h_47 (A 11) (.inl ((t 2), 700, .inl (upd g_51 ((0 : Int32).toNatClampNeg) (0 : Int32)))) := ⟨_, rfl⟩
  have hH : hm D vwCl G h_54 H_52 := by rw [e_55]; exact hH
  have F_m9 : h_54 m9 = some (.inr (9, mf A n th sd lo le wr 1 nu di pl se wg op)) := by rw [e_55, hu_n (tne T_m9 (hA 11 (by decide)) (by decide))]; exact F_m9
  have F_A4 : h_54 (A 4) = some (.inl ((t 1), 700, .inl g_13)) := by rw [e_55, hu_n (tneF (hA 4 (by decide)) (hA 11 (by decide)) (by decide))]; exact F_A4
  have F_A5 : h_54 (A 5) = some (.inl ((t 1), 700, .inl g_20)) := by rw [e_55, hu_n (tneF (hA 5 (by decide)) (hA 11 (by decide)) (by decide))]; exact F_A5
  have F_A6 : h_54 (A 6) = some (.inl ((t 2), 700, .inl g_28)) := by rw [e_55, hu_n (tneF (hA 6 (by decide)) (hA 11 (by decide)) (by decide))]; exact F_A6
  have F_A7 : h_54 (A 7) = some (.inl ((t 3), 700, .inr (.inl g_35))) := by rw [e_55, hu_n (tneF (hA 7 (by decide)) (hA 11 (by decide)) (by decide))]; exact F_A7
  have F_A8 : h_54 (A 8) = some (.inl ((t 2), 700, .inl g_42)) := by rw [e_55, hu_n (tneF (hA 8 (by decide)) (hA 11 (by decide)) (by decide))]; exact F_A8
  have F_A9 : h_54 (A 9) = some (.inl ((t 2), 700, .inl g_49)) := by rw [e_55, hu_n (tneF (hA 9 (by decide)) (hA 11 (by decide)) (by decide))]; exact F_A9
  have F_A11 : h_54 (A 11) = some (.inl ((t 2), 700, .inl (upd g_51 ((0 : Int32).toNatClampNeg) (0 : Int32)))) := by rw [e_55]; exact hu_s _ _ _
  have hT : TI τ t n h_54 := by rw [e_55]; exact TI_put hT (hA 11 (by decide)) (by decide) (ok_I rfl rfl)
  have hkf : kf τ [(30, 4), (30, 5), (30, 6), (30, 7), (30, 8), (30, 9), (30, 11)] [m9] h h_54 := by rw [e_55]; exact kf_put hkf (hA 11 (by decide)) (List.mem_cons_of_mem _ (List.mem_cons_of_mem _ (List.mem_cons_of_mem _ (List.mem_cons_of_mem _ (List.mem_cons_of_mem _ (List.mem_cons_of_mem _ List.mem_cons_self))))))
  obtain ⟨g_56, e_57⟩ : ∃ z, z = upd g_51 ((0 : Int32).toNatClampNeg) (0 : Int32) := ⟨_, rfl⟩
  rw [← e_57] at F_A11
  exact W.vret hx hb hr (fun t9 ht hW => ⟨h_54, rfl, ⟨hT, hkf, ⟨(1 : Int32), F_m9, ⟨hsd, hlo, (by decide), ⟨by omega, by omega⟩, ⟨by omega, by omega⟩⟩, ⟨rfl, by rw [aI_of F_A4, h4e]; exact e_14, by rw [aI_of F_A5, h5e]; exact e_21⟩⟩⟩, by rw [ht]; exact hH, by rw [ht]; exact hz⟩) hLo d_Mo_rootAlone_54

set_option maxHeartbeats 4000000 in
set_option maxRecDepth 100000 in
theorem m_discover (l : Launch) (D : va_G) (t : Nat → ClassId) (G : hG) (ak av : Nat → Nat) (h : hM) (τ : tM) (n : Nat) (m9 : Nat) (A : Nat → Nat) (th sd lo le wr ma nu di pl se wg op : Int32) (hn : n ≤ 200) (hT : TI τ t n h) (T_m9 : τ m9 = (20, 0)) (F_m9 : h m9 = some (.inr (9, mf A n th sd lo le wr ma nu di pl se wg op))) (hA : ∀ i, i < 28 → τ (A i) = (30, i)) (hmk : mOk sd lo ma se op) : Met l y_Mo_discover (.code y_Mo_discover b_Mo_discover 4 (some .int) :: lw_g) { frames := 8, cells := 0, slots := 0, locals := 192 } (hP (kE D t G ak av) D vwCl G h [.ref m9]) (hQi D vwCl G (fun r h' => TI τ t n h' ∧ kf τ [(30, 17), (30, 18), (30, 19), (30, 20), (30, 21), (30, 22), (30, 4), (30, 5), (30, 6), (30, 7), (30, 8), (30, 9), (30, 10), (30, 11)] [m9] h h' ∧ (∃ (th' : Int32) (lo' : Int32) (le' : Int32) (ma' : Int32) (nu' : Int32) (se' : Int32) (wg' : Int32), h' m9 = some (.inr (9, mf A n th' sd lo' le' wr ma' nu' di pl se' wg' op)) ∧ mOk sd lo' ma' se' op ∧ (ma'.toInt ≤ 30 ∧ (treeM (aI h' (A 4)) (aI h' (A 6)) ma'.toInt.toNat ∧ exM (aI h' (A 4)) (aI h' (A 5)) (aI h' (A 8)) (aI h' (A 10)) (aI h' (A 11)) ma'.toInt.toNat n))))) 0 0 G.P := by
  refine Met.ofW (cc := b_Mo_discover) (maxL := 4) (ret := (some .int)) (by decide) rfl ?_
  intro p e s m args below meth c s₁ Bd hml hv
  obtain ⟨ha, hE, hH⟩ := hv
  have hx := Bd.exec
  have hb := Bd.bytes
  have hr := Bd.returns
  have hts : ∀ w ∈ lw_g, w.before args s = true := fun w hw => atoms_spec (ws := (.code y_Mo_discover b_Mo_discover 4 (some .int) :: lw_g)) Bd.pre w (List.mem_cons_of_mem _ hw)
  have hown : s.vm.findClass R_Mo = some m.cls := findClass_of_methodNamed Bd.named
  have hlocks := Bd.notSynchronized
  have hK := hE.1
  have hH0 := hH
  have hLo : hLc G.P [] := hLc_nil
  have hz : s.heap.size ≤ s.heap.size := Nat.le_refl _
  have hl := lv_entry [.ref m9] (n := 4) (Nat.le_of_ble_eq_true rfl)
  rw [show entryFrame m args 4 = F0 m 0 ((lg_sl [.ref m9] ++ List.replicate (4 - (lg_sl [.ref m9]).length) Slot.unset).toArray) [] from (by rw [ha]; exact lg_entry_eq m [.ref m9] 4)]
  generalize (lg_sl [.ref m9] ++ List.replicate (4 - (lg_sl [.ref m9]).length) Slot.unset).toArray = ls at hl ⊢
  have hl : lv_has ls 4 [(0, .ref m9)] := hl
  have hkf : kf τ [(30, 17), (30, 18), (30, 19), (30, 20), (30, 21), (30, 22), (30, 4), (30, 5), (30, 6), (30, 7), (30, 8), (30, 9), (30, 10), (30, 11)] [m9] h h := kf_rf
  obtain ⟨hsd, hlo, hma, hse, hop⟩ := id hmk
  have inI : (nI n).toInt = n := nI_toInt (by omega)
  obtain ⟨g_1, F_A0, c_2⟩ := TI_arB (L := 819200) hT (hA 0 (by decide)) rfl rfl
  refine lv_aload_n hx hb d_Mo_discover_0 rfl (lv_at hl 0 rfl) ?_
  refine lv_iconst (v := 0) hx hb d_Mo_discover_1 (by decide) ?_
  refine hm_put (ci := 9) (v := .int 0) (ty := .int) (C := R_Mo) (T := F_Mo) (N := 41) hx hb hts ig_Mo t_Mo tk_Mo nm_Mo hown hK hH hLo F_m9 rfl 0 (by decide) (hts _ mw_594) (fun _ h9 => h9) rfl (by decide +kernel) rfl rfl (Nat.le_of_ble_eq_true rfl) d_Mo_discover_2 (fun H_3 locs hH z_4 hLo => ?_)
  have hz : s.heap.size ≤ H_3.size := by rw [z_4]; exact hz
  obtain ⟨h_5, e_6⟩ : ∃ z, z = hu h m9 (.inr (9, mf A n 0 sd lo le wr ma nu di pl se wg op)) := ⟨_, rfl⟩
  have hH : hm D vwCl G h_5 H_3 := by rw [e_6]; exact hH
  have F_A0 : h_5 (A 0) = some (.inl ((t 0), 819200, .inl g_1)) := by rw [e_6, hu_n (tne (hA 0 (by decide)) T_m9 (by decide))]; exact F_A0
  have F_m9 : h_5 m9 = some (.inr (9, mf A n 0 sd lo le wr ma nu di pl se wg op)) := by rw [e_6]; exact hu_s _ _ _
  have hT : TI τ t n h_5 := by rw [e_6]; exact TI_put hT T_m9 (by decide) ⟨_, rfl⟩
  have hkf : kf τ [(30, 17), (30, 18), (30, 19), (30, 20), (30, 21), (30, 22), (30, 4), (30, 5), (30, 6), (30, 7), (30, 8), (30, 9), (30, 10), (30, 11)] [m9] h h_5 := by rw [e_6]; exact kf_putM hkf (by simp)
  refine lv_iconst (v := 0) hx hb d_Mo_discover_5 (by decide) ?_
  refine lv_istore_n (lv' := [(1, .int 0), (0, .ref m9)]) hx hb d_Mo_discover_6 rfl hl (by decide) rfl (fun ls hl => ?_)
  refine lv_iconst (v := -1) hx hb d_Mo_discover_7 (by decide) ?_
  refine lv_istore_n (lv' := [(2, .int (-1)), (1, .int 0), (0, .ref m9)]) hx hb d_Mo_discover_8 rfl hl (by decide) rfl (fun ls hl => ?_)
  refine lv_iconst (v := 0) hx hb d_Mo_discover_9 (by decide) ?_
  refine lv_istore_n (lv' := [(3, .int 0), (2, .int (-1)), (1, .int 0), (0, .ref m9)]) hx hb d_Mo_discover_10 rfl hl (by decide) rfl (fun ls hl => ?_)
  refine hm_loop (fun k11 ls H locs hh11 => ∃ (n9 : Int32) (la9 : Int32) (s9 : Int32) (se8 : Int32) (wg8 : Int32), k11 = mU s9 ∧ lv_has ls 4 [(0, .ref m9), (1, .int n9), (2, .int la9), (3, .int s9)] ∧ hm D vwCl G hh11 H ∧ s.heap.size ≤ H.size ∧ hLc G.P locs ∧ hh11 (A 0) = some (.inl ((t 0), 819200, .inl g_1)) ∧ (TI τ t n hh11) ∧ (kf τ [(30, 17), (30, 18), (30, 19), (30, 20), (30, 21), (30, 22), (30, 4), (30, 5), (30, 6), (30, 7), (30, 8), (30, 9), (30, 10), (30, 11)] [m9] h hh11) ∧ (hh11 m9 = some (.inr (9, mf A n 0 sd lo le wr ma nu di pl se8 wg8 op))) ∧ (0 ≤ s9.toInt ∧ (0 ≤ se8.toInt ∧ se8.toInt ≤ 30)) ∧ (la9 = -1 ∨ (0 ≤ la9.toInt ∧ la9.toInt < n ∧ (∃ lo, loF g_1 sd (2048 * la9 + 4) 4 0 = lo ∧ 0 ≤ lo.toInt ∧ lo.toInt < 200)))) ?_ (hh := h_5) ⟨0, (-1), 0, se, wg, rfl, (lv_sub hl [3, 2, 1, 0] rfl), hH, hz, hLo, F_A0, hT, hkf, F_m9, ⟨by decide, by omega, by omega⟩, (Or.inl rfl)⟩
  rintro k11 ls H locs hh11 ⟨n9, la9, s9, se8, wg8, hk11, hl, hH, hz, hLo, F_A0, hT, hkf, F_m9, I_s9, hLa⟩ ih11
  refine lv_iload_n hx hb d_Mo_discover_11 rfl (lv_at hl 3 rfl) ?_
  refine lv_aload_n hx hb d_Mo_discover_12 rfl (lv_at hl 0 rfl) ?_
  refine hm_get (ci := 9) (v := .int (nI n)) (C := R_Mo) (T := F_Mo) (N := 41) hx hb hts ig_Mo hown hK hH F_m9 rfl 1 (by decide) (hts _ mw_587) (fun _ h9 => h9) rfl d_Mo_discover_13 ?_
  refine lv_icmp_ge (tgt := 60) hx hb d_Mo_discover_16 (by decide) (fun hc_7 => ?_) (fun hc_7 => ?_)
  · skip
    have ic_8 : (nI n).toInt ≤ s9.toInt := iLe hc_7
    refine hm_cut (α := Unit) (fun un9 ls H locs HH => ∃ (lq9 : Int32), (lv_has ls 4 [(0, .ref m9), (1, .int n9), (2, .int la9), (3, .int s9)]) ∧ (hm D vwCl G HH H) ∧ (s.heap.size ≤ H.size) ∧ (hLc G.P locs) ∧ (TI τ t n HH) ∧ (kf τ [(30, 17), (30, 18), (30, 19), (30, 20), (30, 21), (30, 22), (30, 4), (30, 5), (30, 6), (30, 7), (30, 8), (30, 9), (30, 10), (30, 11)] [m9] h HH) ∧ (HH m9 = some (.inr (9, mf A n 0 sd lo lq9 wr ma nu di pl se8 wg8 op))) ∧ (HH (A 0) = some (.inl ((t 0), 819200, .inl g_1)))) 72 (fun un9 => []) ?_ (fun J72 => ?_)
    · skip
      rintro un9 ls H locs HH ⟨lq9, hl, hH, hz, hLo, hT, hkf, F_m9, F_A0⟩
      refine lv_aload_n hx hb d_Mo_discover_72 rfl (lv_at hl 0 rfl) ?_
      refine lv_iconst (v := 0) hx hb d_Mo_discover_73 (by decide) ?_
      refine hm_put (ci := 9) (v := .int 0) (ty := .boolean) (C := R_Mo) (T := F_Mo) (N := 41) hx hb hts ig_Mo t_Mo tk_Mo nm_Mo hown hK hH hLo F_m9 rfl 6 (by decide) (hts _ mw_593) (fun _ h9 => h9) rfl (by decide +kernel) (by decide) (by decide) (Nat.le_of_ble_eq_true rfl) d_Mo_discover_74 (fun H_9 locs hH z_10 hLo => ?_)
      have hz : s.heap.size ≤ H_9.size := by rw [z_10]; exact hz
      obtain ⟨h_11, e_12⟩ : ∃ z, z = hu HH m9 (.inr (9, mf A n 0 sd 0 lq9 wr ma nu di pl se8 wg8 op)) := ⟨_, rfl⟩
      have hH : hm D vwCl G h_11 H_9 := by rw [e_12]; exact hH
      have F_A0 : h_11 (A 0) = some (.inl ((t 0), 819200, .inl g_1)) := by rw [e_12, hu_n (tne (hA 0 (by decide)) T_m9 (by decide))]; exact F_A0
      have F_m9 : h_11 m9 = some (.inr (9, mf A n 0 sd 0 lq9 wr ma nu di pl se8 wg8 op)) := by rw [e_12]; exact hu_s _ _ _
      have hT : TI τ t n h_11 := by rw [e_12]; exact TI_put hT T_m9 (by decide) ⟨_, rfl⟩
      have hkf : kf τ [(30, 17), (30, 18), (30, 19), (30, 20), (30, 21), (30, 22), (30, 4), (30, 5), (30, 6), (30, 7), (30, 8), (30, 9), (30, 10), (30, 11)] [m9] h h_11 := by rw [e_12]; exact kf_putM hkf (by simp)
      refine lv_aload_n hx hb d_Mo_discover_77 rfl (lv_at hl 0 rfl) ?_
      refine lv_iconst (v := 0) hx hb d_Mo_discover_78 (by decide) ?_
      refine hm_put (ci := 9) (v := .int 0) (ty := .int) (C := R_Mo) (T := F_Mo) (N := 41) hx hb hts ig_Mo t_Mo tk_Mo nm_Mo hown hK hH hLo F_m9 rfl 20 (by decide) (hts _ mw_722) (fun _ h9 => h9) rfl (by decide +kernel) rfl rfl (Nat.le_of_ble_eq_true rfl) d_Mo_discover_79 (fun H_13 locs hH z_14 hLo => ?_)
      have hz : s.heap.size ≤ H_13.size := by rw [z_14]; exact hz
      obtain ⟨h_15, e_16⟩ : ∃ z, z = hu h_11 m9 (.inr (9, mf A n 0 sd 0 lq9 wr ma 0 di pl se8 wg8 op)) := ⟨_, rfl⟩
      have hH : hm D vwCl G h_15 H_13 := by rw [e_16]; exact hH
      have F_A0 : h_15 (A 0) = some (.inl ((t 0), 819200, .inl g_1)) := by rw [e_16, hu_n (tne (hA 0 (by decide)) T_m9 (by decide))]; exact F_A0
      have F_m9 : h_15 m9 = some (.inr (9, mf A n 0 sd 0 lq9 wr ma 0 di pl se8 wg8 op)) := by rw [e_16]; exact hu_s _ _ _
      have hT : TI τ t n h_15 := by rw [e_16]; exact TI_put hT T_m9 (by decide) ⟨_, rfl⟩
      have hkf : kf τ [(30, 17), (30, 18), (30, 19), (30, 20), (30, 21), (30, 22), (30, 4), (30, 5), (30, 6), (30, 7), (30, 8), (30, 9), (30, 10), (30, 11)] [m9] h h_15 := by rw [e_16]; exact kf_putM hkf (by simp)
      refine lv_iconst (v := 0) hx hb d_Mo_discover_82 (by decide) ?_
      refine lv_istore_n (lv' := [(3, .int 0), (0, .ref m9), (1, .int n9), (2, .int la9)]) hx hb d_Mo_discover_83 rfl hl (by decide) rfl (fun ls hl => ?_)
      refine hm_loop (fun k84 ls H locs hh84 => ∃ (i6 : Int32), k84 = mU i6 ∧ lv_has ls 4 [(0, .ref m9), (1, .int n9), (2, .int la9), (3, .int i6)] ∧ hm D vwCl G hh84 H ∧ s.heap.size ≤ H.size ∧ hLc G.P locs ∧ hh84 m9 = some (.inr (9, mf A n 0 sd 0 lq9 wr ma 0 di pl se8 wg8 op)) ∧ hh84 (A 0) = some (.inl ((t 0), 819200, .inl g_1)) ∧ (TI τ t n hh84) ∧ (kf τ [(30, 17), (30, 18), (30, 19), (30, 20), (30, 21), (30, 22), (30, 4), (30, 5), (30, 6), (30, 7), (30, 8), (30, 9), (30, 10), (30, 11)] [m9] h hh84) ∧ (0 ≤ i6.toInt)) ?_ (hh := h_15) ⟨0, rfl, (lv_sub hl [1, 2, 3, 0] rfl), hH, hz, hLo, F_m9, F_A0, hT, hkf, (by decide)⟩
      rintro k84 ls H locs hh84 ⟨i6, hk84, hl, hH, hz, hLo, F_m9, F_A0, hT, hkf, I_i6⟩ ih84
      refine lv_iload_n hx hb d_Mo_discover_84 rfl (lv_at hl 3 rfl) ?_
      refine lv_aload_n hx hb d_Mo_discover_85 rfl (lv_at hl 0 rfl) ?_
      refine hm_get (ci := 9) (v := .int ma) (C := R_Mo) (T := F_Mo) (N := 41) hx hb hts ig_Mo hown hK hH F_m9 rfl 10 (by decide) (hts _ mw_595) (fun _ h9 => h9) rfl d_Mo_discover_86 ?_
      refine lv_icmp_ge (tgt := 105) hx hb d_Mo_discover_89 (by decide) (fun hc_17 => ?_) (fun hc_17 => ?_)
      · skip
        have ic_18 : ma.toInt ≤ i6.toInt := iLe hc_17
        refine lv_aload_n hx hb d_Mo_discover_105 rfl (lv_at hl 0 rfl) ?_
        refine hm_callv (va_runV (As := []) (b := m9) (rest := []) ⟨hx, hb, hml, hown, hts⟩ (m_root l D t G ak av hh84 τ n m9 A (0 : Int32) sd (0 : Int32) lq9 wr ma (0 : Int32) di pl se8 wg8 op   hn hT T_m9  F_m9 hA ⟨hsd, zb0, (by omega), ⟨by omega, by omega⟩, ⟨by omega, by omega⟩⟩ ) ⟨cw9B 0 hts mw_811 mw_812 mw_579 rfl rfl (by decide +kernel) ⟨Nat.le_of_ble_eq_true rfl, Nat.le_of_ble_eq_true rfl⟩, hts _ mw_813, hts _ mw_814⟩ (hP_V (q := (R_Mo, F_Mo, 41)) kE_ok hE hK hH F_m9 rfl) rfl rfl hl.1 rfl (lv_room (Nat.le_of_ble_eq_true rfl)) d_Mo_discover_106 ⟨Nat.le_of_ble_eq_true rfl, Nat.le_of_ble_eq_true rfl⟩) hLo (fun h_19 H_20 locs hp_22 hH z_21 hLo => ?_)
        have hz : s.heap.size ≤ H_20.size := Nat.le_trans hz z_21
        have hT0 := hT
        obtain ⟨hT, kf_24, xp_23⟩ := hp_22
        have F_A0 : h_19 (A 0) = some (.inl ((t 0), 819200, .inl g_1)) := kf_at kf_24 (hA 0 (by decide)) (by decide) (tncF (by decide) (tncF (by decide) (tncF (by decide) (tncF (by decide) (tncF (by decide) (tncF (by decide) (tncF (by decide) tn0))))))) (nmc (tne (hA 0 (by decide)) T_m9 (by decide)) nm0) F_A0
        have hkf : kf τ [(30, 17), (30, 18), (30, 19), (30, 20), (30, 21), (30, 22), (30, 4), (30, 5), (30, 6), (30, 7), (30, 8), (30, 9), (30, 10), (30, 11)] [m9] h h_19 := kf_tr hkf kf_24 (List.forall_mem_cons.mpr ⟨(List.mem_cons_of_mem _ (List.mem_cons_of_mem _ (List.mem_cons_of_mem _ (List.mem_cons_of_mem _ (List.mem_cons_of_mem _ (List.mem_cons_of_mem _ List.mem_cons_self)))))), List.forall_mem_cons.mpr ⟨(List.mem_cons_of_mem _ (List.mem_cons_of_mem _ (List.mem_cons_of_mem _ (List.mem_cons_of_mem _ (List.mem_cons_of_mem _ (List.mem_cons_of_mem _ (List.mem_cons_of_mem _ List.mem_cons_self))))))), List.forall_mem_cons.mpr ⟨(List.mem_cons_of_mem _ (List.mem_cons_of_mem _ (List.mem_cons_of_mem _ (List.mem_cons_of_mem _ (List.mem_cons_of_mem _ (List.mem_cons_of_mem _ (List.mem_cons_of_mem _ (List.mem_cons_of_mem _ List.mem_cons_self)))))))), List.forall_mem_cons.mpr ⟨(List.mem_cons_of_mem _ (List.mem_cons_of_mem _ (List.mem_cons_of_mem _ (List.mem_cons_of_mem _ (List.mem_cons_of_mem _ (List.mem_cons_of_mem _ (List.mem_cons_of_mem _ (List.mem_cons_of_mem _ (List.mem_cons_of_mem _ List.mem_cons_self))))))))), List.forall_mem_cons.mpr ⟨(List.mem_cons_of_mem _ (List.mem_cons_of_mem _ (List.mem_cons_of_mem _ (List.mem_cons_of_mem _ (List.mem_cons_of_mem _ (List.mem_cons_of_mem _ (List.mem_cons_of_mem _ (List.mem_cons_of_mem _ (List.mem_cons_of_mem _ (List.mem_cons_of_mem _ List.mem_cons_self)))))))))), List.forall_mem_cons.mpr ⟨(List.mem_cons_of_mem _ (List.mem_cons_of_mem _ (List.mem_cons_of_mem _ (List.mem_cons_of_mem _ (List.mem_cons_of_mem _ (List.mem_cons_of_mem _ (List.mem_cons_of_mem _ (List.mem_cons_of_mem _ (List.mem_cons_of_mem _ (List.mem_cons_of_mem _ (List.mem_cons_of_mem _ List.mem_cons_self))))))))))), List.forall_mem_cons.mpr ⟨(List.mem_cons_of_mem _ (List.mem_cons_of_mem _ (List.mem_cons_of_mem _ (List.mem_cons_of_mem _ (List.mem_cons_of_mem _ (List.mem_cons_of_mem _ (List.mem_cons_of_mem _ (List.mem_cons_of_mem _ (List.mem_cons_of_mem _ (List.mem_cons_of_mem _ (List.mem_cons_of_mem _ (List.mem_cons_of_mem _ (List.mem_cons_of_mem _ List.mem_cons_self))))))))))))), List.forall_mem_nil _⟩⟩⟩⟩⟩⟩⟩) (List.forall_mem_cons.mpr ⟨Or.inl (by simp), List.forall_mem_nil _⟩)
        obtain ⟨ma_25, F_m9, mk_26, xq_27⟩ := xp_23
        obtain ⟨m_28, m_29, m_30, m_31, m_32⟩ := mk_26
        obtain ⟨hm1, r4, r5⟩ := xq_27
        have hi0 : aI h_19 (A 4) 0 = 1 := by rw [r4, upd_s]
        have hd0 : aI h_19 (A 5) 0 = 1 := by rw [r5, upd_s]
        obtain ⟨g_33, F_A4, c_34⟩ := TI_arZ (L := 700) hT (hA 4 (by decide)) rfl rfl
        obtain ⟨g_35, F_A5, c_36⟩ := TI_arZ (L := 700) hT (hA 5 (by decide)) rfl rfl
        obtain ⟨g_37, F_A6⟩ := TI_arI (L := 700) hT (hA 6 (by decide)) rfl rfl
        obtain ⟨g_38, F_A8⟩ := TI_arI (L := 700) hT (hA 8 (by decide)) rfl rfl
        obtain ⟨g_39, F_A10, c_40⟩ := TI_arZ (L := 700) hT (hA 10 (by decide)) rfl rfl
        obtain ⟨g_41, F_A11⟩ := TI_arI (L := 700) hT (hA 11 (by decide)) rfl rfl
        rw [aI_of F_A4] at hi0
        rw [aI_of F_A5] at hd0
        have im1 : ma_25.toInt = 1 := by rw [hm1]; rfl
        refine lv_iload_n hx hb d_Mo_discover_109 rfl (lv_at hl 2 rfl) ?_
        refine lv_if_ge (tgt := 115) hx hb d_Mo_discover_110 (by decide) (fun hc_42 => ?_) (fun hc_42 => ?_)
        · skip
          have ic_43 : 0 ≤ la9.toInt := iLe hc_42
          obtain ⟨k1, k2, lo9, l1, l2, l3⟩ := orP hLa (by omega)
          refine lv_aload_n hx hb d_Mo_discover_115 rfl (lv_at hl 0 rfl) ?_
          refine lv_aload_n hx hb d_Mo_discover_116 rfl (lv_at hl 0 rfl) ?_
          refine lv_sipush (v := 2048) hx hb d_Mo_discover_117 (by decide) ?_
          refine lv_iload_n hx hb d_Mo_discover_120 rfl (lv_at hl 2 rfl) ?_
          refine lv_imul hx hb d_Mo_discover_121 ?_
          refine lv_topi (fun v_44 e_45 => ?_)
          refine lv_bipush (v := 8) hx hb d_Mo_discover_122 (by decide) ?_
          refine lv_iadd hx hb d_Mo_discover_124 ?_
          refine lv_topi (fun v_46 e_47 => ?_)
          refine lv_iconst (v := 4) hx hb d_Mo_discover_125 (by decide) ?_
          have is_48 : v_44.toInt = 2048 * la9.toInt := by rw [e_45]; exact iMulL 2048 rfl (by omega) (by omega)
          have is_49 : v_46.toInt = v_44.toInt + 8 := by rw [e_47]; exact iAddK 8 rfl (by omega) (by omega)
          refine hm_callPi (va_runV (As := [.int v_46, .int 4]) (b := m9) (rest := [.ref m9]) ⟨hx, hb, hml, hown, hts⟩ (m_lowAt l D t G ak av h_19 τ n m9 v_46 4 A (0 : Int32) sd (0 : Int32) lq9 wr ma_25 (0 : Int32) di pl se8 wg8 op   hn hT T_m9  F_m9 hA ⟨m_28, zb0, (by omega), ⟨by omega, by omega⟩, ⟨by omega, by omega⟩⟩ (by have l0 : (4 : Int32).toInt = 4 := rfl; omega) (by have l0 : (4 : Int32).toInt = 4 := rfl; omega) (by have l0 : (4 : Int32).toInt = 4 := rfl; omega)) ⟨cw9B 2 hts mw_742 mw_743 mw_579 rfl rfl (by decide +kernel) ⟨Nat.le_of_ble_eq_true rfl, Nat.le_of_ble_eq_true rfl⟩, hts _ mw_744, hts _ mw_745⟩ (hP_V (q := (R_Mo, F_Mo, 41)) kE_ok hE hK hH F_m9 rfl) rfl rfl hl.1 rfl (lv_room (Nat.le_of_ble_eq_true rfl)) d_Mo_discover_126 ⟨Nat.le_of_ble_eq_true rfl, Nat.le_of_ble_eq_true rfl⟩) (fun r_50 h_51 H_52 hp_54  hH z_53 => ?_)
          have hz : s.heap.size ≤ H_52.size := Nat.le_trans hz z_53
          obtain ⟨xp_55, rfl⟩ := hp_54
          have el_56 : r_50 = loF g_1 sd v_46 4 0 := by rw [aI_of F_A0] at xp_55; exact xp_55
          refine hm_put (ci := 9) (v := .int r_50) (ty := .int) (C := R_Mo) (T := F_Mo) (N := 41) hx hb hts ig_Mo t_Mo tk_Mo nm_Mo hown hK hH hLo F_m9 rfl 20 (by decide) (hts _ mw_722) (fun _ h9 => h9) rfl (by decide +kernel) rfl rfl (Nat.le_of_ble_eq_true rfl) d_Mo_discover_129 (fun H_57 locs hH z_58 hLo => ?_)
          have hz : s.heap.size ≤ H_57.size := by rw [z_58]; exact hz
          obtain ⟨h_59, e_60⟩ : ∃ z, z = hu h_19 m9 (.inr (9, mf A n 0 sd 0 lq9 wr ma_25 r_50 di pl se8 wg8 op)) := ⟨_, rfl⟩
          have hH : hm D vwCl G h_59 H_57 := by rw [e_60]; exact hH
          have F_A0 : h_59 (A 0) = some (.inl ((t 0), 819200, .inl g_1)) := by rw [e_60, hu_n (tne (hA 0 (by decide)) T_m9 (by decide))]; exact F_A0
          have F_A4 : h_59 (A 4) = some (.inl ((t 1), 700, .inl g_33)) := by rw [e_60, hu_n (tne (hA 4 (by decide)) T_m9 (by decide))]; exact F_A4
          have F_A5 : h_59 (A 5) = some (.inl ((t 1), 700, .inl g_35)) := by rw [e_60, hu_n (tne (hA 5 (by decide)) T_m9 (by decide))]; exact F_A5
          have F_A6 : h_59 (A 6) = some (.inl ((t 2), 700, .inl g_37)) := by rw [e_60, hu_n (tne (hA 6 (by decide)) T_m9 (by decide))]; exact F_A6
          have F_A8 : h_59 (A 8) = some (.inl ((t 2), 700, .inl g_38)) := by rw [e_60, hu_n (tne (hA 8 (by decide)) T_m9 (by decide))]; exact F_A8
          have F_A10 : h_59 (A 10) = some (.inl ((t 1), 700, .inl g_39)) := by rw [e_60, hu_n (tne (hA 10 (by decide)) T_m9 (by decide))]; exact F_A10
          have F_A11 : h_59 (A 11) = some (.inl ((t 2), 700, .inl g_41)) := by rw [e_60, hu_n (tne (hA 11 (by decide)) T_m9 (by decide))]; exact F_A11
          have F_m9 : h_59 m9 = some (.inr (9, mf A n 0 sd 0 lq9 wr ma_25 r_50 di pl se8 wg8 op)) := by rw [e_60]; exact hu_s _ _ _
          have hT : TI τ t n h_59 := by rw [e_60]; exact TI_put hT T_m9 (by decide) ⟨_, rfl⟩
          have hkf : kf τ [(30, 17), (30, 18), (30, 19), (30, 20), (30, 21), (30, 22), (30, 4), (30, 5), (30, 6), (30, 7), (30, 8), (30, 9), (30, 10), (30, 11)] [m9] h h_59 := by rw [e_60]; exact kf_putM hkf (by simp)
          refine lv_aload_n hx hb d_Mo_discover_132 rfl (lv_at hl 0 rfl) ?_
          refine lv_aload_n hx hb d_Mo_discover_133 rfl (lv_at hl 0 rfl) ?_
          refine lv_aload_n hx hb d_Mo_discover_134 rfl (lv_at hl 0 rfl) ?_
          refine lv_sipush (v := 2048) hx hb d_Mo_discover_135 (by decide) ?_
          refine lv_iload_n hx hb d_Mo_discover_138 rfl (lv_at hl 2 rfl) ?_
          refine lv_imul hx hb d_Mo_discover_139 ?_
          refine lv_topi (fun v_61 e_62 => ?_)
          obtain rfl : v_44 = v_61 := (e_62.trans (e_45.symm)).symm
          refine lv_iconst (v := 4) hx hb d_Mo_discover_140 (by decide) ?_
          refine lv_iadd hx hb d_Mo_discover_141 ?_
          refine lv_topi (fun v_63 e_64 => ?_)
          refine lv_iconst (v := 4) hx hb d_Mo_discover_142 (by decide) ?_
          have is_65 : v_63.toInt = v_44.toInt + 4 := by rw [e_64]; exact iAddK 4 rfl (by omega) (by omega)
          refine hm_callPi (va_runV (As := [.int v_63, .int 4]) (b := m9) (rest := [.ref m9, .ref m9]) ⟨hx, hb, hml, hown, hts⟩ (m_lowAt l D t G ak av h_59 τ n m9 v_63 4 A (0 : Int32) sd (0 : Int32) lq9 wr ma_25 r_50 di pl se8 wg8 op   hn hT T_m9  F_m9 hA ⟨m_28, zb0, (by omega), ⟨by omega, by omega⟩, ⟨by omega, by omega⟩⟩ (by have l0 : (4 : Int32).toInt = 4 := rfl; omega) (by have l0 : (4 : Int32).toInt = 4 := rfl; omega) (by have l0 : (4 : Int32).toInt = 4 := rfl; omega)) ⟨cw9B 2 hts mw_742 mw_743 mw_579 rfl rfl (by decide +kernel) ⟨Nat.le_of_ble_eq_true rfl, Nat.le_of_ble_eq_true rfl⟩, hts _ mw_744, hts _ mw_745⟩ (hP_V (q := (R_Mo, F_Mo, 41)) kE_ok hE hK hH F_m9 rfl) rfl rfl hl.1 rfl (lv_room (Nat.le_of_ble_eq_true rfl)) d_Mo_discover_143 ⟨Nat.le_of_ble_eq_true rfl, Nat.le_of_ble_eq_true rfl⟩) (fun r_66 h_67 H_68 hp_70  hH z_69 => ?_)
          have hz : s.heap.size ≤ H_68.size := Nat.le_trans hz z_69
          obtain ⟨xp_71, rfl⟩ := hp_70
          have el_72 : r_66 = loF g_1 sd v_63 4 0 := by rw [aI_of F_A0] at xp_71; exact xp_71
          have elo : r_66 = lo9 := by rw [el_72, e_64, e_45]; exact l1
          have ilo := congrArg Int32.toInt elo
          refine hm_calli (va_runV (As := [.int r_66]) (b := m9) (rest := [.ref m9]) ⟨hx, hb, hml, hown, hts⟩ (m_look l D t G ak av h_59 τ n m9 r_66 A (0 : Int32) sd (0 : Int32) lq9 wr ma_25 r_50 di pl se8 wg8 op   hn hT T_m9  F_m9 hA ⟨m_28, zb0, (by omega), ⟨by omega, by omega⟩, ⟨by omega, by omega⟩⟩ (by omega) (by omega)) ⟨cw9B 1 hts mw_807 mw_808 mw_579 rfl rfl (by decide +kernel) ⟨Nat.le_of_ble_eq_true rfl, Nat.le_of_ble_eq_true rfl⟩, hts _ mw_809, hts _ mw_810⟩ (hP_V (q := (R_Mo, F_Mo, 41)) kE_ok hE hK hH F_m9 rfl) rfl rfl hl.1 rfl (lv_room (Nat.le_of_ble_eq_true rfl)) d_Mo_discover_146 ⟨Nat.le_of_ble_eq_true rfl, Nat.le_of_ble_eq_true rfl⟩) hLo (fun r_73 h_74 H_75 locs hp_77 hH z_76 hLo => ?_)
          have hz : s.heap.size ≤ H_75.size := Nat.le_trans hz z_76
          have hT0 := hT
          obtain ⟨hT, kf_79, xp_78⟩ := hp_77
          have F_A0 : h_74 (A 0) = some (.inl ((t 0), 819200, .inl g_1)) := kf_at kf_79 (hA 0 (by decide)) (by decide) (tncF (by decide) (tncF (by decide) (tncF (by decide) (tncF (by decide) (tncF (by decide) (tncF (by decide) tn0)))))) (nmc (tne (hA 0 (by decide)) T_m9 (by decide)) nm0) F_A0
          have F_A4 : h_74 (A 4) = some (.inl ((t 1), 700, .inl g_33)) := kf_at kf_79 (hA 4 (by decide)) (by decide) (tncF (by decide) (tncF (by decide) (tncF (by decide) (tncF (by decide) (tncF (by decide) (tncF (by decide) tn0)))))) (nmc (tne (hA 4 (by decide)) T_m9 (by decide)) nm0) F_A4
          have F_A5 : h_74 (A 5) = some (.inl ((t 1), 700, .inl g_35)) := kf_at kf_79 (hA 5 (by decide)) (by decide) (tncF (by decide) (tncF (by decide) (tncF (by decide) (tncF (by decide) (tncF (by decide) (tncF (by decide) tn0)))))) (nmc (tne (hA 5 (by decide)) T_m9 (by decide)) nm0) F_A5
          have F_A6 : h_74 (A 6) = some (.inl ((t 2), 700, .inl g_37)) := kf_at kf_79 (hA 6 (by decide)) (by decide) (tncF (by decide) (tncF (by decide) (tncF (by decide) (tncF (by decide) (tncF (by decide) (tncF (by decide) tn0)))))) (nmc (tne (hA 6 (by decide)) T_m9 (by decide)) nm0) F_A6
          have F_A8 : h_74 (A 8) = some (.inl ((t 2), 700, .inl g_38)) := kf_at kf_79 (hA 8 (by decide)) (by decide) (tncF (by decide) (tncF (by decide) (tncF (by decide) (tncF (by decide) (tncF (by decide) (tncF (by decide) tn0)))))) (nmc (tne (hA 8 (by decide)) T_m9 (by decide)) nm0) F_A8
          have F_A10 : h_74 (A 10) = some (.inl ((t 1), 700, .inl g_39)) := kf_at kf_79 (hA 10 (by decide)) (by decide) (tncF (by decide) (tncF (by decide) (tncF (by decide) (tncF (by decide) (tncF (by decide) (tncF (by decide) tn0)))))) (nmc (tne (hA 10 (by decide)) T_m9 (by decide)) nm0) F_A10
          have F_A11 : h_74 (A 11) = some (.inl ((t 2), 700, .inl g_41)) := kf_at kf_79 (hA 11 (by decide)) (by decide) (tncF (by decide) (tncF (by decide) (tncF (by decide) (tncF (by decide) (tncF (by decide) (tncF (by decide) tn0)))))) (nmc (tne (hA 11 (by decide)) T_m9 (by decide)) nm0) F_A11
          have hkf : kf τ [(30, 17), (30, 18), (30, 19), (30, 20), (30, 21), (30, 22), (30, 4), (30, 5), (30, 6), (30, 7), (30, 8), (30, 9), (30, 10), (30, 11)] [m9] h h_74 := kf_tr hkf kf_79 (List.forall_mem_cons.mpr ⟨List.mem_cons_self, List.forall_mem_cons.mpr ⟨(List.mem_cons_of_mem _ List.mem_cons_self), List.forall_mem_cons.mpr ⟨(List.mem_cons_of_mem _ (List.mem_cons_of_mem _ List.mem_cons_self)), List.forall_mem_cons.mpr ⟨(List.mem_cons_of_mem _ (List.mem_cons_of_mem _ (List.mem_cons_of_mem _ List.mem_cons_self))), List.forall_mem_cons.mpr ⟨(List.mem_cons_of_mem _ (List.mem_cons_of_mem _ (List.mem_cons_of_mem _ (List.mem_cons_of_mem _ List.mem_cons_self)))), List.forall_mem_cons.mpr ⟨(List.mem_cons_of_mem _ (List.mem_cons_of_mem _ (List.mem_cons_of_mem _ (List.mem_cons_of_mem _ (List.mem_cons_of_mem _ List.mem_cons_self))))), List.forall_mem_nil _⟩⟩⟩⟩⟩⟩) (List.forall_mem_cons.mpr ⟨Or.inl (by simp), List.forall_mem_nil _⟩)
          obtain ⟨se_80, wg_81, F_m9, mk_82, xq_83⟩ := xp_78
          obtain ⟨m_84, m_85, m_86, m_87, m_88⟩ := mk_82
          obtain ⟨g_89, F_A18, c_90⟩ := TI_arZ (L := 31) hT (hA 18 (by decide)) rfl rfl
          obtain ⟨g_91, F_A21⟩ := TI_arJ (L := 31) hT (hA 21 (by decide)) rfl rfl
          obtain ⟨g_92, F_A17⟩ := TI_arI (L := 31) hT (hA 17 (by decide)) rfl rfl
          obtain ⟨g_93, F_A19⟩ := TI_arI (L := 31) hT (hA 19 (by decide)) rfl rfl
          obtain ⟨g_94, F_A20⟩ := TI_arI (L := 31) hT (hA 20 (by decide)) rfl rfl
          rw [aI_of F_A17, aI_of F_A19, aI_of F_A20] at xq_83
          have hSr := look_s xq_83
          have imr := look_30 xq_83 (by omega)
          refine hm_put (ci := 9) (v := .int r_73) (ty := .int) (C := R_Mo) (T := F_Mo) (N := 41) hx hb hts ig_Mo t_Mo tk_Mo nm_Mo hown hK hH hLo F_m9 rfl 10 (by decide) (hts _ mw_595) (fun _ h9 => h9) rfl (by decide +kernel) rfl rfl (Nat.le_of_ble_eq_true rfl) d_Mo_discover_149 (fun H_95 locs hH z_96 hLo => ?_)
          have hz : s.heap.size ≤ H_95.size := by rw [z_96]; exact hz
          obtain ⟨h_97, e_98⟩ : ∃ z, z = hu h_74 m9 (.inr (9, mf A n 0 sd 0 lq9 wr r_73 r_50 di pl se_80 wg_81 op)) := ⟨_, rfl⟩
          have hH : hm D vwCl G h_97 H_95 := by rw [e_98]; exact hH
          have F_A0 : h_97 (A 0) = some (.inl ((t 0), 819200, .inl g_1)) := by rw [e_98, hu_n (tne (hA 0 (by decide)) T_m9 (by decide))]; exact F_A0
          have F_A4 : h_97 (A 4) = some (.inl ((t 1), 700, .inl g_33)) := by rw [e_98, hu_n (tne (hA 4 (by decide)) T_m9 (by decide))]; exact F_A4
          have F_A5 : h_97 (A 5) = some (.inl ((t 1), 700, .inl g_35)) := by rw [e_98, hu_n (tne (hA 5 (by decide)) T_m9 (by decide))]; exact F_A5
          have F_A6 : h_97 (A 6) = some (.inl ((t 2), 700, .inl g_37)) := by rw [e_98, hu_n (tne (hA 6 (by decide)) T_m9 (by decide))]; exact F_A6
          have F_A8 : h_97 (A 8) = some (.inl ((t 2), 700, .inl g_38)) := by rw [e_98, hu_n (tne (hA 8 (by decide)) T_m9 (by decide))]; exact F_A8
          have F_A10 : h_97 (A 10) = some (.inl ((t 1), 700, .inl g_39)) := by rw [e_98, hu_n (tne (hA 10 (by decide)) T_m9 (by decide))]; exact F_A10
          have F_A11 : h_97 (A 11) = some (.inl ((t 2), 700, .inl g_41)) := by rw [e_98, hu_n (tne (hA 11 (by decide)) T_m9 (by decide))]; exact F_A11
          have F_A18 : h_97 (A 18) = some (.inl ((t 1), 31, .inl g_89)) := by rw [e_98, hu_n (tne (hA 18 (by decide)) T_m9 (by decide))]; exact F_A18
          have F_A21 : h_97 (A 21) = some (.inl ((t 3), 31, .inr (.inl g_91))) := by rw [e_98, hu_n (tne (hA 21 (by decide)) T_m9 (by decide))]; exact F_A21
          have F_A17 : h_97 (A 17) = some (.inl ((t 2), 31, .inl g_92)) := by rw [e_98, hu_n (tne (hA 17 (by decide)) T_m9 (by decide))]; exact F_A17
          have F_A19 : h_97 (A 19) = some (.inl ((t 2), 31, .inl g_93)) := by rw [e_98, hu_n (tne (hA 19 (by decide)) T_m9 (by decide))]; exact F_A19
          have F_A20 : h_97 (A 20) = some (.inl ((t 2), 31, .inl g_94)) := by rw [e_98, hu_n (tne (hA 20 (by decide)) T_m9 (by decide))]; exact F_A20
          have F_m9 : h_97 m9 = some (.inr (9, mf A n 0 sd 0 lq9 wr r_73 r_50 di pl se_80 wg_81 op)) := by rw [e_98]; exact hu_s _ _ _
          have hT : TI τ t n h_97 := by rw [e_98]; exact TI_put hT T_m9 (by decide) ⟨_, rfl⟩
          have hkf : kf τ [(30, 17), (30, 18), (30, 19), (30, 20), (30, 21), (30, 22), (30, 4), (30, 5), (30, 6), (30, 7), (30, 8), (30, 9), (30, 10), (30, 11)] [m9] h h_97 := by rw [e_98]; exact kf_putM hkf (by simp)
          refine lv_iconst (v := 1) hx hb d_Mo_discover_152 (by decide) ?_
          refine lv_istore_n (lv' := [(3, .int 1), (0, .ref m9), (1, .int n9), (2, .int la9)]) hx hb d_Mo_discover_153 rfl hl (by decide) rfl (fun ls hl => ?_)
          refine hm_loop (fun k154 ls H locs hh154 => ∃ (i9 : Int32) (it8 : Nat → Int32) (di8 : Nat → Int32) (pa8 : Nat → Int32) (sz8 : Nat → Int32) (iw8 : Nat → Int32) (ex8 : Nat → Int32), k154 = mU i9 ∧ lv_has ls 4 [(0, .ref m9), (1, .int n9), (2, .int la9), (3, .int i9)] ∧ hm D vwCl G hh154 H ∧ s.heap.size ≤ H.size ∧ hLc G.P locs ∧ hh154 m9 = some (.inr (9, mf A n 0 sd 0 lq9 wr r_73 r_50 di pl se_80 wg_81 op)) ∧ hh154 (A 17) = some (.inl ((t 2), 31, .inl g_92)) ∧ hh154 (A 19) = some (.inl ((t 2), 31, .inl g_93)) ∧ hh154 (A 20) = some (.inl ((t 2), 31, .inl g_94)) ∧ hh154 (A 18) = some (.inl ((t 1), 31, .inl g_89)) ∧ hh154 (A 21) = some (.inl ((t 3), 31, .inr (.inl g_91))) ∧ (TI τ t n hh154) ∧ (kf τ [(30, 17), (30, 18), (30, 19), (30, 20), (30, 21), (30, 22), (30, 4), (30, 5), (30, 6), (30, 7), (30, 8), (30, 9), (30, 10), (30, 11)] [m9] h hh154) ∧ (hh154 (A 4) = some (.inl ((t 1), 700, .inl it8))) ∧ (zbF it8) ∧ (hh154 (A 5) = some (.inl ((t 1), 700, .inl di8))) ∧ (zbF di8) ∧ (hh154 (A 6) = some (.inl ((t 2), 700, .inl pa8))) ∧ (hh154 (A 8) = some (.inl ((t 2), 700, .inl sz8))) ∧ (hh154 (A 10) = some (.inl ((t 1), 700, .inl iw8))) ∧ (zbF iw8) ∧ (hh154 (A 11) = some (.inl ((t 2), 700, .inl ex8))) ∧ (1 ≤ i9.toInt) ∧ (dcQ it8 di8 pa8 sz8 ex8 g_92 g_93 g_94 i9.toInt.toNat)) ?_ (hh := h_97) ⟨1, g_33, g_35, g_37, g_38, g_39, g_41, rfl, (lv_sub hl [1, 2, 3, 0] rfl), hH, hz, hLo, F_m9, F_A17, F_A19, F_A20, F_A18, F_A21, hT, hkf, F_A4, c_34, F_A5, c_36, F_A6, F_A8, F_A10, c_40, F_A11, (by decide), (dc_0 hi0 hd0)⟩
          rintro k154 ls H locs hh154 ⟨i9, it8, di8, pa8, sz8, iw8, ex8, hk154, hl, hH, hz, hLo, F_m9, F_A17, F_A19, F_A20, F_A18, F_A21, hT, hkf, F_A4, c_it8, F_A5, c_di8, F_A6, F_A8, F_A10, c_iw8, F_A11, I_i9, hDc⟩ ih154
          refine lv_iload_n hx hb d_Mo_discover_154 rfl (lv_at hl 3 rfl) ?_
          refine lv_aload_n hx hb d_Mo_discover_155 rfl (lv_at hl 0 rfl) ?_
          refine hm_get (ci := 9) (v := .int r_73) (C := R_Mo) (T := F_Mo) (N := 41) hx hb hts ig_Mo hown hK hH F_m9 rfl 10 (by decide) (hts _ mw_595) (fun _ h9 => h9) rfl d_Mo_discover_156 ?_
          refine lv_icmp_ge (tgt := 288) hx hb d_Mo_discover_159 (by decide) (fun hc_99 => ?_) (fun hc_99 => ?_)
          · skip
            have ic_100 : r_73.toInt ≤ i9.toInt := iLe hc_99
            refine lv_iload_n hx hb d_Mo_discover_288 rfl (lv_at hl 1 rfl) ?_
            exact W.iret (v := n9) hx hb hr (fun t9 ht hW => ⟨n9, hh154, rfl, ⟨hT, hkf, ⟨(0 : Int32), (0 : Int32), lq9, r_73, r_50, se_80, wg_81, F_m9, ⟨m_84, zb0, (by omega), ⟨by omega, by omega⟩, ⟨by omega, by omega⟩⟩, ⟨imr, ⟨by rw [aI_of F_A4, aI_of F_A6]; exact (dc_t hDc hSr (by omega) (by omega)), by rw [aI_of F_A4, aI_of F_A5, aI_of F_A8, aI_of F_A10, aI_of F_A11]; exact (dc_e hn hDc hSr (by omega))⟩⟩⟩⟩, by rw [ht]; exact hH, by rw [ht]; exact hz⟩) hLo d_Mo_discover_289
          · skip
            have ic_101 : i9.toInt < r_73.toInt := iNe hc_99
            have iu_102 : r_73.toInt < 2147483648 := iUp _
            refine lv_aload_n hx hb d_Mo_discover_162 rfl (lv_at hl 0 rfl) ?_
            refine hm_get (ci := 9) (v := .ref (A 4)) (C := R_Mo) (T := F_Mo) (N := 41) hx hb hts ig_Mo hown hK hH F_m9 rfl 11 (by decide) (hts _ mw_596) (fun _ h9 => h9) rfl d_Mo_discover_163 ?_
            refine lv_iload_n hx hb d_Mo_discover_166 rfl (lv_at hl 3 rfl) ?_
            refine lv_iconst (v := 1) hx hb d_Mo_discover_167 (by decide) ?_
            refine hm_zast hx hb hK hH hLo 1 F_A4 rfl (iIn (by omega) (by omega)) d_Mo_discover_168 (fun H_103 locs hH z_104 hLo => ?_)
            have hz : s.heap.size ≤ H_103.size := by rw [z_104]; exact hz
            rw [zb_nar (v := 1) zb1] at hH
            obtain ⟨h_105, e_106⟩ : ∃ z, z = hu hh154 (A 4) (.inl ((t 1), 700, .inl (upd it8 i9.toNatClampNeg (1 : Int32)))) := ⟨_, rfl⟩
            have hH : hm D vwCl G h_105 H_103 := by rw [e_106]; exact hH
            have F_m9 : h_105 m9 = some (.inr (9, mf A n 0 sd 0 lq9 wr r_73 r_50 di pl se_80 wg_81 op)) := by rw [e_106, hu_n (tne T_m9 (hA 4 (by decide)) (by decide))]; exact F_m9
            have F_A17 : h_105 (A 17) = some (.inl ((t 2), 31, .inl g_92)) := by rw [e_106, hu_n (tneF (hA 17 (by decide)) (hA 4 (by decide)) (by decide))]; exact F_A17
            have F_A19 : h_105 (A 19) = some (.inl ((t 2), 31, .inl g_93)) := by rw [e_106, hu_n (tneF (hA 19 (by decide)) (hA 4 (by decide)) (by decide))]; exact F_A19
            have F_A20 : h_105 (A 20) = some (.inl ((t 2), 31, .inl g_94)) := by rw [e_106, hu_n (tneF (hA 20 (by decide)) (hA 4 (by decide)) (by decide))]; exact F_A20
            have F_A18 : h_105 (A 18) = some (.inl ((t 1), 31, .inl g_89)) := by rw [e_106, hu_n (tneF (hA 18 (by decide)) (hA 4 (by decide)) (by decide))]; exact F_A18
            have F_A21 : h_105 (A 21) = some (.inl ((t 3), 31, .inr (.inl g_91))) := by rw [e_106, hu_n (tneF (hA 21 (by decide)) (hA 4 (by decide)) (by decide))]; exact F_A21
            have F_A5 : h_105 (A 5) = some (.inl ((t 1), 700, .inl di8)) := by rw [e_106, hu_n (tneF (hA 5 (by decide)) (hA 4 (by decide)) (by decide))]; exact F_A5
            have F_A6 : h_105 (A 6) = some (.inl ((t 2), 700, .inl pa8)) := by rw [e_106, hu_n (tneF (hA 6 (by decide)) (hA 4 (by decide)) (by decide))]; exact F_A6
            have F_A8 : h_105 (A 8) = some (.inl ((t 2), 700, .inl sz8)) := by rw [e_106, hu_n (tneF (hA 8 (by decide)) (hA 4 (by decide)) (by decide))]; exact F_A8
            have F_A10 : h_105 (A 10) = some (.inl ((t 1), 700, .inl iw8)) := by rw [e_106, hu_n (tneF (hA 10 (by decide)) (hA 4 (by decide)) (by decide))]; exact F_A10
            have F_A11 : h_105 (A 11) = some (.inl ((t 2), 700, .inl ex8)) := by rw [e_106, hu_n (tneF (hA 11 (by decide)) (hA 4 (by decide)) (by decide))]; exact F_A11
            have F_A4 : h_105 (A 4) = some (.inl ((t 1), 700, .inl (upd it8 i9.toNatClampNeg (1 : Int32)))) := by rw [e_106]; exact hu_s _ _ _
            have hT : TI τ t n h_105 := by rw [e_106]; exact TI_put hT (hA 4 (by decide)) (by decide) (ok_Z rfl rfl (zbF_up c_it8 zb1))
            have hkf : kf τ [(30, 17), (30, 18), (30, 19), (30, 20), (30, 21), (30, 22), (30, 4), (30, 5), (30, 6), (30, 7), (30, 8), (30, 9), (30, 10), (30, 11)] [m9] h h_105 := by rw [e_106]; exact kf_put hkf (hA 4 (by decide)) (List.mem_cons_of_mem _ (List.mem_cons_of_mem _ (List.mem_cons_of_mem _ (List.mem_cons_of_mem _ (List.mem_cons_of_mem _ (List.mem_cons_of_mem _ List.mem_cons_self))))))
            obtain ⟨g_107, e_108⟩ : ∃ z, z = upd it8 i9.toNatClampNeg (1 : Int32) := ⟨_, rfl⟩
            rw [← e_108] at F_A4
            have c_109 : zbF g_107 := by rw [e_108]; exact (zbF_up c_it8 zb1)
            refine lv_aload_n hx hb d_Mo_discover_169 rfl (lv_at hl 0 rfl) ?_
            refine hm_get (ci := 9) (v := .ref (A 5)) (C := R_Mo) (T := F_Mo) (N := 41) hx hb hts ig_Mo hown hK hH F_m9 rfl 12 (by decide) (hts _ mw_606) (fun _ h9 => h9) rfl d_Mo_discover_170 ?_
            refine lv_iload_n hx hb d_Mo_discover_173 rfl (lv_at hl 3 rfl) ?_
            refine lv_aload_n hx hb d_Mo_discover_174 rfl (lv_at hl 0 rfl) ?_
            refine hm_get (ci := 9) (v := .ref (A 18)) (C := R_Mo) (T := F_Mo) (N := 41) hx hb hts ig_Mo hown hK hH F_m9 rfl 30 (by decide) (hts _ mw_761) (fun _ h9 => h9) rfl d_Mo_discover_175 ?_
            refine lv_iload_n hx hb d_Mo_discover_178 rfl (lv_at hl 3 rfl) ?_
            refine hm_zald hx hb hK hH 1 F_A18 rfl (iIn (by omega) (by omega)) d_Mo_discover_179 ?_
            refine lv_topi (fun v_110 e_111 => ?_)
            have c_112 : zb v_110 := by rw [e_111]; exact c_90 _
            rcases c_112 with rfl | rfl
            · skip
              refine hm_zast hx hb hK hH hLo 1 F_A5 rfl (iIn (by omega) (by omega)) d_Mo_discover_180 (fun H_113 locs hH z_114 hLo => ?_)
              have hz : s.heap.size ≤ H_113.size := by rw [z_114]; exact hz
              rw [zb_nar (v := 0) zb0] at hH
              obtain ⟨h_115, e_116⟩ : ∃ z, z = hu h_105 (A 5) (.inl ((t 1), 700, .inl (upd di8 i9.toNatClampNeg (0 : Int32)))) := ⟨_, rfl⟩
              have hH : hm D vwCl G h_115 H_113 := by rw [e_116]; exact hH
              have F_m9 : h_115 m9 = some (.inr (9, mf A n 0 sd 0 lq9 wr r_73 r_50 di pl se_80 wg_81 op)) := by rw [e_116, hu_n (tne T_m9 (hA 5 (by decide)) (by decide))]; exact F_m9
              have F_A17 : h_115 (A 17) = some (.inl ((t 2), 31, .inl g_92)) := by rw [e_116, hu_n (tneF (hA 17 (by decide)) (hA 5 (by decide)) (by decide))]; exact F_A17
              have F_A19 : h_115 (A 19) = some (.inl ((t 2), 31, .inl g_93)) := by rw [e_116, hu_n (tneF (hA 19 (by decide)) (hA 5 (by decide)) (by decide))]; exact F_A19
              have F_A20 : h_115 (A 20) = some (.inl ((t 2), 31, .inl g_94)) := by rw [e_116, hu_n (tneF (hA 20 (by decide)) (hA 5 (by decide)) (by decide))]; exact F_A20
              have F_A18 : h_115 (A 18) = some (.inl ((t 1), 31, .inl g_89)) := by rw [e_116, hu_n (tneF (hA 18 (by decide)) (hA 5 (by decide)) (by decide))]; exact F_A18
              have F_A21 : h_115 (A 21) = some (.inl ((t 3), 31, .inr (.inl g_91))) := by rw [e_116, hu_n (tneF (hA 21 (by decide)) (hA 5 (by decide)) (by decide))]; exact F_A21
              have F_A4 : h_115 (A 4) = some (.inl ((t 1), 700, .inl g_107)) := by rw [e_116, hu_n (tneF (hA 4 (by decide)) (hA 5 (by decide)) (by decide))]; exact F_A4
              have F_A6 : h_115 (A 6) = some (.inl ((t 2), 700, .inl pa8)) := by rw [e_116, hu_n (tneF (hA 6 (by decide)) (hA 5 (by decide)) (by decide))]; exact F_A6
              have F_A8 : h_115 (A 8) = some (.inl ((t 2), 700, .inl sz8)) := by rw [e_116, hu_n (tneF (hA 8 (by decide)) (hA 5 (by decide)) (by decide))]; exact F_A8
              have F_A10 : h_115 (A 10) = some (.inl ((t 1), 700, .inl iw8)) := by rw [e_116, hu_n (tneF (hA 10 (by decide)) (hA 5 (by decide)) (by decide))]; exact F_A10
              have F_A11 : h_115 (A 11) = some (.inl ((t 2), 700, .inl ex8)) := by rw [e_116, hu_n (tneF (hA 11 (by decide)) (hA 5 (by decide)) (by decide))]; exact F_A11
              have F_A5 : h_115 (A 5) = some (.inl ((t 1), 700, .inl (upd di8 i9.toNatClampNeg (0 : Int32)))) := by rw [e_116]; exact hu_s _ _ _
              have hT : TI τ t n h_115 := by rw [e_116]; exact TI_put hT (hA 5 (by decide)) (by decide) (ok_Z rfl rfl (zbF_up c_di8 zb0))
              have hkf : kf τ [(30, 17), (30, 18), (30, 19), (30, 20), (30, 21), (30, 22), (30, 4), (30, 5), (30, 6), (30, 7), (30, 8), (30, 9), (30, 10), (30, 11)] [m9] h h_115 := by rw [e_116]; exact kf_put hkf (hA 5 (by decide)) (List.mem_cons_of_mem _ (List.mem_cons_of_mem _ (List.mem_cons_of_mem _ (List.mem_cons_of_mem _ (List.mem_cons_of_mem _ (List.mem_cons_of_mem _ (List.mem_cons_of_mem _ List.mem_cons_self)))))))
              obtain ⟨g_117, e_118⟩ : ∃ z, z = upd di8 i9.toNatClampNeg (0 : Int32) := ⟨_, rfl⟩
              rw [← e_118] at F_A5
              have c_119 : zbF g_117 := by rw [e_118]; exact (zbF_up c_di8 zb0)
              refine lv_aload_n hx hb d_Mo_discover_181 rfl (lv_at hl 0 rfl) ?_
              refine hm_get (ci := 9) (v := .ref (A 6)) (C := R_Mo) (T := F_Mo) (N := 41) hx hb hts ig_Mo hown hK hH F_m9 rfl 13 (by decide) (hts _ mw_597) (fun _ h9 => h9) rfl d_Mo_discover_182 ?_
              refine lv_iload_n hx hb d_Mo_discover_185 rfl (lv_at hl 3 rfl) ?_
              refine lv_aload_n hx hb d_Mo_discover_186 rfl (lv_at hl 0 rfl) ?_
              refine hm_get (ci := 9) (v := .ref (A 17)) (C := R_Mo) (T := F_Mo) (N := 41) hx hb hts ig_Mo hown hK hH F_m9 rfl 29 (by decide) (hts _ mw_760) (fun _ h9 => h9) rfl d_Mo_discover_187 ?_
              refine lv_iload_n hx hb d_Mo_discover_190 rfl (lv_at hl 3 rfl) ?_
              refine hm_iald hx hb hK hH 2 F_A17 rfl (iIn (by omega) (by omega)) d_Mo_discover_191 ?_
              refine lv_topi (fun v_120 e_121 => ?_)
              refine hm_iast hx hb hK hH hLo 2 F_A6 rfl (iIn (by omega) (by omega)) d_Mo_discover_192 (fun H_122 locs hH z_123 hLo => ?_)
              have hz : s.heap.size ≤ H_122.size := by rw [z_123]; exact hz
              obtain ⟨h_124, e_125⟩ : ∃ z, z = hu h_115 (A 6) (.inl ((t 2), 700, .inl (upd pa8 i9.toNatClampNeg v_120))) := ⟨_, rfl⟩
              have hH : hm D vwCl G h_124 H_122 := by rw [e_125]; exact hH
              have F_m9 : h_124 m9 = some (.inr (9, mf A n 0 sd 0 lq9 wr r_73 r_50 di pl se_80 wg_81 op)) := by rw [e_125, hu_n (tne T_m9 (hA 6 (by decide)) (by decide))]; exact F_m9
              have F_A17 : h_124 (A 17) = some (.inl ((t 2), 31, .inl g_92)) := by rw [e_125, hu_n (tneF (hA 17 (by decide)) (hA 6 (by decide)) (by decide))]; exact F_A17
              have F_A19 : h_124 (A 19) = some (.inl ((t 2), 31, .inl g_93)) := by rw [e_125, hu_n (tneF (hA 19 (by decide)) (hA 6 (by decide)) (by decide))]; exact F_A19
              have F_A20 : h_124 (A 20) = some (.inl ((t 2), 31, .inl g_94)) := by rw [e_125, hu_n (tneF (hA 20 (by decide)) (hA 6 (by decide)) (by decide))]; exact F_A20
              have F_A18 : h_124 (A 18) = some (.inl ((t 1), 31, .inl g_89)) := by rw [e_125, hu_n (tneF (hA 18 (by decide)) (hA 6 (by decide)) (by decide))]; exact F_A18
              have F_A21 : h_124 (A 21) = some (.inl ((t 3), 31, .inr (.inl g_91))) := by rw [e_125, hu_n (tneF (hA 21 (by decide)) (hA 6 (by decide)) (by decide))]; exact F_A21
              have F_A4 : h_124 (A 4) = some (.inl ((t 1), 700, .inl g_107)) := by rw [e_125, hu_n (tneF (hA 4 (by decide)) (hA 6 (by decide)) (by decide))]; exact F_A4
              have F_A5 : h_124 (A 5) = some (.inl ((t 1), 700, .inl g_117)) := by rw [e_125, hu_n (tneF (hA 5 (by decide)) (hA 6 (by decide)) (by decide))]; exact F_A5
              have F_A8 : h_124 (A 8) = some (.inl ((t 2), 700, .inl sz8)) := by rw [e_125, hu_n (tneF (hA 8 (by decide)) (hA 6 (by decide)) (by decide))]; exact F_A8
              have F_A10 : h_124 (A 10) = some (.inl ((t 1), 700, .inl iw8)) := by rw [e_125, hu_n (tneF (hA 10 (by decide)) (hA 6 (by decide)) (by decide))]; exact F_A10
              have F_A11 : h_124 (A 11) = some (.inl ((t 2), 700, .inl ex8)) := by rw [e_125, hu_n (tneF (hA 11 (by decide)) (hA 6 (by decide)) (by decide))]; exact F_A11
              have F_A6 : h_124 (A 6) = some (.inl ((t 2), 700, .inl (upd pa8 i9.toNatClampNeg v_120))) := by rw [e_125]; exact hu_s _ _ _
              have hT : TI τ t n h_124 := by rw [e_125]; exact TI_put hT (hA 6 (by decide)) (by decide) (ok_I rfl rfl)
              have hkf : kf τ [(30, 17), (30, 18), (30, 19), (30, 20), (30, 21), (30, 22), (30, 4), (30, 5), (30, 6), (30, 7), (30, 8), (30, 9), (30, 10), (30, 11)] [m9] h h_124 := by rw [e_125]; exact kf_put hkf (hA 6 (by decide)) (List.mem_cons_of_mem _ (List.mem_cons_of_mem _ (List.mem_cons_of_mem _ (List.mem_cons_of_mem _ (List.mem_cons_of_mem _ (List.mem_cons_of_mem _ (List.mem_cons_of_mem _ (List.mem_cons_of_mem _ List.mem_cons_self))))))))
              obtain ⟨g_126, e_127⟩ : ∃ z, z = upd pa8 i9.toNatClampNeg v_120 := ⟨_, rfl⟩
              rw [← e_127] at F_A6
              refine lv_aload_n hx hb d_Mo_discover_193 rfl (lv_at hl 0 rfl) ?_
              refine hm_get (ci := 9) (v := .ref (A 7)) (C := R_Mo) (T := F_Mo) (N := 41) hx hb hts ig_Mo hown hK hH F_m9 rfl 14 (by decide) (hts _ mw_598) (fun _ h9 => h9) rfl d_Mo_discover_194 ?_
              refine lv_iload_n hx hb d_Mo_discover_197 rfl (lv_at hl 3 rfl) ?_
              refine lv_aload_n hx hb d_Mo_discover_198 rfl (lv_at hl 0 rfl) ?_
              refine hm_get (ci := 9) (v := .ref (A 21)) (C := R_Mo) (T := F_Mo) (N := 41) hx hb hts ig_Mo hown hK hH F_m9 rfl 33 (by decide) (hts _ mw_765) (fun _ h9 => h9) rfl d_Mo_discover_199 ?_
              refine lv_iload_n hx hb d_Mo_discover_202 rfl (lv_at hl 3 rfl) ?_
              refine hm_lald hx hb hK hH 3 F_A21 rfl (iIn (by omega) (by omega)) d_Mo_discover_203 ?_
              refine lv_topl (fun v_128 e_129 => ?_)
              obtain ⟨g_130, F_A7⟩ := TI_arJ (L := 700) hT (hA 7 (by decide)) rfl rfl
              refine hm_last hx hb hK hH hLo 3 F_A7 rfl (iIn (by omega) (by omega)) d_Mo_discover_204 (fun H_131 locs hH z_132 hLo => ?_)
              have hz : s.heap.size ≤ H_131.size := by rw [z_132]; exact hz
              obtain ⟨h_133, e_134⟩ : ∃ z, z = hu h_124 (A 7) (.inl ((t 3), 700, .inr (.inl (vp_updL g_130 i9.toNatClampNeg v_128)))) := ⟨_, rfl⟩
              have hH : hm D vwCl G h_133 H_131 := by rw [e_134]; exact hH
              have F_m9 : h_133 m9 = some (.inr (9, mf A n 0 sd 0 lq9 wr r_73 r_50 di pl se_80 wg_81 op)) := by rw [e_134, hu_n (tne T_m9 (hA 7 (by decide)) (by decide))]; exact F_m9
              have F_A17 : h_133 (A 17) = some (.inl ((t 2), 31, .inl g_92)) := by rw [e_134, hu_n (tneF (hA 17 (by decide)) (hA 7 (by decide)) (by decide))]; exact F_A17
              have F_A19 : h_133 (A 19) = some (.inl ((t 2), 31, .inl g_93)) := by rw [e_134, hu_n (tneF (hA 19 (by decide)) (hA 7 (by decide)) (by decide))]; exact F_A19
              have F_A20 : h_133 (A 20) = some (.inl ((t 2), 31, .inl g_94)) := by rw [e_134, hu_n (tneF (hA 20 (by decide)) (hA 7 (by decide)) (by decide))]; exact F_A20
              have F_A18 : h_133 (A 18) = some (.inl ((t 1), 31, .inl g_89)) := by rw [e_134, hu_n (tneF (hA 18 (by decide)) (hA 7 (by decide)) (by decide))]; exact F_A18
              have F_A21 : h_133 (A 21) = some (.inl ((t 3), 31, .inr (.inl g_91))) := by rw [e_134, hu_n (tneF (hA 21 (by decide)) (hA 7 (by decide)) (by decide))]; exact F_A21
              have F_A4 : h_133 (A 4) = some (.inl ((t 1), 700, .inl g_107)) := by rw [e_134, hu_n (tneF (hA 4 (by decide)) (hA 7 (by decide)) (by decide))]; exact F_A4
              have F_A5 : h_133 (A 5) = some (.inl ((t 1), 700, .inl g_117)) := by rw [e_134, hu_n (tneF (hA 5 (by decide)) (hA 7 (by decide)) (by decide))]; exact F_A5
              have F_A6 : h_133 (A 6) = some (.inl ((t 2), 700, .inl g_126)) := by rw [e_134, hu_n (tneF (hA 6 (by decide)) (hA 7 (by decide)) (by decide))]; exact F_A6
              have F_A8 : h_133 (A 8) = some (.inl ((t 2), 700, .inl sz8)) := by rw [e_134, hu_n (tneF (hA 8 (by decide)) (hA 7 (by decide)) (by decide))]; exact F_A8
              have F_A10 : h_133 (A 10) = some (.inl ((t 1), 700, .inl iw8)) := by rw [e_134, hu_n (tneF (hA 10 (by decide)) (hA 7 (by decide)) (by decide))]; exact F_A10
              have F_A11 : h_133 (A 11) = some (.inl ((t 2), 700, .inl ex8)) := by rw [e_134, hu_n (tneF (hA 11 (by decide)) (hA 7 (by decide)) (by decide))]; exact F_A11
              have F_A7 : h_133 (A 7) = some (.inl ((t 3), 700, .inr (.inl (vp_updL g_130 i9.toNatClampNeg v_128)))) := by rw [e_134]; exact hu_s _ _ _
              have hT : TI τ t n h_133 := by rw [e_134]; exact TI_put hT (hA 7 (by decide)) (by decide) (ok_J rfl rfl)
              have hkf : kf τ [(30, 17), (30, 18), (30, 19), (30, 20), (30, 21), (30, 22), (30, 4), (30, 5), (30, 6), (30, 7), (30, 8), (30, 9), (30, 10), (30, 11)] [m9] h h_133 := by rw [e_134]; exact kf_put hkf (hA 7 (by decide)) (List.mem_cons_of_mem _ (List.mem_cons_of_mem _ (List.mem_cons_of_mem _ (List.mem_cons_of_mem _ (List.mem_cons_of_mem _ (List.mem_cons_of_mem _ (List.mem_cons_of_mem _ (List.mem_cons_of_mem _ (List.mem_cons_of_mem _ List.mem_cons_self)))))))))
              obtain ⟨g_135, e_136⟩ : ∃ z, z = vp_updL g_130 i9.toNatClampNeg v_128 := ⟨_, rfl⟩
              rw [← e_136] at F_A7
              refine lv_aload_n hx hb d_Mo_discover_205 rfl (lv_at hl 0 rfl) ?_
              refine hm_get (ci := 9) (v := .ref (A 8)) (C := R_Mo) (T := F_Mo) (N := 41) hx hb hts ig_Mo hown hK hH F_m9 rfl 15 (by decide) (hts _ mw_615) (fun _ h9 => h9) rfl d_Mo_discover_206 ?_
              refine lv_iload_n hx hb d_Mo_discover_209 rfl (lv_at hl 3 rfl) ?_
              refine lv_aload_n hx hb d_Mo_discover_210 rfl (lv_at hl 0 rfl) ?_
              refine hm_get (ci := 9) (v := .ref (A 18)) (C := R_Mo) (T := F_Mo) (N := 41) hx hb hts ig_Mo hown hK hH F_m9 rfl 30 (by decide) (hts _ mw_761) (fun _ h9 => h9) rfl d_Mo_discover_211 ?_
              refine lv_iload_n hx hb d_Mo_discover_214 rfl (lv_at hl 3 rfl) ?_
              refine hm_zald hx hb hK hH 1 F_A18 rfl (iIn (by omega) (by omega)) d_Mo_discover_215 ?_
              refine lv_topi (fun v_137 e_138 => ?_)
              obtain rfl : 0 = v_137 := (e_138.trans (e_111.symm)).symm
              refine lv_if_eq (tgt := 223) hx hb d_Mo_discover_216 (by decide) (fun hc_139 => ?_) (fun hc_139 => absurd hc_139 (by decide))
              refine lv_aload_n hx hb d_Mo_discover_223 rfl (lv_at hl 0 rfl) ?_
              refine hm_get (ci := 9) (v := .ref (A 19)) (C := R_Mo) (T := F_Mo) (N := 41) hx hb hts ig_Mo hown hK hH F_m9 rfl 31 (by decide) (hts _ mw_762) (fun _ h9 => h9) rfl d_Mo_discover_224 ?_
              refine lv_iload_n hx hb d_Mo_discover_227 rfl (lv_at hl 3 rfl) ?_
              refine hm_iald hx hb hK hH 2 F_A19 rfl (iIn (by omega) (by omega)) d_Mo_discover_228 ?_
              refine lv_topi (fun v_140 e_141 => ?_)
              refine hm_iast hx hb hK hH hLo 2 F_A8 rfl (iIn (by omega) (by omega)) d_Mo_discover_229 (fun H_142 locs hH z_143 hLo => ?_)
              have hz : s.heap.size ≤ H_142.size := by rw [z_143]; exact hz
              obtain ⟨h_144, e_145⟩ : ∃ z, z = hu h_133 (A 8) (.inl ((t 2), 700, .inl (upd sz8 i9.toNatClampNeg v_140))) := ⟨_, rfl⟩
              have hH : hm D vwCl G h_144 H_142 := by rw [e_145]; exact hH
              have F_m9 : h_144 m9 = some (.inr (9, mf A n 0 sd 0 lq9 wr r_73 r_50 di pl se_80 wg_81 op)) := by rw [e_145, hu_n (tne T_m9 (hA 8 (by decide)) (by decide))]; exact F_m9
              have F_A17 : h_144 (A 17) = some (.inl ((t 2), 31, .inl g_92)) := by rw [e_145, hu_n (tneF (hA 17 (by decide)) (hA 8 (by decide)) (by decide))]; exact F_A17
              have F_A19 : h_144 (A 19) = some (.inl ((t 2), 31, .inl g_93)) := by rw [e_145, hu_n (tneF (hA 19 (by decide)) (hA 8 (by decide)) (by decide))]; exact F_A19
              have F_A20 : h_144 (A 20) = some (.inl ((t 2), 31, .inl g_94)) := by rw [e_145, hu_n (tneF (hA 20 (by decide)) (hA 8 (by decide)) (by decide))]; exact F_A20
              have F_A18 : h_144 (A 18) = some (.inl ((t 1), 31, .inl g_89)) := by rw [e_145, hu_n (tneF (hA 18 (by decide)) (hA 8 (by decide)) (by decide))]; exact F_A18
              have F_A21 : h_144 (A 21) = some (.inl ((t 3), 31, .inr (.inl g_91))) := by rw [e_145, hu_n (tneF (hA 21 (by decide)) (hA 8 (by decide)) (by decide))]; exact F_A21
              have F_A4 : h_144 (A 4) = some (.inl ((t 1), 700, .inl g_107)) := by rw [e_145, hu_n (tneF (hA 4 (by decide)) (hA 8 (by decide)) (by decide))]; exact F_A4
              have F_A5 : h_144 (A 5) = some (.inl ((t 1), 700, .inl g_117)) := by rw [e_145, hu_n (tneF (hA 5 (by decide)) (hA 8 (by decide)) (by decide))]; exact F_A5
              have F_A6 : h_144 (A 6) = some (.inl ((t 2), 700, .inl g_126)) := by rw [e_145, hu_n (tneF (hA 6 (by decide)) (hA 8 (by decide)) (by decide))]; exact F_A6
              have F_A10 : h_144 (A 10) = some (.inl ((t 1), 700, .inl iw8)) := by rw [e_145, hu_n (tneF (hA 10 (by decide)) (hA 8 (by decide)) (by decide))]; exact F_A10
              have F_A11 : h_144 (A 11) = some (.inl ((t 2), 700, .inl ex8)) := by rw [e_145, hu_n (tneF (hA 11 (by decide)) (hA 8 (by decide)) (by decide))]; exact F_A11
              have F_A7 : h_144 (A 7) = some (.inl ((t 3), 700, .inr (.inl g_135))) := by rw [e_145, hu_n (tneF (hA 7 (by decide)) (hA 8 (by decide)) (by decide))]; exact F_A7
              have F_A8 : h_144 (A 8) = some (.inl ((t 2), 700, .inl (upd sz8 i9.toNatClampNeg v_140))) := by rw [e_145]; exact hu_s _ _ _
              have hT : TI τ t n h_144 := by rw [e_145]; exact TI_put hT (hA 8 (by decide)) (by decide) (ok_I rfl rfl)
              have hkf : kf τ [(30, 17), (30, 18), (30, 19), (30, 20), (30, 21), (30, 22), (30, 4), (30, 5), (30, 6), (30, 7), (30, 8), (30, 9), (30, 10), (30, 11)] [m9] h h_144 := by rw [e_145]; exact kf_put hkf (hA 8 (by decide)) (List.mem_cons_of_mem _ (List.mem_cons_of_mem _ (List.mem_cons_of_mem _ (List.mem_cons_of_mem _ (List.mem_cons_of_mem _ (List.mem_cons_of_mem _ (List.mem_cons_of_mem _ (List.mem_cons_of_mem _ (List.mem_cons_of_mem _ (List.mem_cons_of_mem _ List.mem_cons_self))))))))))
              obtain ⟨g_146, e_147⟩ : ∃ z, z = upd sz8 i9.toNatClampNeg v_140 := ⟨_, rfl⟩
              rw [← e_147] at F_A8
              refine lv_aload_n hx hb d_Mo_discover_230 rfl (lv_at hl 0 rfl) ?_
              refine hm_get (ci := 9) (v := .ref (A 9)) (C := R_Mo) (T := F_Mo) (N := 41) hx hb hts ig_Mo hown hK hH F_m9 rfl 16 (by decide) (hts _ mw_616) (fun _ h9 => h9) rfl d_Mo_discover_231 ?_
              refine lv_iload_n hx hb d_Mo_discover_234 rfl (lv_at hl 3 rfl) ?_
              refine lv_aload_n hx hb d_Mo_discover_235 rfl (lv_at hl 0 rfl) ?_
              refine hm_get (ci := 9) (v := .ref (A 18)) (C := R_Mo) (T := F_Mo) (N := 41) hx hb hts ig_Mo hown hK hH F_m9 rfl 30 (by decide) (hts _ mw_761) (fun _ h9 => h9) rfl d_Mo_discover_236 ?_
              refine lv_iload_n hx hb d_Mo_discover_239 rfl (lv_at hl 3 rfl) ?_
              refine hm_zald hx hb hK hH 1 F_A18 rfl (iIn (by omega) (by omega)) d_Mo_discover_240 ?_
              refine lv_topi (fun v_148 e_149 => ?_)
              obtain rfl : 0 = v_148 := (e_149.trans (e_111.symm)).symm
              refine lv_if_eq (tgt := 248) hx hb d_Mo_discover_241 (by decide) (fun hc_150 => ?_) (fun hc_150 => absurd hc_150 (by decide))
              refine lv_iconst (v := -1) hx hb d_Mo_discover_248 (by decide) ?_
              obtain ⟨g_151, F_A9⟩ := TI_arI (L := 700) hT (hA 9 (by decide)) rfl rfl
              refine hm_iast hx hb hK hH hLo 2 F_A9 rfl (iIn (by omega) (by omega)) d_Mo_discover_249 (fun H_152 locs hH z_153 hLo => ?_)
              have hz : s.heap.size ≤ H_152.size := by rw [z_153]; exact hz
              obtain ⟨h_154, e_155⟩ : ∃ z, z = hu h_144 (A 9) (.inl ((t 2), 700, .inl (upd g_151 i9.toNatClampNeg ((-1) : Int32)))) := ⟨_, rfl⟩
              have hH : hm D vwCl G h_154 H_152 := by rw [e_155]; exact hH
              have F_m9 : h_154 m9 = some (.inr (9, mf A n 0 sd 0 lq9 wr r_73 r_50 di pl se_80 wg_81 op)) := by rw [e_155, hu_n (tne T_m9 (hA 9 (by decide)) (by decide))]; exact F_m9
              have F_A17 : h_154 (A 17) = some (.inl ((t 2), 31, .inl g_92)) := by rw [e_155, hu_n (tneF (hA 17 (by decide)) (hA 9 (by decide)) (by decide))]; exact F_A17
              have F_A19 : h_154 (A 19) = some (.inl ((t 2), 31, .inl g_93)) := by rw [e_155, hu_n (tneF (hA 19 (by decide)) (hA 9 (by decide)) (by decide))]; exact F_A19
              have F_A20 : h_154 (A 20) = some (.inl ((t 2), 31, .inl g_94)) := by rw [e_155, hu_n (tneF (hA 20 (by decide)) (hA 9 (by decide)) (by decide))]; exact F_A20
              have F_A18 : h_154 (A 18) = some (.inl ((t 1), 31, .inl g_89)) := by rw [e_155, hu_n (tneF (hA 18 (by decide)) (hA 9 (by decide)) (by decide))]; exact F_A18
              have F_A21 : h_154 (A 21) = some (.inl ((t 3), 31, .inr (.inl g_91))) := by rw [e_155, hu_n (tneF (hA 21 (by decide)) (hA 9 (by decide)) (by decide))]; exact F_A21
              have F_A4 : h_154 (A 4) = some (.inl ((t 1), 700, .inl g_107)) := by rw [e_155, hu_n (tneF (hA 4 (by decide)) (hA 9 (by decide)) (by decide))]; exact F_A4
              have F_A5 : h_154 (A 5) = some (.inl ((t 1), 700, .inl g_117)) := by rw [e_155, hu_n (tneF (hA 5 (by decide)) (hA 9 (by decide)) (by decide))]; exact F_A5
              have F_A6 : h_154 (A 6) = some (.inl ((t 2), 700, .inl g_126)) := by rw [e_155, hu_n (tneF (hA 6 (by decide)) (hA 9 (by decide)) (by decide))]; exact F_A6
              have F_A8 : h_154 (A 8) = some (.inl ((t 2), 700, .inl g_146)) := by rw [e_155, hu_n (tneF (hA 8 (by decide)) (hA 9 (by decide)) (by decide))]; exact F_A8
              have F_A10 : h_154 (A 10) = some (.inl ((t 1), 700, .inl iw8)) := by rw [e_155, hu_n (tneF (hA 10 (by decide)) (hA 9 (by decide)) (by decide))]; exact F_A10
              have F_A11 : h_154 (A 11) = some (.inl ((t 2), 700, .inl ex8)) := by rw [e_155, hu_n (tneF (hA 11 (by decide)) (hA 9 (by decide)) (by decide))]; exact F_A11
              have F_A7 : h_154 (A 7) = some (.inl ((t 3), 700, .inr (.inl g_135))) := by rw [e_155, hu_n (tneF (hA 7 (by decide)) (hA 9 (by decide)) (by decide))]; exact F_A7
              have F_A9 : h_154 (A 9) = some (.inl ((t 2), 700, .inl (upd g_151 i9.toNatClampNeg ((-1) : Int32)))) := by rw [e_155]; exact hu_s _ _ _
              have hT : TI τ t n h_154 := by rw [e_155]; exact TI_put hT (hA 9 (by decide)) (by decide) (ok_I rfl rfl)
              have hkf : kf τ [(30, 17), (30, 18), (30, 19), (30, 20), (30, 21), (30, 22), (30, 4), (30, 5), (30, 6), (30, 7), (30, 8), (30, 9), (30, 10), (30, 11)] [m9] h h_154 := by rw [e_155]; exact kf_put hkf (hA 9 (by decide)) (List.mem_cons_of_mem _ (List.mem_cons_of_mem _ (List.mem_cons_of_mem _ (List.mem_cons_of_mem _ (List.mem_cons_of_mem _ (List.mem_cons_of_mem _ (List.mem_cons_of_mem _ (List.mem_cons_of_mem _ (List.mem_cons_of_mem _ (List.mem_cons_of_mem _ (List.mem_cons_of_mem _ List.mem_cons_self)))))))))))
              obtain ⟨g_156, e_157⟩ : ∃ z, z = upd g_151 i9.toNatClampNeg ((-1) : Int32) := ⟨_, rfl⟩
              rw [← e_157] at F_A9
              refine lv_aload_n hx hb d_Mo_discover_250 rfl (lv_at hl 0 rfl) ?_
              refine hm_get (ci := 9) (v := .ref (A 10)) (C := R_Mo) (T := F_Mo) (N := 41) hx hb hts ig_Mo hown hK hH F_m9 rfl 17 (by decide) (hts _ mw_617) (fun _ h9 => h9) rfl d_Mo_discover_251 ?_
              refine lv_iload_n hx hb d_Mo_discover_254 rfl (lv_at hl 3 rfl) ?_
              refine lv_iconst (v := 1) hx hb d_Mo_discover_255 (by decide) ?_
              refine hm_zast hx hb hK hH hLo 1 F_A10 rfl (iIn (by omega) (by omega)) d_Mo_discover_256 (fun H_158 locs hH z_159 hLo => ?_)
              have hz : s.heap.size ≤ H_158.size := by rw [z_159]; exact hz
              rw [zb_nar (v := 1) zb1] at hH
              obtain ⟨h_160, e_161⟩ : ∃ z, z = hu h_154 (A 10) (.inl ((t 1), 700, .inl (upd iw8 i9.toNatClampNeg (1 : Int32)))) := ⟨_, rfl⟩
              have hH : hm D vwCl G h_160 H_158 := by rw [e_161]; exact hH
              have F_m9 : h_160 m9 = some (.inr (9, mf A n 0 sd 0 lq9 wr r_73 r_50 di pl se_80 wg_81 op)) := by rw [e_161, hu_n (tne T_m9 (hA 10 (by decide)) (by decide))]; exact F_m9
              have F_A17 : h_160 (A 17) = some (.inl ((t 2), 31, .inl g_92)) := by rw [e_161, hu_n (tneF (hA 17 (by decide)) (hA 10 (by decide)) (by decide))]; exact F_A17
              have F_A19 : h_160 (A 19) = some (.inl ((t 2), 31, .inl g_93)) := by rw [e_161, hu_n (tneF (hA 19 (by decide)) (hA 10 (by decide)) (by decide))]; exact F_A19
              have F_A20 : h_160 (A 20) = some (.inl ((t 2), 31, .inl g_94)) := by rw [e_161, hu_n (tneF (hA 20 (by decide)) (hA 10 (by decide)) (by decide))]; exact F_A20
              have F_A18 : h_160 (A 18) = some (.inl ((t 1), 31, .inl g_89)) := by rw [e_161, hu_n (tneF (hA 18 (by decide)) (hA 10 (by decide)) (by decide))]; exact F_A18
              have F_A21 : h_160 (A 21) = some (.inl ((t 3), 31, .inr (.inl g_91))) := by rw [e_161, hu_n (tneF (hA 21 (by decide)) (hA 10 (by decide)) (by decide))]; exact F_A21
              have F_A4 : h_160 (A 4) = some (.inl ((t 1), 700, .inl g_107)) := by rw [e_161, hu_n (tneF (hA 4 (by decide)) (hA 10 (by decide)) (by decide))]; exact F_A4
              have F_A5 : h_160 (A 5) = some (.inl ((t 1), 700, .inl g_117)) := by rw [e_161, hu_n (tneF (hA 5 (by decide)) (hA 10 (by decide)) (by decide))]; exact F_A5
              have F_A6 : h_160 (A 6) = some (.inl ((t 2), 700, .inl g_126)) := by rw [e_161, hu_n (tneF (hA 6 (by decide)) (hA 10 (by decide)) (by decide))]; exact F_A6
              have F_A8 : h_160 (A 8) = some (.inl ((t 2), 700, .inl g_146)) := by rw [e_161, hu_n (tneF (hA 8 (by decide)) (hA 10 (by decide)) (by decide))]; exact F_A8
              have F_A11 : h_160 (A 11) = some (.inl ((t 2), 700, .inl ex8)) := by rw [e_161, hu_n (tneF (hA 11 (by decide)) (hA 10 (by decide)) (by decide))]; exact F_A11
              have F_A7 : h_160 (A 7) = some (.inl ((t 3), 700, .inr (.inl g_135))) := by rw [e_161, hu_n (tneF (hA 7 (by decide)) (hA 10 (by decide)) (by decide))]; exact F_A7
              have F_A9 : h_160 (A 9) = some (.inl ((t 2), 700, .inl g_156)) := by rw [e_161, hu_n (tneF (hA 9 (by decide)) (hA 10 (by decide)) (by decide))]; exact F_A9
              have F_A10 : h_160 (A 10) = some (.inl ((t 1), 700, .inl (upd iw8 i9.toNatClampNeg (1 : Int32)))) := by rw [e_161]; exact hu_s _ _ _
              have hT : TI τ t n h_160 := by rw [e_161]; exact TI_put hT (hA 10 (by decide)) (by decide) (ok_Z rfl rfl (zbF_up c_iw8 zb1))
              have hkf : kf τ [(30, 17), (30, 18), (30, 19), (30, 20), (30, 21), (30, 22), (30, 4), (30, 5), (30, 6), (30, 7), (30, 8), (30, 9), (30, 10), (30, 11)] [m9] h h_160 := by rw [e_161]; exact kf_put hkf (hA 10 (by decide)) (List.mem_cons_of_mem _ (List.mem_cons_of_mem _ (List.mem_cons_of_mem _ (List.mem_cons_of_mem _ (List.mem_cons_of_mem _ (List.mem_cons_of_mem _ (List.mem_cons_of_mem _ (List.mem_cons_of_mem _ (List.mem_cons_of_mem _ (List.mem_cons_of_mem _ (List.mem_cons_of_mem _ (List.mem_cons_of_mem _ List.mem_cons_self))))))))))))
              obtain ⟨g_162, e_163⟩ : ∃ z, z = upd iw8 i9.toNatClampNeg (1 : Int32) := ⟨_, rfl⟩
              rw [← e_163] at F_A10
              have c_164 : zbF g_162 := by rw [e_163]; exact (zbF_up c_iw8 zb1)
              refine lv_aload_n hx hb d_Mo_discover_257 rfl (lv_at hl 0 rfl) ?_
              refine hm_get (ci := 9) (v := .ref (A 11)) (C := R_Mo) (T := F_Mo) (N := 41) hx hb hts ig_Mo hown hK hH F_m9 rfl 18 (by decide) (hts _ mw_618) (fun _ h9 => h9) rfl d_Mo_discover_258 ?_
              refine lv_iload_n hx hb d_Mo_discover_261 rfl (lv_at hl 3 rfl) ?_
              refine lv_aload_n hx hb d_Mo_discover_262 rfl (lv_at hl 0 rfl) ?_
              refine hm_get (ci := 9) (v := .ref (A 18)) (C := R_Mo) (T := F_Mo) (N := 41) hx hb hts ig_Mo hown hK hH F_m9 rfl 30 (by decide) (hts _ mw_761) (fun _ h9 => h9) rfl d_Mo_discover_263 ?_
              refine lv_iload_n hx hb d_Mo_discover_266 rfl (lv_at hl 3 rfl) ?_
              refine hm_zald hx hb hK hH 1 F_A18 rfl (iIn (by omega) (by omega)) d_Mo_discover_267 ?_
              refine lv_topi (fun v_165 e_166 => ?_)
              obtain rfl : 0 = v_165 := (e_166.trans (e_111.symm)).symm
              refine lv_if_eq (tgt := 275) hx hb d_Mo_discover_268 (by decide) (fun hc_167 => ?_) (fun hc_167 => absurd hc_167 (by decide))
              refine lv_aload_n hx hb d_Mo_discover_275 rfl (lv_at hl 0 rfl) ?_
              refine hm_get (ci := 9) (v := .ref (A 20)) (C := R_Mo) (T := F_Mo) (N := 41) hx hb hts ig_Mo hown hK hH F_m9 rfl 32 (by decide) (hts _ mw_763) (fun _ h9 => h9) rfl d_Mo_discover_276 ?_
              refine lv_iload_n hx hb d_Mo_discover_279 rfl (lv_at hl 3 rfl) ?_
              refine hm_iald hx hb hK hH 2 F_A20 rfl (iIn (by omega) (by omega)) d_Mo_discover_280 ?_
              refine lv_topi (fun v_168 e_169 => ?_)
              refine hm_iast hx hb hK hH hLo 2 F_A11 rfl (iIn (by omega) (by omega)) d_Mo_discover_281 (fun H_170 locs hH z_171 hLo => ?_)
              have hz : s.heap.size ≤ H_170.size := by rw [z_171]; exact hz
              obtain ⟨h_172, e_173⟩ : ∃ z, z = hu h_160 (A 11) (.inl ((t 2), 700, .inl (upd ex8 i9.toNatClampNeg v_168))) := ⟨_, rfl⟩
              have hH : hm D vwCl G h_172 H_170 := by rw [e_173]; exact hH
              have F_m9 : h_172 m9 = some (.inr (9, mf A n 0 sd 0 lq9 wr r_73 r_50 di pl se_80 wg_81 op)) := by rw [e_173, hu_n (tne T_m9 (hA 11 (by decide)) (by decide))]; exact F_m9
              have F_A17 : h_172 (A 17) = some (.inl ((t 2), 31, .inl g_92)) := by rw [e_173, hu_n (tneF (hA 17 (by decide)) (hA 11 (by decide)) (by decide))]; exact F_A17
              have F_A19 : h_172 (A 19) = some (.inl ((t 2), 31, .inl g_93)) := by rw [e_173, hu_n (tneF (hA 19 (by decide)) (hA 11 (by decide)) (by decide))]; exact F_A19
              have F_A20 : h_172 (A 20) = some (.inl ((t 2), 31, .inl g_94)) := by rw [e_173, hu_n (tneF (hA 20 (by decide)) (hA 11 (by decide)) (by decide))]; exact F_A20
              have F_A18 : h_172 (A 18) = some (.inl ((t 1), 31, .inl g_89)) := by rw [e_173, hu_n (tneF (hA 18 (by decide)) (hA 11 (by decide)) (by decide))]; exact F_A18
              have F_A21 : h_172 (A 21) = some (.inl ((t 3), 31, .inr (.inl g_91))) := by rw [e_173, hu_n (tneF (hA 21 (by decide)) (hA 11 (by decide)) (by decide))]; exact F_A21
              have F_A4 : h_172 (A 4) = some (.inl ((t 1), 700, .inl g_107)) := by rw [e_173, hu_n (tneF (hA 4 (by decide)) (hA 11 (by decide)) (by decide))]; exact F_A4
              have F_A5 : h_172 (A 5) = some (.inl ((t 1), 700, .inl g_117)) := by rw [e_173, hu_n (tneF (hA 5 (by decide)) (hA 11 (by decide)) (by decide))]; exact F_A5
              have F_A6 : h_172 (A 6) = some (.inl ((t 2), 700, .inl g_126)) := by rw [e_173, hu_n (tneF (hA 6 (by decide)) (hA 11 (by decide)) (by decide))]; exact F_A6
              have F_A8 : h_172 (A 8) = some (.inl ((t 2), 700, .inl g_146)) := by rw [e_173, hu_n (tneF (hA 8 (by decide)) (hA 11 (by decide)) (by decide))]; exact F_A8
              have F_A10 : h_172 (A 10) = some (.inl ((t 1), 700, .inl g_162)) := by rw [e_173, hu_n (tneF (hA 10 (by decide)) (hA 11 (by decide)) (by decide))]; exact F_A10
              have F_A7 : h_172 (A 7) = some (.inl ((t 3), 700, .inr (.inl g_135))) := by rw [e_173, hu_n (tneF (hA 7 (by decide)) (hA 11 (by decide)) (by decide))]; exact F_A7
              have F_A9 : h_172 (A 9) = some (.inl ((t 2), 700, .inl g_156)) := by rw [e_173, hu_n (tneF (hA 9 (by decide)) (hA 11 (by decide)) (by decide))]; exact F_A9
              have F_A11 : h_172 (A 11) = some (.inl ((t 2), 700, .inl (upd ex8 i9.toNatClampNeg v_168))) := by rw [e_173]; exact hu_s _ _ _
              have hT : TI τ t n h_172 := by rw [e_173]; exact TI_put hT (hA 11 (by decide)) (by decide) (ok_I rfl rfl)
              have hkf : kf τ [(30, 17), (30, 18), (30, 19), (30, 20), (30, 21), (30, 22), (30, 4), (30, 5), (30, 6), (30, 7), (30, 8), (30, 9), (30, 10), (30, 11)] [m9] h h_172 := by rw [e_173]; exact kf_put hkf (hA 11 (by decide)) (List.mem_cons_of_mem _ (List.mem_cons_of_mem _ (List.mem_cons_of_mem _ (List.mem_cons_of_mem _ (List.mem_cons_of_mem _ (List.mem_cons_of_mem _ (List.mem_cons_of_mem _ (List.mem_cons_of_mem _ (List.mem_cons_of_mem _ (List.mem_cons_of_mem _ (List.mem_cons_of_mem _ (List.mem_cons_of_mem _ (List.mem_cons_of_mem _ List.mem_cons_self)))))))))))))
              obtain ⟨g_174, e_175⟩ : ∃ z, z = upd ex8 i9.toNatClampNeg v_168 := ⟨_, rfl⟩
              rw [← e_175] at F_A11
              obtain ⟨j_176, e_177⟩ : ∃ z : Int32, z = i9 + 1 := ⟨_, rfl⟩
              refine lv_iinc (v := j_176) (lv' := [(3, .int j_176), (0, .ref m9), (1, .int n9), (2, .int la9)]) hx hb d_Mo_discover_282 hl (k := 3) rfl e_177.symm (by decide) rfl (fun ls hl => ?_)
              refine lv_goto (tgt := 154) hx hb d_Mo_discover_285 (by decide) ?_
              have is_178 : j_176.toInt = i9.toInt + 1 := by rw [e_177]; exact iAddK 1 rfl (by omega) (by omega)
              exact ih154 (mU j_176) ls _ locs _ (by rw [hk154]; exact mU_lt (by omega)) ⟨j_176, g_107, g_117, g_126, g_146, g_162, g_174, rfl, (lv_sub hl [1, 2, 3, 0] rfl), hH, hz, hLo, F_m9, F_A17, F_A19, F_A20, F_A18, F_A21, hT, hkf, F_A4, c_109, F_A5, c_119, F_A6, F_A8, F_A10, c_164, F_A11, (by omega), (dc_s hDc I_i9 (by omega) e_108 e_118 e_127 e_147 e_175 e_121 (fun _ => ⟨e_141, e_169⟩))⟩
            · skip
              refine hm_zast hx hb hK hH hLo 1 F_A5 rfl (iIn (by omega) (by omega)) d_Mo_discover_180 (fun H_179 locs hH z_180 hLo => ?_)
              have hz : s.heap.size ≤ H_179.size := by rw [z_180]; exact hz
              rw [zb_nar (v := 1) zb1] at hH
              obtain ⟨h_181, e_182⟩ : ∃ z, z = hu h_105 (A 5) (.inl ((t 1), 700, .inl (upd di8 i9.toNatClampNeg (1 : Int32)))) := ⟨_, rfl⟩
              have hH : hm D vwCl G h_181 H_179 := by rw [e_182]; exact hH
              have F_m9 : h_181 m9 = some (.inr (9, mf A n 0 sd 0 lq9 wr r_73 r_50 di pl se_80 wg_81 op)) := by rw [e_182, hu_n (tne T_m9 (hA 5 (by decide)) (by decide))]; exact F_m9
              have F_A17 : h_181 (A 17) = some (.inl ((t 2), 31, .inl g_92)) := by rw [e_182, hu_n (tneF (hA 17 (by decide)) (hA 5 (by decide)) (by decide))]; exact F_A17
              have F_A19 : h_181 (A 19) = some (.inl ((t 2), 31, .inl g_93)) := by rw [e_182, hu_n (tneF (hA 19 (by decide)) (hA 5 (by decide)) (by decide))]; exact F_A19
              have F_A20 : h_181 (A 20) = some (.inl ((t 2), 31, .inl g_94)) := by rw [e_182, hu_n (tneF (hA 20 (by decide)) (hA 5 (by decide)) (by decide))]; exact F_A20
              have F_A18 : h_181 (A 18) = some (.inl ((t 1), 31, .inl g_89)) := by rw [e_182, hu_n (tneF (hA 18 (by decide)) (hA 5 (by decide)) (by decide))]; exact F_A18
              have F_A21 : h_181 (A 21) = some (.inl ((t 3), 31, .inr (.inl g_91))) := by rw [e_182, hu_n (tneF (hA 21 (by decide)) (hA 5 (by decide)) (by decide))]; exact F_A21
              have F_A4 : h_181 (A 4) = some (.inl ((t 1), 700, .inl g_107)) := by rw [e_182, hu_n (tneF (hA 4 (by decide)) (hA 5 (by decide)) (by decide))]; exact F_A4
              have F_A6 : h_181 (A 6) = some (.inl ((t 2), 700, .inl pa8)) := by rw [e_182, hu_n (tneF (hA 6 (by decide)) (hA 5 (by decide)) (by decide))]; exact F_A6
              have F_A8 : h_181 (A 8) = some (.inl ((t 2), 700, .inl sz8)) := by rw [e_182, hu_n (tneF (hA 8 (by decide)) (hA 5 (by decide)) (by decide))]; exact F_A8
              have F_A10 : h_181 (A 10) = some (.inl ((t 1), 700, .inl iw8)) := by rw [e_182, hu_n (tneF (hA 10 (by decide)) (hA 5 (by decide)) (by decide))]; exact F_A10
              have F_A11 : h_181 (A 11) = some (.inl ((t 2), 700, .inl ex8)) := by rw [e_182, hu_n (tneF (hA 11 (by decide)) (hA 5 (by decide)) (by decide))]; exact F_A11
              have F_A5 : h_181 (A 5) = some (.inl ((t 1), 700, .inl (upd di8 i9.toNatClampNeg (1 : Int32)))) := by rw [e_182]; exact hu_s _ _ _
              have hT : TI τ t n h_181 := by rw [e_182]; exact TI_put hT (hA 5 (by decide)) (by decide) (ok_Z rfl rfl (zbF_up c_di8 zb1))
              have hkf : kf τ [(30, 17), (30, 18), (30, 19), (30, 20), (30, 21), (30, 22), (30, 4), (30, 5), (30, 6), (30, 7), (30, 8), (30, 9), (30, 10), (30, 11)] [m9] h h_181 := by rw [e_182]; exact kf_put hkf (hA 5 (by decide)) (List.mem_cons_of_mem _ (List.mem_cons_of_mem _ (List.mem_cons_of_mem _ (List.mem_cons_of_mem _ (List.mem_cons_of_mem _ (List.mem_cons_of_mem _ (List.mem_cons_of_mem _ List.mem_cons_self)))))))
              obtain ⟨g_183, e_184⟩ : ∃ z, z = upd di8 i9.toNatClampNeg (1 : Int32) := ⟨_, rfl⟩
              rw [← e_184] at F_A5
              have c_185 : zbF g_183 := by rw [e_184]; exact (zbF_up c_di8 zb1)
              refine lv_aload_n hx hb d_Mo_discover_181 rfl (lv_at hl 0 rfl) ?_
              refine hm_get (ci := 9) (v := .ref (A 6)) (C := R_Mo) (T := F_Mo) (N := 41) hx hb hts ig_Mo hown hK hH F_m9 rfl 13 (by decide) (hts _ mw_597) (fun _ h9 => h9) rfl d_Mo_discover_182 ?_
              refine lv_iload_n hx hb d_Mo_discover_185 rfl (lv_at hl 3 rfl) ?_
              refine lv_aload_n hx hb d_Mo_discover_186 rfl (lv_at hl 0 rfl) ?_
              refine hm_get (ci := 9) (v := .ref (A 17)) (C := R_Mo) (T := F_Mo) (N := 41) hx hb hts ig_Mo hown hK hH F_m9 rfl 29 (by decide) (hts _ mw_760) (fun _ h9 => h9) rfl d_Mo_discover_187 ?_
              refine lv_iload_n hx hb d_Mo_discover_190 rfl (lv_at hl 3 rfl) ?_
              refine hm_iald hx hb hK hH 2 F_A17 rfl (iIn (by omega) (by omega)) d_Mo_discover_191 ?_
              refine lv_topi (fun v_186 e_187 => ?_)
              refine hm_iast hx hb hK hH hLo 2 F_A6 rfl (iIn (by omega) (by omega)) d_Mo_discover_192 (fun H_188 locs hH z_189 hLo => ?_)
              have hz : s.heap.size ≤ H_188.size := by rw [z_189]; exact hz
              obtain ⟨h_190, e_191⟩ : ∃ z, z = hu h_181 (A 6) (.inl ((t 2), 700, .inl (upd pa8 i9.toNatClampNeg v_186))) := ⟨_, rfl⟩
              have hH : hm D vwCl G h_190 H_188 := by rw [e_191]; exact hH
              have F_m9 : h_190 m9 = some (.inr (9, mf A n 0 sd 0 lq9 wr r_73 r_50 di pl se_80 wg_81 op)) := by rw [e_191, hu_n (tne T_m9 (hA 6 (by decide)) (by decide))]; exact F_m9
              have F_A17 : h_190 (A 17) = some (.inl ((t 2), 31, .inl g_92)) := by rw [e_191, hu_n (tneF (hA 17 (by decide)) (hA 6 (by decide)) (by decide))]; exact F_A17
              have F_A19 : h_190 (A 19) = some (.inl ((t 2), 31, .inl g_93)) := by rw [e_191, hu_n (tneF (hA 19 (by decide)) (hA 6 (by decide)) (by decide))]; exact F_A19
              have F_A20 : h_190 (A 20) = some (.inl ((t 2), 31, .inl g_94)) := by rw [e_191, hu_n (tneF (hA 20 (by decide)) (hA 6 (by decide)) (by decide))]; exact F_A20
              have F_A18 : h_190 (A 18) = some (.inl ((t 1), 31, .inl g_89)) := by rw [e_191, hu_n (tneF (hA 18 (by decide)) (hA 6 (by decide)) (by decide))]; exact F_A18
              have F_A21 : h_190 (A 21) = some (.inl ((t 3), 31, .inr (.inl g_91))) := by rw [e_191, hu_n (tneF (hA 21 (by decide)) (hA 6 (by decide)) (by decide))]; exact F_A21
              have F_A4 : h_190 (A 4) = some (.inl ((t 1), 700, .inl g_107)) := by rw [e_191, hu_n (tneF (hA 4 (by decide)) (hA 6 (by decide)) (by decide))]; exact F_A4
              have F_A5 : h_190 (A 5) = some (.inl ((t 1), 700, .inl g_183)) := by rw [e_191, hu_n (tneF (hA 5 (by decide)) (hA 6 (by decide)) (by decide))]; exact F_A5
              have F_A8 : h_190 (A 8) = some (.inl ((t 2), 700, .inl sz8)) := by rw [e_191, hu_n (tneF (hA 8 (by decide)) (hA 6 (by decide)) (by decide))]; exact F_A8
              have F_A10 : h_190 (A 10) = some (.inl ((t 1), 700, .inl iw8)) := by rw [e_191, hu_n (tneF (hA 10 (by decide)) (hA 6 (by decide)) (by decide))]; exact F_A10
              have F_A11 : h_190 (A 11) = some (.inl ((t 2), 700, .inl ex8)) := by rw [e_191, hu_n (tneF (hA 11 (by decide)) (hA 6 (by decide)) (by decide))]; exact F_A11
              have F_A6 : h_190 (A 6) = some (.inl ((t 2), 700, .inl (upd pa8 i9.toNatClampNeg v_186))) := by rw [e_191]; exact hu_s _ _ _
              have hT : TI τ t n h_190 := by rw [e_191]; exact TI_put hT (hA 6 (by decide)) (by decide) (ok_I rfl rfl)
              have hkf : kf τ [(30, 17), (30, 18), (30, 19), (30, 20), (30, 21), (30, 22), (30, 4), (30, 5), (30, 6), (30, 7), (30, 8), (30, 9), (30, 10), (30, 11)] [m9] h h_190 := by rw [e_191]; exact kf_put hkf (hA 6 (by decide)) (List.mem_cons_of_mem _ (List.mem_cons_of_mem _ (List.mem_cons_of_mem _ (List.mem_cons_of_mem _ (List.mem_cons_of_mem _ (List.mem_cons_of_mem _ (List.mem_cons_of_mem _ (List.mem_cons_of_mem _ List.mem_cons_self))))))))
              obtain ⟨g_192, e_193⟩ : ∃ z, z = upd pa8 i9.toNatClampNeg v_186 := ⟨_, rfl⟩
              rw [← e_193] at F_A6
              refine lv_aload_n hx hb d_Mo_discover_193 rfl (lv_at hl 0 rfl) ?_
              refine hm_get (ci := 9) (v := .ref (A 7)) (C := R_Mo) (T := F_Mo) (N := 41) hx hb hts ig_Mo hown hK hH F_m9 rfl 14 (by decide) (hts _ mw_598) (fun _ h9 => h9) rfl d_Mo_discover_194 ?_
              refine lv_iload_n hx hb d_Mo_discover_197 rfl (lv_at hl 3 rfl) ?_
              refine lv_aload_n hx hb d_Mo_discover_198 rfl (lv_at hl 0 rfl) ?_
              refine hm_get (ci := 9) (v := .ref (A 21)) (C := R_Mo) (T := F_Mo) (N := 41) hx hb hts ig_Mo hown hK hH F_m9 rfl 33 (by decide) (hts _ mw_765) (fun _ h9 => h9) rfl d_Mo_discover_199 ?_
              refine lv_iload_n hx hb d_Mo_discover_202 rfl (lv_at hl 3 rfl) ?_
              refine hm_lald hx hb hK hH 3 F_A21 rfl (iIn (by omega) (by omega)) d_Mo_discover_203 ?_
              refine lv_topl (fun v_194 e_195 => ?_)
              obtain ⟨g_196, F_A7⟩ := TI_arJ (L := 700) hT (hA 7 (by decide)) rfl rfl
              refine hm_last hx hb hK hH hLo 3 F_A7 rfl (iIn (by omega) (by omega)) d_Mo_discover_204 (fun H_197 locs hH z_198 hLo => ?_)
              have hz : s.heap.size ≤ H_197.size := by rw [z_198]; exact hz
              obtain ⟨h_199, e_200⟩ : ∃ z, z = hu h_190 (A 7) (.inl ((t 3), 700, .inr (.inl (vp_updL g_196 i9.toNatClampNeg v_194)))) := ⟨_, rfl⟩
              have hH : hm D vwCl G h_199 H_197 := by rw [e_200]; exact hH
              have F_m9 : h_199 m9 = some (.inr (9, mf A n 0 sd 0 lq9 wr r_73 r_50 di pl se_80 wg_81 op)) := by rw [e_200, hu_n (tne T_m9 (hA 7 (by decide)) (by decide))]; exact F_m9
              have F_A17 : h_199 (A 17) = some (.inl ((t 2), 31, .inl g_92)) := by rw [e_200, hu_n (tneF (hA 17 (by decide)) (hA 7 (by decide)) (by decide))]; exact F_A17
              have F_A19 : h_199 (A 19) = some (.inl ((t 2), 31, .inl g_93)) := by rw [e_200, hu_n (tneF (hA 19 (by decide)) (hA 7 (by decide)) (by decide))]; exact F_A19
              have F_A20 : h_199 (A 20) = some (.inl ((t 2), 31, .inl g_94)) := by rw [e_200, hu_n (tneF (hA 20 (by decide)) (hA 7 (by decide)) (by decide))]; exact F_A20
              have F_A18 : h_199 (A 18) = some (.inl ((t 1), 31, .inl g_89)) := by rw [e_200, hu_n (tneF (hA 18 (by decide)) (hA 7 (by decide)) (by decide))]; exact F_A18
              have F_A21 : h_199 (A 21) = some (.inl ((t 3), 31, .inr (.inl g_91))) := by rw [e_200, hu_n (tneF (hA 21 (by decide)) (hA 7 (by decide)) (by decide))]; exact F_A21
              have F_A4 : h_199 (A 4) = some (.inl ((t 1), 700, .inl g_107)) := by rw [e_200, hu_n (tneF (hA 4 (by decide)) (hA 7 (by decide)) (by decide))]; exact F_A4
              have F_A5 : h_199 (A 5) = some (.inl ((t 1), 700, .inl g_183)) := by rw [e_200, hu_n (tneF (hA 5 (by decide)) (hA 7 (by decide)) (by decide))]; exact F_A5
              have F_A6 : h_199 (A 6) = some (.inl ((t 2), 700, .inl g_192)) := by rw [e_200, hu_n (tneF (hA 6 (by decide)) (hA 7 (by decide)) (by decide))]; exact F_A6
              have F_A8 : h_199 (A 8) = some (.inl ((t 2), 700, .inl sz8)) := by rw [e_200, hu_n (tneF (hA 8 (by decide)) (hA 7 (by decide)) (by decide))]; exact F_A8
              have F_A10 : h_199 (A 10) = some (.inl ((t 1), 700, .inl iw8)) := by rw [e_200, hu_n (tneF (hA 10 (by decide)) (hA 7 (by decide)) (by decide))]; exact F_A10
              have F_A11 : h_199 (A 11) = some (.inl ((t 2), 700, .inl ex8)) := by rw [e_200, hu_n (tneF (hA 11 (by decide)) (hA 7 (by decide)) (by decide))]; exact F_A11
              have F_A7 : h_199 (A 7) = some (.inl ((t 3), 700, .inr (.inl (vp_updL g_196 i9.toNatClampNeg v_194)))) := by rw [e_200]; exact hu_s _ _ _
              have hT : TI τ t n h_199 := by rw [e_200]; exact TI_put hT (hA 7 (by decide)) (by decide) (ok_J rfl rfl)
              have hkf : kf τ [(30, 17), (30, 18), (30, 19), (30, 20), (30, 21), (30, 22), (30, 4), (30, 5), (30, 6), (30, 7), (30, 8), (30, 9), (30, 10), (30, 11)] [m9] h h_199 := by rw [e_200]; exact kf_put hkf (hA 7 (by decide)) (List.mem_cons_of_mem _ (List.mem_cons_of_mem _ (List.mem_cons_of_mem _ (List.mem_cons_of_mem _ (List.mem_cons_of_mem _ (List.mem_cons_of_mem _ (List.mem_cons_of_mem _ (List.mem_cons_of_mem _ (List.mem_cons_of_mem _ List.mem_cons_self)))))))))
              obtain ⟨g_201, e_202⟩ : ∃ z, z = vp_updL g_196 i9.toNatClampNeg v_194 := ⟨_, rfl⟩
              rw [← e_202] at F_A7
              refine lv_aload_n hx hb d_Mo_discover_205 rfl (lv_at hl 0 rfl) ?_
              refine hm_get (ci := 9) (v := .ref (A 8)) (C := R_Mo) (T := F_Mo) (N := 41) hx hb hts ig_Mo hown hK hH F_m9 rfl 15 (by decide) (hts _ mw_615) (fun _ h9 => h9) rfl d_Mo_discover_206 ?_
              refine lv_iload_n hx hb d_Mo_discover_209 rfl (lv_at hl 3 rfl) ?_
              refine lv_aload_n hx hb d_Mo_discover_210 rfl (lv_at hl 0 rfl) ?_
              refine hm_get (ci := 9) (v := .ref (A 18)) (C := R_Mo) (T := F_Mo) (N := 41) hx hb hts ig_Mo hown hK hH F_m9 rfl 30 (by decide) (hts _ mw_761) (fun _ h9 => h9) rfl d_Mo_discover_211 ?_
              refine lv_iload_n hx hb d_Mo_discover_214 rfl (lv_at hl 3 rfl) ?_
              refine hm_zald hx hb hK hH 1 F_A18 rfl (iIn (by omega) (by omega)) d_Mo_discover_215 ?_
              refine lv_topi (fun v_203 e_204 => ?_)
              obtain rfl : 1 = v_203 := (e_204.trans (e_111.symm)).symm
              refine lv_if_eq (tgt := 223) hx hb d_Mo_discover_216 (by decide) (fun hc_205 => absurd hc_205 (by decide)) (fun hc_205 => ?_)
              refine lv_iconst (v := 0) hx hb d_Mo_discover_219 (by decide) ?_
              refine lv_goto (tgt := 229) hx hb d_Mo_discover_220 (by decide) ?_
              refine hm_iast hx hb hK hH hLo 2 F_A8 rfl (iIn (by omega) (by omega)) d_Mo_discover_229 (fun H_206 locs hH z_207 hLo => ?_)
              have hz : s.heap.size ≤ H_206.size := by rw [z_207]; exact hz
              obtain ⟨h_208, e_209⟩ : ∃ z, z = hu h_199 (A 8) (.inl ((t 2), 700, .inl (upd sz8 i9.toNatClampNeg (0 : Int32)))) := ⟨_, rfl⟩
              have hH : hm D vwCl G h_208 H_206 := by rw [e_209]; exact hH
              have F_m9 : h_208 m9 = some (.inr (9, mf A n 0 sd 0 lq9 wr r_73 r_50 di pl se_80 wg_81 op)) := by rw [e_209, hu_n (tne T_m9 (hA 8 (by decide)) (by decide))]; exact F_m9
              have F_A17 : h_208 (A 17) = some (.inl ((t 2), 31, .inl g_92)) := by rw [e_209, hu_n (tneF (hA 17 (by decide)) (hA 8 (by decide)) (by decide))]; exact F_A17
              have F_A19 : h_208 (A 19) = some (.inl ((t 2), 31, .inl g_93)) := by rw [e_209, hu_n (tneF (hA 19 (by decide)) (hA 8 (by decide)) (by decide))]; exact F_A19
              have F_A20 : h_208 (A 20) = some (.inl ((t 2), 31, .inl g_94)) := by rw [e_209, hu_n (tneF (hA 20 (by decide)) (hA 8 (by decide)) (by decide))]; exact F_A20
              have F_A18 : h_208 (A 18) = some (.inl ((t 1), 31, .inl g_89)) := by rw [e_209, hu_n (tneF (hA 18 (by decide)) (hA 8 (by decide)) (by decide))]; exact F_A18
              have F_A21 : h_208 (A 21) = some (.inl ((t 3), 31, .inr (.inl g_91))) := by rw [e_209, hu_n (tneF (hA 21 (by decide)) (hA 8 (by decide)) (by decide))]; exact F_A21
              have F_A4 : h_208 (A 4) = some (.inl ((t 1), 700, .inl g_107)) := by rw [e_209, hu_n (tneF (hA 4 (by decide)) (hA 8 (by decide)) (by decide))]; exact F_A4
              have F_A5 : h_208 (A 5) = some (.inl ((t 1), 700, .inl g_183)) := by rw [e_209, hu_n (tneF (hA 5 (by decide)) (hA 8 (by decide)) (by decide))]; exact F_A5
              have F_A6 : h_208 (A 6) = some (.inl ((t 2), 700, .inl g_192)) := by rw [e_209, hu_n (tneF (hA 6 (by decide)) (hA 8 (by decide)) (by decide))]; exact F_A6
              have F_A10 : h_208 (A 10) = some (.inl ((t 1), 700, .inl iw8)) := by rw [e_209, hu_n (tneF (hA 10 (by decide)) (hA 8 (by decide)) (by decide))]; exact F_A10
              have F_A11 : h_208 (A 11) = some (.inl ((t 2), 700, .inl ex8)) := by rw [e_209, hu_n (tneF (hA 11 (by decide)) (hA 8 (by decide)) (by decide))]; exact F_A11
              have F_A7 : h_208 (A 7) = some (.inl ((t 3), 700, .inr (.inl g_201))) := by rw [e_209, hu_n (tneF (hA 7 (by decide)) (hA 8 (by decide)) (by decide))]; exact F_A7
              have F_A8 : h_208 (A 8) = some (.inl ((t 2), 700, .inl (upd sz8 i9.toNatClampNeg (0 : Int32)))) := by rw [e_209]; exact hu_s _ _ _
              have hT : TI τ t n h_208 := by rw [e_209]; exact TI_put hT (hA 8 (by decide)) (by decide) (ok_I rfl rfl)
              have hkf : kf τ [(30, 17), (30, 18), (30, 19), (30, 20), (30, 21), (30, 22), (30, 4), (30, 5), (30, 6), (30, 7), (30, 8), (30, 9), (30, 10), (30, 11)] [m9] h h_208 := by rw [e_209]; exact kf_put hkf (hA 8 (by decide)) (List.mem_cons_of_mem _ (List.mem_cons_of_mem _ (List.mem_cons_of_mem _ (List.mem_cons_of_mem _ (List.mem_cons_of_mem _ (List.mem_cons_of_mem _ (List.mem_cons_of_mem _ (List.mem_cons_of_mem _ (List.mem_cons_of_mem _ (List.mem_cons_of_mem _ List.mem_cons_self))))))))))
              obtain ⟨g_210, e_211⟩ : ∃ z, z = upd sz8 i9.toNatClampNeg (0 : Int32) := ⟨_, rfl⟩
              rw [← e_211] at F_A8
              refine lv_aload_n hx hb d_Mo_discover_230 rfl (lv_at hl 0 rfl) ?_
              refine hm_get (ci := 9) (v := .ref (A 9)) (C := R_Mo) (T := F_Mo) (N := 41) hx hb hts ig_Mo hown hK hH F_m9 rfl 16 (by decide) (hts _ mw_616) (fun _ h9 => h9) rfl d_Mo_discover_231 ?_
              refine lv_iload_n hx hb d_Mo_discover_234 rfl (lv_at hl 3 rfl) ?_
              refine lv_aload_n hx hb d_Mo_discover_235 rfl (lv_at hl 0 rfl) ?_
              refine hm_get (ci := 9) (v := .ref (A 18)) (C := R_Mo) (T := F_Mo) (N := 41) hx hb hts ig_Mo hown hK hH F_m9 rfl 30 (by decide) (hts _ mw_761) (fun _ h9 => h9) rfl d_Mo_discover_236 ?_
              refine lv_iload_n hx hb d_Mo_discover_239 rfl (lv_at hl 3 rfl) ?_
              refine hm_zald hx hb hK hH 1 F_A18 rfl (iIn (by omega) (by omega)) d_Mo_discover_240 ?_
              refine lv_topi (fun v_212 e_213 => ?_)
              obtain rfl : 1 = v_212 := (e_213.trans (e_111.symm)).symm
              refine lv_if_eq (tgt := 248) hx hb d_Mo_discover_241 (by decide) (fun hc_214 => absurd hc_214 (by decide)) (fun hc_214 => ?_)
              refine lv_iconst (v := 0) hx hb d_Mo_discover_244 (by decide) ?_
              refine lv_goto (tgt := 249) hx hb d_Mo_discover_245 (by decide) ?_
              obtain ⟨g_215, F_A9⟩ := TI_arI (L := 700) hT (hA 9 (by decide)) rfl rfl
              refine hm_iast hx hb hK hH hLo 2 F_A9 rfl (iIn (by omega) (by omega)) d_Mo_discover_249 (fun H_216 locs hH z_217 hLo => ?_)
              have hz : s.heap.size ≤ H_216.size := by rw [z_217]; exact hz
              obtain ⟨h_218, e_219⟩ : ∃ z, z = hu h_208 (A 9) (.inl ((t 2), 700, .inl (upd g_215 i9.toNatClampNeg (0 : Int32)))) := ⟨_, rfl⟩
              have hH : hm D vwCl G h_218 H_216 := by rw [e_219]; exact hH
              have F_m9 : h_218 m9 = some (.inr (9, mf A n 0 sd 0 lq9 wr r_73 r_50 di pl se_80 wg_81 op)) := by rw [e_219, hu_n (tne T_m9 (hA 9 (by decide)) (by decide))]; exact F_m9
              have F_A17 : h_218 (A 17) = some (.inl ((t 2), 31, .inl g_92)) := by rw [e_219, hu_n (tneF (hA 17 (by decide)) (hA 9 (by decide)) (by decide))]; exact F_A17
              have F_A19 : h_218 (A 19) = some (.inl ((t 2), 31, .inl g_93)) := by rw [e_219, hu_n (tneF (hA 19 (by decide)) (hA 9 (by decide)) (by decide))]; exact F_A19
              have F_A20 : h_218 (A 20) = some (.inl ((t 2), 31, .inl g_94)) := by rw [e_219, hu_n (tneF (hA 20 (by decide)) (hA 9 (by decide)) (by decide))]; exact F_A20
              have F_A18 : h_218 (A 18) = some (.inl ((t 1), 31, .inl g_89)) := by rw [e_219, hu_n (tneF (hA 18 (by decide)) (hA 9 (by decide)) (by decide))]; exact F_A18
              have F_A21 : h_218 (A 21) = some (.inl ((t 3), 31, .inr (.inl g_91))) := by rw [e_219, hu_n (tneF (hA 21 (by decide)) (hA 9 (by decide)) (by decide))]; exact F_A21
              have F_A4 : h_218 (A 4) = some (.inl ((t 1), 700, .inl g_107)) := by rw [e_219, hu_n (tneF (hA 4 (by decide)) (hA 9 (by decide)) (by decide))]; exact F_A4
              have F_A5 : h_218 (A 5) = some (.inl ((t 1), 700, .inl g_183)) := by rw [e_219, hu_n (tneF (hA 5 (by decide)) (hA 9 (by decide)) (by decide))]; exact F_A5
              have F_A6 : h_218 (A 6) = some (.inl ((t 2), 700, .inl g_192)) := by rw [e_219, hu_n (tneF (hA 6 (by decide)) (hA 9 (by decide)) (by decide))]; exact F_A6
              have F_A8 : h_218 (A 8) = some (.inl ((t 2), 700, .inl g_210)) := by rw [e_219, hu_n (tneF (hA 8 (by decide)) (hA 9 (by decide)) (by decide))]; exact F_A8
              have F_A10 : h_218 (A 10) = some (.inl ((t 1), 700, .inl iw8)) := by rw [e_219, hu_n (tneF (hA 10 (by decide)) (hA 9 (by decide)) (by decide))]; exact F_A10
              have F_A11 : h_218 (A 11) = some (.inl ((t 2), 700, .inl ex8)) := by rw [e_219, hu_n (tneF (hA 11 (by decide)) (hA 9 (by decide)) (by decide))]; exact F_A11
              have F_A7 : h_218 (A 7) = some (.inl ((t 3), 700, .inr (.inl g_201))) := by rw [e_219, hu_n (tneF (hA 7 (by decide)) (hA 9 (by decide)) (by decide))]; exact F_A7
              have F_A9 : h_218 (A 9) = some (.inl ((t 2), 700, .inl (upd g_215 i9.toNatClampNeg (0 : Int32)))) := by rw [e_219]; exact hu_s _ _ _
              have hT : TI τ t n h_218 := by rw [e_219]; exact TI_put hT (hA 9 (by decide)) (by decide) (ok_I rfl rfl)
              have hkf : kf τ [(30, 17), (30, 18), (30, 19), (30, 20), (30, 21), (30, 22), (30, 4), (30, 5), (30, 6), (30, 7), (30, 8), (30, 9), (30, 10), (30, 11)] [m9] h h_218 := by rw [e_219]; exact kf_put hkf (hA 9 (by decide)) (List.mem_cons_of_mem _ (List.mem_cons_of_mem _ (List.mem_cons_of_mem _ (List.mem_cons_of_mem _ (List.mem_cons_of_mem _ (List.mem_cons_of_mem _ (List.mem_cons_of_mem _ (List.mem_cons_of_mem _ (List.mem_cons_of_mem _ (List.mem_cons_of_mem _ (List.mem_cons_of_mem _ List.mem_cons_self)))))))))))
              obtain ⟨g_220, e_221⟩ : ∃ z, z = upd g_215 i9.toNatClampNeg (0 : Int32) := ⟨_, rfl⟩
              rw [← e_221] at F_A9
              refine lv_aload_n hx hb d_Mo_discover_250 rfl (lv_at hl 0 rfl) ?_
              refine hm_get (ci := 9) (v := .ref (A 10)) (C := R_Mo) (T := F_Mo) (N := 41) hx hb hts ig_Mo hown hK hH F_m9 rfl 17 (by decide) (hts _ mw_617) (fun _ h9 => h9) rfl d_Mo_discover_251 ?_
              refine lv_iload_n hx hb d_Mo_discover_254 rfl (lv_at hl 3 rfl) ?_
              refine lv_iconst (v := 1) hx hb d_Mo_discover_255 (by decide) ?_
              refine hm_zast hx hb hK hH hLo 1 F_A10 rfl (iIn (by omega) (by omega)) d_Mo_discover_256 (fun H_222 locs hH z_223 hLo => ?_)
              have hz : s.heap.size ≤ H_222.size := by rw [z_223]; exact hz
              rw [zb_nar (v := 1) zb1] at hH
              obtain ⟨h_224, e_225⟩ : ∃ z, z = hu h_218 (A 10) (.inl ((t 1), 700, .inl (upd iw8 i9.toNatClampNeg (1 : Int32)))) := ⟨_, rfl⟩
              have hH : hm D vwCl G h_224 H_222 := by rw [e_225]; exact hH
              have F_m9 : h_224 m9 = some (.inr (9, mf A n 0 sd 0 lq9 wr r_73 r_50 di pl se_80 wg_81 op)) := by rw [e_225, hu_n (tne T_m9 (hA 10 (by decide)) (by decide))]; exact F_m9
              have F_A17 : h_224 (A 17) = some (.inl ((t 2), 31, .inl g_92)) := by rw [e_225, hu_n (tneF (hA 17 (by decide)) (hA 10 (by decide)) (by decide))]; exact F_A17
              have F_A19 : h_224 (A 19) = some (.inl ((t 2), 31, .inl g_93)) := by rw [e_225, hu_n (tneF (hA 19 (by decide)) (hA 10 (by decide)) (by decide))]; exact F_A19
              have F_A20 : h_224 (A 20) = some (.inl ((t 2), 31, .inl g_94)) := by rw [e_225, hu_n (tneF (hA 20 (by decide)) (hA 10 (by decide)) (by decide))]; exact F_A20
              have F_A18 : h_224 (A 18) = some (.inl ((t 1), 31, .inl g_89)) := by rw [e_225, hu_n (tneF (hA 18 (by decide)) (hA 10 (by decide)) (by decide))]; exact F_A18
              have F_A21 : h_224 (A 21) = some (.inl ((t 3), 31, .inr (.inl g_91))) := by rw [e_225, hu_n (tneF (hA 21 (by decide)) (hA 10 (by decide)) (by decide))]; exact F_A21
              have F_A4 : h_224 (A 4) = some (.inl ((t 1), 700, .inl g_107)) := by rw [e_225, hu_n (tneF (hA 4 (by decide)) (hA 10 (by decide)) (by decide))]; exact F_A4
              have F_A5 : h_224 (A 5) = some (.inl ((t 1), 700, .inl g_183)) := by rw [e_225, hu_n (tneF (hA 5 (by decide)) (hA 10 (by decide)) (by decide))]; exact F_A5
              have F_A6 : h_224 (A 6) = some (.inl ((t 2), 700, .inl g_192)) := by rw [e_225, hu_n (tneF (hA 6 (by decide)) (hA 10 (by decide)) (by decide))]; exact F_A6
              have F_A8 : h_224 (A 8) = some (.inl ((t 2), 700, .inl g_210)) := by rw [e_225, hu_n (tneF (hA 8 (by decide)) (hA 10 (by decide)) (by decide))]; exact F_A8
              have F_A11 : h_224 (A 11) = some (.inl ((t 2), 700, .inl ex8)) := by rw [e_225, hu_n (tneF (hA 11 (by decide)) (hA 10 (by decide)) (by decide))]; exact F_A11
              have F_A7 : h_224 (A 7) = some (.inl ((t 3), 700, .inr (.inl g_201))) := by rw [e_225, hu_n (tneF (hA 7 (by decide)) (hA 10 (by decide)) (by decide))]; exact F_A7
              have F_A9 : h_224 (A 9) = some (.inl ((t 2), 700, .inl g_220)) := by rw [e_225, hu_n (tneF (hA 9 (by decide)) (hA 10 (by decide)) (by decide))]; exact F_A9
              have F_A10 : h_224 (A 10) = some (.inl ((t 1), 700, .inl (upd iw8 i9.toNatClampNeg (1 : Int32)))) := by rw [e_225]; exact hu_s _ _ _
              have hT : TI τ t n h_224 := by rw [e_225]; exact TI_put hT (hA 10 (by decide)) (by decide) (ok_Z rfl rfl (zbF_up c_iw8 zb1))
              have hkf : kf τ [(30, 17), (30, 18), (30, 19), (30, 20), (30, 21), (30, 22), (30, 4), (30, 5), (30, 6), (30, 7), (30, 8), (30, 9), (30, 10), (30, 11)] [m9] h h_224 := by rw [e_225]; exact kf_put hkf (hA 10 (by decide)) (List.mem_cons_of_mem _ (List.mem_cons_of_mem _ (List.mem_cons_of_mem _ (List.mem_cons_of_mem _ (List.mem_cons_of_mem _ (List.mem_cons_of_mem _ (List.mem_cons_of_mem _ (List.mem_cons_of_mem _ (List.mem_cons_of_mem _ (List.mem_cons_of_mem _ (List.mem_cons_of_mem _ (List.mem_cons_of_mem _ List.mem_cons_self))))))))))))
              obtain ⟨g_226, e_227⟩ : ∃ z, z = upd iw8 i9.toNatClampNeg (1 : Int32) := ⟨_, rfl⟩
              rw [← e_227] at F_A10
              have c_228 : zbF g_226 := by rw [e_227]; exact (zbF_up c_iw8 zb1)
              refine lv_aload_n hx hb d_Mo_discover_257 rfl (lv_at hl 0 rfl) ?_
              refine hm_get (ci := 9) (v := .ref (A 11)) (C := R_Mo) (T := F_Mo) (N := 41) hx hb hts ig_Mo hown hK hH F_m9 rfl 18 (by decide) (hts _ mw_618) (fun _ h9 => h9) rfl d_Mo_discover_258 ?_
              refine lv_iload_n hx hb d_Mo_discover_261 rfl (lv_at hl 3 rfl) ?_
              refine lv_aload_n hx hb d_Mo_discover_262 rfl (lv_at hl 0 rfl) ?_
              refine hm_get (ci := 9) (v := .ref (A 18)) (C := R_Mo) (T := F_Mo) (N := 41) hx hb hts ig_Mo hown hK hH F_m9 rfl 30 (by decide) (hts _ mw_761) (fun _ h9 => h9) rfl d_Mo_discover_263 ?_
              refine lv_iload_n hx hb d_Mo_discover_266 rfl (lv_at hl 3 rfl) ?_
              refine hm_zald hx hb hK hH 1 F_A18 rfl (iIn (by omega) (by omega)) d_Mo_discover_267 ?_
              refine lv_topi (fun v_229 e_230 => ?_)
              obtain rfl : 1 = v_229 := (e_230.trans (e_111.symm)).symm
              refine lv_if_eq (tgt := 275) hx hb d_Mo_discover_268 (by decide) (fun hc_231 => absurd hc_231 (by decide)) (fun hc_231 => ?_)
              refine lv_iconst (v := 0) hx hb d_Mo_discover_271 (by decide) ?_
              refine lv_goto (tgt := 281) hx hb d_Mo_discover_272 (by decide) ?_
              refine hm_iast hx hb hK hH hLo 2 F_A11 rfl (iIn (by omega) (by omega)) d_Mo_discover_281 (fun H_232 locs hH z_233 hLo => ?_)
              have hz : s.heap.size ≤ H_232.size := by rw [z_233]; exact hz
              obtain ⟨h_234, e_235⟩ : ∃ z, z = hu h_224 (A 11) (.inl ((t 2), 700, .inl (upd ex8 i9.toNatClampNeg (0 : Int32)))) := ⟨_, rfl⟩
              have hH : hm D vwCl G h_234 H_232 := by rw [e_235]; exact hH
              have F_m9 : h_234 m9 = some (.inr (9, mf A n 0 sd 0 lq9 wr r_73 r_50 di pl se_80 wg_81 op)) := by rw [e_235, hu_n (tne T_m9 (hA 11 (by decide)) (by decide))]; exact F_m9
              have F_A17 : h_234 (A 17) = some (.inl ((t 2), 31, .inl g_92)) := by rw [e_235, hu_n (tneF (hA 17 (by decide)) (hA 11 (by decide)) (by decide))]; exact F_A17
              have F_A19 : h_234 (A 19) = some (.inl ((t 2), 31, .inl g_93)) := by rw [e_235, hu_n (tneF (hA 19 (by decide)) (hA 11 (by decide)) (by decide))]; exact F_A19
              have F_A20 : h_234 (A 20) = some (.inl ((t 2), 31, .inl g_94)) := by rw [e_235, hu_n (tneF (hA 20 (by decide)) (hA 11 (by decide)) (by decide))]; exact F_A20
              have F_A18 : h_234 (A 18) = some (.inl ((t 1), 31, .inl g_89)) := by rw [e_235, hu_n (tneF (hA 18 (by decide)) (hA 11 (by decide)) (by decide))]; exact F_A18
              have F_A21 : h_234 (A 21) = some (.inl ((t 3), 31, .inr (.inl g_91))) := by rw [e_235, hu_n (tneF (hA 21 (by decide)) (hA 11 (by decide)) (by decide))]; exact F_A21
              have F_A4 : h_234 (A 4) = some (.inl ((t 1), 700, .inl g_107)) := by rw [e_235, hu_n (tneF (hA 4 (by decide)) (hA 11 (by decide)) (by decide))]; exact F_A4
              have F_A5 : h_234 (A 5) = some (.inl ((t 1), 700, .inl g_183)) := by rw [e_235, hu_n (tneF (hA 5 (by decide)) (hA 11 (by decide)) (by decide))]; exact F_A5
              have F_A6 : h_234 (A 6) = some (.inl ((t 2), 700, .inl g_192)) := by rw [e_235, hu_n (tneF (hA 6 (by decide)) (hA 11 (by decide)) (by decide))]; exact F_A6
              have F_A8 : h_234 (A 8) = some (.inl ((t 2), 700, .inl g_210)) := by rw [e_235, hu_n (tneF (hA 8 (by decide)) (hA 11 (by decide)) (by decide))]; exact F_A8
              have F_A10 : h_234 (A 10) = some (.inl ((t 1), 700, .inl g_226)) := by rw [e_235, hu_n (tneF (hA 10 (by decide)) (hA 11 (by decide)) (by decide))]; exact F_A10
              have F_A7 : h_234 (A 7) = some (.inl ((t 3), 700, .inr (.inl g_201))) := by rw [e_235, hu_n (tneF (hA 7 (by decide)) (hA 11 (by decide)) (by decide))]; exact F_A7
              have F_A9 : h_234 (A 9) = some (.inl ((t 2), 700, .inl g_220)) := by rw [e_235, hu_n (tneF (hA 9 (by decide)) (hA 11 (by decide)) (by decide))]; exact F_A9
              have F_A11 : h_234 (A 11) = some (.inl ((t 2), 700, .inl (upd ex8 i9.toNatClampNeg (0 : Int32)))) := by rw [e_235]; exact hu_s _ _ _
              have hT : TI τ t n h_234 := by rw [e_235]; exact TI_put hT (hA 11 (by decide)) (by decide) (ok_I rfl rfl)
              have hkf : kf τ [(30, 17), (30, 18), (30, 19), (30, 20), (30, 21), (30, 22), (30, 4), (30, 5), (30, 6), (30, 7), (30, 8), (30, 9), (30, 10), (30, 11)] [m9] h h_234 := by rw [e_235]; exact kf_put hkf (hA 11 (by decide)) (List.mem_cons_of_mem _ (List.mem_cons_of_mem _ (List.mem_cons_of_mem _ (List.mem_cons_of_mem _ (List.mem_cons_of_mem _ (List.mem_cons_of_mem _ (List.mem_cons_of_mem _ (List.mem_cons_of_mem _ (List.mem_cons_of_mem _ (List.mem_cons_of_mem _ (List.mem_cons_of_mem _ (List.mem_cons_of_mem _ (List.mem_cons_of_mem _ List.mem_cons_self)))))))))))))
              obtain ⟨g_236, e_237⟩ : ∃ z, z = upd ex8 i9.toNatClampNeg (0 : Int32) := ⟨_, rfl⟩
              rw [← e_237] at F_A11
              obtain ⟨j_238, e_239⟩ : ∃ z : Int32, z = i9 + 1 := ⟨_, rfl⟩
              refine lv_iinc (v := j_238) (lv' := [(3, .int j_238), (0, .ref m9), (1, .int n9), (2, .int la9)]) hx hb d_Mo_discover_282 hl (k := 3) rfl e_239.symm (by decide) rfl (fun ls hl => ?_)
              refine lv_goto (tgt := 154) hx hb d_Mo_discover_285 (by decide) ?_
              have is_240 : j_238.toInt = i9.toInt + 1 := by rw [e_239]; exact iAddK 1 rfl (by omega) (by omega)
              exact ih154 (mU j_238) ls _ locs _ (by rw [hk154]; exact mU_lt (by omega)) ⟨j_238, g_107, g_183, g_192, g_210, g_226, g_236, rfl, (lv_sub hl [1, 2, 3, 0] rfl), hH, hz, hLo, F_m9, F_A17, F_A19, F_A20, F_A18, F_A21, hT, hkf, F_A4, c_109, F_A5, c_185, F_A6, F_A8, F_A10, c_228, F_A11, (by omega), (dc_s hDc I_i9 (by omega) e_108 e_184 e_193 e_211 e_237 e_187 (fun z => absurd z (by decide)))⟩
        · skip
          have ic_241 : la9.toInt < 0 := iNe hc_42
          refine lv_iconst (v := 0) hx hb d_Mo_discover_113 (by decide) ?_
          exact W.iret (v := 0) hx hb hr (fun t9 ht hW => ⟨0, h_19, rfl, ⟨hT, hkf, ⟨(0 : Int32), (0 : Int32), lq9, ma_25, (0 : Int32), se8, wg8, F_m9, ⟨m_28, zb0, (by omega), ⟨by omega, by omega⟩, ⟨by omega, by omega⟩⟩, ⟨by omega, ⟨by rw [aI_of F_A4, aI_of F_A6]; exact (root_t hi0 hm1), by rw [aI_of F_A4, aI_of F_A5, aI_of F_A8, aI_of F_A10, aI_of F_A11]; exact (root_e hd0 hm1)⟩⟩⟩⟩, by rw [ht]; exact hH, by rw [ht]; exact hz⟩) hLo d_Mo_discover_114
      · skip
        have ic_242 : i6.toInt < ma.toInt := iNe hc_17
        have iu_243 : ma.toInt < 2147483648 := iUp _
        refine lv_aload_n hx hb d_Mo_discover_92 rfl (lv_at hl 0 rfl) ?_
        refine hm_get (ci := 9) (v := .ref (A 4)) (C := R_Mo) (T := F_Mo) (N := 41) hx hb hts ig_Mo hown hK hH F_m9 rfl 11 (by decide) (hts _ mw_596) (fun _ h9 => h9) rfl d_Mo_discover_93 ?_
        refine lv_iload_n hx hb d_Mo_discover_96 rfl (lv_at hl 3 rfl) ?_
        refine lv_iconst (v := 0) hx hb d_Mo_discover_97 (by decide) ?_
        obtain ⟨g_244, F_A4, c_245⟩ := TI_arZ (L := 700) hT (hA 4 (by decide)) rfl rfl
        refine hm_zast hx hb hK hH hLo 1 F_A4 rfl (iIn (by omega) (by omega)) d_Mo_discover_98 (fun H_246 locs hH z_247 hLo => ?_)
        have hz : s.heap.size ≤ H_246.size := by rw [z_247]; exact hz
        rw [zb_nar (v := 0) zb0] at hH
        obtain ⟨h_248, e_249⟩ : ∃ z, z = hu hh84 (A 4) (.inl ((t 1), 700, .inl (upd g_244 i6.toNatClampNeg (0 : Int32)))) := ⟨_, rfl⟩
        have hH : hm D vwCl G h_248 H_246 := by rw [e_249]; exact hH
        have F_m9 : h_248 m9 = some (.inr (9, mf A n 0 sd 0 lq9 wr ma 0 di pl se8 wg8 op)) := by rw [e_249, hu_n (tne T_m9 (hA 4 (by decide)) (by decide))]; exact F_m9
        have F_A0 : h_248 (A 0) = some (.inl ((t 0), 819200, .inl g_1)) := by rw [e_249, hu_n (tneF (hA 0 (by decide)) (hA 4 (by decide)) (by decide))]; exact F_A0
        have F_A4 : h_248 (A 4) = some (.inl ((t 1), 700, .inl (upd g_244 i6.toNatClampNeg (0 : Int32)))) := by rw [e_249]; exact hu_s _ _ _
        have hT : TI τ t n h_248 := by rw [e_249]; exact TI_put hT (hA 4 (by decide)) (by decide) (ok_Z rfl rfl (zbF_up c_245 zb0))
        have hkf : kf τ [(30, 17), (30, 18), (30, 19), (30, 20), (30, 21), (30, 22), (30, 4), (30, 5), (30, 6), (30, 7), (30, 8), (30, 9), (30, 10), (30, 11)] [m9] h h_248 := by rw [e_249]; exact kf_put hkf (hA 4 (by decide)) (List.mem_cons_of_mem _ (List.mem_cons_of_mem _ (List.mem_cons_of_mem _ (List.mem_cons_of_mem _ (List.mem_cons_of_mem _ (List.mem_cons_of_mem _ List.mem_cons_self))))))
        obtain ⟨g_250, e_251⟩ : ∃ z, z = upd g_244 i6.toNatClampNeg (0 : Int32) := ⟨_, rfl⟩
        rw [← e_251] at F_A4
        have c_252 : zbF g_250 := by rw [e_251]; exact (zbF_up c_245 zb0)
        obtain ⟨j_253, e_254⟩ : ∃ z : Int32, z = i6 + 1 := ⟨_, rfl⟩
        refine lv_iinc (v := j_253) (lv' := [(3, .int j_253), (0, .ref m9), (1, .int n9), (2, .int la9)]) hx hb d_Mo_discover_99 hl (k := 3) rfl e_254.symm (by decide) rfl (fun ls hl => ?_)
        refine lv_goto (tgt := 84) hx hb d_Mo_discover_102 (by decide) ?_
        have is_255 : j_253.toInt = i6.toInt + 1 := by rw [e_254]; exact iAddK 1 rfl (by omega) (by omega)
        exact ih84 (mU j_253) ls _ locs _ (by rw [hk84]; exact mU_lt (by omega)) ⟨j_253, rfl, (lv_sub hl [1, 2, 3, 0] rfl), hH, hz, hLo, F_m9, F_A0, hT, hkf, (by omega)⟩
    · skip
      refine lv_aload_n hx hb d_Mo_discover_60 rfl (lv_at hl 0 rfl) ?_
      refine hm_get (ci := 9) (v := .int lo) (C := R_Mo) (T := F_Mo) (N := 41) hx hb hts ig_Mo hown hK hH F_m9 rfl 6 (by decide) (hts _ mw_593) (fun _ h9 => h9) rfl d_Mo_discover_61 ?_
      refine lv_if_eq (tgt := 72) hx hb d_Mo_discover_64 (by decide) (fun hc_256 => ?_) (fun hc_256 => ?_)
      · skip
        have ic_257 : lo.toInt = 0 := congrArg Int32.toInt hc_256
        exact J72 () _ _ _ _ ⟨le, (lv_sub hl [0, 1, 2, 3] rfl), hH, hz, hLo, hT, hkf, F_m9, F_A0⟩
      · skip
        refine lv_aload_n hx hb d_Mo_discover_67 rfl (lv_at hl 0 rfl) ?_
        refine lv_iconst (v := -1) hx hb d_Mo_discover_68 (by decide) ?_
        refine hm_put (ci := 9) (v := .int (-1)) (ty := .int) (C := R_Mo) (T := F_Mo) (N := 41) hx hb hts ig_Mo t_Mo tk_Mo nm_Mo hown hK hH hLo F_m9 rfl 7 (by decide) (hts _ mw_590) (fun _ h9 => h9) rfl (by decide +kernel) rfl rfl (Nat.le_of_ble_eq_true rfl) d_Mo_discover_69 (fun H_258 locs hH z_259 hLo => ?_)
        have hz : s.heap.size ≤ H_258.size := by rw [z_259]; exact hz
        obtain ⟨h_260, e_261⟩ : ∃ z, z = hu hh11 m9 (.inr (9, mf A n 0 sd lo (-1) wr ma nu di pl se8 wg8 op)) := ⟨_, rfl⟩
        have hH : hm D vwCl G h_260 H_258 := by rw [e_261]; exact hH
        have F_A0 : h_260 (A 0) = some (.inl ((t 0), 819200, .inl g_1)) := by rw [e_261, hu_n (tne (hA 0 (by decide)) T_m9 (by decide))]; exact F_A0
        have F_m9 : h_260 m9 = some (.inr (9, mf A n 0 sd lo (-1) wr ma nu di pl se8 wg8 op)) := by rw [e_261]; exact hu_s _ _ _
        have hT : TI τ t n h_260 := by rw [e_261]; exact TI_put hT T_m9 (by decide) ⟨_, rfl⟩
        have hkf : kf τ [(30, 17), (30, 18), (30, 19), (30, 20), (30, 21), (30, 22), (30, 4), (30, 5), (30, 6), (30, 7), (30, 8), (30, 9), (30, 10), (30, 11)] [m9] h h_260 := by rw [e_261]; exact kf_putM hkf (by simp)
        exact J72 () _ _ _ _ ⟨(-1), (lv_sub hl [0, 1, 2, 3] rfl), hH, hz, hLo, hT, hkf, F_m9, F_A0⟩
  · skip
    have ic_262 : s9.toInt < (nI n).toInt := iNe hc_7
    have iu_263 : (nI n).toInt < 2147483648 := iUp _
    refine lv_aload_n hx hb d_Mo_discover_19 rfl (lv_at hl 0 rfl) ?_
    refine lv_iload_n hx hb d_Mo_discover_20 rfl (lv_at hl 3 rfl) ?_
    refine hm_callPi (va_runV (As := [.int s9]) (b := m9) (rest := []) ⟨hx, hb, hml, hown, hts⟩ (m_isMark l D t G ak av hh11 τ n m9 s9 A (0 : Int32) sd lo le wr ma nu di pl se8 wg8 op   hn hT T_m9  F_m9 hA ⟨hsd, hlo, (by omega), ⟨by omega, by omega⟩, ⟨by omega, by omega⟩⟩ (by omega) (by omega)) ⟨cw9B 1 hts mw_799 mw_800 mw_579 rfl rfl (by decide +kernel) ⟨Nat.le_of_ble_eq_true rfl, Nat.le_of_ble_eq_true rfl⟩, hts _ mw_801, hts _ mw_802⟩ (hP_V (q := (R_Mo, F_Mo, 41)) kE_ok hE hK hH F_m9 rfl) rfl rfl hl.1 rfl (lv_room (Nat.le_of_ble_eq_true rfl)) d_Mo_discover_21 ⟨Nat.le_of_ble_eq_true rfl, Nat.le_of_ble_eq_true rfl⟩) (fun r_264 h_265 H_266 hp_268  hH z_267 => ?_)
    have hz : s.heap.size ≤ H_266.size := Nat.le_trans hz z_267
    obtain ⟨c_269, xp_270, rfl⟩ := hp_268
    rw [aI_of F_A0] at xp_270
    rcases c_269 with rfl | rfl
    · skip
      refine lv_if_eq (tgt := 54) hx hb d_Mo_discover_24 (by decide) (fun hc_271 => ?_) (fun hc_271 => absurd hc_271 (by decide))
      obtain ⟨j_272, e_273⟩ : ∃ z : Int32, z = s9 + 1 := ⟨_, rfl⟩
      refine lv_iinc (v := j_272) (lv' := [(3, .int j_272), (0, .ref m9), (1, .int n9), (2, .int la9)]) hx hb d_Mo_discover_54 hl (k := 3) rfl e_273.symm (by decide) rfl (fun ls hl => ?_)
      refine lv_goto (tgt := 11) hx hb d_Mo_discover_57 (by decide) ?_
      have is_274 : j_272.toInt = s9.toInt + 1 := by rw [e_273]; exact iAddK 1 rfl (by omega) (by omega)
      exact ih11 (mU j_272) ls _ locs _ (by rw [hk11]; exact mU_lt (by omega)) ⟨n9, la9, j_272, se8, wg8, rfl, (lv_sub hl [1, 2, 3, 0] rfl), hH, hz, hLo, F_A0, hT, hkf, F_m9, ⟨by omega, by omega, by omega⟩, hLa⟩
    · skip
      obtain ⟨lo9, l1, l2, l3⟩ := xp_270 rfl
      refine lv_if_eq (tgt := 54) hx hb d_Mo_discover_24 (by decide) (fun hc_275 => absurd hc_275 (by decide)) (fun hc_275 => ?_)
      refine lv_aload_n hx hb d_Mo_discover_27 rfl (lv_at hl 0 rfl) ?_
      refine lv_aload_n hx hb d_Mo_discover_28 rfl (lv_at hl 0 rfl) ?_
      refine lv_sipush (v := 2048) hx hb d_Mo_discover_29 (by decide) ?_
      refine lv_iload_n hx hb d_Mo_discover_32 rfl (lv_at hl 3 rfl) ?_
      refine lv_imul hx hb d_Mo_discover_33 ?_
      refine lv_topi (fun v_276 e_277 => ?_)
      refine lv_iconst (v := 4) hx hb d_Mo_discover_34 (by decide) ?_
      refine lv_iadd hx hb d_Mo_discover_35 ?_
      refine lv_topi (fun v_278 e_279 => ?_)
      refine lv_iconst (v := 4) hx hb d_Mo_discover_36 (by decide) ?_
      have is_280 : v_276.toInt = 2048 * s9.toInt := by rw [e_277]; exact iMulL 2048 rfl (by omega) (by omega)
      have is_281 : v_278.toInt = v_276.toInt + 4 := by rw [e_279]; exact iAddK 4 rfl (by omega) (by omega)
      refine hm_callPi (va_runV (As := [.int v_278, .int 4]) (b := m9) (rest := [.ref m9]) ⟨hx, hb, hml, hown, hts⟩ (m_lowAt l D t G ak av hh11 τ n m9 v_278 4 A (0 : Int32) sd lo le wr ma nu di pl se8 wg8 op   hn hT T_m9  F_m9 hA ⟨hsd, hlo, (by omega), ⟨by omega, by omega⟩, ⟨by omega, by omega⟩⟩ (by have l0 : (4 : Int32).toInt = 4 := rfl; omega) (by have l0 : (4 : Int32).toInt = 4 := rfl; omega) (by have l0 : (4 : Int32).toInt = 4 := rfl; omega)) ⟨cw9B 2 hts mw_742 mw_743 mw_579 rfl rfl (by decide +kernel) ⟨Nat.le_of_ble_eq_true rfl, Nat.le_of_ble_eq_true rfl⟩, hts _ mw_744, hts _ mw_745⟩ (hP_V (q := (R_Mo, F_Mo, 41)) kE_ok hE hK hH F_m9 rfl) rfl rfl hl.1 rfl (lv_room (Nat.le_of_ble_eq_true rfl)) d_Mo_discover_37 ⟨Nat.le_of_ble_eq_true rfl, Nat.le_of_ble_eq_true rfl⟩) (fun r_282 h_283 H_284 hp_286  hH z_285 => ?_)
      have hz : s.heap.size ≤ H_284.size := Nat.le_trans hz z_285
      obtain ⟨xp_287, rfl⟩ := hp_286
      have el_288 : r_282 = loF g_1 sd v_278 4 0 := by rw [aI_of F_A0] at xp_287; exact xp_287
      have elo : r_282 = lo9 := by rw [el_288, e_279, e_277]; exact l1
      have ilo := congrArg Int32.toInt elo
      refine hm_calli (va_runV (As := [.int r_282]) (b := m9) (rest := []) ⟨hx, hb, hml, hown, hts⟩ (m_look l D t G ak av hh11 τ n m9 r_282 A (0 : Int32) sd lo le wr ma nu di pl se8 wg8 op   hn hT T_m9  F_m9 hA ⟨hsd, hlo, (by omega), ⟨by omega, by omega⟩, ⟨by omega, by omega⟩⟩ (by omega) (by omega)) ⟨cw9B 1 hts mw_807 mw_808 mw_579 rfl rfl (by decide +kernel) ⟨Nat.le_of_ble_eq_true rfl, Nat.le_of_ble_eq_true rfl⟩, hts _ mw_809, hts _ mw_810⟩ (hP_V (q := (R_Mo, F_Mo, 41)) kE_ok hE hK hH F_m9 rfl) rfl rfl hl.1 rfl (lv_room (Nat.le_of_ble_eq_true rfl)) d_Mo_discover_40 ⟨Nat.le_of_ble_eq_true rfl, Nat.le_of_ble_eq_true rfl⟩) hLo (fun r_289 h_290 H_291 locs hp_293 hH z_292 hLo => ?_)
      have hz : s.heap.size ≤ H_291.size := Nat.le_trans hz z_292
      have hT0 := hT
      obtain ⟨hT, kf_295, xp_294⟩ := hp_293
      have F_A0 : h_290 (A 0) = some (.inl ((t 0), 819200, .inl g_1)) := kf_at kf_295 (hA 0 (by decide)) (by decide) (tncF (by decide) (tncF (by decide) (tncF (by decide) (tncF (by decide) (tncF (by decide) (tncF (by decide) tn0)))))) (nmc (tne (hA 0 (by decide)) T_m9 (by decide)) nm0) F_A0
      have hkf : kf τ [(30, 17), (30, 18), (30, 19), (30, 20), (30, 21), (30, 22), (30, 4), (30, 5), (30, 6), (30, 7), (30, 8), (30, 9), (30, 10), (30, 11)] [m9] h h_290 := kf_tr hkf kf_295 (List.forall_mem_cons.mpr ⟨List.mem_cons_self, List.forall_mem_cons.mpr ⟨(List.mem_cons_of_mem _ List.mem_cons_self), List.forall_mem_cons.mpr ⟨(List.mem_cons_of_mem _ (List.mem_cons_of_mem _ List.mem_cons_self)), List.forall_mem_cons.mpr ⟨(List.mem_cons_of_mem _ (List.mem_cons_of_mem _ (List.mem_cons_of_mem _ List.mem_cons_self))), List.forall_mem_cons.mpr ⟨(List.mem_cons_of_mem _ (List.mem_cons_of_mem _ (List.mem_cons_of_mem _ (List.mem_cons_of_mem _ List.mem_cons_self)))), List.forall_mem_cons.mpr ⟨(List.mem_cons_of_mem _ (List.mem_cons_of_mem _ (List.mem_cons_of_mem _ (List.mem_cons_of_mem _ (List.mem_cons_of_mem _ List.mem_cons_self))))), List.forall_mem_nil _⟩⟩⟩⟩⟩⟩) (List.forall_mem_cons.mpr ⟨Or.inl (by simp), List.forall_mem_nil _⟩)
      obtain ⟨se_296, wg_297, F_m9, mk_298, xq_299⟩ := xp_294
      obtain ⟨m_300, m_301, m_302, m_303, m_304⟩ := mk_298
      refine lv_if_ge (tgt := 49) hx hb d_Mo_discover_43 (by decide) (fun hc_305 => ?_) (fun hc_305 => ?_)
      · skip
        have ic_306 : 0 ≤ r_289.toInt := iLe hc_305
        obtain ⟨j_307, e_308⟩ : ∃ z : Int32, z = n9 + 1 := ⟨_, rfl⟩
        refine lv_iinc (v := j_307) (lv' := [(1, .int j_307), (0, .ref m9), (2, .int la9), (3, .int s9)]) hx hb d_Mo_discover_49 hl (k := 1) rfl e_308.symm (by decide) rfl (fun ls hl => ?_)
        refine lv_iload_n hx hb d_Mo_discover_52 rfl (lv_at hl 3 rfl) ?_
        refine lv_istore_n (lv' := [(2, .int s9), (1, .int j_307), (0, .ref m9), (3, .int s9)]) hx hb d_Mo_discover_53 rfl hl (by decide) rfl (fun ls hl => ?_)
        obtain ⟨j_309, e_310⟩ : ∃ z : Int32, z = s9 + 1 := ⟨_, rfl⟩
        refine lv_iinc (v := j_309) (lv' := [(3, .int j_309), (2, .int s9), (1, .int j_307), (0, .ref m9)]) hx hb d_Mo_discover_54 hl (k := 3) rfl e_310.symm (by decide) rfl (fun ls hl => ?_)
        refine lv_goto (tgt := 11) hx hb d_Mo_discover_57 (by decide) ?_
        have is_311 : j_309.toInt = s9.toInt + 1 := by rw [e_310]; exact iAddK 1 rfl (by omega) (by omega)
        exact ih11 (mU j_309) ls _ locs _ (by rw [hk11]; exact mU_lt (by omega)) ⟨j_307, s9, j_309, se_296, wg_297, rfl, (lv_sub hl [3, 2, 1, 0] rfl), hH, hz, hLo, F_A0, hT, hkf, F_m9, ⟨by omega, by omega, by omega⟩, (Or.inr ⟨by omega, by omega, lo9, l1, l2, by omega⟩)⟩
      · skip
        have ic_312 : r_289.toInt < 0 := iNe hc_305
        refine lv_goto (tgt := 54) hx hb d_Mo_discover_46 (by decide) ?_
        obtain ⟨j_313, e_314⟩ : ∃ z : Int32, z = s9 + 1 := ⟨_, rfl⟩
        refine lv_iinc (v := j_313) (lv' := [(3, .int j_313), (0, .ref m9), (1, .int n9), (2, .int la9)]) hx hb d_Mo_discover_54 hl (k := 3) rfl e_314.symm (by decide) rfl (fun ls hl => ?_)
        refine lv_goto (tgt := 11) hx hb d_Mo_discover_57 (by decide) ?_
        have is_315 : j_313.toInt = s9.toInt + 1 := by rw [e_314]; exact iAddK 1 rfl (by omega) (by omega)
        exact ih11 (mU j_313) ls _ locs _ (by rw [hk11]; exact mU_lt (by omega)) ⟨n9, la9, j_313, se_296, wg_297, rfl, (lv_sub hl [1, 2, 3, 0] rfl), hH, hz, hLo, F_A0, hT, hkf, F_m9, ⟨by omega, by omega, by omega⟩, hLa⟩

set_option maxHeartbeats 4000000 in
set_option maxRecDepth 100000 in
theorem m_open (l : Launch) (D : va_G) (t : Nat → ClassId) (G : hG) (ak av : Nat → Nat) (h : hM) (τ : tM) (n : Nat) (m9 : Nat) (a9 : Int32) (A : Nat → Nat) (th sd lo le wr ma nu di pl se wg op : Int32) (hn : n ≤ 200) (hT : TI τ t n h) (T_m9 : τ m9 = (20, 0)) (F_m9 : h m9 = some (.inr (9, mf A n th sd lo le wr ma nu di pl se wg op))) (hA : ∀ i, i < 28 → τ (A i) = (30, i)) (hmk : mOk sd lo ma se op) (hOp : opQ (aI h (A 25)) (aI h (A 26)) op.toInt.toNat n) : Met l y_Mo_open (.code y_Mo_open b_Mo_open 5 (some .int) :: lw_g) { frames := 8, cells := 0, slots := 0, locals := 192 } (hP (kE D t G ak av) D vwCl G h [.ref m9, .int a9]) (hQi D vwCl G (fun r h' => TI τ t n h' ∧ kf τ [(30, 17), (30, 18), (30, 19), (30, 20), (30, 21), (30, 22), (30, 23), (30, 24), (30, 25), (30, 26), (30, 27)] [m9] h h' ∧ (∃ (th' : Int32) (se' : Int32) (wg' : Int32) (op' : Int32), h' m9 = some (.inr (9, mf A n th' sd lo le wr ma nu di pl se' wg' op')) ∧ mOk sd lo ma se' op' ∧ opQ (aI h' (A 25)) (aI h' (A 26)) op'.toInt.toNat n))) 0 0 G.P := by
  refine Met.ofW (cc := b_Mo_open) (maxL := 5) (ret := (some .int)) (by decide) rfl ?_
  intro p e s m args below meth c s₁ Bd hml hv
  obtain ⟨ha, hE, hH⟩ := hv
  have hx := Bd.exec
  have hb := Bd.bytes
  have hr := Bd.returns
  have hts : ∀ w ∈ lw_g, w.before args s = true := fun w hw => atoms_spec (ws := (.code y_Mo_open b_Mo_open 5 (some .int) :: lw_g)) Bd.pre w (List.mem_cons_of_mem _ hw)
  have hown : s.vm.findClass R_Mo = some m.cls := findClass_of_methodNamed Bd.named
  have hlocks := Bd.notSynchronized
  have hK := hE.1
  have hH0 := hH
  have hLo : hLc G.P [] := hLc_nil
  have hz : s.heap.size ≤ s.heap.size := Nat.le_refl _
  have hl := lv_entry [.ref m9, .int a9] (n := 5) (Nat.le_of_ble_eq_true rfl)
  rw [show entryFrame m args 5 = F0 m 0 ((lg_sl [.ref m9, .int a9] ++ List.replicate (5 - (lg_sl [.ref m9, .int a9]).length) Slot.unset).toArray) [] from (by rw [ha]; exact lg_entry_eq m [.ref m9, .int a9] 5)]
  generalize (lg_sl [.ref m9, .int a9] ++ List.replicate (5 - (lg_sl [.ref m9, .int a9]).length) Slot.unset).toArray = ls at hl ⊢
  have hl : lv_has ls 5 [(0, .ref m9), (1, .int a9)] := hl
  have hkf : kf τ [(30, 17), (30, 18), (30, 19), (30, 20), (30, 21), (30, 22), (30, 23), (30, 24), (30, 25), (30, 26), (30, 27)] [m9] h h := kf_rf
  obtain ⟨hsd, hlo, hma, hse, hop⟩ := id hmk
  have inI : (nI n).toInt = n := nI_toInt (by omega)
  obtain ⟨g_1, F_A0, c_2⟩ := TI_arB (L := 819200) hT (hA 0 (by decide)) rfl rfl
  obtain ⟨g_3, F_A25⟩ := TI_arI (L := 31) hT (hA 25 (by decide)) rfl rfl
  obtain ⟨g_4, F_A26⟩ := TI_arI (L := 31) hT (hA 26 (by decide)) rfl rfl
  rw [aI_of F_A25, aI_of F_A26] at hOp
  refine lv_aload_n hx hb d_Mo_open_0 rfl (lv_at hl 0 rfl) ?_
  refine lv_iconst (v := 0) hx hb d_Mo_open_1 (by decide) ?_
  refine hm_put (ci := 9) (v := .int 0) (ty := .int) (C := R_Mo) (T := F_Mo) (N := 41) hx hb hts ig_Mo t_Mo tk_Mo nm_Mo hown hK hH hLo F_m9 rfl 0 (by decide) (hts _ mw_594) (fun _ h9 => h9) rfl (by decide +kernel) rfl rfl (Nat.le_of_ble_eq_true rfl) d_Mo_open_2 (fun H_5 locs hH z_6 hLo => ?_)
  have hz : s.heap.size ≤ H_5.size := by rw [z_6]; exact hz
  obtain ⟨h_7, e_8⟩ : ∃ z, z = hu h m9 (.inr (9, mf A n 0 sd lo le wr ma nu di pl se wg op)) := ⟨_, rfl⟩
  have hH : hm D vwCl G h_7 H_5 := by rw [e_8]; exact hH
  have F_A0 : h_7 (A 0) = some (.inl ((t 0), 819200, .inl g_1)) := by rw [e_8, hu_n (tne (hA 0 (by decide)) T_m9 (by decide))]; exact F_A0
  have F_A25 : h_7 (A 25) = some (.inl ((t 2), 31, .inl g_3)) := by rw [e_8, hu_n (tne (hA 25 (by decide)) T_m9 (by decide))]; exact F_A25
  have F_A26 : h_7 (A 26) = some (.inl ((t 2), 31, .inl g_4)) := by rw [e_8, hu_n (tne (hA 26 (by decide)) T_m9 (by decide))]; exact F_A26
  have F_m9 : h_7 m9 = some (.inr (9, mf A n 0 sd lo le wr ma nu di pl se wg op)) := by rw [e_8]; exact hu_s _ _ _
  have hT : TI τ t n h_7 := by rw [e_8]; exact TI_put hT T_m9 (by decide) ⟨_, rfl⟩
  have hkf : kf τ [(30, 17), (30, 18), (30, 19), (30, 20), (30, 21), (30, 22), (30, 23), (30, 24), (30, 25), (30, 26), (30, 27)] [m9] h h_7 := by rw [e_8]; exact kf_putM hkf (by simp)
  refine lv_aload_n hx hb d_Mo_open_5 rfl (lv_at hl 0 rfl) ?_
  refine lv_iload_n hx hb d_Mo_open_6 rfl (lv_at hl 1 rfl) ?_
  refine hm_callPi (va_runV (As := [.int a9]) (b := m9) (rest := []) ⟨hx, hb, hml, hown, hts⟩ (m_markAt l D t G ak av h_7 τ n m9 a9 A (0 : Int32) sd lo le wr ma nu di pl se wg op   hn hT T_m9  F_m9 hA ⟨hsd, hlo, (by omega), ⟨by omega, by omega⟩, ⟨by omega, by omega⟩⟩ ) ⟨cw9B 1 hts mw_803 mw_804 mw_579 rfl rfl (by decide +kernel) ⟨Nat.le_of_ble_eq_true rfl, Nat.le_of_ble_eq_true rfl⟩, hts _ mw_805, hts _ mw_806⟩ (hP_V (q := (R_Mo, F_Mo, 41)) kE_ok hE hK hH F_m9 rfl) rfl rfl hl.1 rfl (lv_room (Nat.le_of_ble_eq_true rfl)) d_Mo_open_7 ⟨Nat.le_of_ble_eq_true rfl, Nat.le_of_ble_eq_true rfl⟩) (fun r_9 h_10 H_11 hp_13  hH z_12 => ?_)
  have hz : s.heap.size ≤ H_11.size := Nat.le_trans hz z_12
  obtain ⟨xp_14, rfl⟩ := hp_13
  rw [aI_of F_A0] at xp_14
  rcases xp_14 with rfl | ⟨k1, k2, lo9, l1, l2, l3⟩
  · skip
    refine lv_istore_n (lv' := [(2, .int (-1)), (0, .ref m9), (1, .int a9)]) hx hb d_Mo_open_10 rfl hl (by decide) rfl (fun ls hl => ?_)
    refine lv_iload_n hx hb d_Mo_open_11 rfl (lv_at hl 0 rfl) ?_
    refine lv_if_ge (tgt := 19) hx hb d_Mo_open_12 (by decide) (fun hc_15 => absurd hc_15 (by decide)) (fun hc_15 => ?_)
    refine lv_ldcw (v := -1000000) hx hb hown (hts _ mw_815) d_Mo_open_15 ?_
    exact W.iret (v := (-1000000)) hx hb hr (fun t9 ht hW => ⟨(-1000000), h_7, rfl, ⟨hT, hkf, ⟨(0 : Int32), se, wg, op, F_m9, ⟨hsd, hlo, (by omega), ⟨by omega, by omega⟩, ⟨by omega, by omega⟩⟩, (by rw [aI_of F_A25, aI_of F_A26]; exact hOp)⟩⟩, by rw [ht]; exact hH, by rw [ht]; exact hz⟩) hLo d_Mo_open_18
  · skip
    refine lv_istore_n (lv' := [(2, .int r_9), (0, .ref m9), (1, .int a9)]) hx hb d_Mo_open_10 rfl hl (by decide) rfl (fun ls hl => ?_)
    refine lv_iload_n hx hb d_Mo_open_11 rfl (lv_at hl 0 rfl) ?_
    refine lv_if_ge (tgt := 19) hx hb d_Mo_open_12 (by decide) (fun hc_16 => ?_) (fun hc_16 => ?_)
    · skip
      have ic_17 : 0 ≤ r_9.toInt := iLe hc_16
      refine lv_aload_n hx hb d_Mo_open_19 rfl (lv_at hl 1 rfl) ?_
      refine lv_aload_n hx hb d_Mo_open_20 rfl (lv_at hl 1 rfl) ?_
      refine lv_sipush (v := 2048) hx hb d_Mo_open_21 (by decide) ?_
      refine lv_iload_n hx hb d_Mo_open_24 rfl (lv_at hl 0 rfl) ?_
      refine lv_imul hx hb d_Mo_open_25 ?_
      refine lv_topi (fun v_18 e_19 => ?_)
      refine lv_iconst (v := 4) hx hb d_Mo_open_26 (by decide) ?_
      refine lv_iadd hx hb d_Mo_open_27 ?_
      refine lv_topi (fun v_20 e_21 => ?_)
      refine lv_iconst (v := 4) hx hb d_Mo_open_28 (by decide) ?_
      have is_22 : v_18.toInt = 2048 * r_9.toInt := by rw [e_19]; exact iMulL 2048 rfl (by omega) (by omega)
      have is_23 : v_20.toInt = v_18.toInt + 4 := by rw [e_21]; exact iAddK 4 rfl (by omega) (by omega)
      refine hm_callPi (va_runV (As := [.int v_20, .int 4]) (b := m9) (rest := [.ref m9]) ⟨hx, hb, hml, hown, hts⟩ (m_lowAt l D t G ak av h_7 τ n m9 v_20 4 A (0 : Int32) sd lo le wr ma nu di pl se wg op   hn hT T_m9  F_m9 hA ⟨hsd, hlo, (by omega), ⟨by omega, by omega⟩, ⟨by omega, by omega⟩⟩ (by have l0 : (4 : Int32).toInt = 4 := rfl; omega) (by have l0 : (4 : Int32).toInt = 4 := rfl; omega) (by have l0 : (4 : Int32).toInt = 4 := rfl; omega)) ⟨cw9B 2 hts mw_742 mw_743 mw_579 rfl rfl (by decide +kernel) ⟨Nat.le_of_ble_eq_true rfl, Nat.le_of_ble_eq_true rfl⟩, hts _ mw_744, hts _ mw_745⟩ (hP_V (q := (R_Mo, F_Mo, 41)) kE_ok hE hK hH F_m9 rfl) rfl rfl hl.1 rfl (lv_room (Nat.le_of_ble_eq_true rfl)) d_Mo_open_29 ⟨Nat.le_of_ble_eq_true rfl, Nat.le_of_ble_eq_true rfl⟩) (fun r_24 h_25 H_26 hp_28  hH z_27 => ?_)
      have hz : s.heap.size ≤ H_26.size := Nat.le_trans hz z_27
      obtain ⟨xp_29, rfl⟩ := hp_28
      have el_30 : r_24 = loF g_1 sd v_20 4 0 := by rw [aI_of F_A0] at xp_29; exact xp_29
      have elo : r_24 = lo9 := by rw [el_30, e_21, e_19]; exact l1
      have ilo := congrArg Int32.toInt elo
      refine hm_calli (va_runV (As := [.int r_24]) (b := m9) (rest := []) ⟨hx, hb, hml, hown, hts⟩ (m_look l D t G ak av h_7 τ n m9 r_24 A (0 : Int32) sd lo le wr ma nu di pl se wg op   hn hT T_m9  F_m9 hA ⟨hsd, hlo, (by omega), ⟨by omega, by omega⟩, ⟨by omega, by omega⟩⟩ (by omega) (by omega)) ⟨cw9B 1 hts mw_807 mw_808 mw_579 rfl rfl (by decide +kernel) ⟨Nat.le_of_ble_eq_true rfl, Nat.le_of_ble_eq_true rfl⟩, hts _ mw_809, hts _ mw_810⟩ (hP_V (q := (R_Mo, F_Mo, 41)) kE_ok hE hK hH F_m9 rfl) rfl rfl hl.1 rfl (lv_room (Nat.le_of_ble_eq_true rfl)) d_Mo_open_32 ⟨Nat.le_of_ble_eq_true rfl, Nat.le_of_ble_eq_true rfl⟩) hLo (fun r_31 h_32 H_33 locs hp_35 hH z_34 hLo => ?_)
      have hz : s.heap.size ≤ H_33.size := Nat.le_trans hz z_34
      have hT0 := hT
      obtain ⟨hT, kf_37, xp_36⟩ := hp_35
      have F_A0 : h_32 (A 0) = some (.inl ((t 0), 819200, .inl g_1)) := kf_at kf_37 (hA 0 (by decide)) (by decide) (tncF (by decide) (tncF (by decide) (tncF (by decide) (tncF (by decide) (tncF (by decide) (tncF (by decide) tn0)))))) (nmc (tne (hA 0 (by decide)) T_m9 (by decide)) nm0) F_A0
      have F_A25 : h_32 (A 25) = some (.inl ((t 2), 31, .inl g_3)) := kf_at kf_37 (hA 25 (by decide)) (by decide) (tncF (by decide) (tncF (by decide) (tncF (by decide) (tncF (by decide) (tncF (by decide) (tncF (by decide) tn0)))))) (nmc (tne (hA 25 (by decide)) T_m9 (by decide)) nm0) F_A25
      have F_A26 : h_32 (A 26) = some (.inl ((t 2), 31, .inl g_4)) := kf_at kf_37 (hA 26 (by decide)) (by decide) (tncF (by decide) (tncF (by decide) (tncF (by decide) (tncF (by decide) (tncF (by decide) (tncF (by decide) tn0)))))) (nmc (tne (hA 26 (by decide)) T_m9 (by decide)) nm0) F_A26
      have hkf : kf τ [(30, 17), (30, 18), (30, 19), (30, 20), (30, 21), (30, 22), (30, 23), (30, 24), (30, 25), (30, 26), (30, 27)] [m9] h h_32 := kf_tr hkf kf_37 (List.forall_mem_cons.mpr ⟨List.mem_cons_self, List.forall_mem_cons.mpr ⟨(List.mem_cons_of_mem _ List.mem_cons_self), List.forall_mem_cons.mpr ⟨(List.mem_cons_of_mem _ (List.mem_cons_of_mem _ List.mem_cons_self)), List.forall_mem_cons.mpr ⟨(List.mem_cons_of_mem _ (List.mem_cons_of_mem _ (List.mem_cons_of_mem _ List.mem_cons_self))), List.forall_mem_cons.mpr ⟨(List.mem_cons_of_mem _ (List.mem_cons_of_mem _ (List.mem_cons_of_mem _ (List.mem_cons_of_mem _ List.mem_cons_self)))), List.forall_mem_cons.mpr ⟨(List.mem_cons_of_mem _ (List.mem_cons_of_mem _ (List.mem_cons_of_mem _ (List.mem_cons_of_mem _ (List.mem_cons_of_mem _ List.mem_cons_self))))), List.forall_mem_nil _⟩⟩⟩⟩⟩⟩) (List.forall_mem_cons.mpr ⟨Or.inl (by simp), List.forall_mem_nil _⟩)
      obtain ⟨se_38, wg_39, F_m9, mk_40, xq_41⟩ := xp_36
      obtain ⟨m_42, m_43, m_44, m_45, m_46⟩ := mk_40
      obtain ⟨g_47, F_A17⟩ := TI_arI (L := 31) hT (hA 17 (by decide)) rfl rfl
      obtain ⟨g_48, F_A19⟩ := TI_arI (L := 31) hT (hA 19 (by decide)) rfl rfl
      obtain ⟨g_49, F_A20⟩ := TI_arI (L := 31) hT (hA 20 (by decide)) rfl rfl
      rw [aI_of F_A17, aI_of F_A19, aI_of F_A20] at xq_41
      have hSr := look_s xq_41
      have imr := look_30 xq_41 (by omega)
      refine lv_istore_n (lv' := [(3, .int r_31), (2, .int r_9), (0, .ref m9), (1, .int a9)]) hx hb d_Mo_open_35 rfl hl (by decide) rfl (fun ls hl => ?_)
      refine lv_aload_n hx hb d_Mo_open_36 rfl (lv_at hl 2 rfl) ?_
      refine hm_cut (α := Int32) (fun oo9 ls H locs HH => (lv_has ls 5 [(0, .ref m9), (1, .int a9), (2, .int r_9), (3, .int r_31)]) ∧ (hm D vwCl G HH H) ∧ (s.heap.size ≤ H.size) ∧ (hLc G.P locs) ∧ (h_32 = HH) ∧ ((0 ≤ oo9.toInt ∧ oo9.toInt ≤ 30) ∧ seQ g_47 g_48 g_49 oo9.toInt.toNat n)) 46 (fun oo9 => [.int oo9, .ref m9]) ?_ (fun J46 => ?_)
      · skip
        rintro oo9 ls H locs HH ⟨hl, hH, hz, hLo, rfl, hOo⟩
        refine hm_put (ci := 9) (v := .int oo9) (ty := .int) (C := R_Mo) (T := F_Mo) (N := 41) hx hb hts ig_Mo t_Mo tk_Mo nm_Mo hown hK hH hLo F_m9 rfl 35 (by decide) (hts _ mw_732) (fun _ h9 => h9) rfl (by decide +kernel) rfl rfl (Nat.le_of_ble_eq_true rfl) d_Mo_open_46 (fun H_50 locs hH z_51 hLo => ?_)
        have hz : s.heap.size ≤ H_50.size := by rw [z_51]; exact hz
        obtain ⟨h_52, e_53⟩ : ∃ z, z = hu h_32 m9 (.inr (9, mf A n 0 sd lo le wr ma nu di pl se_38 wg_39 oo9)) := ⟨_, rfl⟩
        have hH : hm D vwCl G h_52 H_50 := by rw [e_53]; exact hH
        have F_A0 : h_52 (A 0) = some (.inl ((t 0), 819200, .inl g_1)) := by rw [e_53, hu_n (tne (hA 0 (by decide)) T_m9 (by decide))]; exact F_A0
        have F_A25 : h_52 (A 25) = some (.inl ((t 2), 31, .inl g_3)) := by rw [e_53, hu_n (tne (hA 25 (by decide)) T_m9 (by decide))]; exact F_A25
        have F_A26 : h_52 (A 26) = some (.inl ((t 2), 31, .inl g_4)) := by rw [e_53, hu_n (tne (hA 26 (by decide)) T_m9 (by decide))]; exact F_A26
        have F_A17 : h_52 (A 17) = some (.inl ((t 2), 31, .inl g_47)) := by rw [e_53, hu_n (tne (hA 17 (by decide)) T_m9 (by decide))]; exact F_A17
        have F_A19 : h_52 (A 19) = some (.inl ((t 2), 31, .inl g_48)) := by rw [e_53, hu_n (tne (hA 19 (by decide)) T_m9 (by decide))]; exact F_A19
        have F_A20 : h_52 (A 20) = some (.inl ((t 2), 31, .inl g_49)) := by rw [e_53, hu_n (tne (hA 20 (by decide)) T_m9 (by decide))]; exact F_A20
        have F_m9 : h_52 m9 = some (.inr (9, mf A n 0 sd lo le wr ma nu di pl se_38 wg_39 oo9)) := by rw [e_53]; exact hu_s _ _ _
        have hT : TI τ t n h_52 := by rw [e_53]; exact TI_put hT T_m9 (by decide) ⟨_, rfl⟩
        have hkf : kf τ [(30, 17), (30, 18), (30, 19), (30, 20), (30, 21), (30, 22), (30, 23), (30, 24), (30, 25), (30, 26), (30, 27)] [m9] h h_52 := by rw [e_53]; exact kf_putM hkf (by simp)
        refine lv_iconst (v := 0) hx hb d_Mo_open_49 (by decide) ?_
        refine lv_istore (lv' := [(4, .int 0), (0, .ref m9), (1, .int a9), (2, .int r_9), (3, .int r_31)]) hx hb d_Mo_open_50 hl (by decide) rfl (fun ls hl => ?_)
        refine hm_loop (fun k52 ls H locs hh52 => ∃ (i9 : Int32) (os8 : Nat → Int32) (oc8 : Nat → Int32), k52 = mU i9 ∧ lv_has ls 5 [(0, .ref m9), (1, .int a9), (2, .int r_9), (3, .int r_31), (4, .int i9)] ∧ hm D vwCl G hh52 H ∧ s.heap.size ≤ H.size ∧ hLc G.P locs ∧ hh52 m9 = some (.inr (9, mf A n 0 sd lo le wr ma nu di pl se_38 wg_39 oo9)) ∧ hh52 (A 17) = some (.inl ((t 2), 31, .inl g_47)) ∧ hh52 (A 19) = some (.inl ((t 2), 31, .inl g_48)) ∧ hh52 (A 20) = some (.inl ((t 2), 31, .inl g_49)) ∧ (TI τ t n hh52) ∧ (kf τ [(30, 17), (30, 18), (30, 19), (30, 20), (30, 21), (30, 22), (30, 23), (30, 24), (30, 25), (30, 26), (30, 27)] [m9] h hh52) ∧ (hh52 (A 25) = some (.inl ((t 2), 31, .inl os8))) ∧ (hh52 (A 26) = some (.inl ((t 2), 31, .inl oc8))) ∧ (0 ≤ i9.toInt) ∧ (∀ q, q < i9.toInt.toNat → os8 q = g_48 q) ∧ (∀ q, q < i9.toInt.toNat → oc8 q = g_49 q)) ?_ (hh := h_52) ⟨0, g_3, g_4, rfl, (lv_sub hl [1, 2, 3, 4, 0] rfl), hH, hz, hLo, F_m9, F_A17, F_A19, F_A20, hT, hkf, F_A25, F_A26, (by decide), (fun q hq => absurd (show q < 0 from hq) (Nat.not_lt_zero q)), (fun q hq => absurd (show q < 0 from hq) (Nat.not_lt_zero q))⟩
        rintro k52 ls H locs hh52 ⟨i9, os8, oc8, hk52, hl, hH, hz, hLo, F_m9, F_A17, F_A19, F_A20, hT, hkf, F_A25, F_A26, I_i9, hC1, hC2⟩ ih52
        refine lv_iload hx hb d_Mo_open_52 (lv_at hl 4 rfl) ?_
        refine lv_aload_n hx hb d_Mo_open_54 rfl (lv_at hl 0 rfl) ?_
        refine hm_get (ci := 9) (v := .int oo9) (C := R_Mo) (T := F_Mo) (N := 41) hx hb hts ig_Mo hown hK hH F_m9 rfl 35 (by decide) (hts _ mw_732) (fun _ h9 => h9) rfl d_Mo_open_55 ?_
        refine lv_icmp_ge (tgt := 137) hx hb d_Mo_open_58 (by decide) (fun hc_54 => ?_) (fun hc_54 => ?_)
        · skip
          have ic_55 : oo9.toInt ≤ i9.toInt := iLe hc_54
          refine lv_iload_n hx hb d_Mo_open_137 rfl (lv_at hl 3 rfl) ?_
          exact W.iret (v := r_31) hx hb hr (fun t9 ht hW => ⟨r_31, hh52, rfl, ⟨hT, hkf, ⟨(0 : Int32), se_38, wg_39, oo9, F_m9, ⟨m_42, m_43, (by omega), ⟨by omega, by omega⟩, ⟨by omega, by omega⟩⟩, (by rw [aI_of F_A25, aI_of F_A26]; exact opQ_c hC1 hC2 hOo.2 (by omega))⟩⟩, by rw [ht]; exact hH, by rw [ht]; exact hz⟩) hLo d_Mo_open_138
        · skip
          have ic_56 : i9.toInt < oo9.toInt := iNe hc_54
          have iu_57 : oo9.toInt < 2147483648 := iUp _
          refine lv_aload_n hx hb d_Mo_open_61 rfl (lv_at hl 0 rfl) ?_
          refine hm_get (ci := 9) (v := .ref (A 23)) (C := R_Mo) (T := F_Mo) (N := 41) hx hb hts ig_Mo hown hK hH F_m9 rfl 36 (by decide) (hts _ mw_816) (fun _ h9 => h9) rfl d_Mo_open_62 ?_
          refine lv_iload hx hb d_Mo_open_65 (lv_at hl 4 rfl) ?_
          refine lv_aload_n hx hb d_Mo_open_67 rfl (lv_at hl 0 rfl) ?_
          refine hm_get (ci := 9) (v := .ref (A 17)) (C := R_Mo) (T := F_Mo) (N := 41) hx hb hts ig_Mo hown hK hH F_m9 rfl 29 (by decide) (hts _ mw_760) (fun _ h9 => h9) rfl d_Mo_open_68 ?_
          refine lv_iload hx hb d_Mo_open_71 (lv_at hl 4 rfl) ?_
          refine hm_iald hx hb hK hH 2 F_A17 rfl (iIn (by omega) (by omega)) d_Mo_open_73 ?_
          refine lv_topi (fun v_58 e_59 => ?_)
          obtain ⟨g_60, F_A23⟩ := TI_arI (L := 31) hT (hA 23 (by decide)) rfl rfl
          refine hm_iast hx hb hK hH hLo 2 F_A23 rfl (iIn (by omega) (by omega)) d_Mo_open_74 (fun H_61 locs hH z_62 hLo => ?_)
          have hz : s.heap.size ≤ H_61.size := by rw [z_62]; exact hz
          obtain ⟨h_63, e_64⟩ : ∃ z, z = hu hh52 (A 23) (.inl ((t 2), 31, .inl (upd g_60 i9.toNatClampNeg v_58))) := ⟨_, rfl⟩
          have hH : hm D vwCl G h_63 H_61 := by rw [e_64]; exact hH
          have F_m9 : h_63 m9 = some (.inr (9, mf A n 0 sd lo le wr ma nu di pl se_38 wg_39 oo9)) := by rw [e_64, hu_n (tne T_m9 (hA 23 (by decide)) (by decide))]; exact F_m9
          have F_A17 : h_63 (A 17) = some (.inl ((t 2), 31, .inl g_47)) := by rw [e_64, hu_n (tneF (hA 17 (by decide)) (hA 23 (by decide)) (by decide))]; exact F_A17
          have F_A19 : h_63 (A 19) = some (.inl ((t 2), 31, .inl g_48)) := by rw [e_64, hu_n (tneF (hA 19 (by decide)) (hA 23 (by decide)) (by decide))]; exact F_A19
          have F_A20 : h_63 (A 20) = some (.inl ((t 2), 31, .inl g_49)) := by rw [e_64, hu_n (tneF (hA 20 (by decide)) (hA 23 (by decide)) (by decide))]; exact F_A20
          have F_A25 : h_63 (A 25) = some (.inl ((t 2), 31, .inl os8)) := by rw [e_64, hu_n (tneF (hA 25 (by decide)) (hA 23 (by decide)) (by decide))]; exact F_A25
          have F_A26 : h_63 (A 26) = some (.inl ((t 2), 31, .inl oc8)) := by rw [e_64, hu_n (tneF (hA 26 (by decide)) (hA 23 (by decide)) (by decide))]; exact F_A26
          have F_A23 : h_63 (A 23) = some (.inl ((t 2), 31, .inl (upd g_60 i9.toNatClampNeg v_58))) := by rw [e_64]; exact hu_s _ _ _
          have hT : TI τ t n h_63 := by rw [e_64]; exact TI_put hT (hA 23 (by decide)) (by decide) (ok_I rfl rfl)
          have hkf : kf τ [(30, 17), (30, 18), (30, 19), (30, 20), (30, 21), (30, 22), (30, 23), (30, 24), (30, 25), (30, 26), (30, 27)] [m9] h h_63 := by rw [e_64]; exact kf_put hkf (hA 23 (by decide)) (List.mem_cons_of_mem _ (List.mem_cons_of_mem _ (List.mem_cons_of_mem _ (List.mem_cons_of_mem _ (List.mem_cons_of_mem _ (List.mem_cons_of_mem _ List.mem_cons_self))))))
          obtain ⟨g_65, e_66⟩ : ∃ z, z = upd g_60 i9.toNatClampNeg v_58 := ⟨_, rfl⟩
          rw [← e_66] at F_A23
          refine lv_aload_n hx hb d_Mo_open_75 rfl (lv_at hl 0 rfl) ?_
          refine hm_get (ci := 9) (v := .ref (A 24)) (C := R_Mo) (T := F_Mo) (N := 41) hx hb hts ig_Mo hown hK hH F_m9 rfl 37 (by decide) (hts _ mw_817) (fun _ h9 => h9) rfl d_Mo_open_76 ?_
          refine lv_iload hx hb d_Mo_open_79 (lv_at hl 4 rfl) ?_
          refine lv_aload_n hx hb d_Mo_open_81 rfl (lv_at hl 0 rfl) ?_
          refine hm_get (ci := 9) (v := .ref (A 18)) (C := R_Mo) (T := F_Mo) (N := 41) hx hb hts ig_Mo hown hK hH F_m9 rfl 30 (by decide) (hts _ mw_761) (fun _ h9 => h9) rfl d_Mo_open_82 ?_
          refine lv_iload hx hb d_Mo_open_85 (lv_at hl 4 rfl) ?_
          obtain ⟨g_67, F_A18, c_68⟩ := TI_arZ (L := 31) hT (hA 18 (by decide)) rfl rfl
          refine hm_zald hx hb hK hH 1 F_A18 rfl (iIn (by omega) (by omega)) d_Mo_open_87 ?_
          refine lv_topi (fun v_69 e_70 => ?_)
          have c_71 : zb v_69 := by rw [e_70]; exact c_68 _
          obtain ⟨g_72, F_A24, c_73⟩ := TI_arZ (L := 31) hT (hA 24 (by decide)) rfl rfl
          refine hm_zast hx hb hK hH hLo 1 F_A24 rfl (iIn (by omega) (by omega)) d_Mo_open_88 (fun H_74 locs hH z_75 hLo => ?_)
          have hz : s.heap.size ≤ H_74.size := by rw [z_75]; exact hz
          rw [zb_nar (v := v_69) c_71] at hH
          obtain ⟨h_76, e_77⟩ : ∃ z, z = hu h_63 (A 24) (.inl ((t 1), 31, .inl (upd g_72 i9.toNatClampNeg v_69))) := ⟨_, rfl⟩
          have hH : hm D vwCl G h_76 H_74 := by rw [e_77]; exact hH
          have F_m9 : h_76 m9 = some (.inr (9, mf A n 0 sd lo le wr ma nu di pl se_38 wg_39 oo9)) := by rw [e_77, hu_n (tne T_m9 (hA 24 (by decide)) (by decide))]; exact F_m9
          have F_A17 : h_76 (A 17) = some (.inl ((t 2), 31, .inl g_47)) := by rw [e_77, hu_n (tneF (hA 17 (by decide)) (hA 24 (by decide)) (by decide))]; exact F_A17
          have F_A19 : h_76 (A 19) = some (.inl ((t 2), 31, .inl g_48)) := by rw [e_77, hu_n (tneF (hA 19 (by decide)) (hA 24 (by decide)) (by decide))]; exact F_A19
          have F_A20 : h_76 (A 20) = some (.inl ((t 2), 31, .inl g_49)) := by rw [e_77, hu_n (tneF (hA 20 (by decide)) (hA 24 (by decide)) (by decide))]; exact F_A20
          have F_A25 : h_76 (A 25) = some (.inl ((t 2), 31, .inl os8)) := by rw [e_77, hu_n (tneF (hA 25 (by decide)) (hA 24 (by decide)) (by decide))]; exact F_A25
          have F_A26 : h_76 (A 26) = some (.inl ((t 2), 31, .inl oc8)) := by rw [e_77, hu_n (tneF (hA 26 (by decide)) (hA 24 (by decide)) (by decide))]; exact F_A26
          have F_A23 : h_76 (A 23) = some (.inl ((t 2), 31, .inl g_65)) := by rw [e_77, hu_n (tneF (hA 23 (by decide)) (hA 24 (by decide)) (by decide))]; exact F_A23
          have F_A18 : h_76 (A 18) = some (.inl ((t 1), 31, .inl g_67)) := by rw [e_77, hu_n (tneF (hA 18 (by decide)) (hA 24 (by decide)) (by decide))]; exact F_A18
          have F_A24 : h_76 (A 24) = some (.inl ((t 1), 31, .inl (upd g_72 i9.toNatClampNeg v_69))) := by rw [e_77]; exact hu_s _ _ _
          have hT : TI τ t n h_76 := by rw [e_77]; exact TI_put hT (hA 24 (by decide)) (by decide) (ok_Z rfl rfl (zbF_up c_73 c_71))
          have hkf : kf τ [(30, 17), (30, 18), (30, 19), (30, 20), (30, 21), (30, 22), (30, 23), (30, 24), (30, 25), (30, 26), (30, 27)] [m9] h h_76 := by rw [e_77]; exact kf_put hkf (hA 24 (by decide)) (List.mem_cons_of_mem _ (List.mem_cons_of_mem _ (List.mem_cons_of_mem _ (List.mem_cons_of_mem _ (List.mem_cons_of_mem _ (List.mem_cons_of_mem _ (List.mem_cons_of_mem _ List.mem_cons_self)))))))
          obtain ⟨g_78, e_79⟩ : ∃ z, z = upd g_72 i9.toNatClampNeg v_69 := ⟨_, rfl⟩
          rw [← e_79] at F_A24
          have c_80 : zbF g_78 := by rw [e_79]; exact (zbF_up c_73 c_71)
          refine lv_aload_n hx hb d_Mo_open_89 rfl (lv_at hl 0 rfl) ?_
          refine hm_get (ci := 9) (v := .ref (A 25)) (C := R_Mo) (T := F_Mo) (N := 41) hx hb hts ig_Mo hown hK hH F_m9 rfl 38 (by decide) (hts _ mw_818) (fun _ h9 => h9) rfl d_Mo_open_90 ?_
          refine lv_iload hx hb d_Mo_open_93 (lv_at hl 4 rfl) ?_
          refine lv_aload_n hx hb d_Mo_open_95 rfl (lv_at hl 0 rfl) ?_
          refine hm_get (ci := 9) (v := .ref (A 19)) (C := R_Mo) (T := F_Mo) (N := 41) hx hb hts ig_Mo hown hK hH F_m9 rfl 31 (by decide) (hts _ mw_762) (fun _ h9 => h9) rfl d_Mo_open_96 ?_
          refine lv_iload hx hb d_Mo_open_99 (lv_at hl 4 rfl) ?_
          refine hm_iald hx hb hK hH 2 F_A19 rfl (iIn (by omega) (by omega)) d_Mo_open_101 ?_
          refine lv_topi (fun v_81 e_82 => ?_)
          refine hm_iast hx hb hK hH hLo 2 F_A25 rfl (iIn (by omega) (by omega)) d_Mo_open_102 (fun H_83 locs hH z_84 hLo => ?_)
          have hz : s.heap.size ≤ H_83.size := by rw [z_84]; exact hz
          obtain ⟨h_85, e_86⟩ : ∃ z, z = hu h_76 (A 25) (.inl ((t 2), 31, .inl (upd os8 i9.toNatClampNeg v_81))) := ⟨_, rfl⟩
          have hH : hm D vwCl G h_85 H_83 := by rw [e_86]; exact hH
          have F_m9 : h_85 m9 = some (.inr (9, mf A n 0 sd lo le wr ma nu di pl se_38 wg_39 oo9)) := by rw [e_86, hu_n (tne T_m9 (hA 25 (by decide)) (by decide))]; exact F_m9
          have F_A17 : h_85 (A 17) = some (.inl ((t 2), 31, .inl g_47)) := by rw [e_86, hu_n (tneF (hA 17 (by decide)) (hA 25 (by decide)) (by decide))]; exact F_A17
          have F_A19 : h_85 (A 19) = some (.inl ((t 2), 31, .inl g_48)) := by rw [e_86, hu_n (tneF (hA 19 (by decide)) (hA 25 (by decide)) (by decide))]; exact F_A19
          have F_A20 : h_85 (A 20) = some (.inl ((t 2), 31, .inl g_49)) := by rw [e_86, hu_n (tneF (hA 20 (by decide)) (hA 25 (by decide)) (by decide))]; exact F_A20
          have F_A26 : h_85 (A 26) = some (.inl ((t 2), 31, .inl oc8)) := by rw [e_86, hu_n (tneF (hA 26 (by decide)) (hA 25 (by decide)) (by decide))]; exact F_A26
          have F_A23 : h_85 (A 23) = some (.inl ((t 2), 31, .inl g_65)) := by rw [e_86, hu_n (tneF (hA 23 (by decide)) (hA 25 (by decide)) (by decide))]; exact F_A23
          have F_A18 : h_85 (A 18) = some (.inl ((t 1), 31, .inl g_67)) := by rw [e_86, hu_n (tneF (hA 18 (by decide)) (hA 25 (by decide)) (by decide))]; exact F_A18
          have F_A24 : h_85 (A 24) = some (.inl ((t 1), 31, .inl g_78)) := by rw [e_86, hu_n (tneF (hA 24 (by decide)) (hA 25 (by decide)) (by decide))]; exact F_A24
          have F_A25 : h_85 (A 25) = some (.inl ((t 2), 31, .inl (upd os8 i9.toNatClampNeg v_81))) := by rw [e_86]; exact hu_s _ _ _
          have hT : TI τ t n h_85 := by rw [e_86]; exact TI_put hT (hA 25 (by decide)) (by decide) (ok_I rfl rfl)
          have hkf : kf τ [(30, 17), (30, 18), (30, 19), (30, 20), (30, 21), (30, 22), (30, 23), (30, 24), (30, 25), (30, 26), (30, 27)] [m9] h h_85 := by rw [e_86]; exact kf_put hkf (hA 25 (by decide)) (List.mem_cons_of_mem _ (List.mem_cons_of_mem _ (List.mem_cons_of_mem _ (List.mem_cons_of_mem _ (List.mem_cons_of_mem _ (List.mem_cons_of_mem _ (List.mem_cons_of_mem _ (List.mem_cons_of_mem _ List.mem_cons_self))))))))
          obtain ⟨g_87, e_88⟩ : ∃ z, z = upd os8 i9.toNatClampNeg v_81 := ⟨_, rfl⟩
          rw [← e_88] at F_A25
          refine lv_aload_n hx hb d_Mo_open_103 rfl (lv_at hl 0 rfl) ?_
          refine hm_get (ci := 9) (v := .ref (A 26)) (C := R_Mo) (T := F_Mo) (N := 41) hx hb hts ig_Mo hown hK hH F_m9 rfl 39 (by decide) (hts _ mw_819) (fun _ h9 => h9) rfl d_Mo_open_104 ?_
          refine lv_iload hx hb d_Mo_open_107 (lv_at hl 4 rfl) ?_
          refine lv_aload_n hx hb d_Mo_open_109 rfl (lv_at hl 0 rfl) ?_
          refine hm_get (ci := 9) (v := .ref (A 20)) (C := R_Mo) (T := F_Mo) (N := 41) hx hb hts ig_Mo hown hK hH F_m9 rfl 32 (by decide) (hts _ mw_763) (fun _ h9 => h9) rfl d_Mo_open_110 ?_
          refine lv_iload hx hb d_Mo_open_113 (lv_at hl 4 rfl) ?_
          refine hm_iald hx hb hK hH 2 F_A20 rfl (iIn (by omega) (by omega)) d_Mo_open_115 ?_
          refine lv_topi (fun v_89 e_90 => ?_)
          refine hm_iast hx hb hK hH hLo 2 F_A26 rfl (iIn (by omega) (by omega)) d_Mo_open_116 (fun H_91 locs hH z_92 hLo => ?_)
          have hz : s.heap.size ≤ H_91.size := by rw [z_92]; exact hz
          obtain ⟨h_93, e_94⟩ : ∃ z, z = hu h_85 (A 26) (.inl ((t 2), 31, .inl (upd oc8 i9.toNatClampNeg v_89))) := ⟨_, rfl⟩
          have hH : hm D vwCl G h_93 H_91 := by rw [e_94]; exact hH
          have F_m9 : h_93 m9 = some (.inr (9, mf A n 0 sd lo le wr ma nu di pl se_38 wg_39 oo9)) := by rw [e_94, hu_n (tne T_m9 (hA 26 (by decide)) (by decide))]; exact F_m9
          have F_A17 : h_93 (A 17) = some (.inl ((t 2), 31, .inl g_47)) := by rw [e_94, hu_n (tneF (hA 17 (by decide)) (hA 26 (by decide)) (by decide))]; exact F_A17
          have F_A19 : h_93 (A 19) = some (.inl ((t 2), 31, .inl g_48)) := by rw [e_94, hu_n (tneF (hA 19 (by decide)) (hA 26 (by decide)) (by decide))]; exact F_A19
          have F_A20 : h_93 (A 20) = some (.inl ((t 2), 31, .inl g_49)) := by rw [e_94, hu_n (tneF (hA 20 (by decide)) (hA 26 (by decide)) (by decide))]; exact F_A20
          have F_A25 : h_93 (A 25) = some (.inl ((t 2), 31, .inl g_87)) := by rw [e_94, hu_n (tneF (hA 25 (by decide)) (hA 26 (by decide)) (by decide))]; exact F_A25
          have F_A23 : h_93 (A 23) = some (.inl ((t 2), 31, .inl g_65)) := by rw [e_94, hu_n (tneF (hA 23 (by decide)) (hA 26 (by decide)) (by decide))]; exact F_A23
          have F_A18 : h_93 (A 18) = some (.inl ((t 1), 31, .inl g_67)) := by rw [e_94, hu_n (tneF (hA 18 (by decide)) (hA 26 (by decide)) (by decide))]; exact F_A18
          have F_A24 : h_93 (A 24) = some (.inl ((t 1), 31, .inl g_78)) := by rw [e_94, hu_n (tneF (hA 24 (by decide)) (hA 26 (by decide)) (by decide))]; exact F_A24
          have F_A26 : h_93 (A 26) = some (.inl ((t 2), 31, .inl (upd oc8 i9.toNatClampNeg v_89))) := by rw [e_94]; exact hu_s _ _ _
          have hT : TI τ t n h_93 := by rw [e_94]; exact TI_put hT (hA 26 (by decide)) (by decide) (ok_I rfl rfl)
          have hkf : kf τ [(30, 17), (30, 18), (30, 19), (30, 20), (30, 21), (30, 22), (30, 23), (30, 24), (30, 25), (30, 26), (30, 27)] [m9] h h_93 := by rw [e_94]; exact kf_put hkf (hA 26 (by decide)) (List.mem_cons_of_mem _ (List.mem_cons_of_mem _ (List.mem_cons_of_mem _ (List.mem_cons_of_mem _ (List.mem_cons_of_mem _ (List.mem_cons_of_mem _ (List.mem_cons_of_mem _ (List.mem_cons_of_mem _ (List.mem_cons_of_mem _ List.mem_cons_self)))))))))
          obtain ⟨g_95, e_96⟩ : ∃ z, z = upd oc8 i9.toNatClampNeg v_89 := ⟨_, rfl⟩
          rw [← e_96] at F_A26
          refine lv_aload_n hx hb d_Mo_open_117 rfl (lv_at hl 0 rfl) ?_
          refine hm_get (ci := 9) (v := .ref (A 27)) (C := R_Mo) (T := F_Mo) (N := 41) hx hb hts ig_Mo hown hK hH F_m9 rfl 40 (by decide) (hts _ mw_820) (fun _ h9 => h9) rfl d_Mo_open_118 ?_
          refine lv_iload hx hb d_Mo_open_121 (lv_at hl 4 rfl) ?_
          refine lv_aload_n hx hb d_Mo_open_123 rfl (lv_at hl 0 rfl) ?_
          refine hm_get (ci := 9) (v := .ref (A 21)) (C := R_Mo) (T := F_Mo) (N := 41) hx hb hts ig_Mo hown hK hH F_m9 rfl 33 (by decide) (hts _ mw_765) (fun _ h9 => h9) rfl d_Mo_open_124 ?_
          refine lv_iload hx hb d_Mo_open_127 (lv_at hl 4 rfl) ?_
          obtain ⟨g_97, F_A21⟩ := TI_arJ (L := 31) hT (hA 21 (by decide)) rfl rfl
          refine hm_lald hx hb hK hH 3 F_A21 rfl (iIn (by omega) (by omega)) d_Mo_open_129 ?_
          refine lv_topl (fun v_98 e_99 => ?_)
          obtain ⟨g_100, F_A27⟩ := TI_arJ (L := 31) hT (hA 27 (by decide)) rfl rfl
          refine hm_last hx hb hK hH hLo 3 F_A27 rfl (iIn (by omega) (by omega)) d_Mo_open_130 (fun H_101 locs hH z_102 hLo => ?_)
          have hz : s.heap.size ≤ H_101.size := by rw [z_102]; exact hz
          obtain ⟨h_103, e_104⟩ : ∃ z, z = hu h_93 (A 27) (.inl ((t 3), 31, .inr (.inl (vp_updL g_100 i9.toNatClampNeg v_98)))) := ⟨_, rfl⟩
          have hH : hm D vwCl G h_103 H_101 := by rw [e_104]; exact hH
          have F_m9 : h_103 m9 = some (.inr (9, mf A n 0 sd lo le wr ma nu di pl se_38 wg_39 oo9)) := by rw [e_104, hu_n (tne T_m9 (hA 27 (by decide)) (by decide))]; exact F_m9
          have F_A17 : h_103 (A 17) = some (.inl ((t 2), 31, .inl g_47)) := by rw [e_104, hu_n (tneF (hA 17 (by decide)) (hA 27 (by decide)) (by decide))]; exact F_A17
          have F_A19 : h_103 (A 19) = some (.inl ((t 2), 31, .inl g_48)) := by rw [e_104, hu_n (tneF (hA 19 (by decide)) (hA 27 (by decide)) (by decide))]; exact F_A19
          have F_A20 : h_103 (A 20) = some (.inl ((t 2), 31, .inl g_49)) := by rw [e_104, hu_n (tneF (hA 20 (by decide)) (hA 27 (by decide)) (by decide))]; exact F_A20
          have F_A25 : h_103 (A 25) = some (.inl ((t 2), 31, .inl g_87)) := by rw [e_104, hu_n (tneF (hA 25 (by decide)) (hA 27 (by decide)) (by decide))]; exact F_A25
          have F_A26 : h_103 (A 26) = some (.inl ((t 2), 31, .inl g_95)) := by rw [e_104, hu_n (tneF (hA 26 (by decide)) (hA 27 (by decide)) (by decide))]; exact F_A26
          have F_A23 : h_103 (A 23) = some (.inl ((t 2), 31, .inl g_65)) := by rw [e_104, hu_n (tneF (hA 23 (by decide)) (hA 27 (by decide)) (by decide))]; exact F_A23
          have F_A18 : h_103 (A 18) = some (.inl ((t 1), 31, .inl g_67)) := by rw [e_104, hu_n (tneF (hA 18 (by decide)) (hA 27 (by decide)) (by decide))]; exact F_A18
          have F_A24 : h_103 (A 24) = some (.inl ((t 1), 31, .inl g_78)) := by rw [e_104, hu_n (tneF (hA 24 (by decide)) (hA 27 (by decide)) (by decide))]; exact F_A24
          have F_A21 : h_103 (A 21) = some (.inl ((t 3), 31, .inr (.inl g_97))) := by rw [e_104, hu_n (tneF (hA 21 (by decide)) (hA 27 (by decide)) (by decide))]; exact F_A21
          have F_A27 : h_103 (A 27) = some (.inl ((t 3), 31, .inr (.inl (vp_updL g_100 i9.toNatClampNeg v_98)))) := by rw [e_104]; exact hu_s _ _ _
          have hT : TI τ t n h_103 := by rw [e_104]; exact TI_put hT (hA 27 (by decide)) (by decide) (ok_J rfl rfl)
          have hkf : kf τ [(30, 17), (30, 18), (30, 19), (30, 20), (30, 21), (30, 22), (30, 23), (30, 24), (30, 25), (30, 26), (30, 27)] [m9] h h_103 := by rw [e_104]; exact kf_put hkf (hA 27 (by decide)) (List.mem_cons_of_mem _ (List.mem_cons_of_mem _ (List.mem_cons_of_mem _ (List.mem_cons_of_mem _ (List.mem_cons_of_mem _ (List.mem_cons_of_mem _ (List.mem_cons_of_mem _ (List.mem_cons_of_mem _ (List.mem_cons_of_mem _ (List.mem_cons_of_mem _ List.mem_cons_self))))))))))
          obtain ⟨g_105, e_106⟩ : ∃ z, z = vp_updL g_100 i9.toNatClampNeg v_98 := ⟨_, rfl⟩
          rw [← e_106] at F_A27
          obtain ⟨j_107, e_108⟩ : ∃ z : Int32, z = i9 + 1 := ⟨_, rfl⟩
          refine lv_iinc (v := j_107) (lv' := [(4, .int j_107), (0, .ref m9), (1, .int a9), (2, .int r_9), (3, .int r_31)]) hx hb d_Mo_open_131 hl (k := 4) rfl e_108.symm (by decide) rfl (fun ls hl => ?_)
          refine lv_goto (tgt := 52) hx hb d_Mo_open_134 (by decide) ?_
          have is_109 : j_107.toInt = i9.toInt + 1 := by rw [e_108]; exact iAddK 1 rfl (by omega) (by omega)
          exact ih52 (mU j_107) ls _ locs _ (by rw [hk52]; exact mU_lt (by omega)) ⟨j_107, g_87, g_95, rfl, (lv_sub hl [1, 2, 3, 4, 0] rfl), hH, hz, hLo, F_m9, F_A17, F_A19, F_A20, hT, hkf, F_A25, F_A26, (by omega), (cp_s I_i9 (by omega) hC1 (by rw [e_88, e_82])), (cp_s I_i9 (by omega) hC2 (by rw [e_96, e_90]))⟩
      · skip
        refine lv_iload_n hx hb d_Mo_open_37 rfl (lv_at hl 0 rfl) ?_
        refine lv_if_ge (tgt := 45) hx hb d_Mo_open_38 (by decide) (fun hc_110 => ?_) (fun hc_110 => ?_)
        · skip
          have ic_111 : 0 ≤ r_31.toInt := iLe hc_110
          refine lv_iload_n hx hb d_Mo_open_45 rfl (lv_at hl 0 rfl) ?_
          exact J46 r_31 _ _ _ _ ⟨(lv_sub hl [2, 3, 1, 0] rfl), hH, hz, hLo, rfl, ⟨⟨by omega, by omega⟩, hSr⟩⟩
        · skip
          have ic_112 : r_31.toInt < 0 := iNe hc_110
          refine lv_iconst (v := 0) hx hb d_Mo_open_41 (by decide) ?_
          refine lv_goto (tgt := 46) hx hb d_Mo_open_42 (by decide) ?_
          exact J46 0 _ _ _ _ ⟨(lv_sub hl [2, 3, 1, 0] rfl), hH, hz, hLo, rfl, ⟨⟨by decide, by decide⟩, seQ_0⟩⟩
    · skip
      have ic_113 : r_9.toInt < 0 := iNe hc_16
      refine lv_ldcw (v := -1000000) hx hb hown (hts _ mw_815) d_Mo_open_15 ?_
      exact W.iret (v := (-1000000)) hx hb hr (fun t9 ht hW => ⟨(-1000000), h_7, rfl, ⟨hT, hkf, ⟨(0 : Int32), se, wg, op, F_m9, ⟨hsd, hlo, (by omega), ⟨by omega, by omega⟩, ⟨by omega, by omega⟩⟩, (by rw [aI_of F_A25, aI_of F_A26]; exact hOp)⟩⟩, by rw [ht]; exact hH, by rw [ht]; exact hz⟩) hLo d_Mo_open_18

set_option maxHeartbeats 4000000 in
set_option maxRecDepth 100000 in
theorem m_node (l : Launch) (D : va_G) (t : Nat → ClassId) (G : hG) (ak av : Nat → Nat) (h : hM) (τ : tM) (n : Nat) (m9 : Nat) (k9 : Int32) (w9 : Int32) (A : Nat → Nat) (th sd lo le wr ma nu di pl se wg op : Int32) (hn : n ≤ 200) (hT : TI τ t n h) (T_m9 : τ m9 = (20, 0)) (F_m9 : h m9 = some (.inr (9, mf A n th sd lo le wr ma nu di pl se wg op))) (hA : ∀ i, i < 28 → τ (A i) = (30, i)) (hmk : mOk sd lo ma se op) : Met l y_Mo_node (.code y_Mo_node b_Mo_node 3 (some .int) :: lw_g) { frames := 1, cells := 0, slots := 0, locals := 22 } (hP (kE D t G ak av) D vwCl G h [.ref m9, .int k9, .int w9]) (hQi D vwCl G (fun r h' => TI τ t n h' ∧ kf τ [] [m9] h h' ∧ (∃ (th' : Int32), h' m9 = some (.inr (9, mf A n th' sd lo le wr ma nu di pl se wg op)) ∧ mOk sd lo ma se op))) 0 0 G.P := by
  refine Met.ofW (cc := b_Mo_node) (maxL := 3) (ret := (some .int)) (by decide) rfl ?_
  intro p e s m args below meth c s₁ Bd hml hv
  obtain ⟨ha, hE, hH⟩ := hv
  have hx := Bd.exec
  have hb := Bd.bytes
  have hr := Bd.returns
  have hts : ∀ w ∈ lw_g, w.before args s = true := fun w hw => atoms_spec (ws := (.code y_Mo_node b_Mo_node 3 (some .int) :: lw_g)) Bd.pre w (List.mem_cons_of_mem _ hw)
  have hown : s.vm.findClass R_Mo = some m.cls := findClass_of_methodNamed Bd.named
  have hlocks := Bd.notSynchronized
  have hK := hE.1
  have hH0 := hH
  have hLo : hLc G.P [] := hLc_nil
  have hz : s.heap.size ≤ s.heap.size := Nat.le_refl _
  have hl := lv_entry [.ref m9, .int k9, .int w9] (n := 3) (Nat.le_of_ble_eq_true rfl)
  rw [show entryFrame m args 3 = F0 m 0 ((lg_sl [.ref m9, .int k9, .int w9] ++ List.replicate (3 - (lg_sl [.ref m9, .int k9, .int w9]).length) Slot.unset).toArray) [] from (by rw [ha]; exact lg_entry_eq m [.ref m9, .int k9, .int w9] 3)]
  generalize (lg_sl [.ref m9, .int k9, .int w9] ++ List.replicate (3 - (lg_sl [.ref m9, .int k9, .int w9]).length) Slot.unset).toArray = ls at hl ⊢
  have hl : lv_has ls 3 [(0, .ref m9), (1, .int k9), (2, .int w9)] := hl
  have hkf : kf τ [] [m9] h h := kf_rf
  obtain ⟨hsd, hlo, hma, hse, hop⟩ := id hmk
  have inI : (nI n).toInt = n := nI_toInt (by omega)
  refine lv_aload_n hx hb d_Mo_node_0 rfl (lv_at hl 0 rfl) ?_
  refine lv_iload_n hx hb d_Mo_node_1 rfl (lv_at hl 1 rfl) ?_
  refine lv_iconst (v := 0) hx hb d_Mo_node_2 (by decide) ?_
  refine lv_aload_n hx hb d_Mo_node_3 rfl (lv_at hl 0 rfl) ?_
  refine hm_get (ci := 9) (v := .int op) (C := R_Mo) (T := F_Mo) (N := 41) hx hb hts ig_Mo hown hK hH F_m9 rfl 35 (by decide) (hts _ mw_732) (fun _ h9 => h9) rfl d_Mo_node_4 ?_
  refine lv_iconst (v := 1) hx hb d_Mo_node_7 (by decide) ?_
  refine lv_isub hx hb d_Mo_node_8 ?_
  refine lv_topi (fun v_1 e_2 => ?_)
  refine hm_callPi (va_runS (As := [.int k9, .int 0, .int v_1]) (rest := [.ref m9]) ⟨hx, hb, hml, hown, hts⟩ (m_in l D t G ak av h τ n k9 0 v_1    hn hT    ) ⟨cw9B 3 hts mw_582 mw_583 mw_579 rfl rfl (by decide +kernel) ⟨Nat.le_of_ble_eq_true rfl, Nat.le_of_ble_eq_true rfl⟩, hts _ mw_584⟩ (hP_S kE_ok hE hH) rfl rfl hl.1 rfl (lv_room (Nat.le_of_ble_eq_true rfl)) d_Mo_node_9 ⟨Nat.le_of_ble_eq_true rfl, Nat.le_of_ble_eq_true rfl⟩) (fun r_3 h_4 H_5 hp_7  hH z_6 => ?_)
  have hz : s.heap.size ≤ H_5.size := Nat.le_trans hz z_6
  obtain ⟨c_8, xp_9, rfl⟩ := hp_7
  have il_10 : (0 : Int32).toInt = 0 := rfl
  have is_11 : v_1.toInt = op.toInt - 1 := by rw [e_2]; exact iDecS 1 rfl (by decide) (by omega)
  rcases xp_9 with ⟨rfl, ix9⟩ | ⟨rfl, ix9, iy9⟩
  · skip
    refine lv_if_eq (tgt := 28) hx hb d_Mo_node_12 (by decide) (fun hc_12 => ?_) (fun hc_12 => absurd hc_12 (by decide))
    refine lv_iconst (v := 1) hx hb d_Mo_node_28 (by decide) ?_
    refine hm_put (ci := 9) (v := .int 1) (ty := .int) (C := R_Mo) (T := F_Mo) (N := 41) hx hb hts ig_Mo t_Mo tk_Mo nm_Mo hown hK hH hLo F_m9 rfl 0 (by decide) (hts _ mw_594) (fun _ h9 => h9) rfl (by decide +kernel) rfl rfl (Nat.le_of_ble_eq_true rfl) d_Mo_node_29 (fun H_13 locs hH z_14 hLo => ?_)
    have hz : s.heap.size ≤ H_13.size := by rw [z_14]; exact hz
    obtain ⟨h_15, e_16⟩ : ∃ z, z = hu h m9 (.inr (9, mf A n 1 sd lo le wr ma nu di pl se wg op)) := ⟨_, rfl⟩
    have hH : hm D vwCl G h_15 H_13 := by rw [e_16]; exact hH
    have F_m9 : h_15 m9 = some (.inr (9, mf A n 1 sd lo le wr ma nu di pl se wg op)) := by rw [e_16]; exact hu_s _ _ _
    have hT : TI τ t n h_15 := by rw [e_16]; exact TI_put hT T_m9 (by decide) ⟨_, rfl⟩
    have hkf : kf τ [] [m9] h h_15 := by rw [e_16]; exact kf_putM hkf (by simp)
    refine lv_aload_n hx hb d_Mo_node_32 rfl (lv_at hl 0 rfl) ?_
    refine hm_get (ci := 9) (v := .int 1) (C := R_Mo) (T := F_Mo) (N := 41) hx hb hts ig_Mo hown hK hH F_m9 rfl 0 (by decide) (hts _ mw_594) (fun _ h9 => h9) rfl d_Mo_node_33 ?_
    refine lv_iconst (v := 1) hx hb d_Mo_node_36 (by decide) ?_
    refine lv_icmp_ne (tgt := 42) hx hb d_Mo_node_37 (by decide) (fun hc_17 => absurd hc_17 (by decide)) (fun hc_17 => ?_)
    refine lv_iconst (v := 0) hx hb d_Mo_node_40 (by decide) ?_
    exact W.iret (v := 0) hx hb hr (fun t9 ht hW => ⟨0, h_15, rfl, ⟨hT, hkf, ⟨(1 : Int32), F_m9, ⟨hsd, hlo, (by omega), ⟨by omega, by omega⟩, ⟨by omega, by omega⟩⟩⟩⟩, by rw [ht]; exact hH, by rw [ht]; exact hz⟩) hLo d_Mo_node_41
  · skip
    refine lv_if_eq (tgt := 28) hx hb d_Mo_node_12 (by decide) (fun hc_18 => absurd hc_18 (by decide)) (fun hc_18 => ?_)
    refine lv_iload_n hx hb d_Mo_node_15 rfl (lv_at hl 2 rfl) ?_
    refine lv_iconst (v := 0) hx hb d_Mo_node_16 (by decide) ?_
    refine lv_iconst (v := 3) hx hb d_Mo_node_17 (by decide) ?_
    refine hm_callPi (va_runS (As := [.int w9, .int 0, .int 3]) (rest := [.ref m9]) ⟨hx, hb, hml, hown, hts⟩ (m_in l D t G ak av h τ n w9 0 3    hn hT    ) ⟨cw9B 3 hts mw_582 mw_583 mw_579 rfl rfl (by decide +kernel) ⟨Nat.le_of_ble_eq_true rfl, Nat.le_of_ble_eq_true rfl⟩, hts _ mw_584⟩ (hP_S kE_ok hE hH) rfl rfl hl.1 rfl (lv_room (Nat.le_of_ble_eq_true rfl)) d_Mo_node_18 ⟨Nat.le_of_ble_eq_true rfl, Nat.le_of_ble_eq_true rfl⟩) (fun r_19 h_20 H_21 hp_23  hH z_22 => ?_)
    have hz : s.heap.size ≤ H_21.size := Nat.le_trans hz z_22
    obtain ⟨c_24, xp_25, rfl⟩ := hp_23
    have il_26 : (0 : Int32).toInt = 0 := rfl
    have il_27 : (3 : Int32).toInt = 3 := rfl
    rcases xp_25 with ⟨rfl, ix9⟩ | ⟨rfl, ix9, iy9⟩
    · skip
      refine lv_if_eq (tgt := 28) hx hb d_Mo_node_21 (by decide) (fun hc_28 => ?_) (fun hc_28 => absurd hc_28 (by decide))
      refine lv_iconst (v := 1) hx hb d_Mo_node_28 (by decide) ?_
      refine hm_put (ci := 9) (v := .int 1) (ty := .int) (C := R_Mo) (T := F_Mo) (N := 41) hx hb hts ig_Mo t_Mo tk_Mo nm_Mo hown hK hH hLo F_m9 rfl 0 (by decide) (hts _ mw_594) (fun _ h9 => h9) rfl (by decide +kernel) rfl rfl (Nat.le_of_ble_eq_true rfl) d_Mo_node_29 (fun H_29 locs hH z_30 hLo => ?_)
      have hz : s.heap.size ≤ H_29.size := by rw [z_30]; exact hz
      obtain ⟨h_31, e_32⟩ : ∃ z, z = hu h m9 (.inr (9, mf A n 1 sd lo le wr ma nu di pl se wg op)) := ⟨_, rfl⟩
      have hH : hm D vwCl G h_31 H_29 := by rw [e_32]; exact hH
      have F_m9 : h_31 m9 = some (.inr (9, mf A n 1 sd lo le wr ma nu di pl se wg op)) := by rw [e_32]; exact hu_s _ _ _
      have hT : TI τ t n h_31 := by rw [e_32]; exact TI_put hT T_m9 (by decide) ⟨_, rfl⟩
      have hkf : kf τ [] [m9] h h_31 := by rw [e_32]; exact kf_putM hkf (by simp)
      refine lv_aload_n hx hb d_Mo_node_32 rfl (lv_at hl 0 rfl) ?_
      refine hm_get (ci := 9) (v := .int 1) (C := R_Mo) (T := F_Mo) (N := 41) hx hb hts ig_Mo hown hK hH F_m9 rfl 0 (by decide) (hts _ mw_594) (fun _ h9 => h9) rfl d_Mo_node_33 ?_
      refine lv_iconst (v := 1) hx hb d_Mo_node_36 (by decide) ?_
      refine lv_icmp_ne (tgt := 42) hx hb d_Mo_node_37 (by decide) (fun hc_33 => absurd hc_33 (by decide)) (fun hc_33 => ?_)
      refine lv_iconst (v := 0) hx hb d_Mo_node_40 (by decide) ?_
      exact W.iret (v := 0) hx hb hr (fun t9 ht hW => ⟨0, h_31, rfl, ⟨hT, hkf, ⟨(1 : Int32), F_m9, ⟨hsd, hlo, (by omega), ⟨by omega, by omega⟩, ⟨by omega, by omega⟩⟩⟩⟩, by rw [ht]; exact hH, by rw [ht]; exact hz⟩) hLo d_Mo_node_41
    · skip
      refine lv_if_eq (tgt := 28) hx hb d_Mo_node_21 (by decide) (fun hc_34 => absurd hc_34 (by decide)) (fun hc_34 => ?_)
      refine lv_iconst (v := 0) hx hb d_Mo_node_24 (by decide) ?_
      refine lv_goto (tgt := 29) hx hb d_Mo_node_25 (by decide) ?_
      refine hm_put (ci := 9) (v := .int 0) (ty := .int) (C := R_Mo) (T := F_Mo) (N := 41) hx hb hts ig_Mo t_Mo tk_Mo nm_Mo hown hK hH hLo F_m9 rfl 0 (by decide) (hts _ mw_594) (fun _ h9 => h9) rfl (by decide +kernel) rfl rfl (Nat.le_of_ble_eq_true rfl) d_Mo_node_29 (fun H_35 locs hH z_36 hLo => ?_)
      have hz : s.heap.size ≤ H_35.size := by rw [z_36]; exact hz
      obtain ⟨h_37, e_38⟩ : ∃ z, z = hu h m9 (.inr (9, mf A n 0 sd lo le wr ma nu di pl se wg op)) := ⟨_, rfl⟩
      have hH : hm D vwCl G h_37 H_35 := by rw [e_38]; exact hH
      have F_m9 : h_37 m9 = some (.inr (9, mf A n 0 sd lo le wr ma nu di pl se wg op)) := by rw [e_38]; exact hu_s _ _ _
      have hT : TI τ t n h_37 := by rw [e_38]; exact TI_put hT T_m9 (by decide) ⟨_, rfl⟩
      have hkf : kf τ [] [m9] h h_37 := by rw [e_38]; exact kf_putM hkf (by simp)
      refine lv_aload_n hx hb d_Mo_node_32 rfl (lv_at hl 0 rfl) ?_
      refine hm_get (ci := 9) (v := .int 0) (C := R_Mo) (T := F_Mo) (N := 41) hx hb hts ig_Mo hown hK hH F_m9 rfl 0 (by decide) (hts _ mw_594) (fun _ h9 => h9) rfl d_Mo_node_33 ?_
      refine lv_iconst (v := 1) hx hb d_Mo_node_36 (by decide) ?_
      refine lv_icmp_ne (tgt := 42) hx hb d_Mo_node_37 (by decide) (fun hc_39 => ?_) (fun hc_39 => absurd hc_39 (by decide))
      refine lv_iload_n hx hb d_Mo_node_42 rfl (lv_at hl 2 rfl) ?_
      refine lv_if_ne (tgt := 55) hx hb d_Mo_node_43 (by decide) (fun hc_40 => ?_) (fun hc_40 => ?_)
      · skip
        refine lv_iload_n hx hb d_Mo_node_55 rfl (lv_at hl 2 rfl) ?_
        refine lv_iconst (v := 1) hx hb d_Mo_node_56 (by decide) ?_
        refine lv_icmp_ne (tgt := 77) hx hb d_Mo_node_57 (by decide) (fun hc_41 => ?_) (fun hc_41 => ?_)
        · skip
          refine lv_iload_n hx hb d_Mo_node_77 rfl (lv_at hl 2 rfl) ?_
          refine lv_iconst (v := 2) hx hb d_Mo_node_78 (by decide) ?_
          refine lv_icmp_ne (tgt := 91) hx hb d_Mo_node_79 (by decide) (fun hc_42 => ?_) (fun hc_42 => ?_)
          · skip
            refine lv_aload_n hx hb d_Mo_node_91 rfl (lv_at hl 0 rfl) ?_
            refine hm_get (ci := 9) (v := .ref (A 26)) (C := R_Mo) (T := F_Mo) (N := 41) hx hb hts ig_Mo hown hK hH F_m9 rfl 39 (by decide) (hts _ mw_819) (fun _ h9 => h9) rfl d_Mo_node_92 ?_
            refine lv_iload_n hx hb d_Mo_node_95 rfl (lv_at hl 1 rfl) ?_
            obtain ⟨g_43, F_A26⟩ := TI_arI (L := 31) hT (hA 26 (by decide)) rfl rfl
            refine hm_iald hx hb hK hH 2 F_A26 rfl (iIn (by omega) (by omega)) d_Mo_node_96 ?_
            refine lv_topi (fun v_44 e_45 => ?_)
            exact W.iret (v := v_44) hx hb hr (fun t9 ht hW => ⟨v_44, h_37, rfl, ⟨hT, hkf, ⟨(0 : Int32), F_m9, ⟨hsd, hlo, (by omega), ⟨by omega, by omega⟩, ⟨by omega, by omega⟩⟩⟩⟩, by rw [ht]; exact hH, by rw [ht]; exact hz⟩) hLo d_Mo_node_97
          · skip
            have ic_46 : w9.toInt = 2 := congrArg Int32.toInt hc_42
            refine lv_aload_n hx hb d_Mo_node_82 rfl (lv_at hl 0 rfl) ?_
            refine hm_get (ci := 9) (v := .ref (A 25)) (C := R_Mo) (T := F_Mo) (N := 41) hx hb hts ig_Mo hown hK hH F_m9 rfl 38 (by decide) (hts _ mw_818) (fun _ h9 => h9) rfl d_Mo_node_83 ?_
            refine lv_iload_n hx hb d_Mo_node_86 rfl (lv_at hl 1 rfl) ?_
            obtain ⟨g_47, F_A25⟩ := TI_arI (L := 31) hT (hA 25 (by decide)) rfl rfl
            refine hm_iald hx hb hK hH 2 F_A25 rfl (iIn (by omega) (by omega)) d_Mo_node_87 ?_
            refine lv_topi (fun v_48 e_49 => ?_)
            refine lv_goto (tgt := 97) hx hb d_Mo_node_88 (by decide) ?_
            exact W.iret (v := v_48) hx hb hr (fun t9 ht hW => ⟨v_48, h_37, rfl, ⟨hT, hkf, ⟨(0 : Int32), F_m9, ⟨hsd, hlo, (by omega), ⟨by omega, by omega⟩, ⟨by omega, by omega⟩⟩⟩⟩, by rw [ht]; exact hH, by rw [ht]; exact hz⟩) hLo d_Mo_node_97
        · skip
          have ic_50 : w9.toInt = 1 := congrArg Int32.toInt hc_41
          refine lv_aload_n hx hb d_Mo_node_60 rfl (lv_at hl 0 rfl) ?_
          refine hm_get (ci := 9) (v := .ref (A 24)) (C := R_Mo) (T := F_Mo) (N := 41) hx hb hts ig_Mo hown hK hH F_m9 rfl 37 (by decide) (hts _ mw_817) (fun _ h9 => h9) rfl d_Mo_node_61 ?_
          refine lv_iload_n hx hb d_Mo_node_64 rfl (lv_at hl 1 rfl) ?_
          obtain ⟨g_51, F_A24, c_52⟩ := TI_arZ (L := 31) hT (hA 24 (by decide)) rfl rfl
          refine hm_zald hx hb hK hH 1 F_A24 rfl (iIn (by omega) (by omega)) d_Mo_node_65 ?_
          refine lv_topi (fun v_53 e_54 => ?_)
          have c_55 : zb v_53 := by rw [e_54]; exact c_52 _
          refine lv_if_eq (tgt := 73) hx hb d_Mo_node_66 (by decide) (fun hc_56 => ?_) (fun hc_56 => ?_)
          · skip
            have ic_57 : v_53.toInt = 0 := congrArg Int32.toInt hc_56
            refine lv_iconst (v := 1) hx hb d_Mo_node_73 (by decide) ?_
            refine lv_goto (tgt := 97) hx hb d_Mo_node_74 (by decide) ?_
            exact W.iret (v := 1) hx hb hr (fun t9 ht hW => ⟨1, h_37, rfl, ⟨hT, hkf, ⟨(0 : Int32), F_m9, ⟨hsd, hlo, (by omega), ⟨by omega, by omega⟩, ⟨by omega, by omega⟩⟩⟩⟩, by rw [ht]; exact hH, by rw [ht]; exact hz⟩) hLo d_Mo_node_97
          · skip
            refine lv_iconst (v := 0) hx hb d_Mo_node_69 (by decide) ?_
            refine lv_goto (tgt := 97) hx hb d_Mo_node_70 (by decide) ?_
            exact W.iret (v := 0) hx hb hr (fun t9 ht hW => ⟨0, h_37, rfl, ⟨hT, hkf, ⟨(0 : Int32), F_m9, ⟨hsd, hlo, (by omega), ⟨by omega, by omega⟩, ⟨by omega, by omega⟩⟩⟩⟩, by rw [ht]; exact hH, by rw [ht]; exact hz⟩) hLo d_Mo_node_97
      · skip
        have ic_58 : w9.toInt = 0 := congrArg Int32.toInt hc_40
        refine lv_aload_n hx hb d_Mo_node_46 rfl (lv_at hl 0 rfl) ?_
        refine hm_get (ci := 9) (v := .ref (A 23)) (C := R_Mo) (T := F_Mo) (N := 41) hx hb hts ig_Mo hown hK hH F_m9 rfl 36 (by decide) (hts _ mw_816) (fun _ h9 => h9) rfl d_Mo_node_47 ?_
        refine lv_iload_n hx hb d_Mo_node_50 rfl (lv_at hl 1 rfl) ?_
        obtain ⟨g_59, F_A23⟩ := TI_arI (L := 31) hT (hA 23 (by decide)) rfl rfl
        refine hm_iald hx hb hK hH 2 F_A23 rfl (iIn (by omega) (by omega)) d_Mo_node_51 ?_
        refine lv_topi (fun v_60 e_61 => ?_)
        refine lv_goto (tgt := 97) hx hb d_Mo_node_52 (by decide) ?_
        exact W.iret (v := v_60) hx hb hr (fun t9 ht hW => ⟨v_60, h_37, rfl, ⟨hT, hkf, ⟨(0 : Int32), F_m9, ⟨hsd, hlo, (by omega), ⟨by omega, by omega⟩, ⟨by omega, by omega⟩⟩⟩⟩, by rw [ht]; exact hH, by rw [ht]; exact hz⟩) hLo d_Mo_node_97

set_option maxHeartbeats 4000000 in
set_option maxRecDepth 100000 in
theorem m_name (l : Launch) (D : va_G) (t : Nat → ClassId) (G : hG) (ak av : Nat → Nat) (h : hM) (τ : tM) (n : Nat) (m9 : Nat) (k9 : Int32) (A : Nat → Nat) (th sd lo le wr ma nu di pl se wg op : Int32) (hn : n ≤ 200) (hT : TI τ t n h) (T_m9 : τ m9 = (20, 0)) (F_m9 : h m9 = some (.inr (9, mf A n th sd lo le wr ma nu di pl se wg op))) (hA : ∀ i, i < 28 → τ (A i) = (30, i)) (hmk : mOk sd lo ma se op) : Met l y_Mo_name (.code y_Mo_name b_Mo_name 2 (some .long) :: lw_g) { frames := 1, cells := 0, slots := 0, locals := 22 } (hP (kE D t G ak av) D vwCl G h [.ref m9, .int k9]) (hQl D vwCl G (fun r h' => TI τ t n h' ∧ kf τ [] [m9] h h' ∧ (∃ (th' : Int32), h' m9 = some (.inr (9, mf A n th' sd lo le wr ma nu di pl se wg op)) ∧ mOk sd lo ma se op))) 0 0 G.P := by
  refine Met.ofW (cc := b_Mo_name) (maxL := 2) (ret := (some .long)) (by decide) rfl ?_
  intro p e s m args below meth c s₁ Bd hml hv
  obtain ⟨ha, hE, hH⟩ := hv
  have hx := Bd.exec
  have hb := Bd.bytes
  have hr := Bd.returns
  have hts : ∀ w ∈ lw_g, w.before args s = true := fun w hw => atoms_spec (ws := (.code y_Mo_name b_Mo_name 2 (some .long) :: lw_g)) Bd.pre w (List.mem_cons_of_mem _ hw)
  have hown : s.vm.findClass R_Mo = some m.cls := findClass_of_methodNamed Bd.named
  have hlocks := Bd.notSynchronized
  have hK := hE.1
  have hH0 := hH
  have hLo : hLc G.P [] := hLc_nil
  have hz : s.heap.size ≤ s.heap.size := Nat.le_refl _
  have hl := lv_entry [.ref m9, .int k9] (n := 2) (Nat.le_of_ble_eq_true rfl)
  rw [show entryFrame m args 2 = F0 m 0 ((lg_sl [.ref m9, .int k9] ++ List.replicate (2 - (lg_sl [.ref m9, .int k9]).length) Slot.unset).toArray) [] from (by rw [ha]; exact lg_entry_eq m [.ref m9, .int k9] 2)]
  generalize (lg_sl [.ref m9, .int k9] ++ List.replicate (2 - (lg_sl [.ref m9, .int k9]).length) Slot.unset).toArray = ls at hl ⊢
  have hl : lv_has ls 2 [(0, .ref m9), (1, .int k9)] := hl
  have hkf : kf τ [] [m9] h h := kf_rf
  obtain ⟨hsd, hlo, hma, hse, hop⟩ := id hmk
  have inI : (nI n).toInt = n := nI_toInt (by omega)
  refine lv_aload_n hx hb d_Mo_name_0 rfl (lv_at hl 0 rfl) ?_
  refine lv_iload_n hx hb d_Mo_name_1 rfl (lv_at hl 1 rfl) ?_
  refine lv_iconst (v := 0) hx hb d_Mo_name_2 (by decide) ?_
  refine lv_aload_n hx hb d_Mo_name_3 rfl (lv_at hl 0 rfl) ?_
  refine hm_get (ci := 9) (v := .int op) (C := R_Mo) (T := F_Mo) (N := 41) hx hb hts ig_Mo hown hK hH F_m9 rfl 35 (by decide) (hts _ mw_732) (fun _ h9 => h9) rfl d_Mo_name_4 ?_
  refine lv_iconst (v := 1) hx hb d_Mo_name_7 (by decide) ?_
  refine lv_isub hx hb d_Mo_name_8 ?_
  refine lv_topi (fun v_1 e_2 => ?_)
  refine hm_callPi (va_runS (As := [.int k9, .int 0, .int v_1]) (rest := [.ref m9]) ⟨hx, hb, hml, hown, hts⟩ (m_in l D t G ak av h τ n k9 0 v_1    hn hT    ) ⟨cw9B 3 hts mw_582 mw_583 mw_579 rfl rfl (by decide +kernel) ⟨Nat.le_of_ble_eq_true rfl, Nat.le_of_ble_eq_true rfl⟩, hts _ mw_584⟩ (hP_S kE_ok hE hH) rfl rfl hl.1 rfl (lv_room (Nat.le_of_ble_eq_true rfl)) d_Mo_name_9 ⟨Nat.le_of_ble_eq_true rfl, Nat.le_of_ble_eq_true rfl⟩) (fun r_3 h_4 H_5 hp_7  hH z_6 => ?_)
  have hz : s.heap.size ≤ H_5.size := Nat.le_trans hz z_6
  obtain ⟨c_8, xp_9, rfl⟩ := hp_7
  have il_10 : (0 : Int32).toInt = 0 := rfl
  have is_11 : v_1.toInt = op.toInt - 1 := by rw [e_2]; exact iDecS 1 rfl (by decide) (by omega)
  rcases xp_9 with ⟨rfl, ix9⟩ | ⟨rfl, ix9, iy9⟩
  · skip
    refine lv_if_eq (tgt := 19) hx hb d_Mo_name_12 (by decide) (fun hc_12 => ?_) (fun hc_12 => absurd hc_12 (by decide))
    refine lv_iconst (v := 1) hx hb d_Mo_name_19 (by decide) ?_
    refine hm_put (ci := 9) (v := .int 1) (ty := .int) (C := R_Mo) (T := F_Mo) (N := 41) hx hb hts ig_Mo t_Mo tk_Mo nm_Mo hown hK hH hLo F_m9 rfl 0 (by decide) (hts _ mw_594) (fun _ h9 => h9) rfl (by decide +kernel) rfl rfl (Nat.le_of_ble_eq_true rfl) d_Mo_name_20 (fun H_13 locs hH z_14 hLo => ?_)
    have hz : s.heap.size ≤ H_13.size := by rw [z_14]; exact hz
    obtain ⟨h_15, e_16⟩ : ∃ z, z = hu h m9 (.inr (9, mf A n 1 sd lo le wr ma nu di pl se wg op)) := ⟨_, rfl⟩
    have hH : hm D vwCl G h_15 H_13 := by rw [e_16]; exact hH
    have F_m9 : h_15 m9 = some (.inr (9, mf A n 1 sd lo le wr ma nu di pl se wg op)) := by rw [e_16]; exact hu_s _ _ _
    have hT : TI τ t n h_15 := by rw [e_16]; exact TI_put hT T_m9 (by decide) ⟨_, rfl⟩
    have hkf : kf τ [] [m9] h h_15 := by rw [e_16]; exact kf_putM hkf (by simp)
    refine lv_aload_n hx hb d_Mo_name_23 rfl (lv_at hl 0 rfl) ?_
    refine hm_get (ci := 9) (v := .int 1) (C := R_Mo) (T := F_Mo) (N := 41) hx hb hts ig_Mo hown hK hH F_m9 rfl 0 (by decide) (hts _ mw_594) (fun _ h9 => h9) rfl d_Mo_name_24 ?_
    refine lv_iconst (v := 1) hx hb d_Mo_name_27 (by decide) ?_
    refine lv_icmp_ne (tgt := 35) hx hb d_Mo_name_28 (by decide) (fun hc_17 => absurd hc_17 (by decide)) (fun hc_17 => ?_)
    refine lv_lconst (v := 0) hx hb d_Mo_name_31 (by decide) ?_
    refine lv_goto (tgt := 41) hx hb d_Mo_name_32 (by decide) ?_
    exact W.lret (v := 0) hx hb hr (fun t9 ht hW => ⟨0, h_15, rfl, ⟨hT, hkf, ⟨(1 : Int32), F_m9, ⟨hsd, hlo, (by omega), ⟨by omega, by omega⟩, ⟨by omega, by omega⟩⟩⟩⟩, by rw [ht]; exact hH, by rw [ht]; exact hz⟩) hLo d_Mo_name_41
  · skip
    refine lv_if_eq (tgt := 19) hx hb d_Mo_name_12 (by decide) (fun hc_18 => absurd hc_18 (by decide)) (fun hc_18 => ?_)
    refine lv_iconst (v := 0) hx hb d_Mo_name_15 (by decide) ?_
    refine lv_goto (tgt := 20) hx hb d_Mo_name_16 (by decide) ?_
    refine hm_put (ci := 9) (v := .int 0) (ty := .int) (C := R_Mo) (T := F_Mo) (N := 41) hx hb hts ig_Mo t_Mo tk_Mo nm_Mo hown hK hH hLo F_m9 rfl 0 (by decide) (hts _ mw_594) (fun _ h9 => h9) rfl (by decide +kernel) rfl rfl (Nat.le_of_ble_eq_true rfl) d_Mo_name_20 (fun H_19 locs hH z_20 hLo => ?_)
    have hz : s.heap.size ≤ H_19.size := by rw [z_20]; exact hz
    obtain ⟨h_21, e_22⟩ : ∃ z, z = hu h m9 (.inr (9, mf A n 0 sd lo le wr ma nu di pl se wg op)) := ⟨_, rfl⟩
    have hH : hm D vwCl G h_21 H_19 := by rw [e_22]; exact hH
    have F_m9 : h_21 m9 = some (.inr (9, mf A n 0 sd lo le wr ma nu di pl se wg op)) := by rw [e_22]; exact hu_s _ _ _
    have hT : TI τ t n h_21 := by rw [e_22]; exact TI_put hT T_m9 (by decide) ⟨_, rfl⟩
    have hkf : kf τ [] [m9] h h_21 := by rw [e_22]; exact kf_putM hkf (by simp)
    refine lv_aload_n hx hb d_Mo_name_23 rfl (lv_at hl 0 rfl) ?_
    refine hm_get (ci := 9) (v := .int 0) (C := R_Mo) (T := F_Mo) (N := 41) hx hb hts ig_Mo hown hK hH F_m9 rfl 0 (by decide) (hts _ mw_594) (fun _ h9 => h9) rfl d_Mo_name_24 ?_
    refine lv_iconst (v := 1) hx hb d_Mo_name_27 (by decide) ?_
    refine lv_icmp_ne (tgt := 35) hx hb d_Mo_name_28 (by decide) (fun hc_23 => ?_) (fun hc_23 => absurd hc_23 (by decide))
    refine lv_aload_n hx hb d_Mo_name_35 rfl (lv_at hl 0 rfl) ?_
    refine hm_get (ci := 9) (v := .ref (A 27)) (C := R_Mo) (T := F_Mo) (N := 41) hx hb hts ig_Mo hown hK hH F_m9 rfl 40 (by decide) (hts _ mw_820) (fun _ h9 => h9) rfl d_Mo_name_36 ?_
    refine lv_iload_n hx hb d_Mo_name_39 rfl (lv_at hl 1 rfl) ?_
    obtain ⟨g_24, F_A27⟩ := TI_arJ (L := 31) hT (hA 27 (by decide)) rfl rfl
    refine hm_lald hx hb hK hH 3 F_A27 rfl (iIn (by omega) (by omega)) d_Mo_name_40 ?_
    refine lv_topl (fun v_25 e_26 => ?_)
    exact W.lret (v := v_25) hx hb hr (fun t9 ht hW => ⟨v_25, h_21, rfl, ⟨hT, hkf, ⟨(0 : Int32), F_m9, ⟨hsd, hlo, (by omega), ⟨by omega, by omega⟩, ⟨by omega, by omega⟩⟩⟩⟩, by rw [ht]; exact hH, by rw [ht]; exact hz⟩) hLo d_Mo_name_41

set_option maxHeartbeats 4000000 in
set_option maxRecDepth 100000 in
theorem m_read (l : Launch) (D : va_G) (t : Nat → ClassId) (G : hG) (ak av : Nat → Nat) (h : hM) (τ : tM) (n : Nat) (m9 : Nat) (k9 : Int32) (i8 : Int32) (A : Nat → Nat) (th sd lo le wr ma nu di pl se wg op : Int32) (hn : n ≤ 200) (hT : TI τ t n h) (T_m9 : τ m9 = (20, 0)) (F_m9 : h m9 = some (.inr (9, mf A n th sd lo le wr ma nu di pl se wg op))) (hA : ∀ i, i < 28 → τ (A i) = (30, i)) (hmk : mOk sd lo ma se op) (hOp : opQ (aI h (A 25)) (aI h (A 26)) op.toInt.toNat n) : Met l y_Mo_read (.code y_Mo_read b_Mo_read 3 (some .int) :: lw_g) { frames := 1, cells := 0, slots := 0, locals := 22 } (hP (kE D t G ak av) D vwCl G h [.ref m9, .int k9, .int i8]) (hQi D vwCl G (fun r h' => TI τ t n h' ∧ kf τ [] [m9] h h' ∧ (∃ (th' : Int32), h' m9 = some (.inr (9, mf A n th' sd lo le wr ma nu di pl se wg op)) ∧ mOk sd lo ma se op))) 0 0 G.P := by
  refine Met.ofW (cc := b_Mo_read) (maxL := 3) (ret := (some .int)) (by decide) rfl ?_
  intro p e s m args below meth c s₁ Bd hml hv
  obtain ⟨ha, hE, hH⟩ := hv
  have hx := Bd.exec
  have hb := Bd.bytes
  have hr := Bd.returns
  have hts : ∀ w ∈ lw_g, w.before args s = true := fun w hw => atoms_spec (ws := (.code y_Mo_read b_Mo_read 3 (some .int) :: lw_g)) Bd.pre w (List.mem_cons_of_mem _ hw)
  have hown : s.vm.findClass R_Mo = some m.cls := findClass_of_methodNamed Bd.named
  have hlocks := Bd.notSynchronized
  have hK := hE.1
  have hH0 := hH
  have hLo : hLc G.P [] := hLc_nil
  have hz : s.heap.size ≤ s.heap.size := Nat.le_refl _
  have hl := lv_entry [.ref m9, .int k9, .int i8] (n := 3) (Nat.le_of_ble_eq_true rfl)
  rw [show entryFrame m args 3 = F0 m 0 ((lg_sl [.ref m9, .int k9, .int i8] ++ List.replicate (3 - (lg_sl [.ref m9, .int k9, .int i8]).length) Slot.unset).toArray) [] from (by rw [ha]; exact lg_entry_eq m [.ref m9, .int k9, .int i8] 3)]
  generalize (lg_sl [.ref m9, .int k9, .int i8] ++ List.replicate (3 - (lg_sl [.ref m9, .int k9, .int i8]).length) Slot.unset).toArray = ls at hl ⊢
  have hl : lv_has ls 3 [(0, .ref m9), (1, .int k9), (2, .int i8)] := hl
  have hkf : kf τ [] [m9] h h := kf_rf
  obtain ⟨hsd, hlo, hma, hse, hop⟩ := id hmk
  have inI : (nI n).toInt = n := nI_toInt (by omega)
  obtain ⟨g_1, F_A25⟩ := TI_arI (L := 31) hT (hA 25 (by decide)) rfl rfl
  obtain ⟨g_2, F_A26⟩ := TI_arI (L := 31) hT (hA 26 (by decide)) rfl rfl
  rw [aI_of F_A25, aI_of F_A26] at hOp
  refine lv_aload_n hx hb d_Mo_read_0 rfl (lv_at hl 0 rfl) ?_
  refine lv_iload_n hx hb d_Mo_read_1 rfl (lv_at hl 1 rfl) ?_
  refine lv_iconst (v := 0) hx hb d_Mo_read_2 (by decide) ?_
  refine lv_aload_n hx hb d_Mo_read_3 rfl (lv_at hl 0 rfl) ?_
  refine hm_get (ci := 9) (v := .int op) (C := R_Mo) (T := F_Mo) (N := 41) hx hb hts ig_Mo hown hK hH F_m9 rfl 35 (by decide) (hts _ mw_732) (fun _ h9 => h9) rfl d_Mo_read_4 ?_
  refine lv_iconst (v := 1) hx hb d_Mo_read_7 (by decide) ?_
  refine lv_isub hx hb d_Mo_read_8 ?_
  refine lv_topi (fun v_3 e_4 => ?_)
  refine hm_callPi (va_runS (As := [.int k9, .int 0, .int v_3]) (rest := [.ref m9]) ⟨hx, hb, hml, hown, hts⟩ (m_in l D t G ak av h τ n k9 0 v_3    hn hT    ) ⟨cw9B 3 hts mw_582 mw_583 mw_579 rfl rfl (by decide +kernel) ⟨Nat.le_of_ble_eq_true rfl, Nat.le_of_ble_eq_true rfl⟩, hts _ mw_584⟩ (hP_S kE_ok hE hH) rfl rfl hl.1 rfl (lv_room (Nat.le_of_ble_eq_true rfl)) d_Mo_read_9 ⟨Nat.le_of_ble_eq_true rfl, Nat.le_of_ble_eq_true rfl⟩) (fun r_5 h_6 H_7 hp_9  hH z_8 => ?_)
  have hz : s.heap.size ≤ H_7.size := Nat.le_trans hz z_8
  obtain ⟨c_10, xp_11, rfl⟩ := hp_9
  have il_12 : (0 : Int32).toInt = 0 := rfl
  have is_13 : v_3.toInt = op.toInt - 1 := by rw [e_4]; exact iDecS 1 rfl (by decide) (by omega)
  rcases xp_11 with ⟨rfl, ix9⟩ | ⟨rfl, ix9, iy9⟩
  · skip
    refine lv_if_eq (tgt := 44) hx hb d_Mo_read_12 (by decide) (fun hc_14 => ?_) (fun hc_14 => absurd hc_14 (by decide))
    refine lv_iconst (v := 1) hx hb d_Mo_read_44 (by decide) ?_
    refine hm_put (ci := 9) (v := .int 1) (ty := .int) (C := R_Mo) (T := F_Mo) (N := 41) hx hb hts ig_Mo t_Mo tk_Mo nm_Mo hown hK hH hLo F_m9 rfl 0 (by decide) (hts _ mw_594) (fun _ h9 => h9) rfl (by decide +kernel) rfl rfl (Nat.le_of_ble_eq_true rfl) d_Mo_read_45 (fun H_15 locs hH z_16 hLo => ?_)
    have hz : s.heap.size ≤ H_15.size := by rw [z_16]; exact hz
    obtain ⟨h_17, e_18⟩ : ∃ z, z = hu h m9 (.inr (9, mf A n 1 sd lo le wr ma nu di pl se wg op)) := ⟨_, rfl⟩
    have hH : hm D vwCl G h_17 H_15 := by rw [e_18]; exact hH
    have F_A25 : h_17 (A 25) = some (.inl ((t 2), 31, .inl g_1)) := by rw [e_18, hu_n (tne (hA 25 (by decide)) T_m9 (by decide))]; exact F_A25
    have F_A26 : h_17 (A 26) = some (.inl ((t 2), 31, .inl g_2)) := by rw [e_18, hu_n (tne (hA 26 (by decide)) T_m9 (by decide))]; exact F_A26
    have F_m9 : h_17 m9 = some (.inr (9, mf A n 1 sd lo le wr ma nu di pl se wg op)) := by rw [e_18]; exact hu_s _ _ _
    have hT : TI τ t n h_17 := by rw [e_18]; exact TI_put hT T_m9 (by decide) ⟨_, rfl⟩
    have hkf : kf τ [] [m9] h h_17 := by rw [e_18]; exact kf_putM hkf (by simp)
    refine lv_aload_n hx hb d_Mo_read_48 rfl (lv_at hl 0 rfl) ?_
    refine hm_get (ci := 9) (v := .int 1) (C := R_Mo) (T := F_Mo) (N := 41) hx hb hts ig_Mo hown hK hH F_m9 rfl 0 (by decide) (hts _ mw_594) (fun _ h9 => h9) rfl d_Mo_read_49 ?_
    refine lv_iconst (v := 1) hx hb d_Mo_read_52 (by decide) ?_
    refine lv_icmp_ne (tgt := 60) hx hb d_Mo_read_53 (by decide) (fun hc_19 => absurd hc_19 (by decide)) (fun hc_19 => ?_)
    refine lv_iconst (v := 0) hx hb d_Mo_read_56 (by decide) ?_
    refine lv_goto (tgt := 76) hx hb d_Mo_read_57 (by decide) ?_
    exact W.iret (v := 0) hx hb hr (fun t9 ht hW => ⟨0, h_17, rfl, ⟨hT, hkf, ⟨(1 : Int32), F_m9, ⟨hsd, hlo, (by omega), ⟨by omega, by omega⟩, ⟨by omega, by omega⟩⟩⟩⟩, by rw [ht]; exact hH, by rw [ht]; exact hz⟩) hLo d_Mo_read_76
  · skip
    refine lv_if_eq (tgt := 44) hx hb d_Mo_read_12 (by decide) (fun hc_20 => absurd hc_20 (by decide)) (fun hc_20 => ?_)
    refine lv_aload_n hx hb d_Mo_read_15 rfl (lv_at hl 0 rfl) ?_
    refine hm_get (ci := 9) (v := .ref (A 24)) (C := R_Mo) (T := F_Mo) (N := 41) hx hb hts ig_Mo hown hK hH F_m9 rfl 37 (by decide) (hts _ mw_817) (fun _ h9 => h9) rfl d_Mo_read_16 ?_
    refine lv_iload_n hx hb d_Mo_read_19 rfl (lv_at hl 1 rfl) ?_
    obtain ⟨g_21, F_A24, c_22⟩ := TI_arZ (L := 31) hT (hA 24 (by decide)) rfl rfl
    refine hm_zald hx hb hK hH 1 F_A24 rfl (iIn (by omega) (by omega)) d_Mo_read_20 ?_
    refine lv_topi (fun v_23 e_24 => ?_)
    have c_25 : zb v_23 := by rw [e_24]; exact c_22 _
    refine lv_if_ne (tgt := 44) hx hb d_Mo_read_21 (by decide) (fun hc_26 => ?_) (fun hc_26 => ?_)
    · skip
      refine lv_iconst (v := 1) hx hb d_Mo_read_44 (by decide) ?_
      refine hm_put (ci := 9) (v := .int 1) (ty := .int) (C := R_Mo) (T := F_Mo) (N := 41) hx hb hts ig_Mo t_Mo tk_Mo nm_Mo hown hK hH hLo F_m9 rfl 0 (by decide) (hts _ mw_594) (fun _ h9 => h9) rfl (by decide +kernel) rfl rfl (Nat.le_of_ble_eq_true rfl) d_Mo_read_45 (fun H_27 locs hH z_28 hLo => ?_)
      have hz : s.heap.size ≤ H_27.size := by rw [z_28]; exact hz
      obtain ⟨h_29, e_30⟩ : ∃ z, z = hu h m9 (.inr (9, mf A n 1 sd lo le wr ma nu di pl se wg op)) := ⟨_, rfl⟩
      have hH : hm D vwCl G h_29 H_27 := by rw [e_30]; exact hH
      have F_A25 : h_29 (A 25) = some (.inl ((t 2), 31, .inl g_1)) := by rw [e_30, hu_n (tne (hA 25 (by decide)) T_m9 (by decide))]; exact F_A25
      have F_A26 : h_29 (A 26) = some (.inl ((t 2), 31, .inl g_2)) := by rw [e_30, hu_n (tne (hA 26 (by decide)) T_m9 (by decide))]; exact F_A26
      have F_A24 : h_29 (A 24) = some (.inl ((t 1), 31, .inl g_21)) := by rw [e_30, hu_n (tne (hA 24 (by decide)) T_m9 (by decide))]; exact F_A24
      have F_m9 : h_29 m9 = some (.inr (9, mf A n 1 sd lo le wr ma nu di pl se wg op)) := by rw [e_30]; exact hu_s _ _ _
      have hT : TI τ t n h_29 := by rw [e_30]; exact TI_put hT T_m9 (by decide) ⟨_, rfl⟩
      have hkf : kf τ [] [m9] h h_29 := by rw [e_30]; exact kf_putM hkf (by simp)
      refine lv_aload_n hx hb d_Mo_read_48 rfl (lv_at hl 0 rfl) ?_
      refine hm_get (ci := 9) (v := .int 1) (C := R_Mo) (T := F_Mo) (N := 41) hx hb hts ig_Mo hown hK hH F_m9 rfl 0 (by decide) (hts _ mw_594) (fun _ h9 => h9) rfl d_Mo_read_49 ?_
      refine lv_iconst (v := 1) hx hb d_Mo_read_52 (by decide) ?_
      refine lv_icmp_ne (tgt := 60) hx hb d_Mo_read_53 (by decide) (fun hc_31 => absurd hc_31 (by decide)) (fun hc_31 => ?_)
      refine lv_iconst (v := 0) hx hb d_Mo_read_56 (by decide) ?_
      refine lv_goto (tgt := 76) hx hb d_Mo_read_57 (by decide) ?_
      exact W.iret (v := 0) hx hb hr (fun t9 ht hW => ⟨0, h_29, rfl, ⟨hT, hkf, ⟨(1 : Int32), F_m9, ⟨hsd, hlo, (by omega), ⟨by omega, by omega⟩, ⟨by omega, by omega⟩⟩⟩⟩, by rw [ht]; exact hH, by rw [ht]; exact hz⟩) hLo d_Mo_read_76
    · skip
      have ic_32 : v_23.toInt = 0 := congrArg Int32.toInt hc_26
      refine lv_iload_n hx hb d_Mo_read_24 rfl (lv_at hl 2 rfl) ?_
      refine lv_iconst (v := 0) hx hb d_Mo_read_25 (by decide) ?_
      refine lv_aload_n hx hb d_Mo_read_26 rfl (lv_at hl 0 rfl) ?_
      refine hm_get (ci := 9) (v := .ref (A 25)) (C := R_Mo) (T := F_Mo) (N := 41) hx hb hts ig_Mo hown hK hH F_m9 rfl 38 (by decide) (hts _ mw_818) (fun _ h9 => h9) rfl d_Mo_read_27 ?_
      refine lv_iload_n hx hb d_Mo_read_30 rfl (lv_at hl 1 rfl) ?_
      refine hm_iald hx hb hK hH 2 F_A25 rfl (iIn (by omega) (by omega)) d_Mo_read_31 ?_
      refine lv_topi (fun v_33 e_34 => ?_)
      have hok := opQ_at (d := k9) hOp (by omega) (by omega)
      rw [← clN, ← e_34] at hok
      refine lv_iconst (v := 1) hx hb d_Mo_read_32 (by decide) ?_
      refine lv_isub hx hb d_Mo_read_33 ?_
      refine lv_topi (fun v_35 e_36 => ?_)
      refine hm_callPi (va_runS (As := [.int i8, .int 0, .int v_35]) (rest := [.ref m9]) ⟨hx, hb, hml, hown, hts⟩ (m_in l D t G ak av h τ n i8 0 v_35    hn hT    ) ⟨cw9B 3 hts mw_582 mw_583 mw_579 rfl rfl (by decide +kernel) ⟨Nat.le_of_ble_eq_true rfl, Nat.le_of_ble_eq_true rfl⟩, hts _ mw_584⟩ (hP_S kE_ok hE hH) rfl rfl hl.1 rfl (lv_room (Nat.le_of_ble_eq_true rfl)) d_Mo_read_34 ⟨Nat.le_of_ble_eq_true rfl, Nat.le_of_ble_eq_true rfl⟩) (fun r_37 h_38 H_39 hp_41  hH z_40 => ?_)
      have hz : s.heap.size ≤ H_39.size := Nat.le_trans hz z_40
      obtain ⟨c_42, xp_43, rfl⟩ := hp_41
      have il_44 : (0 : Int32).toInt = 0 := rfl
      have is_45 : v_35.toInt = v_33.toInt - 1 := by rw [e_36]; exact iDecS 1 rfl (by decide) (by omega)
      rcases xp_43 with ⟨rfl, ix9⟩ | ⟨rfl, ix9, iy9⟩
      · skip
        refine lv_if_eq (tgt := 44) hx hb d_Mo_read_37 (by decide) (fun hc_46 => ?_) (fun hc_46 => absurd hc_46 (by decide))
        refine lv_iconst (v := 1) hx hb d_Mo_read_44 (by decide) ?_
        refine hm_put (ci := 9) (v := .int 1) (ty := .int) (C := R_Mo) (T := F_Mo) (N := 41) hx hb hts ig_Mo t_Mo tk_Mo nm_Mo hown hK hH hLo F_m9 rfl 0 (by decide) (hts _ mw_594) (fun _ h9 => h9) rfl (by decide +kernel) rfl rfl (Nat.le_of_ble_eq_true rfl) d_Mo_read_45 (fun H_47 locs hH z_48 hLo => ?_)
        have hz : s.heap.size ≤ H_47.size := by rw [z_48]; exact hz
        obtain ⟨h_49, e_50⟩ : ∃ z, z = hu h m9 (.inr (9, mf A n 1 sd lo le wr ma nu di pl se wg op)) := ⟨_, rfl⟩
        have hH : hm D vwCl G h_49 H_47 := by rw [e_50]; exact hH
        have F_A25 : h_49 (A 25) = some (.inl ((t 2), 31, .inl g_1)) := by rw [e_50, hu_n (tne (hA 25 (by decide)) T_m9 (by decide))]; exact F_A25
        have F_A26 : h_49 (A 26) = some (.inl ((t 2), 31, .inl g_2)) := by rw [e_50, hu_n (tne (hA 26 (by decide)) T_m9 (by decide))]; exact F_A26
        have F_A24 : h_49 (A 24) = some (.inl ((t 1), 31, .inl g_21)) := by rw [e_50, hu_n (tne (hA 24 (by decide)) T_m9 (by decide))]; exact F_A24
        have F_m9 : h_49 m9 = some (.inr (9, mf A n 1 sd lo le wr ma nu di pl se wg op)) := by rw [e_50]; exact hu_s _ _ _
        have hT : TI τ t n h_49 := by rw [e_50]; exact TI_put hT T_m9 (by decide) ⟨_, rfl⟩
        have hkf : kf τ [] [m9] h h_49 := by rw [e_50]; exact kf_putM hkf (by simp)
        refine lv_aload_n hx hb d_Mo_read_48 rfl (lv_at hl 0 rfl) ?_
        refine hm_get (ci := 9) (v := .int 1) (C := R_Mo) (T := F_Mo) (N := 41) hx hb hts ig_Mo hown hK hH F_m9 rfl 0 (by decide) (hts _ mw_594) (fun _ h9 => h9) rfl d_Mo_read_49 ?_
        refine lv_iconst (v := 1) hx hb d_Mo_read_52 (by decide) ?_
        refine lv_icmp_ne (tgt := 60) hx hb d_Mo_read_53 (by decide) (fun hc_51 => absurd hc_51 (by decide)) (fun hc_51 => ?_)
        refine lv_iconst (v := 0) hx hb d_Mo_read_56 (by decide) ?_
        refine lv_goto (tgt := 76) hx hb d_Mo_read_57 (by decide) ?_
        exact W.iret (v := 0) hx hb hr (fun t9 ht hW => ⟨0, h_49, rfl, ⟨hT, hkf, ⟨(1 : Int32), F_m9, ⟨hsd, hlo, (by omega), ⟨by omega, by omega⟩, ⟨by omega, by omega⟩⟩⟩⟩, by rw [ht]; exact hH, by rw [ht]; exact hz⟩) hLo d_Mo_read_76
      · skip
        refine lv_if_eq (tgt := 44) hx hb d_Mo_read_37 (by decide) (fun hc_52 => absurd hc_52 (by decide)) (fun hc_52 => ?_)
        refine lv_iconst (v := 0) hx hb d_Mo_read_40 (by decide) ?_
        refine lv_goto (tgt := 45) hx hb d_Mo_read_41 (by decide) ?_
        refine hm_put (ci := 9) (v := .int 0) (ty := .int) (C := R_Mo) (T := F_Mo) (N := 41) hx hb hts ig_Mo t_Mo tk_Mo nm_Mo hown hK hH hLo F_m9 rfl 0 (by decide) (hts _ mw_594) (fun _ h9 => h9) rfl (by decide +kernel) rfl rfl (Nat.le_of_ble_eq_true rfl) d_Mo_read_45 (fun H_53 locs hH z_54 hLo => ?_)
        have hz : s.heap.size ≤ H_53.size := by rw [z_54]; exact hz
        obtain ⟨h_55, e_56⟩ : ∃ z, z = hu h m9 (.inr (9, mf A n 0 sd lo le wr ma nu di pl se wg op)) := ⟨_, rfl⟩
        have hH : hm D vwCl G h_55 H_53 := by rw [e_56]; exact hH
        have F_A25 : h_55 (A 25) = some (.inl ((t 2), 31, .inl g_1)) := by rw [e_56, hu_n (tne (hA 25 (by decide)) T_m9 (by decide))]; exact F_A25
        have F_A26 : h_55 (A 26) = some (.inl ((t 2), 31, .inl g_2)) := by rw [e_56, hu_n (tne (hA 26 (by decide)) T_m9 (by decide))]; exact F_A26
        have F_A24 : h_55 (A 24) = some (.inl ((t 1), 31, .inl g_21)) := by rw [e_56, hu_n (tne (hA 24 (by decide)) T_m9 (by decide))]; exact F_A24
        have F_m9 : h_55 m9 = some (.inr (9, mf A n 0 sd lo le wr ma nu di pl se wg op)) := by rw [e_56]; exact hu_s _ _ _
        have hT : TI τ t n h_55 := by rw [e_56]; exact TI_put hT T_m9 (by decide) ⟨_, rfl⟩
        have hkf : kf τ [] [m9] h h_55 := by rw [e_56]; exact kf_putM hkf (by simp)
        refine lv_aload_n hx hb d_Mo_read_48 rfl (lv_at hl 0 rfl) ?_
        refine hm_get (ci := 9) (v := .int 0) (C := R_Mo) (T := F_Mo) (N := 41) hx hb hts ig_Mo hown hK hH F_m9 rfl 0 (by decide) (hts _ mw_594) (fun _ h9 => h9) rfl d_Mo_read_49 ?_
        refine lv_iconst (v := 1) hx hb d_Mo_read_52 (by decide) ?_
        refine lv_icmp_ne (tgt := 60) hx hb d_Mo_read_53 (by decide) (fun hc_57 => ?_) (fun hc_57 => absurd hc_57 (by decide))
        refine lv_aload_n hx hb d_Mo_read_60 rfl (lv_at hl 0 rfl) ?_
        refine lv_sipush (v := 2048) hx hb d_Mo_read_61 (by decide) ?_
        refine lv_aload_n hx hb d_Mo_read_64 rfl (lv_at hl 0 rfl) ?_
        refine hm_get (ci := 9) (v := .ref (A 26)) (C := R_Mo) (T := F_Mo) (N := 41) hx hb hts ig_Mo hown hK hH F_m9 rfl 39 (by decide) (hts _ mw_819) (fun _ h9 => h9) rfl d_Mo_read_65 ?_
        refine lv_iload_n hx hb d_Mo_read_68 rfl (lv_at hl 1 rfl) ?_
        refine hm_iald hx hb hK hH 2 F_A26 rfl (iIn (by omega) (by omega)) d_Mo_read_69 ?_
        refine lv_topi (fun v_58 e_59 => ?_)
        rw [← e_59] at hok
        refine lv_imul hx hb d_Mo_read_70 ?_
        refine lv_topi (fun v_60 e_61 => ?_)
        refine lv_iload_n hx hb d_Mo_read_71 rfl (lv_at hl 2 rfl) ?_
        refine lv_iadd hx hb d_Mo_read_72 ?_
        refine lv_topi (fun v_62 e_63 => ?_)
        have is_64 : v_60.toInt = 2048 * v_58.toInt := by rw [e_61]; exact iMulL 2048 rfl (by omega) (by omega)
        have is_65 : v_62.toInt = v_60.toInt + i8.toInt := by rw [e_63]; exact iAdd (by omega) (by omega)
        refine hm_callPi (va_runV (As := [.int v_62]) (b := m9) (rest := []) ⟨hx, hb, hml, hown, hts⟩ (m_get l D t G ak av h_55 τ n m9 v_62 A (0 : Int32) sd lo le wr ma nu di pl se wg op   hn hT T_m9  F_m9 hA ⟨hsd, hlo, (by omega), ⟨by omega, by omega⟩, ⟨by omega, by omega⟩⟩ (by omega) (by omega)) ⟨cw9B 1 hts mw_698 mw_699 mw_579 rfl rfl (by decide +kernel) ⟨Nat.le_of_ble_eq_true rfl, Nat.le_of_ble_eq_true rfl⟩, hts _ mw_700, hts _ mw_701⟩ (hP_V (q := (R_Mo, F_Mo, 41)) kE_ok hE hK hH F_m9 rfl) rfl rfl hl.1 rfl (lv_room (Nat.le_of_ble_eq_true rfl)) d_Mo_read_73 ⟨Nat.le_of_ble_eq_true rfl, Nat.le_of_ble_eq_true rfl⟩) (fun r_66 h_67 H_68 hp_70  hH z_69 => ?_)
        have hz : s.heap.size ≤ H_68.size := Nat.le_trans hz z_69
        obtain ⟨xp_71, rfl⟩ := hp_70
        obtain ⟨ia_72, eg_73⟩ := xp_71
        exact W.iret (v := r_66) hx hb hr (fun t9 ht hW => ⟨r_66, h_55, rfl, ⟨hT, hkf, ⟨(0 : Int32), F_m9, ⟨hsd, hlo, (by omega), ⟨by omega, by omega⟩, ⟨by omega, by omega⟩⟩⟩⟩, by rw [ht]; exact hH, by rw [ht]; exact hz⟩) hLo d_Mo_read_76

set_option maxHeartbeats 4000000 in
set_option maxRecDepth 100000 in
theorem m_state (l : Launch) (D : va_G) (t : Nat → ClassId) (G : hG) (ak av : Nat → Nat) (h : hM) (τ : tM) (n : Nat) (m9 : Nat) (s9 : Int32) (A : Nat → Nat) (th sd lo le wr ma nu di pl se wg op : Int32) (hn : n ≤ 200) (hT : TI τ t n h) (T_m9 : τ m9 = (20, 0)) (F_m9 : h m9 = some (.inr (9, mf A n th sd lo le wr ma nu di pl se wg op))) (hA : ∀ i, i < 28 → τ (A i) = (30, i)) (hmk : mOk sd lo ma se op) : Met l y_Mo_state (.code y_Mo_state b_Mo_state 2 (some .int) :: lw_g) { frames := 1, cells := 0, slots := 0, locals := 22 } (hP (kE D t G ak av) D vwCl G h [.ref m9, .int s9]) (hQi D vwCl G (fun r h' => TI τ t n h' ∧ kf τ [] [m9] h h' ∧ (∃ (th' : Int32), h' m9 = some (.inr (9, mf A n th' sd lo le wr ma nu di pl se wg op)) ∧ mOk sd lo ma se op))) 0 0 G.P := by
  refine Met.ofW (cc := b_Mo_state) (maxL := 2) (ret := (some .int)) (by decide) rfl ?_
  intro p e s m args below meth c s₁ Bd hml hv
  obtain ⟨ha, hE, hH⟩ := hv
  have hx := Bd.exec
  have hb := Bd.bytes
  have hr := Bd.returns
  have hts : ∀ w ∈ lw_g, w.before args s = true := fun w hw => atoms_spec (ws := (.code y_Mo_state b_Mo_state 2 (some .int) :: lw_g)) Bd.pre w (List.mem_cons_of_mem _ hw)
  have hown : s.vm.findClass R_Mo = some m.cls := findClass_of_methodNamed Bd.named
  have hlocks := Bd.notSynchronized
  have hK := hE.1
  have hH0 := hH
  have hLo : hLc G.P [] := hLc_nil
  have hz : s.heap.size ≤ s.heap.size := Nat.le_refl _
  have hl := lv_entry [.ref m9, .int s9] (n := 2) (Nat.le_of_ble_eq_true rfl)
  rw [show entryFrame m args 2 = F0 m 0 ((lg_sl [.ref m9, .int s9] ++ List.replicate (2 - (lg_sl [.ref m9, .int s9]).length) Slot.unset).toArray) [] from (by rw [ha]; exact lg_entry_eq m [.ref m9, .int s9] 2)]
  generalize (lg_sl [.ref m9, .int s9] ++ List.replicate (2 - (lg_sl [.ref m9, .int s9]).length) Slot.unset).toArray = ls at hl ⊢
  have hl : lv_has ls 2 [(0, .ref m9), (1, .int s9)] := hl
  have hkf : kf τ [] [m9] h h := kf_rf
  obtain ⟨hsd, hlo, hma, hse, hop⟩ := id hmk
  have inI : (nI n).toInt = n := nI_toInt (by omega)
  refine lv_aload_n hx hb d_Mo_state_0 rfl (lv_at hl 0 rfl) ?_
  refine lv_iconst (v := 0) hx hb d_Mo_state_1 (by decide) ?_
  refine hm_put (ci := 9) (v := .int 0) (ty := .int) (C := R_Mo) (T := F_Mo) (N := 41) hx hb hts ig_Mo t_Mo tk_Mo nm_Mo hown hK hH hLo F_m9 rfl 0 (by decide) (hts _ mw_594) (fun _ h9 => h9) rfl (by decide +kernel) rfl rfl (Nat.le_of_ble_eq_true rfl) d_Mo_state_2 (fun H_1 locs hH z_2 hLo => ?_)
  have hz : s.heap.size ≤ H_1.size := by rw [z_2]; exact hz
  obtain ⟨h_3, e_4⟩ : ∃ z, z = hu h m9 (.inr (9, mf A n 0 sd lo le wr ma nu di pl se wg op)) := ⟨_, rfl⟩
  have hH : hm D vwCl G h_3 H_1 := by rw [e_4]; exact hH
  have F_m9 : h_3 m9 = some (.inr (9, mf A n 0 sd lo le wr ma nu di pl se wg op)) := by rw [e_4]; exact hu_s _ _ _
  have hT : TI τ t n h_3 := by rw [e_4]; exact TI_put hT T_m9 (by decide) ⟨_, rfl⟩
  have hkf : kf τ [] [m9] h h_3 := by rw [e_4]; exact kf_putM hkf (by simp)
  refine lv_iload_n hx hb d_Mo_state_5 rfl (lv_at hl 1 rfl) ?_
  refine lv_iconst (v := 0) hx hb d_Mo_state_6 (by decide) ?_
  refine lv_aload_n hx hb d_Mo_state_7 rfl (lv_at hl 0 rfl) ?_
  refine hm_get (ci := 9) (v := .int (nI n)) (C := R_Mo) (T := F_Mo) (N := 41) hx hb hts ig_Mo hown hK hH F_m9 rfl 1 (by decide) (hts _ mw_587) (fun _ h9 => h9) rfl d_Mo_state_8 ?_
  refine lv_iconst (v := 1) hx hb d_Mo_state_11 (by decide) ?_
  refine lv_isub hx hb d_Mo_state_12 ?_
  refine lv_topi (fun v_5 e_6 => ?_)
  refine hm_callPi (va_runS (As := [.int s9, .int 0, .int v_5]) (rest := []) ⟨hx, hb, hml, hown, hts⟩ (m_in l D t G ak av h_3 τ n s9 0 v_5    hn hT    ) ⟨cw9B 3 hts mw_582 mw_583 mw_579 rfl rfl (by decide +kernel) ⟨Nat.le_of_ble_eq_true rfl, Nat.le_of_ble_eq_true rfl⟩, hts _ mw_584⟩ (hP_S kE_ok hE hH) rfl rfl hl.1 rfl (lv_room (Nat.le_of_ble_eq_true rfl)) d_Mo_state_13 ⟨Nat.le_of_ble_eq_true rfl, Nat.le_of_ble_eq_true rfl⟩) (fun r_7 h_8 H_9 hp_11  hH z_10 => ?_)
  have hz : s.heap.size ≤ H_9.size := Nat.le_trans hz z_10
  obtain ⟨c_12, xp_13, rfl⟩ := hp_11
  have il_14 : (0 : Int32).toInt = 0 := rfl
  have is_15 : v_5.toInt = (nI n).toInt - 1 := by rw [e_6]; exact iDecS 1 rfl (by decide) (by omega)
  rcases xp_13 with ⟨rfl, ix9⟩ | ⟨rfl, ix9, iy9⟩
  · skip
    refine lv_if_eq (tgt := 33) hx hb d_Mo_state_16 (by decide) (fun hc_16 => ?_) (fun hc_16 => absurd hc_16 (by decide))
    refine lv_iconst (v := -1) hx hb d_Mo_state_33 (by decide) ?_
    exact W.iret (v := (-1)) hx hb hr (fun t9 ht hW => ⟨(-1), h_3, rfl, ⟨hT, hkf, ⟨(0 : Int32), F_m9, ⟨hsd, hlo, (by omega), ⟨by omega, by omega⟩, ⟨by omega, by omega⟩⟩⟩⟩, by rw [ht]; exact hH, by rw [ht]; exact hz⟩) hLo d_Mo_state_34
  · skip
    refine lv_if_eq (tgt := 33) hx hb d_Mo_state_16 (by decide) (fun hc_17 => absurd hc_17 (by decide)) (fun hc_17 => ?_)
    refine lv_aload_n hx hb d_Mo_state_19 rfl (lv_at hl 0 rfl) ?_
    refine hm_get (ci := 9) (v := .ref (A 1)) (C := R_Mo) (T := F_Mo) (N := 41) hx hb hts ig_Mo hown hK hH F_m9 rfl 4 (by decide) (hts _ mw_588) (fun _ h9 => h9) rfl d_Mo_state_20 ?_
    refine lv_aload_n hx hb d_Mo_state_23 rfl (lv_at hl 0 rfl) ?_
    refine hm_get (ci := 9) (v := .int sd) (C := R_Mo) (T := F_Mo) (N := 41) hx hb hts ig_Mo hown hK hH F_m9 rfl 2 (by decide) (hts _ mw_586) (fun _ h9 => h9) rfl d_Mo_state_24 ?_
    refine lv_iload_n hx hb d_Mo_state_27 rfl (lv_at hl 1 rfl) ?_
    refine lv_iadd hx hb d_Mo_state_28 ?_
    refine lv_topi (fun v_18 e_19 => ?_)
    obtain ⟨g_20, F_A1, c_21⟩ := TI_arB (L := 400) hT (hA 1 (by decide)) rfl rfl
    have is_22 : v_18.toInt = sd.toInt + s9.toInt := by rw [e_19]; exact iAdd (by omega) (by omega)
    refine hm_bald hx hb hK hH 0 F_A1 rfl (iIn (by omega) (by omega)) d_Mo_state_29 ?_
    refine lv_topi (fun v_23 e_24 => ?_)
    refine lv_goto (tgt := 34) hx hb d_Mo_state_30 (by decide) ?_
    exact W.iret (v := v_23) hx hb hr (fun t9 ht hW => ⟨v_23, h_3, rfl, ⟨hT, hkf, ⟨(0 : Int32), F_m9, ⟨hsd, hlo, (by omega), ⟨by omega, by omega⟩, ⟨by omega, by omega⟩⟩⟩⟩, by rw [ht]; exact hH, by rw [ht]; exact hz⟩) hLo d_Mo_state_34

set_option maxHeartbeats 4000000 in
set_option maxRecDepth 100000 in
theorem m_byteAt (l : Launch) (D : va_G) (t : Nat → ClassId) (G : hG) (ak av : Nat → Nat) (h : hM) (τ : tM) (n : Nat) (m9 : Nat) (p9 : Int32) (A : Nat → Nat) (th sd lo le wr ma nu di pl se wg op : Int32) (hn : n ≤ 200) (hT : TI τ t n h) (T_m9 : τ m9 = (20, 0)) (F_m9 : h m9 = some (.inr (9, mf A n th sd lo le wr ma nu di pl se wg op))) (hA : ∀ i, i < 28 → τ (A i) = (30, i)) (hmk : mOk sd lo ma se op) : Met l y_Mo_byteAt (.code y_Mo_byteAt b_Mo_byteAt 2 (some .int) :: lw_g) { frames := 1, cells := 0, slots := 0, locals := 22 } (hP (kE D t G ak av) D vwCl G h [.ref m9, .int p9]) (hQi D vwCl G (fun r h' => TI τ t n h' ∧ kf τ [] [m9] h h' ∧ (∃ (th' : Int32), h' m9 = some (.inr (9, mf A n th' sd lo le wr ma nu di pl se wg op)) ∧ mOk sd lo ma se op))) 0 0 G.P := by
  refine Met.ofW (cc := b_Mo_byteAt) (maxL := 2) (ret := (some .int)) (by decide) rfl ?_
  intro p e s m args below meth c s₁ Bd hml hv
  obtain ⟨ha, hE, hH⟩ := hv
  have hx := Bd.exec
  have hb := Bd.bytes
  have hr := Bd.returns
  have hts : ∀ w ∈ lw_g, w.before args s = true := fun w hw => atoms_spec (ws := (.code y_Mo_byteAt b_Mo_byteAt 2 (some .int) :: lw_g)) Bd.pre w (List.mem_cons_of_mem _ hw)
  have hown : s.vm.findClass R_Mo = some m.cls := findClass_of_methodNamed Bd.named
  have hlocks := Bd.notSynchronized
  have hK := hE.1
  have hH0 := hH
  have hLo : hLc G.P [] := hLc_nil
  have hz : s.heap.size ≤ s.heap.size := Nat.le_refl _
  have hl := lv_entry [.ref m9, .int p9] (n := 2) (Nat.le_of_ble_eq_true rfl)
  rw [show entryFrame m args 2 = F0 m 0 ((lg_sl [.ref m9, .int p9] ++ List.replicate (2 - (lg_sl [.ref m9, .int p9]).length) Slot.unset).toArray) [] from (by rw [ha]; exact lg_entry_eq m [.ref m9, .int p9] 2)]
  generalize (lg_sl [.ref m9, .int p9] ++ List.replicate (2 - (lg_sl [.ref m9, .int p9]).length) Slot.unset).toArray = ls at hl ⊢
  have hl : lv_has ls 2 [(0, .ref m9), (1, .int p9)] := hl
  have hkf : kf τ [] [m9] h h := kf_rf
  obtain ⟨hsd, hlo, hma, hse, hop⟩ := id hmk
  have inI : (nI n).toInt = n := nI_toInt (by omega)
  refine lv_aload_n hx hb d_Mo_byteAt_0 rfl (lv_at hl 0 rfl) ?_
  refine lv_iconst (v := 0) hx hb d_Mo_byteAt_1 (by decide) ?_
  refine hm_put (ci := 9) (v := .int 0) (ty := .int) (C := R_Mo) (T := F_Mo) (N := 41) hx hb hts ig_Mo t_Mo tk_Mo nm_Mo hown hK hH hLo F_m9 rfl 0 (by decide) (hts _ mw_594) (fun _ h9 => h9) rfl (by decide +kernel) rfl rfl (Nat.le_of_ble_eq_true rfl) d_Mo_byteAt_2 (fun H_1 locs hH z_2 hLo => ?_)
  have hz : s.heap.size ≤ H_1.size := by rw [z_2]; exact hz
  obtain ⟨h_3, e_4⟩ : ∃ z, z = hu h m9 (.inr (9, mf A n 0 sd lo le wr ma nu di pl se wg op)) := ⟨_, rfl⟩
  have hH : hm D vwCl G h_3 H_1 := by rw [e_4]; exact hH
  have F_m9 : h_3 m9 = some (.inr (9, mf A n 0 sd lo le wr ma nu di pl se wg op)) := by rw [e_4]; exact hu_s _ _ _
  have hT : TI τ t n h_3 := by rw [e_4]; exact TI_put hT T_m9 (by decide) ⟨_, rfl⟩
  have hkf : kf τ [] [m9] h h_3 := by rw [e_4]; exact kf_putM hkf (by simp)
  refine lv_iload_n hx hb d_Mo_byteAt_5 rfl (lv_at hl 1 rfl) ?_
  refine lv_iconst (v := 0) hx hb d_Mo_byteAt_6 (by decide) ?_
  refine lv_sipush (v := 2048) hx hb d_Mo_byteAt_7 (by decide) ?_
  refine lv_aload_n hx hb d_Mo_byteAt_10 rfl (lv_at hl 0 rfl) ?_
  refine hm_get (ci := 9) (v := .int (nI n)) (C := R_Mo) (T := F_Mo) (N := 41) hx hb hts ig_Mo hown hK hH F_m9 rfl 1 (by decide) (hts _ mw_587) (fun _ h9 => h9) rfl d_Mo_byteAt_11 ?_
  refine lv_imul hx hb d_Mo_byteAt_14 ?_
  refine lv_topi (fun v_5 e_6 => ?_)
  refine lv_iconst (v := 1) hx hb d_Mo_byteAt_15 (by decide) ?_
  refine lv_isub hx hb d_Mo_byteAt_16 ?_
  refine lv_topi (fun v_7 e_8 => ?_)
  refine hm_callPi (va_runS (As := [.int p9, .int 0, .int v_7]) (rest := []) ⟨hx, hb, hml, hown, hts⟩ (m_in l D t G ak av h_3 τ n p9 0 v_7    hn hT    ) ⟨cw9B 3 hts mw_582 mw_583 mw_579 rfl rfl (by decide +kernel) ⟨Nat.le_of_ble_eq_true rfl, Nat.le_of_ble_eq_true rfl⟩, hts _ mw_584⟩ (hP_S kE_ok hE hH) rfl rfl hl.1 rfl (lv_room (Nat.le_of_ble_eq_true rfl)) d_Mo_byteAt_17 ⟨Nat.le_of_ble_eq_true rfl, Nat.le_of_ble_eq_true rfl⟩) (fun r_9 h_10 H_11 hp_13  hH z_12 => ?_)
  have hz : s.heap.size ≤ H_11.size := Nat.le_trans hz z_12
  obtain ⟨c_14, xp_15, rfl⟩ := hp_13
  have il_16 : (0 : Int32).toInt = 0 := rfl
  have is_17 : v_5.toInt = 2048 * (nI n).toInt := by rw [e_6]; exact iMulL 2048 rfl (by omega) (by omega)
  have is_18 : v_7.toInt = v_5.toInt - 1 := by rw [e_8]; exact iDecS 1 rfl (by decide) (by omega)
  rcases xp_15 with ⟨rfl, ix9⟩ | ⟨rfl, ix9, iy9⟩
  · skip
    refine lv_if_eq (tgt := 31) hx hb d_Mo_byteAt_20 (by decide) (fun hc_19 => ?_) (fun hc_19 => absurd hc_19 (by decide))
    refine lv_iconst (v := -1) hx hb d_Mo_byteAt_31 (by decide) ?_
    exact W.iret (v := (-1)) hx hb hr (fun t9 ht hW => ⟨(-1), h_3, rfl, ⟨hT, hkf, ⟨(0 : Int32), F_m9, ⟨hsd, hlo, (by omega), ⟨by omega, by omega⟩, ⟨by omega, by omega⟩⟩⟩⟩, by rw [ht]; exact hH, by rw [ht]; exact hz⟩) hLo d_Mo_byteAt_32
  · skip
    refine lv_if_eq (tgt := 31) hx hb d_Mo_byteAt_20 (by decide) (fun hc_20 => absurd hc_20 (by decide)) (fun hc_20 => ?_)
    refine lv_aload_n hx hb d_Mo_byteAt_23 rfl (lv_at hl 0 rfl) ?_
    refine lv_iload_n hx hb d_Mo_byteAt_24 rfl (lv_at hl 1 rfl) ?_
    refine hm_callPi (va_runV (As := [.int p9]) (b := m9) (rest := []) ⟨hx, hb, hml, hown, hts⟩ (m_get l D t G ak av h_3 τ n m9 p9 A (0 : Int32) sd lo le wr ma nu di pl se wg op   hn hT T_m9  F_m9 hA ⟨hsd, hlo, (by omega), ⟨by omega, by omega⟩, ⟨by omega, by omega⟩⟩ (by omega) (by omega)) ⟨cw9B 1 hts mw_698 mw_699 mw_579 rfl rfl (by decide +kernel) ⟨Nat.le_of_ble_eq_true rfl, Nat.le_of_ble_eq_true rfl⟩, hts _ mw_700, hts _ mw_701⟩ (hP_V (q := (R_Mo, F_Mo, 41)) kE_ok hE hK hH F_m9 rfl) rfl rfl hl.1 rfl (lv_room (Nat.le_of_ble_eq_true rfl)) d_Mo_byteAt_25 ⟨Nat.le_of_ble_eq_true rfl, Nat.le_of_ble_eq_true rfl⟩) (fun r_21 h_22 H_23 hp_25  hH z_24 => ?_)
    have hz : s.heap.size ≤ H_23.size := Nat.le_trans hz z_24
    obtain ⟨xp_26, rfl⟩ := hp_25
    obtain ⟨ia_27, eg_28⟩ := xp_26
    refine lv_goto (tgt := 32) hx hb d_Mo_byteAt_28 (by decide) ?_
    exact W.iret (v := r_21) hx hb hr (fun t9 ht hW => ⟨r_21, h_3, rfl, ⟨hT, hkf, ⟨(0 : Int32), F_m9, ⟨hsd, hlo, (by omega), ⟨by omega, by omega⟩, ⟨by omega, by omega⟩⟩⟩⟩, by rw [ht]; exact hH, by rw [ht]; exact hz⟩) hLo d_Mo_byteAt_32

set_option maxHeartbeats 4000000 in
set_option maxRecDepth 100000 in
theorem m_spoil (l : Launch) (D : va_G) (t : Nat → ClassId) (G : hG) (ak av : Nat → Nat) (h : hM) (τ : tM) (n : Nat) (m9 : Nat) (p9 : Int32) (v9 : Int32) (A : Nat → Nat) (th sd lo le wr ma nu di pl se wg op : Int32) (hn : n ≤ 200) (hT : TI τ t n h) (T_m9 : τ m9 = (20, 0)) (F_m9 : h m9 = some (.inr (9, mf A n th sd lo le wr ma nu di pl se wg op))) (hA : ∀ i, i < 28 → τ (A i) = (30, i)) (hmk : mOk sd lo ma se op) : Met l y_Mo_spoil (.code y_Mo_spoil b_Mo_spoil 4 (some .int) :: lw_g) { frames := 1, cells := 0, slots := 0, locals := 22 } (hP (kE D t G ak av) D vwCl G h [.ref m9, .int p9, .int v9]) (hQi D vwCl G (fun r h' => TI τ t n h' ∧ kf τ [(30, 0)] [m9] h h' ∧ (∃ (th' : Int32), h' m9 = some (.inr (9, mf A n th' sd lo le wr ma nu di pl se wg op)) ∧ mOk sd lo ma se op))) 0 0 G.P := by
  refine Met.ofW (cc := b_Mo_spoil) (maxL := 4) (ret := (some .int)) (by decide) rfl ?_
  intro p e s m args below meth c s₁ Bd hml hv
  obtain ⟨ha, hE, hH⟩ := hv
  have hx := Bd.exec
  have hb := Bd.bytes
  have hr := Bd.returns
  have hts : ∀ w ∈ lw_g, w.before args s = true := fun w hw => atoms_spec (ws := (.code y_Mo_spoil b_Mo_spoil 4 (some .int) :: lw_g)) Bd.pre w (List.mem_cons_of_mem _ hw)
  have hown : s.vm.findClass R_Mo = some m.cls := findClass_of_methodNamed Bd.named
  have hlocks := Bd.notSynchronized
  have hK := hE.1
  have hH0 := hH
  have hLo : hLc G.P [] := hLc_nil
  have hz : s.heap.size ≤ s.heap.size := Nat.le_refl _
  have hl := lv_entry [.ref m9, .int p9, .int v9] (n := 4) (Nat.le_of_ble_eq_true rfl)
  rw [show entryFrame m args 4 = F0 m 0 ((lg_sl [.ref m9, .int p9, .int v9] ++ List.replicate (4 - (lg_sl [.ref m9, .int p9, .int v9]).length) Slot.unset).toArray) [] from (by rw [ha]; exact lg_entry_eq m [.ref m9, .int p9, .int v9] 4)]
  generalize (lg_sl [.ref m9, .int p9, .int v9] ++ List.replicate (4 - (lg_sl [.ref m9, .int p9, .int v9]).length) Slot.unset).toArray = ls at hl ⊢
  have hl : lv_has ls 4 [(0, .ref m9), (1, .int p9), (2, .int v9)] := hl
  have hkf : kf τ [(30, 0)] [m9] h h := kf_rf
  obtain ⟨hsd, hlo, hma, hse, hop⟩ := id hmk
  have inI : (nI n).toInt = n := nI_toInt (by omega)
  refine lv_aload_n hx hb d_Mo_spoil_0 rfl (lv_at hl 0 rfl) ?_
  refine lv_iconst (v := 0) hx hb d_Mo_spoil_1 (by decide) ?_
  refine hm_put (ci := 9) (v := .int 0) (ty := .int) (C := R_Mo) (T := F_Mo) (N := 41) hx hb hts ig_Mo t_Mo tk_Mo nm_Mo hown hK hH hLo F_m9 rfl 0 (by decide) (hts _ mw_594) (fun _ h9 => h9) rfl (by decide +kernel) rfl rfl (Nat.le_of_ble_eq_true rfl) d_Mo_spoil_2 (fun H_1 locs hH z_2 hLo => ?_)
  have hz : s.heap.size ≤ H_1.size := by rw [z_2]; exact hz
  obtain ⟨h_3, e_4⟩ : ∃ z, z = hu h m9 (.inr (9, mf A n 0 sd lo le wr ma nu di pl se wg op)) := ⟨_, rfl⟩
  have hH : hm D vwCl G h_3 H_1 := by rw [e_4]; exact hH
  have F_m9 : h_3 m9 = some (.inr (9, mf A n 0 sd lo le wr ma nu di pl se wg op)) := by rw [e_4]; exact hu_s _ _ _
  have hT : TI τ t n h_3 := by rw [e_4]; exact TI_put hT T_m9 (by decide) ⟨_, rfl⟩
  have hkf : kf τ [(30, 0)] [m9] h h_3 := by rw [e_4]; exact kf_putM hkf (by simp)
  refine lv_iload_n hx hb d_Mo_spoil_5 rfl (lv_at hl 1 rfl) ?_
  refine lv_iconst (v := 0) hx hb d_Mo_spoil_6 (by decide) ?_
  refine lv_sipush (v := 2048) hx hb d_Mo_spoil_7 (by decide) ?_
  refine lv_aload_n hx hb d_Mo_spoil_10 rfl (lv_at hl 0 rfl) ?_
  refine hm_get (ci := 9) (v := .int (nI n)) (C := R_Mo) (T := F_Mo) (N := 41) hx hb hts ig_Mo hown hK hH F_m9 rfl 1 (by decide) (hts _ mw_587) (fun _ h9 => h9) rfl d_Mo_spoil_11 ?_
  refine lv_imul hx hb d_Mo_spoil_14 ?_
  refine lv_topi (fun v_5 e_6 => ?_)
  refine lv_iconst (v := 1) hx hb d_Mo_spoil_15 (by decide) ?_
  refine lv_isub hx hb d_Mo_spoil_16 ?_
  refine lv_topi (fun v_7 e_8 => ?_)
  refine hm_callPi (va_runS (As := [.int p9, .int 0, .int v_7]) (rest := []) ⟨hx, hb, hml, hown, hts⟩ (m_in l D t G ak av h_3 τ n p9 0 v_7    hn hT    ) ⟨cw9B 3 hts mw_582 mw_583 mw_579 rfl rfl (by decide +kernel) ⟨Nat.le_of_ble_eq_true rfl, Nat.le_of_ble_eq_true rfl⟩, hts _ mw_584⟩ (hP_S kE_ok hE hH) rfl rfl hl.1 rfl (lv_room (Nat.le_of_ble_eq_true rfl)) d_Mo_spoil_17 ⟨Nat.le_of_ble_eq_true rfl, Nat.le_of_ble_eq_true rfl⟩) (fun r_9 h_10 H_11 hp_13  hH z_12 => ?_)
  have hz : s.heap.size ≤ H_11.size := Nat.le_trans hz z_12
  obtain ⟨c_14, xp_15, rfl⟩ := hp_13
  have il_16 : (0 : Int32).toInt = 0 := rfl
  have is_17 : v_5.toInt = 2048 * (nI n).toInt := by rw [e_6]; exact iMulL 2048 rfl (by omega) (by omega)
  have is_18 : v_7.toInt = v_5.toInt - 1 := by rw [e_8]; exact iDecS 1 rfl (by decide) (by omega)
  rcases xp_15 with ⟨rfl, ix9⟩ | ⟨rfl, ix9, iy9⟩
  · skip
    refine lv_if_eq (tgt := 42) hx hb d_Mo_spoil_20 (by decide) (fun hc_19 => ?_) (fun hc_19 => absurd hc_19 (by decide))
    refine lv_iconst (v := -1) hx hb d_Mo_spoil_42 (by decide) ?_
    exact W.iret (v := (-1)) hx hb hr (fun t9 ht hW => ⟨(-1), h_3, rfl, ⟨hT, hkf, ⟨(0 : Int32), F_m9, ⟨hsd, hlo, (by omega), ⟨by omega, by omega⟩, ⟨by omega, by omega⟩⟩⟩⟩, by rw [ht]; exact hH, by rw [ht]; exact hz⟩) hLo d_Mo_spoil_43
  · skip
    refine lv_if_eq (tgt := 42) hx hb d_Mo_spoil_20 (by decide) (fun hc_20 => absurd hc_20 (by decide)) (fun hc_20 => ?_)
    refine lv_aload_n hx hb d_Mo_spoil_23 rfl (lv_at hl 0 rfl) ?_
    refine hm_get (ci := 9) (v := .ref (A 1)) (C := R_Mo) (T := F_Mo) (N := 41) hx hb hts ig_Mo hown hK hH F_m9 rfl 4 (by decide) (hts _ mw_588) (fun _ h9 => h9) rfl d_Mo_spoil_24 ?_
    refine lv_aload_n hx hb d_Mo_spoil_27 rfl (lv_at hl 0 rfl) ?_
    refine hm_get (ci := 9) (v := .int sd) (C := R_Mo) (T := F_Mo) (N := 41) hx hb hts ig_Mo hown hK hH F_m9 rfl 2 (by decide) (hts _ mw_586) (fun _ h9 => h9) rfl d_Mo_spoil_28 ?_
    refine lv_iload_n hx hb d_Mo_spoil_31 rfl (lv_at hl 1 rfl) ?_
    refine lv_sipush (v := 2048) hx hb d_Mo_spoil_32 (by decide) ?_
    refine lv_idiv hx hb d_Mo_spoil_35 (by decide) ?_
    refine lv_topi (fun v_21 e_22 => ?_)
    have id_23 : 0 ≤ p9.toInt → v_21.toInt = p9.toInt / 2048 := fun h9 => by rw [e_22]; exact i_div (d := 2048) (by decide) h9
    have idq := id_23 (by omega)
    refine lv_iadd hx hb d_Mo_spoil_36 ?_
    refine lv_topi (fun v_24 e_25 => ?_)
    obtain ⟨g_26, F_A1, c_27⟩ := TI_arB (L := 400) hT (hA 1 (by decide)) rfl rfl
    have is_28 : v_24.toInt = sd.toInt + v_21.toInt := by rw [e_25]; exact iAdd (by omega) (by omega)
    refine hm_bald hx hb hK hH 0 F_A1 rfl (iIn (by omega) (by omega)) d_Mo_spoil_37 ?_
    refine lv_topi (fun v_29 e_30 => ?_)
    refine lv_iconst (v := 1) hx hb d_Mo_spoil_38 (by decide) ?_
    refine lv_icmp_eq (tgt := 44) hx hb d_Mo_spoil_39 (by decide) (fun hc_31 => ?_) (fun hc_31 => ?_)
    · skip
      have ic_32 : v_29.toInt = 1 := congrArg Int32.toInt hc_31
      refine lv_aload_n hx hb d_Mo_spoil_44 rfl (lv_at hl 0 rfl) ?_
      refine lv_iload_n hx hb d_Mo_spoil_45 rfl (lv_at hl 1 rfl) ?_
      refine hm_callPi (va_runV (As := [.int p9]) (b := m9) (rest := []) ⟨hx, hb, hml, hown, hts⟩ (m_get l D t G ak av h_3 τ n m9 p9 A (0 : Int32) sd lo le wr ma nu di pl se wg op   hn hT T_m9  F_m9 hA ⟨hsd, hlo, (by omega), ⟨by omega, by omega⟩, ⟨by omega, by omega⟩⟩ (by omega) (by omega)) ⟨cw9B 1 hts mw_698 mw_699 mw_579 rfl rfl (by decide +kernel) ⟨Nat.le_of_ble_eq_true rfl, Nat.le_of_ble_eq_true rfl⟩, hts _ mw_700, hts _ mw_701⟩ (hP_V (q := (R_Mo, F_Mo, 41)) kE_ok hE hK hH F_m9 rfl) rfl rfl hl.1 rfl (lv_room (Nat.le_of_ble_eq_true rfl)) d_Mo_spoil_46 ⟨Nat.le_of_ble_eq_true rfl, Nat.le_of_ble_eq_true rfl⟩) (fun r_33 h_34 H_35 hp_37  hH z_36 => ?_)
      have hz : s.heap.size ≤ H_35.size := Nat.le_trans hz z_36
      obtain ⟨xp_38, rfl⟩ := hp_37
      obtain ⟨ia_39, eg_40⟩ := xp_38
      refine lv_istore_n (lv' := [(3, .int r_33), (0, .ref m9), (1, .int p9), (2, .int v9)]) hx hb d_Mo_spoil_49 rfl hl (by decide) rfl (fun ls hl => ?_)
      refine lv_aload_n hx hb d_Mo_spoil_50 rfl (lv_at hl 1 rfl) ?_
      refine hm_get (ci := 9) (v := .ref (A 0)) (C := R_Mo) (T := F_Mo) (N := 41) hx hb hts ig_Mo hown hK hH F_m9 rfl 3 (by decide) (hts _ mw_585) (fun _ h9 => h9) rfl d_Mo_spoil_51 ?_
      refine lv_sipush (v := 2048) hx hb d_Mo_spoil_54 (by decide) ?_
      refine lv_aload_n hx hb d_Mo_spoil_57 rfl (lv_at hl 1 rfl) ?_
      refine hm_get (ci := 9) (v := .int sd) (C := R_Mo) (T := F_Mo) (N := 41) hx hb hts ig_Mo hown hK hH F_m9 rfl 2 (by decide) (hts _ mw_586) (fun _ h9 => h9) rfl d_Mo_spoil_58 ?_
      refine lv_imul hx hb d_Mo_spoil_61 ?_
      refine lv_topi (fun v_41 e_42 => ?_)
      refine lv_iload_n hx hb d_Mo_spoil_62 rfl (lv_at hl 2 rfl) ?_
      refine lv_iadd hx hb d_Mo_spoil_63 ?_
      refine lv_topi (fun v_43 e_44 => ?_)
      refine lv_iload_n hx hb d_Mo_spoil_64 rfl (lv_at hl 3 rfl) ?_
      refine lv_i2b (v := v9.toInt8.toInt32) hx hb d_Mo_spoil_65 rfl ?_
      obtain ⟨g_45, F_A0, c_46⟩ := TI_arB (L := 819200) hT (hA 0 (by decide)) rfl rfl
      have is_47 : v_41.toInt = 2048 * sd.toInt := by rw [e_42]; exact iMulL 2048 rfl (by omega) (by omega)
      have is_48 : v_43.toInt = v_41.toInt + p9.toInt := by rw [e_44]; exact iAdd (by omega) (by omega)
      refine hm_bast hx hb hK hH hLo 0 F_A0 rfl (iIn (by omega) (by omega)) d_Mo_spoil_66 (fun H_49 locs hH z_50 hLo => ?_)
      have hz : s.heap.size ≤ H_49.size := by rw [z_50]; exact hz
      obtain ⟨h_51, e_52⟩ : ∃ z, z = hu h_3 (A 0) (.inl ((t 0), 819200, .inl (upd g_45 v_43.toNatClampNeg (vp_nar .byte v9.toInt8.toInt32)))) := ⟨_, rfl⟩
      have hH : hm D vwCl G h_51 H_49 := by rw [e_52]; exact hH
      have F_m9 : h_51 m9 = some (.inr (9, mf A n 0 sd lo le wr ma nu di pl se wg op)) := by rw [e_52, hu_n (tne T_m9 (hA 0 (by decide)) (by decide))]; exact F_m9
      have F_A1 : h_51 (A 1) = some (.inl ((t 0), 400, .inl g_26)) := by rw [e_52, hu_n (tneF (hA 1 (by decide)) (hA 0 (by decide)) (by decide))]; exact F_A1
      have F_A0 : h_51 (A 0) = some (.inl ((t 0), 819200, .inl (upd g_45 v_43.toNatClampNeg (vp_nar .byte v9.toInt8.toInt32)))) := by rw [e_52]; exact hu_s _ _ _
      have hT : TI τ t n h_51 := by rw [e_52]; exact TI_put hT (hA 0 (by decide)) (by decide) (ok_B rfl rfl (sb_fitU c_46 (fitNar _)))
      have hkf : kf τ [(30, 0)] [m9] h h_51 := by rw [e_52]; exact kf_put hkf (hA 0 (by decide)) List.mem_cons_self
      obtain ⟨g_53, e_54⟩ : ∃ z, z = upd g_45 v_43.toNatClampNeg (vp_nar .byte v9.toInt8.toInt32) := ⟨_, rfl⟩
      rw [← e_54] at F_A0
      have c_55 : sb_Fit g_53 := by rw [e_54]; exact (sb_fitU c_46 (fitNar _))
      refine lv_iload_n hx hb d_Mo_spoil_67 rfl (lv_at hl 0 rfl) ?_
      exact W.iret (v := r_33) hx hb hr (fun t9 ht hW => ⟨r_33, h_51, rfl, ⟨hT, hkf, ⟨(0 : Int32), F_m9, ⟨hsd, hlo, (by omega), ⟨by omega, by omega⟩, ⟨by omega, by omega⟩⟩⟩⟩, by rw [ht]; exact hH, by rw [ht]; exact hz⟩) hLo d_Mo_spoil_68
    · skip
      refine lv_iconst (v := -1) hx hb d_Mo_spoil_42 (by decide) ?_
      exact W.iret (v := (-1)) hx hb hr (fun t9 ht hW => ⟨(-1), h_3, rfl, ⟨hT, hkf, ⟨(0 : Int32), F_m9, ⟨hsd, hlo, (by omega), ⟨by omega, by omega⟩, ⟨by omega, by omega⟩⟩⟩⟩, by rw [ht]; exact hH, by rw [ht]; exact hz⟩) hLo d_Mo_spoil_43

set_option maxHeartbeats 4000000 in
set_option maxRecDepth 100000 in
theorem m_writes (l : Launch) (D : va_G) (t : Nat → ClassId) (G : hG) (ak av : Nat → Nat) (h : hM) (τ : tM) (n : Nat) (m9 : Nat) (A : Nat → Nat) (th sd lo le wr ma nu di pl se wg op : Int32) (hn : n ≤ 200) (hT : TI τ t n h) (T_m9 : τ m9 = (20, 0)) (F_m9 : h m9 = some (.inr (9, mf A n th sd lo le wr ma nu di pl se wg op))) (hA : ∀ i, i < 28 → τ (A i) = (30, i)) (hmk : mOk sd lo ma se op) : Met l y_Mo_writes (.code y_Mo_writes b_Mo_writes 1 (some .int) :: lw_g) { frames := 0, cells := 0, slots := 0, locals := 0 } (hP (kE D t G ak av) D vwCl G h [.ref m9]) (hQi D vwCl G (fun r h' => TI τ t n h' ∧ kf τ [] [m9] h h' ∧ (∃ (th' : Int32), h' m9 = some (.inr (9, mf A n th' sd lo le wr ma nu di pl se wg op)) ∧ mOk sd lo ma se op))) 0 0 G.P := by
  refine Met.ofW (cc := b_Mo_writes) (maxL := 1) (ret := (some .int)) (by decide) rfl ?_
  intro p e s m args below meth c s₁ Bd hml hv
  obtain ⟨ha, hE, hH⟩ := hv
  have hx := Bd.exec
  have hb := Bd.bytes
  have hr := Bd.returns
  have hts : ∀ w ∈ lw_g, w.before args s = true := fun w hw => atoms_spec (ws := (.code y_Mo_writes b_Mo_writes 1 (some .int) :: lw_g)) Bd.pre w (List.mem_cons_of_mem _ hw)
  have hown : s.vm.findClass R_Mo = some m.cls := findClass_of_methodNamed Bd.named
  have hlocks := Bd.notSynchronized
  have hK := hE.1
  have hH0 := hH
  have hLo : hLc G.P [] := hLc_nil
  have hz : s.heap.size ≤ s.heap.size := Nat.le_refl _
  have hl := lv_entry [.ref m9] (n := 1) (Nat.le_of_ble_eq_true rfl)
  rw [show entryFrame m args 1 = F0 m 0 ((lg_sl [.ref m9] ++ List.replicate (1 - (lg_sl [.ref m9]).length) Slot.unset).toArray) [] from (by rw [ha]; exact lg_entry_eq m [.ref m9] 1)]
  generalize (lg_sl [.ref m9] ++ List.replicate (1 - (lg_sl [.ref m9]).length) Slot.unset).toArray = ls at hl ⊢
  have hl : lv_has ls 1 [(0, .ref m9)] := hl
  have hkf : kf τ [] [m9] h h := kf_rf
  obtain ⟨hsd, hlo, hma, hse, hop⟩ := id hmk
  have inI : (nI n).toInt = n := nI_toInt (by omega)
  refine lv_aload_n hx hb d_Mo_writes_0 rfl (lv_at hl 0 rfl) ?_
  refine lv_iconst (v := 0) hx hb d_Mo_writes_1 (by decide) ?_
  refine hm_put (ci := 9) (v := .int 0) (ty := .int) (C := R_Mo) (T := F_Mo) (N := 41) hx hb hts ig_Mo t_Mo tk_Mo nm_Mo hown hK hH hLo F_m9 rfl 0 (by decide) (hts _ mw_594) (fun _ h9 => h9) rfl (by decide +kernel) rfl rfl (Nat.le_of_ble_eq_true rfl) d_Mo_writes_2 (fun H_1 locs hH z_2 hLo => ?_)
  have hz : s.heap.size ≤ H_1.size := by rw [z_2]; exact hz
  obtain ⟨h_3, e_4⟩ : ∃ z, z = hu h m9 (.inr (9, mf A n 0 sd lo le wr ma nu di pl se wg op)) := ⟨_, rfl⟩
  have hH : hm D vwCl G h_3 H_1 := by rw [e_4]; exact hH
  have F_m9 : h_3 m9 = some (.inr (9, mf A n 0 sd lo le wr ma nu di pl se wg op)) := by rw [e_4]; exact hu_s _ _ _
  have hT : TI τ t n h_3 := by rw [e_4]; exact TI_put hT T_m9 (by decide) ⟨_, rfl⟩
  have hkf : kf τ [] [m9] h h_3 := by rw [e_4]; exact kf_putM hkf (by simp)
  refine lv_aload_n hx hb d_Mo_writes_5 rfl (lv_at hl 0 rfl) ?_
  refine hm_get (ci := 9) (v := .int wr) (C := R_Mo) (T := F_Mo) (N := 41) hx hb hts ig_Mo hown hK hH F_m9 rfl 8 (by decide) (hts _ mw_589) (fun _ h9 => h9) rfl d_Mo_writes_6 ?_
  exact W.iret (v := wr) hx hb hr (fun t9 ht hW => ⟨wr, h_3, rfl, ⟨hT, hkf, ⟨(0 : Int32), F_m9, ⟨hsd, hlo, (by omega), ⟨by omega, by omega⟩, ⟨by omega, by omega⟩⟩⟩⟩, by rw [ht]; exact hH, by rw [ht]; exact hz⟩) hLo d_Mo_writes_9
