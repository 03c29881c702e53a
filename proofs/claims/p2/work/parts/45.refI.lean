set_option maxRecDepth 100000 in
theorem mw_733 : Cond.fieldLink R_Mo 257 "WriteOnceDiscModel" "wrong" "I" ∈ lw_g := lw_gin (List.mem_append_right _ (List.mem_of_getElem? (i := 944) rfl)) (by decide +kernel)
set_option maxRecDepth 100000 in
theorem mw_734 : Cond.code y_Mo_isWrittenSector b_Mo_isWrittenSector 2 (some .boolean) ∈ lw_g := lw_gin (List.mem_append_right _ (List.mem_of_getElem? (i := 1226) rfl)) (by decide +kernel)
set_option maxRecDepth 100000 in
theorem mw_735 : Cond.methodLink R_Mo 260 y_Mo_isWrittenSector ∈ lw_g := lw_gin (List.mem_append_right _ (List.mem_of_getElem? (i := 1223) rfl)) (by decide +kernel)
set_option maxRecDepth 100000 in
theorem mw_736 : Cond.instanceMethod y_Mo_isWrittenSector ∈ lw_g := lw_gin (List.mem_append_right _ (List.mem_of_getElem? (i := 1225) rfl)) (by decide +kernel)
set_option maxRecDepth 100000 in
theorem mw_737 : Cond.selects R_Mo y_Mo_isWrittenSector y_Mo_isWrittenSector ∈ lw_g := lw_gin (List.mem_append_left _ (List.mem_of_getElem? (i := 54) rfl)) (by decide +kernel)
set_option maxRecDepth 100000 in
theorem mw_738 : Cond.code y_Mo_no b_Mo_no 2 (some .boolean) ∈ lw_g := lw_gin (List.mem_append_right _ (List.mem_of_getElem? (i := 1242) rfl)) (by decide +kernel)
set_option maxRecDepth 100000 in
theorem mw_739 : Cond.methodLink R_Mo 263 y_Mo_no ∈ lw_g := lw_gin (List.mem_append_right _ (List.mem_of_getElem? (i := 1239) rfl)) (by decide +kernel)
set_option maxRecDepth 100000 in
theorem mw_740 : Cond.instanceMethod y_Mo_no ∈ lw_g := lw_gin (List.mem_append_right _ (List.mem_of_getElem? (i := 1241) rfl)) (by decide +kernel)
set_option maxRecDepth 100000 in
theorem mw_741 : Cond.selects R_Mo y_Mo_no y_Mo_no ∈ lw_g := lw_gin (List.mem_append_left _ (List.mem_of_getElem? (i := 58) rfl)) (by decide +kernel)
set_option maxRecDepth 100000 in
theorem mw_742 : Cond.code y_Mo_lowAt b_Mo_lowAt 5 (some .int) ∈ lw_g := lw_gin (List.mem_append_right _ (List.mem_of_getElem? (i := 1230) rfl)) (by decide +kernel)
set_option maxRecDepth 100000 in
theorem mw_743 : Cond.methodLink R_Mo 266 y_Mo_lowAt ∈ lw_g := lw_gin (List.mem_append_right _ (List.mem_of_getElem? (i := 1227) rfl)) (by decide +kernel)
set_option maxRecDepth 100000 in
theorem mw_744 : Cond.instanceMethod y_Mo_lowAt ∈ lw_g := lw_gin (List.mem_append_right _ (List.mem_of_getElem? (i := 1229) rfl)) (by decide +kernel)
set_option maxRecDepth 100000 in
theorem mw_745 : Cond.selects R_Mo y_Mo_lowAt y_Mo_lowAt ∈ lw_g := lw_gin (List.mem_append_left _ (List.mem_of_getElem? (i := 55) rfl)) (by decide +kernel)
set_option maxRecDepth 100000 in
theorem mw_746 : Cond.constantLong R_Mo 275 (2047) ∈ lw_g := lw_gin (List.mem_append_right _ (List.mem_of_getElem? (i := 1259) rfl)) (by decide +kernel)
set_option maxRecDepth 100000 in
theorem mw_747 : Cond.constantLong R_Mo 277 (2048) ∈ lw_g := lw_gin (List.mem_append_right _ (List.mem_of_getElem? (i := 1260) rfl)) (by decide +kernel)
set_option maxRecDepth 100000 in
theorem mw_748 : Cond.code y_Mo_areWritten b_Mo_areWritten 5 (some .boolean) ∈ lw_g := lw_gin (List.mem_append_right _ (List.mem_of_getElem? (i := 1264) rfl)) (by decide +kernel)
set_option maxRecDepth 100000 in
theorem mw_749 : Cond.methodLink R_Mo 279 y_Mo_areWritten ∈ lw_g := lw_gin (List.mem_append_right _ (List.mem_of_getElem? (i := 1261) rfl)) (by decide +kernel)
set_option maxRecDepth 100000 in
theorem mw_750 : Cond.instanceMethod y_Mo_areWritten ∈ lw_g := lw_gin (List.mem_append_right _ (List.mem_of_getElem? (i := 1263) rfl)) (by decide +kernel)
set_option maxRecDepth 100000 in
theorem mw_751 : Cond.selects R_Mo y_Mo_areWritten y_Mo_areWritten ∈ lw_g := lw_gin (List.mem_append_left _ (List.mem_of_getElem? (i := 63) rfl)) (by decide +kernel)
set_option maxRecDepth 100000 in
theorem mw_752 : Cond.code y_Mo_isName b_Mo_isName 5 (some .boolean) ∈ lw_g := lw_gin (List.mem_append_right _ (List.mem_of_getElem? (i := 1258) rfl)) (by decide +kernel)
set_option maxRecDepth 100000 in
theorem mw_753 : Cond.methodLink R_Mo 272 y_Mo_isName ∈ lw_g := lw_gin (List.mem_append_right _ (List.mem_of_getElem? (i := 1255) rfl)) (by decide +kernel)
set_option maxRecDepth 100000 in
theorem mw_754 : Cond.instanceMethod y_Mo_isName ∈ lw_g := lw_gin (List.mem_append_right _ (List.mem_of_getElem? (i := 1257) rfl)) (by decide +kernel)
set_option maxRecDepth 100000 in
theorem mw_755 : Cond.selects R_Mo y_Mo_isName y_Mo_isName ∈ lw_g := lw_gin (List.mem_append_left _ (List.mem_of_getElem? (i := 62) rfl)) (by decide +kernel)
set_option maxRecDepth 100000 in
theorem mw_756 : Cond.code y_Mo_highAt b_Mo_highAt 5 (some .int) ∈ lw_g := lw_gin (List.mem_append_right _ (List.mem_of_getElem? (i := 1250) rfl)) (by decide +kernel)
set_option maxRecDepth 100000 in
theorem mw_757 : Cond.methodLink R_Mo 269 y_Mo_highAt ∈ lw_g := lw_gin (List.mem_append_right _ (List.mem_of_getElem? (i := 1247) rfl)) (by decide +kernel)
set_option maxRecDepth 100000 in
theorem mw_758 : Cond.instanceMethod y_Mo_highAt ∈ lw_g := lw_gin (List.mem_append_right _ (List.mem_of_getElem? (i := 1249) rfl)) (by decide +kernel)
set_option maxRecDepth 100000 in
theorem mw_759 : Cond.selects R_Mo y_Mo_highAt y_Mo_highAt ∈ lw_g := lw_gin (List.mem_append_left _ (List.mem_of_getElem? (i := 60) rfl)) (by decide +kernel)
theorem d_Mo_lowAt_0 : decode b_Mo_lowAt 0 = .ok (.iconst 0, 1) := by decide +kernel
theorem d_Mo_lowAt_1 : decode b_Mo_lowAt 1 = .ok (.istore_n 3, 1) := by decide +kernel
theorem d_Mo_lowAt_2 : decode b_Mo_lowAt 2 = .ok (.iload_n 2, 1) := by decide +kernel
theorem d_Mo_lowAt_3 : decode b_Mo_lowAt 3 = .ok (.iconst 1, 1) := by decide +kernel
theorem d_Mo_lowAt_4 : decode b_Mo_lowAt 4 = .ok (.isub, 1) := by decide +kernel
theorem d_Mo_lowAt_5 : decode b_Mo_lowAt 5 = .ok (.istore 4, 2) := by decide +kernel
theorem d_Mo_lowAt_7 : decode b_Mo_lowAt 7 = .ok (.iload 4, 2) := by decide +kernel
theorem d_Mo_lowAt_9 : decode b_Mo_lowAt 9 = .ok (.ifCond .lt 23, 3) := by decide +kernel
theorem d_Mo_lowAt_32 : decode b_Mo_lowAt 32 = .ok (.iload_n 3, 1) := by decide +kernel
theorem d_Mo_lowAt_33 : decode b_Mo_lowAt 33 = .ok (.ireturn, 1) := by decide +kernel
theorem d_Mo_lowAt_12 : decode b_Mo_lowAt 12 = .ok (.iload_n 3, 1) := by decide +kernel
theorem d_Mo_lowAt_13 : decode b_Mo_lowAt 13 = .ok (.bipush 8, 2) := by decide +kernel
theorem d_Mo_lowAt_15 : decode b_Mo_lowAt 15 = .ok (.ishl, 1) := by decide +kernel
theorem d_Mo_lowAt_16 : decode b_Mo_lowAt 16 = .ok (.aload_n 0, 1) := by decide +kernel
theorem d_Mo_lowAt_17 : decode b_Mo_lowAt 17 = .ok (.iload_n 1, 1) := by decide +kernel
theorem d_Mo_lowAt_18 : decode b_Mo_lowAt 18 = .ok (.iload 4, 2) := by decide +kernel
theorem d_Mo_lowAt_20 : decode b_Mo_lowAt 20 = .ok (.iadd, 1) := by decide +kernel
theorem d_Mo_lowAt_21 : decode b_Mo_lowAt 21 = .ok (.invokevirtual 225, 3) := by decide +kernel
theorem d_Mo_lowAt_24 : decode b_Mo_lowAt 24 = .ok (.ior, 1) := by decide +kernel
theorem d_Mo_lowAt_25 : decode b_Mo_lowAt 25 = .ok (.istore_n 3, 1) := by decide +kernel
theorem d_Mo_lowAt_26 : decode b_Mo_lowAt 26 = .ok (.iinc 4 (-1), 3) := by decide +kernel
theorem d_Mo_lowAt_29 : decode b_Mo_lowAt 29 = .ok (.goto (-22), 3) := by decide +kernel
theorem d_Mo_highAt_0 : decode b_Mo_highAt 0 = .ok (.iconst 0, 1) := by decide +kernel
theorem d_Mo_highAt_1 : decode b_Mo_highAt 1 = .ok (.istore_n 3, 1) := by decide +kernel
theorem d_Mo_highAt_2 : decode b_Mo_highAt 2 = .ok (.iconst 0, 1) := by decide +kernel
theorem d_Mo_highAt_3 : decode b_Mo_highAt 3 = .ok (.istore 4, 2) := by decide +kernel
theorem d_Mo_highAt_5 : decode b_Mo_highAt 5 = .ok (.iload 4, 2) := by decide +kernel
theorem d_Mo_highAt_7 : decode b_Mo_highAt 7 = .ok (.iload_n 2, 1) := by decide +kernel
theorem d_Mo_highAt_8 : decode b_Mo_highAt 8 = .ok (.if_icmp .ge 23, 3) := by decide +kernel
theorem d_Mo_highAt_31 : decode b_Mo_highAt 31 = .ok (.iload_n 3, 1) := by decide +kernel
theorem d_Mo_highAt_32 : decode b_Mo_highAt 32 = .ok (.ireturn, 1) := by decide +kernel
theorem d_Mo_highAt_11 : decode b_Mo_highAt 11 = .ok (.iload_n 3, 1) := by decide +kernel
theorem d_Mo_highAt_12 : decode b_Mo_highAt 12 = .ok (.bipush 8, 2) := by decide +kernel
theorem d_Mo_highAt_14 : decode b_Mo_highAt 14 = .ok (.ishl, 1) := by decide +kernel
theorem d_Mo_highAt_15 : decode b_Mo_highAt 15 = .ok (.aload_n 0, 1) := by decide +kernel
theorem d_Mo_highAt_16 : decode b_Mo_highAt 16 = .ok (.iload_n 1, 1) := by decide +kernel
theorem d_Mo_highAt_17 : decode b_Mo_highAt 17 = .ok (.iload 4, 2) := by decide +kernel
theorem d_Mo_highAt_19 : decode b_Mo_highAt 19 = .ok (.iadd, 1) := by decide +kernel
theorem d_Mo_highAt_20 : decode b_Mo_highAt 20 = .ok (.invokevirtual 225, 3) := by decide +kernel
theorem d_Mo_highAt_23 : decode b_Mo_highAt 23 = .ok (.ior, 1) := by decide +kernel
theorem d_Mo_highAt_24 : decode b_Mo_highAt 24 = .ok (.istore_n 3, 1) := by decide +kernel
theorem d_Mo_highAt_25 : decode b_Mo_highAt 25 = .ok (.iinc 4 1, 3) := by decide +kernel
theorem d_Mo_highAt_28 : decode b_Mo_highAt 28 = .ok (.goto (-23), 3) := by decide +kernel
theorem d_Mo_no_0 : decode b_Mo_no 0 = .ok (.aload_n 0, 1) := by decide +kernel
theorem d_Mo_no_1 : decode b_Mo_no 1 = .ok (.iload_n 1, 1) := by decide +kernel
theorem d_Mo_no_2 : decode b_Mo_no 2 = .ok (.putfield 257, 3) := by decide +kernel
theorem d_Mo_no_5 : decode b_Mo_no 5 = .ok (.iconst 0, 1) := by decide +kernel
theorem d_Mo_no_6 : decode b_Mo_no 6 = .ok (.ireturn, 1) := by decide +kernel
theorem d_Mo_begins_0 : decode b_Mo_begins 0 = .ok (.sipush 2048, 3) := by decide +kernel
theorem d_Mo_begins_3 : decode b_Mo_begins 3 = .ok (.iload_n 1, 1) := by decide +kernel
theorem d_Mo_begins_4 : decode b_Mo_begins 4 = .ok (.imul, 1) := by decide +kernel
theorem d_Mo_begins_5 : decode b_Mo_begins 5 = .ok (.istore_n 3, 1) := by decide +kernel
theorem d_Mo_begins_6 : decode b_Mo_begins 6 = .ok (.aload_n 0, 1) := by decide +kernel
theorem d_Mo_begins_7 : decode b_Mo_begins 7 = .ok (.iload_n 3, 1) := by decide +kernel
theorem d_Mo_begins_8 : decode b_Mo_begins 8 = .ok (.invokevirtual 225, 3) := by decide +kernel
theorem d_Mo_begins_11 : decode b_Mo_begins 11 = .ok (.iload_n 2, 1) := by decide +kernel
theorem d_Mo_begins_12 : decode b_Mo_begins 12 = .ok (.if_icmp .ne 79, 3) := by decide +kernel
theorem d_Mo_begins_91 : decode b_Mo_begins 91 = .ok (.iconst 0, 1) := by decide +kernel
theorem d_Mo_begins_92 : decode b_Mo_begins 92 = .ok (.ireturn, 1) := by decide +kernel
theorem d_Mo_begins_15 : decode b_Mo_begins 15 = .ok (.aload_n 0, 1) := by decide +kernel
theorem d_Mo_begins_16 : decode b_Mo_begins 16 = .ok (.iload_n 3, 1) := by decide +kernel
theorem d_Mo_begins_17 : decode b_Mo_begins 17 = .ok (.iconst 1, 1) := by decide +kernel
theorem d_Mo_begins_18 : decode b_Mo_begins 18 = .ok (.iadd, 1) := by decide +kernel
theorem d_Mo_begins_19 : decode b_Mo_begins 19 = .ok (.invokevirtual 225, 3) := by decide +kernel
theorem d_Mo_begins_22 : decode b_Mo_begins 22 = .ok (.bipush 67, 2) := by decide +kernel
theorem d_Mo_begins_24 : decode b_Mo_begins 24 = .ok (.if_icmp .ne 67, 3) := by decide +kernel
theorem d_Mo_begins_27 : decode b_Mo_begins 27 = .ok (.aload_n 0, 1) := by decide +kernel
theorem d_Mo_begins_28 : decode b_Mo_begins 28 = .ok (.iload_n 3, 1) := by decide +kernel
theorem d_Mo_begins_29 : decode b_Mo_begins 29 = .ok (.iconst 2, 1) := by decide +kernel
theorem d_Mo_begins_30 : decode b_Mo_begins 30 = .ok (.iadd, 1) := by decide +kernel
theorem d_Mo_begins_31 : decode b_Mo_begins 31 = .ok (.invokevirtual 225, 3) := by decide +kernel
theorem d_Mo_begins_34 : decode b_Mo_begins 34 = .ok (.bipush 68, 2) := by decide +kernel
theorem d_Mo_begins_36 : decode b_Mo_begins 36 = .ok (.if_icmp .ne 55, 3) := by decide +kernel
theorem d_Mo_begins_39 : decode b_Mo_begins 39 = .ok (.aload_n 0, 1) := by decide +kernel
theorem d_Mo_begins_40 : decode b_Mo_begins 40 = .ok (.iload_n 3, 1) := by decide +kernel
theorem d_Mo_begins_41 : decode b_Mo_begins 41 = .ok (.iconst 3, 1) := by decide +kernel
theorem d_Mo_begins_42 : decode b_Mo_begins 42 = .ok (.iadd, 1) := by decide +kernel
theorem d_Mo_begins_43 : decode b_Mo_begins 43 = .ok (.invokevirtual 225, 3) := by decide +kernel
theorem d_Mo_begins_46 : decode b_Mo_begins 46 = .ok (.bipush 48, 2) := by decide +kernel
theorem d_Mo_begins_48 : decode b_Mo_begins 48 = .ok (.if_icmp .ne 43, 3) := by decide +kernel
theorem d_Mo_begins_51 : decode b_Mo_begins 51 = .ok (.aload_n 0, 1) := by decide +kernel
theorem d_Mo_begins_52 : decode b_Mo_begins 52 = .ok (.iload_n 3, 1) := by decide +kernel
theorem d_Mo_begins_53 : decode b_Mo_begins 53 = .ok (.iconst 4, 1) := by decide +kernel
theorem d_Mo_begins_54 : decode b_Mo_begins 54 = .ok (.iadd, 1) := by decide +kernel
theorem d_Mo_begins_55 : decode b_Mo_begins 55 = .ok (.invokevirtual 225, 3) := by decide +kernel
theorem d_Mo_begins_58 : decode b_Mo_begins 58 = .ok (.bipush 48, 2) := by decide +kernel
theorem d_Mo_begins_60 : decode b_Mo_begins 60 = .ok (.if_icmp .ne 31, 3) := by decide +kernel
theorem d_Mo_begins_63 : decode b_Mo_begins 63 = .ok (.aload_n 0, 1) := by decide +kernel
theorem d_Mo_begins_64 : decode b_Mo_begins 64 = .ok (.iload_n 3, 1) := by decide +kernel
theorem d_Mo_begins_65 : decode b_Mo_begins 65 = .ok (.iconst 5, 1) := by decide +kernel
theorem d_Mo_begins_66 : decode b_Mo_begins 66 = .ok (.iadd, 1) := by decide +kernel
theorem d_Mo_begins_67 : decode b_Mo_begins 67 = .ok (.invokevirtual 225, 3) := by decide +kernel
theorem d_Mo_begins_70 : decode b_Mo_begins 70 = .ok (.bipush 49, 2) := by decide +kernel
theorem d_Mo_begins_72 : decode b_Mo_begins 72 = .ok (.if_icmp .ne 19, 3) := by decide +kernel
theorem d_Mo_begins_75 : decode b_Mo_begins 75 = .ok (.aload_n 0, 1) := by decide +kernel
theorem d_Mo_begins_76 : decode b_Mo_begins 76 = .ok (.iload_n 3, 1) := by decide +kernel
theorem d_Mo_begins_77 : decode b_Mo_begins 77 = .ok (.bipush 6, 2) := by decide +kernel
theorem d_Mo_begins_79 : decode b_Mo_begins 79 = .ok (.iadd, 1) := by decide +kernel
theorem d_Mo_begins_80 : decode b_Mo_begins 80 = .ok (.invokevirtual 225, 3) := by decide +kernel
theorem d_Mo_begins_83 : decode b_Mo_begins 83 = .ok (.iconst 1, 1) := by decide +kernel
theorem d_Mo_begins_84 : decode b_Mo_begins 84 = .ok (.if_icmp .ne 7, 3) := by decide +kernel
theorem d_Mo_begins_87 : decode b_Mo_begins 87 = .ok (.iconst 1, 1) := by decide +kernel
theorem d_Mo_begins_88 : decode b_Mo_begins 88 = .ok (.goto 4, 3) := by decide +kernel
theorem d_Mo_areWritten_0 : decode b_Mo_areWritten 0 = .ok (.iload_n 1, 1) := by decide +kernel
theorem d_Mo_areWritten_1 : decode b_Mo_areWritten 1 = .ok (.ifCond .lt 16, 3) := by decide +kernel
theorem d_Mo_areWritten_17 : decode b_Mo_areWritten 17 = .ok (.iconst 0, 1) := by decide +kernel
theorem d_Mo_areWritten_18 : decode b_Mo_areWritten 18 = .ok (.ireturn, 1) := by decide +kernel
theorem d_Mo_areWritten_4 : decode b_Mo_areWritten 4 = .ok (.iload_n 1, 1) := by decide +kernel
theorem d_Mo_areWritten_5 : decode b_Mo_areWritten 5 = .ok (.i2l, 1) := by decide +kernel
theorem d_Mo_areWritten_6 : decode b_Mo_areWritten 6 = .ok (.lload_n 2, 1) := by decide +kernel
theorem d_Mo_areWritten_7 : decode b_Mo_areWritten 7 = .ok (.ladd, 1) := by decide +kernel
theorem d_Mo_areWritten_8 : decode b_Mo_areWritten 8 = .ok (.aload_n 0, 1) := by decide +kernel
theorem d_Mo_areWritten_9 : decode b_Mo_areWritten 9 = .ok (.getfield 99, 3) := by decide +kernel
theorem d_Mo_areWritten_12 : decode b_Mo_areWritten 12 = .ok (.i2l, 1) := by decide +kernel
theorem d_Mo_areWritten_13 : decode b_Mo_areWritten 13 = .ok (.lcmp, 1) := by decide +kernel
theorem d_Mo_areWritten_14 : decode b_Mo_areWritten 14 = .ok (.ifCond .le 5, 3) := by decide +kernel
theorem d_Mo_areWritten_19 : decode b_Mo_areWritten 19 = .ok (.iload_n 1, 1) := by decide +kernel
theorem d_Mo_areWritten_20 : decode b_Mo_areWritten 20 = .ok (.istore 4, 2) := by decide +kernel
theorem d_Mo_areWritten_22 : decode b_Mo_areWritten 22 = .ok (.iload 4, 2) := by decide +kernel
theorem d_Mo_areWritten_24 : decode b_Mo_areWritten 24 = .ok (.i2l, 1) := by decide +kernel
theorem d_Mo_areWritten_25 : decode b_Mo_areWritten 25 = .ok (.iload_n 1, 1) := by decide +kernel
theorem d_Mo_areWritten_26 : decode b_Mo_areWritten 26 = .ok (.i2l, 1) := by decide +kernel
theorem d_Mo_areWritten_27 : decode b_Mo_areWritten 27 = .ok (.lload_n 2, 1) := by decide +kernel
theorem d_Mo_areWritten_28 : decode b_Mo_areWritten 28 = .ok (.ladd, 1) := by decide +kernel
theorem d_Mo_areWritten_29 : decode b_Mo_areWritten 29 = .ok (.lcmp, 1) := by decide +kernel
theorem d_Mo_areWritten_30 : decode b_Mo_areWritten 30 = .ok (.ifCond .ge 20, 3) := by decide +kernel
theorem d_Mo_areWritten_50 : decode b_Mo_areWritten 50 = .ok (.iconst 1, 1) := by decide +kernel
theorem d_Mo_areWritten_51 : decode b_Mo_areWritten 51 = .ok (.ireturn, 1) := by decide +kernel
theorem d_Mo_areWritten_33 : decode b_Mo_areWritten 33 = .ok (.aload_n 0, 1) := by decide +kernel
theorem d_Mo_areWritten_34 : decode b_Mo_areWritten 34 = .ok (.iload 4, 2) := by decide +kernel
theorem d_Mo_areWritten_36 : decode b_Mo_areWritten 36 = .ok (.invokevirtual 260, 3) := by decide +kernel
theorem d_Mo_areWritten_39 : decode b_Mo_areWritten 39 = .ok (.ifCond .ne 5, 3) := by decide +kernel
theorem d_Mo_areWritten_44 : decode b_Mo_areWritten 44 = .ok (.iinc 4 1, 3) := by decide +kernel
theorem d_Mo_areWritten_47 : decode b_Mo_areWritten 47 = .ok (.goto (-25), 3) := by decide +kernel
theorem d_Mo_areWritten_42 : decode b_Mo_areWritten 42 = .ok (.iconst 0, 1) := by decide +kernel
theorem d_Mo_areWritten_43 : decode b_Mo_areWritten 43 = .ok (.ireturn, 1) := by decide +kernel
theorem d_Mo_isName_0 : decode b_Mo_isName 0 = .ok (.iload_n 2, 1) := by decide +kernel
theorem d_Mo_isName_1 : decode b_Mo_isName 1 = .ok (.iconst 1, 1) := by decide +kernel
theorem d_Mo_isName_2 : decode b_Mo_isName 2 = .ok (.bipush 8, 2) := by decide +kernel
theorem d_Mo_isName_4 : decode b_Mo_isName 4 = .ok (.invokestatic 118, 3) := by decide +kernel
theorem d_Mo_isName_7 : decode b_Mo_isName 7 = .ok (.istore_n 3, 1) := by decide +kernel
theorem d_Mo_isName_8 : decode b_Mo_isName 8 = .ok (.iconst 0, 1) := by decide +kernel
theorem d_Mo_isName_9 : decode b_Mo_isName 9 = .ok (.istore 4, 2) := by decide +kernel
theorem d_Mo_isName_11 : decode b_Mo_isName 11 = .ok (.iload 4, 2) := by decide +kernel
theorem d_Mo_isName_13 : decode b_Mo_isName 13 = .ok (.iload_n 2, 1) := by decide +kernel
theorem d_Mo_isName_14 : decode b_Mo_isName 14 = .ok (.if_icmp .ge 25, 3) := by decide +kernel
theorem d_Mo_isName_39 : decode b_Mo_isName 39 = .ok (.iload_n 3, 1) := by decide +kernel
theorem d_Mo_isName_40 : decode b_Mo_isName 40 = .ok (.ireturn, 1) := by decide +kernel
theorem d_Mo_isName_17 : decode b_Mo_isName 17 = .ok (.iload_n 3, 1) := by decide +kernel
theorem d_Mo_isName_18 : decode b_Mo_isName 18 = .ok (.ifCond .eq 21, 3) := by decide +kernel
theorem d_Mo_isName_21 : decode b_Mo_isName 21 = .ok (.aload_n 0, 1) := by decide +kernel
theorem d_Mo_isName_22 : decode b_Mo_isName 22 = .ok (.iload_n 1, 1) := by decide +kernel
theorem d_Mo_isName_23 : decode b_Mo_isName 23 = .ok (.iload 4, 2) := by decide +kernel
theorem d_Mo_isName_25 : decode b_Mo_isName 25 = .ok (.iadd, 1) := by decide +kernel
theorem d_Mo_isName_26 : decode b_Mo_isName 26 = .ok (.invokevirtual 225, 3) := by decide +kernel
theorem d_Mo_isName_29 : decode b_Mo_isName 29 = .ok (.invokestatic 131, 3) := by decide +kernel
theorem d_Mo_isName_32 : decode b_Mo_isName 32 = .ok (.istore_n 3, 1) := by decide +kernel
theorem d_Mo_isName_33 : decode b_Mo_isName 33 = .ok (.iinc 4 1, 3) := by decide +kernel
theorem d_Mo_isName_36 : decode b_Mo_isName 36 = .ok (.goto (-25), 3) := by decide +kernel
theorem d_Mo_isRecord_0 : decode b_Mo_isRecord 0 = .ok (.sipush 2048, 3) := by decide +kernel
theorem d_Mo_isRecord_3 : decode b_Mo_isRecord 3 = .ok (.iload_n 1, 1) := by decide +kernel
theorem d_Mo_isRecord_4 : decode b_Mo_isRecord 4 = .ok (.sipush 2048, 3) := by decide +kernel
theorem d_Mo_isRecord_7 : decode b_Mo_isRecord 7 = .ok (.irem, 1) := by decide +kernel
theorem d_Mo_isRecord_8 : decode b_Mo_isRecord 8 = .ok (.isub, 1) := by decide +kernel
theorem d_Mo_isRecord_9 : decode b_Mo_isRecord 9 = .ok (.istore_n 3, 1) := by decide +kernel
theorem d_Mo_isRecord_10 : decode b_Mo_isRecord 10 = .ok (.aload_n 0, 1) := by decide +kernel
theorem d_Mo_isRecord_11 : decode b_Mo_isRecord 11 = .ok (.iload_n 1, 1) := by decide +kernel
theorem d_Mo_isRecord_12 : decode b_Mo_isRecord 12 = .ok (.invokevirtual 225, 3) := by decide +kernel
theorem d_Mo_isRecord_15 : decode b_Mo_isRecord 15 = .ok (.istore 4, 2) := by decide +kernel
theorem d_Mo_isRecord_17 : decode b_Mo_isRecord 17 = .ok (.iload 4, 2) := by decide +kernel
theorem d_Mo_isRecord_19 : decode b_Mo_isRecord 19 = .ok (.bipush 34, 2) := by decide +kernel
theorem d_Mo_isRecord_21 : decode b_Mo_isRecord 21 = .ok (.if_icmp .lt 9, 3) := by decide +kernel
theorem d_Mo_isRecord_30 : decode b_Mo_isRecord 30 = .ok (.aload_n 0, 1) := by decide +kernel
theorem d_Mo_isRecord_31 : decode b_Mo_isRecord 31 = .ok (.iload_n 1, 1) := by decide +kernel
theorem d_Mo_isRecord_32 : decode b_Mo_isRecord 32 = .ok (.invokevirtual 263, 3) := by decide +kernel
theorem d_Mo_isRecord_35 : decode b_Mo_isRecord 35 = .ok (.ireturn, 1) := by decide +kernel
theorem d_Mo_isRecord_24 : decode b_Mo_isRecord 24 = .ok (.iload 4, 2) := by decide +kernel
theorem d_Mo_isRecord_26 : decode b_Mo_isRecord 26 = .ok (.iload_n 3, 1) := by decide +kernel
theorem d_Mo_isRecord_27 : decode b_Mo_isRecord 27 = .ok (.if_icmp .le 9, 3) := by decide +kernel
theorem d_Mo_isRecord_36 : decode b_Mo_isRecord 36 = .ok (.aload_n 0, 1) := by decide +kernel
theorem d_Mo_isRecord_37 : decode b_Mo_isRecord 37 = .ok (.iload_n 1, 1) := by decide +kernel
theorem d_Mo_isRecord_38 : decode b_Mo_isRecord 38 = .ok (.bipush 32, 2) := by decide +kernel
theorem d_Mo_isRecord_40 : decode b_Mo_isRecord 40 = .ok (.iadd, 1) := by decide +kernel
theorem d_Mo_isRecord_41 : decode b_Mo_isRecord 41 = .ok (.invokevirtual 225, 3) := by decide +kernel
theorem d_Mo_isRecord_44 : decode b_Mo_isRecord 44 = .ok (.istore 5, 2) := by decide +kernel
theorem d_Mo_isRecord_148 : decode b_Mo_isRecord 148 = .ok (.istore 6, 2) := by decide +kernel
theorem d_Mo_isRecord_150 : decode b_Mo_isRecord 150 = .ok (.aload_n 0, 1) := by decide +kernel
theorem d_Mo_isRecord_151 : decode b_Mo_isRecord 151 = .ok (.iload_n 1, 1) := by decide +kernel
theorem d_Mo_isRecord_152 : decode b_Mo_isRecord 152 = .ok (.bipush 25, 2) := by decide +kernel
theorem d_Mo_isRecord_154 : decode b_Mo_isRecord 154 = .ok (.iadd, 1) := by decide +kernel
theorem d_Mo_isRecord_155 : decode b_Mo_isRecord 155 = .ok (.invokevirtual 225, 3) := by decide +kernel
theorem d_Mo_isRecord_158 : decode b_Mo_isRecord 158 = .ok (.istore 7, 2) := by decide +kernel
theorem d_Mo_isRecord_160 : decode b_Mo_isRecord 160 = .ok (.iload 6, 2) := by decide +kernel
theorem d_Mo_isRecord_162 : decode b_Mo_isRecord 162 = .ok (.ifCond .eq 14, 3) := by decide +kernel
theorem d_Mo_isRecord_176 : decode b_Mo_isRecord 176 = .ok (.aload_n 0, 1) := by decide +kernel
theorem d_Mo_isRecord_177 : decode b_Mo_isRecord 177 = .ok (.iload_n 1, 1) := by decide +kernel
theorem d_Mo_isRecord_178 : decode b_Mo_isRecord 178 = .ok (.invokevirtual 263, 3) := by decide +kernel
theorem d_Mo_isRecord_181 : decode b_Mo_isRecord 181 = .ok (.ireturn, 1) := by decide +kernel
theorem d_Mo_isRecord_165 : decode b_Mo_isRecord 165 = .ok (.iload 7, 2) := by decide +kernel
theorem d_Mo_isRecord_167 : decode b_Mo_isRecord 167 = .ok (.ifCond .eq 15, 3) := by decide +kernel
theorem d_Mo_isRecord_193 : decode b_Mo_isRecord 193 = .ok (.istore 8, 2) := by decide +kernel
theorem d_Mo_isRecord_323 : decode b_Mo_isRecord 323 = .ok (.aload_n 0, 1) := by decide +kernel
theorem d_Mo_isRecord_324 : decode b_Mo_isRecord 324 = .ok (.iload_n 1, 1) := by decide +kernel
theorem d_Mo_isRecord_325 : decode b_Mo_isRecord 325 = .ok (.iconst 2, 1) := by decide +kernel
theorem d_Mo_isRecord_326 : decode b_Mo_isRecord 326 = .ok (.iadd, 1) := by decide +kernel
theorem d_Mo_isRecord_327 : decode b_Mo_isRecord 327 = .ok (.iconst 4, 1) := by decide +kernel
theorem d_Mo_isRecord_328 : decode b_Mo_isRecord 328 = .ok (.invokevirtual 266, 3) := by decide +kernel
theorem d_Mo_isRecord_331 : decode b_Mo_isRecord 331 = .ok (.istore 9, 2) := by decide +kernel
theorem d_Mo_isRecord_333 : decode b_Mo_isRecord 333 = .ok (.aload_n 0, 1) := by decide +kernel
theorem d_Mo_isRecord_334 : decode b_Mo_isRecord 334 = .ok (.iload_n 1, 1) := by decide +kernel
theorem d_Mo_isRecord_335 : decode b_Mo_isRecord 335 = .ok (.bipush 10, 2) := by decide +kernel
theorem d_Mo_isRecord_337 : decode b_Mo_isRecord 337 = .ok (.iadd, 1) := by decide +kernel
theorem d_Mo_isRecord_338 : decode b_Mo_isRecord 338 = .ok (.iconst 4, 1) := by decide +kernel
theorem d_Mo_isRecord_339 : decode b_Mo_isRecord 339 = .ok (.invokevirtual 266, 3) := by decide +kernel
theorem d_Mo_isRecord_342 : decode b_Mo_isRecord 342 = .ok (.istore 10, 2) := by decide +kernel
theorem d_Mo_isRecord_344 : decode b_Mo_isRecord 344 = .ok (.iload 6, 2) := by decide +kernel
theorem d_Mo_isRecord_346 : decode b_Mo_isRecord 346 = .ok (.ifCond .eq 30, 3) := by decide +kernel
theorem d_Mo_isRecord_376 : decode b_Mo_isRecord 376 = .ok (.aload_n 0, 1) := by decide +kernel
theorem d_Mo_isRecord_377 : decode b_Mo_isRecord 377 = .ok (.iload_n 1, 1) := by decide +kernel
theorem d_Mo_isRecord_378 : decode b_Mo_isRecord 378 = .ok (.invokevirtual 263, 3) := by decide +kernel
theorem d_Mo_isRecord_381 : decode b_Mo_isRecord 381 = .ok (.ireturn, 1) := by decide +kernel
theorem d_Mo_isRecord_349 : decode b_Mo_isRecord 349 = .ok (.iload 8, 2) := by decide +kernel
theorem d_Mo_isRecord_351 : decode b_Mo_isRecord 351 = .ok (.ifCond .eq 20, 3) := by decide +kernel
theorem d_Mo_isRecord_371 : decode b_Mo_isRecord 371 = .ok (.iload 10, 2) := by decide +kernel
theorem d_Mo_isRecord_373 : decode b_Mo_isRecord 373 = .ok (.ifCond .ge 9, 3) := by decide +kernel
theorem d_Mo_isRecord_382 : decode b_Mo_isRecord 382 = .ok (.iload 10, 2) := by decide +kernel
theorem d_Mo_isRecord_384 : decode b_Mo_isRecord 384 = .ok (.ifCond .ne 22, 3) := by decide +kernel
theorem d_Mo_isRecord_406 : decode b_Mo_isRecord 406 = .ok (.aload_n 0, 1) := by decide +kernel
theorem d_Mo_isRecord_407 : decode b_Mo_isRecord 407 = .ok (.iload 9, 2) := by decide +kernel
theorem d_Mo_isRecord_409 : decode b_Mo_isRecord 409 = .ok (.iload 10, 2) := by decide +kernel
theorem d_Mo_isRecord_411 : decode b_Mo_isRecord 411 = .ok (.i2l, 1) := by decide +kernel
theorem d_Mo_isRecord_412 : decode b_Mo_isRecord 412 = .ok (.ldc2_w 275, 3) := by decide +kernel
theorem d_Mo_isRecord_415 : decode b_Mo_isRecord 415 = .ok (.ladd, 1) := by decide +kernel
theorem d_Mo_isRecord_416 : decode b_Mo_isRecord 416 = .ok (.ldc2_w 277, 3) := by decide +kernel
theorem d_Mo_isRecord_419 : decode b_Mo_isRecord 419 = .ok (.ldiv, 1) := by decide +kernel
theorem d_Mo_isRecord_420 : decode b_Mo_isRecord 420 = .ok (.invokevirtual 279, 3) := by decide +kernel
theorem d_Mo_isRecord_423 : decode b_Mo_isRecord 423 = .ok (.ifCond .ne 11, 3) := by decide +kernel
theorem d_Mo_isRecord_434 : decode b_Mo_isRecord 434 = .ok (.iconst 1, 1) := by decide +kernel
theorem d_Mo_isRecord_435 : decode b_Mo_isRecord 435 = .ok (.goto 4, 3) := by decide +kernel
theorem d_Mo_isRecord_439 : decode b_Mo_isRecord 439 = .ok (.ireturn, 1) := by decide +kernel
theorem d_Mo_isRecord_426 : decode b_Mo_isRecord 426 = .ok (.aload_n 0, 1) := by decide +kernel
theorem d_Mo_isRecord_427 : decode b_Mo_isRecord 427 = .ok (.iload_n 1, 1) := by decide +kernel
theorem d_Mo_isRecord_428 : decode b_Mo_isRecord 428 = .ok (.invokevirtual 263, 3) := by decide +kernel
theorem d_Mo_isRecord_431 : decode b_Mo_isRecord 431 = .ok (.ifCond .eq 7, 3) := by decide +kernel
theorem d_Mo_isRecord_438 : decode b_Mo_isRecord 438 = .ok (.iconst 0, 1) := by decide +kernel
theorem d_Mo_isRecord_387 : decode b_Mo_isRecord 387 = .ok (.iload 9, 2) := by decide +kernel
theorem d_Mo_isRecord_389 : decode b_Mo_isRecord 389 = .ok (.ifCond .eq 11, 3) := by decide +kernel
theorem d_Mo_isRecord_400 : decode b_Mo_isRecord 400 = .ok (.iconst 1, 1) := by decide +kernel
theorem d_Mo_isRecord_401 : decode b_Mo_isRecord 401 = .ok (.goto 4, 3) := by decide +kernel
theorem d_Mo_isRecord_405 : decode b_Mo_isRecord 405 = .ok (.ireturn, 1) := by decide +kernel
theorem d_Mo_isRecord_392 : decode b_Mo_isRecord 392 = .ok (.aload_n 0, 1) := by decide +kernel
theorem d_Mo_isRecord_393 : decode b_Mo_isRecord 393 = .ok (.iload_n 1, 1) := by decide +kernel
theorem d_Mo_isRecord_394 : decode b_Mo_isRecord 394 = .ok (.invokevirtual 263, 3) := by decide +kernel
theorem d_Mo_isRecord_397 : decode b_Mo_isRecord 397 = .ok (.ifCond .eq 7, 3) := by decide +kernel
theorem d_Mo_isRecord_404 : decode b_Mo_isRecord 404 = .ok (.iconst 0, 1) := by decide +kernel
theorem d_Mo_isRecord_354 : decode b_Mo_isRecord 354 = .ok (.iload 10, 2) := by decide +kernel
theorem d_Mo_isRecord_356 : decode b_Mo_isRecord 356 = .ok (.ifCond .le 20, 3) := by decide +kernel
theorem d_Mo_isRecord_359 : decode b_Mo_isRecord 359 = .ok (.iload 10, 2) := by decide +kernel
theorem d_Mo_isRecord_361 : decode b_Mo_isRecord 361 = .ok (.sipush 2048, 3) := by decide +kernel
theorem d_Mo_isRecord_364 : decode b_Mo_isRecord 364 = .ok (.irem, 1) := by decide +kernel
theorem d_Mo_isRecord_365 : decode b_Mo_isRecord 365 = .ok (.ifCond .eq 17, 3) := by decide +kernel
theorem d_Mo_isRecord_368 : decode b_Mo_isRecord 368 = .ok (.goto 8, 3) := by decide +kernel
theorem d_Mo_isRecord_195 : decode b_Mo_isRecord 195 = .ok (.iload_n 2, 1) := by decide +kernel
theorem d_Mo_isRecord_196 : decode b_Mo_isRecord 196 = .ok (.iconst 2, 1) := by decide +kernel
theorem d_Mo_isRecord_197 : decode b_Mo_isRecord 197 = .ok (.if_icmp .ge 36, 3) := by decide +kernel
theorem d_Mo_isRecord_233 : decode b_Mo_isRecord 233 = .ok (.iload 8, 2) := by decide +kernel
theorem d_Mo_isRecord_235 : decode b_Mo_isRecord 235 = .ok (.ifCond .eq 18, 3) := by decide +kernel
theorem d_Mo_isRecord_253 : decode b_Mo_isRecord 253 = .ok (.aload_n 0, 1) := by decide +kernel
theorem d_Mo_isRecord_254 : decode b_Mo_isRecord 254 = .ok (.iload_n 1, 1) := by decide +kernel
theorem d_Mo_isRecord_255 : decode b_Mo_isRecord 255 = .ok (.bipush 33, 2) := by decide +kernel
theorem d_Mo_isRecord_257 : decode b_Mo_isRecord 257 = .ok (.iadd, 1) := by decide +kernel
theorem d_Mo_isRecord_258 : decode b_Mo_isRecord 258 = .ok (.iload 5, 2) := by decide +kernel
theorem d_Mo_isRecord_260 : decode b_Mo_isRecord 260 = .ok (.iconst 3, 1) := by decide +kernel
theorem d_Mo_isRecord_261 : decode b_Mo_isRecord 261 = .ok (.isub, 1) := by decide +kernel
theorem d_Mo_isRecord_262 : decode b_Mo_isRecord 262 = .ok (.invokevirtual 272, 3) := by decide +kernel
theorem d_Mo_isRecord_265 : decode b_Mo_isRecord 265 = .ok (.ifCond .eq 55, 3) := by decide +kernel
theorem d_Mo_isRecord_320 : decode b_Mo_isRecord 320 = .ok (.iconst 0, 1) := by decide +kernel
theorem d_Mo_isRecord_321 : decode b_Mo_isRecord 321 = .ok (.istore 6, 2) := by decide +kernel
theorem d_Mo_isRecord_268 : decode b_Mo_isRecord 268 = .ok (.aload_n 0, 1) := by decide +kernel
theorem d_Mo_isRecord_269 : decode b_Mo_isRecord 269 = .ok (.iload_n 1, 1) := by decide +kernel
theorem d_Mo_isRecord_270 : decode b_Mo_isRecord 270 = .ok (.bipush 30, 2) := by decide +kernel
theorem d_Mo_isRecord_272 : decode b_Mo_isRecord 272 = .ok (.iadd, 1) := by decide +kernel
theorem d_Mo_isRecord_273 : decode b_Mo_isRecord 273 = .ok (.iload 5, 2) := by decide +kernel
theorem d_Mo_isRecord_275 : decode b_Mo_isRecord 275 = .ok (.iadd, 1) := by decide +kernel
theorem d_Mo_isRecord_276 : decode b_Mo_isRecord 276 = .ok (.invokevirtual 225, 3) := by decide +kernel
theorem d_Mo_isRecord_279 : decode b_Mo_isRecord 279 = .ok (.bipush 46, 2) := by decide +kernel
theorem d_Mo_isRecord_281 : decode b_Mo_isRecord 281 = .ok (.if_icmp .ne 39, 3) := by decide +kernel
theorem d_Mo_isRecord_284 : decode b_Mo_isRecord 284 = .ok (.aload_n 0, 1) := by decide +kernel
theorem d_Mo_isRecord_285 : decode b_Mo_isRecord 285 = .ok (.iload_n 1, 1) := by decide +kernel
theorem d_Mo_isRecord_286 : decode b_Mo_isRecord 286 = .ok (.bipush 31, 2) := by decide +kernel
theorem d_Mo_isRecord_288 : decode b_Mo_isRecord 288 = .ok (.iadd, 1) := by decide +kernel
theorem d_Mo_isRecord_289 : decode b_Mo_isRecord 289 = .ok (.iload 5, 2) := by decide +kernel
theorem d_Mo_isRecord_291 : decode b_Mo_isRecord 291 = .ok (.iadd, 1) := by decide +kernel
theorem d_Mo_isRecord_292 : decode b_Mo_isRecord 292 = .ok (.invokevirtual 225, 3) := by decide +kernel
theorem d_Mo_isRecord_295 : decode b_Mo_isRecord 295 = .ok (.bipush 59, 2) := by decide +kernel
theorem d_Mo_isRecord_297 : decode b_Mo_isRecord 297 = .ok (.if_icmp .ne 23, 3) := by decide +kernel
theorem d_Mo_isRecord_300 : decode b_Mo_isRecord 300 = .ok (.aload_n 0, 1) := by decide +kernel
theorem d_Mo_isRecord_301 : decode b_Mo_isRecord 301 = .ok (.iload_n 1, 1) := by decide +kernel
theorem d_Mo_isRecord_302 : decode b_Mo_isRecord 302 = .ok (.bipush 32, 2) := by decide +kernel
theorem d_Mo_isRecord_304 : decode b_Mo_isRecord 304 = .ok (.iadd, 1) := by decide +kernel
theorem d_Mo_isRecord_305 : decode b_Mo_isRecord 305 = .ok (.iload 5, 2) := by decide +kernel
theorem d_Mo_isRecord_307 : decode b_Mo_isRecord 307 = .ok (.iadd, 1) := by decide +kernel
theorem d_Mo_isRecord_308 : decode b_Mo_isRecord 308 = .ok (.invokevirtual 225, 3) := by decide +kernel
theorem d_Mo_isRecord_311 : decode b_Mo_isRecord 311 = .ok (.bipush 49, 2) := by decide +kernel
theorem d_Mo_isRecord_313 : decode b_Mo_isRecord 313 = .ok (.if_icmp .ne 7, 3) := by decide +kernel
theorem d_Mo_isRecord_316 : decode b_Mo_isRecord 316 = .ok (.iconst 1, 1) := by decide +kernel
theorem d_Mo_isRecord_317 : decode b_Mo_isRecord 317 = .ok (.goto 4, 3) := by decide +kernel
theorem d_Mo_isRecord_238 : decode b_Mo_isRecord 238 = .ok (.aload_n 0, 1) := by decide +kernel
theorem d_Mo_isRecord_239 : decode b_Mo_isRecord 239 = .ok (.iload_n 1, 1) := by decide +kernel
theorem d_Mo_isRecord_240 : decode b_Mo_isRecord 240 = .ok (.bipush 33, 2) := by decide +kernel
theorem d_Mo_isRecord_242 : decode b_Mo_isRecord 242 = .ok (.iadd, 1) := by decide +kernel
theorem d_Mo_isRecord_243 : decode b_Mo_isRecord 243 = .ok (.iload 5, 2) := by decide +kernel
theorem d_Mo_isRecord_245 : decode b_Mo_isRecord 245 = .ok (.invokevirtual 272, 3) := by decide +kernel
theorem d_Mo_isRecord_248 : decode b_Mo_isRecord 248 = .ok (.istore 6, 2) := by decide +kernel
theorem d_Mo_isRecord_250 : decode b_Mo_isRecord 250 = .ok (.goto 73, 3) := by decide +kernel
theorem d_Mo_isRecord_200 : decode b_Mo_isRecord 200 = .ok (.iload 8, 2) := by decide +kernel
theorem d_Mo_isRecord_202 : decode b_Mo_isRecord 202 = .ok (.ifCond .eq 25, 3) := by decide +kernel
theorem d_Mo_isRecord_227 : decode b_Mo_isRecord 227 = .ok (.iconst 0, 1) := by decide +kernel
theorem d_Mo_isRecord_228 : decode b_Mo_isRecord 228 = .ok (.istore 6, 2) := by decide +kernel
theorem d_Mo_isRecord_230 : decode b_Mo_isRecord 230 = .ok (.goto 93, 3) := by decide +kernel
theorem d_Mo_isRecord_205 : decode b_Mo_isRecord 205 = .ok (.iload 5, 2) := by decide +kernel
theorem d_Mo_isRecord_207 : decode b_Mo_isRecord 207 = .ok (.iconst 1, 1) := by decide +kernel
theorem d_Mo_isRecord_208 : decode b_Mo_isRecord 208 = .ok (.if_icmp .ne 19, 3) := by decide +kernel
theorem d_Mo_isRecord_211 : decode b_Mo_isRecord 211 = .ok (.aload_n 0, 1) := by decide +kernel
theorem d_Mo_isRecord_212 : decode b_Mo_isRecord 212 = .ok (.iload_n 1, 1) := by decide +kernel
theorem d_Mo_isRecord_213 : decode b_Mo_isRecord 213 = .ok (.bipush 33, 2) := by decide +kernel
theorem d_Mo_isRecord_215 : decode b_Mo_isRecord 215 = .ok (.iadd, 1) := by decide +kernel
theorem d_Mo_isRecord_216 : decode b_Mo_isRecord 216 = .ok (.invokevirtual 225, 3) := by decide +kernel
theorem d_Mo_isRecord_219 : decode b_Mo_isRecord 219 = .ok (.iload_n 2, 1) := by decide +kernel
theorem d_Mo_isRecord_220 : decode b_Mo_isRecord 220 = .ok (.if_icmp .ne 7, 3) := by decide +kernel
theorem d_Mo_isRecord_223 : decode b_Mo_isRecord 223 = .ok (.iconst 1, 1) := by decide +kernel
theorem d_Mo_isRecord_224 : decode b_Mo_isRecord 224 = .ok (.goto 4, 3) := by decide +kernel
theorem d_Mo_isRecord_182 : decode b_Mo_isRecord 182 = .ok (.iload 7, 2) := by decide +kernel
theorem d_Mo_isRecord_184 : decode b_Mo_isRecord 184 = .ok (.iconst 2, 1) := by decide +kernel
theorem d_Mo_isRecord_185 : decode b_Mo_isRecord 185 = .ok (.if_icmp .ne 7, 3) := by decide +kernel
theorem d_Mo_isRecord_192 : decode b_Mo_isRecord 192 = .ok (.iconst 0, 1) := by decide +kernel
theorem d_Mo_isRecord_188 : decode b_Mo_isRecord 188 = .ok (.iconst 1, 1) := by decide +kernel
theorem d_Mo_isRecord_189 : decode b_Mo_isRecord 189 = .ok (.goto 4, 3) := by decide +kernel
theorem d_Mo_isRecord_170 : decode b_Mo_isRecord 170 = .ok (.iload 7, 2) := by decide +kernel
theorem d_Mo_isRecord_172 : decode b_Mo_isRecord 172 = .ok (.iconst 2, 1) := by decide +kernel
theorem d_Mo_isRecord_173 : decode b_Mo_isRecord 173 = .ok (.if_icmp .eq 9, 3) := by decide +kernel
theorem d_Mo_isRecord_46 : decode b_Mo_isRecord 46 = .ok (.iload 4, 2) := by decide +kernel
theorem d_Mo_isRecord_48 : decode b_Mo_isRecord 48 = .ok (.bipush 33, 2) := by decide +kernel
theorem d_Mo_isRecord_50 : decode b_Mo_isRecord 50 = .ok (.iload 5, 2) := by decide +kernel
theorem d_Mo_isRecord_52 : decode b_Mo_isRecord 52 = .ok (.iadd, 1) := by decide +kernel
theorem d_Mo_isRecord_53 : decode b_Mo_isRecord 53 = .ok (.invokestatic 196, 3) := by decide +kernel
theorem d_Mo_isRecord_56 : decode b_Mo_isRecord 56 = .ok (.if_icmp .ne 91, 3) := by decide +kernel
theorem d_Mo_isRecord_147 : decode b_Mo_isRecord 147 = .ok (.iconst 0, 1) := by decide +kernel
theorem d_Mo_isRecord_59 : decode b_Mo_isRecord 59 = .ok (.iload 5, 2) := by decide +kernel
theorem d_Mo_isRecord_61 : decode b_Mo_isRecord 61 = .ok (.iconst 2, 1) := by decide +kernel
theorem d_Mo_isRecord_62 : decode b_Mo_isRecord 62 = .ok (.irem, 1) := by decide +kernel
theorem d_Mo_isRecord_63 : decode b_Mo_isRecord 63 = .ok (.iconst 1, 1) := by decide +kernel
theorem d_Mo_isRecord_64 : decode b_Mo_isRecord 64 = .ok (.if_icmp .eq 17, 3) := by decide +kernel
theorem d_Mo_isRecord_81 : decode b_Mo_isRecord 81 = .ok (.aload_n 0, 1) := by decide +kernel
theorem d_Mo_isRecord_82 : decode b_Mo_isRecord 82 = .ok (.iload_n 1, 1) := by decide +kernel
theorem d_Mo_isRecord_83 : decode b_Mo_isRecord 83 = .ok (.iconst 2, 1) := by decide +kernel
theorem d_Mo_isRecord_84 : decode b_Mo_isRecord 84 = .ok (.iadd, 1) := by decide +kernel
theorem d_Mo_isRecord_85 : decode b_Mo_isRecord 85 = .ok (.iconst 4, 1) := by decide +kernel
theorem d_Mo_isRecord_86 : decode b_Mo_isRecord 86 = .ok (.invokevirtual 266, 3) := by decide +kernel
theorem d_Mo_isRecord_89 : decode b_Mo_isRecord 89 = .ok (.aload_n 0, 1) := by decide +kernel
theorem d_Mo_isRecord_90 : decode b_Mo_isRecord 90 = .ok (.iload_n 1, 1) := by decide +kernel
theorem d_Mo_isRecord_91 : decode b_Mo_isRecord 91 = .ok (.bipush 6, 2) := by decide +kernel
theorem d_Mo_isRecord_93 : decode b_Mo_isRecord 93 = .ok (.iadd, 1) := by decide +kernel
theorem d_Mo_isRecord_94 : decode b_Mo_isRecord 94 = .ok (.iconst 4, 1) := by decide +kernel
theorem d_Mo_isRecord_95 : decode b_Mo_isRecord 95 = .ok (.invokevirtual 269, 3) := by decide +kernel
theorem d_Mo_isRecord_98 : decode b_Mo_isRecord 98 = .ok (.if_icmp .ne 49, 3) := by decide +kernel
theorem d_Mo_isRecord_101 : decode b_Mo_isRecord 101 = .ok (.aload_n 0, 1) := by decide +kernel
theorem d_Mo_isRecord_102 : decode b_Mo_isRecord 102 = .ok (.iload_n 1, 1) := by decide +kernel
theorem d_Mo_isRecord_103 : decode b_Mo_isRecord 103 = .ok (.bipush 10, 2) := by decide +kernel
theorem d_Mo_isRecord_105 : decode b_Mo_isRecord 105 = .ok (.iadd, 1) := by decide +kernel
theorem d_Mo_isRecord_106 : decode b_Mo_isRecord 106 = .ok (.iconst 4, 1) := by decide +kernel
theorem d_Mo_isRecord_107 : decode b_Mo_isRecord 107 = .ok (.invokevirtual 266, 3) := by decide +kernel
theorem d_Mo_isRecord_110 : decode b_Mo_isRecord 110 = .ok (.aload_n 0, 1) := by decide +kernel
theorem d_Mo_isRecord_111 : decode b_Mo_isRecord 111 = .ok (.iload_n 1, 1) := by decide +kernel
theorem d_Mo_isRecord_112 : decode b_Mo_isRecord 112 = .ok (.bipush 14, 2) := by decide +kernel
theorem d_Mo_isRecord_114 : decode b_Mo_isRecord 114 = .ok (.iadd, 1) := by decide +kernel
theorem d_Mo_isRecord_115 : decode b_Mo_isRecord 115 = .ok (.iconst 4, 1) := by decide +kernel
theorem d_Mo_isRecord_116 : decode b_Mo_isRecord 116 = .ok (.invokevirtual 269, 3) := by decide +kernel
theorem d_Mo_isRecord_119 : decode b_Mo_isRecord 119 = .ok (.if_icmp .ne 28, 3) := by decide +kernel
theorem d_Mo_isRecord_122 : decode b_Mo_isRecord 122 = .ok (.aload_n 0, 1) := by decide +kernel
theorem d_Mo_isRecord_123 : decode b_Mo_isRecord 123 = .ok (.iload_n 1, 1) := by decide +kernel
theorem d_Mo_isRecord_124 : decode b_Mo_isRecord 124 = .ok (.bipush 28, 2) := by decide +kernel
theorem d_Mo_isRecord_126 : decode b_Mo_isRecord 126 = .ok (.iadd, 1) := by decide +kernel
theorem d_Mo_isRecord_127 : decode b_Mo_isRecord 127 = .ok (.iconst 2, 1) := by decide +kernel
theorem d_Mo_isRecord_128 : decode b_Mo_isRecord 128 = .ok (.invokevirtual 266, 3) := by decide +kernel
theorem d_Mo_isRecord_131 : decode b_Mo_isRecord 131 = .ok (.aload_n 0, 1) := by decide +kernel
theorem d_Mo_isRecord_132 : decode b_Mo_isRecord 132 = .ok (.iload_n 1, 1) := by decide +kernel
theorem d_Mo_isRecord_133 : decode b_Mo_isRecord 133 = .ok (.bipush 30, 2) := by decide +kernel
theorem d_Mo_isRecord_135 : decode b_Mo_isRecord 135 = .ok (.iadd, 1) := by decide +kernel
theorem d_Mo_isRecord_136 : decode b_Mo_isRecord 136 = .ok (.iconst 2, 1) := by decide +kernel
theorem d_Mo_isRecord_137 : decode b_Mo_isRecord 137 = .ok (.invokevirtual 269, 3) := by decide +kernel
theorem d_Mo_isRecord_140 : decode b_Mo_isRecord 140 = .ok (.if_icmp .ne 7, 3) := by decide +kernel
theorem d_Mo_isRecord_143 : decode b_Mo_isRecord 143 = .ok (.iconst 1, 1) := by decide +kernel
theorem d_Mo_isRecord_144 : decode b_Mo_isRecord 144 = .ok (.goto 4, 3) := by decide +kernel
theorem d_Mo_isRecord_67 : decode b_Mo_isRecord 67 = .ok (.aload_n 0, 1) := by decide +kernel
theorem d_Mo_isRecord_68 : decode b_Mo_isRecord 68 = .ok (.iload_n 1, 1) := by decide +kernel
theorem d_Mo_isRecord_69 : decode b_Mo_isRecord 69 = .ok (.bipush 33, 2) := by decide +kernel
theorem d_Mo_isRecord_71 : decode b_Mo_isRecord 71 = .ok (.iadd, 1) := by decide +kernel
theorem d_Mo_isRecord_72 : decode b_Mo_isRecord 72 = .ok (.iload 5, 2) := by decide +kernel
theorem d_Mo_isRecord_74 : decode b_Mo_isRecord 74 = .ok (.iadd, 1) := by decide +kernel
theorem d_Mo_isRecord_75 : decode b_Mo_isRecord 75 = .ok (.invokevirtual 225, 3) := by decide +kernel
theorem d_Mo_isRecord_78 : decode b_Mo_isRecord 78 = .ok (.ifCond .ne 69, 3) := by decide +kernel
/-! MY OWN ROWS: what is read -/
def loF (b : Nat → Int32) (sd p : Int32) : Nat → Int32 → Int32
  | 0, v => v
  | k + 1, v => loF b sd p k ((v <<< (8 &&& 31)) ||| gB b sd (p + nI k))
theorem loF_s {b : Nat → Int32} {sd p i j v va vb r s : Int32} (h0 : 0 ≤ i.toInt) (hj : j.toInt = i.toInt - 1) (eb : vb = va ||| r) (ea : va = v <<< (8 &&& 31)) (er : r = gB b sd s) (es : s = p + i) : loF b sd p (j.toInt + 1).toNat vb = loF b sd p (i.toInt + 1).toNat v := by
  rw [show (i.toInt + 1).toNat = i.toInt.toNat + 1 by omega, show (j.toInt + 1).toNat = i.toInt.toNat by omega, eb, ea, er, es]
  show _ = loF b sd p i.toInt.toNat _
  rw [nI_to h0]
theorem aw_sum {f : Int32} {c v1 v2 : Int64} (e1 : v1 = f.toInt64) (e2 : v2 = v1 + c) (hc : 0 ≤ c.toInt ∧ c.toInt ≤ 2000000) : v2.toInt = f.toInt + c.toInt := by
  have h1 := iUp f
  have h2 := iDn f
  rw [e2, e1, Int64.toInt_add, Int32.toInt_toInt64]
  exact Int.bmod_eq_of_le (by omega) (by omega)
theorem aw_le {f k : Int32} {c v1 v2 v3 : Int64} (e1 : v1 = f.toInt64) (e2 : v2 = v1 + c) (e3 : v3 = k.toInt64) (hc : 0 ≤ c.toInt ∧ c.toInt ≤ 2000000) (h : lg_cmp v2 v3 ≤ 0) : f.toInt + c.toInt ≤ k.toInt := by
  have h1 := Int64.le_iff_toInt_le.mp ((lg_cmp_le v2 v3).mp h)
  rw [aw_sum e1 e2 hc, e3, Int32.toInt_toInt64] at h1
  exact h1
theorem aw_lt {f k : Int32} {c v1 v2 v3 : Int64} (e3 : v3 = k.toInt64) (e1 : v1 = f.toInt64) (e2 : v2 = v1 + c) (hc : 0 ≤ c.toInt ∧ c.toInt ≤ 2000000) (h : ¬ 0 ≤ lg_cmp v3 v2) : k.toInt < f.toInt + c.toInt := by
  have h1 : v3 < v2 := Int64.not_le.mp (fun z => h ((lg_cmp_ge v3 v2).mpr z))
  have h1 := Int64.lt_iff_toInt_lt.mp h1
  rw [aw_sum e1 e2 hc, e3, Int32.toInt_toInt64] at h1
  exact h1
theorem ld_ok {z : Int32} {v1 v2 v3 : Int64} (e1 : v1 = z.toInt64) (e2 : v2 = v1 + 2047) (e3 : v3 = v2 / 2048) (h : 0 ≤ z.toInt) : v3.toInt = (z.toInt + 2047) / 2048 := by
  have h1 := iUp z
  have h2 : v2.toInt = z.toInt + 2047 := by
    rw [e2, e1, Int64.toInt_add, Int32.toInt_toInt64]
    exact Int.bmod_eq_of_le (by have : (2047 : Int64).toInt = 2047 := rfl; omega) (by have : (2047 : Int64).toInt = 2047 := rfl; omega)
  rw [e3, lg_ldiv_nonneg (by omega) (by decide), h2]
  rfl
/-- a record that was found right -/
def recQ (b : Nat → Int32) (sd p : Int32) (n : Nat) : Prop := ∃ le id sz fr : Int32, gB b sd p = le ∧ gB b sd (p + 32) = id ∧ loF b sd (p + 10) 4 0 = sz ∧ loF b sd (p + 2) 4 0 = fr ∧ (p.toInt % 2048 + le.toInt ≤ 2048 ∧ 34 ≤ le.toInt ∧ le.toInt ≤ 255 ∧ 33 + id.toInt ≤ le.toInt ∧ 0 ≤ id.toInt) ∧ (0 ≤ sz.toInt ∧ 0 ≤ fr.toInt ∧ fr.toInt * 2048 + sz.toInt ≤ 2048 * n)
/-- the nodes read so far -/
def seQ (ab sz sc : Nat → Int32) (m n : Nat) : Prop := ∀ k, k < m → ((ab k).toInt < k ∧ -1 ≤ (ab k).toInt) ∧ (k ≠ 0 → 0 ≤ (ab k).toInt) ∧ (0 ≤ (sz k).toInt ∧ 0 ≤ (sc k).toInt ∧ (sc k).toInt * 2048 + (sz k).toInt ≤ 2048 * n)
theorem seQ_0 {ab sz sc : Nat → Int32} {n : Nat} : seQ ab sz sc 0 n := fun k hk => absurd hk (Nat.not_lt_zero k)
theorem seQ_z {ab sz sc : Nat → Int32} {n : Nat} {z : Int32} (h : z.toInt = 0) : seQ ab sz sc z.toInt.toNat n := by
  rw [h]
  exact seQ_0
theorem seQ_1 {ab sz sc : Nat → Int32} {n : Nat} {s f : Int32} (h : 0 ≤ s.toInt ∧ 0 ≤ f.toInt ∧ f.toInt * 2048 + s.toInt ≤ 2048 * n) : seQ (upd ab 0 (-1)) (upd sz 0 s) (upd sc 0 f) 1 n := fun k hk => by
  obtain rfl : k = 0 := by omega
  rw [upd_s, upd_s, upd_s]
  exact ⟨by decide, fun z => absurd rfl z, h⟩
theorem seQ_s {ab sz sc : Nat → Int32} {m n : Nat} {d s f : Int32} (hS : seQ ab sz sc m n) (hd : 0 ≤ d.toInt ∧ d.toInt < m) (h : 0 ≤ s.toInt ∧ 0 ≤ f.toInt ∧ f.toInt * 2048 + s.toInt ≤ 2048 * n) : seQ (upd ab m d) (upd sz m s) (upd sc m f) (m + 1) n := fun k hk => by
  by_cases hm : k = m
  · subst hm
    rw [upd_s, upd_s, upd_s]
    exact ⟨⟨hd.2, by omega⟩, fun _ => hd.1, h⟩
  · rw [upd_n _ hm, upd_n _ hm, upd_n _ hm]
    exact hS k (by omega)
theorem seQ_u {ab sz sc : Nat → Int32} {m m' n : Nat} (hS : seQ ab sz sc m' n) (h : m ≤ m') : seQ ab sz sc m n := fun k hk => hS k (by omega)
theorem seQ_at {ab sz sc : Nat → Int32} {n : Nat} {d m : Int32} (hS : seQ ab sz sc m.toInt.toNat n) (h0 : 0 ≤ d.toInt) (hd : d.toInt < m.toInt) : ((ab d.toInt.toNat).toInt < d.toInt ∧ -1 ≤ (ab d.toInt.toNat).toInt) ∧ (d.toInt ≠ 0 → 0 ≤ (ab d.toInt.toNat).toInt) ∧ (0 ≤ (sz d.toInt.toNat).toInt ∧ 0 ≤ (sc d.toInt.toNat).toInt ∧ (sc d.toInt.toNat).toInt * 2048 + (sz d.toInt.toNat).toInt ≤ 2048 * n) := by
  obtain ⟨⟨h1, h2⟩, h3, h4⟩ := hS d.toInt.toNat (toN_lt h0 hd)
  exact ⟨⟨by omega, h2⟩, fun z => h3 (by omega), h4⟩

set_option maxHeartbeats 4000000 in
set_option maxRecDepth 100000 in
theorem m_lowAt (l : Launch) (D : va_G) (t : Nat → ClassId) (G : hG) (ak av : Nat → Nat) (h : hM) (τ : tM) (n : Nat) (m9 : Nat) (p9 : Int32) (c9 : Int32) (A : Nat → Nat) (th sd lo le wr ma nu di pl se wg op : Int32) (hn : n ≤ 200) (hT : TI τ t n h) (T_m9 : τ m9 = (20, 0)) (F_m9 : h m9 = some (.inr (9, mf A n th sd lo le wr ma nu di pl se wg op))) (hA : ∀ i, i < 28 → τ (A i) = (30, i)) (hmk : mOk sd lo ma se op) (hp0 : 0 ≤ p9.toInt) (hc0 : 0 ≤ c9.toInt) (hp1 : p9.toInt + c9.toInt ≤ 409600) : Met l y_Mo_lowAt (.code y_Mo_lowAt b_Mo_lowAt 5 (some .int) :: lw_g) { frames := 1, cells := 0, slots := 0, locals := 21 } (hP (kE D t G ak av) D vwCl G h [.ref m9, .int p9, .int c9]) (hQi D vwCl G (fun r h' => r = loF (aI h (A 0)) sd p9 c9.toInt.toNat 0 ∧ h = h')) 0 0 nof := by
  refine Met.ofW (cc := b_Mo_lowAt) (maxL := 5) (ret := (some .int)) (by decide) rfl ?_
  intro p e s m args below meth c s₁ Bd hml hv
  obtain ⟨ha, hE, hH⟩ := hv
  have hx := Bd.exec
  have hb := Bd.bytes
  have hr := Bd.returns
  have hts : ∀ w ∈ lw_g, w.before args s = true := fun w hw => atoms_spec (ws := (.code y_Mo_lowAt b_Mo_lowAt 5 (some .int) :: lw_g)) Bd.pre w (List.mem_cons_of_mem _ hw)
  have hown : s.vm.findClass R_Mo = some m.cls := findClass_of_methodNamed Bd.named
  have hlocks := Bd.notSynchronized
  have hK := hE.1
  have hH0 := hH
  have hLo : hLc nof [] := hLc_nil
  have hz : s.heap.size ≤ s.heap.size := Nat.le_refl _
  have hl := lv_entry [.ref m9, .int p9, .int c9] (n := 5) (Nat.le_of_ble_eq_true rfl)
  rw [show entryFrame m args 5 = F0 m 0 ((lg_sl [.ref m9, .int p9, .int c9] ++ List.replicate (5 - (lg_sl [.ref m9, .int p9, .int c9]).length) Slot.unset).toArray) [] from (by rw [ha]; exact lg_entry_eq m [.ref m9, .int p9, .int c9] 5)]
  generalize (lg_sl [.ref m9, .int p9, .int c9] ++ List.replicate (5 - (lg_sl [.ref m9, .int p9, .int c9]).length) Slot.unset).toArray = ls at hl ⊢
  have hl : lv_has ls 5 [(0, .ref m9), (1, .int p9), (2, .int c9)] := hl
  obtain ⟨hsd, hlo, hma, hse, hop⟩ := id hmk
  have inI : (nI n).toInt = n := nI_toInt (by omega)
  obtain ⟨g_1, F_A0, c_2⟩ := TI_arB (L := 819200) hT (hA 0 (by decide)) rfl rfl
  refine lv_iconst (v := 0) hx hb d_Mo_lowAt_0 (by decide) ?_
  refine lv_istore_n (lv' := [(3, .int 0), (0, .ref m9), (1, .int p9), (2, .int c9)]) hx hb d_Mo_lowAt_1 rfl hl (by decide) rfl (fun ls hl => ?_)
  refine lv_iload_n hx hb d_Mo_lowAt_2 rfl (lv_at hl 3 rfl) ?_
  refine lv_iconst (v := 1) hx hb d_Mo_lowAt_3 (by decide) ?_
  refine lv_isub hx hb d_Mo_lowAt_4 ?_
  refine lv_topi (fun v_3 e_4 => ?_)
  refine lv_istore (lv' := [(4, .int v_3), (3, .int 0), (0, .ref m9), (1, .int p9), (2, .int c9)]) hx hb d_Mo_lowAt_5 hl (by decide) rfl (fun ls hl => ?_)
  have is_5 : v_3.toInt = c9.toInt - 1 := by rw [e_4]; exact iDecS 1 rfl (by decide) (by omega)
  refine hm_loop (fun k7 ls H locs hh7 => ∃ (v9 : Int32) (i9 : Int32), k7 = mD i9 ∧ lv_has ls 5 [(0, .ref m9), (1, .int p9), (2, .int c9), (3, .int v9), (4, .int i9)] ∧ hm D vwCl G hh7 H ∧ s.heap.size ≤ H.size ∧ hLc nof locs ∧ (h = hh7) ∧ (-1 ≤ i9.toInt ∧ i9.toInt < c9.toInt) ∧ (loF g_1 sd p9 (i9.toInt + 1).toNat v9 = loF g_1 sd p9 c9.toInt.toNat 0)) ?_ (hh := h) ⟨0, v_3, rfl, (lv_sub hl [2, 3, 4, 1, 0] rfl), hH, hz, hLo, rfl, ⟨by omega, by omega⟩, (by rw [show (v_3.toInt + 1).toNat = c9.toInt.toNat by omega])⟩
  rintro k7 ls H locs hh7 ⟨v9, i9, hk7, hl, hH, hz, hLo, rfl, I_i9, hF9⟩ ih7
  refine lv_iload hx hb d_Mo_lowAt_7 (lv_at hl 4 rfl) ?_
  refine lv_if_lt (tgt := 32) hx hb d_Mo_lowAt_9 (by decide) (fun hc_6 => ?_) (fun hc_6 => ?_)
  · skip
    have ic_7 : i9.toInt < 0 := iLt hc_6
    refine lv_iload_n hx hb d_Mo_lowAt_32 rfl (lv_at hl 3 rfl) ?_
    exact W.iret (v := v9) hx hb hr (fun t9 ht hW => ⟨v9, h, rfl, ⟨(by rw [aI_of F_A0, ← hF9, show (i9.toInt + 1).toNat = 0 by omega]; rfl), rfl⟩, by rw [ht]; exact hH, by rw [ht]; exact hz⟩) hLo d_Mo_lowAt_33
  · skip
    have ic_8 : 0 ≤ i9.toInt := iNl hc_6
    refine lv_iload_n hx hb d_Mo_lowAt_12 rfl (lv_at hl 3 rfl) ?_
    refine lv_bipush (v := 8) hx hb d_Mo_lowAt_13 (by decide) ?_
    refine lv_ishl hx hb d_Mo_lowAt_15 ?_
    refine lv_topi (fun v_9 e_10 => ?_)
    refine lv_aload_n hx hb d_Mo_lowAt_16 rfl (lv_at hl 0 rfl) ?_
    refine lv_iload_n hx hb d_Mo_lowAt_17 rfl (lv_at hl 1 rfl) ?_
    refine lv_iload hx hb d_Mo_lowAt_18 (lv_at hl 4 rfl) ?_
    refine lv_iadd hx hb d_Mo_lowAt_20 ?_
    refine lv_topi (fun v_11 e_12 => ?_)
    have is_13 : v_11.toInt = p9.toInt + i9.toInt := by rw [e_12]; exact iAdd (by omega) (by omega)
    refine hm_callPi (va_runV (As := [.int v_11]) (b := m9) (rest := [.int v_9]) ⟨hx, hb, hml, hown, hts⟩ (m_get l D t G ak av h τ n m9 v_11 A th sd lo le wr ma nu di pl se wg op   hn hT T_m9  F_m9 hA ⟨hsd, hlo, (by omega), ⟨by omega, by omega⟩, ⟨by omega, by omega⟩⟩ (by omega) (by omega)) ⟨cw9B 1 hts mw_698 mw_699 mw_579 rfl rfl (by decide +kernel) ⟨Nat.le_of_ble_eq_true rfl, Nat.le_of_ble_eq_true rfl⟩, hts _ mw_700, hts _ mw_701⟩ (hP_V (q := (R_Mo, F_Mo, 41)) kE_ok hE hK hH F_m9 rfl) rfl rfl hl.1 rfl (lv_room (Nat.le_of_ble_eq_true rfl)) d_Mo_lowAt_21 ⟨Nat.le_of_ble_eq_true rfl, Nat.le_of_ble_eq_true rfl⟩) (fun r_14 h_15 H_16 hp_18  hH z_17 => ?_)
    have hz : s.heap.size ≤ H_16.size := Nat.le_trans hz z_17
    obtain ⟨xp_19, rfl⟩ := hp_18
    obtain ⟨ia_20, eg_21⟩ := xp_19
    rw [aI_of F_A0] at eg_21
    refine lv_ior hx hb d_Mo_lowAt_24 ?_
    refine lv_topi (fun v_22 e_23 => ?_)
    refine lv_istore_n (lv' := [(3, .int v_22), (0, .ref m9), (1, .int p9), (2, .int c9), (4, .int i9)]) hx hb d_Mo_lowAt_25 rfl hl (by decide) rfl (fun ls hl => ?_)
    obtain ⟨j_24, e_25⟩ : ∃ z : Int32, z = i9 + (-1) := ⟨_, rfl⟩
    refine lv_iinc (v := j_24) (lv' := [(4, .int j_24), (3, .int v_22), (0, .ref m9), (1, .int p9), (2, .int c9)]) hx hb d_Mo_lowAt_26 hl (k := 4) rfl e_25.symm (by decide) rfl (fun ls hl => ?_)
    refine lv_goto (tgt := 7) hx hb d_Mo_lowAt_29 (by decide) ?_
    have is_26 : j_24.toInt = i9.toInt + -1 := by rw [e_25]; exact iDecK 1 rfl (by decide) (by omega)
    exact ih7 (mD j_24) ls _ locs _ (by rw [hk7]; exact mD_lt (by omega)) ⟨v_22, j_24, rfl, (lv_sub hl [2, 3, 4, 1, 0] rfl), hH, hz, hLo, rfl, ⟨by omega, by omega⟩, (by rw [← hF9]; exact loF_s (by omega) (by omega) e_23 e_10 eg_21 e_12)⟩

set_option maxHeartbeats 4000000 in
set_option maxRecDepth 100000 in
theorem m_highAt (l : Launch) (D : va_G) (t : Nat → ClassId) (G : hG) (ak av : Nat → Nat) (h : hM) (τ : tM) (n : Nat) (m9 : Nat) (p9 : Int32) (c9 : Int32) (A : Nat → Nat) (th sd lo le wr ma nu di pl se wg op : Int32) (hn : n ≤ 200) (hT : TI τ t n h) (T_m9 : τ m9 = (20, 0)) (F_m9 : h m9 = some (.inr (9, mf A n th sd lo le wr ma nu di pl se wg op))) (hA : ∀ i, i < 28 → τ (A i) = (30, i)) (hmk : mOk sd lo ma se op) (hp0 : 0 ≤ p9.toInt) (hc0 : 0 ≤ c9.toInt) (hp1 : p9.toInt + c9.toInt ≤ 409600) : Met l y_Mo_highAt (.code y_Mo_highAt b_Mo_highAt 5 (some .int) :: lw_g) { frames := 1, cells := 0, slots := 0, locals := 21 } (hP (kE D t G ak av) D vwCl G h [.ref m9, .int p9, .int c9]) (hQi D vwCl G (fun r h' => h = h')) 0 0 nof := by
  refine Met.ofW (cc := b_Mo_highAt) (maxL := 5) (ret := (some .int)) (by decide) rfl ?_
  intro p e s m args below meth c s₁ Bd hml hv
  obtain ⟨ha, hE, hH⟩ := hv
  have hx := Bd.exec
  have hb := Bd.bytes
  have hr := Bd.returns
  have hts : ∀ w ∈ lw_g, w.before args s = true := fun w hw => atoms_spec (ws := (.code y_Mo_highAt b_Mo_highAt 5 (some .int) :: lw_g)) Bd.pre w (List.mem_cons_of_mem _ hw)
  have hown : s.vm.findClass R_Mo = some m.cls := findClass_of_methodNamed Bd.named
  have hlocks := Bd.notSynchronized
  have hK := hE.1
  have hH0 := hH
  have hLo : hLc nof [] := hLc_nil
  have hz : s.heap.size ≤ s.heap.size := Nat.le_refl _
  have hl := lv_entry [.ref m9, .int p9, .int c9] (n := 5) (Nat.le_of_ble_eq_true rfl)
  rw [show entryFrame m args 5 = F0 m 0 ((lg_sl [.ref m9, .int p9, .int c9] ++ List.replicate (5 - (lg_sl [.ref m9, .int p9, .int c9]).length) Slot.unset).toArray) [] from (by rw [ha]; exact lg_entry_eq m [.ref m9, .int p9, .int c9] 5)]
  generalize (lg_sl [.ref m9, .int p9, .int c9] ++ List.replicate (5 - (lg_sl [.ref m9, .int p9, .int c9]).length) Slot.unset).toArray = ls at hl ⊢
  have hl : lv_has ls 5 [(0, .ref m9), (1, .int p9), (2, .int c9)] := hl
  obtain ⟨hsd, hlo, hma, hse, hop⟩ := id hmk
  have inI : (nI n).toInt = n := nI_toInt (by omega)
  refine lv_iconst (v := 0) hx hb d_Mo_highAt_0 (by decide) ?_
  refine lv_istore_n (lv' := [(3, .int 0), (0, .ref m9), (1, .int p9), (2, .int c9)]) hx hb d_Mo_highAt_1 rfl hl (by decide) rfl (fun ls hl => ?_)
  refine lv_iconst (v := 0) hx hb d_Mo_highAt_2 (by decide) ?_
  refine lv_istore (lv' := [(4, .int 0), (3, .int 0), (0, .ref m9), (1, .int p9), (2, .int c9)]) hx hb d_Mo_highAt_3 hl (by decide) rfl (fun ls hl => ?_)
  refine hm_loop (fun k5 ls H locs hh5 => ∃ (v9 : Int32) (i9 : Int32), k5 = mU i9 ∧ lv_has ls 5 [(0, .ref m9), (1, .int p9), (2, .int c9), (3, .int v9), (4, .int i9)] ∧ hm D vwCl G hh5 H ∧ s.heap.size ≤ H.size ∧ hLc nof locs ∧ (h = hh5) ∧ (0 ≤ i9.toInt)) ?_ (hh := h) ⟨0, 0, rfl, (lv_sub hl [2, 3, 4, 1, 0] rfl), hH, hz, hLo, rfl, (by decide)⟩
  rintro k5 ls H locs hh5 ⟨v9, i9, hk5, hl, hH, hz, hLo, rfl, I_i9⟩ ih5
  refine lv_iload hx hb d_Mo_highAt_5 (lv_at hl 4 rfl) ?_
  refine lv_iload_n hx hb d_Mo_highAt_7 rfl (lv_at hl 2 rfl) ?_
  refine lv_icmp_ge (tgt := 31) hx hb d_Mo_highAt_8 (by decide) (fun hc_1 => ?_) (fun hc_1 => ?_)
  · skip
    have ic_2 : c9.toInt ≤ i9.toInt := iLe hc_1
    refine lv_iload_n hx hb d_Mo_highAt_31 rfl (lv_at hl 3 rfl) ?_
    exact W.iret (v := v9) hx hb hr (fun t9 ht hW => ⟨v9, h, rfl, rfl, by rw [ht]; exact hH, by rw [ht]; exact hz⟩) hLo d_Mo_highAt_32
  · skip
    have ic_3 : i9.toInt < c9.toInt := iNe hc_1
    have iu_4 : c9.toInt < 2147483648 := iUp _
    refine lv_iload_n hx hb d_Mo_highAt_11 rfl (lv_at hl 3 rfl) ?_
    refine lv_bipush (v := 8) hx hb d_Mo_highAt_12 (by decide) ?_
    refine lv_ishl hx hb d_Mo_highAt_14 ?_
    refine lv_topi (fun v_5 e_6 => ?_)
    refine lv_aload_n hx hb d_Mo_highAt_15 rfl (lv_at hl 0 rfl) ?_
    refine lv_iload_n hx hb d_Mo_highAt_16 rfl (lv_at hl 1 rfl) ?_
    refine lv_iload hx hb d_Mo_highAt_17 (lv_at hl 4 rfl) ?_
    refine lv_iadd hx hb d_Mo_highAt_19 ?_
    refine lv_topi (fun v_7 e_8 => ?_)
    have is_9 : v_7.toInt = p9.toInt + i9.toInt := by rw [e_8]; exact iAdd (by omega) (by omega)
    refine hm_callPi (va_runV (As := [.int v_7]) (b := m9) (rest := [.int v_5]) ⟨hx, hb, hml, hown, hts⟩ (m_get l D t G ak av h τ n m9 v_7 A th sd lo le wr ma nu di pl se wg op   hn hT T_m9  F_m9 hA ⟨hsd, hlo, (by omega), ⟨by omega, by omega⟩, ⟨by omega, by omega⟩⟩ (by omega) (by omega)) ⟨cw9B 1 hts mw_698 mw_699 mw_579 rfl rfl (by decide +kernel) ⟨Nat.le_of_ble_eq_true rfl, Nat.le_of_ble_eq_true rfl⟩, hts _ mw_700, hts _ mw_701⟩ (hP_V (q := (R_Mo, F_Mo, 41)) kE_ok hE hK hH F_m9 rfl) rfl rfl hl.1 rfl (lv_room (Nat.le_of_ble_eq_true rfl)) d_Mo_highAt_20 ⟨Nat.le_of_ble_eq_true rfl, Nat.le_of_ble_eq_true rfl⟩) (fun r_10 h_11 H_12 hp_14  hH z_13 => ?_)
    have hz : s.heap.size ≤ H_12.size := Nat.le_trans hz z_13
    obtain ⟨xp_15, rfl⟩ := hp_14
    obtain ⟨ia_16, eg_17⟩ := xp_15
    refine lv_ior hx hb d_Mo_highAt_23 ?_
    refine lv_topi (fun v_18 e_19 => ?_)
    refine lv_istore_n (lv' := [(3, .int v_18), (0, .ref m9), (1, .int p9), (2, .int c9), (4, .int i9)]) hx hb d_Mo_highAt_24 rfl hl (by decide) rfl (fun ls hl => ?_)
    obtain ⟨j_20, e_21⟩ : ∃ z : Int32, z = i9 + 1 := ⟨_, rfl⟩
    refine lv_iinc (v := j_20) (lv' := [(4, .int j_20), (3, .int v_18), (0, .ref m9), (1, .int p9), (2, .int c9)]) hx hb d_Mo_highAt_25 hl (k := 4) rfl e_21.symm (by decide) rfl (fun ls hl => ?_)
    refine lv_goto (tgt := 5) hx hb d_Mo_highAt_28 (by decide) ?_
    have is_22 : j_20.toInt = i9.toInt + 1 := by rw [e_21]; exact iAddK 1 rfl (by omega) (by omega)
    exact ih5 (mU j_20) ls _ locs _ (by rw [hk5]; exact mU_lt (by omega)) ⟨v_18, j_20, rfl, (lv_sub hl [2, 3, 4, 1, 0] rfl), hH, hz, hLo, rfl, (by omega)⟩

set_option maxHeartbeats 4000000 in
set_option maxRecDepth 100000 in
theorem m_no (l : Launch) (D : va_G) (t : Nat → ClassId) (G : hG) (ak av : Nat → Nat) (h : hM) (τ : tM) (n : Nat) (m9 : Nat) (p9 : Int32) (A : Nat → Nat) (th sd lo le wr ma nu di pl se wg op : Int32) (hn : n ≤ 200) (hT : TI τ t n h) (T_m9 : τ m9 = (20, 0)) (F_m9 : h m9 = some (.inr (9, mf A n th sd lo le wr ma nu di pl se wg op))) (hA : ∀ i, i < 28 → τ (A i) = (30, i)) (hmk : mOk sd lo ma se op) (hp0 : 0 ≤ p9.toInt) : Met l y_Mo_no (.code y_Mo_no b_Mo_no 2 (some .boolean) :: lw_g) { frames := 0, cells := 0, slots := 0, locals := 0 } (hP (kE D t G ak av) D vwCl G h [.ref m9, .int p9]) (hQi D vwCl G (fun r h' => zb r ∧ TI τ t n h' ∧ kf τ [] [m9] h h' ∧ (∃ (wg' : Int32), h' m9 = some (.inr (9, mf A n th sd lo le wr ma nu di pl se wg' op)) ∧ mOk sd lo ma se op ∧ (r = 0 ∧ 0 ≤ wg'.toInt)))) 0 0 G.P := by
  refine Met.ofW (cc := b_Mo_no) (maxL := 2) (ret := (some .boolean)) (by decide) rfl ?_
  intro p e s m args below meth c s₁ Bd hml hv
  obtain ⟨ha, hE, hH⟩ := hv
  have hx := Bd.exec
  have hb := Bd.bytes
  have hr := Bd.returns
  have hts : ∀ w ∈ lw_g, w.before args s = true := fun w hw => atoms_spec (ws := (.code y_Mo_no b_Mo_no 2 (some .boolean) :: lw_g)) Bd.pre w (List.mem_cons_of_mem _ hw)
  have hown : s.vm.findClass R_Mo = some m.cls := findClass_of_methodNamed Bd.named
  have hlocks := Bd.notSynchronized
  have hK := hE.1
  have hH0 := hH
  have hLo : hLc G.P [] := hLc_nil
  have hz : s.heap.size ≤ s.heap.size := Nat.le_refl _
  have hl := lv_entry [.ref m9, .int p9] (n := 2) (Nat.le_of_ble_eq_true rfl)
  rw [show entryFrame m args 2 = F0 m 0 ((lg_sl [.ref m9, .int p9] ++ List.replicate (2 - (lg_sl [.ref m9, .int p9]).length) Slot.unset).toArray) [] from (by rw [ha]; exact lg_entry_eq m [.ref m9, .int p9] 2)]
  generalize (lg_sl [.ref m9, .int p9] ++ List.replicate (2 - (lg_sl [.ref m9, .int p9]).length) Slot.unset).toArray = ls at hl ⊢
  have hl : lv_has ls 2 [(0, .ref m9), (1, .int p9)] := hl
  have hkf : kf τ [] [m9] h h := kf_rf
  obtain ⟨hsd, hlo, hma, hse, hop⟩ := id hmk
  have inI : (nI n).toInt = n := nI_toInt (by omega)
  refine lv_aload_n hx hb d_Mo_no_0 rfl (lv_at hl 0 rfl) ?_
  refine lv_iload_n hx hb d_Mo_no_1 rfl (lv_at hl 1 rfl) ?_
  refine hm_put (ci := 9) (v := .int p9) (ty := .int) (C := R_Mo) (T := F_Mo) (N := 41) hx hb hts ig_Mo t_Mo tk_Mo nm_Mo hown hK hH hLo F_m9 rfl 28 (by decide) (hts _ mw_733) (fun _ h9 => h9) rfl (by decide +kernel) rfl rfl (Nat.le_of_ble_eq_true rfl) d_Mo_no_2 (fun H_1 locs hH z_2 hLo => ?_)
  have hz : s.heap.size ≤ H_1.size := by rw [z_2]; exact hz
  obtain ⟨h_3, e_4⟩ : ∃ z, z = hu h m9 (.inr (9, mf A n th sd lo le wr ma nu di pl se p9 op)) := ⟨_, rfl⟩
  have hH : hm D vwCl G h_3 H_1 := by rw [e_4]; exact hH
  have F_m9 : h_3 m9 = some (.inr (9, mf A n th sd lo le wr ma nu di pl se p9 op)) := by rw [e_4]; exact hu_s _ _ _
  have hT : TI τ t n h_3 := by rw [e_4]; exact TI_put hT T_m9 (by decide) ⟨_, rfl⟩
  have hkf : kf τ [] [m9] h h_3 := by rw [e_4]; exact kf_putM hkf (by simp)
  refine lv_iconst (v := 0) hx hb d_Mo_no_5 (by decide) ?_
  exact W.zret (v := 0) hx hb hr (by decide) (fun t9 ht hW => ⟨0, h_3, rfl, ⟨zb0, hT, hkf, ⟨p9, F_m9, ⟨hsd, hlo, (by omega), ⟨by omega, by omega⟩, ⟨by omega, by omega⟩⟩, ⟨rfl, hp0⟩⟩⟩, by rw [ht]; exact hH, by rw [ht]; exact hz⟩) hLo d_Mo_no_6

set_option maxHeartbeats 4000000 in
set_option maxRecDepth 100000 in
theorem m_begins (l : Launch) (D : va_G) (t : Nat → ClassId) (G : hG) (ak av : Nat → Nat) (h : hM) (τ : tM) (n : Nat) (m9 : Nat) (s9 : Int32) (so9 : Int32) (A : Nat → Nat) (th sd lo le wr ma nu di pl se wg op : Int32) (hn : n ≤ 200) (hT : TI τ t n h) (T_m9 : τ m9 = (20, 0)) (F_m9 : h m9 = some (.inr (9, mf A n th sd lo le wr ma nu di pl se wg op))) (hA : ∀ i, i < 28 → τ (A i) = (30, i)) (hmk : mOk sd lo ma se op) (hs0 : 0 ≤ s9.toInt) (hs1 : s9.toInt < n) : Met l y_Mo_begins (.code y_Mo_begins b_Mo_begins 4 (some .boolean) :: lw_g) { frames := 1, cells := 0, slots := 0, locals := 21 } (hP (kE D t G ak av) D vwCl G h [.ref m9, .int s9, .int so9]) (hQi D vwCl G (fun r h' => zb r ∧ h = h')) 0 0 nof := by
  refine Met.ofW (cc := b_Mo_begins) (maxL := 4) (ret := (some .boolean)) (by decide) rfl ?_
  intro p e s m args below meth c s₁ Bd hml hv
  obtain ⟨ha, hE, hH⟩ := hv
  have hx := Bd.exec
  have hb := Bd.bytes
  have hr := Bd.returns
  have hts : ∀ w ∈ lw_g, w.before args s = true := fun w hw => atoms_spec (ws := (.code y_Mo_begins b_Mo_begins 4 (some .boolean) :: lw_g)) Bd.pre w (List.mem_cons_of_mem _ hw)
  have hown : s.vm.findClass R_Mo = some m.cls := findClass_of_methodNamed Bd.named
  have hlocks := Bd.notSynchronized
  have hK := hE.1
  have hH0 := hH
  have hLo : hLc nof [] := hLc_nil
  have hz : s.heap.size ≤ s.heap.size := Nat.le_refl _
  have hl := lv_entry [.ref m9, .int s9, .int so9] (n := 4) (Nat.le_of_ble_eq_true rfl)
  rw [show entryFrame m args 4 = F0 m 0 ((lg_sl [.ref m9, .int s9, .int so9] ++ List.replicate (4 - (lg_sl [.ref m9, .int s9, .int so9]).length) Slot.unset).toArray) [] from (by rw [ha]; exact lg_entry_eq m [.ref m9, .int s9, .int so9] 4)]
  generalize (lg_sl [.ref m9, .int s9, .int so9] ++ List.replicate (4 - (lg_sl [.ref m9, .int s9, .int so9]).length) Slot.unset).toArray = ls at hl ⊢
  have hl : lv_has ls 4 [(0, .ref m9), (1, .int s9), (2, .int so9)] := hl
  obtain ⟨hsd, hlo, hma, hse, hop⟩ := id hmk
  have inI : (nI n).toInt = n := nI_toInt (by omega)
  refine lv_sipush (v := 2048) hx hb d_Mo_begins_0 (by decide) ?_
  refine lv_iload_n hx hb d_Mo_begins_3 rfl (lv_at hl 1 rfl) ?_
  refine lv_imul hx hb d_Mo_begins_4 ?_
  refine lv_topi (fun v_1 e_2 => ?_)
  refine lv_istore_n (lv' := [(3, .int v_1), (0, .ref m9), (1, .int s9), (2, .int so9)]) hx hb d_Mo_begins_5 rfl hl (by decide) rfl (fun ls hl => ?_)
  refine lv_aload_n hx hb d_Mo_begins_6 rfl (lv_at hl 1 rfl) ?_
  refine lv_iload_n hx hb d_Mo_begins_7 rfl (lv_at hl 0 rfl) ?_
  have is_3 : v_1.toInt = 2048 * s9.toInt := by rw [e_2]; exact iMulL 2048 rfl (by omega) (by omega)
  refine hm_callPi (va_runV (As := [.int v_1]) (b := m9) (rest := []) ⟨hx, hb, hml, hown, hts⟩ (m_get l D t G ak av h τ n m9 v_1 A th sd lo le wr ma nu di pl se wg op   hn hT T_m9  F_m9 hA ⟨hsd, hlo, (by omega), ⟨by omega, by omega⟩, ⟨by omega, by omega⟩⟩ (by omega) (by omega)) ⟨cw9B 1 hts mw_698 mw_699 mw_579 rfl rfl (by decide +kernel) ⟨Nat.le_of_ble_eq_true rfl, Nat.le_of_ble_eq_true rfl⟩, hts _ mw_700, hts _ mw_701⟩ (hP_V (q := (R_Mo, F_Mo, 41)) kE_ok hE hK hH F_m9 rfl) rfl rfl hl.1 rfl (lv_room (Nat.le_of_ble_eq_true rfl)) d_Mo_begins_8 ⟨Nat.le_of_ble_eq_true rfl, Nat.le_of_ble_eq_true rfl⟩) (fun r_4 h_5 H_6 hp_8  hH z_7 => ?_)
  have hz : s.heap.size ≤ H_6.size := Nat.le_trans hz z_7
  obtain ⟨xp_9, rfl⟩ := hp_8
  obtain ⟨ia_10, eg_11⟩ := xp_9
  refine lv_iload_n hx hb d_Mo_begins_11 rfl (lv_at hl 3 rfl) ?_
  refine lv_icmp_ne (tgt := 91) hx hb d_Mo_begins_12 (by decide) (fun hc_12 => ?_) (fun hc_12 => ?_)
  · skip
    refine lv_iconst (v := 0) hx hb d_Mo_begins_91 (by decide) ?_
    exact W.zret (v := 0) hx hb hr (by decide) (fun t9 ht hW => ⟨0, h, rfl, ⟨zb0, rfl⟩, by rw [ht]; exact hH, by rw [ht]; exact hz⟩) hLo d_Mo_begins_92
  · skip
    have ic_13 : r_4.toInt = so9.toInt := congrArg Int32.toInt hc_12
    refine lv_aload_n hx hb d_Mo_begins_15 rfl (lv_at hl 1 rfl) ?_
    refine lv_iload_n hx hb d_Mo_begins_16 rfl (lv_at hl 0 rfl) ?_
    refine lv_iconst (v := 1) hx hb d_Mo_begins_17 (by decide) ?_
    refine lv_iadd hx hb d_Mo_begins_18 ?_
    refine lv_topi (fun v_14 e_15 => ?_)
    have is_16 : v_14.toInt = v_1.toInt + 1 := by rw [e_15]; exact iAddK 1 rfl (by omega) (by omega)
    refine hm_callPi (va_runV (As := [.int v_14]) (b := m9) (rest := []) ⟨hx, hb, hml, hown, hts⟩ (m_get l D t G ak av h τ n m9 v_14 A th sd lo le wr ma nu di pl se wg op   hn hT T_m9  F_m9 hA ⟨hsd, hlo, (by omega), ⟨by omega, by omega⟩, ⟨by omega, by omega⟩⟩ (by omega) (by omega)) ⟨cw9B 1 hts mw_698 mw_699 mw_579 rfl rfl (by decide +kernel) ⟨Nat.le_of_ble_eq_true rfl, Nat.le_of_ble_eq_true rfl⟩, hts _ mw_700, hts _ mw_701⟩ (hP_V (q := (R_Mo, F_Mo, 41)) kE_ok hE hK hH F_m9 rfl) rfl rfl hl.1 rfl (lv_room (Nat.le_of_ble_eq_true rfl)) d_Mo_begins_19 ⟨Nat.le_of_ble_eq_true rfl, Nat.le_of_ble_eq_true rfl⟩) (fun r_17 h_18 H_19 hp_21  hH z_20 => ?_)
    have hz : s.heap.size ≤ H_19.size := Nat.le_trans hz z_20
    obtain ⟨xp_22, rfl⟩ := hp_21
    obtain ⟨ia_23, eg_24⟩ := xp_22
    refine lv_bipush (v := 67) hx hb d_Mo_begins_22 (by decide) ?_
    refine lv_icmp_ne (tgt := 91) hx hb d_Mo_begins_24 (by decide) (fun hc_25 => ?_) (fun hc_25 => ?_)
    · skip
      refine lv_iconst (v := 0) hx hb d_Mo_begins_91 (by decide) ?_
      exact W.zret (v := 0) hx hb hr (by decide) (fun t9 ht hW => ⟨0, h, rfl, ⟨zb0, rfl⟩, by rw [ht]; exact hH, by rw [ht]; exact hz⟩) hLo d_Mo_begins_92
    · skip
      have ic_26 : r_17.toInt = 67 := congrArg Int32.toInt hc_25
      refine lv_aload_n hx hb d_Mo_begins_27 rfl (lv_at hl 1 rfl) ?_
      refine lv_iload_n hx hb d_Mo_begins_28 rfl (lv_at hl 0 rfl) ?_
      refine lv_iconst (v := 2) hx hb d_Mo_begins_29 (by decide) ?_
      refine lv_iadd hx hb d_Mo_begins_30 ?_
      refine lv_topi (fun v_27 e_28 => ?_)
      have is_29 : v_27.toInt = v_1.toInt + 2 := by rw [e_28]; exact iAddK 2 rfl (by omega) (by omega)
      refine hm_callPi (va_runV (As := [.int v_27]) (b := m9) (rest := []) ⟨hx, hb, hml, hown, hts⟩ (m_get l D t G ak av h τ n m9 v_27 A th sd lo le wr ma nu di pl se wg op   hn hT T_m9  F_m9 hA ⟨hsd, hlo, (by omega), ⟨by omega, by omega⟩, ⟨by omega, by omega⟩⟩ (by omega) (by omega)) ⟨cw9B 1 hts mw_698 mw_699 mw_579 rfl rfl (by decide +kernel) ⟨Nat.le_of_ble_eq_true rfl, Nat.le_of_ble_eq_true rfl⟩, hts _ mw_700, hts _ mw_701⟩ (hP_V (q := (R_Mo, F_Mo, 41)) kE_ok hE hK hH F_m9 rfl) rfl rfl hl.1 rfl (lv_room (Nat.le_of_ble_eq_true rfl)) d_Mo_begins_31 ⟨Nat.le_of_ble_eq_true rfl, Nat.le_of_ble_eq_true rfl⟩) (fun r_30 h_31 H_32 hp_34  hH z_33 => ?_)
      have hz : s.heap.size ≤ H_32.size := Nat.le_trans hz z_33
      obtain ⟨xp_35, rfl⟩ := hp_34
      obtain ⟨ia_36, eg_37⟩ := xp_35
      refine lv_bipush (v := 68) hx hb d_Mo_begins_34 (by decide) ?_
      refine lv_icmp_ne (tgt := 91) hx hb d_Mo_begins_36 (by decide) (fun hc_38 => ?_) (fun hc_38 => ?_)
      · skip
        refine lv_iconst (v := 0) hx hb d_Mo_begins_91 (by decide) ?_
        exact W.zret (v := 0) hx hb hr (by decide) (fun t9 ht hW => ⟨0, h, rfl, ⟨zb0, rfl⟩, by rw [ht]; exact hH, by rw [ht]; exact hz⟩) hLo d_Mo_begins_92
      · skip
        have ic_39 : r_30.toInt = 68 := congrArg Int32.toInt hc_38
        refine lv_aload_n hx hb d_Mo_begins_39 rfl (lv_at hl 1 rfl) ?_
        refine lv_iload_n hx hb d_Mo_begins_40 rfl (lv_at hl 0 rfl) ?_
        refine lv_iconst (v := 3) hx hb d_Mo_begins_41 (by decide) ?_
        refine lv_iadd hx hb d_Mo_begins_42 ?_
        refine lv_topi (fun v_40 e_41 => ?_)
        have is_42 : v_40.toInt = v_1.toInt + 3 := by rw [e_41]; exact iAddK 3 rfl (by omega) (by omega)
        refine hm_callPi (va_runV (As := [.int v_40]) (b := m9) (rest := []) ⟨hx, hb, hml, hown, hts⟩ (m_get l D t G ak av h τ n m9 v_40 A th sd lo le wr ma nu di pl se wg op   hn hT T_m9  F_m9 hA ⟨hsd, hlo, (by omega), ⟨by omega, by omega⟩, ⟨by omega, by omega⟩⟩ (by omega) (by omega)) ⟨cw9B 1 hts mw_698 mw_699 mw_579 rfl rfl (by decide +kernel) ⟨Nat.le_of_ble_eq_true rfl, Nat.le_of_ble_eq_true rfl⟩, hts _ mw_700, hts _ mw_701⟩ (hP_V (q := (R_Mo, F_Mo, 41)) kE_ok hE hK hH F_m9 rfl) rfl rfl hl.1 rfl (lv_room (Nat.le_of_ble_eq_true rfl)) d_Mo_begins_43 ⟨Nat.le_of_ble_eq_true rfl, Nat.le_of_ble_eq_true rfl⟩) (fun r_43 h_44 H_45 hp_47  hH z_46 => ?_)
        have hz : s.heap.size ≤ H_45.size := Nat.le_trans hz z_46
        obtain ⟨xp_48, rfl⟩ := hp_47
        obtain ⟨ia_49, eg_50⟩ := xp_48
        refine lv_bipush (v := 48) hx hb d_Mo_begins_46 (by decide) ?_
        refine lv_icmp_ne (tgt := 91) hx hb d_Mo_begins_48 (by decide) (fun hc_51 => ?_) (fun hc_51 => ?_)
        · skip
          refine lv_iconst (v := 0) hx hb d_Mo_begins_91 (by decide) ?_
          exact W.zret (v := 0) hx hb hr (by decide) (fun t9 ht hW => ⟨0, h, rfl, ⟨zb0, rfl⟩, by rw [ht]; exact hH, by rw [ht]; exact hz⟩) hLo d_Mo_begins_92
        · skip
          have ic_52 : r_43.toInt = 48 := congrArg Int32.toInt hc_51
          refine lv_aload_n hx hb d_Mo_begins_51 rfl (lv_at hl 1 rfl) ?_
          refine lv_iload_n hx hb d_Mo_begins_52 rfl (lv_at hl 0 rfl) ?_
          refine lv_iconst (v := 4) hx hb d_Mo_begins_53 (by decide) ?_
          refine lv_iadd hx hb d_Mo_begins_54 ?_
          refine lv_topi (fun v_53 e_54 => ?_)
          have is_55 : v_53.toInt = v_1.toInt + 4 := by rw [e_54]; exact iAddK 4 rfl (by omega) (by omega)
          refine hm_callPi (va_runV (As := [.int v_53]) (b := m9) (rest := []) ⟨hx, hb, hml, hown, hts⟩ (m_get l D t G ak av h τ n m9 v_53 A th sd lo le wr ma nu di pl se wg op   hn hT T_m9  F_m9 hA ⟨hsd, hlo, (by omega), ⟨by omega, by omega⟩, ⟨by omega, by omega⟩⟩ (by omega) (by omega)) ⟨cw9B 1 hts mw_698 mw_699 mw_579 rfl rfl (by decide +kernel) ⟨Nat.le_of_ble_eq_true rfl, Nat.le_of_ble_eq_true rfl⟩, hts _ mw_700, hts _ mw_701⟩ (hP_V (q := (R_Mo, F_Mo, 41)) kE_ok hE hK hH F_m9 rfl) rfl rfl hl.1 rfl (lv_room (Nat.le_of_ble_eq_true rfl)) d_Mo_begins_55 ⟨Nat.le_of_ble_eq_true rfl, Nat.le_of_ble_eq_true rfl⟩) (fun r_56 h_57 H_58 hp_60  hH z_59 => ?_)
          have hz : s.heap.size ≤ H_58.size := Nat.le_trans hz z_59
          obtain ⟨xp_61, rfl⟩ := hp_60
          obtain ⟨ia_62, eg_63⟩ := xp_61
          refine lv_bipush (v := 48) hx hb d_Mo_begins_58 (by decide) ?_
          refine lv_icmp_ne (tgt := 91) hx hb d_Mo_begins_60 (by decide) (fun hc_64 => ?_) (fun hc_64 => ?_)
          · skip
            refine lv_iconst (v := 0) hx hb d_Mo_begins_91 (by decide) ?_
            exact W.zret (v := 0) hx hb hr (by decide) (fun t9 ht hW => ⟨0, h, rfl, ⟨zb0, rfl⟩, by rw [ht]; exact hH, by rw [ht]; exact hz⟩) hLo d_Mo_begins_92
          · skip
            have ic_65 : r_56.toInt = 48 := congrArg Int32.toInt hc_64
            refine lv_aload_n hx hb d_Mo_begins_63 rfl (lv_at hl 1 rfl) ?_
            refine lv_iload_n hx hb d_Mo_begins_64 rfl (lv_at hl 0 rfl) ?_
            refine lv_iconst (v := 5) hx hb d_Mo_begins_65 (by decide) ?_
            refine lv_iadd hx hb d_Mo_begins_66 ?_
            refine lv_topi (fun v_66 e_67 => ?_)
            have is_68 : v_66.toInt = v_1.toInt + 5 := by rw [e_67]; exact iAddK 5 rfl (by omega) (by omega)
            refine hm_callPi (va_runV (As := [.int v_66]) (b := m9) (rest := []) ⟨hx, hb, hml, hown, hts⟩ (m_get l D t G ak av h τ n m9 v_66 A th sd lo le wr ma nu di pl se wg op   hn hT T_m9  F_m9 hA ⟨hsd, hlo, (by omega), ⟨by omega, by omega⟩, ⟨by omega, by omega⟩⟩ (by omega) (by omega)) ⟨cw9B 1 hts mw_698 mw_699 mw_579 rfl rfl (by decide +kernel) ⟨Nat.le_of_ble_eq_true rfl, Nat.le_of_ble_eq_true rfl⟩, hts _ mw_700, hts _ mw_701⟩ (hP_V (q := (R_Mo, F_Mo, 41)) kE_ok hE hK hH F_m9 rfl) rfl rfl hl.1 rfl (lv_room (Nat.le_of_ble_eq_true rfl)) d_Mo_begins_67 ⟨Nat.le_of_ble_eq_true rfl, Nat.le_of_ble_eq_true rfl⟩) (fun r_69 h_70 H_71 hp_73  hH z_72 => ?_)
            have hz : s.heap.size ≤ H_71.size := Nat.le_trans hz z_72
            obtain ⟨xp_74, rfl⟩ := hp_73
            obtain ⟨ia_75, eg_76⟩ := xp_74
            refine lv_bipush (v := 49) hx hb d_Mo_begins_70 (by decide) ?_
            refine lv_icmp_ne (tgt := 91) hx hb d_Mo_begins_72 (by decide) (fun hc_77 => ?_) (fun hc_77 => ?_)
            · skip
              refine lv_iconst (v := 0) hx hb d_Mo_begins_91 (by decide) ?_
              exact W.zret (v := 0) hx hb hr (by decide) (fun t9 ht hW => ⟨0, h, rfl, ⟨zb0, rfl⟩, by rw [ht]; exact hH, by rw [ht]; exact hz⟩) hLo d_Mo_begins_92
            · skip
              have ic_78 : r_69.toInt = 49 := congrArg Int32.toInt hc_77
              refine lv_aload_n hx hb d_Mo_begins_75 rfl (lv_at hl 1 rfl) ?_
              refine lv_iload_n hx hb d_Mo_begins_76 rfl (lv_at hl 0 rfl) ?_
              refine lv_bipush (v := 6) hx hb d_Mo_begins_77 (by decide) ?_
              refine lv_iadd hx hb d_Mo_begins_79 ?_
              refine lv_topi (fun v_79 e_80 => ?_)
              have is_81 : v_79.toInt = v_1.toInt + 6 := by rw [e_80]; exact iAddK 6 rfl (by omega) (by omega)
              refine hm_callPi (va_runV (As := [.int v_79]) (b := m9) (rest := []) ⟨hx, hb, hml, hown, hts⟩ (m_get l D t G ak av h τ n m9 v_79 A th sd lo le wr ma nu di pl se wg op   hn hT T_m9  F_m9 hA ⟨hsd, hlo, (by omega), ⟨by omega, by omega⟩, ⟨by omega, by omega⟩⟩ (by omega) (by omega)) ⟨cw9B 1 hts mw_698 mw_699 mw_579 rfl rfl (by decide +kernel) ⟨Nat.le_of_ble_eq_true rfl, Nat.le_of_ble_eq_true rfl⟩, hts _ mw_700, hts _ mw_701⟩ (hP_V (q := (R_Mo, F_Mo, 41)) kE_ok hE hK hH F_m9 rfl) rfl rfl hl.1 rfl (lv_room (Nat.le_of_ble_eq_true rfl)) d_Mo_begins_80 ⟨Nat.le_of_ble_eq_true rfl, Nat.le_of_ble_eq_true rfl⟩) (fun r_82 h_83 H_84 hp_86  hH z_85 => ?_)
              have hz : s.heap.size ≤ H_84.size := Nat.le_trans hz z_85
              obtain ⟨xp_87, rfl⟩ := hp_86
              obtain ⟨ia_88, eg_89⟩ := xp_87
              refine lv_iconst (v := 1) hx hb d_Mo_begins_83 (by decide) ?_
              refine lv_icmp_ne (tgt := 91) hx hb d_Mo_begins_84 (by decide) (fun hc_90 => ?_) (fun hc_90 => ?_)
              · skip
                refine lv_iconst (v := 0) hx hb d_Mo_begins_91 (by decide) ?_
                exact W.zret (v := 0) hx hb hr (by decide) (fun t9 ht hW => ⟨0, h, rfl, ⟨zb0, rfl⟩, by rw [ht]; exact hH, by rw [ht]; exact hz⟩) hLo d_Mo_begins_92
              · skip
                have ic_91 : r_82.toInt = 1 := congrArg Int32.toInt hc_90
                refine lv_iconst (v := 1) hx hb d_Mo_begins_87 (by decide) ?_
                refine lv_goto (tgt := 92) hx hb d_Mo_begins_88 (by decide) ?_
                exact W.zret (v := 1) hx hb hr (by decide) (fun t9 ht hW => ⟨1, h, rfl, ⟨zb1, rfl⟩, by rw [ht]; exact hH, by rw [ht]; exact hz⟩) hLo d_Mo_begins_92

set_option maxHeartbeats 4000000 in
set_option maxRecDepth 100000 in
theorem m_areW (l : Launch) (D : va_G) (t : Nat → ClassId) (G : hG) (ak av : Nat → Nat) (h : hM) (τ : tM) (n : Nat) (m9 : Nat) (f9 : Int32) (c9 : Int64) (A : Nat → Nat) (th sd lo le wr ma nu di pl se wg op : Int32) (hn : n ≤ 200) (hT : TI τ t n h) (T_m9 : τ m9 = (20, 0)) (F_m9 : h m9 = some (.inr (9, mf A n th sd lo le wr ma nu di pl se wg op))) (hA : ∀ i, i < 28 → τ (A i) = (30, i)) (hmk : mOk sd lo ma se op) (hc9 : 0 ≤ c9.toInt ∧ c9.toInt ≤ 2000000) : Met l y_Mo_areWritten (.code y_Mo_areWritten b_Mo_areWritten 5 (some .boolean) :: lw_g) { frames := 2, cells := 0, slots := 0, locals := 43 } (hP (kE D t G ak av) D vwCl G h [.ref m9, .int f9, .long c9]) (hQi D vwCl G (fun r h' => zb r ∧ (r = 1 → 0 ≤ f9.toInt ∧ f9.toInt + c9.toInt ≤ n) ∧ h = h')) 0 0 nof := by
  refine Met.ofW (cc := b_Mo_areWritten) (maxL := 5) (ret := (some .boolean)) (by decide) rfl ?_
  intro p e s m args below meth c s₁ Bd hml hv
  obtain ⟨ha, hE, hH⟩ := hv
  have hx := Bd.exec
  have hb := Bd.bytes
  have hr := Bd.returns
  have hts : ∀ w ∈ lw_g, w.before args s = true := fun w hw => atoms_spec (ws := (.code y_Mo_areWritten b_Mo_areWritten 5 (some .boolean) :: lw_g)) Bd.pre w (List.mem_cons_of_mem _ hw)
  have hown : s.vm.findClass R_Mo = some m.cls := findClass_of_methodNamed Bd.named
  have hlocks := Bd.notSynchronized
  have hK := hE.1
  have hH0 := hH
  have hLo : hLc nof [] := hLc_nil
  have hz : s.heap.size ≤ s.heap.size := Nat.le_refl _
  have hl := lv_entry [.ref m9, .int f9, .long c9] (n := 5) (Nat.le_of_ble_eq_true rfl)
  rw [show entryFrame m args 5 = F0 m 0 ((lg_sl [.ref m9, .int f9, .long c9] ++ List.replicate (5 - (lg_sl [.ref m9, .int f9, .long c9]).length) Slot.unset).toArray) [] from (by rw [ha]; exact lg_entry_eq m [.ref m9, .int f9, .long c9] 5)]
  generalize (lg_sl [.ref m9, .int f9, .long c9] ++ List.replicate (5 - (lg_sl [.ref m9, .int f9, .long c9]).length) Slot.unset).toArray = ls at hl ⊢
  have hl : lv_has ls 5 [(0, .ref m9), (1, .int f9), (2, .long c9)] := hl
  obtain ⟨hsd, hlo, hma, hse, hop⟩ := id hmk
  have inI : (nI n).toInt = n := nI_toInt (by omega)
  refine lv_iload_n hx hb d_Mo_areWritten_0 rfl (lv_at hl 1 rfl) ?_
  refine lv_if_lt (tgt := 17) hx hb d_Mo_areWritten_1 (by decide) (fun hc_1 => ?_) (fun hc_1 => ?_)
  · skip
    have ic_2 : f9.toInt < 0 := iLt hc_1
    refine lv_iconst (v := 0) hx hb d_Mo_areWritten_17 (by decide) ?_
    exact W.zret (v := 0) hx hb hr (by decide) (fun t9 ht hW => ⟨0, h, rfl, ⟨zb0, (fun z => absurd z (by decide)), rfl⟩, by rw [ht]; exact hH, by rw [ht]; exact hz⟩) hLo d_Mo_areWritten_18
  · skip
    have ic_3 : 0 ≤ f9.toInt := iNl hc_1
    refine lv_iload_n hx hb d_Mo_areWritten_4 rfl (lv_at hl 1 rfl) ?_
    refine lv_i2l (v := f9.toInt64) hx hb d_Mo_areWritten_5 rfl ?_
    refine lv_lload_n hx hb d_Mo_areWritten_6 rfl (lv_at hl 2 rfl) ?_
    refine lv_ladd hx hb d_Mo_areWritten_7 ?_
    refine lv_topl (fun v_4 e_5 => ?_)
    refine lv_aload_n hx hb d_Mo_areWritten_8 rfl (lv_at hl 0 rfl) ?_
    refine hm_get (ci := 9) (v := .int (nI n)) (C := R_Mo) (T := F_Mo) (N := 41) hx hb hts ig_Mo hown hK hH F_m9 rfl 1 (by decide) (hts _ mw_587) (fun _ h9 => h9) rfl d_Mo_areWritten_9 ?_
    refine lv_i2l (v := (nI n).toInt64) hx hb d_Mo_areWritten_12 rfl ?_
    refine lv_topl (fun v_6 e_7 => ?_)
    refine W.lcmp hx hb d_Mo_areWritten_13 ?_
    refine lv_if_le (tgt := 19) hx hb d_Mo_areWritten_14 (by decide) (fun hc_8 => ?_) (fun hc_8 => ?_)
    · skip
      have ic_9 : (lg_cmp v_4 v_6).toInt ≤ 0 := iLe hc_8
      have hle := aw_le rfl e_5 e_7 hc9 hc_8
      refine lv_iload_n hx hb d_Mo_areWritten_19 rfl (lv_at hl 1 rfl) ?_
      refine lv_istore (lv' := [(4, .int f9), (0, .ref m9), (1, .int f9), (2, .long c9)]) hx hb d_Mo_areWritten_20 hl (by decide) rfl (fun ls hl => ?_)
      refine hm_loop (fun k22 ls H locs hh22 => ∃ (i9 : Int32), k22 = mU i9 ∧ lv_has ls 5 [(0, .ref m9), (1, .int f9), (2, .long c9), (4, .int i9)] ∧ hm D vwCl G hh22 H ∧ s.heap.size ≤ H.size ∧ hLc nof locs ∧ (h = hh22) ∧ (f9.toInt ≤ i9.toInt)) ?_ (hh := h) ⟨f9, rfl, (lv_sub hl [1, 2, 3, 0] rfl), hH, hz, hLo, rfl, (Int.le_refl _)⟩
      rintro k22 ls H locs hh22 ⟨i9, hk22, hl, hH, hz, hLo, rfl, I_i9⟩ ih22
      refine lv_iload hx hb d_Mo_areWritten_22 (lv_at hl 3 rfl) ?_
      refine lv_i2l (v := i9.toInt64) hx hb d_Mo_areWritten_24 rfl ?_
      refine lv_iload_n hx hb d_Mo_areWritten_25 rfl (lv_at hl 1 rfl) ?_
      refine lv_i2l (v := f9.toInt64) hx hb d_Mo_areWritten_26 rfl ?_
      refine lv_lload_n hx hb d_Mo_areWritten_27 rfl (lv_at hl 2 rfl) ?_
      refine lv_ladd hx hb d_Mo_areWritten_28 ?_
      refine lv_topl (fun v_10 e_11 => ?_)
      refine W.lcmp hx hb d_Mo_areWritten_29 ?_
      refine lv_if_ge (tgt := 50) hx hb d_Mo_areWritten_30 (by decide) (fun hc_12 => ?_) (fun hc_12 => ?_)
      · skip
        have ic_13 : 0 ≤ (lg_cmp i9.toInt64 v_10).toInt := iLe hc_12
        refine lv_iconst (v := 1) hx hb d_Mo_areWritten_50 (by decide) ?_
        exact W.zret (v := 1) hx hb hr (by decide) (fun t9 ht hW => ⟨1, h, rfl, ⟨zb1, (fun _ => ⟨by omega, by omega⟩), rfl⟩, by rw [ht]; exact hH, by rw [ht]; exact hz⟩) hLo d_Mo_areWritten_51
      · skip
        have ic_14 : (lg_cmp i9.toInt64 v_10).toInt < 0 := iNe hc_12
        have hlt := aw_lt rfl rfl e_11 hc9 hc_12
        refine lv_aload_n hx hb d_Mo_areWritten_33 rfl (lv_at hl 0 rfl) ?_
        refine lv_iload hx hb d_Mo_areWritten_34 (lv_at hl 3 rfl) ?_
        refine hm_callPi (va_runV (As := [.int i9]) (b := m9) (rest := []) ⟨hx, hb, hml, hown, hts⟩ (m_isW l D t G ak av h τ n m9 i9 A th sd lo le wr ma nu di pl se wg op   hn hT T_m9  F_m9 hA ⟨hsd, hlo, (by omega), ⟨by omega, by omega⟩, ⟨by omega, by omega⟩⟩ ) ⟨cw9B 1 hts mw_734 mw_735 mw_579 rfl rfl (by decide +kernel) ⟨Nat.le_of_ble_eq_true rfl, Nat.le_of_ble_eq_true rfl⟩, hts _ mw_736, hts _ mw_737⟩ (hP_V (q := (R_Mo, F_Mo, 41)) kE_ok hE hK hH F_m9 rfl) rfl rfl hl.1 rfl (lv_room (Nat.le_of_ble_eq_true rfl)) d_Mo_areWritten_36 ⟨Nat.le_of_ble_eq_true rfl, Nat.le_of_ble_eq_true rfl⟩) (fun r_15 h_16 H_17 hp_19  hH z_18 => ?_)
        have hz : s.heap.size ≤ H_17.size := Nat.le_trans hz z_18
        obtain ⟨c_20, xp_21, rfl⟩ := hp_19
        refine lv_if_ne (tgt := 44) hx hb d_Mo_areWritten_39 (by decide) (fun hc_22 => ?_) (fun hc_22 => ?_)
        · skip
          obtain ⟨j_23, e_24⟩ : ∃ z : Int32, z = i9 + 1 := ⟨_, rfl⟩
          refine lv_iinc (v := j_23) (lv' := [(4, .int j_23), (0, .ref m9), (1, .int f9), (2, .long c9)]) hx hb d_Mo_areWritten_44 hl (k := 3) rfl e_24.symm (by decide) rfl (fun ls hl => ?_)
          refine lv_goto (tgt := 22) hx hb d_Mo_areWritten_47 (by decide) ?_
          have is_25 : j_23.toInt = i9.toInt + 1 := by rw [e_24]; exact iAddK 1 rfl (by omega) (by omega)
          exact ih22 (mU j_23) ls _ locs _ (by rw [hk22]; exact mU_lt (by omega)) ⟨j_23, rfl, (lv_sub hl [1, 2, 3, 0] rfl), hH, hz, hLo, rfl, (by omega)⟩
        · skip
          have ic_26 : r_15.toInt = 0 := congrArg Int32.toInt hc_22
          refine lv_iconst (v := 0) hx hb d_Mo_areWritten_42 (by decide) ?_
          exact W.zret (v := 0) hx hb hr (by decide) (fun t9 ht hW => ⟨0, h, rfl, ⟨zb0, (fun z => absurd z (by decide)), rfl⟩, by rw [ht]; exact hH, by rw [ht]; exact hz⟩) hLo d_Mo_areWritten_43
    · skip
      have ic_27 : 0 < (lg_cmp v_4 v_6).toInt := iNe hc_8
      have iu_28 : (lg_cmp v_4 v_6).toInt < 2147483648 := iUp _
      refine lv_iconst (v := 0) hx hb d_Mo_areWritten_17 (by decide) ?_
      exact W.zret (v := 0) hx hb hr (by decide) (fun t9 ht hW => ⟨0, h, rfl, ⟨zb0, (fun z => absurd z (by decide)), rfl⟩, by rw [ht]; exact hH, by rw [ht]; exact hz⟩) hLo d_Mo_areWritten_18

set_option maxHeartbeats 4000000 in
set_option maxRecDepth 100000 in
theorem m_isName (l : Launch) (D : va_G) (t : Nat → ClassId) (G : hG) (ak av : Nat → Nat) (h : hM) (τ : tM) (n : Nat) (m9 : Nat) (p9 : Int32) (c9 : Int32) (A : Nat → Nat) (th sd lo le wr ma nu di pl se wg op : Int32) (hn : n ≤ 200) (hT : TI τ t n h) (T_m9 : τ m9 = (20, 0)) (F_m9 : h m9 = some (.inr (9, mf A n th sd lo le wr ma nu di pl se wg op))) (hA : ∀ i, i < 28 → τ (A i) = (30, i)) (hmk : mOk sd lo ma se op) (hp0 : 0 ≤ p9.toInt) (hp1 : p9.toInt + c9.toInt ≤ 409600) : Met l y_Mo_isName (.code y_Mo_isName b_Mo_isName 5 (some .boolean) :: lw_g) { frames := 1, cells := 0, slots := 0, locals := 22 } (hP (kE D t G ak av) D vwCl G h [.ref m9, .int p9, .int c9]) (hQi D vwCl G (fun r h' => zb r ∧ h = h')) 0 0 nof := by
  refine Met.ofW (cc := b_Mo_isName) (maxL := 5) (ret := (some .boolean)) (by decide) rfl ?_
  intro p e s m args below meth c s₁ Bd hml hv
  obtain ⟨ha, hE, hH⟩ := hv
  have hx := Bd.exec
  have hb := Bd.bytes
  have hr := Bd.returns
  have hts : ∀ w ∈ lw_g, w.before args s = true := fun w hw => atoms_spec (ws := (.code y_Mo_isName b_Mo_isName 5 (some .boolean) :: lw_g)) Bd.pre w (List.mem_cons_of_mem _ hw)
  have hown : s.vm.findClass R_Mo = some m.cls := findClass_of_methodNamed Bd.named
  have hlocks := Bd.notSynchronized
  have hK := hE.1
  have hH0 := hH
  have hLo : hLc nof [] := hLc_nil
  have hz : s.heap.size ≤ s.heap.size := Nat.le_refl _
  have hl := lv_entry [.ref m9, .int p9, .int c9] (n := 5) (Nat.le_of_ble_eq_true rfl)
  rw [show entryFrame m args 5 = F0 m 0 ((lg_sl [.ref m9, .int p9, .int c9] ++ List.replicate (5 - (lg_sl [.ref m9, .int p9, .int c9]).length) Slot.unset).toArray) [] from (by rw [ha]; exact lg_entry_eq m [.ref m9, .int p9, .int c9] 5)]
  generalize (lg_sl [.ref m9, .int p9, .int c9] ++ List.replicate (5 - (lg_sl [.ref m9, .int p9, .int c9]).length) Slot.unset).toArray = ls at hl ⊢
  have hl : lv_has ls 5 [(0, .ref m9), (1, .int p9), (2, .int c9)] := hl
  obtain ⟨hsd, hlo, hma, hse, hop⟩ := id hmk
  have inI : (nI n).toInt = n := nI_toInt (by omega)
  refine lv_iload_n hx hb d_Mo_isName_0 rfl (lv_at hl 2 rfl) ?_
  refine lv_iconst (v := 1) hx hb d_Mo_isName_1 (by decide) ?_
  refine lv_bipush (v := 8) hx hb d_Mo_isName_2 (by decide) ?_
  refine hm_callPi (va_runS (As := [.int c9, .int 1, .int 8]) (rest := []) ⟨hx, hb, hml, hown, hts⟩ (m_in l D t G ak av h τ n c9 1 8    hn hT    ) ⟨cw9B 3 hts mw_582 mw_583 mw_579 rfl rfl (by decide +kernel) ⟨Nat.le_of_ble_eq_true rfl, Nat.le_of_ble_eq_true rfl⟩, hts _ mw_584⟩ (hP_S kE_ok hE hH) rfl rfl hl.1 rfl (lv_room (Nat.le_of_ble_eq_true rfl)) d_Mo_isName_4 ⟨Nat.le_of_ble_eq_true rfl, Nat.le_of_ble_eq_true rfl⟩) (fun r_1 h_2 H_3 hp_5  hH z_4 => ?_)
  have hz : s.heap.size ≤ H_3.size := Nat.le_trans hz z_4
  obtain ⟨c_6, xp_7, rfl⟩ := hp_5
  have il_8 : (1 : Int32).toInt = 1 := rfl
  have il_9 : (8 : Int32).toInt = 8 := rfl
  rcases xp_7 with ⟨rfl, ix9⟩ | ⟨rfl, ix9, iy9⟩
  · skip
    refine lv_istore_n (lv' := [(3, .int 0), (0, .ref m9), (1, .int p9), (2, .int c9)]) hx hb d_Mo_isName_7 rfl hl (by decide) rfl (fun ls hl => ?_)
    refine lv_iconst (v := 0) hx hb d_Mo_isName_8 (by decide) ?_
    refine lv_istore (lv' := [(4, .int 0), (3, .int 0), (0, .ref m9), (1, .int p9), (2, .int c9)]) hx hb d_Mo_isName_9 hl (by decide) rfl (fun ls hl => ?_)
    refine hm_loop (fun k11 ls H locs hh11 => ∃ (is9 : Int32) (i9 : Int32), k11 = mU i9 ∧ lv_has ls 5 [(0, .ref m9), (1, .int p9), (2, .int c9), (3, .int is9), (4, .int i9)] ∧ hm D vwCl G hh11 H ∧ s.heap.size ≤ H.size ∧ hLc nof locs ∧ (h = hh11) ∧ (0 ≤ i9.toInt) ∧ (zb is9)) ?_ (hh := h) ⟨0, 0, rfl, (lv_sub hl [2, 3, 4, 1, 0] rfl), hH, hz, hLo, rfl, (by decide), zb0⟩
    rintro k11 ls H locs hh11 ⟨is9, i9, hk11, hl, hH, hz, hLo, rfl, I_i9, hzi⟩ ih11
    refine lv_iload hx hb d_Mo_isName_11 (lv_at hl 4 rfl) ?_
    refine lv_iload_n hx hb d_Mo_isName_13 rfl (lv_at hl 2 rfl) ?_
    refine lv_icmp_ge (tgt := 39) hx hb d_Mo_isName_14 (by decide) (fun hc_10 => ?_) (fun hc_10 => ?_)
    · skip
      have ic_11 : c9.toInt ≤ i9.toInt := iLe hc_10
      refine lv_iload_n hx hb d_Mo_isName_39 rfl (lv_at hl 3 rfl) ?_
      exact W.zret (v := is9) hx hb hr (zb_n hzi) (fun t9 ht hW => ⟨is9, h, rfl, ⟨hzi, rfl⟩, by rw [ht]; exact hH, by rw [ht]; exact hz⟩) hLo d_Mo_isName_40
    · skip
      have ic_12 : i9.toInt < c9.toInt := iNe hc_10
      have iu_13 : c9.toInt < 2147483648 := iUp _
      refine lv_iload_n hx hb d_Mo_isName_17 rfl (lv_at hl 3 rfl) ?_
      refine lv_if_eq (tgt := 39) hx hb d_Mo_isName_18 (by decide) (fun hc_14 => ?_) (fun hc_14 => ?_)
      · skip
        have ic_15 : is9.toInt = 0 := congrArg Int32.toInt hc_14
        refine lv_iload_n hx hb d_Mo_isName_39 rfl (lv_at hl 3 rfl) ?_
        exact W.zret (v := is9) hx hb hr (zb_n hzi) (fun t9 ht hW => ⟨is9, h, rfl, ⟨hzi, rfl⟩, by rw [ht]; exact hH, by rw [ht]; exact hz⟩) hLo d_Mo_isName_40
      · skip
        refine lv_aload_n hx hb d_Mo_isName_21 rfl (lv_at hl 0 rfl) ?_
        refine lv_iload_n hx hb d_Mo_isName_22 rfl (lv_at hl 1 rfl) ?_
        refine lv_iload hx hb d_Mo_isName_23 (lv_at hl 4 rfl) ?_
        refine lv_iadd hx hb d_Mo_isName_25 ?_
        refine lv_topi (fun v_16 e_17 => ?_)
        have is_18 : v_16.toInt = p9.toInt + i9.toInt := by rw [e_17]; exact iAdd (by omega) (by omega)
        refine hm_callPi (va_runV (As := [.int v_16]) (b := m9) (rest := []) ⟨hx, hb, hml, hown, hts⟩ (m_get l D t G ak av h τ n m9 v_16 A th sd lo le wr ma nu di pl se wg op   hn hT T_m9  F_m9 hA ⟨hsd, hlo, (by omega), ⟨by omega, by omega⟩, ⟨by omega, by omega⟩⟩ (by omega) (by omega)) ⟨cw9B 1 hts mw_698 mw_699 mw_579 rfl rfl (by decide +kernel) ⟨Nat.le_of_ble_eq_true rfl, Nat.le_of_ble_eq_true rfl⟩, hts _ mw_700, hts _ mw_701⟩ (hP_V (q := (R_Mo, F_Mo, 41)) kE_ok hE hK hH F_m9 rfl) rfl rfl hl.1 rfl (lv_room (Nat.le_of_ble_eq_true rfl)) d_Mo_isName_26 ⟨Nat.le_of_ble_eq_true rfl, Nat.le_of_ble_eq_true rfl⟩) (fun r_19 h_20 H_21 hp_23  hH z_22 => ?_)
        have hz : s.heap.size ≤ H_21.size := Nat.le_trans hz z_22
        obtain ⟨xp_24, rfl⟩ := hp_23
        obtain ⟨ia_25, eg_26⟩ := xp_24
        refine hm_callPi (va_runS (As := [.int r_19]) (rest := []) ⟨hx, hb, hml, hown, hts⟩ (m_letter l D t G ak av h τ n r_19    hn hT    ) ⟨cw9B 1 hts mw_578 mw_580 mw_579 rfl rfl (by decide +kernel) ⟨Nat.le_of_ble_eq_true rfl, Nat.le_of_ble_eq_true rfl⟩, hts _ mw_581⟩ (hP_S kE_ok hE hH) rfl rfl hl.1 rfl (lv_room (Nat.le_of_ble_eq_true rfl)) d_Mo_isName_29 ⟨Nat.le_of_ble_eq_true rfl, Nat.le_of_ble_eq_true rfl⟩) (fun r_27 h_28 H_29 hp_31  hH z_30 => ?_)
        have hz : s.heap.size ≤ H_29.size := Nat.le_trans hz z_30
        obtain ⟨c_32, rfl⟩ := hp_31
        refine lv_istore_n (lv' := [(3, .int r_27), (0, .ref m9), (1, .int p9), (2, .int c9), (4, .int i9)]) hx hb d_Mo_isName_32 rfl hl (by decide) rfl (fun ls hl => ?_)
        obtain ⟨j_34, e_35⟩ : ∃ z : Int32, z = i9 + 1 := ⟨_, rfl⟩
        refine lv_iinc (v := j_34) (lv' := [(4, .int j_34), (3, .int r_27), (0, .ref m9), (1, .int p9), (2, .int c9)]) hx hb d_Mo_isName_33 hl (k := 4) rfl e_35.symm (by decide) rfl (fun ls hl => ?_)
        refine lv_goto (tgt := 11) hx hb d_Mo_isName_36 (by decide) ?_
        have is_36 : j_34.toInt = i9.toInt + 1 := by rw [e_35]; exact iAddK 1 rfl (by omega) (by omega)
        exact ih11 (mU j_34) ls _ locs _ (by rw [hk11]; exact mU_lt (by omega)) ⟨r_27, j_34, rfl, (lv_sub hl [2, 3, 4, 1, 0] rfl), hH, hz, hLo, rfl, (by omega), c_32⟩
  · skip
    refine lv_istore_n (lv' := [(3, .int 1), (0, .ref m9), (1, .int p9), (2, .int c9)]) hx hb d_Mo_isName_7 rfl hl (by decide) rfl (fun ls hl => ?_)
    refine lv_iconst (v := 0) hx hb d_Mo_isName_8 (by decide) ?_
    refine lv_istore (lv' := [(4, .int 0), (3, .int 1), (0, .ref m9), (1, .int p9), (2, .int c9)]) hx hb d_Mo_isName_9 hl (by decide) rfl (fun ls hl => ?_)
    refine hm_loop (fun k11 ls H locs hh11 => ∃ (is9 : Int32) (i9 : Int32), k11 = mU i9 ∧ lv_has ls 5 [(0, .ref m9), (1, .int p9), (2, .int c9), (3, .int is9), (4, .int i9)] ∧ hm D vwCl G hh11 H ∧ s.heap.size ≤ H.size ∧ hLc nof locs ∧ (h = hh11) ∧ (0 ≤ i9.toInt) ∧ (zb is9)) ?_ (hh := h) ⟨1, 0, rfl, (lv_sub hl [2, 3, 4, 1, 0] rfl), hH, hz, hLo, rfl, (by decide), zb1⟩
    rintro k11 ls H locs hh11 ⟨is9, i9, hk11, hl, hH, hz, hLo, rfl, I_i9, hzi⟩ ih11
    refine lv_iload hx hb d_Mo_isName_11 (lv_at hl 4 rfl) ?_
    refine lv_iload_n hx hb d_Mo_isName_13 rfl (lv_at hl 2 rfl) ?_
    refine lv_icmp_ge (tgt := 39) hx hb d_Mo_isName_14 (by decide) (fun hc_37 => ?_) (fun hc_37 => ?_)
    · skip
      have ic_38 : c9.toInt ≤ i9.toInt := iLe hc_37
      refine lv_iload_n hx hb d_Mo_isName_39 rfl (lv_at hl 3 rfl) ?_
      exact W.zret (v := is9) hx hb hr (zb_n hzi) (fun t9 ht hW => ⟨is9, h, rfl, ⟨hzi, rfl⟩, by rw [ht]; exact hH, by rw [ht]; exact hz⟩) hLo d_Mo_isName_40
    · skip
      have ic_39 : i9.toInt < c9.toInt := iNe hc_37
      have iu_40 : c9.toInt < 2147483648 := iUp _
      refine lv_iload_n hx hb d_Mo_isName_17 rfl (lv_at hl 3 rfl) ?_
      refine lv_if_eq (tgt := 39) hx hb d_Mo_isName_18 (by decide) (fun hc_41 => ?_) (fun hc_41 => ?_)
      · skip
        have ic_42 : is9.toInt = 0 := congrArg Int32.toInt hc_41
        refine lv_iload_n hx hb d_Mo_isName_39 rfl (lv_at hl 3 rfl) ?_
        exact W.zret (v := is9) hx hb hr (zb_n hzi) (fun t9 ht hW => ⟨is9, h, rfl, ⟨hzi, rfl⟩, by rw [ht]; exact hH, by rw [ht]; exact hz⟩) hLo d_Mo_isName_40
      · skip
        refine lv_aload_n hx hb d_Mo_isName_21 rfl (lv_at hl 0 rfl) ?_
        refine lv_iload_n hx hb d_Mo_isName_22 rfl (lv_at hl 1 rfl) ?_
        refine lv_iload hx hb d_Mo_isName_23 (lv_at hl 4 rfl) ?_
        refine lv_iadd hx hb d_Mo_isName_25 ?_
        refine lv_topi (fun v_43 e_44 => ?_)
        have is_45 : v_43.toInt = p9.toInt + i9.toInt := by rw [e_44]; exact iAdd (by omega) (by omega)
        refine hm_callPi (va_runV (As := [.int v_43]) (b := m9) (rest := []) ⟨hx, hb, hml, hown, hts⟩ (m_get l D t G ak av h τ n m9 v_43 A th sd lo le wr ma nu di pl se wg op   hn hT T_m9  F_m9 hA ⟨hsd, hlo, (by omega), ⟨by omega, by omega⟩, ⟨by omega, by omega⟩⟩ (by omega) (by omega)) ⟨cw9B 1 hts mw_698 mw_699 mw_579 rfl rfl (by decide +kernel) ⟨Nat.le_of_ble_eq_true rfl, Nat.le_of_ble_eq_true rfl⟩, hts _ mw_700, hts _ mw_701⟩ (hP_V (q := (R_Mo, F_Mo, 41)) kE_ok hE hK hH F_m9 rfl) rfl rfl hl.1 rfl (lv_room (Nat.le_of_ble_eq_true rfl)) d_Mo_isName_26 ⟨Nat.le_of_ble_eq_true rfl, Nat.le_of_ble_eq_true rfl⟩) (fun r_46 h_47 H_48 hp_50  hH z_49 => ?_)
        have hz : s.heap.size ≤ H_48.size := Nat.le_trans hz z_49
        obtain ⟨xp_51, rfl⟩ := hp_50
        obtain ⟨ia_52, eg_53⟩ := xp_51
        refine hm_callPi (va_runS (As := [.int r_46]) (rest := []) ⟨hx, hb, hml, hown, hts⟩ (m_letter l D t G ak av h τ n r_46    hn hT    ) ⟨cw9B 1 hts mw_578 mw_580 mw_579 rfl rfl (by decide +kernel) ⟨Nat.le_of_ble_eq_true rfl, Nat.le_of_ble_eq_true rfl⟩, hts _ mw_581⟩ (hP_S kE_ok hE hH) rfl rfl hl.1 rfl (lv_room (Nat.le_of_ble_eq_true rfl)) d_Mo_isName_29 ⟨Nat.le_of_ble_eq_true rfl, Nat.le_of_ble_eq_true rfl⟩) (fun r_54 h_55 H_56 hp_58  hH z_57 => ?_)
        have hz : s.heap.size ≤ H_56.size := Nat.le_trans hz z_57
        obtain ⟨c_59, rfl⟩ := hp_58
        refine lv_istore_n (lv' := [(3, .int r_54), (0, .ref m9), (1, .int p9), (2, .int c9), (4, .int i9)]) hx hb d_Mo_isName_32 rfl hl (by decide) rfl (fun ls hl => ?_)
        obtain ⟨j_61, e_62⟩ : ∃ z : Int32, z = i9 + 1 := ⟨_, rfl⟩
        refine lv_iinc (v := j_61) (lv' := [(4, .int j_61), (3, .int r_54), (0, .ref m9), (1, .int p9), (2, .int c9)]) hx hb d_Mo_isName_33 hl (k := 4) rfl e_62.symm (by decide) rfl (fun ls hl => ?_)
        refine lv_goto (tgt := 11) hx hb d_Mo_isName_36 (by decide) ?_
        have is_63 : j_61.toInt = i9.toInt + 1 := by rw [e_62]; exact iAddK 1 rfl (by omega) (by omega)
        exact ih11 (mU j_61) ls _ locs _ (by rw [hk11]; exact mU_lt (by omega)) ⟨r_54, j_61, rfl, (lv_sub hl [2, 3, 4, 1, 0] rfl), hH, hz, hLo, rfl, (by omega), c_59⟩

set_option maxHeartbeats 4000000 in
set_option maxRecDepth 100000 in
theorem m_isRec (l : Launch) (D : va_G) (t : Nat → ClassId) (G : hG) (ak av : Nat → Nat) (h : hM) (τ : tM) (n : Nat) (m9 : Nat) (p9 : Int32) (so9 : Int32) (A : Nat → Nat) (th sd lo le wr ma nu di pl se wg op : Int32) (hn : n ≤ 200) (hT : TI τ t n h) (T_m9 : τ m9 = (20, 0)) (F_m9 : h m9 = some (.inr (9, mf A n th sd lo le wr ma nu di pl se wg op))) (hA : ∀ i, i < 28 → τ (A i) = (30, i)) (hmk : mOk sd lo ma se op) (hp0 : 0 ≤ p9.toInt) (hp1 : p9.toInt < 409600) : Met l y_Mo_isRecord (.code y_Mo_isRecord b_Mo_isRecord 11 (some .boolean) :: lw_g) { frames := 3, cells := 0, slots := 0, locals := 67 } (hP (kE D t G ak av) D vwCl G h [.ref m9, .int p9, .int so9]) (hQi D vwCl G (fun r h' => zb r ∧ TI τ t n h' ∧ kf τ [] [m9] h h' ∧ (∃ (wg' : Int32), h' m9 = some (.inr (9, mf A n th sd lo le wr ma nu di pl se wg' op)) ∧ mOk sd lo ma se op ∧ ((r = 1 → recQ (aI h (A 0)) sd p9 n) ∧ (r = 0 → 0 ≤ wg'.toInt))))) 0 0 G.P := by
  refine Met.ofW (cc := b_Mo_isRecord) (maxL := 11) (ret := (some .boolean)) (by decide) rfl ?_
  intro p e s m args below meth c s₁ Bd hml hv
  obtain ⟨ha, hE, hH⟩ := hv
  have hx := Bd.exec
  have hb := Bd.bytes
  have hr := Bd.returns
  have hts : ∀ w ∈ lw_g, w.before args s = true := fun w hw => atoms_spec (ws := (.code y_Mo_isRecord b_Mo_isRecord 11 (some .boolean) :: lw_g)) Bd.pre w (List.mem_cons_of_mem _ hw)
  have hown : s.vm.findClass R_Mo = some m.cls := findClass_of_methodNamed Bd.named
  have hlocks := Bd.notSynchronized
  have hK := hE.1
  have hH0 := hH
  have hLo : hLc G.P [] := hLc_nil
  have hz : s.heap.size ≤ s.heap.size := Nat.le_refl _
  have hl := lv_entry [.ref m9, .int p9, .int so9] (n := 11) (Nat.le_of_ble_eq_true rfl)
  rw [show entryFrame m args 11 = F0 m 0 ((lg_sl [.ref m9, .int p9, .int so9] ++ List.replicate (11 - (lg_sl [.ref m9, .int p9, .int so9]).length) Slot.unset).toArray) [] from (by rw [ha]; exact lg_entry_eq m [.ref m9, .int p9, .int so9] 11)]
  generalize (lg_sl [.ref m9, .int p9, .int so9] ++ List.replicate (11 - (lg_sl [.ref m9, .int p9, .int so9]).length) Slot.unset).toArray = ls at hl ⊢
  have hl : lv_has ls 11 [(0, .ref m9), (1, .int p9), (2, .int so9)] := hl
  have hkf : kf τ [] [m9] h h := kf_rf
  obtain ⟨hsd, hlo, hma, hse, hop⟩ := id hmk
  have inI : (nI n).toInt = n := nI_toInt (by omega)
  obtain ⟨g_1, F_A0, c_2⟩ := TI_arB (L := 819200) hT (hA 0 (by decide)) rfl rfl
  refine lv_sipush (v := 2048) hx hb d_Mo_isRecord_0 (by decide) ?_
  refine lv_iload_n hx hb d_Mo_isRecord_3 rfl (lv_at hl 1 rfl) ?_
  refine lv_sipush (v := 2048) hx hb d_Mo_isRecord_4 (by decide) ?_
  refine lv_irem hx hb d_Mo_isRecord_7 (by decide) ?_
  refine lv_topi (fun v_3 e_4 => ?_)
  have id_5 : 0 ≤ p9.toInt → v_3.toInt = p9.toInt % 2048 := fun h9 => by rw [e_4]; exact i_mod (d := 2048) (by decide) h9
  refine lv_isub hx hb d_Mo_isRecord_8 ?_
  refine lv_topi (fun v_6 e_7 => ?_)
  have irm := id_5 hp0
  have is_8 : v_6.toInt = 2048 - v_3.toInt := by rw [e_7]; exact iSubL 2048 rfl (by omega) (by omega)
  refine lv_istore_n (lv' := [(3, .int v_6), (0, .ref m9), (1, .int p9), (2, .int so9)]) hx hb d_Mo_isRecord_9 rfl hl (by decide) rfl (fun ls hl => ?_)
  refine lv_aload_n hx hb d_Mo_isRecord_10 rfl (lv_at hl 1 rfl) ?_
  refine lv_iload_n hx hb d_Mo_isRecord_11 rfl (lv_at hl 2 rfl) ?_
  refine hm_callPi (va_runV (As := [.int p9]) (b := m9) (rest := []) ⟨hx, hb, hml, hown, hts⟩ (m_get l D t G ak av h τ n m9 p9 A th sd lo le wr ma nu di pl se wg op   hn hT T_m9  F_m9 hA ⟨hsd, hlo, (by omega), ⟨by omega, by omega⟩, ⟨by omega, by omega⟩⟩ (by omega) (by omega)) ⟨cw9B 1 hts mw_698 mw_699 mw_579 rfl rfl (by decide +kernel) ⟨Nat.le_of_ble_eq_true rfl, Nat.le_of_ble_eq_true rfl⟩, hts _ mw_700, hts _ mw_701⟩ (hP_V (q := (R_Mo, F_Mo, 41)) kE_ok hE hK hH F_m9 rfl) rfl rfl hl.1 rfl (lv_room (Nat.le_of_ble_eq_true rfl)) d_Mo_isRecord_12 ⟨Nat.le_of_ble_eq_true rfl, Nat.le_of_ble_eq_true rfl⟩) (fun r_9 h_10 H_11 hp_13  hH z_12 => ?_)
  have hz : s.heap.size ≤ H_11.size := Nat.le_trans hz z_12
  obtain ⟨xp_14, rfl⟩ := hp_13
  obtain ⟨ia_15, eg_16⟩ := xp_14
  rw [aI_of F_A0] at eg_16
  refine lv_istore (lv' := [(4, .int r_9), (3, .int v_6), (0, .ref m9), (1, .int p9), (2, .int so9)]) hx hb d_Mo_isRecord_15 hl (by decide) rfl (fun ls hl => ?_)
  refine lv_iload hx hb d_Mo_isRecord_17 (lv_at hl 0 rfl) ?_
  refine lv_bipush (v := 34) hx hb d_Mo_isRecord_19 (by decide) ?_
  refine lv_icmp_lt (tgt := 30) hx hb d_Mo_isRecord_21 (by decide) (fun hc_17 => ?_) (fun hc_17 => ?_)
  · skip
    have ic_18 : r_9.toInt < 34 := iLt hc_17
    refine lv_aload_n hx hb d_Mo_isRecord_30 rfl (lv_at hl 2 rfl) ?_
    refine lv_iload_n hx hb d_Mo_isRecord_31 rfl (lv_at hl 3 rfl) ?_
    refine hm_calli (va_runV (As := [.int p9]) (b := m9) (rest := []) ⟨hx, hb, hml, hown, hts⟩ (m_no l D t G ak av h τ n m9 p9 A th sd lo le wr ma nu di pl se wg op   hn hT T_m9  F_m9 hA ⟨hsd, hlo, (by omega), ⟨by omega, by omega⟩, ⟨by omega, by omega⟩⟩ (by omega)) ⟨cw9B 1 hts mw_738 mw_739 mw_579 rfl rfl (by decide +kernel) ⟨Nat.le_of_ble_eq_true rfl, Nat.le_of_ble_eq_true rfl⟩, hts _ mw_740, hts _ mw_741⟩ (hP_V (q := (R_Mo, F_Mo, 41)) kE_ok hE hK hH F_m9 rfl) rfl rfl hl.1 rfl (lv_room (Nat.le_of_ble_eq_true rfl)) d_Mo_isRecord_32 ⟨Nat.le_of_ble_eq_true rfl, Nat.le_of_ble_eq_true rfl⟩) hLo (fun r_19 h_20 H_21 locs hp_23 hH z_22 hLo => ?_)
    have hz : s.heap.size ≤ H_21.size := Nat.le_trans hz z_22
    have hT0 := hT
    obtain ⟨c_24, hT, kf_26, xp_25⟩ := hp_23
    have F_A0 : h_20 (A 0) = some (.inl ((t 0), 819200, .inl g_1)) := kf_at kf_26 (hA 0 (by decide)) (by decide) tn0 (nmc (tne (hA 0 (by decide)) T_m9 (by decide)) nm0) F_A0
    have hkf : kf τ [] [m9] h h_20 := kf_tr hkf kf_26 (List.forall_mem_nil _) (List.forall_mem_cons.mpr ⟨Or.inl (by simp), List.forall_mem_nil _⟩)
    obtain ⟨wg_27, F_m9, mk_28, xq_29⟩ := xp_25
    obtain ⟨m_30, m_31, m_32, m_33, m_34⟩ := mk_28
    obtain ⟨hr0, hw0⟩ := xq_29
    subst hr0
    exact W.zret (v := 0) hx hb hr (by decide) (fun t9 ht hW => ⟨0, h_20, rfl, ⟨zb0, hT, hkf, ⟨wg_27, F_m9, ⟨m_30, m_31, (by omega), ⟨by omega, by omega⟩, ⟨by omega, by omega⟩⟩, ⟨fun z => absurd z (by decide), fun _ => hw0⟩⟩⟩, by rw [ht]; exact hH, by rw [ht]; exact hz⟩) hLo d_Mo_isRecord_35
  · skip
    have ic_35 : 34 ≤ r_9.toInt := iNl hc_17
    refine lv_iload hx hb d_Mo_isRecord_24 (lv_at hl 0 rfl) ?_
    refine lv_iload_n hx hb d_Mo_isRecord_26 rfl (lv_at hl 1 rfl) ?_
    refine lv_icmp_le (tgt := 36) hx hb d_Mo_isRecord_27 (by decide) (fun hc_36 => ?_) (fun hc_36 => ?_)
    · skip
      have ic_37 : r_9.toInt ≤ v_6.toInt := iLe hc_36
      refine lv_aload_n hx hb d_Mo_isRecord_36 rfl (lv_at hl 2 rfl) ?_
      refine lv_iload_n hx hb d_Mo_isRecord_37 rfl (lv_at hl 3 rfl) ?_
      refine lv_bipush (v := 32) hx hb d_Mo_isRecord_38 (by decide) ?_
      refine lv_iadd hx hb d_Mo_isRecord_40 ?_
      refine lv_topi (fun v_38 e_39 => ?_)
      have is_40 : v_38.toInt = p9.toInt + 32 := by rw [e_39]; exact iAddK 32 rfl (by omega) (by omega)
      refine hm_callPi (va_runV (As := [.int v_38]) (b := m9) (rest := []) ⟨hx, hb, hml, hown, hts⟩ (m_get l D t G ak av h τ n m9 v_38 A th sd lo le wr ma nu di pl se wg op   hn hT T_m9  F_m9 hA ⟨hsd, hlo, (by omega), ⟨by omega, by omega⟩, ⟨by omega, by omega⟩⟩ (by omega) (by omega)) ⟨cw9B 1 hts mw_698 mw_699 mw_579 rfl rfl (by decide +kernel) ⟨Nat.le_of_ble_eq_true rfl, Nat.le_of_ble_eq_true rfl⟩, hts _ mw_700, hts _ mw_701⟩ (hP_V (q := (R_Mo, F_Mo, 41)) kE_ok hE hK hH F_m9 rfl) rfl rfl hl.1 rfl (lv_room (Nat.le_of_ble_eq_true rfl)) d_Mo_isRecord_41 ⟨Nat.le_of_ble_eq_true rfl, Nat.le_of_ble_eq_true rfl⟩) (fun r_41 h_42 H_43 hp_45  hH z_44 => ?_)
      have hz : s.heap.size ≤ H_43.size := Nat.le_trans hz z_44
      obtain ⟨xp_46, rfl⟩ := hp_45
      obtain ⟨ia_47, eg_48⟩ := xp_46
      rw [aI_of F_A0] at eg_48
      refine lv_istore (lv' := [(5, .int r_41), (4, .int r_9), (3, .int v_6), (0, .ref m9), (1, .int p9), (2, .int so9)]) hx hb d_Mo_isRecord_44 hl (by decide) rfl (fun ls hl => ?_)
      refine hm_cut (α := Int32) (fun is9 ls H locs HH => (lv_has ls 11 [(0, .ref m9), (1, .int p9), (2, .int so9), (3, .int v_6), (4, .int r_9), (5, .int r_41)]) ∧ (hm D vwCl G HH H) ∧ (s.heap.size ≤ H.size) ∧ (hLc G.P locs) ∧ (h = HH) ∧ (zb is9) ∧ (is9 = 1 → 33 + r_41.toInt ≤ r_9.toInt)) 148 (fun is9 => [.int is9]) ?_ (fun J148 => ?_)
      · skip
        rintro is9 ls H locs HH ⟨hl, hH, hz, hLo, rfl, P_is9, hi9⟩
        refine lv_istore (lv' := [(6, .int is9), (0, .ref m9), (1, .int p9), (2, .int so9), (3, .int v_6), (4, .int r_9), (5, .int r_41)]) hx hb d_Mo_isRecord_148 hl (by decide) rfl (fun ls hl => ?_)
        refine lv_aload_n hx hb d_Mo_isRecord_150 rfl (lv_at hl 1 rfl) ?_
        refine lv_iload_n hx hb d_Mo_isRecord_151 rfl (lv_at hl 2 rfl) ?_
        refine lv_bipush (v := 25) hx hb d_Mo_isRecord_152 (by decide) ?_
        refine lv_iadd hx hb d_Mo_isRecord_154 ?_
        refine lv_topi (fun v_49 e_50 => ?_)
        have is_51 : v_49.toInt = p9.toInt + 25 := by rw [e_50]; exact iAddK 25 rfl (by omega) (by omega)
        refine hm_callPi (va_runV (As := [.int v_49]) (b := m9) (rest := []) ⟨hx, hb, hml, hown, hts⟩ (m_get l D t G ak av h τ n m9 v_49 A th sd lo le wr ma nu di pl se wg op   hn hT T_m9  F_m9 hA ⟨hsd, hlo, (by omega), ⟨by omega, by omega⟩, ⟨by omega, by omega⟩⟩ (by omega) (by omega)) ⟨cw9B 1 hts mw_698 mw_699 mw_579 rfl rfl (by decide +kernel) ⟨Nat.le_of_ble_eq_true rfl, Nat.le_of_ble_eq_true rfl⟩, hts _ mw_700, hts _ mw_701⟩ (hP_V (q := (R_Mo, F_Mo, 41)) kE_ok hE hK hH F_m9 rfl) rfl rfl hl.1 rfl (lv_room (Nat.le_of_ble_eq_true rfl)) d_Mo_isRecord_155 ⟨Nat.le_of_ble_eq_true rfl, Nat.le_of_ble_eq_true rfl⟩) (fun r_52 h_53 H_54 hp_56  hH z_55 => ?_)
        have hz : s.heap.size ≤ H_54.size := Nat.le_trans hz z_55
        obtain ⟨xp_57, rfl⟩ := hp_56
        obtain ⟨ia_58, eg_59⟩ := xp_57
        rw [aI_of F_A0] at eg_59
        refine lv_istore (lv' := [(7, .int r_52), (6, .int is9), (0, .ref m9), (1, .int p9), (2, .int so9), (3, .int v_6), (4, .int r_9), (5, .int r_41)]) hx hb d_Mo_isRecord_158 hl (by decide) rfl (fun ls hl => ?_)
        refine lv_iload hx hb d_Mo_isRecord_160 (lv_at hl 1 rfl) ?_
        refine lv_if_eq (tgt := 176) hx hb d_Mo_isRecord_162 (by decide) (fun hc_60 => ?_) (fun hc_60 => ?_)
        · skip
          have ic_61 : is9.toInt = 0 := congrArg Int32.toInt hc_60
          refine lv_aload_n hx hb d_Mo_isRecord_176 rfl (lv_at hl 2 rfl) ?_
          refine lv_iload_n hx hb d_Mo_isRecord_177 rfl (lv_at hl 3 rfl) ?_
          refine hm_calli (va_runV (As := [.int p9]) (b := m9) (rest := []) ⟨hx, hb, hml, hown, hts⟩ (m_no l D t G ak av h τ n m9 p9 A th sd lo le wr ma nu di pl se wg op   hn hT T_m9  F_m9 hA ⟨hsd, hlo, (by omega), ⟨by omega, by omega⟩, ⟨by omega, by omega⟩⟩ (by omega)) ⟨cw9B 1 hts mw_738 mw_739 mw_579 rfl rfl (by decide +kernel) ⟨Nat.le_of_ble_eq_true rfl, Nat.le_of_ble_eq_true rfl⟩, hts _ mw_740, hts _ mw_741⟩ (hP_V (q := (R_Mo, F_Mo, 41)) kE_ok hE hK hH F_m9 rfl) rfl rfl hl.1 rfl (lv_room (Nat.le_of_ble_eq_true rfl)) d_Mo_isRecord_178 ⟨Nat.le_of_ble_eq_true rfl, Nat.le_of_ble_eq_true rfl⟩) hLo (fun r_62 h_63 H_64 locs hp_66 hH z_65 hLo => ?_)
          have hz : s.heap.size ≤ H_64.size := Nat.le_trans hz z_65
          have hT0 := hT
          obtain ⟨c_67, hT, kf_69, xp_68⟩ := hp_66
          have F_A0 : h_63 (A 0) = some (.inl ((t 0), 819200, .inl g_1)) := kf_at kf_69 (hA 0 (by decide)) (by decide) tn0 (nmc (tne (hA 0 (by decide)) T_m9 (by decide)) nm0) F_A0
          have hkf : kf τ [] [m9] h h_63 := kf_tr hkf kf_69 (List.forall_mem_nil _) (List.forall_mem_cons.mpr ⟨Or.inl (by simp), List.forall_mem_nil _⟩)
          obtain ⟨wg_70, F_m9, mk_71, xq_72⟩ := xp_68
          obtain ⟨m_73, m_74, m_75, m_76, m_77⟩ := mk_71
          obtain ⟨hr0, hw0⟩ := xq_72
          subst hr0
          exact W.zret (v := 0) hx hb hr (by decide) (fun t9 ht hW => ⟨0, h_63, rfl, ⟨zb0, hT, hkf, ⟨wg_70, F_m9, ⟨m_73, m_74, (by omega), ⟨by omega, by omega⟩, ⟨by omega, by omega⟩⟩, ⟨fun z => absurd z (by decide), fun _ => hw0⟩⟩⟩, by rw [ht]; exact hH, by rw [ht]; exact hz⟩) hLo d_Mo_isRecord_181
        · skip
          have hn9 := hi9 (P_is9.resolve_left hc_60)
          refine lv_iload hx hb d_Mo_isRecord_165 (lv_at hl 0 rfl) ?_
          refine lv_if_eq (tgt := 182) hx hb d_Mo_isRecord_167 (by decide) (fun hc_78 => ?_) (fun hc_78 => ?_)
          · skip
            have ic_79 : r_52.toInt = 0 := congrArg Int32.toInt hc_78
            refine hm_cut (α := Int32) (fun d9 ls H locs HH => (lv_has ls 11 [(0, .ref m9), (1, .int p9), (2, .int so9), (3, .int v_6), (4, .int r_9), (5, .int r_41), (6, .int is9), (7, .int r_52)]) ∧ (hm D vwCl G HH H) ∧ (s.heap.size ≤ H.size) ∧ (hLc G.P locs) ∧ (h = HH) ∧ (zb d9)) 193 (fun d9 => [.int d9]) ?_ (fun J193 => ?_)
            · skip
              rintro d9 ls H locs HH ⟨hl, hH, hz, hLo, rfl, P_d9⟩
              refine lv_istore (lv' := [(8, .int d9), (0, .ref m9), (1, .int p9), (2, .int so9), (3, .int v_6), (4, .int r_9), (5, .int r_41), (6, .int is9), (7, .int r_52)]) hx hb d_Mo_isRecord_193 hl (by decide) rfl (fun ls hl => ?_)
              refine hm_cut (α := Unit) (fun un9 ls H locs HH => ∃ (is8 : Int32), (lv_has ls 11 [(0, .ref m9), (1, .int p9), (2, .int so9), (3, .int v_6), (4, .int r_9), (5, .int r_41), (7, .int r_52), (8, .int d9), (6, .int is8)]) ∧ (hm D vwCl G HH H) ∧ (s.heap.size ≤ H.size) ∧ (hLc G.P locs) ∧ (h = HH) ∧ (zb is8)) 323 (fun un9 => []) ?_ (fun J323 => ?_)
              · skip
                rintro un9 ls H locs HH ⟨is8, hl, hH, hz, hLo, rfl, P_is8⟩
                refine lv_aload_n hx hb d_Mo_isRecord_323 rfl (lv_at hl 0 rfl) ?_
                refine lv_iload_n hx hb d_Mo_isRecord_324 rfl (lv_at hl 1 rfl) ?_
                refine lv_iconst (v := 2) hx hb d_Mo_isRecord_325 (by decide) ?_
                refine lv_iadd hx hb d_Mo_isRecord_326 ?_
                refine lv_topi (fun v_80 e_81 => ?_)
                refine lv_iconst (v := 4) hx hb d_Mo_isRecord_327 (by decide) ?_
                have is_82 : v_80.toInt = p9.toInt + 2 := by rw [e_81]; exact iAddK 2 rfl (by omega) (by omega)
                refine hm_callPi (va_runV (As := [.int v_80, .int 4]) (b := m9) (rest := []) ⟨hx, hb, hml, hown, hts⟩ (m_lowAt l D t G ak av h τ n m9 v_80 4 A th sd lo le wr ma nu di pl se wg op   hn hT T_m9  F_m9 hA ⟨hsd, hlo, (by omega), ⟨by omega, by omega⟩, ⟨by omega, by omega⟩⟩ (by have l0 : (4 : Int32).toInt = 4 := rfl; omega) (by have l0 : (4 : Int32).toInt = 4 := rfl; omega) (by have l0 : (4 : Int32).toInt = 4 := rfl; omega)) ⟨cw9B 2 hts mw_742 mw_743 mw_579 rfl rfl (by decide +kernel) ⟨Nat.le_of_ble_eq_true rfl, Nat.le_of_ble_eq_true rfl⟩, hts _ mw_744, hts _ mw_745⟩ (hP_V (q := (R_Mo, F_Mo, 41)) kE_ok hE hK hH F_m9 rfl) rfl rfl hl.1 rfl (lv_room (Nat.le_of_ble_eq_true rfl)) d_Mo_isRecord_328 ⟨Nat.le_of_ble_eq_true rfl, Nat.le_of_ble_eq_true rfl⟩) (fun r_83 h_84 H_85 hp_87  hH z_86 => ?_)
                have hz : s.heap.size ≤ H_85.size := Nat.le_trans hz z_86
                obtain ⟨xp_88, rfl⟩ := hp_87
                have el_89 : r_83 = loF g_1 sd v_80 4 0 := by rw [aI_of F_A0] at xp_88; exact xp_88
                refine lv_istore (lv' := [(9, .int r_83), (0, .ref m9), (1, .int p9), (2, .int so9), (3, .int v_6), (4, .int r_9), (5, .int r_41), (7, .int r_52), (8, .int d9), (6, .int is8)]) hx hb d_Mo_isRecord_331 hl (by decide) rfl (fun ls hl => ?_)
                refine lv_aload_n hx hb d_Mo_isRecord_333 rfl (lv_at hl 1 rfl) ?_
                refine lv_iload_n hx hb d_Mo_isRecord_334 rfl (lv_at hl 2 rfl) ?_
                refine lv_bipush (v := 10) hx hb d_Mo_isRecord_335 (by decide) ?_
                refine lv_iadd hx hb d_Mo_isRecord_337 ?_
                refine lv_topi (fun v_90 e_91 => ?_)
                refine lv_iconst (v := 4) hx hb d_Mo_isRecord_338 (by decide) ?_
                have is_92 : v_90.toInt = p9.toInt + 10 := by rw [e_91]; exact iAddK 10 rfl (by omega) (by omega)
                refine hm_callPi (va_runV (As := [.int v_90, .int 4]) (b := m9) (rest := []) ⟨hx, hb, hml, hown, hts⟩ (m_lowAt l D t G ak av h τ n m9 v_90 4 A th sd lo le wr ma nu di pl se wg op   hn hT T_m9  F_m9 hA ⟨hsd, hlo, (by omega), ⟨by omega, by omega⟩, ⟨by omega, by omega⟩⟩ (by have l0 : (4 : Int32).toInt = 4 := rfl; omega) (by have l0 : (4 : Int32).toInt = 4 := rfl; omega) (by have l0 : (4 : Int32).toInt = 4 := rfl; omega)) ⟨cw9B 2 hts mw_742 mw_743 mw_579 rfl rfl (by decide +kernel) ⟨Nat.le_of_ble_eq_true rfl, Nat.le_of_ble_eq_true rfl⟩, hts _ mw_744, hts _ mw_745⟩ (hP_V (q := (R_Mo, F_Mo, 41)) kE_ok hE hK hH F_m9 rfl) rfl rfl hl.1 rfl (lv_room (Nat.le_of_ble_eq_true rfl)) d_Mo_isRecord_339 ⟨Nat.le_of_ble_eq_true rfl, Nat.le_of_ble_eq_true rfl⟩) (fun r_93 h_94 H_95 hp_97  hH z_96 => ?_)
                have hz : s.heap.size ≤ H_95.size := Nat.le_trans hz z_96
                obtain ⟨xp_98, rfl⟩ := hp_97
                have el_99 : r_93 = loF g_1 sd v_90 4 0 := by rw [aI_of F_A0] at xp_98; exact xp_98
                refine lv_istore (lv' := [(10, .int r_93), (9, .int r_83), (0, .ref m9), (1, .int p9), (2, .int so9), (3, .int v_6), (4, .int r_9), (5, .int r_41), (7, .int r_52), (8, .int d9), (6, .int is8)]) hx hb d_Mo_isRecord_342 hl (by decide) rfl (fun ls hl => ?_)
                refine lv_iload hx hb d_Mo_isRecord_344 (lv_at hl 10 rfl) ?_
                refine lv_if_eq (tgt := 376) hx hb d_Mo_isRecord_346 (by decide) (fun hc_100 => ?_) (fun hc_100 => ?_)
                · skip
                  have ic_101 : is8.toInt = 0 := congrArg Int32.toInt hc_100
                  refine lv_aload_n hx hb d_Mo_isRecord_376 rfl (lv_at hl 2 rfl) ?_
                  refine lv_iload_n hx hb d_Mo_isRecord_377 rfl (lv_at hl 3 rfl) ?_
                  refine hm_calli (va_runV (As := [.int p9]) (b := m9) (rest := []) ⟨hx, hb, hml, hown, hts⟩ (m_no l D t G ak av h τ n m9 p9 A th sd lo le wr ma nu di pl se wg op   hn hT T_m9  F_m9 hA ⟨hsd, hlo, (by omega), ⟨by omega, by omega⟩, ⟨by omega, by omega⟩⟩ (by omega)) ⟨cw9B 1 hts mw_738 mw_739 mw_579 rfl rfl (by decide +kernel) ⟨Nat.le_of_ble_eq_true rfl, Nat.le_of_ble_eq_true rfl⟩, hts _ mw_740, hts _ mw_741⟩ (hP_V (q := (R_Mo, F_Mo, 41)) kE_ok hE hK hH F_m9 rfl) rfl rfl hl.1 rfl (lv_room (Nat.le_of_ble_eq_true rfl)) d_Mo_isRecord_378 ⟨Nat.le_of_ble_eq_true rfl, Nat.le_of_ble_eq_true rfl⟩) hLo (fun r_102 h_103 H_104 locs hp_106 hH z_105 hLo => ?_)
                  have hz : s.heap.size ≤ H_104.size := Nat.le_trans hz z_105
                  have hT0 := hT
                  obtain ⟨c_107, hT, kf_109, xp_108⟩ := hp_106
                  have F_A0 : h_103 (A 0) = some (.inl ((t 0), 819200, .inl g_1)) := kf_at kf_109 (hA 0 (by decide)) (by decide) tn0 (nmc (tne (hA 0 (by decide)) T_m9 (by decide)) nm0) F_A0
                  have hkf : kf τ [] [m9] h h_103 := kf_tr hkf kf_109 (List.forall_mem_nil _) (List.forall_mem_cons.mpr ⟨Or.inl (by simp), List.forall_mem_nil _⟩)
                  obtain ⟨wg_110, F_m9, mk_111, xq_112⟩ := xp_108
                  obtain ⟨m_113, m_114, m_115, m_116, m_117⟩ := mk_111
                  obtain ⟨hr0, hw0⟩ := xq_112
                  subst hr0
                  exact W.zret (v := 0) hx hb hr (by decide) (fun t9 ht hW => ⟨0, h_103, rfl, ⟨zb0, hT, hkf, ⟨wg_110, F_m9, ⟨m_113, m_114, (by omega), ⟨by omega, by omega⟩, ⟨by omega, by omega⟩⟩, ⟨fun z => absurd z (by decide), fun _ => hw0⟩⟩⟩, by rw [ht]; exact hH, by rw [ht]; exact hz⟩) hLo d_Mo_isRecord_381
                · skip
                  refine lv_iload hx hb d_Mo_isRecord_349 (lv_at hl 9 rfl) ?_
                  refine lv_if_eq (tgt := 371) hx hb d_Mo_isRecord_351 (by decide) (fun hc_118 => ?_) (fun hc_118 => ?_)
                  · skip
                    have ic_119 : d9.toInt = 0 := congrArg Int32.toInt hc_118
                    refine lv_iload hx hb d_Mo_isRecord_371 (lv_at hl 0 rfl) ?_
                    refine lv_if_ge (tgt := 382) hx hb d_Mo_isRecord_373 (by decide) (fun hc_120 => ?_) (fun hc_120 => ?_)
                    · skip
                      have ic_121 : 0 ≤ r_93.toInt := iLe hc_120
                      refine lv_iload hx hb d_Mo_isRecord_382 (lv_at hl 0 rfl) ?_
                      refine lv_if_ne (tgt := 406) hx hb d_Mo_isRecord_384 (by decide) (fun hc_122 => ?_) (fun hc_122 => ?_)
                      · skip
                        refine lv_aload_n hx hb d_Mo_isRecord_406 rfl (lv_at hl 2 rfl) ?_
                        refine lv_iload hx hb d_Mo_isRecord_407 (lv_at hl 1 rfl) ?_
                        refine lv_iload hx hb d_Mo_isRecord_409 (lv_at hl 0 rfl) ?_
                        refine lv_i2l (v := r_93.toInt64) hx hb d_Mo_isRecord_411 rfl ?_
                        refine lv_ldc2 (v := 2047) hx hb hown (hts _ mw_746) d_Mo_isRecord_412 ?_
                        refine lv_ladd hx hb d_Mo_isRecord_415 ?_
                        refine lv_topl (fun v_123 e_124 => ?_)
                        refine lv_ldc2 (v := 2048) hx hb hown (hts _ mw_747) d_Mo_isRecord_416 ?_
                        refine lv_ldiv hx hb d_Mo_isRecord_419 (by decide) ?_
                        refine lv_topl (fun v_125 e_126 => ?_)
                        have ild := ld_ok rfl e_124 e_126 (by omega)
                        have iup9 := iUp r_93
                        refine hm_callPi (va_runV (As := [.int r_83, .long v_125]) (b := m9) (rest := []) ⟨hx, hb, hml, hown, hts⟩ (m_areW l D t G ak av h τ n m9 r_83 v_125 A th sd lo le wr ma nu di pl se wg op   hn hT T_m9  F_m9 hA ⟨hsd, hlo, (by omega), ⟨by omega, by omega⟩, ⟨by omega, by omega⟩⟩ ⟨by omega, by omega⟩) ⟨cw9B 2 hts mw_748 mw_749 mw_579 rfl rfl (by decide +kernel) ⟨Nat.le_of_ble_eq_true rfl, Nat.le_of_ble_eq_true rfl⟩, hts _ mw_750, hts _ mw_751⟩ (hP_V (q := (R_Mo, F_Mo, 41)) kE_ok hE hK hH F_m9 rfl) rfl rfl hl.1 rfl (lv_room (Nat.le_of_ble_eq_true rfl)) d_Mo_isRecord_420 ⟨Nat.le_of_ble_eq_true rfl, Nat.le_of_ble_eq_true rfl⟩) (fun r_127 h_128 H_129 hp_131  hH z_130 => ?_)
                        have hz : s.heap.size ≤ H_129.size := Nat.le_trans hz z_130
                        obtain ⟨c_132, xp_133, rfl⟩ := hp_131
                        refine lv_if_ne (tgt := 434) hx hb d_Mo_isRecord_423 (by decide) (fun hc_134 => ?_) (fun hc_134 => ?_)
                        · skip
                          have haw := xp_133 (c_132.resolve_left hc_134)
                          refine lv_iconst (v := 1) hx hb d_Mo_isRecord_434 (by decide) ?_
                          refine lv_goto (tgt := 439) hx hb d_Mo_isRecord_435 (by decide) ?_
                          exact W.zret (v := 1) hx hb hr (by decide) (fun t9 ht hW => ⟨1, h, rfl, ⟨zb1, hT, hkf, ⟨wg, F_m9, ⟨hsd, hlo, (by omega), ⟨by omega, by omega⟩, ⟨by omega, by omega⟩⟩, ⟨fun _ => by
                            rw [aI_of F_A0]
                            exact ⟨r_9, r_41, r_93, r_83, eg_16.symm, by rw [← e_39]; exact eg_48.symm, by rw [← e_91]; exact el_99.symm, by rw [← e_81]; exact el_89.symm, ⟨by omega, by omega, by omega, by omega, by omega⟩, ⟨by omega, by omega, by omega⟩⟩, fun z => absurd z (by decide)⟩⟩⟩, by rw [ht]; exact hH, by rw [ht]; exact hz⟩) hLo d_Mo_isRecord_439
                        · skip
                          have ic_135 : r_127.toInt = 0 := congrArg Int32.toInt hc_134
                          refine lv_aload_n hx hb d_Mo_isRecord_426 rfl (lv_at hl 2 rfl) ?_
                          refine lv_iload_n hx hb d_Mo_isRecord_427 rfl (lv_at hl 3 rfl) ?_
                          refine hm_calli (va_runV (As := [.int p9]) (b := m9) (rest := []) ⟨hx, hb, hml, hown, hts⟩ (m_no l D t G ak av h τ n m9 p9 A th sd lo le wr ma nu di pl se wg op   hn hT T_m9  F_m9 hA ⟨hsd, hlo, (by omega), ⟨by omega, by omega⟩, ⟨by omega, by omega⟩⟩ (by omega)) ⟨cw9B 1 hts mw_738 mw_739 mw_579 rfl rfl (by decide +kernel) ⟨Nat.le_of_ble_eq_true rfl, Nat.le_of_ble_eq_true rfl⟩, hts _ mw_740, hts _ mw_741⟩ (hP_V (q := (R_Mo, F_Mo, 41)) kE_ok hE hK hH F_m9 rfl) rfl rfl hl.1 rfl (lv_room (Nat.le_of_ble_eq_true rfl)) d_Mo_isRecord_428 ⟨Nat.le_of_ble_eq_true rfl, Nat.le_of_ble_eq_true rfl⟩) hLo (fun r_136 h_137 H_138 locs hp_140 hH z_139 hLo => ?_)
                          have hz : s.heap.size ≤ H_138.size := Nat.le_trans hz z_139
                          have hT0 := hT
                          obtain ⟨c_141, hT, kf_143, xp_142⟩ := hp_140
                          have F_A0 : h_137 (A 0) = some (.inl ((t 0), 819200, .inl g_1)) := kf_at kf_143 (hA 0 (by decide)) (by decide) tn0 (nmc (tne (hA 0 (by decide)) T_m9 (by decide)) nm0) F_A0
                          have hkf : kf τ [] [m9] h h_137 := kf_tr hkf kf_143 (List.forall_mem_nil _) (List.forall_mem_cons.mpr ⟨Or.inl (by simp), List.forall_mem_nil _⟩)
                          obtain ⟨wg_144, F_m9, mk_145, xq_146⟩ := xp_142
                          obtain ⟨m_147, m_148, m_149, m_150, m_151⟩ := mk_145
                          obtain ⟨hr0, hw0⟩ := xq_146
                          subst hr0
                          refine lv_if_eq (tgt := 438) hx hb d_Mo_isRecord_431 (by decide) (fun hc_152 => ?_) (fun hc_152 => absurd hc_152 (by decide))
                          refine lv_iconst (v := 0) hx hb d_Mo_isRecord_438 (by decide) ?_
                          exact W.zret (v := 0) hx hb hr (by decide) (fun t9 ht hW => ⟨0, h_137, rfl, ⟨zb0, hT, hkf, ⟨wg_144, F_m9, ⟨m_147, m_148, (by omega), ⟨by omega, by omega⟩, ⟨by omega, by omega⟩⟩, ⟨fun z => absurd z (by decide), fun _ => hw0⟩⟩⟩, by rw [ht]; exact hH, by rw [ht]; exact hz⟩) hLo d_Mo_isRecord_439
                      · skip
                        have ic_153 : r_93.toInt = 0 := congrArg Int32.toInt hc_122
                        refine lv_iload hx hb d_Mo_isRecord_387 (lv_at hl 1 rfl) ?_
                        refine lv_if_eq (tgt := 400) hx hb d_Mo_isRecord_389 (by decide) (fun hc_154 => ?_) (fun hc_154 => ?_)
                        · skip
                          have ic_155 : r_83.toInt = 0 := congrArg Int32.toInt hc_154
                          refine lv_iconst (v := 1) hx hb d_Mo_isRecord_400 (by decide) ?_
                          refine lv_goto (tgt := 405) hx hb d_Mo_isRecord_401 (by decide) ?_
                          exact W.zret (v := 1) hx hb hr (by decide) (fun t9 ht hW => ⟨1, h, rfl, ⟨zb1, hT, hkf, ⟨wg, F_m9, ⟨hsd, hlo, (by omega), ⟨by omega, by omega⟩, ⟨by omega, by omega⟩⟩, ⟨fun _ => by
                            rw [aI_of F_A0]
                            exact ⟨r_9, r_41, r_93, r_83, eg_16.symm, by rw [← e_39]; exact eg_48.symm, by rw [← e_91]; exact el_99.symm, by rw [← e_81]; exact el_89.symm, ⟨by omega, by omega, by omega, by omega, by omega⟩, ⟨by omega, by omega, by omega⟩⟩, fun z => absurd z (by decide)⟩⟩⟩, by rw [ht]; exact hH, by rw [ht]; exact hz⟩) hLo d_Mo_isRecord_405
                        · skip
                          refine lv_aload_n hx hb d_Mo_isRecord_392 rfl (lv_at hl 2 rfl) ?_
                          refine lv_iload_n hx hb d_Mo_isRecord_393 rfl (lv_at hl 3 rfl) ?_
                          refine hm_calli (va_runV (As := [.int p9]) (b := m9) (rest := []) ⟨hx, hb, hml, hown, hts⟩ (m_no l D t G ak av h τ n m9 p9 A th sd lo le wr ma nu di pl se wg op   hn hT T_m9  F_m9 hA ⟨hsd, hlo, (by omega), ⟨by omega, by omega⟩, ⟨by omega, by omega⟩⟩ (by omega)) ⟨cw9B 1 hts mw_738 mw_739 mw_579 rfl rfl (by decide +kernel) ⟨Nat.le_of_ble_eq_true rfl, Nat.le_of_ble_eq_true rfl⟩, hts _ mw_740, hts _ mw_741⟩ (hP_V (q := (R_Mo, F_Mo, 41)) kE_ok hE hK hH F_m9 rfl) rfl rfl hl.1 rfl (lv_room (Nat.le_of_ble_eq_true rfl)) d_Mo_isRecord_394 ⟨Nat.le_of_ble_eq_true rfl, Nat.le_of_ble_eq_true rfl⟩) hLo (fun r_156 h_157 H_158 locs hp_160 hH z_159 hLo => ?_)
                          have hz : s.heap.size ≤ H_158.size := Nat.le_trans hz z_159
                          have hT0 := hT
                          obtain ⟨c_161, hT, kf_163, xp_162⟩ := hp_160
                          have F_A0 : h_157 (A 0) = some (.inl ((t 0), 819200, .inl g_1)) := kf_at kf_163 (hA 0 (by decide)) (by decide) tn0 (nmc (tne (hA 0 (by decide)) T_m9 (by decide)) nm0) F_A0
                          have hkf : kf τ [] [m9] h h_157 := kf_tr hkf kf_163 (List.forall_mem_nil _) (List.forall_mem_cons.mpr ⟨Or.inl (by simp), List.forall_mem_nil _⟩)
                          obtain ⟨wg_164, F_m9, mk_165, xq_166⟩ := xp_162
                          obtain ⟨m_167, m_168, m_169, m_170, m_171⟩ := mk_165
                          obtain ⟨hr0, hw0⟩ := xq_166
                          subst hr0
                          refine lv_if_eq (tgt := 404) hx hb d_Mo_isRecord_397 (by decide) (fun hc_172 => ?_) (fun hc_172 => absurd hc_172 (by decide))
                          refine lv_iconst (v := 0) hx hb d_Mo_isRecord_404 (by decide) ?_
                          exact W.zret (v := 0) hx hb hr (by decide) (fun t9 ht hW => ⟨0, h_157, rfl, ⟨zb0, hT, hkf, ⟨wg_164, F_m9, ⟨m_167, m_168, (by omega), ⟨by omega, by omega⟩, ⟨by omega, by omega⟩⟩, ⟨fun z => absurd z (by decide), fun _ => hw0⟩⟩⟩, by rw [ht]; exact hH, by rw [ht]; exact hz⟩) hLo d_Mo_isRecord_405
                    · skip
                      have ic_173 : r_93.toInt < 0 := iNe hc_120
                      refine lv_aload_n hx hb d_Mo_isRecord_376 rfl (lv_at hl 2 rfl) ?_
                      refine lv_iload_n hx hb d_Mo_isRecord_377 rfl (lv_at hl 3 rfl) ?_
                      refine hm_calli (va_runV (As := [.int p9]) (b := m9) (rest := []) ⟨hx, hb, hml, hown, hts⟩ (m_no l D t G ak av h τ n m9 p9 A th sd lo le wr ma nu di pl se wg op   hn hT T_m9  F_m9 hA ⟨hsd, hlo, (by omega), ⟨by omega, by omega⟩, ⟨by omega, by omega⟩⟩ (by omega)) ⟨cw9B 1 hts mw_738 mw_739 mw_579 rfl rfl (by decide +kernel) ⟨Nat.le_of_ble_eq_true rfl, Nat.le_of_ble_eq_true rfl⟩, hts _ mw_740, hts _ mw_741⟩ (hP_V (q := (R_Mo, F_Mo, 41)) kE_ok hE hK hH F_m9 rfl) rfl rfl hl.1 rfl (lv_room (Nat.le_of_ble_eq_true rfl)) d_Mo_isRecord_378 ⟨Nat.le_of_ble_eq_true rfl, Nat.le_of_ble_eq_true rfl⟩) hLo (fun r_174 h_175 H_176 locs hp_178 hH z_177 hLo => ?_)
                      have hz : s.heap.size ≤ H_176.size := Nat.le_trans hz z_177
                      have hT0 := hT
                      obtain ⟨c_179, hT, kf_181, xp_180⟩ := hp_178
                      have F_A0 : h_175 (A 0) = some (.inl ((t 0), 819200, .inl g_1)) := kf_at kf_181 (hA 0 (by decide)) (by decide) tn0 (nmc (tne (hA 0 (by decide)) T_m9 (by decide)) nm0) F_A0
                      have hkf : kf τ [] [m9] h h_175 := kf_tr hkf kf_181 (List.forall_mem_nil _) (List.forall_mem_cons.mpr ⟨Or.inl (by simp), List.forall_mem_nil _⟩)
                      obtain ⟨wg_182, F_m9, mk_183, xq_184⟩ := xp_180
                      obtain ⟨m_185, m_186, m_187, m_188, m_189⟩ := mk_183
                      obtain ⟨hr0, hw0⟩ := xq_184
                      subst hr0
                      exact W.zret (v := 0) hx hb hr (by decide) (fun t9 ht hW => ⟨0, h_175, rfl, ⟨zb0, hT, hkf, ⟨wg_182, F_m9, ⟨m_185, m_186, (by omega), ⟨by omega, by omega⟩, ⟨by omega, by omega⟩⟩, ⟨fun z => absurd z (by decide), fun _ => hw0⟩⟩⟩, by rw [ht]; exact hH, by rw [ht]; exact hz⟩) hLo d_Mo_isRecord_381
                  · skip
                    refine lv_iload hx hb d_Mo_isRecord_354 (lv_at hl 0 rfl) ?_
                    refine lv_if_le (tgt := 376) hx hb d_Mo_isRecord_356 (by decide) (fun hc_190 => ?_) (fun hc_190 => ?_)
                    · skip
                      have ic_191 : r_93.toInt ≤ 0 := iLe hc_190
                      refine lv_aload_n hx hb d_Mo_isRecord_376 rfl (lv_at hl 2 rfl) ?_
                      refine lv_iload_n hx hb d_Mo_isRecord_377 rfl (lv_at hl 3 rfl) ?_
                      refine hm_calli (va_runV (As := [.int p9]) (b := m9) (rest := []) ⟨hx, hb, hml, hown, hts⟩ (m_no l D t G ak av h τ n m9 p9 A th sd lo le wr ma nu di pl se wg op   hn hT T_m9  F_m9 hA ⟨hsd, hlo, (by omega), ⟨by omega, by omega⟩, ⟨by omega, by omega⟩⟩ (by omega)) ⟨cw9B 1 hts mw_738 mw_739 mw_579 rfl rfl (by decide +kernel) ⟨Nat.le_of_ble_eq_true rfl, Nat.le_of_ble_eq_true rfl⟩, hts _ mw_740, hts _ mw_741⟩ (hP_V (q := (R_Mo, F_Mo, 41)) kE_ok hE hK hH F_m9 rfl) rfl rfl hl.1 rfl (lv_room (Nat.le_of_ble_eq_true rfl)) d_Mo_isRecord_378 ⟨Nat.le_of_ble_eq_true rfl, Nat.le_of_ble_eq_true rfl⟩) hLo (fun r_192 h_193 H_194 locs hp_196 hH z_195 hLo => ?_)
                      have hz : s.heap.size ≤ H_194.size := Nat.le_trans hz z_195
                      have hT0 := hT
                      obtain ⟨c_197, hT, kf_199, xp_198⟩ := hp_196
                      have F_A0 : h_193 (A 0) = some (.inl ((t 0), 819200, .inl g_1)) := kf_at kf_199 (hA 0 (by decide)) (by decide) tn0 (nmc (tne (hA 0 (by decide)) T_m9 (by decide)) nm0) F_A0
                      have hkf : kf τ [] [m9] h h_193 := kf_tr hkf kf_199 (List.forall_mem_nil _) (List.forall_mem_cons.mpr ⟨Or.inl (by simp), List.forall_mem_nil _⟩)
                      obtain ⟨wg_200, F_m9, mk_201, xq_202⟩ := xp_198
                      obtain ⟨m_203, m_204, m_205, m_206, m_207⟩ := mk_201
                      obtain ⟨hr0, hw0⟩ := xq_202
                      subst hr0
                      exact W.zret (v := 0) hx hb hr (by decide) (fun t9 ht hW => ⟨0, h_193, rfl, ⟨zb0, hT, hkf, ⟨wg_200, F_m9, ⟨m_203, m_204, (by omega), ⟨by omega, by omega⟩, ⟨by omega, by omega⟩⟩, ⟨fun z => absurd z (by decide), fun _ => hw0⟩⟩⟩, by rw [ht]; exact hH, by rw [ht]; exact hz⟩) hLo d_Mo_isRecord_381
                    · skip
                      have ic_208 : 0 < r_93.toInt := iNe hc_190
                      have iu_209 : r_93.toInt < 2147483648 := iUp _
                      refine lv_iload hx hb d_Mo_isRecord_359 (lv_at hl 0 rfl) ?_
                      refine lv_sipush (v := 2048) hx hb d_Mo_isRecord_361 (by decide) ?_
                      refine lv_irem hx hb d_Mo_isRecord_364 (by decide) ?_
                      refine lv_topi (fun v_210 e_211 => ?_)
                      have id_212 : 0 ≤ r_93.toInt → v_210.toInt = r_93.toInt % 2048 := fun h9 => by rw [e_211]; exact i_mod (d := 2048) (by decide) h9
                      refine lv_if_eq (tgt := 382) hx hb d_Mo_isRecord_365 (by decide) (fun hc_213 => ?_) (fun hc_213 => ?_)
                      · skip
                        have ic_214 : v_210.toInt = 0 := congrArg Int32.toInt hc_213
                        refine lv_iload hx hb d_Mo_isRecord_382 (lv_at hl 0 rfl) ?_
                        refine lv_if_ne (tgt := 406) hx hb d_Mo_isRecord_384 (by decide) (fun hc_215 => ?_) (fun hc_215 => ?_)
                        · skip
                          refine lv_aload_n hx hb d_Mo_isRecord_406 rfl (lv_at hl 2 rfl) ?_
                          refine lv_iload hx hb d_Mo_isRecord_407 (lv_at hl 1 rfl) ?_
                          refine lv_iload hx hb d_Mo_isRecord_409 (lv_at hl 0 rfl) ?_
                          refine lv_i2l (v := r_93.toInt64) hx hb d_Mo_isRecord_411 rfl ?_
                          refine lv_ldc2 (v := 2047) hx hb hown (hts _ mw_746) d_Mo_isRecord_412 ?_
                          refine lv_ladd hx hb d_Mo_isRecord_415 ?_
                          refine lv_topl (fun v_216 e_217 => ?_)
                          refine lv_ldc2 (v := 2048) hx hb hown (hts _ mw_747) d_Mo_isRecord_416 ?_
                          refine lv_ldiv hx hb d_Mo_isRecord_419 (by decide) ?_
                          refine lv_topl (fun v_218 e_219 => ?_)
                          have ild := ld_ok rfl e_217 e_219 (by omega)
                          have iup9 := iUp r_93
                          refine hm_callPi (va_runV (As := [.int r_83, .long v_218]) (b := m9) (rest := []) ⟨hx, hb, hml, hown, hts⟩ (m_areW l D t G ak av h τ n m9 r_83 v_218 A th sd lo le wr ma nu di pl se wg op   hn hT T_m9  F_m9 hA ⟨hsd, hlo, (by omega), ⟨by omega, by omega⟩, ⟨by omega, by omega⟩⟩ ⟨by omega, by omega⟩) ⟨cw9B 2 hts mw_748 mw_749 mw_579 rfl rfl (by decide +kernel) ⟨Nat.le_of_ble_eq_true rfl, Nat.le_of_ble_eq_true rfl⟩, hts _ mw_750, hts _ mw_751⟩ (hP_V (q := (R_Mo, F_Mo, 41)) kE_ok hE hK hH F_m9 rfl) rfl rfl hl.1 rfl (lv_room (Nat.le_of_ble_eq_true rfl)) d_Mo_isRecord_420 ⟨Nat.le_of_ble_eq_true rfl, Nat.le_of_ble_eq_true rfl⟩) (fun r_220 h_221 H_222 hp_224  hH z_223 => ?_)
                          have hz : s.heap.size ≤ H_222.size := Nat.le_trans hz z_223
                          obtain ⟨c_225, xp_226, rfl⟩ := hp_224
                          refine lv_if_ne (tgt := 434) hx hb d_Mo_isRecord_423 (by decide) (fun hc_227 => ?_) (fun hc_227 => ?_)
                          · skip
                            have haw := xp_226 (c_225.resolve_left hc_227)
                            refine lv_iconst (v := 1) hx hb d_Mo_isRecord_434 (by decide) ?_
                            refine lv_goto (tgt := 439) hx hb d_Mo_isRecord_435 (by decide) ?_
                            exact W.zret (v := 1) hx hb hr (by decide) (fun t9 ht hW => ⟨1, h, rfl, ⟨zb1, hT, hkf, ⟨wg, F_m9, ⟨hsd, hlo, (by omega), ⟨by omega, by omega⟩, ⟨by omega, by omega⟩⟩, ⟨fun _ => by
                              rw [aI_of F_A0]
                              exact ⟨r_9, r_41, r_93, r_83, eg_16.symm, by rw [← e_39]; exact eg_48.symm, by rw [← e_91]; exact el_99.symm, by rw [← e_81]; exact el_89.symm, ⟨by omega, by omega, by omega, by omega, by omega⟩, ⟨by omega, by omega, by omega⟩⟩, fun z => absurd z (by decide)⟩⟩⟩, by rw [ht]; exact hH, by rw [ht]; exact hz⟩) hLo d_Mo_isRecord_439
                          · skip
                            have ic_228 : r_220.toInt = 0 := congrArg Int32.toInt hc_227
                            refine lv_aload_n hx hb d_Mo_isRecord_426 rfl (lv_at hl 2 rfl) ?_
                            refine lv_iload_n hx hb d_Mo_isRecord_427 rfl (lv_at hl 3 rfl) ?_
                            refine hm_calli (va_runV (As := [.int p9]) (b := m9) (rest := []) ⟨hx, hb, hml, hown, hts⟩ (m_no l D t G ak av h τ n m9 p9 A th sd lo le wr ma nu di pl se wg op   hn hT T_m9  F_m9 hA ⟨hsd, hlo, (by omega), ⟨by omega, by omega⟩, ⟨by omega, by omega⟩⟩ (by omega)) ⟨cw9B 1 hts mw_738 mw_739 mw_579 rfl rfl (by decide +kernel) ⟨Nat.le_of_ble_eq_true rfl, Nat.le_of_ble_eq_true rfl⟩, hts _ mw_740, hts _ mw_741⟩ (hP_V (q := (R_Mo, F_Mo, 41)) kE_ok hE hK hH F_m9 rfl) rfl rfl hl.1 rfl (lv_room (Nat.le_of_ble_eq_true rfl)) d_Mo_isRecord_428 ⟨Nat.le_of_ble_eq_true rfl, Nat.le_of_ble_eq_true rfl⟩) hLo (fun r_229 h_230 H_231 locs hp_233 hH z_232 hLo => ?_)
                            have hz : s.heap.size ≤ H_231.size := Nat.le_trans hz z_232
                            have hT0 := hT
                            obtain ⟨c_234, hT, kf_236, xp_235⟩ := hp_233
                            have F_A0 : h_230 (A 0) = some (.inl ((t 0), 819200, .inl g_1)) := kf_at kf_236 (hA 0 (by decide)) (by decide) tn0 (nmc (tne (hA 0 (by decide)) T_m9 (by decide)) nm0) F_A0
                            have hkf : kf τ [] [m9] h h_230 := kf_tr hkf kf_236 (List.forall_mem_nil _) (List.forall_mem_cons.mpr ⟨Or.inl (by simp), List.forall_mem_nil _⟩)
                            obtain ⟨wg_237, F_m9, mk_238, xq_239⟩ := xp_235
                            obtain ⟨m_240, m_241, m_242, m_243, m_244⟩ := mk_238
                            obtain ⟨hr0, hw0⟩ := xq_239
                            subst hr0
                            refine lv_if_eq (tgt := 438) hx hb d_Mo_isRecord_431 (by decide) (fun hc_245 => ?_) (fun hc_245 => absurd hc_245 (by decide))
                            refine lv_iconst (v := 0) hx hb d_Mo_isRecord_438 (by decide) ?_
                            exact W.zret (v := 0) hx hb hr (by decide) (fun t9 ht hW => ⟨0, h_230, rfl, ⟨zb0, hT, hkf, ⟨wg_237, F_m9, ⟨m_240, m_241, (by omega), ⟨by omega, by omega⟩, ⟨by omega, by omega⟩⟩, ⟨fun z => absurd z (by decide), fun _ => hw0⟩⟩⟩, by rw [ht]; exact hH, by rw [ht]; exact hz⟩) hLo d_Mo_isRecord_439
                        · skip
                          have ic_246 : r_93.toInt = 0 := congrArg Int32.toInt hc_215
                          refine lv_iload hx hb d_Mo_isRecord_387 (lv_at hl 1 rfl) ?_
                          refine lv_if_eq (tgt := 400) hx hb d_Mo_isRecord_389 (by decide) (fun hc_247 => ?_) (fun hc_247 => ?_)
                          · skip
                            have ic_248 : r_83.toInt = 0 := congrArg Int32.toInt hc_247
                            refine lv_iconst (v := 1) hx hb d_Mo_isRecord_400 (by decide) ?_
                            refine lv_goto (tgt := 405) hx hb d_Mo_isRecord_401 (by decide) ?_
                            exact W.zret (v := 1) hx hb hr (by decide) (fun t9 ht hW => ⟨1, h, rfl, ⟨zb1, hT, hkf, ⟨wg, F_m9, ⟨hsd, hlo, (by omega), ⟨by omega, by omega⟩, ⟨by omega, by omega⟩⟩, ⟨fun _ => by
                              rw [aI_of F_A0]
                              exact ⟨r_9, r_41, r_93, r_83, eg_16.symm, by rw [← e_39]; exact eg_48.symm, by rw [← e_91]; exact el_99.symm, by rw [← e_81]; exact el_89.symm, ⟨by omega, by omega, by omega, by omega, by omega⟩, ⟨by omega, by omega, by omega⟩⟩, fun z => absurd z (by decide)⟩⟩⟩, by rw [ht]; exact hH, by rw [ht]; exact hz⟩) hLo d_Mo_isRecord_405
                          · skip
                            refine lv_aload_n hx hb d_Mo_isRecord_392 rfl (lv_at hl 2 rfl) ?_
                            refine lv_iload_n hx hb d_Mo_isRecord_393 rfl (lv_at hl 3 rfl) ?_
                            refine hm_calli (va_runV (As := [.int p9]) (b := m9) (rest := []) ⟨hx, hb, hml, hown, hts⟩ (m_no l D t G ak av h τ n m9 p9 A th sd lo le wr ma nu di pl se wg op   hn hT T_m9  F_m9 hA ⟨hsd, hlo, (by omega), ⟨by omega, by omega⟩, ⟨by omega, by omega⟩⟩ (by omega)) ⟨cw9B 1 hts mw_738 mw_739 mw_579 rfl rfl (by decide +kernel) ⟨Nat.le_of_ble_eq_true rfl, Nat.le_of_ble_eq_true rfl⟩, hts _ mw_740, hts _ mw_741⟩ (hP_V (q := (R_Mo, F_Mo, 41)) kE_ok hE hK hH F_m9 rfl) rfl rfl hl.1 rfl (lv_room (Nat.le_of_ble_eq_true rfl)) d_Mo_isRecord_394 ⟨Nat.le_of_ble_eq_true rfl, Nat.le_of_ble_eq_true rfl⟩) hLo (fun r_249 h_250 H_251 locs hp_253 hH z_252 hLo => ?_)
                            have hz : s.heap.size ≤ H_251.size := Nat.le_trans hz z_252
                            have hT0 := hT
                            obtain ⟨c_254, hT, kf_256, xp_255⟩ := hp_253
                            have F_A0 : h_250 (A 0) = some (.inl ((t 0), 819200, .inl g_1)) := kf_at kf_256 (hA 0 (by decide)) (by decide) tn0 (nmc (tne (hA 0 (by decide)) T_m9 (by decide)) nm0) F_A0
                            have hkf : kf τ [] [m9] h h_250 := kf_tr hkf kf_256 (List.forall_mem_nil _) (List.forall_mem_cons.mpr ⟨Or.inl (by simp), List.forall_mem_nil _⟩)
                            obtain ⟨wg_257, F_m9, mk_258, xq_259⟩ := xp_255
                            obtain ⟨m_260, m_261, m_262, m_263, m_264⟩ := mk_258
                            obtain ⟨hr0, hw0⟩ := xq_259
                            subst hr0
                            refine lv_if_eq (tgt := 404) hx hb d_Mo_isRecord_397 (by decide) (fun hc_265 => ?_) (fun hc_265 => absurd hc_265 (by decide))
                            refine lv_iconst (v := 0) hx hb d_Mo_isRecord_404 (by decide) ?_
                            exact W.zret (v := 0) hx hb hr (by decide) (fun t9 ht hW => ⟨0, h_250, rfl, ⟨zb0, hT, hkf, ⟨wg_257, F_m9, ⟨m_260, m_261, (by omega), ⟨by omega, by omega⟩, ⟨by omega, by omega⟩⟩, ⟨fun z => absurd z (by decide), fun _ => hw0⟩⟩⟩, by rw [ht]; exact hH, by rw [ht]; exact hz⟩) hLo d_Mo_isRecord_405
                      · skip
                        refine lv_goto (tgt := 376) hx hb d_Mo_isRecord_368 (by decide) ?_
                        refine lv_aload_n hx hb d_Mo_isRecord_376 rfl (lv_at hl 2 rfl) ?_
                        refine lv_iload_n hx hb d_Mo_isRecord_377 rfl (lv_at hl 3 rfl) ?_
                        refine hm_calli (va_runV (As := [.int p9]) (b := m9) (rest := []) ⟨hx, hb, hml, hown, hts⟩ (m_no l D t G ak av h τ n m9 p9 A th sd lo le wr ma nu di pl se wg op   hn hT T_m9  F_m9 hA ⟨hsd, hlo, (by omega), ⟨by omega, by omega⟩, ⟨by omega, by omega⟩⟩ (by omega)) ⟨cw9B 1 hts mw_738 mw_739 mw_579 rfl rfl (by decide +kernel) ⟨Nat.le_of_ble_eq_true rfl, Nat.le_of_ble_eq_true rfl⟩, hts _ mw_740, hts _ mw_741⟩ (hP_V (q := (R_Mo, F_Mo, 41)) kE_ok hE hK hH F_m9 rfl) rfl rfl hl.1 rfl (lv_room (Nat.le_of_ble_eq_true rfl)) d_Mo_isRecord_378 ⟨Nat.le_of_ble_eq_true rfl, Nat.le_of_ble_eq_true rfl⟩) hLo (fun r_266 h_267 H_268 locs hp_270 hH z_269 hLo => ?_)
                        have hz : s.heap.size ≤ H_268.size := Nat.le_trans hz z_269
                        have hT0 := hT
                        obtain ⟨c_271, hT, kf_273, xp_272⟩ := hp_270
                        have F_A0 : h_267 (A 0) = some (.inl ((t 0), 819200, .inl g_1)) := kf_at kf_273 (hA 0 (by decide)) (by decide) tn0 (nmc (tne (hA 0 (by decide)) T_m9 (by decide)) nm0) F_A0
                        have hkf : kf τ [] [m9] h h_267 := kf_tr hkf kf_273 (List.forall_mem_nil _) (List.forall_mem_cons.mpr ⟨Or.inl (by simp), List.forall_mem_nil _⟩)
                        obtain ⟨wg_274, F_m9, mk_275, xq_276⟩ := xp_272
                        obtain ⟨m_277, m_278, m_279, m_280, m_281⟩ := mk_275
                        obtain ⟨hr0, hw0⟩ := xq_276
                        subst hr0
                        exact W.zret (v := 0) hx hb hr (by decide) (fun t9 ht hW => ⟨0, h_267, rfl, ⟨zb0, hT, hkf, ⟨wg_274, F_m9, ⟨m_277, m_278, (by omega), ⟨by omega, by omega⟩, ⟨by omega, by omega⟩⟩, ⟨fun z => absurd z (by decide), fun _ => hw0⟩⟩⟩, by rw [ht]; exact hH, by rw [ht]; exact hz⟩) hLo d_Mo_isRecord_381
              · skip
                refine lv_iload_n hx hb d_Mo_isRecord_195 rfl (lv_at hl 3 rfl) ?_
                refine lv_iconst (v := 2) hx hb d_Mo_isRecord_196 (by decide) ?_
                refine lv_icmp_ge (tgt := 233) hx hb d_Mo_isRecord_197 (by decide) (fun hc_282 => ?_) (fun hc_282 => ?_)
                · skip
                  have ic_283 : 2 ≤ so9.toInt := iLe hc_282
                  refine lv_iload hx hb d_Mo_isRecord_233 (lv_at hl 0 rfl) ?_
                  refine lv_if_eq (tgt := 253) hx hb d_Mo_isRecord_235 (by decide) (fun hc_284 => ?_) (fun hc_284 => ?_)
                  · skip
                    have ic_285 : d9.toInt = 0 := congrArg Int32.toInt hc_284
                    refine lv_aload_n hx hb d_Mo_isRecord_253 rfl (lv_at hl 1 rfl) ?_
                    refine lv_iload_n hx hb d_Mo_isRecord_254 rfl (lv_at hl 2 rfl) ?_
                    refine lv_bipush (v := 33) hx hb d_Mo_isRecord_255 (by decide) ?_
                    refine lv_iadd hx hb d_Mo_isRecord_257 ?_
                    refine lv_topi (fun v_286 e_287 => ?_)
                    refine lv_iload hx hb d_Mo_isRecord_258 (lv_at hl 6 rfl) ?_
                    refine lv_iconst (v := 3) hx hb d_Mo_isRecord_260 (by decide) ?_
                    refine lv_isub hx hb d_Mo_isRecord_261 ?_
                    refine lv_topi (fun v_288 e_289 => ?_)
                    have is_290 : v_286.toInt = p9.toInt + 33 := by rw [e_287]; exact iAddK 33 rfl (by omega) (by omega)
                    have is_291 : v_288.toInt = r_41.toInt - 3 := by rw [e_289]; exact iDecS 3 rfl (by decide) (by omega)
                    refine hm_callPi (va_runV (As := [.int v_286, .int v_288]) (b := m9) (rest := []) ⟨hx, hb, hml, hown, hts⟩ (m_isName l D t G ak av h τ n m9 v_286 v_288 A th sd lo le wr ma nu di pl se wg op   hn hT T_m9  F_m9 hA ⟨hsd, hlo, (by omega), ⟨by omega, by omega⟩, ⟨by omega, by omega⟩⟩ (by omega) (by omega)) ⟨cw9B 2 hts mw_752 mw_753 mw_579 rfl rfl (by decide +kernel) ⟨Nat.le_of_ble_eq_true rfl, Nat.le_of_ble_eq_true rfl⟩, hts _ mw_754, hts _ mw_755⟩ (hP_V (q := (R_Mo, F_Mo, 41)) kE_ok hE hK hH F_m9 rfl) rfl rfl hl.1 rfl (lv_room (Nat.le_of_ble_eq_true rfl)) d_Mo_isRecord_262 ⟨Nat.le_of_ble_eq_true rfl, Nat.le_of_ble_eq_true rfl⟩) (fun r_292 h_293 H_294 hp_296  hH z_295 => ?_)
                    have hz : s.heap.size ≤ H_294.size := Nat.le_trans hz z_295
                    obtain ⟨c_297, rfl⟩ := hp_296
                    refine lv_if_eq (tgt := 320) hx hb d_Mo_isRecord_265 (by decide) (fun hc_299 => ?_) (fun hc_299 => ?_)
                    · skip
                      have ic_300 : r_292.toInt = 0 := congrArg Int32.toInt hc_299
                      refine lv_iconst (v := 0) hx hb d_Mo_isRecord_320 (by decide) ?_
                      refine lv_istore (lv' := [(6, .int 0), (8, .int d9), (0, .ref m9), (1, .int p9), (2, .int so9), (3, .int v_6), (4, .int r_9), (5, .int r_41), (7, .int r_52)]) hx hb d_Mo_isRecord_321 hl (by decide) rfl (fun ls hl => ?_)
                      exact J323 () _ _ _ _ ⟨0, (lv_sub hl [2, 3, 4, 5, 6, 7, 8, 1, 0] rfl), hH, hz, hLo, rfl, zb0⟩
                    · skip
                      refine lv_aload_n hx hb d_Mo_isRecord_268 rfl (lv_at hl 1 rfl) ?_
                      refine lv_iload_n hx hb d_Mo_isRecord_269 rfl (lv_at hl 2 rfl) ?_
                      refine lv_bipush (v := 30) hx hb d_Mo_isRecord_270 (by decide) ?_
                      refine lv_iadd hx hb d_Mo_isRecord_272 ?_
                      refine lv_topi (fun v_301 e_302 => ?_)
                      refine lv_iload hx hb d_Mo_isRecord_273 (lv_at hl 6 rfl) ?_
                      refine lv_iadd hx hb d_Mo_isRecord_275 ?_
                      refine lv_topi (fun v_303 e_304 => ?_)
                      have is_305 : v_301.toInt = p9.toInt + 30 := by rw [e_302]; exact iAddK 30 rfl (by omega) (by omega)
                      have is_306 : v_303.toInt = v_301.toInt + r_41.toInt := by rw [e_304]; exact iAdd (by omega) (by omega)
                      refine hm_callPi (va_runV (As := [.int v_303]) (b := m9) (rest := []) ⟨hx, hb, hml, hown, hts⟩ (m_get l D t G ak av h τ n m9 v_303 A th sd lo le wr ma nu di pl se wg op   hn hT T_m9  F_m9 hA ⟨hsd, hlo, (by omega), ⟨by omega, by omega⟩, ⟨by omega, by omega⟩⟩ (by omega) (by omega)) ⟨cw9B 1 hts mw_698 mw_699 mw_579 rfl rfl (by decide +kernel) ⟨Nat.le_of_ble_eq_true rfl, Nat.le_of_ble_eq_true rfl⟩, hts _ mw_700, hts _ mw_701⟩ (hP_V (q := (R_Mo, F_Mo, 41)) kE_ok hE hK hH F_m9 rfl) rfl rfl hl.1 rfl (lv_room (Nat.le_of_ble_eq_true rfl)) d_Mo_isRecord_276 ⟨Nat.le_of_ble_eq_true rfl, Nat.le_of_ble_eq_true rfl⟩) (fun r_307 h_308 H_309 hp_311  hH z_310 => ?_)
                      have hz : s.heap.size ≤ H_309.size := Nat.le_trans hz z_310
                      obtain ⟨xp_312, rfl⟩ := hp_311
                      obtain ⟨ia_313, eg_314⟩ := xp_312
                      rw [aI_of F_A0] at eg_314
                      refine lv_bipush (v := 46) hx hb d_Mo_isRecord_279 (by decide) ?_
                      refine lv_icmp_ne (tgt := 320) hx hb d_Mo_isRecord_281 (by decide) (fun hc_315 => ?_) (fun hc_315 => ?_)
                      · skip
                        refine lv_iconst (v := 0) hx hb d_Mo_isRecord_320 (by decide) ?_
                        refine lv_istore (lv' := [(6, .int 0), (8, .int d9), (0, .ref m9), (1, .int p9), (2, .int so9), (3, .int v_6), (4, .int r_9), (5, .int r_41), (7, .int r_52)]) hx hb d_Mo_isRecord_321 hl (by decide) rfl (fun ls hl => ?_)
                        exact J323 () _ _ _ _ ⟨0, (lv_sub hl [2, 3, 4, 5, 6, 7, 8, 1, 0] rfl), hH, hz, hLo, rfl, zb0⟩
                      · skip
                        have ic_316 : r_307.toInt = 46 := congrArg Int32.toInt hc_315
                        refine lv_aload_n hx hb d_Mo_isRecord_284 rfl (lv_at hl 1 rfl) ?_
                        refine lv_iload_n hx hb d_Mo_isRecord_285 rfl (lv_at hl 2 rfl) ?_
                        refine lv_bipush (v := 31) hx hb d_Mo_isRecord_286 (by decide) ?_
                        refine lv_iadd hx hb d_Mo_isRecord_288 ?_
                        refine lv_topi (fun v_317 e_318 => ?_)
                        refine lv_iload hx hb d_Mo_isRecord_289 (lv_at hl 6 rfl) ?_
                        refine lv_iadd hx hb d_Mo_isRecord_291 ?_
                        refine lv_topi (fun v_319 e_320 => ?_)
                        have is_321 : v_317.toInt = p9.toInt + 31 := by rw [e_318]; exact iAddK 31 rfl (by omega) (by omega)
                        have is_322 : v_319.toInt = v_317.toInt + r_41.toInt := by rw [e_320]; exact iAdd (by omega) (by omega)
                        refine hm_callPi (va_runV (As := [.int v_319]) (b := m9) (rest := []) ⟨hx, hb, hml, hown, hts⟩ (m_get l D t G ak av h τ n m9 v_319 A th sd lo le wr ma nu di pl se wg op   hn hT T_m9  F_m9 hA ⟨hsd, hlo, (by omega), ⟨by omega, by omega⟩, ⟨by omega, by omega⟩⟩ (by omega) (by omega)) ⟨cw9B 1 hts mw_698 mw_699 mw_579 rfl rfl (by decide +kernel) ⟨Nat.le_of_ble_eq_true rfl, Nat.le_of_ble_eq_true rfl⟩, hts _ mw_700, hts _ mw_701⟩ (hP_V (q := (R_Mo, F_Mo, 41)) kE_ok hE hK hH F_m9 rfl) rfl rfl hl.1 rfl (lv_room (Nat.le_of_ble_eq_true rfl)) d_Mo_isRecord_292 ⟨Nat.le_of_ble_eq_true rfl, Nat.le_of_ble_eq_true rfl⟩) (fun r_323 h_324 H_325 hp_327  hH z_326 => ?_)
                        have hz : s.heap.size ≤ H_325.size := Nat.le_trans hz z_326
                        obtain ⟨xp_328, rfl⟩ := hp_327
                        obtain ⟨ia_329, eg_330⟩ := xp_328
                        rw [aI_of F_A0] at eg_330
                        refine lv_bipush (v := 59) hx hb d_Mo_isRecord_295 (by decide) ?_
                        refine lv_icmp_ne (tgt := 320) hx hb d_Mo_isRecord_297 (by decide) (fun hc_331 => ?_) (fun hc_331 => ?_)
                        · skip
                          refine lv_iconst (v := 0) hx hb d_Mo_isRecord_320 (by decide) ?_
                          refine lv_istore (lv' := [(6, .int 0), (8, .int d9), (0, .ref m9), (1, .int p9), (2, .int so9), (3, .int v_6), (4, .int r_9), (5, .int r_41), (7, .int r_52)]) hx hb d_Mo_isRecord_321 hl (by decide) rfl (fun ls hl => ?_)
                          exact J323 () _ _ _ _ ⟨0, (lv_sub hl [2, 3, 4, 5, 6, 7, 8, 1, 0] rfl), hH, hz, hLo, rfl, zb0⟩
                        · skip
                          have ic_332 : r_323.toInt = 59 := congrArg Int32.toInt hc_331
                          refine lv_aload_n hx hb d_Mo_isRecord_300 rfl (lv_at hl 1 rfl) ?_
                          refine lv_iload_n hx hb d_Mo_isRecord_301 rfl (lv_at hl 2 rfl) ?_
                          refine lv_bipush (v := 32) hx hb d_Mo_isRecord_302 (by decide) ?_
                          refine lv_iadd hx hb d_Mo_isRecord_304 ?_
                          refine lv_topi (fun v_333 e_334 => ?_)
                          obtain rfl : v_38 = v_333 := (e_334.trans (e_39.symm)).symm
                          refine lv_iload hx hb d_Mo_isRecord_305 (lv_at hl 6 rfl) ?_
                          refine lv_iadd hx hb d_Mo_isRecord_307 ?_
                          refine lv_topi (fun v_335 e_336 => ?_)
                          have is_337 : v_335.toInt = v_38.toInt + r_41.toInt := by rw [e_336]; exact iAdd (by omega) (by omega)
                          refine hm_callPi (va_runV (As := [.int v_335]) (b := m9) (rest := []) ⟨hx, hb, hml, hown, hts⟩ (m_get l D t G ak av h τ n m9 v_335 A th sd lo le wr ma nu di pl se wg op   hn hT T_m9  F_m9 hA ⟨hsd, hlo, (by omega), ⟨by omega, by omega⟩, ⟨by omega, by omega⟩⟩ (by omega) (by omega)) ⟨cw9B 1 hts mw_698 mw_699 mw_579 rfl rfl (by decide +kernel) ⟨Nat.le_of_ble_eq_true rfl, Nat.le_of_ble_eq_true rfl⟩, hts _ mw_700, hts _ mw_701⟩ (hP_V (q := (R_Mo, F_Mo, 41)) kE_ok hE hK hH F_m9 rfl) rfl rfl hl.1 rfl (lv_room (Nat.le_of_ble_eq_true rfl)) d_Mo_isRecord_308 ⟨Nat.le_of_ble_eq_true rfl, Nat.le_of_ble_eq_true rfl⟩) (fun r_338 h_339 H_340 hp_342  hH z_341 => ?_)
                          have hz : s.heap.size ≤ H_340.size := Nat.le_trans hz z_341
                          obtain ⟨xp_343, rfl⟩ := hp_342
                          obtain ⟨ia_344, eg_345⟩ := xp_343
                          rw [aI_of F_A0] at eg_345
                          refine lv_bipush (v := 49) hx hb d_Mo_isRecord_311 (by decide) ?_
                          refine lv_icmp_ne (tgt := 320) hx hb d_Mo_isRecord_313 (by decide) (fun hc_346 => ?_) (fun hc_346 => ?_)
                          · skip
                            refine lv_iconst (v := 0) hx hb d_Mo_isRecord_320 (by decide) ?_
                            refine lv_istore (lv' := [(6, .int 0), (8, .int d9), (0, .ref m9), (1, .int p9), (2, .int so9), (3, .int v_6), (4, .int r_9), (5, .int r_41), (7, .int r_52)]) hx hb d_Mo_isRecord_321 hl (by decide) rfl (fun ls hl => ?_)
                            exact J323 () _ _ _ _ ⟨0, (lv_sub hl [2, 3, 4, 5, 6, 7, 8, 1, 0] rfl), hH, hz, hLo, rfl, zb0⟩
                          · skip
                            have ic_347 : r_338.toInt = 49 := congrArg Int32.toInt hc_346
                            refine lv_iconst (v := 1) hx hb d_Mo_isRecord_316 (by decide) ?_
                            refine lv_goto (tgt := 321) hx hb d_Mo_isRecord_317 (by decide) ?_
                            refine lv_istore (lv' := [(6, .int 1), (8, .int d9), (0, .ref m9), (1, .int p9), (2, .int so9), (3, .int v_6), (4, .int r_9), (5, .int r_41), (7, .int r_52)]) hx hb d_Mo_isRecord_321 hl (by decide) rfl (fun ls hl => ?_)
                            exact J323 () _ _ _ _ ⟨1, (lv_sub hl [2, 3, 4, 5, 6, 7, 8, 1, 0] rfl), hH, hz, hLo, rfl, zb1⟩
                  · skip
                    refine lv_aload_n hx hb d_Mo_isRecord_238 rfl (lv_at hl 1 rfl) ?_
                    refine lv_iload_n hx hb d_Mo_isRecord_239 rfl (lv_at hl 2 rfl) ?_
                    refine lv_bipush (v := 33) hx hb d_Mo_isRecord_240 (by decide) ?_
                    refine lv_iadd hx hb d_Mo_isRecord_242 ?_
                    refine lv_topi (fun v_348 e_349 => ?_)
                    refine lv_iload hx hb d_Mo_isRecord_243 (lv_at hl 6 rfl) ?_
                    have is_350 : v_348.toInt = p9.toInt + 33 := by rw [e_349]; exact iAddK 33 rfl (by omega) (by omega)
                    refine hm_callPi (va_runV (As := [.int v_348, .int r_41]) (b := m9) (rest := []) ⟨hx, hb, hml, hown, hts⟩ (m_isName l D t G ak av h τ n m9 v_348 r_41 A th sd lo le wr ma nu di pl se wg op   hn hT T_m9  F_m9 hA ⟨hsd, hlo, (by omega), ⟨by omega, by omega⟩, ⟨by omega, by omega⟩⟩ (by omega) (by omega)) ⟨cw9B 2 hts mw_752 mw_753 mw_579 rfl rfl (by decide +kernel) ⟨Nat.le_of_ble_eq_true rfl, Nat.le_of_ble_eq_true rfl⟩, hts _ mw_754, hts _ mw_755⟩ (hP_V (q := (R_Mo, F_Mo, 41)) kE_ok hE hK hH F_m9 rfl) rfl rfl hl.1 rfl (lv_room (Nat.le_of_ble_eq_true rfl)) d_Mo_isRecord_245 ⟨Nat.le_of_ble_eq_true rfl, Nat.le_of_ble_eq_true rfl⟩) (fun r_351 h_352 H_353 hp_355  hH z_354 => ?_)
                    have hz : s.heap.size ≤ H_353.size := Nat.le_trans hz z_354
                    obtain ⟨c_356, rfl⟩ := hp_355
                    refine lv_istore (lv' := [(6, .int r_351), (8, .int d9), (0, .ref m9), (1, .int p9), (2, .int so9), (3, .int v_6), (4, .int r_9), (5, .int r_41), (7, .int r_52)]) hx hb d_Mo_isRecord_248 hl (by decide) rfl (fun ls hl => ?_)
                    refine lv_goto (tgt := 323) hx hb d_Mo_isRecord_250 (by decide) ?_
                    exact J323 () _ _ _ _ ⟨r_351, (lv_sub hl [2, 3, 4, 5, 6, 7, 8, 1, 0] rfl), hH, hz, hLo, rfl, c_356⟩
                · skip
                  have ic_358 : so9.toInt < 2 := iNe hc_282
                  refine lv_iload hx hb d_Mo_isRecord_200 (lv_at hl 0 rfl) ?_
                  refine lv_if_eq (tgt := 227) hx hb d_Mo_isRecord_202 (by decide) (fun hc_359 => ?_) (fun hc_359 => ?_)
                  · skip
                    have ic_360 : d9.toInt = 0 := congrArg Int32.toInt hc_359
                    refine lv_iconst (v := 0) hx hb d_Mo_isRecord_227 (by decide) ?_
                    refine lv_istore (lv' := [(6, .int 0), (8, .int d9), (0, .ref m9), (1, .int p9), (2, .int so9), (3, .int v_6), (4, .int r_9), (5, .int r_41), (7, .int r_52)]) hx hb d_Mo_isRecord_228 hl (by decide) rfl (fun ls hl => ?_)
                    refine lv_goto (tgt := 323) hx hb d_Mo_isRecord_230 (by decide) ?_
                    exact J323 () _ _ _ _ ⟨0, (lv_sub hl [2, 3, 4, 5, 6, 7, 8, 1, 0] rfl), hH, hz, hLo, rfl, zb0⟩
                  · skip
                    refine lv_iload hx hb d_Mo_isRecord_205 (lv_at hl 6 rfl) ?_
                    refine lv_iconst (v := 1) hx hb d_Mo_isRecord_207 (by decide) ?_
                    refine lv_icmp_ne (tgt := 227) hx hb d_Mo_isRecord_208 (by decide) (fun hc_361 => ?_) (fun hc_361 => ?_)
                    · skip
                      refine lv_iconst (v := 0) hx hb d_Mo_isRecord_227 (by decide) ?_
                      refine lv_istore (lv' := [(6, .int 0), (8, .int d9), (0, .ref m9), (1, .int p9), (2, .int so9), (3, .int v_6), (4, .int r_9), (5, .int r_41), (7, .int r_52)]) hx hb d_Mo_isRecord_228 hl (by decide) rfl (fun ls hl => ?_)
                      refine lv_goto (tgt := 323) hx hb d_Mo_isRecord_230 (by decide) ?_
                      exact J323 () _ _ _ _ ⟨0, (lv_sub hl [2, 3, 4, 5, 6, 7, 8, 1, 0] rfl), hH, hz, hLo, rfl, zb0⟩
                    · skip
                      have ic_362 : r_41.toInt = 1 := congrArg Int32.toInt hc_361
                      refine lv_aload_n hx hb d_Mo_isRecord_211 rfl (lv_at hl 1 rfl) ?_
                      refine lv_iload_n hx hb d_Mo_isRecord_212 rfl (lv_at hl 2 rfl) ?_
                      refine lv_bipush (v := 33) hx hb d_Mo_isRecord_213 (by decide) ?_
                      refine lv_iadd hx hb d_Mo_isRecord_215 ?_
                      refine lv_topi (fun v_363 e_364 => ?_)
                      have is_365 : v_363.toInt = p9.toInt + 33 := by rw [e_364]; exact iAddK 33 rfl (by omega) (by omega)
                      refine hm_callPi (va_runV (As := [.int v_363]) (b := m9) (rest := []) ⟨hx, hb, hml, hown, hts⟩ (m_get l D t G ak av h τ n m9 v_363 A th sd lo le wr ma nu di pl se wg op   hn hT T_m9  F_m9 hA ⟨hsd, hlo, (by omega), ⟨by omega, by omega⟩, ⟨by omega, by omega⟩⟩ (by omega) (by omega)) ⟨cw9B 1 hts mw_698 mw_699 mw_579 rfl rfl (by decide +kernel) ⟨Nat.le_of_ble_eq_true rfl, Nat.le_of_ble_eq_true rfl⟩, hts _ mw_700, hts _ mw_701⟩ (hP_V (q := (R_Mo, F_Mo, 41)) kE_ok hE hK hH F_m9 rfl) rfl rfl hl.1 rfl (lv_room (Nat.le_of_ble_eq_true rfl)) d_Mo_isRecord_216 ⟨Nat.le_of_ble_eq_true rfl, Nat.le_of_ble_eq_true rfl⟩) (fun r_366 h_367 H_368 hp_370  hH z_369 => ?_)
                      have hz : s.heap.size ≤ H_368.size := Nat.le_trans hz z_369
                      obtain ⟨xp_371, rfl⟩ := hp_370
                      obtain ⟨ia_372, eg_373⟩ := xp_371
                      rw [aI_of F_A0] at eg_373
                      refine lv_iload_n hx hb d_Mo_isRecord_219 rfl (lv_at hl 3 rfl) ?_
                      refine lv_icmp_ne (tgt := 227) hx hb d_Mo_isRecord_220 (by decide) (fun hc_374 => ?_) (fun hc_374 => ?_)
                      · skip
                        refine lv_iconst (v := 0) hx hb d_Mo_isRecord_227 (by decide) ?_
                        refine lv_istore (lv' := [(6, .int 0), (8, .int d9), (0, .ref m9), (1, .int p9), (2, .int so9), (3, .int v_6), (4, .int r_9), (5, .int r_41), (7, .int r_52)]) hx hb d_Mo_isRecord_228 hl (by decide) rfl (fun ls hl => ?_)
                        refine lv_goto (tgt := 323) hx hb d_Mo_isRecord_230 (by decide) ?_
                        exact J323 () _ _ _ _ ⟨0, (lv_sub hl [2, 3, 4, 5, 6, 7, 8, 1, 0] rfl), hH, hz, hLo, rfl, zb0⟩
                      · skip
                        have ic_375 : r_366.toInt = so9.toInt := congrArg Int32.toInt hc_374
                        refine lv_iconst (v := 1) hx hb d_Mo_isRecord_223 (by decide) ?_
                        refine lv_goto (tgt := 228) hx hb d_Mo_isRecord_224 (by decide) ?_
                        refine lv_istore (lv' := [(6, .int 1), (8, .int d9), (0, .ref m9), (1, .int p9), (2, .int so9), (3, .int v_6), (4, .int r_9), (5, .int r_41), (7, .int r_52)]) hx hb d_Mo_isRecord_228 hl (by decide) rfl (fun ls hl => ?_)
                        refine lv_goto (tgt := 323) hx hb d_Mo_isRecord_230 (by decide) ?_
                        exact J323 () _ _ _ _ ⟨1, (lv_sub hl [2, 3, 4, 5, 6, 7, 8, 1, 0] rfl), hH, hz, hLo, rfl, zb1⟩
            · skip
              refine lv_iload hx hb d_Mo_isRecord_182 (lv_at hl 0 rfl) ?_
              refine lv_iconst (v := 2) hx hb d_Mo_isRecord_184 (by decide) ?_
              refine lv_icmp_ne (tgt := 192) hx hb d_Mo_isRecord_185 (by decide) (fun hc_376 => ?_) (fun hc_376 => ?_)
              · skip
                refine lv_iconst (v := 0) hx hb d_Mo_isRecord_192 (by decide) ?_
                exact J193 0 _ _ _ _ ⟨(lv_sub hl [2, 3, 4, 5, 6, 7, 1, 0] rfl), hH, hz, hLo, rfl, zb0⟩
              · skip
                have ic_377 : r_52.toInt = 2 := congrArg Int32.toInt hc_376
                refine lv_iconst (v := 1) hx hb d_Mo_isRecord_188 (by decide) ?_
                refine lv_goto (tgt := 193) hx hb d_Mo_isRecord_189 (by decide) ?_
                exact J193 1 _ _ _ _ ⟨(lv_sub hl [2, 3, 4, 5, 6, 7, 1, 0] rfl), hH, hz, hLo, rfl, zb1⟩
          · skip
            refine lv_iload hx hb d_Mo_isRecord_170 (lv_at hl 0 rfl) ?_
            refine lv_iconst (v := 2) hx hb d_Mo_isRecord_172 (by decide) ?_
            refine lv_icmp_eq (tgt := 182) hx hb d_Mo_isRecord_173 (by decide) (fun hc_378 => ?_) (fun hc_378 => ?_)
            · skip
              have ic_379 : r_52.toInt = 2 := congrArg Int32.toInt hc_378
              refine hm_cut (α := Int32) (fun d9 ls H locs HH => (lv_has ls 11 [(0, .ref m9), (1, .int p9), (2, .int so9), (3, .int v_6), (4, .int r_9), (5, .int r_41), (6, .int is9), (7, .int r_52)]) ∧ (hm D vwCl G HH H) ∧ (s.heap.size ≤ H.size) ∧ (hLc G.P locs) ∧ (h = HH) ∧ (zb d9)) 193 (fun d9 => [.int d9]) ?_ (fun J193 => ?_)
              · skip
                rintro d9 ls H locs HH ⟨hl, hH, hz, hLo, rfl, P_d9⟩
                refine lv_istore (lv' := [(8, .int d9), (0, .ref m9), (1, .int p9), (2, .int so9), (3, .int v_6), (4, .int r_9), (5, .int r_41), (6, .int is9), (7, .int r_52)]) hx hb d_Mo_isRecord_193 hl (by decide) rfl (fun ls hl => ?_)
                refine hm_cut (α := Unit) (fun un9 ls H locs HH => ∃ (is8 : Int32), (lv_has ls 11 [(0, .ref m9), (1, .int p9), (2, .int so9), (3, .int v_6), (4, .int r_9), (5, .int r_41), (7, .int r_52), (8, .int d9), (6, .int is8)]) ∧ (hm D vwCl G HH H) ∧ (s.heap.size ≤ H.size) ∧ (hLc G.P locs) ∧ (h = HH) ∧ (zb is8)) 323 (fun un9 => []) ?_ (fun J323 => ?_)
                · skip
                  rintro un9 ls H locs HH ⟨is8, hl, hH, hz, hLo, rfl, P_is8⟩
                  refine lv_aload_n hx hb d_Mo_isRecord_323 rfl (lv_at hl 0 rfl) ?_
                  refine lv_iload_n hx hb d_Mo_isRecord_324 rfl (lv_at hl 1 rfl) ?_
                  refine lv_iconst (v := 2) hx hb d_Mo_isRecord_325 (by decide) ?_
                  refine lv_iadd hx hb d_Mo_isRecord_326 ?_
                  refine lv_topi (fun v_380 e_381 => ?_)
                  refine lv_iconst (v := 4) hx hb d_Mo_isRecord_327 (by decide) ?_
                  have is_382 : v_380.toInt = p9.toInt + 2 := by rw [e_381]; exact iAddK 2 rfl (by omega) (by omega)
                  refine hm_callPi (va_runV (As := [.int v_380, .int 4]) (b := m9) (rest := []) ⟨hx, hb, hml, hown, hts⟩ (m_lowAt l D t G ak av h τ n m9 v_380 4 A th sd lo le wr ma nu di pl se wg op   hn hT T_m9  F_m9 hA ⟨hsd, hlo, (by omega), ⟨by omega, by omega⟩, ⟨by omega, by omega⟩⟩ (by have l0 : (4 : Int32).toInt = 4 := rfl; omega) (by have l0 : (4 : Int32).toInt = 4 := rfl; omega) (by have l0 : (4 : Int32).toInt = 4 := rfl; omega)) ⟨cw9B 2 hts mw_742 mw_743 mw_579 rfl rfl (by decide +kernel) ⟨Nat.le_of_ble_eq_true rfl, Nat.le_of_ble_eq_true rfl⟩, hts _ mw_744, hts _ mw_745⟩ (hP_V (q := (R_Mo, F_Mo, 41)) kE_ok hE hK hH F_m9 rfl) rfl rfl hl.1 rfl (lv_room (Nat.le_of_ble_eq_true rfl)) d_Mo_isRecord_328 ⟨Nat.le_of_ble_eq_true rfl, Nat.le_of_ble_eq_true rfl⟩) (fun r_383 h_384 H_385 hp_387  hH z_386 => ?_)
                  have hz : s.heap.size ≤ H_385.size := Nat.le_trans hz z_386
                  obtain ⟨xp_388, rfl⟩ := hp_387
                  have el_389 : r_383 = loF g_1 sd v_380 4 0 := by rw [aI_of F_A0] at xp_388; exact xp_388
                  refine lv_istore (lv' := [(9, .int r_383), (0, .ref m9), (1, .int p9), (2, .int so9), (3, .int v_6), (4, .int r_9), (5, .int r_41), (7, .int r_52), (8, .int d9), (6, .int is8)]) hx hb d_Mo_isRecord_331 hl (by decide) rfl (fun ls hl => ?_)
                  refine lv_aload_n hx hb d_Mo_isRecord_333 rfl (lv_at hl 1 rfl) ?_
                  refine lv_iload_n hx hb d_Mo_isRecord_334 rfl (lv_at hl 2 rfl) ?_
                  refine lv_bipush (v := 10) hx hb d_Mo_isRecord_335 (by decide) ?_
                  refine lv_iadd hx hb d_Mo_isRecord_337 ?_
                  refine lv_topi (fun v_390 e_391 => ?_)
                  refine lv_iconst (v := 4) hx hb d_Mo_isRecord_338 (by decide) ?_
                  have is_392 : v_390.toInt = p9.toInt + 10 := by rw [e_391]; exact iAddK 10 rfl (by omega) (by omega)
                  refine hm_callPi (va_runV (As := [.int v_390, .int 4]) (b := m9) (rest := []) ⟨hx, hb, hml, hown, hts⟩ (m_lowAt l D t G ak av h τ n m9 v_390 4 A th sd lo le wr ma nu di pl se wg op   hn hT T_m9  F_m9 hA ⟨hsd, hlo, (by omega), ⟨by omega, by omega⟩, ⟨by omega, by omega⟩⟩ (by have l0 : (4 : Int32).toInt = 4 := rfl; omega) (by have l0 : (4 : Int32).toInt = 4 := rfl; omega) (by have l0 : (4 : Int32).toInt = 4 := rfl; omega)) ⟨cw9B 2 hts mw_742 mw_743 mw_579 rfl rfl (by decide +kernel) ⟨Nat.le_of_ble_eq_true rfl, Nat.le_of_ble_eq_true rfl⟩, hts _ mw_744, hts _ mw_745⟩ (hP_V (q := (R_Mo, F_Mo, 41)) kE_ok hE hK hH F_m9 rfl) rfl rfl hl.1 rfl (lv_room (Nat.le_of_ble_eq_true rfl)) d_Mo_isRecord_339 ⟨Nat.le_of_ble_eq_true rfl, Nat.le_of_ble_eq_true rfl⟩) (fun r_393 h_394 H_395 hp_397  hH z_396 => ?_)
                  have hz : s.heap.size ≤ H_395.size := Nat.le_trans hz z_396
                  obtain ⟨xp_398, rfl⟩ := hp_397
                  have el_399 : r_393 = loF g_1 sd v_390 4 0 := by rw [aI_of F_A0] at xp_398; exact xp_398
                  refine lv_istore (lv' := [(10, .int r_393), (9, .int r_383), (0, .ref m9), (1, .int p9), (2, .int so9), (3, .int v_6), (4, .int r_9), (5, .int r_41), (7, .int r_52), (8, .int d9), (6, .int is8)]) hx hb d_Mo_isRecord_342 hl (by decide) rfl (fun ls hl => ?_)
                  refine lv_iload hx hb d_Mo_isRecord_344 (lv_at hl 10 rfl) ?_
                  refine lv_if_eq (tgt := 376) hx hb d_Mo_isRecord_346 (by decide) (fun hc_400 => ?_) (fun hc_400 => ?_)
                  · skip
                    have ic_401 : is8.toInt = 0 := congrArg Int32.toInt hc_400
                    refine lv_aload_n hx hb d_Mo_isRecord_376 rfl (lv_at hl 2 rfl) ?_
                    refine lv_iload_n hx hb d_Mo_isRecord_377 rfl (lv_at hl 3 rfl) ?_
                    refine hm_calli (va_runV (As := [.int p9]) (b := m9) (rest := []) ⟨hx, hb, hml, hown, hts⟩ (m_no l D t G ak av h τ n m9 p9 A th sd lo le wr ma nu di pl se wg op   hn hT T_m9  F_m9 hA ⟨hsd, hlo, (by omega), ⟨by omega, by omega⟩, ⟨by omega, by omega⟩⟩ (by omega)) ⟨cw9B 1 hts mw_738 mw_739 mw_579 rfl rfl (by decide +kernel) ⟨Nat.le_of_ble_eq_true rfl, Nat.le_of_ble_eq_true rfl⟩, hts _ mw_740, hts _ mw_741⟩ (hP_V (q := (R_Mo, F_Mo, 41)) kE_ok hE hK hH F_m9 rfl) rfl rfl hl.1 rfl (lv_room (Nat.le_of_ble_eq_true rfl)) d_Mo_isRecord_378 ⟨Nat.le_of_ble_eq_true rfl, Nat.le_of_ble_eq_true rfl⟩) hLo (fun r_402 h_403 H_404 locs hp_406 hH z_405 hLo => ?_)
                    have hz : s.heap.size ≤ H_404.size := Nat.le_trans hz z_405
                    have hT0 := hT
                    obtain ⟨c_407, hT, kf_409, xp_408⟩ := hp_406
                    have F_A0 : h_403 (A 0) = some (.inl ((t 0), 819200, .inl g_1)) := kf_at kf_409 (hA 0 (by decide)) (by decide) tn0 (nmc (tne (hA 0 (by decide)) T_m9 (by decide)) nm0) F_A0
                    have hkf : kf τ [] [m9] h h_403 := kf_tr hkf kf_409 (List.forall_mem_nil _) (List.forall_mem_cons.mpr ⟨Or.inl (by simp), List.forall_mem_nil _⟩)
                    obtain ⟨wg_410, F_m9, mk_411, xq_412⟩ := xp_408
                    obtain ⟨m_413, m_414, m_415, m_416, m_417⟩ := mk_411
                    obtain ⟨hr0, hw0⟩ := xq_412
                    subst hr0
                    exact W.zret (v := 0) hx hb hr (by decide) (fun t9 ht hW => ⟨0, h_403, rfl, ⟨zb0, hT, hkf, ⟨wg_410, F_m9, ⟨m_413, m_414, (by omega), ⟨by omega, by omega⟩, ⟨by omega, by omega⟩⟩, ⟨fun z => absurd z (by decide), fun _ => hw0⟩⟩⟩, by rw [ht]; exact hH, by rw [ht]; exact hz⟩) hLo d_Mo_isRecord_381
                  · skip
                    refine lv_iload hx hb d_Mo_isRecord_349 (lv_at hl 9 rfl) ?_
                    refine lv_if_eq (tgt := 371) hx hb d_Mo_isRecord_351 (by decide) (fun hc_418 => ?_) (fun hc_418 => ?_)
                    · skip
                      have ic_419 : d9.toInt = 0 := congrArg Int32.toInt hc_418
                      refine lv_iload hx hb d_Mo_isRecord_371 (lv_at hl 0 rfl) ?_
                      refine lv_if_ge (tgt := 382) hx hb d_Mo_isRecord_373 (by decide) (fun hc_420 => ?_) (fun hc_420 => ?_)
                      · skip
                        have ic_421 : 0 ≤ r_393.toInt := iLe hc_420
                        refine lv_iload hx hb d_Mo_isRecord_382 (lv_at hl 0 rfl) ?_
                        refine lv_if_ne (tgt := 406) hx hb d_Mo_isRecord_384 (by decide) (fun hc_422 => ?_) (fun hc_422 => ?_)
                        · skip
                          refine lv_aload_n hx hb d_Mo_isRecord_406 rfl (lv_at hl 2 rfl) ?_
                          refine lv_iload hx hb d_Mo_isRecord_407 (lv_at hl 1 rfl) ?_
                          refine lv_iload hx hb d_Mo_isRecord_409 (lv_at hl 0 rfl) ?_
                          refine lv_i2l (v := r_393.toInt64) hx hb d_Mo_isRecord_411 rfl ?_
                          refine lv_ldc2 (v := 2047) hx hb hown (hts _ mw_746) d_Mo_isRecord_412 ?_
                          refine lv_ladd hx hb d_Mo_isRecord_415 ?_
                          refine lv_topl (fun v_423 e_424 => ?_)
                          refine lv_ldc2 (v := 2048) hx hb hown (hts _ mw_747) d_Mo_isRecord_416 ?_
                          refine lv_ldiv hx hb d_Mo_isRecord_419 (by decide) ?_
                          refine lv_topl (fun v_425 e_426 => ?_)
                          have ild := ld_ok rfl e_424 e_426 (by omega)
                          have iup9 := iUp r_393
                          refine hm_callPi (va_runV (As := [.int r_383, .long v_425]) (b := m9) (rest := []) ⟨hx, hb, hml, hown, hts⟩ (m_areW l D t G ak av h τ n m9 r_383 v_425 A th sd lo le wr ma nu di pl se wg op   hn hT T_m9  F_m9 hA ⟨hsd, hlo, (by omega), ⟨by omega, by omega⟩, ⟨by omega, by omega⟩⟩ ⟨by omega, by omega⟩) ⟨cw9B 2 hts mw_748 mw_749 mw_579 rfl rfl (by decide +kernel) ⟨Nat.le_of_ble_eq_true rfl, Nat.le_of_ble_eq_true rfl⟩, hts _ mw_750, hts _ mw_751⟩ (hP_V (q := (R_Mo, F_Mo, 41)) kE_ok hE hK hH F_m9 rfl) rfl rfl hl.1 rfl (lv_room (Nat.le_of_ble_eq_true rfl)) d_Mo_isRecord_420 ⟨Nat.le_of_ble_eq_true rfl, Nat.le_of_ble_eq_true rfl⟩) (fun r_427 h_428 H_429 hp_431  hH z_430 => ?_)
                          have hz : s.heap.size ≤ H_429.size := Nat.le_trans hz z_430
                          obtain ⟨c_432, xp_433, rfl⟩ := hp_431
                          refine lv_if_ne (tgt := 434) hx hb d_Mo_isRecord_423 (by decide) (fun hc_434 => ?_) (fun hc_434 => ?_)
                          · skip
                            have haw := xp_433 (c_432.resolve_left hc_434)
                            refine lv_iconst (v := 1) hx hb d_Mo_isRecord_434 (by decide) ?_
                            refine lv_goto (tgt := 439) hx hb d_Mo_isRecord_435 (by decide) ?_
                            exact W.zret (v := 1) hx hb hr (by decide) (fun t9 ht hW => ⟨1, h, rfl, ⟨zb1, hT, hkf, ⟨wg, F_m9, ⟨hsd, hlo, (by omega), ⟨by omega, by omega⟩, ⟨by omega, by omega⟩⟩, ⟨fun _ => by
                              rw [aI_of F_A0]
                              exact ⟨r_9, r_41, r_393, r_383, eg_16.symm, by rw [← e_39]; exact eg_48.symm, by rw [← e_391]; exact el_399.symm, by rw [← e_381]; exact el_389.symm, ⟨by omega, by omega, by omega, by omega, by omega⟩, ⟨by omega, by omega, by omega⟩⟩, fun z => absurd z (by decide)⟩⟩⟩, by rw [ht]; exact hH, by rw [ht]; exact hz⟩) hLo d_Mo_isRecord_439
                          · skip
                            have ic_435 : r_427.toInt = 0 := congrArg Int32.toInt hc_434
                            refine lv_aload_n hx hb d_Mo_isRecord_426 rfl (lv_at hl 2 rfl) ?_
                            refine lv_iload_n hx hb d_Mo_isRecord_427 rfl (lv_at hl 3 rfl) ?_
                            refine hm_calli (va_runV (As := [.int p9]) (b := m9) (rest := []) ⟨hx, hb, hml, hown, hts⟩ (m_no l D t G ak av h τ n m9 p9 A th sd lo le wr ma nu di pl se wg op   hn hT T_m9  F_m9 hA ⟨hsd, hlo, (by omega), ⟨by omega, by omega⟩, ⟨by omega, by omega⟩⟩ (by omega)) ⟨cw9B 1 hts mw_738 mw_739 mw_579 rfl rfl (by decide +kernel) ⟨Nat.le_of_ble_eq_true rfl, Nat.le_of_ble_eq_true rfl⟩, hts _ mw_740, hts _ mw_741⟩ (hP_V (q := (R_Mo, F_Mo, 41)) kE_ok hE hK hH F_m9 rfl) rfl rfl hl.1 rfl (lv_room (Nat.le_of_ble_eq_true rfl)) d_Mo_isRecord_428 ⟨Nat.le_of_ble_eq_true rfl, Nat.le_of_ble_eq_true rfl⟩) hLo (fun r_436 h_437 H_438 locs hp_440 hH z_439 hLo => ?_)
                            have hz : s.heap.size ≤ H_438.size := Nat.le_trans hz z_439
                            have hT0 := hT
                            obtain ⟨c_441, hT, kf_443, xp_442⟩ := hp_440
                            have F_A0 : h_437 (A 0) = some (.inl ((t 0), 819200, .inl g_1)) := kf_at kf_443 (hA 0 (by decide)) (by decide) tn0 (nmc (tne (hA 0 (by decide)) T_m9 (by decide)) nm0) F_A0
                            have hkf : kf τ [] [m9] h h_437 := kf_tr hkf kf_443 (List.forall_mem_nil _) (List.forall_mem_cons.mpr ⟨Or.inl (by simp), List.forall_mem_nil _⟩)
                            obtain ⟨wg_444, F_m9, mk_445, xq_446⟩ := xp_442
                            obtain ⟨m_447, m_448, m_449, m_450, m_451⟩ := mk_445
                            obtain ⟨hr0, hw0⟩ := xq_446
                            subst hr0
                            refine lv_if_eq (tgt := 438) hx hb d_Mo_isRecord_431 (by decide) (fun hc_452 => ?_) (fun hc_452 => absurd hc_452 (by decide))
                            refine lv_iconst (v := 0) hx hb d_Mo_isRecord_438 (by decide) ?_
                            exact W.zret (v := 0) hx hb hr (by decide) (fun t9 ht hW => ⟨0, h_437, rfl, ⟨zb0, hT, hkf, ⟨wg_444, F_m9, ⟨m_447, m_448, (by omega), ⟨by omega, by omega⟩, ⟨by omega, by omega⟩⟩, ⟨fun z => absurd z (by decide), fun _ => hw0⟩⟩⟩, by rw [ht]; exact hH, by rw [ht]; exact hz⟩) hLo d_Mo_isRecord_439
                        · skip
                          have ic_453 : r_393.toInt = 0 := congrArg Int32.toInt hc_422
                          refine lv_iload hx hb d_Mo_isRecord_387 (lv_at hl 1 rfl) ?_
                          refine lv_if_eq (tgt := 400) hx hb d_Mo_isRecord_389 (by decide) (fun hc_454 => ?_) (fun hc_454 => ?_)
                          · skip
                            have ic_455 : r_383.toInt = 0 := congrArg Int32.toInt hc_454
                            refine lv_iconst (v := 1) hx hb d_Mo_isRecord_400 (by decide) ?_
                            refine lv_goto (tgt := 405) hx hb d_Mo_isRecord_401 (by decide) ?_
                            exact W.zret (v := 1) hx hb hr (by decide) (fun t9 ht hW => ⟨1, h, rfl, ⟨zb1, hT, hkf, ⟨wg, F_m9, ⟨hsd, hlo, (by omega), ⟨by omega, by omega⟩, ⟨by omega, by omega⟩⟩, ⟨fun _ => by
                              rw [aI_of F_A0]
                              exact ⟨r_9, r_41, r_393, r_383, eg_16.symm, by rw [← e_39]; exact eg_48.symm, by rw [← e_391]; exact el_399.symm, by rw [← e_381]; exact el_389.symm, ⟨by omega, by omega, by omega, by omega, by omega⟩, ⟨by omega, by omega, by omega⟩⟩, fun z => absurd z (by decide)⟩⟩⟩, by rw [ht]; exact hH, by rw [ht]; exact hz⟩) hLo d_Mo_isRecord_405
                          · skip
                            refine lv_aload_n hx hb d_Mo_isRecord_392 rfl (lv_at hl 2 rfl) ?_
                            refine lv_iload_n hx hb d_Mo_isRecord_393 rfl (lv_at hl 3 rfl) ?_
                            refine hm_calli (va_runV (As := [.int p9]) (b := m9) (rest := []) ⟨hx, hb, hml, hown, hts⟩ (m_no l D t G ak av h τ n m9 p9 A th sd lo le wr ma nu di pl se wg op   hn hT T_m9  F_m9 hA ⟨hsd, hlo, (by omega), ⟨by omega, by omega⟩, ⟨by omega, by omega⟩⟩ (by omega)) ⟨cw9B 1 hts mw_738 mw_739 mw_579 rfl rfl (by decide +kernel) ⟨Nat.le_of_ble_eq_true rfl, Nat.le_of_ble_eq_true rfl⟩, hts _ mw_740, hts _ mw_741⟩ (hP_V (q := (R_Mo, F_Mo, 41)) kE_ok hE hK hH F_m9 rfl) rfl rfl hl.1 rfl (lv_room (Nat.le_of_ble_eq_true rfl)) d_Mo_isRecord_394 ⟨Nat.le_of_ble_eq_true rfl, Nat.le_of_ble_eq_true rfl⟩) hLo (fun r_456 h_457 H_458 locs hp_460 hH z_459 hLo => ?_)
                            have hz : s.heap.size ≤ H_458.size := Nat.le_trans hz z_459
                            have hT0 := hT
                            obtain ⟨c_461, hT, kf_463, xp_462⟩ := hp_460
                            have F_A0 : h_457 (A 0) = some (.inl ((t 0), 819200, .inl g_1)) := kf_at kf_463 (hA 0 (by decide)) (by decide) tn0 (nmc (tne (hA 0 (by decide)) T_m9 (by decide)) nm0) F_A0
                            have hkf : kf τ [] [m9] h h_457 := kf_tr hkf kf_463 (List.forall_mem_nil _) (List.forall_mem_cons.mpr ⟨Or.inl (by simp), List.forall_mem_nil _⟩)
                            obtain ⟨wg_464, F_m9, mk_465, xq_466⟩ := xp_462
                            obtain ⟨m_467, m_468, m_469, m_470, m_471⟩ := mk_465
                            obtain ⟨hr0, hw0⟩ := xq_466
                            subst hr0
                            refine lv_if_eq (tgt := 404) hx hb d_Mo_isRecord_397 (by decide) (fun hc_472 => ?_) (fun hc_472 => absurd hc_472 (by decide))
                            refine lv_iconst (v := 0) hx hb d_Mo_isRecord_404 (by decide) ?_
                            exact W.zret (v := 0) hx hb hr (by decide) (fun t9 ht hW => ⟨0, h_457, rfl, ⟨zb0, hT, hkf, ⟨wg_464, F_m9, ⟨m_467, m_468, (by omega), ⟨by omega, by omega⟩, ⟨by omega, by omega⟩⟩, ⟨fun z => absurd z (by decide), fun _ => hw0⟩⟩⟩, by rw [ht]; exact hH, by rw [ht]; exact hz⟩) hLo d_Mo_isRecord_405
                      · skip
                        have ic_473 : r_393.toInt < 0 := iNe hc_420
                        refine lv_aload_n hx hb d_Mo_isRecord_376 rfl (lv_at hl 2 rfl) ?_
                        refine lv_iload_n hx hb d_Mo_isRecord_377 rfl (lv_at hl 3 rfl) ?_
                        refine hm_calli (va_runV (As := [.int p9]) (b := m9) (rest := []) ⟨hx, hb, hml, hown, hts⟩ (m_no l D t G ak av h τ n m9 p9 A th sd lo le wr ma nu di pl se wg op   hn hT T_m9  F_m9 hA ⟨hsd, hlo, (by omega), ⟨by omega, by omega⟩, ⟨by omega, by omega⟩⟩ (by omega)) ⟨cw9B 1 hts mw_738 mw_739 mw_579 rfl rfl (by decide +kernel) ⟨Nat.le_of_ble_eq_true rfl, Nat.le_of_ble_eq_true rfl⟩, hts _ mw_740, hts _ mw_741⟩ (hP_V (q := (R_Mo, F_Mo, 41)) kE_ok hE hK hH F_m9 rfl) rfl rfl hl.1 rfl (lv_room (Nat.le_of_ble_eq_true rfl)) d_Mo_isRecord_378 ⟨Nat.le_of_ble_eq_true rfl, Nat.le_of_ble_eq_true rfl⟩) hLo (fun r_474 h_475 H_476 locs hp_478 hH z_477 hLo => ?_)
                        have hz : s.heap.size ≤ H_476.size := Nat.le_trans hz z_477
                        have hT0 := hT
                        obtain ⟨c_479, hT, kf_481, xp_480⟩ := hp_478
                        have F_A0 : h_475 (A 0) = some (.inl ((t 0), 819200, .inl g_1)) := kf_at kf_481 (hA 0 (by decide)) (by decide) tn0 (nmc (tne (hA 0 (by decide)) T_m9 (by decide)) nm0) F_A0
                        have hkf : kf τ [] [m9] h h_475 := kf_tr hkf kf_481 (List.forall_mem_nil _) (List.forall_mem_cons.mpr ⟨Or.inl (by simp), List.forall_mem_nil _⟩)
                        obtain ⟨wg_482, F_m9, mk_483, xq_484⟩ := xp_480
                        obtain ⟨m_485, m_486, m_487, m_488, m_489⟩ := mk_483
                        obtain ⟨hr0, hw0⟩ := xq_484
                        subst hr0
                        exact W.zret (v := 0) hx hb hr (by decide) (fun t9 ht hW => ⟨0, h_475, rfl, ⟨zb0, hT, hkf, ⟨wg_482, F_m9, ⟨m_485, m_486, (by omega), ⟨by omega, by omega⟩, ⟨by omega, by omega⟩⟩, ⟨fun z => absurd z (by decide), fun _ => hw0⟩⟩⟩, by rw [ht]; exact hH, by rw [ht]; exact hz⟩) hLo d_Mo_isRecord_381
                    · skip
                      refine lv_iload hx hb d_Mo_isRecord_354 (lv_at hl 0 rfl) ?_
                      refine lv_if_le (tgt := 376) hx hb d_Mo_isRecord_356 (by decide) (fun hc_490 => ?_) (fun hc_490 => ?_)
                      · skip
                        have ic_491 : r_393.toInt ≤ 0 := iLe hc_490
                        refine lv_aload_n hx hb d_Mo_isRecord_376 rfl (lv_at hl 2 rfl) ?_
                        refine lv_iload_n hx hb d_Mo_isRecord_377 rfl (lv_at hl 3 rfl) ?_
                        refine hm_calli (va_runV (As := [.int p9]) (b := m9) (rest := []) ⟨hx, hb, hml, hown, hts⟩ (m_no l D t G ak av h τ n m9 p9 A th sd lo le wr ma nu di pl se wg op   hn hT T_m9  F_m9 hA ⟨hsd, hlo, (by omega), ⟨by omega, by omega⟩, ⟨by omega, by omega⟩⟩ (by omega)) ⟨cw9B 1 hts mw_738 mw_739 mw_579 rfl rfl (by decide +kernel) ⟨Nat.le_of_ble_eq_true rfl, Nat.le_of_ble_eq_true rfl⟩, hts _ mw_740, hts _ mw_741⟩ (hP_V (q := (R_Mo, F_Mo, 41)) kE_ok hE hK hH F_m9 rfl) rfl rfl hl.1 rfl (lv_room (Nat.le_of_ble_eq_true rfl)) d_Mo_isRecord_378 ⟨Nat.le_of_ble_eq_true rfl, Nat.le_of_ble_eq_true rfl⟩) hLo (fun r_492 h_493 H_494 locs hp_496 hH z_495 hLo => ?_)
                        have hz : s.heap.size ≤ H_494.size := Nat.le_trans hz z_495
                        have hT0 := hT
                        obtain ⟨c_497, hT, kf_499, xp_498⟩ := hp_496
                        have F_A0 : h_493 (A 0) = some (.inl ((t 0), 819200, .inl g_1)) := kf_at kf_499 (hA 0 (by decide)) (by decide) tn0 (nmc (tne (hA 0 (by decide)) T_m9 (by decide)) nm0) F_A0
                        have hkf : kf τ [] [m9] h h_493 := kf_tr hkf kf_499 (List.forall_mem_nil _) (List.forall_mem_cons.mpr ⟨Or.inl (by simp), List.forall_mem_nil _⟩)
                        obtain ⟨wg_500, F_m9, mk_501, xq_502⟩ := xp_498
                        obtain ⟨m_503, m_504, m_505, m_506, m_507⟩ := mk_501
                        obtain ⟨hr0, hw0⟩ := xq_502
                        subst hr0
                        exact W.zret (v := 0) hx hb hr (by decide) (fun t9 ht hW => ⟨0, h_493, rfl, ⟨zb0, hT, hkf, ⟨wg_500, F_m9, ⟨m_503, m_504, (by omega), ⟨by omega, by omega⟩, ⟨by omega, by omega⟩⟩, ⟨fun z => absurd z (by decide), fun _ => hw0⟩⟩⟩, by rw [ht]; exact hH, by rw [ht]; exact hz⟩) hLo d_Mo_isRecord_381
                      · skip
                        have ic_508 : 0 < r_393.toInt := iNe hc_490
                        have iu_509 : r_393.toInt < 2147483648 := iUp _
                        refine lv_iload hx hb d_Mo_isRecord_359 (lv_at hl 0 rfl) ?_
                        refine lv_sipush (v := 2048) hx hb d_Mo_isRecord_361 (by decide) ?_
                        refine lv_irem hx hb d_Mo_isRecord_364 (by decide) ?_
                        refine lv_topi (fun v_510 e_511 => ?_)
                        have id_512 : 0 ≤ r_393.toInt → v_510.toInt = r_393.toInt % 2048 := fun h9 => by rw [e_511]; exact i_mod (d := 2048) (by decide) h9
                        refine lv_if_eq (tgt := 382) hx hb d_Mo_isRecord_365 (by decide) (fun hc_513 => ?_) (fun hc_513 => ?_)
                        · skip
                          have ic_514 : v_510.toInt = 0 := congrArg Int32.toInt hc_513
                          refine lv_iload hx hb d_Mo_isRecord_382 (lv_at hl 0 rfl) ?_
                          refine lv_if_ne (tgt := 406) hx hb d_Mo_isRecord_384 (by decide) (fun hc_515 => ?_) (fun hc_515 => ?_)
                          · skip
                            refine lv_aload_n hx hb d_Mo_isRecord_406 rfl (lv_at hl 2 rfl) ?_
                            refine lv_iload hx hb d_Mo_isRecord_407 (lv_at hl 1 rfl) ?_
                            refine lv_iload hx hb d_Mo_isRecord_409 (lv_at hl 0 rfl) ?_
                            refine lv_i2l (v := r_393.toInt64) hx hb d_Mo_isRecord_411 rfl ?_
                            refine lv_ldc2 (v := 2047) hx hb hown (hts _ mw_746) d_Mo_isRecord_412 ?_
                            refine lv_ladd hx hb d_Mo_isRecord_415 ?_
                            refine lv_topl (fun v_516 e_517 => ?_)
                            refine lv_ldc2 (v := 2048) hx hb hown (hts _ mw_747) d_Mo_isRecord_416 ?_
                            refine lv_ldiv hx hb d_Mo_isRecord_419 (by decide) ?_
                            refine lv_topl (fun v_518 e_519 => ?_)
                            have ild := ld_ok rfl e_517 e_519 (by omega)
                            have iup9 := iUp r_393
                            refine hm_callPi (va_runV (As := [.int r_383, .long v_518]) (b := m9) (rest := []) ⟨hx, hb, hml, hown, hts⟩ (m_areW l D t G ak av h τ n m9 r_383 v_518 A th sd lo le wr ma nu di pl se wg op   hn hT T_m9  F_m9 hA ⟨hsd, hlo, (by omega), ⟨by omega, by omega⟩, ⟨by omega, by omega⟩⟩ ⟨by omega, by omega⟩) ⟨cw9B 2 hts mw_748 mw_749 mw_579 rfl rfl (by decide +kernel) ⟨Nat.le_of_ble_eq_true rfl, Nat.le_of_ble_eq_true rfl⟩, hts _ mw_750, hts _ mw_751⟩ (hP_V (q := (R_Mo, F_Mo, 41)) kE_ok hE hK hH F_m9 rfl) rfl rfl hl.1 rfl (lv_room (Nat.le_of_ble_eq_true rfl)) d_Mo_isRecord_420 ⟨Nat.le_of_ble_eq_true rfl, Nat.le_of_ble_eq_true rfl⟩) (fun r_520 h_521 H_522 hp_524  hH z_523 => ?_)
                            have hz : s.heap.size ≤ H_522.size := Nat.le_trans hz z_523
                            obtain ⟨c_525, xp_526, rfl⟩ := hp_524
                            refine lv_if_ne (tgt := 434) hx hb d_Mo_isRecord_423 (by decide) (fun hc_527 => ?_) (fun hc_527 => ?_)
                            · skip
                              have haw := xp_526 (c_525.resolve_left hc_527)
                              refine lv_iconst (v := 1) hx hb d_Mo_isRecord_434 (by decide) ?_
                              refine lv_goto (tgt := 439) hx hb d_Mo_isRecord_435 (by decide) ?_
                              exact W.zret (v := 1) hx hb hr (by decide) (fun t9 ht hW => ⟨1, h, rfl, ⟨zb1, hT, hkf, ⟨wg, F_m9, ⟨hsd, hlo, (by omega), ⟨by omega, by omega⟩, ⟨by omega, by omega⟩⟩, ⟨fun _ => by
                                rw [aI_of F_A0]
                                exact ⟨r_9, r_41, r_393, r_383, eg_16.symm, by rw [← e_39]; exact eg_48.symm, by rw [← e_391]; exact el_399.symm, by rw [← e_381]; exact el_389.symm, ⟨by omega, by omega, by omega, by omega, by omega⟩, ⟨by omega, by omega, by omega⟩⟩, fun z => absurd z (by decide)⟩⟩⟩, by rw [ht]; exact hH, by rw [ht]; exact hz⟩) hLo d_Mo_isRecord_439
                            · skip
                              have ic_528 : r_520.toInt = 0 := congrArg Int32.toInt hc_527
                              refine lv_aload_n hx hb d_Mo_isRecord_426 rfl (lv_at hl 2 rfl) ?_
                              refine lv_iload_n hx hb d_Mo_isRecord_427 rfl (lv_at hl 3 rfl) ?_
                              refine hm_calli (va_runV (As := [.int p9]) (b := m9) (rest := []) ⟨hx, hb, hml, hown, hts⟩ (m_no l D t G ak av h τ n m9 p9 A th sd lo le wr ma nu di pl se wg op   hn hT T_m9  F_m9 hA ⟨hsd, hlo, (by omega), ⟨by omega, by omega⟩, ⟨by omega, by omega⟩⟩ (by omega)) ⟨cw9B 1 hts mw_738 mw_739 mw_579 rfl rfl (by decide +kernel) ⟨Nat.le_of_ble_eq_true rfl, Nat.le_of_ble_eq_true rfl⟩, hts _ mw_740, hts _ mw_741⟩ (hP_V (q := (R_Mo, F_Mo, 41)) kE_ok hE hK hH F_m9 rfl) rfl rfl hl.1 rfl (lv_room (Nat.le_of_ble_eq_true rfl)) d_Mo_isRecord_428 ⟨Nat.le_of_ble_eq_true rfl, Nat.le_of_ble_eq_true rfl⟩) hLo (fun r_529 h_530 H_531 locs hp_533 hH z_532 hLo => ?_)
                              have hz : s.heap.size ≤ H_531.size := Nat.le_trans hz z_532
                              have hT0 := hT
                              obtain ⟨c_534, hT, kf_536, xp_535⟩ := hp_533
                              have F_A0 : h_530 (A 0) = some (.inl ((t 0), 819200, .inl g_1)) := kf_at kf_536 (hA 0 (by decide)) (by decide) tn0 (nmc (tne (hA 0 (by decide)) T_m9 (by decide)) nm0) F_A0
                              have hkf : kf τ [] [m9] h h_530 := kf_tr hkf kf_536 (List.forall_mem_nil _) (List.forall_mem_cons.mpr ⟨Or.inl (by simp), List.forall_mem_nil _⟩)
                              obtain ⟨wg_537, F_m9, mk_538, xq_539⟩ := xp_535
                              obtain ⟨m_540, m_541, m_542, m_543, m_544⟩ := mk_538
                              obtain ⟨hr0, hw0⟩ := xq_539
                              subst hr0
                              refine lv_if_eq (tgt := 438) hx hb d_Mo_isRecord_431 (by decide) (fun hc_545 => ?_) (fun hc_545 => absurd hc_545 (by decide))
                              refine lv_iconst (v := 0) hx hb d_Mo_isRecord_438 (by decide) ?_
                              exact W.zret (v := 0) hx hb hr (by decide) (fun t9 ht hW => ⟨0, h_530, rfl, ⟨zb0, hT, hkf, ⟨wg_537, F_m9, ⟨m_540, m_541, (by omega), ⟨by omega, by omega⟩, ⟨by omega, by omega⟩⟩, ⟨fun z => absurd z (by decide), fun _ => hw0⟩⟩⟩, by rw [ht]; exact hH, by rw [ht]; exact hz⟩) hLo d_Mo_isRecord_439
                          · skip
                            have ic_546 : r_393.toInt = 0 := congrArg Int32.toInt hc_515
                            refine lv_iload hx hb d_Mo_isRecord_387 (lv_at hl 1 rfl) ?_
                            refine lv_if_eq (tgt := 400) hx hb d_Mo_isRecord_389 (by decide) (fun hc_547 => ?_) (fun hc_547 => ?_)
                            · skip
                              have ic_548 : r_383.toInt = 0 := congrArg Int32.toInt hc_547
                              refine lv_iconst (v := 1) hx hb d_Mo_isRecord_400 (by decide) ?_
                              refine lv_goto (tgt := 405) hx hb d_Mo_isRecord_401 (by decide) ?_
                              exact W.zret (v := 1) hx hb hr (by decide) (fun t9 ht hW => ⟨1, h, rfl, ⟨zb1, hT, hkf, ⟨wg, F_m9, ⟨hsd, hlo, (by omega), ⟨by omega, by omega⟩, ⟨by omega, by omega⟩⟩, ⟨fun _ => by
                                rw [aI_of F_A0]
                                exact ⟨r_9, r_41, r_393, r_383, eg_16.symm, by rw [← e_39]; exact eg_48.symm, by rw [← e_391]; exact el_399.symm, by rw [← e_381]; exact el_389.symm, ⟨by omega, by omega, by omega, by omega, by omega⟩, ⟨by omega, by omega, by omega⟩⟩, fun z => absurd z (by decide)⟩⟩⟩, by rw [ht]; exact hH, by rw [ht]; exact hz⟩) hLo d_Mo_isRecord_405
                            · skip
                              refine lv_aload_n hx hb d_Mo_isRecord_392 rfl (lv_at hl 2 rfl) ?_
                              refine lv_iload_n hx hb d_Mo_isRecord_393 rfl (lv_at hl 3 rfl) ?_
                              refine hm_calli (va_runV (As := [.int p9]) (b := m9) (rest := []) ⟨hx, hb, hml, hown, hts⟩ (m_no l D t G ak av h τ n m9 p9 A th sd lo le wr ma nu di pl se wg op   hn hT T_m9  F_m9 hA ⟨hsd, hlo, (by omega), ⟨by omega, by omega⟩, ⟨by omega, by omega⟩⟩ (by omega)) ⟨cw9B 1 hts mw_738 mw_739 mw_579 rfl rfl (by decide +kernel) ⟨Nat.le_of_ble_eq_true rfl, Nat.le_of_ble_eq_true rfl⟩, hts _ mw_740, hts _ mw_741⟩ (hP_V (q := (R_Mo, F_Mo, 41)) kE_ok hE hK hH F_m9 rfl) rfl rfl hl.1 rfl (lv_room (Nat.le_of_ble_eq_true rfl)) d_Mo_isRecord_394 ⟨Nat.le_of_ble_eq_true rfl, Nat.le_of_ble_eq_true rfl⟩) hLo (fun r_549 h_550 H_551 locs hp_553 hH z_552 hLo => ?_)
                              have hz : s.heap.size ≤ H_551.size := Nat.le_trans hz z_552
                              have hT0 := hT
                              obtain ⟨c_554, hT, kf_556, xp_555⟩ := hp_553
                              have F_A0 : h_550 (A 0) = some (.inl ((t 0), 819200, .inl g_1)) := kf_at kf_556 (hA 0 (by decide)) (by decide) tn0 (nmc (tne (hA 0 (by decide)) T_m9 (by decide)) nm0) F_A0
                              have hkf : kf τ [] [m9] h h_550 := kf_tr hkf kf_556 (List.forall_mem_nil _) (List.forall_mem_cons.mpr ⟨Or.inl (by simp), List.forall_mem_nil _⟩)
                              obtain ⟨wg_557, F_m9, mk_558, xq_559⟩ := xp_555
                              obtain ⟨m_560, m_561, m_562, m_563, m_564⟩ := mk_558
                              obtain ⟨hr0, hw0⟩ := xq_559
                              subst hr0
                              refine lv_if_eq (tgt := 404) hx hb d_Mo_isRecord_397 (by decide) (fun hc_565 => ?_) (fun hc_565 => absurd hc_565 (by decide))
                              refine lv_iconst (v := 0) hx hb d_Mo_isRecord_404 (by decide) ?_
                              exact W.zret (v := 0) hx hb hr (by decide) (fun t9 ht hW => ⟨0, h_550, rfl, ⟨zb0, hT, hkf, ⟨wg_557, F_m9, ⟨m_560, m_561, (by omega), ⟨by omega, by omega⟩, ⟨by omega, by omega⟩⟩, ⟨fun z => absurd z (by decide), fun _ => hw0⟩⟩⟩, by rw [ht]; exact hH, by rw [ht]; exact hz⟩) hLo d_Mo_isRecord_405
                        · skip
                          refine lv_goto (tgt := 376) hx hb d_Mo_isRecord_368 (by decide) ?_
                          refine lv_aload_n hx hb d_Mo_isRecord_376 rfl (lv_at hl 2 rfl) ?_
                          refine lv_iload_n hx hb d_Mo_isRecord_377 rfl (lv_at hl 3 rfl) ?_
                          refine hm_calli (va_runV (As := [.int p9]) (b := m9) (rest := []) ⟨hx, hb, hml, hown, hts⟩ (m_no l D t G ak av h τ n m9 p9 A th sd lo le wr ma nu di pl se wg op   hn hT T_m9  F_m9 hA ⟨hsd, hlo, (by omega), ⟨by omega, by omega⟩, ⟨by omega, by omega⟩⟩ (by omega)) ⟨cw9B 1 hts mw_738 mw_739 mw_579 rfl rfl (by decide +kernel) ⟨Nat.le_of_ble_eq_true rfl, Nat.le_of_ble_eq_true rfl⟩, hts _ mw_740, hts _ mw_741⟩ (hP_V (q := (R_Mo, F_Mo, 41)) kE_ok hE hK hH F_m9 rfl) rfl rfl hl.1 rfl (lv_room (Nat.le_of_ble_eq_true rfl)) d_Mo_isRecord_378 ⟨Nat.le_of_ble_eq_true rfl, Nat.le_of_ble_eq_true rfl⟩) hLo (fun r_566 h_567 H_568 locs hp_570 hH z_569 hLo => ?_)
                          have hz : s.heap.size ≤ H_568.size := Nat.le_trans hz z_569
                          have hT0 := hT
                          obtain ⟨c_571, hT, kf_573, xp_572⟩ := hp_570
                          have F_A0 : h_567 (A 0) = some (.inl ((t 0), 819200, .inl g_1)) := kf_at kf_573 (hA 0 (by decide)) (by decide) tn0 (nmc (tne (hA 0 (by decide)) T_m9 (by decide)) nm0) F_A0
                          have hkf : kf τ [] [m9] h h_567 := kf_tr hkf kf_573 (List.forall_mem_nil _) (List.forall_mem_cons.mpr ⟨Or.inl (by simp), List.forall_mem_nil _⟩)
                          obtain ⟨wg_574, F_m9, mk_575, xq_576⟩ := xp_572
                          obtain ⟨m_577, m_578, m_579, m_580, m_581⟩ := mk_575
                          obtain ⟨hr0, hw0⟩ := xq_576
                          subst hr0
                          exact W.zret (v := 0) hx hb hr (by decide) (fun t9 ht hW => ⟨0, h_567, rfl, ⟨zb0, hT, hkf, ⟨wg_574, F_m9, ⟨m_577, m_578, (by omega), ⟨by omega, by omega⟩, ⟨by omega, by omega⟩⟩, ⟨fun z => absurd z (by decide), fun _ => hw0⟩⟩⟩, by rw [ht]; exact hH, by rw [ht]; exact hz⟩) hLo d_Mo_isRecord_381
                · skip
                  refine lv_iload_n hx hb d_Mo_isRecord_195 rfl (lv_at hl 3 rfl) ?_
                  refine lv_iconst (v := 2) hx hb d_Mo_isRecord_196 (by decide) ?_
                  refine lv_icmp_ge (tgt := 233) hx hb d_Mo_isRecord_197 (by decide) (fun hc_582 => ?_) (fun hc_582 => ?_)
                  · skip
                    have ic_583 : 2 ≤ so9.toInt := iLe hc_582
                    refine lv_iload hx hb d_Mo_isRecord_233 (lv_at hl 0 rfl) ?_
                    refine lv_if_eq (tgt := 253) hx hb d_Mo_isRecord_235 (by decide) (fun hc_584 => ?_) (fun hc_584 => ?_)
                    · skip
                      have ic_585 : d9.toInt = 0 := congrArg Int32.toInt hc_584
                      refine lv_aload_n hx hb d_Mo_isRecord_253 rfl (lv_at hl 1 rfl) ?_
                      refine lv_iload_n hx hb d_Mo_isRecord_254 rfl (lv_at hl 2 rfl) ?_
                      refine lv_bipush (v := 33) hx hb d_Mo_isRecord_255 (by decide) ?_
                      refine lv_iadd hx hb d_Mo_isRecord_257 ?_
                      refine lv_topi (fun v_586 e_587 => ?_)
                      refine lv_iload hx hb d_Mo_isRecord_258 (lv_at hl 6 rfl) ?_
                      refine lv_iconst (v := 3) hx hb d_Mo_isRecord_260 (by decide) ?_
                      refine lv_isub hx hb d_Mo_isRecord_261 ?_
                      refine lv_topi (fun v_588 e_589 => ?_)
                      have is_590 : v_586.toInt = p9.toInt + 33 := by rw [e_587]; exact iAddK 33 rfl (by omega) (by omega)
                      have is_591 : v_588.toInt = r_41.toInt - 3 := by rw [e_589]; exact iDecS 3 rfl (by decide) (by omega)
                      refine hm_callPi (va_runV (As := [.int v_586, .int v_588]) (b := m9) (rest := []) ⟨hx, hb, hml, hown, hts⟩ (m_isName l D t G ak av h τ n m9 v_586 v_588 A th sd lo le wr ma nu di pl se wg op   hn hT T_m9  F_m9 hA ⟨hsd, hlo, (by omega), ⟨by omega, by omega⟩, ⟨by omega, by omega⟩⟩ (by omega) (by omega)) ⟨cw9B 2 hts mw_752 mw_753 mw_579 rfl rfl (by decide +kernel) ⟨Nat.le_of_ble_eq_true rfl, Nat.le_of_ble_eq_true rfl⟩, hts _ mw_754, hts _ mw_755⟩ (hP_V (q := (R_Mo, F_Mo, 41)) kE_ok hE hK hH F_m9 rfl) rfl rfl hl.1 rfl (lv_room (Nat.le_of_ble_eq_true rfl)) d_Mo_isRecord_262 ⟨Nat.le_of_ble_eq_true rfl, Nat.le_of_ble_eq_true rfl⟩) (fun r_592 h_593 H_594 hp_596  hH z_595 => ?_)
                      have hz : s.heap.size ≤ H_594.size := Nat.le_trans hz z_595
                      obtain ⟨c_597, rfl⟩ := hp_596
                      refine lv_if_eq (tgt := 320) hx hb d_Mo_isRecord_265 (by decide) (fun hc_599 => ?_) (fun hc_599 => ?_)
                      · skip
                        have ic_600 : r_592.toInt = 0 := congrArg Int32.toInt hc_599
                        refine lv_iconst (v := 0) hx hb d_Mo_isRecord_320 (by decide) ?_
                        refine lv_istore (lv' := [(6, .int 0), (8, .int d9), (0, .ref m9), (1, .int p9), (2, .int so9), (3, .int v_6), (4, .int r_9), (5, .int r_41), (7, .int r_52)]) hx hb d_Mo_isRecord_321 hl (by decide) rfl (fun ls hl => ?_)
                        exact J323 () _ _ _ _ ⟨0, (lv_sub hl [2, 3, 4, 5, 6, 7, 8, 1, 0] rfl), hH, hz, hLo, rfl, zb0⟩
                      · skip
                        refine lv_aload_n hx hb d_Mo_isRecord_268 rfl (lv_at hl 1 rfl) ?_
                        refine lv_iload_n hx hb d_Mo_isRecord_269 rfl (lv_at hl 2 rfl) ?_
                        refine lv_bipush (v := 30) hx hb d_Mo_isRecord_270 (by decide) ?_
                        refine lv_iadd hx hb d_Mo_isRecord_272 ?_
                        refine lv_topi (fun v_601 e_602 => ?_)
                        refine lv_iload hx hb d_Mo_isRecord_273 (lv_at hl 6 rfl) ?_
                        refine lv_iadd hx hb d_Mo_isRecord_275 ?_
                        refine lv_topi (fun v_603 e_604 => ?_)
                        have is_605 : v_601.toInt = p9.toInt + 30 := by rw [e_602]; exact iAddK 30 rfl (by omega) (by omega)
                        have is_606 : v_603.toInt = v_601.toInt + r_41.toInt := by rw [e_604]; exact iAdd (by omega) (by omega)
                        refine hm_callPi (va_runV (As := [.int v_603]) (b := m9) (rest := []) ⟨hx, hb, hml, hown, hts⟩ (m_get l D t G ak av h τ n m9 v_603 A th sd lo le wr ma nu di pl se wg op   hn hT T_m9  F_m9 hA ⟨hsd, hlo, (by omega), ⟨by omega, by omega⟩, ⟨by omega, by omega⟩⟩ (by omega) (by omega)) ⟨cw9B 1 hts mw_698 mw_699 mw_579 rfl rfl (by decide +kernel) ⟨Nat.le_of_ble_eq_true rfl, Nat.le_of_ble_eq_true rfl⟩, hts _ mw_700, hts _ mw_701⟩ (hP_V (q := (R_Mo, F_Mo, 41)) kE_ok hE hK hH F_m9 rfl) rfl rfl hl.1 rfl (lv_room (Nat.le_of_ble_eq_true rfl)) d_Mo_isRecord_276 ⟨Nat.le_of_ble_eq_true rfl, Nat.le_of_ble_eq_true rfl⟩) (fun r_607 h_608 H_609 hp_611  hH z_610 => ?_)
                        have hz : s.heap.size ≤ H_609.size := Nat.le_trans hz z_610
                        obtain ⟨xp_612, rfl⟩ := hp_611
                        obtain ⟨ia_613, eg_614⟩ := xp_612
                        rw [aI_of F_A0] at eg_614
                        refine lv_bipush (v := 46) hx hb d_Mo_isRecord_279 (by decide) ?_
                        refine lv_icmp_ne (tgt := 320) hx hb d_Mo_isRecord_281 (by decide) (fun hc_615 => ?_) (fun hc_615 => ?_)
                        · skip
                          refine lv_iconst (v := 0) hx hb d_Mo_isRecord_320 (by decide) ?_
                          refine lv_istore (lv' := [(6, .int 0), (8, .int d9), (0, .ref m9), (1, .int p9), (2, .int so9), (3, .int v_6), (4, .int r_9), (5, .int r_41), (7, .int r_52)]) hx hb d_Mo_isRecord_321 hl (by decide) rfl (fun ls hl => ?_)
                          exact J323 () _ _ _ _ ⟨0, (lv_sub hl [2, 3, 4, 5, 6, 7, 8, 1, 0] rfl), hH, hz, hLo, rfl, zb0⟩
                        · skip
                          have ic_616 : r_607.toInt = 46 := congrArg Int32.toInt hc_615
                          refine lv_aload_n hx hb d_Mo_isRecord_284 rfl (lv_at hl 1 rfl) ?_
                          refine lv_iload_n hx hb d_Mo_isRecord_285 rfl (lv_at hl 2 rfl) ?_
                          refine lv_bipush (v := 31) hx hb d_Mo_isRecord_286 (by decide) ?_
                          refine lv_iadd hx hb d_Mo_isRecord_288 ?_
                          refine lv_topi (fun v_617 e_618 => ?_)
                          refine lv_iload hx hb d_Mo_isRecord_289 (lv_at hl 6 rfl) ?_
                          refine lv_iadd hx hb d_Mo_isRecord_291 ?_
                          refine lv_topi (fun v_619 e_620 => ?_)
                          have is_621 : v_617.toInt = p9.toInt + 31 := by rw [e_618]; exact iAddK 31 rfl (by omega) (by omega)
                          have is_622 : v_619.toInt = v_617.toInt + r_41.toInt := by rw [e_620]; exact iAdd (by omega) (by omega)
                          refine hm_callPi (va_runV (As := [.int v_619]) (b := m9) (rest := []) ⟨hx, hb, hml, hown, hts⟩ (m_get l D t G ak av h τ n m9 v_619 A th sd lo le wr ma nu di pl se wg op   hn hT T_m9  F_m9 hA ⟨hsd, hlo, (by omega), ⟨by omega, by omega⟩, ⟨by omega, by omega⟩⟩ (by omega) (by omega)) ⟨cw9B 1 hts mw_698 mw_699 mw_579 rfl rfl (by decide +kernel) ⟨Nat.le_of_ble_eq_true rfl, Nat.le_of_ble_eq_true rfl⟩, hts _ mw_700, hts _ mw_701⟩ (hP_V (q := (R_Mo, F_Mo, 41)) kE_ok hE hK hH F_m9 rfl) rfl rfl hl.1 rfl (lv_room (Nat.le_of_ble_eq_true rfl)) d_Mo_isRecord_292 ⟨Nat.le_of_ble_eq_true rfl, Nat.le_of_ble_eq_true rfl⟩) (fun r_623 h_624 H_625 hp_627  hH z_626 => ?_)
                          have hz : s.heap.size ≤ H_625.size := Nat.le_trans hz z_626
                          obtain ⟨xp_628, rfl⟩ := hp_627
                          obtain ⟨ia_629, eg_630⟩ := xp_628
                          rw [aI_of F_A0] at eg_630
                          refine lv_bipush (v := 59) hx hb d_Mo_isRecord_295 (by decide) ?_
                          refine lv_icmp_ne (tgt := 320) hx hb d_Mo_isRecord_297 (by decide) (fun hc_631 => ?_) (fun hc_631 => ?_)
                          · skip
                            refine lv_iconst (v := 0) hx hb d_Mo_isRecord_320 (by decide) ?_
                            refine lv_istore (lv' := [(6, .int 0), (8, .int d9), (0, .ref m9), (1, .int p9), (2, .int so9), (3, .int v_6), (4, .int r_9), (5, .int r_41), (7, .int r_52)]) hx hb d_Mo_isRecord_321 hl (by decide) rfl (fun ls hl => ?_)
                            exact J323 () _ _ _ _ ⟨0, (lv_sub hl [2, 3, 4, 5, 6, 7, 8, 1, 0] rfl), hH, hz, hLo, rfl, zb0⟩
                          · skip
                            have ic_632 : r_623.toInt = 59 := congrArg Int32.toInt hc_631
                            refine lv_aload_n hx hb d_Mo_isRecord_300 rfl (lv_at hl 1 rfl) ?_
                            refine lv_iload_n hx hb d_Mo_isRecord_301 rfl (lv_at hl 2 rfl) ?_
                            refine lv_bipush (v := 32) hx hb d_Mo_isRecord_302 (by decide) ?_
                            refine lv_iadd hx hb d_Mo_isRecord_304 ?_
                            refine lv_topi (fun v_633 e_634 => ?_)
                            obtain rfl : v_38 = v_633 := (e_634.trans (e_39.symm)).symm
                            refine lv_iload hx hb d_Mo_isRecord_305 (lv_at hl 6 rfl) ?_
                            refine lv_iadd hx hb d_Mo_isRecord_307 ?_
                            refine lv_topi (fun v_635 e_636 => ?_)
                            have is_637 : v_635.toInt = v_38.toInt + r_41.toInt := by rw [e_636]; exact iAdd (by omega) (by omega)
                            refine hm_callPi (va_runV (As := [.int v_635]) (b := m9) (rest := []) ⟨hx, hb, hml, hown, hts⟩ (m_get l D t G ak av h τ n m9 v_635 A th sd lo le wr ma nu di pl se wg op   hn hT T_m9  F_m9 hA ⟨hsd, hlo, (by omega), ⟨by omega, by omega⟩, ⟨by omega, by omega⟩⟩ (by omega) (by omega)) ⟨cw9B 1 hts mw_698 mw_699 mw_579 rfl rfl (by decide +kernel) ⟨Nat.le_of_ble_eq_true rfl, Nat.le_of_ble_eq_true rfl⟩, hts _ mw_700, hts _ mw_701⟩ (hP_V (q := (R_Mo, F_Mo, 41)) kE_ok hE hK hH F_m9 rfl) rfl rfl hl.1 rfl (lv_room (Nat.le_of_ble_eq_true rfl)) d_Mo_isRecord_308 ⟨Nat.le_of_ble_eq_true rfl, Nat.le_of_ble_eq_true rfl⟩) (fun r_638 h_639 H_640 hp_642  hH z_641 => ?_)
                            have hz : s.heap.size ≤ H_640.size := Nat.le_trans hz z_641
                            obtain ⟨xp_643, rfl⟩ := hp_642
                            obtain ⟨ia_644, eg_645⟩ := xp_643
                            rw [aI_of F_A0] at eg_645
                            refine lv_bipush (v := 49) hx hb d_Mo_isRecord_311 (by decide) ?_
                            refine lv_icmp_ne (tgt := 320) hx hb d_Mo_isRecord_313 (by decide) (fun hc_646 => ?_) (fun hc_646 => ?_)
                            · skip
                              refine lv_iconst (v := 0) hx hb d_Mo_isRecord_320 (by decide) ?_
                              refine lv_istore (lv' := [(6, .int 0), (8, .int d9), (0, .ref m9), (1, .int p9), (2, .int so9), (3, .int v_6), (4, .int r_9), (5, .int r_41), (7, .int r_52)]) hx hb d_Mo_isRecord_321 hl (by decide) rfl (fun ls hl => ?_)
                              exact J323 () _ _ _ _ ⟨0, (lv_sub hl [2, 3, 4, 5, 6, 7, 8, 1, 0] rfl), hH, hz, hLo, rfl, zb0⟩
                            · skip
                              have ic_647 : r_638.toInt = 49 := congrArg Int32.toInt hc_646
                              refine lv_iconst (v := 1) hx hb d_Mo_isRecord_316 (by decide) ?_
                              refine lv_goto (tgt := 321) hx hb d_Mo_isRecord_317 (by decide) ?_
                              refine lv_istore (lv' := [(6, .int 1), (8, .int d9), (0, .ref m9), (1, .int p9), (2, .int so9), (3, .int v_6), (4, .int r_9), (5, .int r_41), (7, .int r_52)]) hx hb d_Mo_isRecord_321 hl (by decide) rfl (fun ls hl => ?_)
                              exact J323 () _ _ _ _ ⟨1, (lv_sub hl [2, 3, 4, 5, 6, 7, 8, 1, 0] rfl), hH, hz, hLo, rfl, zb1⟩
                    · skip
                      refine lv_aload_n hx hb d_Mo_isRecord_238 rfl (lv_at hl 1 rfl) ?_
                      refine lv_iload_n hx hb d_Mo_isRecord_239 rfl (lv_at hl 2 rfl) ?_
                      refine lv_bipush (v := 33) hx hb d_Mo_isRecord_240 (by decide) ?_
                      refine lv_iadd hx hb d_Mo_isRecord_242 ?_
                      refine lv_topi (fun v_648 e_649 => ?_)
                      refine lv_iload hx hb d_Mo_isRecord_243 (lv_at hl 6 rfl) ?_
                      have is_650 : v_648.toInt = p9.toInt + 33 := by rw [e_649]; exact iAddK 33 rfl (by omega) (by omega)
                      refine hm_callPi (va_runV (As := [.int v_648, .int r_41]) (b := m9) (rest := []) ⟨hx, hb, hml, hown, hts⟩ (m_isName l D t G ak av h τ n m9 v_648 r_41 A th sd lo le wr ma nu di pl se wg op   hn hT T_m9  F_m9 hA ⟨hsd, hlo, (by omega), ⟨by omega, by omega⟩, ⟨by omega, by omega⟩⟩ (by omega) (by omega)) ⟨cw9B 2 hts mw_752 mw_753 mw_579 rfl rfl (by decide +kernel) ⟨Nat.le_of_ble_eq_true rfl, Nat.le_of_ble_eq_true rfl⟩, hts _ mw_754, hts _ mw_755⟩ (hP_V (q := (R_Mo, F_Mo, 41)) kE_ok hE hK hH F_m9 rfl) rfl rfl hl.1 rfl (lv_room (Nat.le_of_ble_eq_true rfl)) d_Mo_isRecord_245 ⟨Nat.le_of_ble_eq_true rfl, Nat.le_of_ble_eq_true rfl⟩) (fun r_651 h_652 H_653 hp_655  hH z_654 => ?_)
                      have hz : s.heap.size ≤ H_653.size := Nat.le_trans hz z_654
                      obtain ⟨c_656, rfl⟩ := hp_655
                      refine lv_istore (lv' := [(6, .int r_651), (8, .int d9), (0, .ref m9), (1, .int p9), (2, .int so9), (3, .int v_6), (4, .int r_9), (5, .int r_41), (7, .int r_52)]) hx hb d_Mo_isRecord_248 hl (by decide) rfl (fun ls hl => ?_)
                      refine lv_goto (tgt := 323) hx hb d_Mo_isRecord_250 (by decide) ?_
                      exact J323 () _ _ _ _ ⟨r_651, (lv_sub hl [2, 3, 4, 5, 6, 7, 8, 1, 0] rfl), hH, hz, hLo, rfl, c_656⟩
                  · skip
                    have ic_658 : so9.toInt < 2 := iNe hc_582
                    refine lv_iload hx hb d_Mo_isRecord_200 (lv_at hl 0 rfl) ?_
                    refine lv_if_eq (tgt := 227) hx hb d_Mo_isRecord_202 (by decide) (fun hc_659 => ?_) (fun hc_659 => ?_)
                    · skip
                      have ic_660 : d9.toInt = 0 := congrArg Int32.toInt hc_659
                      refine lv_iconst (v := 0) hx hb d_Mo_isRecord_227 (by decide) ?_
                      refine lv_istore (lv' := [(6, .int 0), (8, .int d9), (0, .ref m9), (1, .int p9), (2, .int so9), (3, .int v_6), (4, .int r_9), (5, .int r_41), (7, .int r_52)]) hx hb d_Mo_isRecord_228 hl (by decide) rfl (fun ls hl => ?_)
                      refine lv_goto (tgt := 323) hx hb d_Mo_isRecord_230 (by decide) ?_
                      exact J323 () _ _ _ _ ⟨0, (lv_sub hl [2, 3, 4, 5, 6, 7, 8, 1, 0] rfl), hH, hz, hLo, rfl, zb0⟩
                    · skip
                      refine lv_iload hx hb d_Mo_isRecord_205 (lv_at hl 6 rfl) ?_
                      refine lv_iconst (v := 1) hx hb d_Mo_isRecord_207 (by decide) ?_
                      refine lv_icmp_ne (tgt := 227) hx hb d_Mo_isRecord_208 (by decide) (fun hc_661 => ?_) (fun hc_661 => ?_)
                      · skip
                        refine lv_iconst (v := 0) hx hb d_Mo_isRecord_227 (by decide) ?_
                        refine lv_istore (lv' := [(6, .int 0), (8, .int d9), (0, .ref m9), (1, .int p9), (2, .int so9), (3, .int v_6), (4, .int r_9), (5, .int r_41), (7, .int r_52)]) hx hb d_Mo_isRecord_228 hl (by decide) rfl (fun ls hl => ?_)
                        refine lv_goto (tgt := 323) hx hb d_Mo_isRecord_230 (by decide) ?_
                        exact J323 () _ _ _ _ ⟨0, (lv_sub hl [2, 3, 4, 5, 6, 7, 8, 1, 0] rfl), hH, hz, hLo, rfl, zb0⟩
                      · skip
                        have ic_662 : r_41.toInt = 1 := congrArg Int32.toInt hc_661
                        refine lv_aload_n hx hb d_Mo_isRecord_211 rfl (lv_at hl 1 rfl) ?_
                        refine lv_iload_n hx hb d_Mo_isRecord_212 rfl (lv_at hl 2 rfl) ?_
                        refine lv_bipush (v := 33) hx hb d_Mo_isRecord_213 (by decide) ?_
                        refine lv_iadd hx hb d_Mo_isRecord_215 ?_
                        refine lv_topi (fun v_663 e_664 => ?_)
                        have is_665 : v_663.toInt = p9.toInt + 33 := by rw [e_664]; exact iAddK 33 rfl (by omega) (by omega)
                        refine hm_callPi (va_runV (As := [.int v_663]) (b := m9) (rest := []) ⟨hx, hb, hml, hown, hts⟩ (m_get l D t G ak av h τ n m9 v_663 A th sd lo le wr ma nu di pl se wg op   hn hT T_m9  F_m9 hA ⟨hsd, hlo, (by omega), ⟨by omega, by omega⟩, ⟨by omega, by omega⟩⟩ (by omega) (by omega)) ⟨cw9B 1 hts mw_698 mw_699 mw_579 rfl rfl (by decide +kernel) ⟨Nat.le_of_ble_eq_true rfl, Nat.le_of_ble_eq_true rfl⟩, hts _ mw_700, hts _ mw_701⟩ (hP_V (q := (R_Mo, F_Mo, 41)) kE_ok hE hK hH F_m9 rfl) rfl rfl hl.1 rfl (lv_room (Nat.le_of_ble_eq_true rfl)) d_Mo_isRecord_216 ⟨Nat.le_of_ble_eq_true rfl, Nat.le_of_ble_eq_true rfl⟩) (fun r_666 h_667 H_668 hp_670  hH z_669 => ?_)
                        have hz : s.heap.size ≤ H_668.size := Nat.le_trans hz z_669
                        obtain ⟨xp_671, rfl⟩ := hp_670
                        obtain ⟨ia_672, eg_673⟩ := xp_671
                        rw [aI_of F_A0] at eg_673
                        refine lv_iload_n hx hb d_Mo_isRecord_219 rfl (lv_at hl 3 rfl) ?_
                        refine lv_icmp_ne (tgt := 227) hx hb d_Mo_isRecord_220 (by decide) (fun hc_674 => ?_) (fun hc_674 => ?_)
                        · skip
                          refine lv_iconst (v := 0) hx hb d_Mo_isRecord_227 (by decide) ?_
                          refine lv_istore (lv' := [(6, .int 0), (8, .int d9), (0, .ref m9), (1, .int p9), (2, .int so9), (3, .int v_6), (4, .int r_9), (5, .int r_41), (7, .int r_52)]) hx hb d_Mo_isRecord_228 hl (by decide) rfl (fun ls hl => ?_)
                          refine lv_goto (tgt := 323) hx hb d_Mo_isRecord_230 (by decide) ?_
                          exact J323 () _ _ _ _ ⟨0, (lv_sub hl [2, 3, 4, 5, 6, 7, 8, 1, 0] rfl), hH, hz, hLo, rfl, zb0⟩
                        · skip
                          have ic_675 : r_666.toInt = so9.toInt := congrArg Int32.toInt hc_674
                          refine lv_iconst (v := 1) hx hb d_Mo_isRecord_223 (by decide) ?_
                          refine lv_goto (tgt := 228) hx hb d_Mo_isRecord_224 (by decide) ?_
                          refine lv_istore (lv' := [(6, .int 1), (8, .int d9), (0, .ref m9), (1, .int p9), (2, .int so9), (3, .int v_6), (4, .int r_9), (5, .int r_41), (7, .int r_52)]) hx hb d_Mo_isRecord_228 hl (by decide) rfl (fun ls hl => ?_)
                          refine lv_goto (tgt := 323) hx hb d_Mo_isRecord_230 (by decide) ?_
                          exact J323 () _ _ _ _ ⟨1, (lv_sub hl [2, 3, 4, 5, 6, 7, 8, 1, 0] rfl), hH, hz, hLo, rfl, zb1⟩
              · skip
                refine lv_iload hx hb d_Mo_isRecord_182 (lv_at hl 0 rfl) ?_
                refine lv_iconst (v := 2) hx hb d_Mo_isRecord_184 (by decide) ?_
                refine lv_icmp_ne (tgt := 192) hx hb d_Mo_isRecord_185 (by decide) (fun hc_676 => ?_) (fun hc_676 => ?_)
                · skip
                  refine lv_iconst (v := 0) hx hb d_Mo_isRecord_192 (by decide) ?_
                  exact J193 0 _ _ _ _ ⟨(lv_sub hl [2, 3, 4, 5, 6, 7, 1, 0] rfl), hH, hz, hLo, rfl, zb0⟩
                · skip
                  have ic_677 : r_52.toInt = 2 := congrArg Int32.toInt hc_676
                  refine lv_iconst (v := 1) hx hb d_Mo_isRecord_188 (by decide) ?_
                  refine lv_goto (tgt := 193) hx hb d_Mo_isRecord_189 (by decide) ?_
                  exact J193 1 _ _ _ _ ⟨(lv_sub hl [2, 3, 4, 5, 6, 7, 1, 0] rfl), hH, hz, hLo, rfl, zb1⟩
            · skip
              refine lv_aload_n hx hb d_Mo_isRecord_176 rfl (lv_at hl 2 rfl) ?_
              refine lv_iload_n hx hb d_Mo_isRecord_177 rfl (lv_at hl 3 rfl) ?_
              refine hm_calli (va_runV (As := [.int p9]) (b := m9) (rest := []) ⟨hx, hb, hml, hown, hts⟩ (m_no l D t G ak av h τ n m9 p9 A th sd lo le wr ma nu di pl se wg op   hn hT T_m9  F_m9 hA ⟨hsd, hlo, (by omega), ⟨by omega, by omega⟩, ⟨by omega, by omega⟩⟩ (by omega)) ⟨cw9B 1 hts mw_738 mw_739 mw_579 rfl rfl (by decide +kernel) ⟨Nat.le_of_ble_eq_true rfl, Nat.le_of_ble_eq_true rfl⟩, hts _ mw_740, hts _ mw_741⟩ (hP_V (q := (R_Mo, F_Mo, 41)) kE_ok hE hK hH F_m9 rfl) rfl rfl hl.1 rfl (lv_room (Nat.le_of_ble_eq_true rfl)) d_Mo_isRecord_178 ⟨Nat.le_of_ble_eq_true rfl, Nat.le_of_ble_eq_true rfl⟩) hLo (fun r_678 h_679 H_680 locs hp_682 hH z_681 hLo => ?_)
              have hz : s.heap.size ≤ H_680.size := Nat.le_trans hz z_681
              have hT0 := hT
              obtain ⟨c_683, hT, kf_685, xp_684⟩ := hp_682
              have F_A0 : h_679 (A 0) = some (.inl ((t 0), 819200, .inl g_1)) := kf_at kf_685 (hA 0 (by decide)) (by decide) tn0 (nmc (tne (hA 0 (by decide)) T_m9 (by decide)) nm0) F_A0
              have hkf : kf τ [] [m9] h h_679 := kf_tr hkf kf_685 (List.forall_mem_nil _) (List.forall_mem_cons.mpr ⟨Or.inl (by simp), List.forall_mem_nil _⟩)
              obtain ⟨wg_686, F_m9, mk_687, xq_688⟩ := xp_684
              obtain ⟨m_689, m_690, m_691, m_692, m_693⟩ := mk_687
              obtain ⟨hr0, hw0⟩ := xq_688
              subst hr0
              exact W.zret (v := 0) hx hb hr (by decide) (fun t9 ht hW => ⟨0, h_679, rfl, ⟨zb0, hT, hkf, ⟨wg_686, F_m9, ⟨m_689, m_690, (by omega), ⟨by omega, by omega⟩, ⟨by omega, by omega⟩⟩, ⟨fun z => absurd z (by decide), fun _ => hw0⟩⟩⟩, by rw [ht]; exact hH, by rw [ht]; exact hz⟩) hLo d_Mo_isRecord_181
      · skip
        refine lv_iload hx hb d_Mo_isRecord_46 (lv_at hl 1 rfl) ?_
        refine lv_bipush (v := 33) hx hb d_Mo_isRecord_48 (by decide) ?_
        refine lv_iload hx hb d_Mo_isRecord_50 (lv_at hl 0 rfl) ?_
        refine lv_iadd hx hb d_Mo_isRecord_52 ?_
        refine lv_topi (fun v_694 e_695 => ?_)
        have is_696 : v_694.toInt = 33 + r_41.toInt := by rw [e_695]; exact iAddL 33 rfl (by omega) (by omega)
        refine hm_callPi (va_runS (As := [.int v_694]) (rest := [.int r_9]) ⟨hx, hb, hml, hown, hts⟩ (m_even l D t G ak av h τ n v_694    hn hT    ) ⟨cw9B 1 hts mw_662 mw_663 mw_579 rfl rfl (by decide +kernel) ⟨Nat.le_of_ble_eq_true rfl, Nat.le_of_ble_eq_true rfl⟩, hts _ mw_664⟩ (hP_S kE_ok hE hH) rfl rfl hl.1 rfl (lv_room (Nat.le_of_ble_eq_true rfl)) d_Mo_isRecord_53 ⟨Nat.le_of_ble_eq_true rfl, Nat.le_of_ble_eq_true rfl⟩) (fun r_697 h_698 H_699 hp_701  hH z_700 => ?_)
        have hz : s.heap.size ≤ H_699.size := Nat.le_trans hz z_700
        obtain ⟨xp_702, rfl⟩ := hp_701
        have iev := xp_702 (by omega) (by omega)
        refine lv_icmp_ne (tgt := 147) hx hb d_Mo_isRecord_56 (by decide) (fun hc_703 => ?_) (fun hc_703 => ?_)
        · skip
          refine lv_iconst (v := 0) hx hb d_Mo_isRecord_147 (by decide) ?_
          exact J148 0 _ _ _ _ ⟨(lv_sub hl [3, 4, 5, 2, 1, 0] rfl), hH, hz, hLo, rfl, zb0, (fun z => absurd z (by decide))⟩
        · skip
          have ic_704 : r_9.toInt = r_697.toInt := congrArg Int32.toInt hc_703
          refine lv_iload hx hb d_Mo_isRecord_59 (lv_at hl 0 rfl) ?_
          refine lv_iconst (v := 2) hx hb d_Mo_isRecord_61 (by decide) ?_
          refine lv_irem hx hb d_Mo_isRecord_62 (by decide) ?_
          refine lv_topi (fun v_705 e_706 => ?_)
          have id_707 : 0 ≤ r_41.toInt → v_705.toInt = r_41.toInt % 2 := fun h9 => by rw [e_706]; exact i_mod (d := 2) (by decide) h9
          refine lv_iconst (v := 1) hx hb d_Mo_isRecord_63 (by decide) ?_
          refine lv_icmp_eq (tgt := 81) hx hb d_Mo_isRecord_64 (by decide) (fun hc_708 => ?_) (fun hc_708 => ?_)
          · skip
            have ic_709 : v_705.toInt = 1 := congrArg Int32.toInt hc_708
            refine lv_aload_n hx hb d_Mo_isRecord_81 rfl (lv_at hl 3 rfl) ?_
            refine lv_iload_n hx hb d_Mo_isRecord_82 rfl (lv_at hl 4 rfl) ?_
            refine lv_iconst (v := 2) hx hb d_Mo_isRecord_83 (by decide) ?_
            refine lv_iadd hx hb d_Mo_isRecord_84 ?_
            refine lv_topi (fun v_710 e_711 => ?_)
            refine lv_iconst (v := 4) hx hb d_Mo_isRecord_85 (by decide) ?_
            have is_712 : v_710.toInt = p9.toInt + 2 := by rw [e_711]; exact iAddK 2 rfl (by omega) (by omega)
            refine hm_callPi (va_runV (As := [.int v_710, .int 4]) (b := m9) (rest := []) ⟨hx, hb, hml, hown, hts⟩ (m_lowAt l D t G ak av h τ n m9 v_710 4 A th sd lo le wr ma nu di pl se wg op   hn hT T_m9  F_m9 hA ⟨hsd, hlo, (by omega), ⟨by omega, by omega⟩, ⟨by omega, by omega⟩⟩ (by have l0 : (4 : Int32).toInt = 4 := rfl; omega) (by have l0 : (4 : Int32).toInt = 4 := rfl; omega) (by have l0 : (4 : Int32).toInt = 4 := rfl; omega)) ⟨cw9B 2 hts mw_742 mw_743 mw_579 rfl rfl (by decide +kernel) ⟨Nat.le_of_ble_eq_true rfl, Nat.le_of_ble_eq_true rfl⟩, hts _ mw_744, hts _ mw_745⟩ (hP_V (q := (R_Mo, F_Mo, 41)) kE_ok hE hK hH F_m9 rfl) rfl rfl hl.1 rfl (lv_room (Nat.le_of_ble_eq_true rfl)) d_Mo_isRecord_86 ⟨Nat.le_of_ble_eq_true rfl, Nat.le_of_ble_eq_true rfl⟩) (fun r_713 h_714 H_715 hp_717  hH z_716 => ?_)
            have hz : s.heap.size ≤ H_715.size := Nat.le_trans hz z_716
            obtain ⟨xp_718, rfl⟩ := hp_717
            have el_719 : r_713 = loF g_1 sd v_710 4 0 := by rw [aI_of F_A0] at xp_718; exact xp_718
            refine lv_aload_n hx hb d_Mo_isRecord_89 rfl (lv_at hl 3 rfl) ?_
            refine lv_iload_n hx hb d_Mo_isRecord_90 rfl (lv_at hl 4 rfl) ?_
            refine lv_bipush (v := 6) hx hb d_Mo_isRecord_91 (by decide) ?_
            refine lv_iadd hx hb d_Mo_isRecord_93 ?_
            refine lv_topi (fun v_720 e_721 => ?_)
            refine lv_iconst (v := 4) hx hb d_Mo_isRecord_94 (by decide) ?_
            have is_722 : v_720.toInt = p9.toInt + 6 := by rw [e_721]; exact iAddK 6 rfl (by omega) (by omega)
            refine hm_callPi (va_runV (As := [.int v_720, .int 4]) (b := m9) (rest := [.int r_713]) ⟨hx, hb, hml, hown, hts⟩ (m_highAt l D t G ak av h τ n m9 v_720 4 A th sd lo le wr ma nu di pl se wg op   hn hT T_m9  F_m9 hA ⟨hsd, hlo, (by omega), ⟨by omega, by omega⟩, ⟨by omega, by omega⟩⟩ (by have l0 : (4 : Int32).toInt = 4 := rfl; omega) (by have l0 : (4 : Int32).toInt = 4 := rfl; omega) (by have l0 : (4 : Int32).toInt = 4 := rfl; omega)) ⟨cw9B 2 hts mw_756 mw_757 mw_579 rfl rfl (by decide +kernel) ⟨Nat.le_of_ble_eq_true rfl, Nat.le_of_ble_eq_true rfl⟩, hts _ mw_758, hts _ mw_759⟩ (hP_V (q := (R_Mo, F_Mo, 41)) kE_ok hE hK hH F_m9 rfl) rfl rfl hl.1 rfl (lv_room (Nat.le_of_ble_eq_true rfl)) d_Mo_isRecord_95 ⟨Nat.le_of_ble_eq_true rfl, Nat.le_of_ble_eq_true rfl⟩) (fun r_723 h_724 H_725 hp_727  hH z_726 => ?_)
            have hz : s.heap.size ≤ H_725.size := Nat.le_trans hz z_726
            obtain rfl := hp_727
            refine lv_icmp_ne (tgt := 147) hx hb d_Mo_isRecord_98 (by decide) (fun hc_729 => ?_) (fun hc_729 => ?_)
            · skip
              refine lv_iconst (v := 0) hx hb d_Mo_isRecord_147 (by decide) ?_
              exact J148 0 _ _ _ _ ⟨(lv_sub hl [3, 4, 5, 2, 1, 0] rfl), hH, hz, hLo, rfl, zb0, (fun z => absurd z (by decide))⟩
            · skip
              have ic_730 : r_713.toInt = r_723.toInt := congrArg Int32.toInt hc_729
              refine lv_aload_n hx hb d_Mo_isRecord_101 rfl (lv_at hl 3 rfl) ?_
              refine lv_iload_n hx hb d_Mo_isRecord_102 rfl (lv_at hl 4 rfl) ?_
              refine lv_bipush (v := 10) hx hb d_Mo_isRecord_103 (by decide) ?_
              refine lv_iadd hx hb d_Mo_isRecord_105 ?_
              refine lv_topi (fun v_731 e_732 => ?_)
              refine lv_iconst (v := 4) hx hb d_Mo_isRecord_106 (by decide) ?_
              have is_733 : v_731.toInt = p9.toInt + 10 := by rw [e_732]; exact iAddK 10 rfl (by omega) (by omega)
              refine hm_callPi (va_runV (As := [.int v_731, .int 4]) (b := m9) (rest := []) ⟨hx, hb, hml, hown, hts⟩ (m_lowAt l D t G ak av h τ n m9 v_731 4 A th sd lo le wr ma nu di pl se wg op   hn hT T_m9  F_m9 hA ⟨hsd, hlo, (by omega), ⟨by omega, by omega⟩, ⟨by omega, by omega⟩⟩ (by have l0 : (4 : Int32).toInt = 4 := rfl; omega) (by have l0 : (4 : Int32).toInt = 4 := rfl; omega) (by have l0 : (4 : Int32).toInt = 4 := rfl; omega)) ⟨cw9B 2 hts mw_742 mw_743 mw_579 rfl rfl (by decide +kernel) ⟨Nat.le_of_ble_eq_true rfl, Nat.le_of_ble_eq_true rfl⟩, hts _ mw_744, hts _ mw_745⟩ (hP_V (q := (R_Mo, F_Mo, 41)) kE_ok hE hK hH F_m9 rfl) rfl rfl hl.1 rfl (lv_room (Nat.le_of_ble_eq_true rfl)) d_Mo_isRecord_107 ⟨Nat.le_of_ble_eq_true rfl, Nat.le_of_ble_eq_true rfl⟩) (fun r_734 h_735 H_736 hp_738  hH z_737 => ?_)
              have hz : s.heap.size ≤ H_736.size := Nat.le_trans hz z_737
              obtain ⟨xp_739, rfl⟩ := hp_738
              have el_740 : r_734 = loF g_1 sd v_731 4 0 := by rw [aI_of F_A0] at xp_739; exact xp_739
              refine lv_aload_n hx hb d_Mo_isRecord_110 rfl (lv_at hl 3 rfl) ?_
              refine lv_iload_n hx hb d_Mo_isRecord_111 rfl (lv_at hl 4 rfl) ?_
              refine lv_bipush (v := 14) hx hb d_Mo_isRecord_112 (by decide) ?_
              refine lv_iadd hx hb d_Mo_isRecord_114 ?_
              refine lv_topi (fun v_741 e_742 => ?_)
              refine lv_iconst (v := 4) hx hb d_Mo_isRecord_115 (by decide) ?_
              have is_743 : v_741.toInt = p9.toInt + 14 := by rw [e_742]; exact iAddK 14 rfl (by omega) (by omega)
              refine hm_callPi (va_runV (As := [.int v_741, .int 4]) (b := m9) (rest := [.int r_734]) ⟨hx, hb, hml, hown, hts⟩ (m_highAt l D t G ak av h τ n m9 v_741 4 A th sd lo le wr ma nu di pl se wg op   hn hT T_m9  F_m9 hA ⟨hsd, hlo, (by omega), ⟨by omega, by omega⟩, ⟨by omega, by omega⟩⟩ (by have l0 : (4 : Int32).toInt = 4 := rfl; omega) (by have l0 : (4 : Int32).toInt = 4 := rfl; omega) (by have l0 : (4 : Int32).toInt = 4 := rfl; omega)) ⟨cw9B 2 hts mw_756 mw_757 mw_579 rfl rfl (by decide +kernel) ⟨Nat.le_of_ble_eq_true rfl, Nat.le_of_ble_eq_true rfl⟩, hts _ mw_758, hts _ mw_759⟩ (hP_V (q := (R_Mo, F_Mo, 41)) kE_ok hE hK hH F_m9 rfl) rfl rfl hl.1 rfl (lv_room (Nat.le_of_ble_eq_true rfl)) d_Mo_isRecord_116 ⟨Nat.le_of_ble_eq_true rfl, Nat.le_of_ble_eq_true rfl⟩) (fun r_744 h_745 H_746 hp_748  hH z_747 => ?_)
              have hz : s.heap.size ≤ H_746.size := Nat.le_trans hz z_747
              obtain rfl := hp_748
              refine lv_icmp_ne (tgt := 147) hx hb d_Mo_isRecord_119 (by decide) (fun hc_750 => ?_) (fun hc_750 => ?_)
              · skip
                refine lv_iconst (v := 0) hx hb d_Mo_isRecord_147 (by decide) ?_
                exact J148 0 _ _ _ _ ⟨(lv_sub hl [3, 4, 5, 2, 1, 0] rfl), hH, hz, hLo, rfl, zb0, (fun z => absurd z (by decide))⟩
              · skip
                have ic_751 : r_734.toInt = r_744.toInt := congrArg Int32.toInt hc_750
                refine lv_aload_n hx hb d_Mo_isRecord_122 rfl (lv_at hl 3 rfl) ?_
                refine lv_iload_n hx hb d_Mo_isRecord_123 rfl (lv_at hl 4 rfl) ?_
                refine lv_bipush (v := 28) hx hb d_Mo_isRecord_124 (by decide) ?_
                refine lv_iadd hx hb d_Mo_isRecord_126 ?_
                refine lv_topi (fun v_752 e_753 => ?_)
                refine lv_iconst (v := 2) hx hb d_Mo_isRecord_127 (by decide) ?_
                have is_754 : v_752.toInt = p9.toInt + 28 := by rw [e_753]; exact iAddK 28 rfl (by omega) (by omega)
                refine hm_callPi (va_runV (As := [.int v_752, .int 2]) (b := m9) (rest := []) ⟨hx, hb, hml, hown, hts⟩ (m_lowAt l D t G ak av h τ n m9 v_752 2 A th sd lo le wr ma nu di pl se wg op   hn hT T_m9  F_m9 hA ⟨hsd, hlo, (by omega), ⟨by omega, by omega⟩, ⟨by omega, by omega⟩⟩ (by have l0 : (2 : Int32).toInt = 2 := rfl; omega) (by have l0 : (2 : Int32).toInt = 2 := rfl; omega) (by have l0 : (2 : Int32).toInt = 2 := rfl; omega)) ⟨cw9B 2 hts mw_742 mw_743 mw_579 rfl rfl (by decide +kernel) ⟨Nat.le_of_ble_eq_true rfl, Nat.le_of_ble_eq_true rfl⟩, hts _ mw_744, hts _ mw_745⟩ (hP_V (q := (R_Mo, F_Mo, 41)) kE_ok hE hK hH F_m9 rfl) rfl rfl hl.1 rfl (lv_room (Nat.le_of_ble_eq_true rfl)) d_Mo_isRecord_128 ⟨Nat.le_of_ble_eq_true rfl, Nat.le_of_ble_eq_true rfl⟩) (fun r_755 h_756 H_757 hp_759  hH z_758 => ?_)
                have hz : s.heap.size ≤ H_757.size := Nat.le_trans hz z_758
                obtain ⟨xp_760, rfl⟩ := hp_759
                have el_761 : r_755 = loF g_1 sd v_752 2 0 := by rw [aI_of F_A0] at xp_760; exact xp_760
                refine lv_aload_n hx hb d_Mo_isRecord_131 rfl (lv_at hl 3 rfl) ?_
                refine lv_iload_n hx hb d_Mo_isRecord_132 rfl (lv_at hl 4 rfl) ?_
                refine lv_bipush (v := 30) hx hb d_Mo_isRecord_133 (by decide) ?_
                refine lv_iadd hx hb d_Mo_isRecord_135 ?_
                refine lv_topi (fun v_762 e_763 => ?_)
                refine lv_iconst (v := 2) hx hb d_Mo_isRecord_136 (by decide) ?_
                have is_764 : v_762.toInt = p9.toInt + 30 := by rw [e_763]; exact iAddK 30 rfl (by omega) (by omega)
                refine hm_callPi (va_runV (As := [.int v_762, .int 2]) (b := m9) (rest := [.int r_755]) ⟨hx, hb, hml, hown, hts⟩ (m_highAt l D t G ak av h τ n m9 v_762 2 A th sd lo le wr ma nu di pl se wg op   hn hT T_m9  F_m9 hA ⟨hsd, hlo, (by omega), ⟨by omega, by omega⟩, ⟨by omega, by omega⟩⟩ (by have l0 : (2 : Int32).toInt = 2 := rfl; omega) (by have l0 : (2 : Int32).toInt = 2 := rfl; omega) (by have l0 : (2 : Int32).toInt = 2 := rfl; omega)) ⟨cw9B 2 hts mw_756 mw_757 mw_579 rfl rfl (by decide +kernel) ⟨Nat.le_of_ble_eq_true rfl, Nat.le_of_ble_eq_true rfl⟩, hts _ mw_758, hts _ mw_759⟩ (hP_V (q := (R_Mo, F_Mo, 41)) kE_ok hE hK hH F_m9 rfl) rfl rfl hl.1 rfl (lv_room (Nat.le_of_ble_eq_true rfl)) d_Mo_isRecord_137 ⟨Nat.le_of_ble_eq_true rfl, Nat.le_of_ble_eq_true rfl⟩) (fun r_765 h_766 H_767 hp_769  hH z_768 => ?_)
                have hz : s.heap.size ≤ H_767.size := Nat.le_trans hz z_768
                obtain rfl := hp_769
                refine lv_icmp_ne (tgt := 147) hx hb d_Mo_isRecord_140 (by decide) (fun hc_771 => ?_) (fun hc_771 => ?_)
                · skip
                  refine lv_iconst (v := 0) hx hb d_Mo_isRecord_147 (by decide) ?_
                  exact J148 0 _ _ _ _ ⟨(lv_sub hl [3, 4, 5, 2, 1, 0] rfl), hH, hz, hLo, rfl, zb0, (fun z => absurd z (by decide))⟩
                · skip
                  have ic_772 : r_755.toInt = r_765.toInt := congrArg Int32.toInt hc_771
                  refine lv_iconst (v := 1) hx hb d_Mo_isRecord_143 (by decide) ?_
                  refine lv_goto (tgt := 148) hx hb d_Mo_isRecord_144 (by decide) ?_
                  exact J148 1 _ _ _ _ ⟨(lv_sub hl [3, 4, 5, 2, 1, 0] rfl), hH, hz, hLo, rfl, zb1, (fun _ => by omega)⟩
          · skip
            have irm2 := id_707 (by omega)
            have irm3 : ¬ v_705.toInt = 1 := fun z => hc_708 (Int32.toInt_inj.mp (by rw [z]; rfl))
            refine lv_aload_n hx hb d_Mo_isRecord_67 rfl (lv_at hl 3 rfl) ?_
            refine lv_iload_n hx hb d_Mo_isRecord_68 rfl (lv_at hl 4 rfl) ?_
            refine lv_bipush (v := 33) hx hb d_Mo_isRecord_69 (by decide) ?_
            refine lv_iadd hx hb d_Mo_isRecord_71 ?_
            refine lv_topi (fun v_773 e_774 => ?_)
            refine lv_iload hx hb d_Mo_isRecord_72 (lv_at hl 0 rfl) ?_
            refine lv_iadd hx hb d_Mo_isRecord_74 ?_
            refine lv_topi (fun v_775 e_776 => ?_)
            have is_777 : v_773.toInt = p9.toInt + 33 := by rw [e_774]; exact iAddK 33 rfl (by omega) (by omega)
            have is_778 : v_775.toInt = v_773.toInt + r_41.toInt := by rw [e_776]; exact iAdd (by omega) (by omega)
            refine hm_callPi (va_runV (As := [.int v_775]) (b := m9) (rest := []) ⟨hx, hb, hml, hown, hts⟩ (m_get l D t G ak av h τ n m9 v_775 A th sd lo le wr ma nu di pl se wg op   hn hT T_m9  F_m9 hA ⟨hsd, hlo, (by omega), ⟨by omega, by omega⟩, ⟨by omega, by omega⟩⟩ (by omega) (by omega)) ⟨cw9B 1 hts mw_698 mw_699 mw_579 rfl rfl (by decide +kernel) ⟨Nat.le_of_ble_eq_true rfl, Nat.le_of_ble_eq_true rfl⟩, hts _ mw_700, hts _ mw_701⟩ (hP_V (q := (R_Mo, F_Mo, 41)) kE_ok hE hK hH F_m9 rfl) rfl rfl hl.1 rfl (lv_room (Nat.le_of_ble_eq_true rfl)) d_Mo_isRecord_75 ⟨Nat.le_of_ble_eq_true rfl, Nat.le_of_ble_eq_true rfl⟩) (fun r_779 h_780 H_781 hp_783  hH z_782 => ?_)
            have hz : s.heap.size ≤ H_781.size := Nat.le_trans hz z_782
            obtain ⟨xp_784, rfl⟩ := hp_783
            obtain ⟨ia_785, eg_786⟩ := xp_784
            rw [aI_of F_A0] at eg_786
            refine lv_if_ne (tgt := 147) hx hb d_Mo_isRecord_78 (by decide) (fun hc_787 => ?_) (fun hc_787 => ?_)
            · skip
              refine lv_iconst (v := 0) hx hb d_Mo_isRecord_147 (by decide) ?_
              exact J148 0 _ _ _ _ ⟨(lv_sub hl [3, 4, 5, 2, 1, 0] rfl), hH, hz, hLo, rfl, zb0, (fun z => absurd z (by decide))⟩
            · skip
              have ic_788 : r_779.toInt = 0 := congrArg Int32.toInt hc_787
              refine lv_aload_n hx hb d_Mo_isRecord_81 rfl (lv_at hl 3 rfl) ?_
              refine lv_iload_n hx hb d_Mo_isRecord_82 rfl (lv_at hl 4 rfl) ?_
              refine lv_iconst (v := 2) hx hb d_Mo_isRecord_83 (by decide) ?_
              refine lv_iadd hx hb d_Mo_isRecord_84 ?_
              refine lv_topi (fun v_789 e_790 => ?_)
              refine lv_iconst (v := 4) hx hb d_Mo_isRecord_85 (by decide) ?_
              have is_791 : v_789.toInt = p9.toInt + 2 := by rw [e_790]; exact iAddK 2 rfl (by omega) (by omega)
              refine hm_callPi (va_runV (As := [.int v_789, .int 4]) (b := m9) (rest := []) ⟨hx, hb, hml, hown, hts⟩ (m_lowAt l D t G ak av h τ n m9 v_789 4 A th sd lo le wr ma nu di pl se wg op   hn hT T_m9  F_m9 hA ⟨hsd, hlo, (by omega), ⟨by omega, by omega⟩, ⟨by omega, by omega⟩⟩ (by have l0 : (4 : Int32).toInt = 4 := rfl; omega) (by have l0 : (4 : Int32).toInt = 4 := rfl; omega) (by have l0 : (4 : Int32).toInt = 4 := rfl; omega)) ⟨cw9B 2 hts mw_742 mw_743 mw_579 rfl rfl (by decide +kernel) ⟨Nat.le_of_ble_eq_true rfl, Nat.le_of_ble_eq_true rfl⟩, hts _ mw_744, hts _ mw_745⟩ (hP_V (q := (R_Mo, F_Mo, 41)) kE_ok hE hK hH F_m9 rfl) rfl rfl hl.1 rfl (lv_room (Nat.le_of_ble_eq_true rfl)) d_Mo_isRecord_86 ⟨Nat.le_of_ble_eq_true rfl, Nat.le_of_ble_eq_true rfl⟩) (fun r_792 h_793 H_794 hp_796  hH z_795 => ?_)
              have hz : s.heap.size ≤ H_794.size := Nat.le_trans hz z_795
              obtain ⟨xp_797, rfl⟩ := hp_796
              have el_798 : r_792 = loF g_1 sd v_789 4 0 := by rw [aI_of F_A0] at xp_797; exact xp_797
              refine lv_aload_n hx hb d_Mo_isRecord_89 rfl (lv_at hl 3 rfl) ?_
              refine lv_iload_n hx hb d_Mo_isRecord_90 rfl (lv_at hl 4 rfl) ?_
              refine lv_bipush (v := 6) hx hb d_Mo_isRecord_91 (by decide) ?_
              refine lv_iadd hx hb d_Mo_isRecord_93 ?_
              refine lv_topi (fun v_799 e_800 => ?_)
              refine lv_iconst (v := 4) hx hb d_Mo_isRecord_94 (by decide) ?_
              have is_801 : v_799.toInt = p9.toInt + 6 := by rw [e_800]; exact iAddK 6 rfl (by omega) (by omega)
              refine hm_callPi (va_runV (As := [.int v_799, .int 4]) (b := m9) (rest := [.int r_792]) ⟨hx, hb, hml, hown, hts⟩ (m_highAt l D t G ak av h τ n m9 v_799 4 A th sd lo le wr ma nu di pl se wg op   hn hT T_m9  F_m9 hA ⟨hsd, hlo, (by omega), ⟨by omega, by omega⟩, ⟨by omega, by omega⟩⟩ (by have l0 : (4 : Int32).toInt = 4 := rfl; omega) (by have l0 : (4 : Int32).toInt = 4 := rfl; omega) (by have l0 : (4 : Int32).toInt = 4 := rfl; omega)) ⟨cw9B 2 hts mw_756 mw_757 mw_579 rfl rfl (by decide +kernel) ⟨Nat.le_of_ble_eq_true rfl, Nat.le_of_ble_eq_true rfl⟩, hts _ mw_758, hts _ mw_759⟩ (hP_V (q := (R_Mo, F_Mo, 41)) kE_ok hE hK hH F_m9 rfl) rfl rfl hl.1 rfl (lv_room (Nat.le_of_ble_eq_true rfl)) d_Mo_isRecord_95 ⟨Nat.le_of_ble_eq_true rfl, Nat.le_of_ble_eq_true rfl⟩) (fun r_802 h_803 H_804 hp_806  hH z_805 => ?_)
              have hz : s.heap.size ≤ H_804.size := Nat.le_trans hz z_805
              obtain rfl := hp_806
              refine lv_icmp_ne (tgt := 147) hx hb d_Mo_isRecord_98 (by decide) (fun hc_808 => ?_) (fun hc_808 => ?_)
              · skip
                refine lv_iconst (v := 0) hx hb d_Mo_isRecord_147 (by decide) ?_
                exact J148 0 _ _ _ _ ⟨(lv_sub hl [3, 4, 5, 2, 1, 0] rfl), hH, hz, hLo, rfl, zb0, (fun z => absurd z (by decide))⟩
              · skip
                have ic_809 : r_792.toInt = r_802.toInt := congrArg Int32.toInt hc_808
                refine lv_aload_n hx hb d_Mo_isRecord_101 rfl (lv_at hl 3 rfl) ?_
                refine lv_iload_n hx hb d_Mo_isRecord_102 rfl (lv_at hl 4 rfl) ?_
                refine lv_bipush (v := 10) hx hb d_Mo_isRecord_103 (by decide) ?_
                refine lv_iadd hx hb d_Mo_isRecord_105 ?_
                refine lv_topi (fun v_810 e_811 => ?_)
                refine lv_iconst (v := 4) hx hb d_Mo_isRecord_106 (by decide) ?_
                have is_812 : v_810.toInt = p9.toInt + 10 := by rw [e_811]; exact iAddK 10 rfl (by omega) (by omega)
                refine hm_callPi (va_runV (As := [.int v_810, .int 4]) (b := m9) (rest := []) ⟨hx, hb, hml, hown, hts⟩ (m_lowAt l D t G ak av h τ n m9 v_810 4 A th sd lo le wr ma nu di pl se wg op   hn hT T_m9  F_m9 hA ⟨hsd, hlo, (by omega), ⟨by omega, by omega⟩, ⟨by omega, by omega⟩⟩ (by have l0 : (4 : Int32).toInt = 4 := rfl; omega) (by have l0 : (4 : Int32).toInt = 4 := rfl; omega) (by have l0 : (4 : Int32).toInt = 4 := rfl; omega)) ⟨cw9B 2 hts mw_742 mw_743 mw_579 rfl rfl (by decide +kernel) ⟨Nat.le_of_ble_eq_true rfl, Nat.le_of_ble_eq_true rfl⟩, hts _ mw_744, hts _ mw_745⟩ (hP_V (q := (R_Mo, F_Mo, 41)) kE_ok hE hK hH F_m9 rfl) rfl rfl hl.1 rfl (lv_room (Nat.le_of_ble_eq_true rfl)) d_Mo_isRecord_107 ⟨Nat.le_of_ble_eq_true rfl, Nat.le_of_ble_eq_true rfl⟩) (fun r_813 h_814 H_815 hp_817  hH z_816 => ?_)
                have hz : s.heap.size ≤ H_815.size := Nat.le_trans hz z_816
                obtain ⟨xp_818, rfl⟩ := hp_817
                have el_819 : r_813 = loF g_1 sd v_810 4 0 := by rw [aI_of F_A0] at xp_818; exact xp_818
                refine lv_aload_n hx hb d_Mo_isRecord_110 rfl (lv_at hl 3 rfl) ?_
                refine lv_iload_n hx hb d_Mo_isRecord_111 rfl (lv_at hl 4 rfl) ?_
                refine lv_bipush (v := 14) hx hb d_Mo_isRecord_112 (by decide) ?_
                refine lv_iadd hx hb d_Mo_isRecord_114 ?_
                refine lv_topi (fun v_820 e_821 => ?_)
                refine lv_iconst (v := 4) hx hb d_Mo_isRecord_115 (by decide) ?_
                have is_822 : v_820.toInt = p9.toInt + 14 := by rw [e_821]; exact iAddK 14 rfl (by omega) (by omega)
                refine hm_callPi (va_runV (As := [.int v_820, .int 4]) (b := m9) (rest := [.int r_813]) ⟨hx, hb, hml, hown, hts⟩ (m_highAt l D t G ak av h τ n m9 v_820 4 A th sd lo le wr ma nu di pl se wg op   hn hT T_m9  F_m9 hA ⟨hsd, hlo, (by omega), ⟨by omega, by omega⟩, ⟨by omega, by omega⟩⟩ (by have l0 : (4 : Int32).toInt = 4 := rfl; omega) (by have l0 : (4 : Int32).toInt = 4 := rfl; omega) (by have l0 : (4 : Int32).toInt = 4 := rfl; omega)) ⟨cw9B 2 hts mw_756 mw_757 mw_579 rfl rfl (by decide +kernel) ⟨Nat.le_of_ble_eq_true rfl, Nat.le_of_ble_eq_true rfl⟩, hts _ mw_758, hts _ mw_759⟩ (hP_V (q := (R_Mo, F_Mo, 41)) kE_ok hE hK hH F_m9 rfl) rfl rfl hl.1 rfl (lv_room (Nat.le_of_ble_eq_true rfl)) d_Mo_isRecord_116 ⟨Nat.le_of_ble_eq_true rfl, Nat.le_of_ble_eq_true rfl⟩) (fun r_823 h_824 H_825 hp_827  hH z_826 => ?_)
                have hz : s.heap.size ≤ H_825.size := Nat.le_trans hz z_826
                obtain rfl := hp_827
                refine lv_icmp_ne (tgt := 147) hx hb d_Mo_isRecord_119 (by decide) (fun hc_829 => ?_) (fun hc_829 => ?_)
                · skip
                  refine lv_iconst (v := 0) hx hb d_Mo_isRecord_147 (by decide) ?_
                  exact J148 0 _ _ _ _ ⟨(lv_sub hl [3, 4, 5, 2, 1, 0] rfl), hH, hz, hLo, rfl, zb0, (fun z => absurd z (by decide))⟩
                · skip
                  have ic_830 : r_813.toInt = r_823.toInt := congrArg Int32.toInt hc_829
                  refine lv_aload_n hx hb d_Mo_isRecord_122 rfl (lv_at hl 3 rfl) ?_
                  refine lv_iload_n hx hb d_Mo_isRecord_123 rfl (lv_at hl 4 rfl) ?_
                  refine lv_bipush (v := 28) hx hb d_Mo_isRecord_124 (by decide) ?_
                  refine lv_iadd hx hb d_Mo_isRecord_126 ?_
                  refine lv_topi (fun v_831 e_832 => ?_)
                  refine lv_iconst (v := 2) hx hb d_Mo_isRecord_127 (by decide) ?_
                  have is_833 : v_831.toInt = p9.toInt + 28 := by rw [e_832]; exact iAddK 28 rfl (by omega) (by omega)
                  refine hm_callPi (va_runV (As := [.int v_831, .int 2]) (b := m9) (rest := []) ⟨hx, hb, hml, hown, hts⟩ (m_lowAt l D t G ak av h τ n m9 v_831 2 A th sd lo le wr ma nu di pl se wg op   hn hT T_m9  F_m9 hA ⟨hsd, hlo, (by omega), ⟨by omega, by omega⟩, ⟨by omega, by omega⟩⟩ (by have l0 : (2 : Int32).toInt = 2 := rfl; omega) (by have l0 : (2 : Int32).toInt = 2 := rfl; omega) (by have l0 : (2 : Int32).toInt = 2 := rfl; omega)) ⟨cw9B 2 hts mw_742 mw_743 mw_579 rfl rfl (by decide +kernel) ⟨Nat.le_of_ble_eq_true rfl, Nat.le_of_ble_eq_true rfl⟩, hts _ mw_744, hts _ mw_745⟩ (hP_V (q := (R_Mo, F_Mo, 41)) kE_ok hE hK hH F_m9 rfl) rfl rfl hl.1 rfl (lv_room (Nat.le_of_ble_eq_true rfl)) d_Mo_isRecord_128 ⟨Nat.le_of_ble_eq_true rfl, Nat.le_of_ble_eq_true rfl⟩) (fun r_834 h_835 H_836 hp_838  hH z_837 => ?_)
                  have hz : s.heap.size ≤ H_836.size := Nat.le_trans hz z_837
                  obtain ⟨xp_839, rfl⟩ := hp_838
                  have el_840 : r_834 = loF g_1 sd v_831 2 0 := by rw [aI_of F_A0] at xp_839; exact xp_839
                  refine lv_aload_n hx hb d_Mo_isRecord_131 rfl (lv_at hl 3 rfl) ?_
                  refine lv_iload_n hx hb d_Mo_isRecord_132 rfl (lv_at hl 4 rfl) ?_
                  refine lv_bipush (v := 30) hx hb d_Mo_isRecord_133 (by decide) ?_
                  refine lv_iadd hx hb d_Mo_isRecord_135 ?_
                  refine lv_topi (fun v_841 e_842 => ?_)
                  refine lv_iconst (v := 2) hx hb d_Mo_isRecord_136 (by decide) ?_
                  have is_843 : v_841.toInt = p9.toInt + 30 := by rw [e_842]; exact iAddK 30 rfl (by omega) (by omega)
                  refine hm_callPi (va_runV (As := [.int v_841, .int 2]) (b := m9) (rest := [.int r_834]) ⟨hx, hb, hml, hown, hts⟩ (m_highAt l D t G ak av h τ n m9 v_841 2 A th sd lo le wr ma nu di pl se wg op   hn hT T_m9  F_m9 hA ⟨hsd, hlo, (by omega), ⟨by omega, by omega⟩, ⟨by omega, by omega⟩⟩ (by have l0 : (2 : Int32).toInt = 2 := rfl; omega) (by have l0 : (2 : Int32).toInt = 2 := rfl; omega) (by have l0 : (2 : Int32).toInt = 2 := rfl; omega)) ⟨cw9B 2 hts mw_756 mw_757 mw_579 rfl rfl (by decide +kernel) ⟨Nat.le_of_ble_eq_true rfl, Nat.le_of_ble_eq_true rfl⟩, hts _ mw_758, hts _ mw_759⟩ (hP_V (q := (R_Mo, F_Mo, 41)) kE_ok hE hK hH F_m9 rfl) rfl rfl hl.1 rfl (lv_room (Nat.le_of_ble_eq_true rfl)) d_Mo_isRecord_137 ⟨Nat.le_of_ble_eq_true rfl, Nat.le_of_ble_eq_true rfl⟩) (fun r_844 h_845 H_846 hp_848  hH z_847 => ?_)
                  have hz : s.heap.size ≤ H_846.size := Nat.le_trans hz z_847
                  obtain rfl := hp_848
                  refine lv_icmp_ne (tgt := 147) hx hb d_Mo_isRecord_140 (by decide) (fun hc_850 => ?_) (fun hc_850 => ?_)
                  · skip
                    refine lv_iconst (v := 0) hx hb d_Mo_isRecord_147 (by decide) ?_
                    exact J148 0 _ _ _ _ ⟨(lv_sub hl [3, 4, 5, 2, 1, 0] rfl), hH, hz, hLo, rfl, zb0, (fun z => absurd z (by decide))⟩
                  · skip
                    have ic_851 : r_834.toInt = r_844.toInt := congrArg Int32.toInt hc_850
                    refine lv_iconst (v := 1) hx hb d_Mo_isRecord_143 (by decide) ?_
                    refine lv_goto (tgt := 148) hx hb d_Mo_isRecord_144 (by decide) ?_
                    exact J148 1 _ _ _ _ ⟨(lv_sub hl [3, 4, 5, 2, 1, 0] rfl), hH, hz, hLo, rfl, zb1, (fun _ => by omega)⟩
    · skip
      have ic_852 : v_6.toInt < r_9.toInt := iNe hc_36
      have iu_853 : r_9.toInt < 2147483648 := iUp _
      refine lv_aload_n hx hb d_Mo_isRecord_30 rfl (lv_at hl 2 rfl) ?_
      refine lv_iload_n hx hb d_Mo_isRecord_31 rfl (lv_at hl 3 rfl) ?_
      refine hm_calli (va_runV (As := [.int p9]) (b := m9) (rest := []) ⟨hx, hb, hml, hown, hts⟩ (m_no l D t G ak av h τ n m9 p9 A th sd lo le wr ma nu di pl se wg op   hn hT T_m9  F_m9 hA ⟨hsd, hlo, (by omega), ⟨by omega, by omega⟩, ⟨by omega, by omega⟩⟩ (by omega)) ⟨cw9B 1 hts mw_738 mw_739 mw_579 rfl rfl (by decide +kernel) ⟨Nat.le_of_ble_eq_true rfl, Nat.le_of_ble_eq_true rfl⟩, hts _ mw_740, hts _ mw_741⟩ (hP_V (q := (R_Mo, F_Mo, 41)) kE_ok hE hK hH F_m9 rfl) rfl rfl hl.1 rfl (lv_room (Nat.le_of_ble_eq_true rfl)) d_Mo_isRecord_32 ⟨Nat.le_of_ble_eq_true rfl, Nat.le_of_ble_eq_true rfl⟩) hLo (fun r_854 h_855 H_856 locs hp_858 hH z_857 hLo => ?_)
      have hz : s.heap.size ≤ H_856.size := Nat.le_trans hz z_857
      have hT0 := hT
      obtain ⟨c_859, hT, kf_861, xp_860⟩ := hp_858
      have F_A0 : h_855 (A 0) = some (.inl ((t 0), 819200, .inl g_1)) := kf_at kf_861 (hA 0 (by decide)) (by decide) tn0 (nmc (tne (hA 0 (by decide)) T_m9 (by decide)) nm0) F_A0
      have hkf : kf τ [] [m9] h h_855 := kf_tr hkf kf_861 (List.forall_mem_nil _) (List.forall_mem_cons.mpr ⟨Or.inl (by simp), List.forall_mem_nil _⟩)
      obtain ⟨wg_862, F_m9, mk_863, xq_864⟩ := xp_860
      obtain ⟨m_865, m_866, m_867, m_868, m_869⟩ := mk_863
      obtain ⟨hr0, hw0⟩ := xq_864
      subst hr0
      exact W.zret (v := 0) hx hb hr (by decide) (fun t9 ht hW => ⟨0, h_855, rfl, ⟨zb0, hT, hkf, ⟨wg_862, F_m9, ⟨m_865, m_866, (by omega), ⟨by omega, by omega⟩, ⟨by omega, by omega⟩⟩, ⟨fun z => absurd z (by decide), fun _ => hw0⟩⟩⟩, by rw [ht]; exact hH, by rw [ht]; exact hz⟩) hLo d_Mo_isRecord_35
