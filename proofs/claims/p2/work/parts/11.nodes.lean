set_option maxRecDepth 100000 in
theorem mw_93 : Cond.fieldLink R_No 33 "WriteOnceDisc$Node" "seed" "I" ∈ lw_g := lw_gin (List.mem_append_right _ (List.mem_of_getElem? (i := 114) rfl)) (by decide +kernel)
set_option maxRecDepth 100000 in
theorem mw_94 : Cond.fieldLink R_No 19 "WriteOnceDisc$Node" "isDirectory" "Z" ∈ lw_g := lw_gin (List.mem_append_right _ (List.mem_of_getElem? (i := 98) rfl)) (by decide +kernel)
set_option maxRecDepth 100000 in
theorem mw_95 : Cond.fieldLink R_No 30 "WriteOnceDisc$Node" "size" "I" ∈ lw_g := lw_gin (List.mem_append_right _ (List.mem_of_getElem? (i := 109) rfl)) (by decide +kernel)
set_option maxRecDepth 100000 in
theorem mw_96 : Cond.fieldLink R_No 15 "WriteOnceDisc$Node" "parent" "LWriteOnceDisc$Node;" ∈ lw_g := lw_gin (List.mem_append_right _ (List.mem_of_getElem? (i := 93) rfl)) (by decide +kernel)
set_option maxRecDepth 100000 in
theorem mw_97 : Cond.fieldLink R_No 9 "WriteOnceDisc$Node" "number" "I" ∈ lw_g := lw_gin (List.mem_append_right _ (List.mem_of_getElem? (i := 90) rfl)) (by decide +kernel)
set_option maxRecDepth 100000 in
theorem mw_98 : Cond.fieldLink R_No 42 "WriteOnceDisc$Node" "sector" "I" ∈ lw_g := lw_gin (List.mem_append_right _ (List.mem_of_getElem? (i := 123) rfl)) (by decide +kernel)
set_option maxRecDepth 100000 in
theorem mw_99 : Cond.code y_Di_sectorsFor b_Di_sectorsFor 1 (some .int) ∈ lw_g := lw_gin (List.mem_append_right _ (List.mem_of_getElem? (i := 387) rfl)) (by decide +kernel)
set_option maxRecDepth 100000 in
theorem mw_100 : Cond.static y_Di_sectorsFor ∈ lw_g := lw_gin (List.mem_append_right _ (List.mem_of_getElem? (i := 386) rfl)) (by decide +kernel)
set_option maxRecDepth 100000 in
theorem mw_101 : Cond.fieldLink R_No 27 "WriteOnceDisc$Node" "letters" "I" ∈ lw_g := lw_gin (List.mem_append_right _ (List.mem_of_getElem? (i := 107) rfl)) (by decide +kernel)
set_option maxRecDepth 100000 in
theorem mw_102 : Cond.methodLink R_No 66 y_St_length ∈ lw_g := lw_gin (List.mem_append_right _ (List.mem_of_getElem? (i := 469) rfl)) (by decide +kernel)
set_option maxRecDepth 100000 in
theorem mw_103 : Cond.methodLink R_No 72 y_St_charAt ∈ lw_g := lw_gin (List.mem_append_right _ (List.mem_of_getElem? (i := 483) rfl)) (by decide +kernel)
set_option maxRecDepth 100000 in
theorem mw_104 : Cond.fieldLink R_No 23 "WriteOnceDisc$Node" "word" "J" ∈ lw_g := lw_gin (List.mem_append_right _ (List.mem_of_getElem? (i := 104) rfl)) (by decide +kernel)
set_option maxRecDepth 100000 in
theorem mw_105 : Cond.code y_No_identifierLength b_No_identifierLength 1 (some .int) ∈ lw_g := lw_gin (List.mem_append_right _ (List.mem_of_getElem? (i := 467) rfl)) (by decide +kernel)
set_option maxRecDepth 100000 in
theorem mw_106 : Cond.initialized R_No ∈ lw_g := lw_gin (List.mem_append_right _ (List.mem_of_getElem? (i := 6) rfl)) (by decide +kernel)
set_option maxRecDepth 100000 in
theorem mw_107 : Cond.methodLink R_No 76 y_No_identifierLength ∈ lw_g := lw_gin (List.mem_append_right _ (List.mem_of_getElem? (i := 464) rfl)) (by decide +kernel)
set_option maxRecDepth 100000 in
theorem mw_108 : Cond.instanceMethod y_No_identifierLength ∈ lw_g := lw_gin (List.mem_append_right _ (List.mem_of_getElem? (i := 465) rfl)) (by decide +kernel)
set_option maxRecDepth 100000 in
theorem mw_109 : Cond.selects R_No y_No_identifierLength y_No_identifierLength ∈ lw_g := lw_gin (List.mem_append_right _ (List.mem_of_getElem? (i := 466) rfl)) (by decide +kernel)
set_option maxRecDepth 100000 in
theorem mw_110 : Cond.code y_No_identifierByte b_No_identifierByte 3 (some .int) ∈ lw_g := lw_gin (List.mem_append_right _ (List.mem_of_getElem? (i := 482) rfl)) (by decide +kernel)
set_option maxRecDepth 100000 in
theorem mw_111 : Cond.methodLink R_No 79 y_No_identifierByte ∈ lw_g := lw_gin (List.mem_append_right _ (List.mem_of_getElem? (i := 479) rfl)) (by decide +kernel)
set_option maxRecDepth 100000 in
theorem mw_112 : Cond.instanceMethod y_No_identifierByte ∈ lw_g := lw_gin (List.mem_append_right _ (List.mem_of_getElem? (i := 480) rfl)) (by decide +kernel)
set_option maxRecDepth 100000 in
theorem mw_113 : Cond.selects R_No y_No_identifierByte y_No_identifierByte ∈ lw_g := lw_gin (List.mem_append_right _ (List.mem_of_getElem? (i := 481) rfl)) (by decide +kernel)
theorem d_No_contentByte_0 : decode b_No_contentByte 0 = .ok (.aload_n 0, 1) := by decide +kernel
theorem d_No_contentByte_1 : decode b_No_contentByte 1 = .ok (.getfield 33, 3) := by decide +kernel
theorem d_No_contentByte_4 : decode b_No_contentByte 4 = .ok (.iconst 3, 1) := by decide +kernel
theorem d_No_contentByte_5 : decode b_No_contentByte 5 = .ok (.iload_n 1, 1) := by decide +kernel
theorem d_No_contentByte_6 : decode b_No_contentByte 6 = .ok (.imul, 1) := by decide +kernel
theorem d_No_contentByte_7 : decode b_No_contentByte 7 = .ok (.iadd, 1) := by decide +kernel
theorem d_No_contentByte_8 : decode b_No_contentByte 8 = .ok (.iload_n 1, 1) := by decide +kernel
theorem d_No_contentByte_9 : decode b_No_contentByte 9 = .ok (.sipush 128, 3) := by decide +kernel
theorem d_No_contentByte_12 : decode b_No_contentByte 12 = .ok (.idiv, 1) := by decide +kernel
theorem d_No_contentByte_13 : decode b_No_contentByte 13 = .ok (.iadd, 1) := by decide +kernel
theorem d_No_contentByte_14 : decode b_No_contentByte 14 = .ok (.ireturn, 1) := by decide +kernel
theorem d_No_needsSectors_0 : decode b_No_needsSectors 0 = .ok (.aload_n 0, 1) := by decide +kernel
theorem d_No_needsSectors_1 : decode b_No_needsSectors 1 = .ok (.getfield 19, 3) := by decide +kernel
theorem d_No_needsSectors_4 : decode b_No_needsSectors 4 = .ok (.ifCond .ne 14, 3) := by decide +kernel
theorem d_No_needsSectors_18 : decode b_No_needsSectors 18 = .ok (.iconst 0, 1) := by decide +kernel
theorem d_No_needsSectors_19 : decode b_No_needsSectors 19 = .ok (.ireturn, 1) := by decide +kernel
theorem d_No_needsSectors_7 : decode b_No_needsSectors 7 = .ok (.aload_n 0, 1) := by decide +kernel
theorem d_No_needsSectors_8 : decode b_No_needsSectors 8 = .ok (.getfield 30, 3) := by decide +kernel
theorem d_No_needsSectors_11 : decode b_No_needsSectors 11 = .ok (.ifCond .le 7, 3) := by decide +kernel
theorem d_No_needsSectors_14 : decode b_No_needsSectors 14 = .ok (.iconst 1, 1) := by decide +kernel
theorem d_No_needsSectors_15 : decode b_No_needsSectors 15 = .ok (.goto 4, 3) := by decide +kernel
theorem d_No_sort_0 : decode b_No_sort 0 = .ok (.aload_n 0, 1) := by decide +kernel
theorem d_No_sort_1 : decode b_No_sort 1 = .ok (.getfield 19, 3) := by decide +kernel
theorem d_No_sort_4 : decode b_No_sort 4 = .ok (.ifCond .eq 7, 3) := by decide +kernel
theorem d_No_sort_11 : decode b_No_sort 11 = .ok (.iconst 1, 1) := by decide +kernel
theorem d_No_sort_12 : decode b_No_sort 12 = .ok (.ireturn, 1) := by decide +kernel
theorem d_No_sort_7 : decode b_No_sort 7 = .ok (.iconst 0, 1) := by decide +kernel
theorem d_No_sort_8 : decode b_No_sort 8 = .ok (.goto 4, 3) := by decide +kernel
theorem d_No_parentNumber_0 : decode b_No_parentNumber 0 = .ok (.aload_n 0, 1) := by decide +kernel
theorem d_No_parentNumber_1 : decode b_No_parentNumber 1 = .ok (.getfield 15, 3) := by decide +kernel
theorem d_No_parentNumber_4 : decode b_No_parentNumber 4 = .ok (.ifnonnull 7, 3) := by decide +kernel
theorem d_No_parentNumber_7 : decode b_No_parentNumber 7 = .ok (.iconst (-1), 1) := by decide +kernel
theorem d_No_parentNumber_8 : decode b_No_parentNumber 8 = .ok (.goto 10, 3) := by decide +kernel
theorem d_No_parentNumber_18 : decode b_No_parentNumber 18 = .ok (.ireturn, 1) := by decide +kernel
theorem d_No_parentNumber_11 : decode b_No_parentNumber 11 = .ok (.aload_n 0, 1) := by decide +kernel
theorem d_No_parentNumber_12 : decode b_No_parentNumber 12 = .ok (.getfield 15, 3) := by decide +kernel
theorem d_No_parentNumber_15 : decode b_No_parentNumber 15 = .ok (.getfield 9, 3) := by decide +kernel
theorem d_Di_sectorsFor_0 : decode b_Di_sectorsFor 0 = .ok (.iload_n 0, 1) := by decide +kernel
theorem d_Di_sectorsFor_1 : decode b_Di_sectorsFor 1 = .ok (.sipush 2048, 3) := by decide +kernel
theorem d_Di_sectorsFor_4 : decode b_Di_sectorsFor 4 = .ok (.idiv, 1) := by decide +kernel
theorem d_Di_sectorsFor_5 : decode b_Di_sectorsFor 5 = .ok (.iload_n 0, 1) := by decide +kernel
theorem d_Di_sectorsFor_6 : decode b_Di_sectorsFor 6 = .ok (.sipush 2048, 3) := by decide +kernel
theorem d_Di_sectorsFor_9 : decode b_Di_sectorsFor 9 = .ok (.irem, 1) := by decide +kernel
theorem d_Di_sectorsFor_10 : decode b_Di_sectorsFor 10 = .ok (.ifCond .ne 7, 3) := by decide +kernel
theorem d_Di_sectorsFor_17 : decode b_Di_sectorsFor 17 = .ok (.iconst 1, 1) := by decide +kernel
theorem d_Di_sectorsFor_18 : decode b_Di_sectorsFor 18 = .ok (.iadd, 1) := by decide +kernel
theorem d_Di_sectorsFor_19 : decode b_Di_sectorsFor 19 = .ok (.ireturn, 1) := by decide +kernel
theorem d_Di_sectorsFor_13 : decode b_Di_sectorsFor 13 = .ok (.iconst 0, 1) := by decide +kernel
theorem d_Di_sectorsFor_14 : decode b_Di_sectorsFor 14 = .ok (.goto 4, 3) := by decide +kernel
theorem d_No_overlaps_0 : decode b_No_overlaps 0 = .ok (.aload_n 0, 1) := by decide +kernel
theorem d_No_overlaps_1 : decode b_No_overlaps 1 = .ok (.getfield 42, 3) := by decide +kernel
theorem d_No_overlaps_4 : decode b_No_overlaps 4 = .ok (.aload_n 1, 1) := by decide +kernel
theorem d_No_overlaps_5 : decode b_No_overlaps 5 = .ok (.getfield 42, 3) := by decide +kernel
theorem d_No_overlaps_8 : decode b_No_overlaps 8 = .ok (.aload_n 1, 1) := by decide +kernel
theorem d_No_overlaps_9 : decode b_No_overlaps 9 = .ok (.getfield 30, 3) := by decide +kernel
theorem d_No_overlaps_12 : decode b_No_overlaps 12 = .ok (.invokestatic 60, 3) := by decide +kernel
theorem d_No_overlaps_15 : decode b_No_overlaps 15 = .ok (.iadd, 1) := by decide +kernel
theorem d_No_overlaps_16 : decode b_No_overlaps 16 = .ok (.if_icmp .ge 26, 3) := by decide +kernel
theorem d_No_overlaps_42 : decode b_No_overlaps 42 = .ok (.iconst 0, 1) := by decide +kernel
theorem d_No_overlaps_43 : decode b_No_overlaps 43 = .ok (.ireturn, 1) := by decide +kernel
theorem d_No_overlaps_19 : decode b_No_overlaps 19 = .ok (.aload_n 1, 1) := by decide +kernel
theorem d_No_overlaps_20 : decode b_No_overlaps 20 = .ok (.getfield 42, 3) := by decide +kernel
theorem d_No_overlaps_23 : decode b_No_overlaps 23 = .ok (.aload_n 0, 1) := by decide +kernel
theorem d_No_overlaps_24 : decode b_No_overlaps 24 = .ok (.getfield 42, 3) := by decide +kernel
theorem d_No_overlaps_27 : decode b_No_overlaps 27 = .ok (.aload_n 0, 1) := by decide +kernel
theorem d_No_overlaps_28 : decode b_No_overlaps 28 = .ok (.getfield 30, 3) := by decide +kernel
theorem d_No_overlaps_31 : decode b_No_overlaps 31 = .ok (.invokestatic 60, 3) := by decide +kernel
theorem d_No_overlaps_34 : decode b_No_overlaps 34 = .ok (.iadd, 1) := by decide +kernel
theorem d_No_overlaps_35 : decode b_No_overlaps 35 = .ok (.if_icmp .ge 7, 3) := by decide +kernel
theorem d_No_overlaps_38 : decode b_No_overlaps 38 = .ok (.iconst 1, 1) := by decide +kernel
theorem d_No_overlaps_39 : decode b_No_overlaps 39 = .ok (.goto 4, 3) := by decide +kernel
theorem d_No_identifierLength_0 : decode b_No_identifierLength 0 = .ok (.aload_n 0, 1) := by decide +kernel
theorem d_No_identifierLength_1 : decode b_No_identifierLength 1 = .ok (.getfield 19, 3) := by decide +kernel
theorem d_No_identifierLength_4 : decode b_No_identifierLength 4 = .ok (.ifCond .eq 10, 3) := by decide +kernel
theorem d_No_identifierLength_14 : decode b_No_identifierLength 14 = .ok (.aload_n 0, 1) := by decide +kernel
theorem d_No_identifierLength_15 : decode b_No_identifierLength 15 = .ok (.getfield 27, 3) := by decide +kernel
theorem d_No_identifierLength_18 : decode b_No_identifierLength 18 = .ok (.ldc 64, 2) := by decide +kernel
theorem d_No_identifierLength_20 : decode b_No_identifierLength 20 = .ok (.invokevirtual 66, 3) := by decide +kernel
theorem d_No_identifierLength_23 : decode b_No_identifierLength 23 = .ok (.iadd, 1) := by decide +kernel
theorem d_No_identifierLength_24 : decode b_No_identifierLength 24 = .ok (.ireturn, 1) := by decide +kernel
theorem d_No_identifierLength_7 : decode b_No_identifierLength 7 = .ok (.aload_n 0, 1) := by decide +kernel
theorem d_No_identifierLength_8 : decode b_No_identifierLength 8 = .ok (.getfield 27, 3) := by decide +kernel
theorem d_No_identifierLength_11 : decode b_No_identifierLength 11 = .ok (.goto 13, 3) := by decide +kernel
theorem d_No_identifierByte_0 : decode b_No_identifierByte 0 = .ok (.iload_n 1, 1) := by decide +kernel
theorem d_No_identifierByte_1 : decode b_No_identifierByte 1 = .ok (.aload_n 0, 1) := by decide +kernel
theorem d_No_identifierByte_2 : decode b_No_identifierByte 2 = .ok (.getfield 27, 3) := by decide +kernel
theorem d_No_identifierByte_5 : decode b_No_identifierByte 5 = .ok (.if_icmp .ge 25, 3) := by decide +kernel
theorem d_No_identifierByte_30 : decode b_No_identifierByte 30 = .ok (.iload_n 1, 1) := by decide +kernel
theorem d_No_identifierByte_31 : decode b_No_identifierByte 31 = .ok (.aload_n 0, 1) := by decide +kernel
theorem d_No_identifierByte_32 : decode b_No_identifierByte 32 = .ok (.getfield 27, 3) := by decide +kernel
theorem d_No_identifierByte_35 : decode b_No_identifierByte 35 = .ok (.isub, 1) := by decide +kernel
theorem d_No_identifierByte_36 : decode b_No_identifierByte 36 = .ok (.istore_n 2, 1) := by decide +kernel
theorem d_No_identifierByte_37 : decode b_No_identifierByte 37 = .ok (.iload_n 2, 1) := by decide +kernel
theorem d_No_identifierByte_38 : decode b_No_identifierByte 38 = .ok (.ldc 64, 2) := by decide +kernel
theorem d_No_identifierByte_40 : decode b_No_identifierByte 40 = .ok (.invokevirtual 66, 3) := by decide +kernel
theorem d_No_identifierByte_43 : decode b_No_identifierByte 43 = .ok (.if_icmp .ge 12, 3) := by decide +kernel
theorem d_No_identifierByte_55 : decode b_No_identifierByte 55 = .ok (.iconst 0, 1) := by decide +kernel
theorem d_No_identifierByte_56 : decode b_No_identifierByte 56 = .ok (.ireturn, 1) := by decide +kernel
theorem d_No_identifierByte_46 : decode b_No_identifierByte 46 = .ok (.ldc 64, 2) := by decide +kernel
theorem d_No_identifierByte_48 : decode b_No_identifierByte 48 = .ok (.iload_n 2, 1) := by decide +kernel
theorem d_No_identifierByte_49 : decode b_No_identifierByte 49 = .ok (.invokevirtual 72, 3) := by decide +kernel
theorem d_No_identifierByte_52 : decode b_No_identifierByte 52 = .ok (.goto 4, 3) := by decide +kernel
theorem d_No_identifierByte_8 : decode b_No_identifierByte 8 = .ok (.aload_n 0, 1) := by decide +kernel
theorem d_No_identifierByte_9 : decode b_No_identifierByte 9 = .ok (.getfield 23, 3) := by decide +kernel
theorem d_No_identifierByte_12 : decode b_No_identifierByte 12 = .ok (.bipush 8, 2) := by decide +kernel
theorem d_No_identifierByte_14 : decode b_No_identifierByte 14 = .ok (.aload_n 0, 1) := by decide +kernel
theorem d_No_identifierByte_15 : decode b_No_identifierByte 15 = .ok (.getfield 27, 3) := by decide +kernel
theorem d_No_identifierByte_18 : decode b_No_identifierByte 18 = .ok (.iconst 1, 1) := by decide +kernel
theorem d_No_identifierByte_19 : decode b_No_identifierByte 19 = .ok (.isub, 1) := by decide +kernel
theorem d_No_identifierByte_20 : decode b_No_identifierByte 20 = .ok (.iload_n 1, 1) := by decide +kernel
theorem d_No_identifierByte_21 : decode b_No_identifierByte 21 = .ok (.isub, 1) := by decide +kernel
theorem d_No_identifierByte_22 : decode b_No_identifierByte 22 = .ok (.imul, 1) := by decide +kernel
theorem d_No_identifierByte_23 : decode b_No_identifierByte 23 = .ok (.lushr, 1) := by decide +kernel
theorem d_No_identifierByte_24 : decode b_No_identifierByte 24 = .ok (.l2i, 1) := by decide +kernel
theorem d_No_identifierByte_25 : decode b_No_identifierByte 25 = .ok (.sipush 255, 3) := by decide +kernel
theorem d_No_identifierByte_28 : decode b_No_identifierByte 28 = .ok (.iand, 1) := by decide +kernel
theorem d_No_identifierByte_29 : decode b_No_identifierByte 29 = .ok (.ireturn, 1) := by decide +kernel
theorem d_No_comesBefore_0 : decode b_No_comesBefore 0 = .ok (.aload_n 0, 1) := by decide +kernel
theorem d_No_comesBefore_1 : decode b_No_comesBefore 1 = .ok (.invokevirtual 76, 3) := by decide +kernel
theorem d_No_comesBefore_4 : decode b_No_comesBefore 4 = .ok (.istore_n 2, 1) := by decide +kernel
theorem d_No_comesBefore_5 : decode b_No_comesBefore 5 = .ok (.aload_n 1, 1) := by decide +kernel
theorem d_No_comesBefore_6 : decode b_No_comesBefore 6 = .ok (.invokevirtual 76, 3) := by decide +kernel
theorem d_No_comesBefore_9 : decode b_No_comesBefore 9 = .ok (.istore_n 3, 1) := by decide +kernel
theorem d_No_comesBefore_10 : decode b_No_comesBefore 10 = .ok (.iconst 0, 1) := by decide +kernel
theorem d_No_comesBefore_11 : decode b_No_comesBefore 11 = .ok (.istore 4, 2) := by decide +kernel
theorem d_No_comesBefore_13 : decode b_No_comesBefore 13 = .ok (.iload 4, 2) := by decide +kernel
theorem d_No_comesBefore_15 : decode b_No_comesBefore 15 = .ok (.iload_n 2, 1) := by decide +kernel
theorem d_No_comesBefore_16 : decode b_No_comesBefore 16 = .ok (.if_icmp .ge 46, 3) := by decide +kernel
theorem d_No_comesBefore_62 : decode b_No_comesBefore 62 = .ok (.iload_n 2, 1) := by decide +kernel
theorem d_No_comesBefore_63 : decode b_No_comesBefore 63 = .ok (.iload_n 3, 1) := by decide +kernel
theorem d_No_comesBefore_64 : decode b_No_comesBefore 64 = .ok (.if_icmp .ge 7, 3) := by decide +kernel
theorem d_No_comesBefore_71 : decode b_No_comesBefore 71 = .ok (.iconst 0, 1) := by decide +kernel
theorem d_No_comesBefore_72 : decode b_No_comesBefore 72 = .ok (.ireturn, 1) := by decide +kernel
theorem d_No_comesBefore_67 : decode b_No_comesBefore 67 = .ok (.iconst 1, 1) := by decide +kernel
theorem d_No_comesBefore_68 : decode b_No_comesBefore 68 = .ok (.goto 4, 3) := by decide +kernel
theorem d_No_comesBefore_19 : decode b_No_comesBefore 19 = .ok (.iload 4, 2) := by decide +kernel
theorem d_No_comesBefore_21 : decode b_No_comesBefore 21 = .ok (.iload_n 3, 1) := by decide +kernel
theorem d_No_comesBefore_22 : decode b_No_comesBefore 22 = .ok (.if_icmp .ge 40, 3) := by decide +kernel
theorem d_No_comesBefore_25 : decode b_No_comesBefore 25 = .ok (.aload_n 0, 1) := by decide +kernel
theorem d_No_comesBefore_26 : decode b_No_comesBefore 26 = .ok (.iload 4, 2) := by decide +kernel
theorem d_No_comesBefore_28 : decode b_No_comesBefore 28 = .ok (.invokevirtual 79, 3) := by decide +kernel
theorem d_No_comesBefore_31 : decode b_No_comesBefore 31 = .ok (.aload_n 1, 1) := by decide +kernel
theorem d_No_comesBefore_32 : decode b_No_comesBefore 32 = .ok (.iload 4, 2) := by decide +kernel
theorem d_No_comesBefore_34 : decode b_No_comesBefore 34 = .ok (.invokevirtual 79, 3) := by decide +kernel
theorem d_No_comesBefore_37 : decode b_No_comesBefore 37 = .ok (.isub, 1) := by decide +kernel
theorem d_No_comesBefore_38 : decode b_No_comesBefore 38 = .ok (.istore 5, 2) := by decide +kernel
theorem d_No_comesBefore_40 : decode b_No_comesBefore 40 = .ok (.iload 5, 2) := by decide +kernel
theorem d_No_comesBefore_42 : decode b_No_comesBefore 42 = .ok (.ifCond .eq 14, 3) := by decide +kernel
theorem d_No_comesBefore_56 : decode b_No_comesBefore 56 = .ok (.iinc 4 1, 3) := by decide +kernel
theorem d_No_comesBefore_59 : decode b_No_comesBefore 59 = .ok (.goto (-46), 3) := by decide +kernel
theorem d_No_comesBefore_45 : decode b_No_comesBefore 45 = .ok (.iload 5, 2) := by decide +kernel
theorem d_No_comesBefore_47 : decode b_No_comesBefore 47 = .ok (.ifCond .ge 7, 3) := by decide +kernel
theorem d_No_comesBefore_54 : decode b_No_comesBefore 54 = .ok (.iconst 0, 1) := by decide +kernel
theorem d_No_comesBefore_55 : decode b_No_comesBefore 55 = .ok (.ireturn, 1) := by decide +kernel
theorem d_No_comesBefore_50 : decode b_No_comesBefore 50 = .ok (.iconst 1, 1) := by decide +kernel
theorem d_No_comesBefore_51 : decode b_No_comesBefore 51 = .ok (.goto 4, 3) := by decide +kernel
set_option maxHeartbeats 4000000 in
set_option maxRecDepth 100000 in
theorem t_content (l : Launch) (D : va_G) (t : Nat → ClassId) (G : hG) (ak av : Nat → Nat) (h : hM) (τ : tM) (n f : Nat) (d9 : Nat) (i8 : Int32) (hn : n ≤ 200) (hT : TI τ t n h) (T_d9 : τ d9 = (10, f)) : Met l y_No_contentByte (.code y_No_contentByte b_No_contentByte 2 (some .int) :: lw_g) { frames := 0, cells := 0, slots := 0, locals := 0 } (hP (kE D t G ak av) D vwCl G h [.ref d9, .int i8]) (hQi D vwCl G (fun r h' => h = h')) 0 0 nof := by
  refine Met.ofW (cc := b_No_contentByte) (maxL := 2) (ret := (some .int)) (by decide) rfl ?_
  intro p e s m args below meth c s₁ Bd hml hv
  obtain ⟨ha, hE, hH⟩ := hv
  have hx := Bd.exec
  have hb := Bd.bytes
  have hr := Bd.returns
  have hts : ∀ w ∈ lw_g, w.before args s = true := fun w hw => atoms_spec (ws := (.code y_No_contentByte b_No_contentByte 2 (some .int) :: lw_g)) Bd.pre w (List.mem_cons_of_mem _ hw)
  have hown : s.vm.findClass R_No = some m.cls := findClass_of_methodNamed Bd.named
  have hlocks := Bd.notSynchronized
  have hK := hE.1
  have hH0 := hH
  have hLo : hLc nof [] := hLc_nil
  have hz : s.heap.size ≤ s.heap.size := Nat.le_refl _
  have hl := lv_entry [.ref d9, .int i8] (n := 2) (Nat.le_of_ble_eq_true rfl)
  rw [show entryFrame m args 2 = F0 m 0 ((lg_sl [.ref d9, .int i8] ++ List.replicate (2 - (lg_sl [.ref d9, .int i8]).length) Slot.unset).toArray) [] from (by rw [ha]; exact lg_entry_eq m [.ref d9, .int i8] 2)]
  generalize (lg_sl [.ref d9, .int i8] ++ List.replicate (2 - (lg_sl [.ref d9, .int i8]).length) Slot.unset).toArray = ls at hl ⊢
  have hl : lv_has ls 2 [(0, .ref d9), (1, .int i8)] := hl
  refine lv_aload_n hx hb d_No_contentByte_0 rfl (lv_at hl 0 rfl) ?_
  obtain ⟨v_1, v_2, v_4, v_6, v_7, v_9, v_10, v_11, v_13, v_14, v_15, F_d9, c_3, c_5, c_8, c_12⟩ := TI_node hT T_d9
  refine hm_get (ci := 1) (v := .int v_10) (C := R_No) (T := F_No) (N := 11) hx hb hts ig_No hown hK hH F_d9 rfl 6 (by decide) (hts _ mw_93) (fun _ h9 => h9) rfl d_No_contentByte_1 ?_
  refine lv_iconst (v := 3) hx hb d_No_contentByte_4 (by decide) ?_
  refine lv_iload_n hx hb d_No_contentByte_5 rfl (lv_at hl 1 rfl) ?_
  refine lv_imul hx hb d_No_contentByte_6 ?_
  refine lv_iadd hx hb d_No_contentByte_7 ?_
  refine lv_iload_n hx hb d_No_contentByte_8 rfl (lv_at hl 1 rfl) ?_
  refine lv_sipush (v := 128) hx hb d_No_contentByte_9 (by decide) ?_
  refine lv_idiv hx hb d_No_contentByte_12 (by decide) ?_
  refine lv_topi (fun v_16 e_17 => ?_)
  have id_18 : 0 ≤ i8.toInt → v_16.toInt = i8.toInt / 128 := fun h9 => by rw [e_17]; exact i_div (d := 128) (by decide) h9
  refine lv_iadd hx hb d_No_contentByte_13 ?_
  exact W.iret (v := (v_10 + (3 * i8)) + v_16) hx hb hr (fun t9 ht hW => ⟨(v_10 + (3 * i8)) + v_16, h, rfl, rfl, by rw [ht]; exact hH, by rw [ht]; exact hz⟩) hLo d_No_contentByte_14

set_option maxHeartbeats 4000000 in
set_option maxRecDepth 100000 in
theorem t_needs (l : Launch) (D : va_G) (t : Nat → ClassId) (G : hG) (ak av : Nat → Nat) (h : hM) (τ : tM) (n f : Nat) (d9 : Nat) (hn : n ≤ 200) (hT : TI τ t n h) (T_d9 : τ d9 = (10, f)) : Met l y_No_needsSectors (.code y_No_needsSectors b_No_needsSectors 1 (some .boolean) :: lw_g) { frames := 0, cells := 0, slots := 0, locals := 0 } (hP (kE D t G ak av) D vwCl G h [.ref d9]) (hQi D vwCl G (fun r h' => zb r ∧ h = h')) 0 0 nof := by
  refine Met.ofW (cc := b_No_needsSectors) (maxL := 1) (ret := (some .boolean)) (by decide) rfl ?_
  intro p e s m args below meth c s₁ Bd hml hv
  obtain ⟨ha, hE, hH⟩ := hv
  have hx := Bd.exec
  have hb := Bd.bytes
  have hr := Bd.returns
  have hts : ∀ w ∈ lw_g, w.before args s = true := fun w hw => atoms_spec (ws := (.code y_No_needsSectors b_No_needsSectors 1 (some .boolean) :: lw_g)) Bd.pre w (List.mem_cons_of_mem _ hw)
  have hown : s.vm.findClass R_No = some m.cls := findClass_of_methodNamed Bd.named
  have hlocks := Bd.notSynchronized
  have hK := hE.1
  have hH0 := hH
  have hLo : hLc nof [] := hLc_nil
  have hz : s.heap.size ≤ s.heap.size := Nat.le_refl _
  have hl := lv_entry [.ref d9] (n := 1) (Nat.le_of_ble_eq_true rfl)
  rw [show entryFrame m args 1 = F0 m 0 ((lg_sl [.ref d9] ++ List.replicate (1 - (lg_sl [.ref d9]).length) Slot.unset).toArray) [] from (by rw [ha]; exact lg_entry_eq m [.ref d9] 1)]
  generalize (lg_sl [.ref d9] ++ List.replicate (1 - (lg_sl [.ref d9]).length) Slot.unset).toArray = ls at hl ⊢
  have hl : lv_has ls 1 [(0, .ref d9)] := hl
  refine lv_aload_n hx hb d_No_needsSectors_0 rfl (lv_at hl 0 rfl) ?_
  obtain ⟨v_1, v_2, v_4, v_6, v_7, v_9, v_10, v_11, v_13, v_14, v_15, F_d9, c_3, c_5, c_8, c_12⟩ := TI_node hT T_d9
  refine hm_get (ci := 1) (v := .int v_4) (C := R_No) (T := F_No) (N := 11) hx hb hts ig_No hown hK hH F_d9 rfl 2 (by decide) (hts _ mw_94) (fun _ h9 => h9) rfl d_No_needsSectors_1 ?_
  refine lv_if_ne (tgt := 18) hx hb d_No_needsSectors_4 (by decide) (fun hc_16 => ?_) (fun hc_16 => ?_)
  · skip
    refine lv_iconst (v := 0) hx hb d_No_needsSectors_18 (by decide) ?_
    exact W.zret (v := 0) hx hb hr (by decide) (fun t9 ht hW => ⟨0, h, rfl, ⟨zb0, rfl⟩, by rw [ht]; exact hH, by rw [ht]; exact hz⟩) hLo d_No_needsSectors_19
  · skip
    have ic_17 : v_4.toInt = 0 := congrArg Int32.toInt hc_16
    refine lv_aload_n hx hb d_No_needsSectors_7 rfl (lv_at hl 0 rfl) ?_
    refine hm_get (ci := 1) (v := .int v_9) (C := R_No) (T := F_No) (N := 11) hx hb hts ig_No hown hK hH F_d9 rfl 5 (by decide) (hts _ mw_95) (fun _ h9 => h9) rfl d_No_needsSectors_8 ?_
    refine lv_if_le (tgt := 18) hx hb d_No_needsSectors_11 (by decide) (fun hc_18 => ?_) (fun hc_18 => ?_)
    · skip
      have ic_19 : v_9.toInt ≤ 0 := iLe hc_18
      refine lv_iconst (v := 0) hx hb d_No_needsSectors_18 (by decide) ?_
      exact W.zret (v := 0) hx hb hr (by decide) (fun t9 ht hW => ⟨0, h, rfl, ⟨zb0, rfl⟩, by rw [ht]; exact hH, by rw [ht]; exact hz⟩) hLo d_No_needsSectors_19
    · skip
      have ic_20 : 0 < v_9.toInt := iNe hc_18
      have iu_21 : v_9.toInt < 2147483648 := iUp _
      refine lv_iconst (v := 1) hx hb d_No_needsSectors_14 (by decide) ?_
      refine lv_goto (tgt := 19) hx hb d_No_needsSectors_15 (by decide) ?_
      exact W.zret (v := 1) hx hb hr (by decide) (fun t9 ht hW => ⟨1, h, rfl, ⟨zb1, rfl⟩, by rw [ht]; exact hH, by rw [ht]; exact hz⟩) hLo d_No_needsSectors_19

set_option maxHeartbeats 4000000 in
set_option maxRecDepth 100000 in
theorem t_sort (l : Launch) (D : va_G) (t : Nat → ClassId) (G : hG) (ak av : Nat → Nat) (h : hM) (τ : tM) (n f : Nat) (d9 : Nat) (hn : n ≤ 200) (hT : TI τ t n h) (T_d9 : τ d9 = (10, f)) : Met l y_No_sort (.code y_No_sort b_No_sort 1 (some .int) :: lw_g) { frames := 0, cells := 0, slots := 0, locals := 0 } (hP (kE D t G ak av) D vwCl G h [.ref d9]) (hQi D vwCl G (fun r h' => h = h')) 0 0 nof := by
  refine Met.ofW (cc := b_No_sort) (maxL := 1) (ret := (some .int)) (by decide) rfl ?_
  intro p e s m args below meth c s₁ Bd hml hv
  obtain ⟨ha, hE, hH⟩ := hv
  have hx := Bd.exec
  have hb := Bd.bytes
  have hr := Bd.returns
  have hts : ∀ w ∈ lw_g, w.before args s = true := fun w hw => atoms_spec (ws := (.code y_No_sort b_No_sort 1 (some .int) :: lw_g)) Bd.pre w (List.mem_cons_of_mem _ hw)
  have hown : s.vm.findClass R_No = some m.cls := findClass_of_methodNamed Bd.named
  have hlocks := Bd.notSynchronized
  have hK := hE.1
  have hH0 := hH
  have hLo : hLc nof [] := hLc_nil
  have hz : s.heap.size ≤ s.heap.size := Nat.le_refl _
  have hl := lv_entry [.ref d9] (n := 1) (Nat.le_of_ble_eq_true rfl)
  rw [show entryFrame m args 1 = F0 m 0 ((lg_sl [.ref d9] ++ List.replicate (1 - (lg_sl [.ref d9]).length) Slot.unset).toArray) [] from (by rw [ha]; exact lg_entry_eq m [.ref d9] 1)]
  generalize (lg_sl [.ref d9] ++ List.replicate (1 - (lg_sl [.ref d9]).length) Slot.unset).toArray = ls at hl ⊢
  have hl : lv_has ls 1 [(0, .ref d9)] := hl
  refine lv_aload_n hx hb d_No_sort_0 rfl (lv_at hl 0 rfl) ?_
  obtain ⟨v_1, v_2, v_4, v_6, v_7, v_9, v_10, v_11, v_13, v_14, v_15, F_d9, c_3, c_5, c_8, c_12⟩ := TI_node hT T_d9
  refine hm_get (ci := 1) (v := .int v_4) (C := R_No) (T := F_No) (N := 11) hx hb hts ig_No hown hK hH F_d9 rfl 2 (by decide) (hts _ mw_94) (fun _ h9 => h9) rfl d_No_sort_1 ?_
  refine lv_if_eq (tgt := 11) hx hb d_No_sort_4 (by decide) (fun hc_16 => ?_) (fun hc_16 => ?_)
  · skip
    have ic_17 : v_4.toInt = 0 := congrArg Int32.toInt hc_16
    refine lv_iconst (v := 1) hx hb d_No_sort_11 (by decide) ?_
    exact W.iret (v := 1) hx hb hr (fun t9 ht hW => ⟨1, h, rfl, rfl, by rw [ht]; exact hH, by rw [ht]; exact hz⟩) hLo d_No_sort_12
  · skip
    refine lv_iconst (v := 0) hx hb d_No_sort_7 (by decide) ?_
    refine lv_goto (tgt := 12) hx hb d_No_sort_8 (by decide) ?_
    exact W.iret (v := 0) hx hb hr (fun t9 ht hW => ⟨0, h, rfl, rfl, by rw [ht]; exact hH, by rw [ht]; exact hz⟩) hLo d_No_sort_12

set_option maxHeartbeats 4000000 in
set_option maxRecDepth 100000 in
theorem t_parNo (l : Launch) (D : va_G) (t : Nat → ClassId) (G : hG) (ak av : Nat → Nat) (h : hM) (τ : tM) (n f : Nat) (d9 : Nat) (hn : n ≤ 200) (hT : TI τ t n h) (T_d9 : τ d9 = (10, f)) : Met l y_No_parentNumber (.code y_No_parentNumber b_No_parentNumber 1 (some .int) :: lw_g) { frames := 0, cells := 0, slots := 0, locals := 0 } (hP (kE D t G ak av) D vwCl G h [.ref d9]) (hQi D vwCl G (fun r h' => h = h')) 0 0 nof := by
  refine Met.ofW (cc := b_No_parentNumber) (maxL := 1) (ret := (some .int)) (by decide) rfl ?_
  intro p e s m args below meth c s₁ Bd hml hv
  obtain ⟨ha, hE, hH⟩ := hv
  have hx := Bd.exec
  have hb := Bd.bytes
  have hr := Bd.returns
  have hts : ∀ w ∈ lw_g, w.before args s = true := fun w hw => atoms_spec (ws := (.code y_No_parentNumber b_No_parentNumber 1 (some .int) :: lw_g)) Bd.pre w (List.mem_cons_of_mem _ hw)
  have hown : s.vm.findClass R_No = some m.cls := findClass_of_methodNamed Bd.named
  have hlocks := Bd.notSynchronized
  have hK := hE.1
  have hH0 := hH
  have hLo : hLc nof [] := hLc_nil
  have hz : s.heap.size ≤ s.heap.size := Nat.le_refl _
  have hl := lv_entry [.ref d9] (n := 1) (Nat.le_of_ble_eq_true rfl)
  rw [show entryFrame m args 1 = F0 m 0 ((lg_sl [.ref d9] ++ List.replicate (1 - (lg_sl [.ref d9]).length) Slot.unset).toArray) [] from (by rw [ha]; exact lg_entry_eq m [.ref d9] 1)]
  generalize (lg_sl [.ref d9] ++ List.replicate (1 - (lg_sl [.ref d9]).length) Slot.unset).toArray = ls at hl ⊢
  have hl : lv_has ls 1 [(0, .ref d9)] := hl
  refine lv_aload_n hx hb d_No_parentNumber_0 rfl (lv_at hl 0 rfl) ?_
  obtain ⟨v_1, v_2, v_4, v_6, v_7, v_9, v_10, v_11, v_13, v_14, v_15, F_d9, c_3, c_5, c_8, c_12⟩ := TI_node hT T_d9
  refine hm_get (ci := 1) (v := va_rf v_2) (C := R_No) (T := F_No) (N := 11) hx hb hts ig_No hown hK hH F_d9 rfl 1 (by decide) (hts _ mw_96) (fun _ h9 => h9) rfl d_No_parentNumber_1 ?_
  rcases v_2 with _ | q_16
  · skip
    refine lv_ifnonnullN hx hb d_No_parentNumber_4 ?_
    refine lv_iconst (v := -1) hx hb d_No_parentNumber_7 (by decide) ?_
    refine lv_goto (tgt := 18) hx hb d_No_parentNumber_8 (by decide) ?_
    exact W.iret (v := (-1)) hx hb hr (fun t9 ht hW => ⟨(-1), h, rfl, rfl, by rw [ht]; exact hH, by rw [ht]; exact hz⟩) hLo d_No_parentNumber_18
  · skip
    have T_17 := c_3 q_16 rfl
    refine lv_ifnonnull (tgt := 11) hx hb d_No_parentNumber_4 (by decide) ?_
    refine lv_aload_n hx hb d_No_parentNumber_11 rfl (lv_at hl 0 rfl) ?_
    refine hm_get (ci := 1) (v := .ref q_16) (C := R_No) (T := F_No) (N := 11) hx hb hts ig_No hown hK hH F_d9 rfl 1 (by decide) (hts _ mw_96) (fun _ h9 => h9) rfl d_No_parentNumber_12 ?_
    obtain ⟨v_18, v_19, v_21, v_23, v_24, v_26, v_27, v_28, v_30, v_31, v_32, F_q_16, c_20, c_22, c_25, c_29⟩ := TI_node hT T_17
    refine hm_get (ci := 1) (v := .int v_18) (C := R_No) (T := F_No) (N := 11) hx hb hts ig_No hown hK hH F_q_16 rfl 0 (by decide) (hts _ mw_97) (fun _ h9 => h9) rfl d_No_parentNumber_15 ?_
    exact W.iret (v := v_18) hx hb hr (fun t9 ht hW => ⟨v_18, h, rfl, rfl, by rw [ht]; exact hH, by rw [ht]; exact hz⟩) hLo d_No_parentNumber_18

set_option maxHeartbeats 4000000 in
set_option maxRecDepth 100000 in
theorem t_secFor (l : Launch) (D : va_G) (t : Nat → ClassId) (G : hG) (ak av : Nat → Nat) (h : hM) (τ : tM) (n : Nat) (x9 : Int32) (hn : n ≤ 200) (hT : TI τ t n h) : Met l y_Di_sectorsFor (.code y_Di_sectorsFor b_Di_sectorsFor 1 (some .int) :: lw_g) { frames := 0, cells := 0, slots := 0, locals := 0 } (hP (kE D t G ak av) D vwCl G h [.int x9]) (hQi D vwCl G (fun r h' => h = h')) 0 0 nof := by
  refine Met.ofW (cc := b_Di_sectorsFor) (maxL := 1) (ret := (some .int)) (by decide) rfl ?_
  intro p e s m args below meth c s₁ Bd hml hv
  obtain ⟨ha, hE, hH⟩ := hv
  have hx := Bd.exec
  have hb := Bd.bytes
  have hr := Bd.returns
  have hts : ∀ w ∈ lw_g, w.before args s = true := fun w hw => atoms_spec (ws := (.code y_Di_sectorsFor b_Di_sectorsFor 1 (some .int) :: lw_g)) Bd.pre w (List.mem_cons_of_mem _ hw)
  have hown : s.vm.findClass R_Di = some m.cls := findClass_of_methodNamed Bd.named
  have hlocks := Bd.notSynchronized
  have hK := hE.1
  have hH0 := hH
  have hLo : hLc nof [] := hLc_nil
  have hz : s.heap.size ≤ s.heap.size := Nat.le_refl _
  have hl := lv_entry [.int x9] (n := 1) (Nat.le_of_ble_eq_true rfl)
  rw [show entryFrame m args 1 = F0 m 0 ((lg_sl [.int x9] ++ List.replicate (1 - (lg_sl [.int x9]).length) Slot.unset).toArray) [] from (by rw [ha]; exact lg_entry_eq m [.int x9] 1)]
  generalize (lg_sl [.int x9] ++ List.replicate (1 - (lg_sl [.int x9]).length) Slot.unset).toArray = ls at hl ⊢
  have hl : lv_has ls 1 [(0, .int x9)] := hl
  refine lv_iload_n hx hb d_Di_sectorsFor_0 rfl (lv_at hl 0 rfl) ?_
  refine lv_sipush (v := 2048) hx hb d_Di_sectorsFor_1 (by decide) ?_
  refine lv_idiv hx hb d_Di_sectorsFor_4 (by decide) ?_
  refine lv_topi (fun v_1 e_2 => ?_)
  have id_3 : 0 ≤ x9.toInt → v_1.toInt = x9.toInt / 2048 := fun h9 => by rw [e_2]; exact i_div (d := 2048) (by decide) h9
  refine lv_iload_n hx hb d_Di_sectorsFor_5 rfl (lv_at hl 0 rfl) ?_
  refine lv_sipush (v := 2048) hx hb d_Di_sectorsFor_6 (by decide) ?_
  refine lv_irem hx hb d_Di_sectorsFor_9 (by decide) ?_
  refine lv_topi (fun v_4 e_5 => ?_)
  have id_6 : 0 ≤ x9.toInt → v_4.toInt = x9.toInt % 2048 := fun h9 => by rw [e_5]; exact i_mod (d := 2048) (by decide) h9
  refine lv_if_ne (tgt := 17) hx hb d_Di_sectorsFor_10 (by decide) (fun hc_7 => ?_) (fun hc_7 => ?_)
  · skip
    refine lv_iconst (v := 1) hx hb d_Di_sectorsFor_17 (by decide) ?_
    refine lv_iadd hx hb d_Di_sectorsFor_18 ?_
    exact W.iret (v := v_1 + 1) hx hb hr (fun t9 ht hW => ⟨v_1 + 1, h, rfl, rfl, by rw [ht]; exact hH, by rw [ht]; exact hz⟩) hLo d_Di_sectorsFor_19
  · skip
    have ic_8 : v_4.toInt = 0 := congrArg Int32.toInt hc_7
    refine lv_iconst (v := 0) hx hb d_Di_sectorsFor_13 (by decide) ?_
    refine lv_goto (tgt := 18) hx hb d_Di_sectorsFor_14 (by decide) ?_
    refine lv_iadd hx hb d_Di_sectorsFor_18 ?_
    exact W.iret (v := v_1 + 0) hx hb hr (fun t9 ht hW => ⟨v_1 + 0, h, rfl, rfl, by rw [ht]; exact hH, by rw [ht]; exact hz⟩) hLo d_Di_sectorsFor_19

set_option maxHeartbeats 4000000 in
set_option maxRecDepth 100000 in
theorem t_overlaps (l : Launch) (D : va_G) (t : Nat → ClassId) (G : hG) (ak av : Nat → Nat) (h : hM) (τ : tM) (n f g : Nat) (d9 : Nat) (e9 : Nat) (hn : n ≤ 200) (hT : TI τ t n h) (T_d9 : τ d9 = (10, f)) (T_e9 : τ e9 = (10, g)) : Met l y_No_overlaps (.code y_No_overlaps b_No_overlaps 2 (some .boolean) :: lw_g) { frames := 1, cells := 0, slots := 0, locals := 20 } (hP (kE D t G ak av) D vwCl G h [.ref d9, .ref e9]) (hQi D vwCl G (fun r h' => zb r ∧ h = h')) 0 0 nof := by
  refine Met.ofW (cc := b_No_overlaps) (maxL := 2) (ret := (some .boolean)) (by decide) rfl ?_
  intro p e s m args below meth c s₁ Bd hml hv
  obtain ⟨ha, hE, hH⟩ := hv
  have hx := Bd.exec
  have hb := Bd.bytes
  have hr := Bd.returns
  have hts : ∀ w ∈ lw_g, w.before args s = true := fun w hw => atoms_spec (ws := (.code y_No_overlaps b_No_overlaps 2 (some .boolean) :: lw_g)) Bd.pre w (List.mem_cons_of_mem _ hw)
  have hown : s.vm.findClass R_No = some m.cls := findClass_of_methodNamed Bd.named
  have hlocks := Bd.notSynchronized
  have hK := hE.1
  have hH0 := hH
  have hLo : hLc nof [] := hLc_nil
  have hz : s.heap.size ≤ s.heap.size := Nat.le_refl _
  have hl := lv_entry [.ref d9, .ref e9] (n := 2) (Nat.le_of_ble_eq_true rfl)
  rw [show entryFrame m args 2 = F0 m 0 ((lg_sl [.ref d9, .ref e9] ++ List.replicate (2 - (lg_sl [.ref d9, .ref e9]).length) Slot.unset).toArray) [] from (by rw [ha]; exact lg_entry_eq m [.ref d9, .ref e9] 2)]
  generalize (lg_sl [.ref d9, .ref e9] ++ List.replicate (2 - (lg_sl [.ref d9, .ref e9]).length) Slot.unset).toArray = ls at hl ⊢
  have hl : lv_has ls 2 [(0, .ref d9), (1, .ref e9)] := hl
  refine lv_aload_n hx hb d_No_overlaps_0 rfl (lv_at hl 0 rfl) ?_
  obtain ⟨v_1, v_2, v_4, v_6, v_7, v_9, v_10, v_11, v_13, v_14, v_15, F_d9, c_3, c_5, c_8, c_12⟩ := TI_node hT T_d9
  refine hm_get (ci := 1) (v := .int v_14) (C := R_No) (T := F_No) (N := 11) hx hb hts ig_No hown hK hH F_d9 rfl 9 (by decide) (hts _ mw_98) (fun _ h9 => h9) rfl d_No_overlaps_1 ?_
  refine lv_aload_n hx hb d_No_overlaps_4 rfl (lv_at hl 1 rfl) ?_
  obtain ⟨v_16, v_17, v_19, v_21, v_22, v_24, v_25, v_26, v_28, v_29, v_30, F_e9, c_18, c_20, c_23, c_27⟩ := TI_node hT T_e9
  refine hm_get (ci := 1) (v := .int v_29) (C := R_No) (T := F_No) (N := 11) hx hb hts ig_No hown hK hH F_e9 rfl 9 (by decide) (hts _ mw_98) (fun _ h9 => h9) rfl d_No_overlaps_5 ?_
  refine lv_aload_n hx hb d_No_overlaps_8 rfl (lv_at hl 1 rfl) ?_
  refine hm_get (ci := 1) (v := .int v_24) (C := R_No) (T := F_No) (N := 11) hx hb hts ig_No hown hK hH F_e9 rfl 5 (by decide) (hts _ mw_95) (fun _ h9 => h9) rfl d_No_overlaps_9 ?_
  refine hm_callPi (va_runSN (As := [.int v_24]) (rest := [.int v_29, .int v_14]) ⟨hx, hb, hml, hown, hts⟩ (t_secFor l D t G ak av h τ n v_24  hn hT ) ⟨cw9N 1 hts mw_99 (nmU hE nM_11) mw_25 rfl rfl (by decide +kernel) ⟨Nat.le_of_ble_eq_true rfl, Nat.le_of_ble_eq_true rfl⟩, hts _ mw_100, trivial⟩ (hP_S kE_ok hE hH) rfl rfl hl.1 rfl (lv_room (Nat.le_of_ble_eq_true rfl)) d_No_overlaps_12 ⟨Nat.le_of_ble_eq_true rfl, Nat.le_of_ble_eq_true rfl⟩) (fun r_31 h_32 H_33 hp_35  hH z_34 => ?_)
  have hz : s.heap.size ≤ H_33.size := Nat.le_trans hz z_34
  obtain rfl := hp_35
  refine lv_iadd hx hb d_No_overlaps_15 ?_
  refine lv_icmp_ge (tgt := 42) hx hb d_No_overlaps_16 (by decide) (fun hc_37 => ?_) (fun hc_37 => ?_)
  · skip
    have ic_38 : (v_29 + r_31).toInt ≤ v_14.toInt := iLe hc_37
    refine lv_iconst (v := 0) hx hb d_No_overlaps_42 (by decide) ?_
    exact W.zret (v := 0) hx hb hr (by decide) (fun t9 ht hW => ⟨0, h, rfl, ⟨zb0, rfl⟩, by rw [ht]; exact hH, by rw [ht]; exact hz⟩) hLo d_No_overlaps_43
  · skip
    have ic_39 : v_14.toInt < (v_29 + r_31).toInt := iNe hc_37
    have iu_40 : (v_29 + r_31).toInt < 2147483648 := iUp _
    refine lv_aload_n hx hb d_No_overlaps_19 rfl (lv_at hl 1 rfl) ?_
    refine hm_get (ci := 1) (v := .int v_29) (C := R_No) (T := F_No) (N := 11) hx hb hts ig_No hown hK hH F_e9 rfl 9 (by decide) (hts _ mw_98) (fun _ h9 => h9) rfl d_No_overlaps_20 ?_
    refine lv_aload_n hx hb d_No_overlaps_23 rfl (lv_at hl 0 rfl) ?_
    refine hm_get (ci := 1) (v := .int v_14) (C := R_No) (T := F_No) (N := 11) hx hb hts ig_No hown hK hH F_d9 rfl 9 (by decide) (hts _ mw_98) (fun _ h9 => h9) rfl d_No_overlaps_24 ?_
    refine lv_aload_n hx hb d_No_overlaps_27 rfl (lv_at hl 0 rfl) ?_
    refine hm_get (ci := 1) (v := .int v_9) (C := R_No) (T := F_No) (N := 11) hx hb hts ig_No hown hK hH F_d9 rfl 5 (by decide) (hts _ mw_95) (fun _ h9 => h9) rfl d_No_overlaps_28 ?_
    refine hm_callPi (va_runSN (As := [.int v_9]) (rest := [.int v_14, .int v_29]) ⟨hx, hb, hml, hown, hts⟩ (t_secFor l D t G ak av h τ n v_9  hn hT ) ⟨cw9N 1 hts mw_99 (nmU hE nM_11) mw_25 rfl rfl (by decide +kernel) ⟨Nat.le_of_ble_eq_true rfl, Nat.le_of_ble_eq_true rfl⟩, hts _ mw_100, trivial⟩ (hP_S kE_ok hE hH) rfl rfl hl.1 rfl (lv_room (Nat.le_of_ble_eq_true rfl)) d_No_overlaps_31 ⟨Nat.le_of_ble_eq_true rfl, Nat.le_of_ble_eq_true rfl⟩) (fun r_41 h_42 H_43 hp_45  hH z_44 => ?_)
    have hz : s.heap.size ≤ H_43.size := Nat.le_trans hz z_44
    obtain rfl := hp_45
    refine lv_iadd hx hb d_No_overlaps_34 ?_
    refine lv_icmp_ge (tgt := 42) hx hb d_No_overlaps_35 (by decide) (fun hc_47 => ?_) (fun hc_47 => ?_)
    · skip
      have ic_48 : (v_14 + r_41).toInt ≤ v_29.toInt := iLe hc_47
      refine lv_iconst (v := 0) hx hb d_No_overlaps_42 (by decide) ?_
      exact W.zret (v := 0) hx hb hr (by decide) (fun t9 ht hW => ⟨0, h, rfl, ⟨zb0, rfl⟩, by rw [ht]; exact hH, by rw [ht]; exact hz⟩) hLo d_No_overlaps_43
    · skip
      have ic_49 : v_29.toInt < (v_14 + r_41).toInt := iNe hc_47
      have iu_50 : (v_14 + r_41).toInt < 2147483648 := iUp _
      refine lv_iconst (v := 1) hx hb d_No_overlaps_38 (by decide) ?_
      refine lv_goto (tgt := 43) hx hb d_No_overlaps_39 (by decide) ?_
      exact W.zret (v := 1) hx hb hr (by decide) (fun t9 ht hW => ⟨1, h, rfl, ⟨zb1, rfl⟩, by rw [ht]; exact hH, by rw [ht]; exact hz⟩) hLo d_No_overlaps_43

set_option maxHeartbeats 4000000 in
set_option maxRecDepth 100000 in
theorem t_idLen (l : Launch) (D : va_G) (t : Nat → ClassId) (G : hG) (ak av : Nat → Nat) (h : hM) (τ : tM) (n f : Nat) (d9 : Nat) (hn : n ≤ 200) (hT : TI τ t n h) (T_d9 : τ d9 = (10, f)) : Met l y_No_identifierLength (.code y_No_identifierLength b_No_identifierLength 1 (some .int) :: lw_g) { frames := 2, cells := 0, slots := 0, locals := 40 } (hP (kE D t G ak av) D vwCl G h [.ref d9]) (hQi D vwCl G (fun r h' => h = h')) 0 0 nof := by
  refine Met.ofW (cc := b_No_identifierLength) (maxL := 1) (ret := (some .int)) (by decide) rfl ?_
  intro p e s m args below meth c s₁ Bd hml hv
  obtain ⟨ha, hE, hH⟩ := hv
  have hx := Bd.exec
  have hb := Bd.bytes
  have hr := Bd.returns
  have hts : ∀ w ∈ lw_g, w.before args s = true := fun w hw => atoms_spec (ws := (.code y_No_identifierLength b_No_identifierLength 1 (some .int) :: lw_g)) Bd.pre w (List.mem_cons_of_mem _ hw)
  have hown : s.vm.findClass R_No = some m.cls := findClass_of_methodNamed Bd.named
  have hlocks := Bd.notSynchronized
  have hK := hE.1
  have hH0 := hH
  have hLo : hLc nof [] := hLc_nil
  have hz : s.heap.size ≤ s.heap.size := Nat.le_refl _
  have hl := lv_entry [.ref d9] (n := 1) (Nat.le_of_ble_eq_true rfl)
  rw [show entryFrame m args 1 = F0 m 0 ((lg_sl [.ref d9] ++ List.replicate (1 - (lg_sl [.ref d9]).length) Slot.unset).toArray) [] from (by rw [ha]; exact lg_entry_eq m [.ref d9] 1)]
  generalize (lg_sl [.ref d9] ++ List.replicate (1 - (lg_sl [.ref d9]).length) Slot.unset).toArray = ls at hl ⊢
  have hl : lv_has ls 1 [(0, .ref d9)] := hl
  refine lv_aload_n hx hb d_No_identifierLength_0 rfl (lv_at hl 0 rfl) ?_
  obtain ⟨v_1, v_2, v_4, v_6, v_7, v_9, v_10, v_11, v_13, v_14, v_15, F_d9, c_3, c_5, c_8, c_12⟩ := TI_node hT T_d9
  refine hm_get (ci := 1) (v := .int v_4) (C := R_No) (T := F_No) (N := 11) hx hb hts ig_No hown hK hH F_d9 rfl 2 (by decide) (hts _ mw_94) (fun _ h9 => h9) rfl d_No_identifierLength_1 ?_
  refine lv_if_eq (tgt := 14) hx hb d_No_identifierLength_4 (by decide) (fun hc_16 => ?_) (fun hc_16 => ?_)
  · skip
    have ic_17 : v_4.toInt = 0 := congrArg Int32.toInt hc_16
    refine lv_aload_n hx hb d_No_identifierLength_14 rfl (lv_at hl 0 rfl) ?_
    refine hm_get (ci := 1) (v := .int v_7) (C := R_No) (T := F_No) (N := 11) hx hb hts ig_No hown hK hH F_d9 rfl 4 (by decide) (hts _ mw_101) (fun _ h9 => h9) rfl d_No_identifierLength_15 ?_
    refine va_ldcS hx hb hown hE.2.2.2.2.2.2.2.2.2.1 d_No_identifierLength_18 ?_
    have hZ := K9 hE.2.2.2.2 hH0
    have hS := S9 hH0 hH hz (hLc_nof hLo)
    refine hm_callPi (va_runV (As := []) (b := ak 2) (rest := [.int v_7]) ⟨hx, hb, hml, hown, hts⟩ (c_St_length l D t G ak av h 2 (by decide)) ⟨cw9B 0 hts mw_36 mw_102 mw_4 rfl rfl (by decide +kernel) ⟨Nat.le_of_ble_eq_true rfl, Nat.le_of_ble_eq_true rfl⟩, hts _ mw_38, hts _ mw_39⟩ (hP_W kE_ok hE hH (vk_recv hZ (by decide) hS)) rfl rfl hl.1 rfl (lv_room (Nat.le_of_ble_eq_true rfl)) d_No_identifierLength_20 ⟨Nat.le_of_ble_eq_true rfl, Nat.le_of_ble_eq_true rfl⟩) (fun r_18 h_19 H_20 hp_22  hH z_21 => ?_)
    have hz : s.heap.size ≤ H_20.size := Nat.le_trans hz z_21
    obtain ⟨e_r_18, rfl⟩ := hp_22
    have is_r_18 : r_18.toInt = (sLen.getD 2 0 : Nat) := by rw [e_r_18]; exact nI_toInt (sl_lt (by decide))
    have iq_r_18 := sl_8 (i := 2) (by decide)
    refine lv_iadd hx hb d_No_identifierLength_23 ?_
    exact W.iret (v := v_7 + r_18) hx hb hr (fun t9 ht hW => ⟨v_7 + r_18, h, rfl, rfl, by rw [ht]; exact hH, by rw [ht]; exact hz⟩) hLo d_No_identifierLength_24
  · skip
    refine lv_aload_n hx hb d_No_identifierLength_7 rfl (lv_at hl 0 rfl) ?_
    refine hm_get (ci := 1) (v := .int v_7) (C := R_No) (T := F_No) (N := 11) hx hb hts ig_No hown hK hH F_d9 rfl 4 (by decide) (hts _ mw_101) (fun _ h9 => h9) rfl d_No_identifierLength_8 ?_
    refine lv_goto (tgt := 24) hx hb d_No_identifierLength_11 (by decide) ?_
    exact W.iret (v := v_7) hx hb hr (fun t9 ht hW => ⟨v_7, h, rfl, rfl, by rw [ht]; exact hH, by rw [ht]; exact hz⟩) hLo d_No_identifierLength_24

set_option maxHeartbeats 4000000 in
set_option maxRecDepth 100000 in
theorem t_idByte (l : Launch) (D : va_G) (t : Nat → ClassId) (G : hG) (ak av : Nat → Nat) (h : hM) (τ : tM) (n f : Nat) (d9 : Nat) (i8 : Int32) (hn : n ≤ 200) (hT : TI τ t n h) (T_d9 : τ d9 = (10, f)) (I_i8 : 0 ≤ i8.toInt) : Met l y_No_identifierByte (.code y_No_identifierByte b_No_identifierByte 3 (some .int) :: lw_g) { frames := 4, cells := 0, slots := 0, locals := 85 } (hP (kE D t G ak av) D vwCl G h [.ref d9, .int i8]) (hQi D vwCl G (fun r h' => h = h')) 0 0 nof := by
  refine Met.ofW (cc := b_No_identifierByte) (maxL := 3) (ret := (some .int)) (by decide) rfl ?_
  intro p e s m args below meth c s₁ Bd hml hv
  obtain ⟨ha, hE, hH⟩ := hv
  have hx := Bd.exec
  have hb := Bd.bytes
  have hr := Bd.returns
  have hts : ∀ w ∈ lw_g, w.before args s = true := fun w hw => atoms_spec (ws := (.code y_No_identifierByte b_No_identifierByte 3 (some .int) :: lw_g)) Bd.pre w (List.mem_cons_of_mem _ hw)
  have hown : s.vm.findClass R_No = some m.cls := findClass_of_methodNamed Bd.named
  have hlocks := Bd.notSynchronized
  have hK := hE.1
  have hH0 := hH
  have hLo : hLc nof [] := hLc_nil
  have hz : s.heap.size ≤ s.heap.size := Nat.le_refl _
  have hl := lv_entry [.ref d9, .int i8] (n := 3) (Nat.le_of_ble_eq_true rfl)
  rw [show entryFrame m args 3 = F0 m 0 ((lg_sl [.ref d9, .int i8] ++ List.replicate (3 - (lg_sl [.ref d9, .int i8]).length) Slot.unset).toArray) [] from (by rw [ha]; exact lg_entry_eq m [.ref d9, .int i8] 3)]
  generalize (lg_sl [.ref d9, .int i8] ++ List.replicate (3 - (lg_sl [.ref d9, .int i8]).length) Slot.unset).toArray = ls at hl ⊢
  have hl : lv_has ls 3 [(0, .ref d9), (1, .int i8)] := hl
  refine lv_iload_n hx hb d_No_identifierByte_0 rfl (lv_at hl 1 rfl) ?_
  refine lv_aload_n hx hb d_No_identifierByte_1 rfl (lv_at hl 0 rfl) ?_
  obtain ⟨v_1, v_2, v_4, v_6, v_7, v_9, v_10, v_11, v_13, v_14, v_15, F_d9, c_3, c_5, c_8, c_12⟩ := TI_node hT T_d9
  refine hm_get (ci := 1) (v := .int v_7) (C := R_No) (T := F_No) (N := 11) hx hb hts ig_No hown hK hH F_d9 rfl 4 (by decide) (hts _ mw_101) (fun _ h9 => h9) rfl d_No_identifierByte_2 ?_
  refine lv_icmp_ge (tgt := 30) hx hb d_No_identifierByte_5 (by decide) (fun hc_16 => ?_) (fun hc_16 => ?_)
  · skip
    have ic_17 : v_7.toInt ≤ i8.toInt := iLe hc_16
    refine lv_iload_n hx hb d_No_identifierByte_30 rfl (lv_at hl 1 rfl) ?_
    refine lv_aload_n hx hb d_No_identifierByte_31 rfl (lv_at hl 0 rfl) ?_
    refine hm_get (ci := 1) (v := .int v_7) (C := R_No) (T := F_No) (N := 11) hx hb hts ig_No hown hK hH F_d9 rfl 4 (by decide) (hts _ mw_101) (fun _ h9 => h9) rfl d_No_identifierByte_32 ?_
    refine lv_isub hx hb d_No_identifierByte_35 ?_
    refine lv_topi (fun v_18 e_19 => ?_)
    have ip_20 : 0 ≤ i8.toInt → 0 ≤ v_7.toInt → v_18.toInt = i8.toInt - v_7.toInt := fun h8 h9 => by rw [e_19]; exact iSubP h8 h9
    refine lv_istore_n (lv' := [(2, .int v_18), (0, .ref d9), (1, .int i8)]) hx hb d_No_identifierByte_36 rfl hl (by decide) rfl (fun ls hl => ?_)
    refine lv_iload_n hx hb d_No_identifierByte_37 rfl (lv_at hl 0 rfl) ?_
    refine va_ldcS hx hb hown hE.2.2.2.2.2.2.2.2.2.1 d_No_identifierByte_38 ?_
    have hZ := K9 hE.2.2.2.2 hH0
    have hS := S9 hH0 hH hz (hLc_nof hLo)
    refine hm_callPi (va_runV (As := []) (b := ak 2) (rest := [.int v_18]) ⟨hx, hb, hml, hown, hts⟩ (c_St_length l D t G ak av h 2 (by decide)) ⟨cw9B 0 hts mw_36 mw_102 mw_4 rfl rfl (by decide +kernel) ⟨Nat.le_of_ble_eq_true rfl, Nat.le_of_ble_eq_true rfl⟩, hts _ mw_38, hts _ mw_39⟩ (hP_W kE_ok hE hH (vk_recv hZ (by decide) hS)) rfl rfl hl.1 rfl (lv_room (Nat.le_of_ble_eq_true rfl)) d_No_identifierByte_40 ⟨Nat.le_of_ble_eq_true rfl, Nat.le_of_ble_eq_true rfl⟩) (fun r_21 h_22 H_23 hp_25  hH z_24 => ?_)
    have hz : s.heap.size ≤ H_23.size := Nat.le_trans hz z_24
    obtain ⟨e_r_21, rfl⟩ := hp_25
    have is_r_21 : r_21.toInt = (sLen.getD 2 0 : Nat) := by rw [e_r_21]; exact nI_toInt (sl_lt (by decide))
    have iq_r_21 := sl_8 (i := 2) (by decide)
    refine lv_icmp_ge (tgt := 55) hx hb d_No_identifierByte_43 (by decide) (fun hc_26 => ?_) (fun hc_26 => ?_)
    · skip
      have ic_27 : r_21.toInt ≤ v_18.toInt := iLe hc_26
      refine lv_iconst (v := 0) hx hb d_No_identifierByte_55 (by decide) ?_
      exact W.iret (v := 0) hx hb hr (fun t9 ht hW => ⟨0, h, rfl, rfl, by rw [ht]; exact hH, by rw [ht]; exact hz⟩) hLo d_No_identifierByte_56
    · skip
      have ic_28 : v_18.toInt < r_21.toInt := iNe hc_26
      have iu_29 : r_21.toInt < 2147483648 := iUp _
      refine va_ldcS hx hb hown hE.2.2.2.2.2.2.2.2.2.1 d_No_identifierByte_46 ?_
      refine lv_iload_n hx hb d_No_identifierByte_48 rfl (lv_at hl 0 rfl) ?_
      have is_30 : v_18.toInt = i8.toInt - v_7.toInt := by rw [e_19]; exact iSub (by omega) (by omega)
      have hZ := K9 hE.2.2.2.2 hH0
      have hS := S9 hH0 hH hz (hLc_nof hLo)
      obtain ⟨j_31, e_32l, e_32⟩ : ∃ j : Nat, j < sLen.getD 2 0 ∧ v_18 = nI j := ⟨v_18.toInt.toNat, by omega, i_nI (by omega)⟩
      refine lv_topi (fun v_33 e_34 => ?_)
      obtain rfl : v_33 = nI j_31 := e_34.trans (e_32)
      refine hm_callPi (va_runV (As := [.int (nI j_31)]) (b := ak 2) (rest := []) ⟨hx, hb, hml, hown, hts⟩ (c_St_charAt l D t G ak av h 2 j_31 (by decide) e_32l) ⟨cw9B 1 hts mw_40 mw_103 mw_4 rfl rfl (by decide +kernel) ⟨Nat.le_of_ble_eq_true rfl, Nat.le_of_ble_eq_true rfl⟩, hts _ mw_42, hts _ mw_43⟩ (hP_W kE_ok hE hH (vk_recv hZ (by decide) hS)) rfl rfl hl.1 rfl (lv_room (Nat.le_of_ble_eq_true rfl)) d_No_identifierByte_49 ⟨Nat.le_of_ble_eq_true rfl, Nat.le_of_ble_eq_true rfl⟩) (fun r_35 h_36 H_37 hp_39  hH z_38 => ?_)
      have hz : s.heap.size ≤ H_37.size := Nat.le_trans hz z_38
      obtain ⟨-, rfl⟩ := hp_39
      refine lv_goto (tgt := 56) hx hb d_No_identifierByte_52 (by decide) ?_
      exact W.iret (v := r_35) hx hb hr (fun t9 ht hW => ⟨r_35, h, rfl, rfl, by rw [ht]; exact hH, by rw [ht]; exact hz⟩) hLo d_No_identifierByte_56
  · skip
    have ic_40 : i8.toInt < v_7.toInt := iNe hc_16
    have iu_41 : v_7.toInt < 2147483648 := iUp _
    refine lv_aload_n hx hb d_No_identifierByte_8 rfl (lv_at hl 0 rfl) ?_
    refine hm_get (ci := 1) (v := .long v_6) (C := R_No) (T := F_No) (N := 11) hx hb hts ig_No hown hK hH F_d9 rfl 3 (by decide) (hts _ mw_104) (fun _ h9 => h9) rfl d_No_identifierByte_9 ?_
    refine lv_bipush (v := 8) hx hb d_No_identifierByte_12 (by decide) ?_
    refine lv_aload_n hx hb d_No_identifierByte_14 rfl (lv_at hl 0 rfl) ?_
    refine hm_get (ci := 1) (v := .int v_7) (C := R_No) (T := F_No) (N := 11) hx hb hts ig_No hown hK hH F_d9 rfl 4 (by decide) (hts _ mw_101) (fun _ h9 => h9) rfl d_No_identifierByte_15 ?_
    refine lv_iconst (v := 1) hx hb d_No_identifierByte_18 (by decide) ?_
    refine lv_isub hx hb d_No_identifierByte_19 ?_
    refine lv_iload_n hx hb d_No_identifierByte_20 rfl (lv_at hl 1 rfl) ?_
    refine lv_isub hx hb d_No_identifierByte_21 ?_
    refine lv_imul hx hb d_No_identifierByte_22 ?_
    refine lv_lushr (v := (v_6.toUInt64 >>> ((8 * ((v_7 - 1) - i8)).toInt64.toUInt64 &&& Int64.toUInt64 63)).toInt64) hx hb d_No_identifierByte_23 rfl ?_
    refine lv_l2i (v := ((v_6.toUInt64 >>> ((8 * ((v_7 - 1) - i8)).toInt64.toUInt64 &&& Int64.toUInt64 63)).toInt64).toInt32) hx hb d_No_identifierByte_24 rfl ?_
    refine lv_sipush (v := 255) hx hb d_No_identifierByte_25 (by decide) ?_
    refine lv_iand hx hb d_No_identifierByte_28 ?_
    exact W.iret (v := (((v_6.toUInt64 >>> ((8 * ((v_7 - 1) - i8)).toInt64.toUInt64 &&& Int64.toUInt64 63)).toInt64).toInt32) &&& 255) hx hb hr (fun t9 ht hW => ⟨(((v_6.toUInt64 >>> ((8 * ((v_7 - 1) - i8)).toInt64.toUInt64 &&& Int64.toUInt64 63)).toInt64).toInt32) &&& 255, h, rfl, rfl, by rw [ht]; exact hH, by rw [ht]; exact hz⟩) hLo d_No_identifierByte_29

set_option maxHeartbeats 4000000 in
set_option maxRecDepth 100000 in
theorem t_before (l : Launch) (D : va_G) (t : Nat → ClassId) (G : hG) (ak av : Nat → Nat) (h : hM) (τ : tM) (n f g : Nat) (d9 : Nat) (e9 : Nat) (hn : n ≤ 200) (hT : TI τ t n h) (T_d9 : τ d9 = (10, f)) (T_e9 : τ e9 = (10, g)) : Met l y_No_comesBefore (.code y_No_comesBefore b_No_comesBefore 6 (some .boolean) :: lw_g) { frames := 5, cells := 0, slots := 0, locals := 107 } (hP (kE D t G ak av) D vwCl G h [.ref d9, .ref e9]) (hQi D vwCl G (fun r h' => zb r ∧ h = h')) 0 0 nof := by
  refine Met.ofW (cc := b_No_comesBefore) (maxL := 6) (ret := (some .boolean)) (by decide) rfl ?_
  intro p e s m args below meth c s₁ Bd hml hv
  obtain ⟨ha, hE, hH⟩ := hv
  have hx := Bd.exec
  have hb := Bd.bytes
  have hr := Bd.returns
  have hts : ∀ w ∈ lw_g, w.before args s = true := fun w hw => atoms_spec (ws := (.code y_No_comesBefore b_No_comesBefore 6 (some .boolean) :: lw_g)) Bd.pre w (List.mem_cons_of_mem _ hw)
  have hown : s.vm.findClass R_No = some m.cls := findClass_of_methodNamed Bd.named
  have hlocks := Bd.notSynchronized
  have hK := hE.1
  have hH0 := hH
  have hLo : hLc nof [] := hLc_nil
  have hz : s.heap.size ≤ s.heap.size := Nat.le_refl _
  have hl := lv_entry [.ref d9, .ref e9] (n := 6) (Nat.le_of_ble_eq_true rfl)
  rw [show entryFrame m args 6 = F0 m 0 ((lg_sl [.ref d9, .ref e9] ++ List.replicate (6 - (lg_sl [.ref d9, .ref e9]).length) Slot.unset).toArray) [] from (by rw [ha]; exact lg_entry_eq m [.ref d9, .ref e9] 6)]
  generalize (lg_sl [.ref d9, .ref e9] ++ List.replicate (6 - (lg_sl [.ref d9, .ref e9]).length) Slot.unset).toArray = ls at hl ⊢
  have hl : lv_has ls 6 [(0, .ref d9), (1, .ref e9)] := hl
  refine lv_aload_n hx hb d_No_comesBefore_0 rfl (lv_at hl 0 rfl) ?_
  obtain ⟨v_1, v_2, v_4, v_6, v_7, v_9, v_10, v_11, v_13, v_14, v_15, F_d9, c_3, c_5, c_8, c_12⟩ := TI_node hT T_d9
  refine hm_callPi (va_runV (As := []) (b := d9) (rest := []) ⟨hx, hb, hml, hown, hts⟩ (t_idLen l D t G ak av h τ n f d9  hn hT T_d9) ⟨cw9B 0 hts mw_105 mw_107 mw_106 rfl rfl (by decide +kernel) ⟨Nat.le_of_ble_eq_true rfl, Nat.le_of_ble_eq_true rfl⟩, hts _ mw_108, hts _ mw_109⟩ (hP_V (q := (R_No, F_No, 11)) kE_ok hE hK hH F_d9 rfl) rfl rfl hl.1 rfl (lv_room (Nat.le_of_ble_eq_true rfl)) d_No_comesBefore_1 ⟨Nat.le_of_ble_eq_true rfl, Nat.le_of_ble_eq_true rfl⟩) (fun r_16 h_17 H_18 hp_20  hH z_19 => ?_)
  have hz : s.heap.size ≤ H_18.size := Nat.le_trans hz z_19
  obtain rfl := hp_20
  refine lv_istore_n (lv' := [(2, .int r_16), (0, .ref d9), (1, .ref e9)]) hx hb d_No_comesBefore_4 rfl hl (by decide) rfl (fun ls hl => ?_)
  refine lv_aload_n hx hb d_No_comesBefore_5 rfl (lv_at hl 2 rfl) ?_
  obtain ⟨v_22, v_23, v_25, v_27, v_28, v_30, v_31, v_32, v_34, v_35, v_36, F_e9, c_24, c_26, c_29, c_33⟩ := TI_node hT T_e9
  refine hm_callPi (va_runV (As := []) (b := e9) (rest := []) ⟨hx, hb, hml, hown, hts⟩ (t_idLen l D t G ak av h τ n g e9  hn hT T_e9) ⟨cw9B 0 hts mw_105 mw_107 mw_106 rfl rfl (by decide +kernel) ⟨Nat.le_of_ble_eq_true rfl, Nat.le_of_ble_eq_true rfl⟩, hts _ mw_108, hts _ mw_109⟩ (hP_V (q := (R_No, F_No, 11)) kE_ok hE hK hH F_e9 rfl) rfl rfl hl.1 rfl (lv_room (Nat.le_of_ble_eq_true rfl)) d_No_comesBefore_6 ⟨Nat.le_of_ble_eq_true rfl, Nat.le_of_ble_eq_true rfl⟩) (fun r_37 h_38 H_39 hp_41  hH z_40 => ?_)
  have hz : s.heap.size ≤ H_39.size := Nat.le_trans hz z_40
  obtain rfl := hp_41
  refine lv_istore_n (lv' := [(3, .int r_37), (2, .int r_16), (0, .ref d9), (1, .ref e9)]) hx hb d_No_comesBefore_9 rfl hl (by decide) rfl (fun ls hl => ?_)
  refine lv_iconst (v := 0) hx hb d_No_comesBefore_10 (by decide) ?_
  refine lv_istore (lv' := [(4, .int 0), (3, .int r_37), (2, .int r_16), (0, .ref d9), (1, .ref e9)]) hx hb d_No_comesBefore_11 hl (by decide) rfl (fun ls hl => ?_)
  refine hm_loop (fun k13 ls H locs hh13 => ∃ (i9 : Int32), k13 = mU i9 ∧ lv_has ls 6 [(0, .ref d9), (1, .ref e9), (2, .int r_16), (3, .int r_37), (4, .int i9)] ∧ hm D vwCl G hh13 H ∧ s.heap.size ≤ H.size ∧ hLc nof locs ∧ (h = hh13) ∧ (0 ≤ i9.toInt)) ?_ (hh := h) ⟨0, rfl, (lv_sub hl [3, 4, 2, 1, 0] rfl), hH, hz, hLo, rfl, (by decide)⟩
  rintro k13 ls H locs hh13 ⟨i9, hk13, hl, hH, hz, hLo, rfl, I_i9⟩ ih13
  refine lv_iload hx hb d_No_comesBefore_13 (lv_at hl 4 rfl) ?_
  refine lv_iload_n hx hb d_No_comesBefore_15 rfl (lv_at hl 2 rfl) ?_
  refine lv_icmp_ge (tgt := 62) hx hb d_No_comesBefore_16 (by decide) (fun hc_43 => ?_) (fun hc_43 => ?_)
  · skip
    have ic_44 : r_16.toInt ≤ i9.toInt := iLe hc_43
    refine lv_iload_n hx hb d_No_comesBefore_62 rfl (lv_at hl 2 rfl) ?_
    refine lv_iload_n hx hb d_No_comesBefore_63 rfl (lv_at hl 3 rfl) ?_
    refine lv_icmp_ge (tgt := 71) hx hb d_No_comesBefore_64 (by decide) (fun hc_45 => ?_) (fun hc_45 => ?_)
    · skip
      have ic_46 : r_37.toInt ≤ r_16.toInt := iLe hc_45
      refine lv_iconst (v := 0) hx hb d_No_comesBefore_71 (by decide) ?_
      exact W.zret (v := 0) hx hb hr (by decide) (fun t9 ht hW => ⟨0, h, rfl, ⟨zb0, rfl⟩, by rw [ht]; exact hH, by rw [ht]; exact hz⟩) hLo d_No_comesBefore_72
    · skip
      have ic_47 : r_16.toInt < r_37.toInt := iNe hc_45
      have iu_48 : r_37.toInt < 2147483648 := iUp _
      refine lv_iconst (v := 1) hx hb d_No_comesBefore_67 (by decide) ?_
      refine lv_goto (tgt := 72) hx hb d_No_comesBefore_68 (by decide) ?_
      exact W.zret (v := 1) hx hb hr (by decide) (fun t9 ht hW => ⟨1, h, rfl, ⟨zb1, rfl⟩, by rw [ht]; exact hH, by rw [ht]; exact hz⟩) hLo d_No_comesBefore_72
  · skip
    have ic_49 : i9.toInt < r_16.toInt := iNe hc_43
    have iu_50 : r_16.toInt < 2147483648 := iUp _
    refine lv_iload hx hb d_No_comesBefore_19 (lv_at hl 4 rfl) ?_
    refine lv_iload_n hx hb d_No_comesBefore_21 rfl (lv_at hl 3 rfl) ?_
    refine lv_icmp_ge (tgt := 62) hx hb d_No_comesBefore_22 (by decide) (fun hc_51 => ?_) (fun hc_51 => ?_)
    · skip
      have ic_52 : r_37.toInt ≤ i9.toInt := iLe hc_51
      refine lv_iload_n hx hb d_No_comesBefore_62 rfl (lv_at hl 2 rfl) ?_
      refine lv_iload_n hx hb d_No_comesBefore_63 rfl (lv_at hl 3 rfl) ?_
      refine lv_icmp_ge (tgt := 71) hx hb d_No_comesBefore_64 (by decide) (fun hc_53 => ?_) (fun hc_53 => ?_)
      · skip
        have ic_54 : r_37.toInt ≤ r_16.toInt := iLe hc_53
        refine lv_iconst (v := 0) hx hb d_No_comesBefore_71 (by decide) ?_
        exact W.zret (v := 0) hx hb hr (by decide) (fun t9 ht hW => ⟨0, h, rfl, ⟨zb0, rfl⟩, by rw [ht]; exact hH, by rw [ht]; exact hz⟩) hLo d_No_comesBefore_72
      · skip
        have ic_55 : r_16.toInt < r_37.toInt := iNe hc_53
        have iu_56 : r_37.toInt < 2147483648 := iUp _
        refine lv_iconst (v := 1) hx hb d_No_comesBefore_67 (by decide) ?_
        refine lv_goto (tgt := 72) hx hb d_No_comesBefore_68 (by decide) ?_
        exact W.zret (v := 1) hx hb hr (by decide) (fun t9 ht hW => ⟨1, h, rfl, ⟨zb1, rfl⟩, by rw [ht]; exact hH, by rw [ht]; exact hz⟩) hLo d_No_comesBefore_72
    · skip
      have ic_57 : i9.toInt < r_37.toInt := iNe hc_51
      have iu_58 : r_37.toInt < 2147483648 := iUp _
      refine lv_aload_n hx hb d_No_comesBefore_25 rfl (lv_at hl 0 rfl) ?_
      refine lv_iload hx hb d_No_comesBefore_26 (lv_at hl 4 rfl) ?_
      refine hm_callPi (va_runV (As := [.int i9]) (b := d9) (rest := []) ⟨hx, hb, hml, hown, hts⟩ (t_idByte l D t G ak av h τ n f d9 i9  hn hT T_d9 (by omega)) ⟨cw9B 1 hts mw_110 mw_111 mw_106 rfl rfl (by decide +kernel) ⟨Nat.le_of_ble_eq_true rfl, Nat.le_of_ble_eq_true rfl⟩, hts _ mw_112, hts _ mw_113⟩ (hP_V (q := (R_No, F_No, 11)) kE_ok hE hK hH F_d9 rfl) rfl rfl hl.1 rfl (lv_room (Nat.le_of_ble_eq_true rfl)) d_No_comesBefore_28 ⟨Nat.le_of_ble_eq_true rfl, Nat.le_of_ble_eq_true rfl⟩) (fun r_59 h_60 H_61 hp_63  hH z_62 => ?_)
      have hz : s.heap.size ≤ H_61.size := Nat.le_trans hz z_62
      obtain rfl := hp_63
      refine lv_aload_n hx hb d_No_comesBefore_31 rfl (lv_at hl 1 rfl) ?_
      refine lv_iload hx hb d_No_comesBefore_32 (lv_at hl 4 rfl) ?_
      refine hm_callPi (va_runV (As := [.int i9]) (b := e9) (rest := [.int r_59]) ⟨hx, hb, hml, hown, hts⟩ (t_idByte l D t G ak av h τ n g e9 i9  hn hT T_e9 (by omega)) ⟨cw9B 1 hts mw_110 mw_111 mw_106 rfl rfl (by decide +kernel) ⟨Nat.le_of_ble_eq_true rfl, Nat.le_of_ble_eq_true rfl⟩, hts _ mw_112, hts _ mw_113⟩ (hP_V (q := (R_No, F_No, 11)) kE_ok hE hK hH F_e9 rfl) rfl rfl hl.1 rfl (lv_room (Nat.le_of_ble_eq_true rfl)) d_No_comesBefore_34 ⟨Nat.le_of_ble_eq_true rfl, Nat.le_of_ble_eq_true rfl⟩) (fun r_65 h_66 H_67 hp_69  hH z_68 => ?_)
      have hz : s.heap.size ≤ H_67.size := Nat.le_trans hz z_68
      obtain rfl := hp_69
      refine lv_isub hx hb d_No_comesBefore_37 ?_
      refine lv_topi (fun v_71 e_72 => ?_)
      have ip_73 : 0 ≤ r_59.toInt → 0 ≤ r_65.toInt → v_71.toInt = r_59.toInt - r_65.toInt := fun h8 h9 => by rw [e_72]; exact iSubP h8 h9
      refine lv_istore (lv' := [(5, .int v_71), (0, .ref d9), (1, .ref e9), (2, .int r_16), (3, .int r_37), (4, .int i9)]) hx hb d_No_comesBefore_38 hl (by decide) rfl (fun ls hl => ?_)
      refine lv_iload hx hb d_No_comesBefore_40 (lv_at hl 0 rfl) ?_
      refine lv_if_eq (tgt := 56) hx hb d_No_comesBefore_42 (by decide) (fun hc_74 => ?_) (fun hc_74 => ?_)
      · skip
        have ic_75 : v_71.toInt = 0 := congrArg Int32.toInt hc_74
        obtain ⟨j_76, e_77⟩ : ∃ z : Int32, z = i9 + 1 := ⟨_, rfl⟩
        refine lv_iinc (v := j_76) (lv' := [(4, .int j_76), (5, .int v_71), (0, .ref d9), (1, .ref e9), (2, .int r_16), (3, .int r_37)]) hx hb d_No_comesBefore_56 hl (k := 5) rfl e_77.symm (by decide) rfl (fun ls hl => ?_)
        refine lv_goto (tgt := 13) hx hb d_No_comesBefore_59 (by decide) ?_
        have is_78 : j_76.toInt = i9.toInt + 1 := by rw [e_77]; exact iAddK 1 rfl (by omega) (by omega)
        exact ih13 (mU j_76) ls _ locs _ (by rw [hk13]; exact mU_lt (by omega)) ⟨j_76, rfl, (lv_sub hl [2, 3, 4, 5, 0] rfl), hH, hz, hLo, rfl, (by omega)⟩
      · skip
        refine lv_iload hx hb d_No_comesBefore_45 (lv_at hl 0 rfl) ?_
        refine lv_if_ge (tgt := 54) hx hb d_No_comesBefore_47 (by decide) (fun hc_79 => ?_) (fun hc_79 => ?_)
        · skip
          have ic_80 : 0 ≤ v_71.toInt := iLe hc_79
          refine lv_iconst (v := 0) hx hb d_No_comesBefore_54 (by decide) ?_
          exact W.zret (v := 0) hx hb hr (by decide) (fun t9 ht hW => ⟨0, h, rfl, ⟨zb0, rfl⟩, by rw [ht]; exact hH, by rw [ht]; exact hz⟩) hLo d_No_comesBefore_55
        · skip
          have ic_81 : v_71.toInt < 0 := iNe hc_79
          refine lv_iconst (v := 1) hx hb d_No_comesBefore_50 (by decide) ?_
          refine lv_goto (tgt := 55) hx hb d_No_comesBefore_51 (by decide) ?_
          exact W.zret (v := 1) hx hb hr (by decide) (fun t9 ht hW => ⟨1, h, rfl, ⟨zb1, rfl⟩, by rw [ht]; exact hH, by rw [ht]; exact hz⟩) hLo d_No_comesBefore_55
