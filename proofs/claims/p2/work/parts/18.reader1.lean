set_option maxRecDepth 100000 in
theorem mw_328 : Cond.fieldLink R_Re 35 "WriteOnceDisc$Reader" "wrongPlace" "I" ∈ lw_g := lw_gin (List.mem_append_right _ (List.mem_of_getElem? (i := 158) rfl)) (by decide +kernel)
set_option maxRecDepth 100000 in
theorem mw_329 : Cond.fieldLink R_Re 27 "WriteOnceDisc$Reader" "medium" "LWriteOnceDisc$Medium;" ∈ lw_g := lw_gin (List.mem_append_right _ (List.mem_of_getElem? (i := 156) rfl)) (by decide +kernel)
set_option maxRecDepth 100000 in
theorem mw_330 : Cond.methodLink R_Re 81 y_Me_fetch ∈ lw_g := lw_gin (List.mem_append_right _ (List.mem_of_getElem? (i := 651) rfl)) (by decide +kernel)
set_option maxRecDepth 100000 in
theorem mw_331 : Cond.code y_Re_wrongAt b_Re_wrongAt 2 (some .boolean) ∈ lw_g := lw_gin (List.mem_append_right _ (List.mem_of_getElem? (i := 646) rfl)) (by decide +kernel)
set_option maxRecDepth 100000 in
theorem mw_332 : Cond.initialized R_Re ∈ lw_g := lw_gin (List.mem_append_right _ (List.mem_of_getElem? (i := 5) rfl)) (by decide +kernel)
set_option maxRecDepth 100000 in
theorem mw_333 : Cond.methodLink R_Re 74 y_Re_wrongAt ∈ lw_g := lw_gin (List.mem_append_right _ (List.mem_of_getElem? (i := 643) rfl)) (by decide +kernel)
set_option maxRecDepth 100000 in
theorem mw_334 : Cond.instanceMethod y_Re_wrongAt ∈ lw_g := lw_gin (List.mem_append_right _ (List.mem_of_getElem? (i := 645) rfl)) (by decide +kernel)
set_option maxRecDepth 100000 in
theorem mw_335 : Cond.selects R_Re y_Re_wrongAt y_Re_wrongAt ∈ lw_g := lw_gin (List.mem_append_left _ (List.mem_of_getElem? (i := 12) rfl)) (by decide +kernel)
set_option maxRecDepth 100000 in
theorem mw_336 : Cond.methodLink R_Re 87 y_Me_hasText ∈ lw_g := lw_gin (List.mem_append_right _ (List.mem_of_getElem? (i := 653) rfl)) (by decide +kernel)
set_option maxRecDepth 100000 in
theorem mw_337 : Cond.code y_Re_beginsAs b_Re_beginsAs 4 (some .boolean) ∈ lw_g := lw_gin (List.mem_append_right _ (List.mem_of_getElem? (i := 650) rfl)) (by decide +kernel)
set_option maxRecDepth 100000 in
theorem mw_338 : Cond.methodLink R_Re 77 y_Re_beginsAs ∈ lw_g := lw_gin (List.mem_append_right _ (List.mem_of_getElem? (i := 647) rfl)) (by decide +kernel)
set_option maxRecDepth 100000 in
theorem mw_339 : Cond.instanceMethod y_Re_beginsAs ∈ lw_g := lw_gin (List.mem_append_right _ (List.mem_of_getElem? (i := 649) rfl)) (by decide +kernel)
set_option maxRecDepth 100000 in
theorem mw_340 : Cond.selects R_Re y_Re_beginsAs y_Re_beginsAs ∈ lw_g := lw_gin (List.mem_append_left _ (List.mem_of_getElem? (i := 13) rfl)) (by decide +kernel)
set_option maxRecDepth 100000 in
theorem mw_341 : Cond.methodLink R_Re 69 y_Me_isWritten ∈ lw_g := lw_gin (List.mem_append_right _ (List.mem_of_getElem? (i := 642) rfl)) (by decide +kernel)
set_option maxRecDepth 100000 in
theorem mw_342 : Cond.fieldLink R_Re 31 "WriteOnceDisc$Reader" "nodes" "LWriteOnceDisc$Nodes;" ∈ lw_g := lw_gin (List.mem_append_right _ (List.mem_of_getElem? (i := 157) rfl)) (by decide +kernel)
set_option maxRecDepth 100000 in
theorem mw_343 : Cond.fieldLink R_Re 51 "WriteOnceDisc$Nodes" "count" "I" ∈ lw_g := lw_gin (List.mem_append_right _ (List.mem_of_getElem? (i := 186) rfl)) (by decide +kernel)
set_option maxRecDepth 100000 in
theorem mw_344 : Cond.fieldLink R_Re 54 "WriteOnceDisc$Nodes" "slots" "[LWriteOnceDisc$Node;" ∈ lw_g := lw_gin (List.mem_append_right _ (List.mem_of_getElem? (i := 181) rfl)) (by decide +kernel)
set_option maxRecDepth 100000 in
theorem mw_345 : Cond.fieldLink R_Re 58 "WriteOnceDisc$Node" "isDirectory" "Z" ∈ lw_g := lw_gin (List.mem_append_right _ (List.mem_of_getElem? (i := 99) rfl)) (by decide +kernel)
set_option maxRecDepth 100000 in
theorem mw_346 : Cond.code y_No_overlaps b_No_overlaps 2 (some .boolean) ∈ lw_g := lw_gin (List.mem_append_right _ (List.mem_of_getElem? (i := 713) rfl)) (by decide +kernel)
set_option maxRecDepth 100000 in
theorem mw_347 : Cond.methodLink R_Re 145 y_No_overlaps ∈ lw_g := lw_gin (List.mem_append_right _ (List.mem_of_getElem? (i := 710) rfl)) (by decide +kernel)
set_option maxRecDepth 100000 in
theorem mw_348 : Cond.instanceMethod y_No_overlaps ∈ lw_g := lw_gin (List.mem_append_right _ (List.mem_of_getElem? (i := 711) rfl)) (by decide +kernel)
set_option maxRecDepth 100000 in
theorem mw_349 : Cond.selects R_No y_No_overlaps y_No_overlaps ∈ lw_g := lw_gin (List.mem_append_right _ (List.mem_of_getElem? (i := 712) rfl)) (by decide +kernel)
set_option maxRecDepth 100000 in
theorem mw_350 : Cond.fieldLink R_Re 14 "WriteOnceDisc$Reader" "table" "LWriteOnceDisc$Page;" ∈ lw_g := lw_gin (List.mem_append_right _ (List.mem_of_getElem? (i := 154) rfl)) (by decide +kernel)
set_option maxRecDepth 100000 in
theorem mw_351 : Cond.fieldLink R_Re 181 "WriteOnceDisc$Page" "bytes" "[B" ∈ lw_g := lw_gin (List.mem_append_right _ (List.mem_of_getElem? (i := 63) rfl)) (by decide +kernel)
theorem d_Re_wrongAt_0 : decode b_Re_wrongAt 0 = .ok (.aload_n 0, 1) := by decide +kernel
theorem d_Re_wrongAt_1 : decode b_Re_wrongAt 1 = .ok (.iload_n 1, 1) := by decide +kernel
theorem d_Re_wrongAt_2 : decode b_Re_wrongAt 2 = .ok (.putfield 35, 3) := by decide +kernel
theorem d_Re_wrongAt_5 : decode b_Re_wrongAt 5 = .ok (.iconst 0, 1) := by decide +kernel
theorem d_Re_wrongAt_6 : decode b_Re_wrongAt 6 = .ok (.ireturn, 1) := by decide +kernel
theorem d_Re_beginsAs_0 : decode b_Re_beginsAs 0 = .ok (.iload_n 1, 1) := by decide +kernel
theorem d_Re_beginsAs_1 : decode b_Re_beginsAs 1 = .ok (.sipush 2048, 3) := by decide +kernel
theorem d_Re_beginsAs_4 : decode b_Re_beginsAs 4 = .ok (.imul, 1) := by decide +kernel
theorem d_Re_beginsAs_5 : decode b_Re_beginsAs 5 = .ok (.istore_n 3, 1) := by decide +kernel
theorem d_Re_beginsAs_6 : decode b_Re_beginsAs 6 = .ok (.aload_n 0, 1) := by decide +kernel
theorem d_Re_beginsAs_7 : decode b_Re_beginsAs 7 = .ok (.getfield 27, 3) := by decide +kernel
theorem d_Re_beginsAs_10 : decode b_Re_beginsAs 10 = .ok (.iload_n 3, 1) := by decide +kernel
theorem d_Re_beginsAs_11 : decode b_Re_beginsAs 11 = .ok (.invokevirtual 81, 3) := by decide +kernel
theorem d_Re_beginsAs_14 : decode b_Re_beginsAs 14 = .ok (.iload_n 2, 1) := by decide +kernel
theorem d_Re_beginsAs_15 : decode b_Re_beginsAs 15 = .ok (.if_icmp .ne 35, 3) := by decide +kernel
theorem d_Re_beginsAs_50 : decode b_Re_beginsAs 50 = .ok (.aload_n 0, 1) := by decide +kernel
theorem d_Re_beginsAs_51 : decode b_Re_beginsAs 51 = .ok (.iload_n 3, 1) := by decide +kernel
theorem d_Re_beginsAs_52 : decode b_Re_beginsAs 52 = .ok (.invokevirtual 74, 3) := by decide +kernel
theorem d_Re_beginsAs_55 : decode b_Re_beginsAs 55 = .ok (.ireturn, 1) := by decide +kernel
theorem d_Re_beginsAs_18 : decode b_Re_beginsAs 18 = .ok (.aload_n 0, 1) := by decide +kernel
theorem d_Re_beginsAs_19 : decode b_Re_beginsAs 19 = .ok (.getfield 27, 3) := by decide +kernel
theorem d_Re_beginsAs_22 : decode b_Re_beginsAs 22 = .ok (.iload_n 3, 1) := by decide +kernel
theorem d_Re_beginsAs_23 : decode b_Re_beginsAs 23 = .ok (.iconst 1, 1) := by decide +kernel
theorem d_Re_beginsAs_24 : decode b_Re_beginsAs 24 = .ok (.iadd, 1) := by decide +kernel
theorem d_Re_beginsAs_25 : decode b_Re_beginsAs 25 = .ok (.ldc 85, 2) := by decide +kernel
theorem d_Re_beginsAs_27 : decode b_Re_beginsAs 27 = .ok (.invokevirtual 87, 3) := by decide +kernel
theorem d_Re_beginsAs_30 : decode b_Re_beginsAs 30 = .ok (.ifCond .eq 20, 3) := by decide +kernel
theorem d_Re_beginsAs_33 : decode b_Re_beginsAs 33 = .ok (.aload_n 0, 1) := by decide +kernel
theorem d_Re_beginsAs_34 : decode b_Re_beginsAs 34 = .ok (.getfield 27, 3) := by decide +kernel
theorem d_Re_beginsAs_37 : decode b_Re_beginsAs 37 = .ok (.iload_n 3, 1) := by decide +kernel
theorem d_Re_beginsAs_38 : decode b_Re_beginsAs 38 = .ok (.bipush 6, 2) := by decide +kernel
theorem d_Re_beginsAs_40 : decode b_Re_beginsAs 40 = .ok (.iadd, 1) := by decide +kernel
theorem d_Re_beginsAs_41 : decode b_Re_beginsAs 41 = .ok (.invokevirtual 81, 3) := by decide +kernel
theorem d_Re_beginsAs_44 : decode b_Re_beginsAs 44 = .ok (.iconst 1, 1) := by decide +kernel
theorem d_Re_beginsAs_45 : decode b_Re_beginsAs 45 = .ok (.if_icmp .ne 5, 3) := by decide +kernel
theorem d_Re_beginsAs_48 : decode b_Re_beginsAs 48 = .ok (.iconst 1, 1) := by decide +kernel
theorem d_Re_beginsAs_49 : decode b_Re_beginsAs 49 = .ok (.ireturn, 1) := by decide +kernel
theorem d_Re_hasHead_0 : decode b_Re_hasHead 0 = .ok (.iload_n 1, 1) := by decide +kernel
theorem d_Re_hasHead_1 : decode b_Re_hasHead 1 = .ok (.bipush 16, 2) := by decide +kernel
theorem d_Re_hasHead_3 : decode b_Re_hasHead 3 = .ok (.iadd, 1) := by decide +kernel
theorem d_Re_hasHead_4 : decode b_Re_hasHead 4 = .ok (.istore_n 2, 1) := by decide +kernel
theorem d_Re_hasHead_5 : decode b_Re_hasHead 5 = .ok (.iload_n 2, 1) := by decide +kernel
theorem d_Re_hasHead_6 : decode b_Re_hasHead 6 = .ok (.iload_n 1, 1) := by decide +kernel
theorem d_Re_hasHead_7 : decode b_Re_hasHead 7 = .ok (.bipush 19, 2) := by decide +kernel
theorem d_Re_hasHead_9 : decode b_Re_hasHead 9 = .ok (.iadd, 1) := by decide +kernel
theorem d_Re_hasHead_10 : decode b_Re_hasHead 10 = .ok (.if_icmp .gt 30, 3) := by decide +kernel
theorem d_Re_hasHead_40 : decode b_Re_hasHead 40 = .ok (.aload_n 0, 1) := by decide +kernel
theorem d_Re_hasHead_41 : decode b_Re_hasHead 41 = .ok (.iload_n 1, 1) := by decide +kernel
theorem d_Re_hasHead_42 : decode b_Re_hasHead 42 = .ok (.bipush 16, 2) := by decide +kernel
theorem d_Re_hasHead_44 : decode b_Re_hasHead 44 = .ok (.iadd, 1) := by decide +kernel
theorem d_Re_hasHead_45 : decode b_Re_hasHead 45 = .ok (.iconst 1, 1) := by decide +kernel
theorem d_Re_hasHead_46 : decode b_Re_hasHead 46 = .ok (.invokevirtual 77, 3) := by decide +kernel
theorem d_Re_hasHead_49 : decode b_Re_hasHead 49 = .ok (.ifCond .eq 21, 3) := by decide +kernel
theorem d_Re_hasHead_70 : decode b_Re_hasHead 70 = .ok (.iconst 0, 1) := by decide +kernel
theorem d_Re_hasHead_71 : decode b_Re_hasHead 71 = .ok (.ireturn, 1) := by decide +kernel
theorem d_Re_hasHead_52 : decode b_Re_hasHead 52 = .ok (.aload_n 0, 1) := by decide +kernel
theorem d_Re_hasHead_53 : decode b_Re_hasHead 53 = .ok (.iload_n 1, 1) := by decide +kernel
theorem d_Re_hasHead_54 : decode b_Re_hasHead 54 = .ok (.bipush 17, 2) := by decide +kernel
theorem d_Re_hasHead_56 : decode b_Re_hasHead 56 = .ok (.iadd, 1) := by decide +kernel
theorem d_Re_hasHead_57 : decode b_Re_hasHead 57 = .ok (.sipush 255, 3) := by decide +kernel
theorem d_Re_hasHead_60 : decode b_Re_hasHead 60 = .ok (.invokevirtual 77, 3) := by decide +kernel
theorem d_Re_hasHead_63 : decode b_Re_hasHead 63 = .ok (.ifCond .eq 7, 3) := by decide +kernel
theorem d_Re_hasHead_66 : decode b_Re_hasHead 66 = .ok (.iconst 1, 1) := by decide +kernel
theorem d_Re_hasHead_67 : decode b_Re_hasHead 67 = .ok (.goto 4, 3) := by decide +kernel
theorem d_Re_hasHead_13 : decode b_Re_hasHead 13 = .ok (.aload_n 0, 1) := by decide +kernel
theorem d_Re_hasHead_14 : decode b_Re_hasHead 14 = .ok (.getfield 27, 3) := by decide +kernel
theorem d_Re_hasHead_17 : decode b_Re_hasHead 17 = .ok (.iload_n 2, 1) := by decide +kernel
theorem d_Re_hasHead_18 : decode b_Re_hasHead 18 = .ok (.invokevirtual 69, 3) := by decide +kernel
theorem d_Re_hasHead_21 : decode b_Re_hasHead 21 = .ok (.ifCond .ne 13, 3) := by decide +kernel
theorem d_Re_hasHead_24 : decode b_Re_hasHead 24 = .ok (.aload_n 0, 1) := by decide +kernel
theorem d_Re_hasHead_25 : decode b_Re_hasHead 25 = .ok (.iload_n 2, 1) := by decide +kernel
theorem d_Re_hasHead_26 : decode b_Re_hasHead 26 = .ok (.sipush 2048, 3) := by decide +kernel
theorem d_Re_hasHead_29 : decode b_Re_hasHead 29 = .ok (.imul, 1) := by decide +kernel
theorem d_Re_hasHead_30 : decode b_Re_hasHead 30 = .ok (.invokevirtual 74, 3) := by decide +kernel
theorem d_Re_hasHead_33 : decode b_Re_hasHead 33 = .ok (.ireturn, 1) := by decide +kernel
theorem d_Re_hasHead_34 : decode b_Re_hasHead 34 = .ok (.iinc 2 1, 3) := by decide +kernel
theorem d_Re_hasHead_37 : decode b_Re_hasHead 37 = .ok (.goto (-32), 3) := by decide +kernel
theorem d_Re_isSpecial_0 : decode b_Re_isSpecial 0 = .ok (.aload_n 0, 1) := by decide +kernel
theorem d_Re_isSpecial_1 : decode b_Re_isSpecial 1 = .ok (.getfield 27, 3) := by decide +kernel
theorem d_Re_isSpecial_4 : decode b_Re_isSpecial 4 = .ok (.iload_n 1, 1) := by decide +kernel
theorem d_Re_isSpecial_5 : decode b_Re_isSpecial 5 = .ok (.bipush 25, 2) := by decide +kernel
theorem d_Re_isSpecial_7 : decode b_Re_isSpecial 7 = .ok (.iadd, 1) := by decide +kernel
theorem d_Re_isSpecial_8 : decode b_Re_isSpecial 8 = .ok (.invokevirtual 81, 3) := by decide +kernel
theorem d_Re_isSpecial_11 : decode b_Re_isSpecial 11 = .ok (.iconst 2, 1) := by decide +kernel
theorem d_Re_isSpecial_12 : decode b_Re_isSpecial 12 = .ok (.if_icmp .ne 37, 3) := by decide +kernel
theorem d_Re_isSpecial_49 : decode b_Re_isSpecial 49 = .ok (.iconst 0, 1) := by decide +kernel
theorem d_Re_isSpecial_50 : decode b_Re_isSpecial 50 = .ok (.ireturn, 1) := by decide +kernel
theorem d_Re_isSpecial_15 : decode b_Re_isSpecial 15 = .ok (.aload_n 0, 1) := by decide +kernel
theorem d_Re_isSpecial_16 : decode b_Re_isSpecial 16 = .ok (.getfield 27, 3) := by decide +kernel
theorem d_Re_isSpecial_19 : decode b_Re_isSpecial 19 = .ok (.iload_n 1, 1) := by decide +kernel
theorem d_Re_isSpecial_20 : decode b_Re_isSpecial 20 = .ok (.bipush 32, 2) := by decide +kernel
theorem d_Re_isSpecial_22 : decode b_Re_isSpecial 22 = .ok (.iadd, 1) := by decide +kernel
theorem d_Re_isSpecial_23 : decode b_Re_isSpecial 23 = .ok (.invokevirtual 81, 3) := by decide +kernel
theorem d_Re_isSpecial_26 : decode b_Re_isSpecial 26 = .ok (.iconst 1, 1) := by decide +kernel
theorem d_Re_isSpecial_27 : decode b_Re_isSpecial 27 = .ok (.if_icmp .ne 22, 3) := by decide +kernel
theorem d_Re_isSpecial_30 : decode b_Re_isSpecial 30 = .ok (.aload_n 0, 1) := by decide +kernel
theorem d_Re_isSpecial_31 : decode b_Re_isSpecial 31 = .ok (.getfield 27, 3) := by decide +kernel
theorem d_Re_isSpecial_34 : decode b_Re_isSpecial 34 = .ok (.iload_n 1, 1) := by decide +kernel
theorem d_Re_isSpecial_35 : decode b_Re_isSpecial 35 = .ok (.bipush 33, 2) := by decide +kernel
theorem d_Re_isSpecial_37 : decode b_Re_isSpecial 37 = .ok (.iadd, 1) := by decide +kernel
theorem d_Re_isSpecial_38 : decode b_Re_isSpecial 38 = .ok (.invokevirtual 81, 3) := by decide +kernel
theorem d_Re_isSpecial_41 : decode b_Re_isSpecial 41 = .ok (.iload_n 2, 1) := by decide +kernel
theorem d_Re_isSpecial_42 : decode b_Re_isSpecial 42 = .ok (.if_icmp .ne 7, 3) := by decide +kernel
theorem d_Re_isSpecial_45 : decode b_Re_isSpecial 45 = .ok (.iconst 1, 1) := by decide +kernel
theorem d_Re_isSpecial_46 : decode b_Re_isSpecial 46 = .ok (.goto 4, 3) := by decide +kernel
theorem d_Re_isToldOnce_0 : decode b_Re_isToldOnce 0 = .ok (.iconst 0, 1) := by decide +kernel
theorem d_Re_isToldOnce_1 : decode b_Re_isToldOnce 1 = .ok (.istore_n 2, 1) := by decide +kernel
theorem d_Re_isToldOnce_2 : decode b_Re_isToldOnce 2 = .ok (.iload_n 2, 1) := by decide +kernel
theorem d_Re_isToldOnce_3 : decode b_Re_isToldOnce 3 = .ok (.aload_n 0, 1) := by decide +kernel
theorem d_Re_isToldOnce_4 : decode b_Re_isToldOnce 4 = .ok (.getfield 31, 3) := by decide +kernel
theorem d_Re_isToldOnce_7 : decode b_Re_isToldOnce 7 = .ok (.getfield 51, 3) := by decide +kernel
theorem d_Re_isToldOnce_10 : decode b_Re_isToldOnce 10 = .ok (.if_icmp .ge 41, 3) := by decide +kernel
theorem d_Re_isToldOnce_51 : decode b_Re_isToldOnce 51 = .ok (.iconst 1, 1) := by decide +kernel
theorem d_Re_isToldOnce_52 : decode b_Re_isToldOnce 52 = .ok (.ireturn, 1) := by decide +kernel
theorem d_Re_isToldOnce_13 : decode b_Re_isToldOnce 13 = .ok (.aload_n 0, 1) := by decide +kernel
theorem d_Re_isToldOnce_14 : decode b_Re_isToldOnce 14 = .ok (.getfield 31, 3) := by decide +kernel
theorem d_Re_isToldOnce_17 : decode b_Re_isToldOnce 17 = .ok (.getfield 54, 3) := by decide +kernel
theorem d_Re_isToldOnce_20 : decode b_Re_isToldOnce 20 = .ok (.iload_n 2, 1) := by decide +kernel
theorem d_Re_isToldOnce_21 : decode b_Re_isToldOnce 21 = .ok (.aaload, 1) := by decide +kernel
theorem d_Re_isToldOnce_22 : decode b_Re_isToldOnce 22 = .ok (.astore_n 3, 1) := by decide +kernel
theorem d_Re_isToldOnce_23 : decode b_Re_isToldOnce 23 = .ok (.aload_n 3, 1) := by decide +kernel
theorem d_Re_isToldOnce_24 : decode b_Re_isToldOnce 24 = .ok (.aload_n 1, 1) := by decide +kernel
theorem d_Re_isToldOnce_25 : decode b_Re_isToldOnce 25 = .ok (.if_acmp .eq 20, 3) := by decide +kernel
theorem d_Re_isToldOnce_45 : decode b_Re_isToldOnce 45 = .ok (.iinc 2 1, 3) := by decide +kernel
theorem d_Re_isToldOnce_48 : decode b_Re_isToldOnce 48 = .ok (.goto (-46), 3) := by decide +kernel
theorem d_Re_isToldOnce_28 : decode b_Re_isToldOnce 28 = .ok (.aload_n 3, 1) := by decide +kernel
theorem d_Re_isToldOnce_29 : decode b_Re_isToldOnce 29 = .ok (.getfield 58, 3) := by decide +kernel
theorem d_Re_isToldOnce_32 : decode b_Re_isToldOnce 32 = .ok (.ifCond .eq 13, 3) := by decide +kernel
theorem d_Re_isToldOnce_35 : decode b_Re_isToldOnce 35 = .ok (.aload_n 3, 1) := by decide +kernel
theorem d_Re_isToldOnce_36 : decode b_Re_isToldOnce 36 = .ok (.aload_n 1, 1) := by decide +kernel
theorem d_Re_isToldOnce_37 : decode b_Re_isToldOnce 37 = .ok (.invokevirtual 145, 3) := by decide +kernel
theorem d_Re_isToldOnce_40 : decode b_Re_isToldOnce 40 = .ok (.ifCond .eq 5, 3) := by decide +kernel
theorem d_Re_isToldOnce_43 : decode b_Re_isToldOnce 43 = .ok (.iconst 0, 1) := by decide +kernel
theorem d_Re_isToldOnce_44 : decode b_Re_isToldOnce 44 = .ok (.ireturn, 1) := by decide +kernel
theorem d_Re_hasTable_0 : decode b_Re_hasTable 0 = .ok (.iload_n 1, 1) := by decide +kernel
theorem d_Re_hasTable_1 : decode b_Re_hasTable 1 = .ok (.sipush 2048, 3) := by decide +kernel
theorem d_Re_hasTable_4 : decode b_Re_hasTable 4 = .ok (.imul, 1) := by decide +kernel
theorem d_Re_hasTable_5 : decode b_Re_hasTable 5 = .ok (.istore_n 3, 1) := by decide +kernel
theorem d_Re_hasTable_6 : decode b_Re_hasTable 6 = .ok (.iconst 0, 1) := by decide +kernel
theorem d_Re_hasTable_7 : decode b_Re_hasTable 7 = .ok (.istore 4, 2) := by decide +kernel
theorem d_Re_hasTable_9 : decode b_Re_hasTable 9 = .ok (.iload 4, 2) := by decide +kernel
theorem d_Re_hasTable_11 : decode b_Re_hasTable 11 = .ok (.iload_n 2, 1) := by decide +kernel
theorem d_Re_hasTable_12 : decode b_Re_hasTable 12 = .ok (.if_icmp .ge 59, 3) := by decide +kernel
theorem d_Re_hasTable_71 : decode b_Re_hasTable 71 = .ok (.iconst 1, 1) := by decide +kernel
theorem d_Re_hasTable_72 : decode b_Re_hasTable 72 = .ok (.ireturn, 1) := by decide +kernel
theorem d_Re_hasTable_15 : decode b_Re_hasTable 15 = .ok (.iload 4, 2) := by decide +kernel
theorem d_Re_hasTable_17 : decode b_Re_hasTable 17 = .ok (.aload_n 0, 1) := by decide +kernel
theorem d_Re_hasTable_18 : decode b_Re_hasTable 18 = .ok (.getfield 14, 3) := by decide +kernel
theorem d_Re_hasTable_21 : decode b_Re_hasTable 21 = .ok (.getfield 181, 3) := by decide +kernel
theorem d_Re_hasTable_24 : decode b_Re_hasTable 24 = .ok (.arraylength, 1) := by decide +kernel
theorem d_Re_hasTable_25 : decode b_Re_hasTable 25 = .ok (.if_icmp .ge 46, 3) := by decide +kernel
theorem d_Re_hasTable_28 : decode b_Re_hasTable 28 = .ok (.aload_n 0, 1) := by decide +kernel
theorem d_Re_hasTable_29 : decode b_Re_hasTable 29 = .ok (.getfield 27, 3) := by decide +kernel
theorem d_Re_hasTable_32 : decode b_Re_hasTable 32 = .ok (.iload_n 3, 1) := by decide +kernel
theorem d_Re_hasTable_33 : decode b_Re_hasTable 33 = .ok (.iload 4, 2) := by decide +kernel
theorem d_Re_hasTable_35 : decode b_Re_hasTable 35 = .ok (.iadd, 1) := by decide +kernel
theorem d_Re_hasTable_36 : decode b_Re_hasTable 36 = .ok (.invokevirtual 81, 3) := by decide +kernel
theorem d_Re_hasTable_39 : decode b_Re_hasTable 39 = .ok (.aload_n 0, 1) := by decide +kernel
theorem d_Re_hasTable_40 : decode b_Re_hasTable 40 = .ok (.getfield 14, 3) := by decide +kernel
theorem d_Re_hasTable_43 : decode b_Re_hasTable 43 = .ok (.getfield 181, 3) := by decide +kernel
theorem d_Re_hasTable_46 : decode b_Re_hasTable 46 = .ok (.iload 4, 2) := by decide +kernel
theorem d_Re_hasTable_48 : decode b_Re_hasTable 48 = .ok (.baload, 1) := by decide +kernel
theorem d_Re_hasTable_49 : decode b_Re_hasTable 49 = .ok (.sipush 255, 3) := by decide +kernel
theorem d_Re_hasTable_52 : decode b_Re_hasTable 52 = .ok (.iand, 1) := by decide +kernel
theorem d_Re_hasTable_53 : decode b_Re_hasTable 53 = .ok (.if_icmp .eq 12, 3) := by decide +kernel
theorem d_Re_hasTable_65 : decode b_Re_hasTable 65 = .ok (.iinc 4 1, 3) := by decide +kernel
theorem d_Re_hasTable_68 : decode b_Re_hasTable 68 = .ok (.goto (-59), 3) := by decide +kernel
theorem d_Re_hasTable_56 : decode b_Re_hasTable 56 = .ok (.aload_n 0, 1) := by decide +kernel
theorem d_Re_hasTable_57 : decode b_Re_hasTable 57 = .ok (.iload_n 3, 1) := by decide +kernel
theorem d_Re_hasTable_58 : decode b_Re_hasTable 58 = .ok (.iload 4, 2) := by decide +kernel
theorem d_Re_hasTable_60 : decode b_Re_hasTable 60 = .ok (.iadd, 1) := by decide +kernel
theorem d_Re_hasTable_61 : decode b_Re_hasTable 61 = .ok (.invokevirtual 74, 3) := by decide +kernel
theorem d_Re_hasTable_64 : decode b_Re_hasTable 64 = .ok (.ireturn, 1) := by decide +kernel
set_option maxHeartbeats 4000000 in
set_option maxRecDepth 100000 in
theorem t_wrongAt (l : Launch) (D : va_G) (t : Nat → ClassId) (G : hG) (ak av : Nat → Nat) (h : hM) (τ : tM) (n : Nat) (r9 : Nat) (a9 : Int32) (tb td md nd : Nat) (wp : Int32) (hn : n ≤ 200) (hT : TI τ t n h) (T_r9 : τ r9 = (6, 0)) (F_r9 : h r9 = some (.inr (5, [.ref tb, .ref td, .ref md, .ref nd, .int wp]))) : Met l y_Re_wrongAt (.code y_Re_wrongAt b_Re_wrongAt 2 (some .boolean) :: lw_g) { frames := 0, cells := 0, slots := 0, locals := 0 } (hP (kE D t G ak av) D vwCl G h [.ref r9, .int a9]) (hQi D vwCl G (fun r h' => zb r ∧ TI τ t n h' ∧ kf τ [] [r9] h h' ∧ ((∃ wp', h' r9 = some (.inr (5, [.ref tb, .ref td, .ref md, .ref nd, .int wp']))) ∧ r = 0))) 0 0 G.P := by
  refine Met.ofW (cc := b_Re_wrongAt) (maxL := 2) (ret := (some .boolean)) (by decide) rfl ?_
  intro p e s m args below meth c s₁ Bd hml hv
  obtain ⟨ha, hE, hH⟩ := hv
  have hx := Bd.exec
  have hb := Bd.bytes
  have hr := Bd.returns
  have hts : ∀ w ∈ lw_g, w.before args s = true := fun w hw => atoms_spec (ws := (.code y_Re_wrongAt b_Re_wrongAt 2 (some .boolean) :: lw_g)) Bd.pre w (List.mem_cons_of_mem _ hw)
  have hown : s.vm.findClass R_Re = some m.cls := findClass_of_methodNamed Bd.named
  have hlocks := Bd.notSynchronized
  have hK := hE.1
  have hH0 := hH
  have hLo : hLc G.P [] := hLc_nil
  have hz : s.heap.size ≤ s.heap.size := Nat.le_refl _
  have hl := lv_entry [.ref r9, .int a9] (n := 2) (Nat.le_of_ble_eq_true rfl)
  rw [show entryFrame m args 2 = F0 m 0 ((lg_sl [.ref r9, .int a9] ++ List.replicate (2 - (lg_sl [.ref r9, .int a9]).length) Slot.unset).toArray) [] from (by rw [ha]; exact lg_entry_eq m [.ref r9, .int a9] 2)]
  generalize (lg_sl [.ref r9, .int a9] ++ List.replicate (2 - (lg_sl [.ref r9, .int a9]).length) Slot.unset).toArray = ls at hl ⊢
  have hl : lv_has ls 2 [(0, .ref r9), (1, .int a9)] := hl
  have hkf : kf τ [] [r9] h h := kf_rf
  obtain ⟨Tr0, Tr1, Tr2, Tr3⟩ := TJ_rdr (v2 := some md) (v3 := some nd) hT T_r9 F_r9
  have T_md := Tr2 md rfl
  have T_nd := Tr3 nd rfl
  refine lv_aload_n hx hb d_Re_wrongAt_0 rfl (lv_at hl 0 rfl) ?_
  refine lv_iload_n hx hb d_Re_wrongAt_1 rfl (lv_at hl 1 rfl) ?_
  refine hm_put (ci := 5) (v := .int a9) (ty := .int) (C := R_Re) (T := F_Re) (N := 5) hx hb hts ig_Re t_Re tk_Re nm_Re hown hK hH hLo F_r9 rfl 4 (by decide) (hts _ mw_328) (fun _ h9 => h9) rfl (by decide +kernel) rfl rfl (Nat.le_of_ble_eq_true rfl) d_Re_wrongAt_2 (fun H_1 locs hH z_2 hLo => ?_)
  have hz : s.heap.size ≤ H_1.size := by rw [z_2]; exact hz
  obtain ⟨h_3, e_4⟩ : ∃ z, z = hu h r9 (.inr (5, [.ref tb, .ref td, .ref md, .ref nd, .int a9])) := ⟨_, rfl⟩
  have hH : hm D vwCl G h_3 H_1 := by rw [e_4]; exact hH
  have F_r9 : h_3 r9 = some (.inr (5, [.ref tb, .ref td, .ref md, .ref nd, .int a9])) := by rw [e_4]; exact hu_s _ _ _
  have hT : TI τ t n h_3 := by rw [e_4]; exact TI_put hT T_r9 (by decide) ⟨tb, td, some md, some nd, a9, rfl, Tr0, Tr1, Tr2, Tr3⟩
  have hkf : kf τ [] [r9] h h_3 := by rw [e_4]; exact kf_putM hkf (by simp)
  refine lv_iconst (v := 0) hx hb d_Re_wrongAt_5 (by decide) ?_
  exact W.zret (v := 0) hx hb hr (by decide) (fun t9 ht hW => ⟨0, h_3, rfl, ⟨zb0, hT, hkf, ⟨⟨_, F_r9⟩, rfl⟩⟩, by rw [ht]; exact hH, by rw [ht]; exact hz⟩) hLo d_Re_wrongAt_6

set_option maxHeartbeats 4000000 in
set_option maxRecDepth 100000 in
theorem t_beginsAs (l : Launch) (D : va_G) (t : Nat → ClassId) (G : hG) (ak av : Nat → Nat) (h : hM) (τ : tM) (n : Nat) (r9 : Nat) (s9 : Int32) (b9 : Int32) (tb td md nd : Nat) (wp : Int32) (hn : n ≤ 200) (hT : TI τ t n h) (T_r9 : τ r9 = (6, 0)) (F_r9 : h r9 = some (.inr (5, [.ref tb, .ref td, .ref md, .ref nd, .int wp]))) : Met l y_Re_beginsAs (.code y_Re_beginsAs b_Re_beginsAs 4 (some .boolean) :: lw_g) { frames := 5, cells := 0, slots := 0, locals := 108 } (hP (kE D t G ak av) D vwCl G h [.ref r9, .int s9, .int b9]) (hQi D vwCl G (fun r h' => zb r ∧ TI τ t n h' ∧ kf τ [] [r9] h h' ∧ ∃ wp', h' r9 = some (.inr (5, [.ref tb, .ref td, .ref md, .ref nd, .int wp'])))) 0 0 G.P := by
  refine Met.ofW (cc := b_Re_beginsAs) (maxL := 4) (ret := (some .boolean)) (by decide) rfl ?_
  intro p e s m args below meth c s₁ Bd hml hv
  obtain ⟨ha, hE, hH⟩ := hv
  have hx := Bd.exec
  have hb := Bd.bytes
  have hr := Bd.returns
  have hts : ∀ w ∈ lw_g, w.before args s = true := fun w hw => atoms_spec (ws := (.code y_Re_beginsAs b_Re_beginsAs 4 (some .boolean) :: lw_g)) Bd.pre w (List.mem_cons_of_mem _ hw)
  have hown : s.vm.findClass R_Re = some m.cls := findClass_of_methodNamed Bd.named
  have hlocks := Bd.notSynchronized
  have hK := hE.1
  have hH0 := hH
  have hLo : hLc G.P [] := hLc_nil
  have hz : s.heap.size ≤ s.heap.size := Nat.le_refl _
  have hl := lv_entry [.ref r9, .int s9, .int b9] (n := 4) (Nat.le_of_ble_eq_true rfl)
  rw [show entryFrame m args 4 = F0 m 0 ((lg_sl [.ref r9, .int s9, .int b9] ++ List.replicate (4 - (lg_sl [.ref r9, .int s9, .int b9]).length) Slot.unset).toArray) [] from (by rw [ha]; exact lg_entry_eq m [.ref r9, .int s9, .int b9] 4)]
  generalize (lg_sl [.ref r9, .int s9, .int b9] ++ List.replicate (4 - (lg_sl [.ref r9, .int s9, .int b9]).length) Slot.unset).toArray = ls at hl ⊢
  have hl : lv_has ls 4 [(0, .ref r9), (1, .int s9), (2, .int b9)] := hl
  have hkf : kf τ [] [r9] h h := kf_rf
  obtain ⟨Tr0, Tr1, Tr2, Tr3⟩ := TJ_rdr (v2 := some md) (v3 := some nd) hT T_r9 F_r9
  have T_md := Tr2 md rfl
  have T_nd := Tr3 nd rfl
  refine lv_iload_n hx hb d_Re_beginsAs_0 rfl (lv_at hl 1 rfl) ?_
  refine lv_sipush (v := 2048) hx hb d_Re_beginsAs_1 (by decide) ?_
  refine lv_imul hx hb d_Re_beginsAs_4 ?_
  refine lv_topi (fun v_1 e_2 => ?_)
  refine lv_istore_n (lv' := [(3, .int v_1), (0, .ref r9), (1, .int s9), (2, .int b9)]) hx hb d_Re_beginsAs_5 rfl hl (by decide) rfl (fun ls hl => ?_)
  refine lv_aload_n hx hb d_Re_beginsAs_6 rfl (lv_at hl 1 rfl) ?_
  refine hm_get (ci := 5) (v := .ref md) (C := R_Re) (T := F_Re) (N := 5) hx hb hts ig_Re hown hK hH F_r9 rfl 2 (by decide) (hts _ mw_329) (fun _ h9 => h9) rfl d_Re_beginsAs_7 ?_
  refine lv_iload_n hx hb d_Re_beginsAs_10 rfl (lv_at hl 0 rfl) ?_
  obtain ⟨v_3, v_5, F_md, c_4⟩ := TI_med hT T_md
  refine hm_callPi (va_runV (As := [.int v_1]) (b := md) (rest := []) ⟨hx, hb, hml, hown, hts⟩ (t_fetch l D t G ak av h τ n md v_1  hn hT T_md) ⟨cw9B 1 hts mw_31 mw_330 mw_32 rfl rfl (by decide +kernel) ⟨Nat.le_of_ble_eq_true rfl, Nat.le_of_ble_eq_true rfl⟩, hts _ mw_34, hts _ mw_35⟩ (hP_V (q := (R_Me, F_Me, 2)) kE_ok hE hK hH F_md rfl) rfl rfl hl.1 rfl (lv_room (Nat.le_of_ble_eq_true rfl)) d_Re_beginsAs_11 ⟨Nat.le_of_ble_eq_true rfl, Nat.le_of_ble_eq_true rfl⟩) (fun r_6 h_7 H_8 hp_10  hH z_9 => ?_)
  have hz : s.heap.size ≤ H_8.size := Nat.le_trans hz z_9
  obtain ⟨xp_11, rfl⟩ := hp_10
  refine lv_iload_n hx hb d_Re_beginsAs_14 rfl (lv_at hl 3 rfl) ?_
  refine lv_icmp_ne (tgt := 50) hx hb d_Re_beginsAs_15 (by decide) (fun hc_12 => ?_) (fun hc_12 => ?_)
  · skip
    refine lv_aload_n hx hb d_Re_beginsAs_50 rfl (lv_at hl 1 rfl) ?_
    refine lv_iload_n hx hb d_Re_beginsAs_51 rfl (lv_at hl 0 rfl) ?_
    refine hm_calli (va_runV (As := [.int v_1]) (b := r9) (rest := []) ⟨hx, hb, hml, hown, hts⟩ (t_wrongAt l D t G ak av h τ n r9 v_1 tb td md nd wp  hn hT T_r9  F_r9) ⟨cw9B 1 hts mw_331 mw_333 mw_332 rfl rfl (by decide +kernel) ⟨Nat.le_of_ble_eq_true rfl, Nat.le_of_ble_eq_true rfl⟩, hts _ mw_334, hts _ mw_335⟩ (hP_V (q := (R_Re, F_Re, 5)) kE_ok hE hK hH F_r9 rfl) rfl rfl hl.1 rfl (lv_room (Nat.le_of_ble_eq_true rfl)) d_Re_beginsAs_52 ⟨Nat.le_of_ble_eq_true rfl, Nat.le_of_ble_eq_true rfl⟩) hLo (fun r_13 h_14 H_15 locs hp_17 hH z_16 hLo => ?_)
    have hz : s.heap.size ≤ H_15.size := Nat.le_trans hz z_16
    have hT0 := hT
    obtain ⟨c_18, hT, kf_20, xp_19⟩ := hp_17
    have F_md : h_14 md = some (.inr (0, [.ref v_3, .int v_5])) := kf_at kf_20 T_md (by decide) tn0 (nmc (tne T_md T_r9 (by decide)) nm0) F_md
    have hkf : kf τ [] [r9] h h_14 := kf_tr hkf kf_20 (List.forall_mem_nil _) (List.forall_mem_cons.mpr ⟨Or.inl (by simp), List.forall_mem_nil _⟩)
    obtain ⟨⟨wp_21, F_r9⟩, rfl⟩ := xp_19
    exact W.zret (v := 0) hx hb hr (by decide) (fun t9 ht hW => ⟨0, h_14, rfl, ⟨zb0, hT, hkf, ⟨_, F_r9⟩⟩, by rw [ht]; exact hH, by rw [ht]; exact hz⟩) hLo d_Re_beginsAs_55
  · skip
    have ic_22 : r_6.toInt = b9.toInt := congrArg Int32.toInt hc_12
    refine lv_aload_n hx hb d_Re_beginsAs_18 rfl (lv_at hl 1 rfl) ?_
    refine hm_get (ci := 5) (v := .ref md) (C := R_Re) (T := F_Re) (N := 5) hx hb hts ig_Re hown hK hH F_r9 rfl 2 (by decide) (hts _ mw_329) (fun _ h9 => h9) rfl d_Re_beginsAs_19 ?_
    refine lv_iload_n hx hb d_Re_beginsAs_22 rfl (lv_at hl 0 rfl) ?_
    refine lv_iconst (v := 1) hx hb d_Re_beginsAs_23 (by decide) ?_
    refine lv_iadd hx hb d_Re_beginsAs_24 ?_
    refine va_ldcS hx hb hown hE.2.2.2.2.2.2.2.2.1 d_Re_beginsAs_25 ?_
    refine hm_callPi (va_runV (As := [.int (v_1 + 1), .ref (ak 0)]) (b := md) (rest := []) ⟨hx, hb, hml, hown, hts⟩ (t_hasText l D t G ak av h τ n md (v_1 + 1) 0  hn hT T_md (by decide)) ⟨cw9B 2 hts mw_52 mw_336 mw_32 rfl rfl (by decide +kernel) ⟨Nat.le_of_ble_eq_true rfl, Nat.le_of_ble_eq_true rfl⟩, hts _ mw_54, hts _ mw_55⟩ (hP_V (q := (R_Me, F_Me, 2)) kE_ok hE hK hH F_md rfl) rfl rfl hl.1 rfl (lv_room (Nat.le_of_ble_eq_true rfl)) d_Re_beginsAs_27 ⟨Nat.le_of_ble_eq_true rfl, Nat.le_of_ble_eq_true rfl⟩) (fun r_23 h_24 H_25 hp_27  hH z_26 => ?_)
    have hz : s.heap.size ≤ H_25.size := Nat.le_trans hz z_26
    obtain ⟨c_28, rfl⟩ := hp_27
    refine lv_if_eq (tgt := 50) hx hb d_Re_beginsAs_30 (by decide) (fun hc_30 => ?_) (fun hc_30 => ?_)
    · skip
      have ic_31 : r_23.toInt = 0 := congrArg Int32.toInt hc_30
      refine lv_aload_n hx hb d_Re_beginsAs_50 rfl (lv_at hl 1 rfl) ?_
      refine lv_iload_n hx hb d_Re_beginsAs_51 rfl (lv_at hl 0 rfl) ?_
      refine hm_calli (va_runV (As := [.int v_1]) (b := r9) (rest := []) ⟨hx, hb, hml, hown, hts⟩ (t_wrongAt l D t G ak av h τ n r9 v_1 tb td md nd wp  hn hT T_r9  F_r9) ⟨cw9B 1 hts mw_331 mw_333 mw_332 rfl rfl (by decide +kernel) ⟨Nat.le_of_ble_eq_true rfl, Nat.le_of_ble_eq_true rfl⟩, hts _ mw_334, hts _ mw_335⟩ (hP_V (q := (R_Re, F_Re, 5)) kE_ok hE hK hH F_r9 rfl) rfl rfl hl.1 rfl (lv_room (Nat.le_of_ble_eq_true rfl)) d_Re_beginsAs_52 ⟨Nat.le_of_ble_eq_true rfl, Nat.le_of_ble_eq_true rfl⟩) hLo (fun r_32 h_33 H_34 locs hp_36 hH z_35 hLo => ?_)
      have hz : s.heap.size ≤ H_34.size := Nat.le_trans hz z_35
      have hT0 := hT
      obtain ⟨c_37, hT, kf_39, xp_38⟩ := hp_36
      have F_md : h_33 md = some (.inr (0, [.ref v_3, .int v_5])) := kf_at kf_39 T_md (by decide) tn0 (nmc (tne T_md T_r9 (by decide)) nm0) F_md
      have hkf : kf τ [] [r9] h h_33 := kf_tr hkf kf_39 (List.forall_mem_nil _) (List.forall_mem_cons.mpr ⟨Or.inl (by simp), List.forall_mem_nil _⟩)
      obtain ⟨⟨wp_40, F_r9⟩, rfl⟩ := xp_38
      exact W.zret (v := 0) hx hb hr (by decide) (fun t9 ht hW => ⟨0, h_33, rfl, ⟨zb0, hT, hkf, ⟨_, F_r9⟩⟩, by rw [ht]; exact hH, by rw [ht]; exact hz⟩) hLo d_Re_beginsAs_55
    · skip
      refine lv_aload_n hx hb d_Re_beginsAs_33 rfl (lv_at hl 1 rfl) ?_
      refine hm_get (ci := 5) (v := .ref md) (C := R_Re) (T := F_Re) (N := 5) hx hb hts ig_Re hown hK hH F_r9 rfl 2 (by decide) (hts _ mw_329) (fun _ h9 => h9) rfl d_Re_beginsAs_34 ?_
      refine lv_iload_n hx hb d_Re_beginsAs_37 rfl (lv_at hl 0 rfl) ?_
      refine lv_bipush (v := 6) hx hb d_Re_beginsAs_38 (by decide) ?_
      refine lv_iadd hx hb d_Re_beginsAs_40 ?_
      refine hm_callPi (va_runV (As := [.int (v_1 + 6)]) (b := md) (rest := []) ⟨hx, hb, hml, hown, hts⟩ (t_fetch l D t G ak av h τ n md (v_1 + 6)  hn hT T_md) ⟨cw9B 1 hts mw_31 mw_330 mw_32 rfl rfl (by decide +kernel) ⟨Nat.le_of_ble_eq_true rfl, Nat.le_of_ble_eq_true rfl⟩, hts _ mw_34, hts _ mw_35⟩ (hP_V (q := (R_Me, F_Me, 2)) kE_ok hE hK hH F_md rfl) rfl rfl hl.1 rfl (lv_room (Nat.le_of_ble_eq_true rfl)) d_Re_beginsAs_41 ⟨Nat.le_of_ble_eq_true rfl, Nat.le_of_ble_eq_true rfl⟩) (fun r_41 h_42 H_43 hp_45  hH z_44 => ?_)
      have hz : s.heap.size ≤ H_43.size := Nat.le_trans hz z_44
      obtain ⟨xp_46, rfl⟩ := hp_45
      refine lv_iconst (v := 1) hx hb d_Re_beginsAs_44 (by decide) ?_
      refine lv_icmp_ne (tgt := 50) hx hb d_Re_beginsAs_45 (by decide) (fun hc_47 => ?_) (fun hc_47 => ?_)
      · skip
        refine lv_aload_n hx hb d_Re_beginsAs_50 rfl (lv_at hl 1 rfl) ?_
        refine lv_iload_n hx hb d_Re_beginsAs_51 rfl (lv_at hl 0 rfl) ?_
        refine hm_calli (va_runV (As := [.int v_1]) (b := r9) (rest := []) ⟨hx, hb, hml, hown, hts⟩ (t_wrongAt l D t G ak av h τ n r9 v_1 tb td md nd wp  hn hT T_r9  F_r9) ⟨cw9B 1 hts mw_331 mw_333 mw_332 rfl rfl (by decide +kernel) ⟨Nat.le_of_ble_eq_true rfl, Nat.le_of_ble_eq_true rfl⟩, hts _ mw_334, hts _ mw_335⟩ (hP_V (q := (R_Re, F_Re, 5)) kE_ok hE hK hH F_r9 rfl) rfl rfl hl.1 rfl (lv_room (Nat.le_of_ble_eq_true rfl)) d_Re_beginsAs_52 ⟨Nat.le_of_ble_eq_true rfl, Nat.le_of_ble_eq_true rfl⟩) hLo (fun r_48 h_49 H_50 locs hp_52 hH z_51 hLo => ?_)
        have hz : s.heap.size ≤ H_50.size := Nat.le_trans hz z_51
        have hT0 := hT
        obtain ⟨c_53, hT, kf_55, xp_54⟩ := hp_52
        have F_md : h_49 md = some (.inr (0, [.ref v_3, .int v_5])) := kf_at kf_55 T_md (by decide) tn0 (nmc (tne T_md T_r9 (by decide)) nm0) F_md
        have hkf : kf τ [] [r9] h h_49 := kf_tr hkf kf_55 (List.forall_mem_nil _) (List.forall_mem_cons.mpr ⟨Or.inl (by simp), List.forall_mem_nil _⟩)
        obtain ⟨⟨wp_56, F_r9⟩, rfl⟩ := xp_54
        exact W.zret (v := 0) hx hb hr (by decide) (fun t9 ht hW => ⟨0, h_49, rfl, ⟨zb0, hT, hkf, ⟨_, F_r9⟩⟩, by rw [ht]; exact hH, by rw [ht]; exact hz⟩) hLo d_Re_beginsAs_55
      · skip
        have ic_57 : r_41.toInt = 1 := congrArg Int32.toInt hc_47
        refine lv_iconst (v := 1) hx hb d_Re_beginsAs_48 (by decide) ?_
        exact W.zret (v := 1) hx hb hr (by decide) (fun t9 ht hW => ⟨1, h, rfl, ⟨zb1, hT, hkf, ⟨_, F_r9⟩⟩, by rw [ht]; exact hH, by rw [ht]; exact hz⟩) hLo d_Re_beginsAs_49

set_option maxHeartbeats 4000000 in
set_option maxRecDepth 100000 in
theorem t_hasHead (l : Launch) (D : va_G) (t : Nat → ClassId) (G : hG) (ak av : Nat → Nat) (h : hM) (τ : tM) (n : Nat) (r9 : Nat) (b8 : Int32) (tb td md nd : Nat) (wp : Int32) (hn : n ≤ 200) (hT : TI τ t n h) (T_r9 : τ r9 = (6, 0)) (F_r9 : h r9 = some (.inr (5, [.ref tb, .ref td, .ref md, .ref nd, .int wp]))) : Met l y_Re_hasHead (.code y_Re_hasHead b_Re_hasHead 3 (some .boolean) :: lw_g) { frames := 6, cells := 0, slots := 0, locals := 131 } (hP (kE D t G ak av) D vwCl G h [.ref r9, .int b8]) (hQi D vwCl G (fun r h' => zb r ∧ TI τ t n h' ∧ kf τ [] [r9] h h' ∧ ∃ wp', h' r9 = some (.inr (5, [.ref tb, .ref td, .ref md, .ref nd, .int wp'])))) 0 0 G.P := by
  refine Met.ofW (cc := b_Re_hasHead) (maxL := 3) (ret := (some .boolean)) (by decide) rfl ?_
  intro p e s m args below meth c s₁ Bd hml hv
  obtain ⟨ha, hE, hH⟩ := hv
  have hx := Bd.exec
  have hb := Bd.bytes
  have hr := Bd.returns
  have hts : ∀ w ∈ lw_g, w.before args s = true := fun w hw => atoms_spec (ws := (.code y_Re_hasHead b_Re_hasHead 3 (some .boolean) :: lw_g)) Bd.pre w (List.mem_cons_of_mem _ hw)
  have hown : s.vm.findClass R_Re = some m.cls := findClass_of_methodNamed Bd.named
  have hlocks := Bd.notSynchronized
  have hK := hE.1
  have hH0 := hH
  have hLo : hLc G.P [] := hLc_nil
  have hz : s.heap.size ≤ s.heap.size := Nat.le_refl _
  have hl := lv_entry [.ref r9, .int b8] (n := 3) (Nat.le_of_ble_eq_true rfl)
  rw [show entryFrame m args 3 = F0 m 0 ((lg_sl [.ref r9, .int b8] ++ List.replicate (3 - (lg_sl [.ref r9, .int b8]).length) Slot.unset).toArray) [] from (by rw [ha]; exact lg_entry_eq m [.ref r9, .int b8] 3)]
  generalize (lg_sl [.ref r9, .int b8] ++ List.replicate (3 - (lg_sl [.ref r9, .int b8]).length) Slot.unset).toArray = ls at hl ⊢
  have hl : lv_has ls 3 [(0, .ref r9), (1, .int b8)] := hl
  have hkf : kf τ [] [r9] h h := kf_rf
  obtain ⟨Tr0, Tr1, Tr2, Tr3⟩ := TJ_rdr (v2 := some md) (v3 := some nd) hT T_r9 F_r9
  have T_md := Tr2 md rfl
  have T_nd := Tr3 nd rfl
  refine lv_iload_n hx hb d_Re_hasHead_0 rfl (lv_at hl 1 rfl) ?_
  refine lv_bipush (v := 16) hx hb d_Re_hasHead_1 (by decide) ?_
  refine lv_iadd hx hb d_Re_hasHead_3 ?_
  refine lv_topi (fun v_1 e_2 => ?_)
  refine lv_istore_n (lv' := [(2, .int v_1), (0, .ref r9), (1, .int b8)]) hx hb d_Re_hasHead_4 rfl hl (by decide) rfl (fun ls hl => ?_)
  refine hm_loop (fun k5 ls H locs hh5 => ∃ (i9 : Int32), k5 = mU i9 ∧ lv_has ls 3 [(0, .ref r9), (1, .int b8), (2, .int i9)] ∧ hm D vwCl G hh5 H ∧ s.heap.size ≤ H.size ∧ hLc G.P locs ∧ hh5 r9 = some (.inr (5, [.ref tb, .ref td, .ref md, .ref nd, .int wp])) ∧ (TI τ t n hh5) ∧ (kf τ [] [r9] h hh5)) ?_ (hh := h) ⟨v_1, rfl, (lv_sub hl [1, 2, 0] rfl), hH, hz, hLo, F_r9, hT, hkf⟩
  rintro k5 ls H locs hh5 ⟨i9, hk5, hl, hH, hz, hLo, F_r9, hT, hkf⟩ ih5
  refine lv_iload_n hx hb d_Re_hasHead_5 rfl (lv_at hl 2 rfl) ?_
  refine lv_iload_n hx hb d_Re_hasHead_6 rfl (lv_at hl 1 rfl) ?_
  refine lv_bipush (v := 19) hx hb d_Re_hasHead_7 (by decide) ?_
  refine lv_iadd hx hb d_Re_hasHead_9 ?_
  refine lv_icmp_gt (tgt := 40) hx hb d_Re_hasHead_10 (by decide) (fun hc_3 => ?_) (fun hc_3 => ?_)
  · skip
    have ic_4 : (b8 + 19).toInt < i9.toInt := iLt hc_3
    have iu_5 : i9.toInt < 2147483648 := iUp _
    refine lv_aload_n hx hb d_Re_hasHead_40 rfl (lv_at hl 0 rfl) ?_
    refine lv_iload_n hx hb d_Re_hasHead_41 rfl (lv_at hl 1 rfl) ?_
    refine lv_bipush (v := 16) hx hb d_Re_hasHead_42 (by decide) ?_
    refine lv_iadd hx hb d_Re_hasHead_44 ?_
    refine lv_iconst (v := 1) hx hb d_Re_hasHead_45 (by decide) ?_
    refine hm_calli (va_runV (As := [.int (b8 + 16), .int 1]) (b := r9) (rest := []) ⟨hx, hb, hml, hown, hts⟩ (t_beginsAs l D t G ak av hh5 τ n r9 (b8 + 16) 1 tb td md nd wp  hn hT T_r9  F_r9) ⟨cw9B 2 hts mw_337 mw_338 mw_332 rfl rfl (by decide +kernel) ⟨Nat.le_of_ble_eq_true rfl, Nat.le_of_ble_eq_true rfl⟩, hts _ mw_339, hts _ mw_340⟩ (hP_V (q := (R_Re, F_Re, 5)) kE_ok hE hK hH F_r9 rfl) rfl rfl hl.1 rfl (lv_room (Nat.le_of_ble_eq_true rfl)) d_Re_hasHead_46 ⟨Nat.le_of_ble_eq_true rfl, Nat.le_of_ble_eq_true rfl⟩) hLo (fun r_6 h_7 H_8 locs hp_10 hH z_9 hLo => ?_)
    have hz : s.heap.size ≤ H_8.size := Nat.le_trans hz z_9
    have hT0 := hT
    obtain ⟨c_11, hT, kf_13, xp_12⟩ := hp_10
    have hkf : kf τ [] [r9] h h_7 := kf_tr hkf kf_13 (List.forall_mem_nil _) (List.forall_mem_cons.mpr ⟨Or.inl (by simp), List.forall_mem_nil _⟩)
    obtain ⟨wp_14, F_r9⟩ := xp_12
    refine lv_if_eq (tgt := 70) hx hb d_Re_hasHead_49 (by decide) (fun hc_15 => ?_) (fun hc_15 => ?_)
    · skip
      have ic_16 : r_6.toInt = 0 := congrArg Int32.toInt hc_15
      refine lv_iconst (v := 0) hx hb d_Re_hasHead_70 (by decide) ?_
      exact W.zret (v := 0) hx hb hr (by decide) (fun t9 ht hW => ⟨0, h_7, rfl, ⟨zb0, hT, hkf, ⟨_, F_r9⟩⟩, by rw [ht]; exact hH, by rw [ht]; exact hz⟩) hLo d_Re_hasHead_71
    · skip
      refine lv_aload_n hx hb d_Re_hasHead_52 rfl (lv_at hl 0 rfl) ?_
      refine lv_iload_n hx hb d_Re_hasHead_53 rfl (lv_at hl 1 rfl) ?_
      refine lv_bipush (v := 17) hx hb d_Re_hasHead_54 (by decide) ?_
      refine lv_iadd hx hb d_Re_hasHead_56 ?_
      refine lv_sipush (v := 255) hx hb d_Re_hasHead_57 (by decide) ?_
      refine hm_calli (va_runV (As := [.int (b8 + 17), .int 255]) (b := r9) (rest := []) ⟨hx, hb, hml, hown, hts⟩ (t_beginsAs l D t G ak av h_7 τ n r9 (b8 + 17) 255 tb td md nd wp_14  hn hT T_r9  F_r9) ⟨cw9B 2 hts mw_337 mw_338 mw_332 rfl rfl (by decide +kernel) ⟨Nat.le_of_ble_eq_true rfl, Nat.le_of_ble_eq_true rfl⟩, hts _ mw_339, hts _ mw_340⟩ (hP_V (q := (R_Re, F_Re, 5)) kE_ok hE hK hH F_r9 rfl) rfl rfl hl.1 rfl (lv_room (Nat.le_of_ble_eq_true rfl)) d_Re_hasHead_60 ⟨Nat.le_of_ble_eq_true rfl, Nat.le_of_ble_eq_true rfl⟩) hLo (fun r_17 h_18 H_19 locs hp_21 hH z_20 hLo => ?_)
      have hz : s.heap.size ≤ H_19.size := Nat.le_trans hz z_20
      have hT0 := hT
      obtain ⟨c_22, hT, kf_24, xp_23⟩ := hp_21
      have hkf : kf τ [] [r9] h h_18 := kf_tr hkf kf_24 (List.forall_mem_nil _) (List.forall_mem_cons.mpr ⟨Or.inl (by simp), List.forall_mem_nil _⟩)
      obtain ⟨wp_25, F_r9⟩ := xp_23
      refine lv_if_eq (tgt := 70) hx hb d_Re_hasHead_63 (by decide) (fun hc_26 => ?_) (fun hc_26 => ?_)
      · skip
        have ic_27 : r_17.toInt = 0 := congrArg Int32.toInt hc_26
        refine lv_iconst (v := 0) hx hb d_Re_hasHead_70 (by decide) ?_
        exact W.zret (v := 0) hx hb hr (by decide) (fun t9 ht hW => ⟨0, h_18, rfl, ⟨zb0, hT, hkf, ⟨_, F_r9⟩⟩, by rw [ht]; exact hH, by rw [ht]; exact hz⟩) hLo d_Re_hasHead_71
      · skip
        refine lv_iconst (v := 1) hx hb d_Re_hasHead_66 (by decide) ?_
        refine lv_goto (tgt := 71) hx hb d_Re_hasHead_67 (by decide) ?_
        exact W.zret (v := 1) hx hb hr (by decide) (fun t9 ht hW => ⟨1, h_18, rfl, ⟨zb1, hT, hkf, ⟨_, F_r9⟩⟩, by rw [ht]; exact hH, by rw [ht]; exact hz⟩) hLo d_Re_hasHead_71
  · skip
    have ic_28 : i9.toInt ≤ (b8 + 19).toInt := iNl hc_3
    refine lv_aload_n hx hb d_Re_hasHead_13 rfl (lv_at hl 0 rfl) ?_
    refine hm_get (ci := 5) (v := .ref md) (C := R_Re) (T := F_Re) (N := 5) hx hb hts ig_Re hown hK hH F_r9 rfl 2 (by decide) (hts _ mw_329) (fun _ h9 => h9) rfl d_Re_hasHead_14 ?_
    refine lv_iload_n hx hb d_Re_hasHead_17 rfl (lv_at hl 2 rfl) ?_
    obtain ⟨v_29, v_31, F_md, c_30⟩ := TI_med hT T_md
    refine hm_callPi (va_runV (As := [.int i9]) (b := md) (rest := []) ⟨hx, hb, hml, hown, hts⟩ (t_isWritten l D t G ak av hh5 τ n md i9  hn hT T_md) ⟨cw9B 1 hts mw_48 mw_341 mw_32 rfl rfl (by decide +kernel) ⟨Nat.le_of_ble_eq_true rfl, Nat.le_of_ble_eq_true rfl⟩, hts _ mw_50, hts _ mw_51⟩ (hP_V (q := (R_Me, F_Me, 2)) kE_ok hE hK hH F_md rfl) rfl rfl hl.1 rfl (lv_room (Nat.le_of_ble_eq_true rfl)) d_Re_hasHead_18 ⟨Nat.le_of_ble_eq_true rfl, Nat.le_of_ble_eq_true rfl⟩) (fun r_32 h_33 H_34 hp_36  hH z_35 => ?_)
    have hz : s.heap.size ≤ H_34.size := Nat.le_trans hz z_35
    obtain ⟨c_37, xp_38, rfl⟩ := hp_36
    rcases xp_38 with rfl | ⟨rfl, ix9, iy9⟩
    · skip
      refine lv_if_ne (tgt := 34) hx hb d_Re_hasHead_21 (by decide) (fun hc_39 => absurd hc_39 (by decide)) (fun hc_39 => ?_)
      refine lv_aload_n hx hb d_Re_hasHead_24 rfl (lv_at hl 0 rfl) ?_
      refine lv_iload_n hx hb d_Re_hasHead_25 rfl (lv_at hl 2 rfl) ?_
      refine lv_sipush (v := 2048) hx hb d_Re_hasHead_26 (by decide) ?_
      refine lv_imul hx hb d_Re_hasHead_29 ?_
      refine hm_calli (va_runV (As := [.int (i9 * 2048)]) (b := r9) (rest := []) ⟨hx, hb, hml, hown, hts⟩ (t_wrongAt l D t G ak av hh5 τ n r9 (i9 * 2048) tb td md nd wp  hn hT T_r9  F_r9) ⟨cw9B 1 hts mw_331 mw_333 mw_332 rfl rfl (by decide +kernel) ⟨Nat.le_of_ble_eq_true rfl, Nat.le_of_ble_eq_true rfl⟩, hts _ mw_334, hts _ mw_335⟩ (hP_V (q := (R_Re, F_Re, 5)) kE_ok hE hK hH F_r9 rfl) rfl rfl hl.1 rfl (lv_room (Nat.le_of_ble_eq_true rfl)) d_Re_hasHead_30 ⟨Nat.le_of_ble_eq_true rfl, Nat.le_of_ble_eq_true rfl⟩) hLo (fun r_40 h_41 H_42 locs hp_44 hH z_43 hLo => ?_)
      have hz : s.heap.size ≤ H_42.size := Nat.le_trans hz z_43
      have hT0 := hT
      obtain ⟨c_45, hT, kf_47, xp_46⟩ := hp_44
      have F_md : h_41 md = some (.inr (0, [.ref v_29, .int v_31])) := kf_at kf_47 T_md (by decide) tn0 (nmc (tne T_md T_r9 (by decide)) nm0) F_md
      have hkf : kf τ [] [r9] h h_41 := kf_tr hkf kf_47 (List.forall_mem_nil _) (List.forall_mem_cons.mpr ⟨Or.inl (by simp), List.forall_mem_nil _⟩)
      obtain ⟨⟨wp_48, F_r9⟩, rfl⟩ := xp_46
      exact W.zret (v := 0) hx hb hr (by decide) (fun t9 ht hW => ⟨0, h_41, rfl, ⟨zb0, hT, hkf, ⟨_, F_r9⟩⟩, by rw [ht]; exact hH, by rw [ht]; exact hz⟩) hLo d_Re_hasHead_33
    · skip
      refine lv_if_ne (tgt := 34) hx hb d_Re_hasHead_21 (by decide) (fun hc_49 => ?_) (fun hc_49 => absurd hc_49 (by decide))
      obtain ⟨j_50, e_51⟩ : ∃ z : Int32, z = i9 + 1 := ⟨_, rfl⟩
      refine lv_iinc (v := j_50) (lv' := [(2, .int j_50), (0, .ref r9), (1, .int b8)]) hx hb d_Re_hasHead_34 hl (k := 2) rfl e_51.symm (by decide) rfl (fun ls hl => ?_)
      refine lv_goto (tgt := 5) hx hb d_Re_hasHead_37 (by decide) ?_
      have is_52 : j_50.toInt = i9.toInt + 1 := by rw [e_51]; exact iAddK 1 rfl (by omega) (by omega)
      exact ih5 (mU j_50) ls _ locs _ (by rw [hk5]; exact mU_lt (by omega)) ⟨j_50, rfl, (lv_sub hl [1, 2, 0] rfl), hH, hz, hLo, F_r9, hT, hkf⟩

set_option maxHeartbeats 4000000 in
set_option maxRecDepth 100000 in
theorem t_isSpecial (l : Launch) (D : va_G) (t : Nat → ClassId) (G : hG) (ak av : Nat → Nat) (h : hM) (τ : tM) (n : Nat) (r9 : Nat) (a9 : Int32) (b9 : Int32) (tb td md nd : Nat) (wp : Int32) (hn : n ≤ 200) (hT : TI τ t n h) (T_r9 : τ r9 = (6, 0)) (F_r9 : h r9 = some (.inr (5, [.ref tb, .ref td, .ref md, .ref nd, .int wp]))) : Met l y_Re_isSpecial (.code y_Re_isSpecial b_Re_isSpecial 3 (some .boolean) :: lw_g) { frames := 1, cells := 0, slots := 0, locals := 23 } (hP (kE D t G ak av) D vwCl G h [.ref r9, .int a9, .int b9]) (hQi D vwCl G (fun r h' => zb r ∧ h = h')) 0 0 nof := by
  refine Met.ofW (cc := b_Re_isSpecial) (maxL := 3) (ret := (some .boolean)) (by decide) rfl ?_
  intro p e s m args below meth c s₁ Bd hml hv
  obtain ⟨ha, hE, hH⟩ := hv
  have hx := Bd.exec
  have hb := Bd.bytes
  have hr := Bd.returns
  have hts : ∀ w ∈ lw_g, w.before args s = true := fun w hw => atoms_spec (ws := (.code y_Re_isSpecial b_Re_isSpecial 3 (some .boolean) :: lw_g)) Bd.pre w (List.mem_cons_of_mem _ hw)
  have hown : s.vm.findClass R_Re = some m.cls := findClass_of_methodNamed Bd.named
  have hlocks := Bd.notSynchronized
  have hK := hE.1
  have hH0 := hH
  have hLo : hLc nof [] := hLc_nil
  have hz : s.heap.size ≤ s.heap.size := Nat.le_refl _
  have hl := lv_entry [.ref r9, .int a9, .int b9] (n := 3) (Nat.le_of_ble_eq_true rfl)
  rw [show entryFrame m args 3 = F0 m 0 ((lg_sl [.ref r9, .int a9, .int b9] ++ List.replicate (3 - (lg_sl [.ref r9, .int a9, .int b9]).length) Slot.unset).toArray) [] from (by rw [ha]; exact lg_entry_eq m [.ref r9, .int a9, .int b9] 3)]
  generalize (lg_sl [.ref r9, .int a9, .int b9] ++ List.replicate (3 - (lg_sl [.ref r9, .int a9, .int b9]).length) Slot.unset).toArray = ls at hl ⊢
  have hl : lv_has ls 3 [(0, .ref r9), (1, .int a9), (2, .int b9)] := hl
  obtain ⟨Tr0, Tr1, Tr2, Tr3⟩ := TJ_rdr (v2 := some md) (v3 := some nd) hT T_r9 F_r9
  have T_md := Tr2 md rfl
  have T_nd := Tr3 nd rfl
  refine lv_aload_n hx hb d_Re_isSpecial_0 rfl (lv_at hl 0 rfl) ?_
  refine hm_get (ci := 5) (v := .ref md) (C := R_Re) (T := F_Re) (N := 5) hx hb hts ig_Re hown hK hH F_r9 rfl 2 (by decide) (hts _ mw_329) (fun _ h9 => h9) rfl d_Re_isSpecial_1 ?_
  refine lv_iload_n hx hb d_Re_isSpecial_4 rfl (lv_at hl 1 rfl) ?_
  refine lv_bipush (v := 25) hx hb d_Re_isSpecial_5 (by decide) ?_
  refine lv_iadd hx hb d_Re_isSpecial_7 ?_
  obtain ⟨v_1, v_3, F_md, c_2⟩ := TI_med hT T_md
  refine hm_callPi (va_runV (As := [.int (a9 + 25)]) (b := md) (rest := []) ⟨hx, hb, hml, hown, hts⟩ (t_fetch l D t G ak av h τ n md (a9 + 25)  hn hT T_md) ⟨cw9B 1 hts mw_31 mw_330 mw_32 rfl rfl (by decide +kernel) ⟨Nat.le_of_ble_eq_true rfl, Nat.le_of_ble_eq_true rfl⟩, hts _ mw_34, hts _ mw_35⟩ (hP_V (q := (R_Me, F_Me, 2)) kE_ok hE hK hH F_md rfl) rfl rfl hl.1 rfl (lv_room (Nat.le_of_ble_eq_true rfl)) d_Re_isSpecial_8 ⟨Nat.le_of_ble_eq_true rfl, Nat.le_of_ble_eq_true rfl⟩) (fun r_4 h_5 H_6 hp_8  hH z_7 => ?_)
  have hz : s.heap.size ≤ H_6.size := Nat.le_trans hz z_7
  obtain ⟨xp_9, rfl⟩ := hp_8
  refine lv_iconst (v := 2) hx hb d_Re_isSpecial_11 (by decide) ?_
  refine lv_icmp_ne (tgt := 49) hx hb d_Re_isSpecial_12 (by decide) (fun hc_10 => ?_) (fun hc_10 => ?_)
  · skip
    refine lv_iconst (v := 0) hx hb d_Re_isSpecial_49 (by decide) ?_
    exact W.zret (v := 0) hx hb hr (by decide) (fun t9 ht hW => ⟨0, h, rfl, ⟨zb0, rfl⟩, by rw [ht]; exact hH, by rw [ht]; exact hz⟩) hLo d_Re_isSpecial_50
  · skip
    have ic_11 : r_4.toInt = 2 := congrArg Int32.toInt hc_10
    refine lv_aload_n hx hb d_Re_isSpecial_15 rfl (lv_at hl 0 rfl) ?_
    refine hm_get (ci := 5) (v := .ref md) (C := R_Re) (T := F_Re) (N := 5) hx hb hts ig_Re hown hK hH F_r9 rfl 2 (by decide) (hts _ mw_329) (fun _ h9 => h9) rfl d_Re_isSpecial_16 ?_
    refine lv_iload_n hx hb d_Re_isSpecial_19 rfl (lv_at hl 1 rfl) ?_
    refine lv_bipush (v := 32) hx hb d_Re_isSpecial_20 (by decide) ?_
    refine lv_iadd hx hb d_Re_isSpecial_22 ?_
    refine hm_callPi (va_runV (As := [.int (a9 + 32)]) (b := md) (rest := []) ⟨hx, hb, hml, hown, hts⟩ (t_fetch l D t G ak av h τ n md (a9 + 32)  hn hT T_md) ⟨cw9B 1 hts mw_31 mw_330 mw_32 rfl rfl (by decide +kernel) ⟨Nat.le_of_ble_eq_true rfl, Nat.le_of_ble_eq_true rfl⟩, hts _ mw_34, hts _ mw_35⟩ (hP_V (q := (R_Me, F_Me, 2)) kE_ok hE hK hH F_md rfl) rfl rfl hl.1 rfl (lv_room (Nat.le_of_ble_eq_true rfl)) d_Re_isSpecial_23 ⟨Nat.le_of_ble_eq_true rfl, Nat.le_of_ble_eq_true rfl⟩) (fun r_12 h_13 H_14 hp_16  hH z_15 => ?_)
    have hz : s.heap.size ≤ H_14.size := Nat.le_trans hz z_15
    obtain ⟨xp_17, rfl⟩ := hp_16
    refine lv_iconst (v := 1) hx hb d_Re_isSpecial_26 (by decide) ?_
    refine lv_icmp_ne (tgt := 49) hx hb d_Re_isSpecial_27 (by decide) (fun hc_18 => ?_) (fun hc_18 => ?_)
    · skip
      refine lv_iconst (v := 0) hx hb d_Re_isSpecial_49 (by decide) ?_
      exact W.zret (v := 0) hx hb hr (by decide) (fun t9 ht hW => ⟨0, h, rfl, ⟨zb0, rfl⟩, by rw [ht]; exact hH, by rw [ht]; exact hz⟩) hLo d_Re_isSpecial_50
    · skip
      have ic_19 : r_12.toInt = 1 := congrArg Int32.toInt hc_18
      refine lv_aload_n hx hb d_Re_isSpecial_30 rfl (lv_at hl 0 rfl) ?_
      refine hm_get (ci := 5) (v := .ref md) (C := R_Re) (T := F_Re) (N := 5) hx hb hts ig_Re hown hK hH F_r9 rfl 2 (by decide) (hts _ mw_329) (fun _ h9 => h9) rfl d_Re_isSpecial_31 ?_
      refine lv_iload_n hx hb d_Re_isSpecial_34 rfl (lv_at hl 1 rfl) ?_
      refine lv_bipush (v := 33) hx hb d_Re_isSpecial_35 (by decide) ?_
      refine lv_iadd hx hb d_Re_isSpecial_37 ?_
      refine hm_callPi (va_runV (As := [.int (a9 + 33)]) (b := md) (rest := []) ⟨hx, hb, hml, hown, hts⟩ (t_fetch l D t G ak av h τ n md (a9 + 33)  hn hT T_md) ⟨cw9B 1 hts mw_31 mw_330 mw_32 rfl rfl (by decide +kernel) ⟨Nat.le_of_ble_eq_true rfl, Nat.le_of_ble_eq_true rfl⟩, hts _ mw_34, hts _ mw_35⟩ (hP_V (q := (R_Me, F_Me, 2)) kE_ok hE hK hH F_md rfl) rfl rfl hl.1 rfl (lv_room (Nat.le_of_ble_eq_true rfl)) d_Re_isSpecial_38 ⟨Nat.le_of_ble_eq_true rfl, Nat.le_of_ble_eq_true rfl⟩) (fun r_20 h_21 H_22 hp_24  hH z_23 => ?_)
      have hz : s.heap.size ≤ H_22.size := Nat.le_trans hz z_23
      obtain ⟨xp_25, rfl⟩ := hp_24
      refine lv_iload_n hx hb d_Re_isSpecial_41 rfl (lv_at hl 2 rfl) ?_
      refine lv_icmp_ne (tgt := 49) hx hb d_Re_isSpecial_42 (by decide) (fun hc_26 => ?_) (fun hc_26 => ?_)
      · skip
        refine lv_iconst (v := 0) hx hb d_Re_isSpecial_49 (by decide) ?_
        exact W.zret (v := 0) hx hb hr (by decide) (fun t9 ht hW => ⟨0, h, rfl, ⟨zb0, rfl⟩, by rw [ht]; exact hH, by rw [ht]; exact hz⟩) hLo d_Re_isSpecial_50
      · skip
        have ic_27 : r_20.toInt = b9.toInt := congrArg Int32.toInt hc_26
        refine lv_iconst (v := 1) hx hb d_Re_isSpecial_45 (by decide) ?_
        refine lv_goto (tgt := 50) hx hb d_Re_isSpecial_46 (by decide) ?_
        exact W.zret (v := 1) hx hb hr (by decide) (fun t9 ht hW => ⟨1, h, rfl, ⟨zb1, rfl⟩, by rw [ht]; exact hH, by rw [ht]; exact hz⟩) hLo d_Re_isSpecial_50

set_option maxHeartbeats 4000000 in
set_option maxRecDepth 100000 in
theorem t_toldOnce (l : Launch) (D : va_G) (t : Nat → ClassId) (G : hG) (ak av : Nat → Nat) (h : hM) (τ : tM) (n f : Nat) (r9 : Nat) (e9 : Nat) (tb td md nd : Nat) (wp : Int32) (hn : n ≤ 200) (hT : TI τ t n h) (T_r9 : τ r9 = (6, 0)) (T_e9 : τ e9 = (10, f)) (F_r9 : h r9 = some (.inr (5, [.ref tb, .ref td, .ref md, .ref nd, .int wp]))) : Met l y_Re_isToldOnce (.code y_Re_isToldOnce b_Re_isToldOnce 4 (some .boolean) :: lw_g) { frames := 2, cells := 0, slots := 0, locals := 41 } (hP (kE D t G ak av) D vwCl G h [.ref r9, .ref e9]) (hQi D vwCl G (fun r h' => zb r ∧ h = h')) 0 0 nof := by
  refine Met.ofW (cc := b_Re_isToldOnce) (maxL := 4) (ret := (some .boolean)) (by decide) rfl ?_
  intro p e s m args below meth c s₁ Bd hml hv
  obtain ⟨ha, hE, hH⟩ := hv
  have hx := Bd.exec
  have hb := Bd.bytes
  have hr := Bd.returns
  have hts : ∀ w ∈ lw_g, w.before args s = true := fun w hw => atoms_spec (ws := (.code y_Re_isToldOnce b_Re_isToldOnce 4 (some .boolean) :: lw_g)) Bd.pre w (List.mem_cons_of_mem _ hw)
  have hown : s.vm.findClass R_Re = some m.cls := findClass_of_methodNamed Bd.named
  have hlocks := Bd.notSynchronized
  have hK := hE.1
  have hH0 := hH
  have hLo : hLc nof [] := hLc_nil
  have hz : s.heap.size ≤ s.heap.size := Nat.le_refl _
  have hl := lv_entry [.ref r9, .ref e9] (n := 4) (Nat.le_of_ble_eq_true rfl)
  rw [show entryFrame m args 4 = F0 m 0 ((lg_sl [.ref r9, .ref e9] ++ List.replicate (4 - (lg_sl [.ref r9, .ref e9]).length) Slot.unset).toArray) [] from (by rw [ha]; exact lg_entry_eq m [.ref r9, .ref e9] 4)]
  generalize (lg_sl [.ref r9, .ref e9] ++ List.replicate (4 - (lg_sl [.ref r9, .ref e9]).length) Slot.unset).toArray = ls at hl ⊢
  have hl : lv_has ls 4 [(0, .ref r9), (1, .ref e9)] := hl
  obtain ⟨Tr0, Tr1, Tr2, Tr3⟩ := TJ_rdr (v2 := some md) (v3 := some nd) hT T_r9 F_r9
  have T_md := Tr2 md rfl
  have T_nd := Tr3 nd rfl
  refine lv_iconst (v := 0) hx hb d_Re_isToldOnce_0 (by decide) ?_
  refine lv_istore_n (lv' := [(2, .int 0), (0, .ref r9), (1, .ref e9)]) hx hb d_Re_isToldOnce_1 rfl hl (by decide) rfl (fun ls hl => ?_)
  refine hm_loop (fun k2 ls H locs hh2 => ∃ (i9 : Int32), k2 = mU i9 ∧ lv_has ls 4 [(0, .ref r9), (1, .ref e9), (2, .int i9)] ∧ hm D vwCl G hh2 H ∧ s.heap.size ≤ H.size ∧ hLc nof locs ∧ (h = hh2) ∧ (0 ≤ i9.toInt)) ?_ (hh := h) ⟨0, rfl, (lv_sub hl [1, 2, 0] rfl), hH, hz, hLo, rfl, (by decide)⟩
  rintro k2 ls H locs hh2 ⟨i9, hk2, hl, hH, hz, hLo, rfl, I_i9⟩ ih2
  refine lv_iload_n hx hb d_Re_isToldOnce_2 rfl (lv_at hl 2 rfl) ?_
  refine lv_aload_n hx hb d_Re_isToldOnce_3 rfl (lv_at hl 0 rfl) ?_
  refine hm_get (ci := 5) (v := .ref nd) (C := R_Re) (T := F_Re) (N := 5) hx hb hts ig_Re hown hK hH F_r9 rfl 3 (by decide) (hts _ mw_342) (fun _ h9 => h9) rfl d_Re_isToldOnce_4 ?_
  obtain ⟨v_1, v_3, v_5, v_7, F_nd, c_2, c_4, c_6⟩ := TI_nds hT T_nd
  refine hm_get (ci := 2) (v := .int v_5) (C := R_Ns) (T := F_Ns) (N := 4) hx hb hts ig_Ns hown hK hH F_nd rfl 2 (by decide) (hts _ mw_343) (fun _ h9 => h9) rfl d_Re_isToldOnce_7 ?_
  refine lv_icmp_ge (tgt := 51) hx hb d_Re_isToldOnce_10 (by decide) (fun hc_8 => ?_) (fun hc_8 => ?_)
  · skip
    have ic_9 : v_5.toInt ≤ i9.toInt := iLe hc_8
    refine lv_iconst (v := 1) hx hb d_Re_isToldOnce_51 (by decide) ?_
    exact W.zret (v := 1) hx hb hr (by decide) (fun t9 ht hW => ⟨1, h, rfl, ⟨zb1, rfl⟩, by rw [ht]; exact hH, by rw [ht]; exact hz⟩) hLo d_Re_isToldOnce_52
  · skip
    have ic_10 : i9.toInt < v_5.toInt := iNe hc_8
    have iu_11 : v_5.toInt < 2147483648 := iUp _
    refine lv_aload_n hx hb d_Re_isToldOnce_13 rfl (lv_at hl 0 rfl) ?_
    refine hm_get (ci := 5) (v := .ref nd) (C := R_Re) (T := F_Re) (N := 5) hx hb hts ig_Re hown hK hH F_r9 rfl 3 (by decide) (hts _ mw_342) (fun _ h9 => h9) rfl d_Re_isToldOnce_14 ?_
    refine hm_get (ci := 2) (v := .ref v_1) (C := R_Ns) (T := F_Ns) (N := 4) hx hb hts ig_Ns hown hK hH F_nd rfl 0 (by decide) (hts _ mw_344) (fun _ h9 => h9) rfl d_Re_isToldOnce_17 ?_
    refine lv_iload_n hx hb d_Re_isToldOnce_20 rfl (lv_at hl 2 rfl) ?_
    obtain ⟨g_12, F_v_1, c_13, c_14⟩ := TI_slo hT c_2
    obtain ⟨a_15, e_16, T_17⟩ := c_13 i9.toNatClampNeg (iCl (by omega) (by omega))
    refine hm_aald (v := .ref a_15) hx hb hK hH 4 F_v_1 (C := R_No) rfl (iIn (by omega) (by omega)) (by rw [e_16]; rfl) d_Re_isToldOnce_21 ?_
    refine lv_astore_n (lv' := [(3, .ref a_15), (0, .ref r9), (1, .ref e9), (2, .int i9)]) hx hb d_Re_isToldOnce_22 rfl hl (by decide) rfl (fun ls hl => ?_)
    refine lv_aload_n hx hb d_Re_isToldOnce_23 rfl (lv_at hl 0 rfl) ?_
    refine lv_aload_n hx hb d_Re_isToldOnce_24 rfl (lv_at hl 2 rfl) ?_
    refine lv_acmp_eq (rx := some a_15) (ry := some e9) (tgt := 45) hx hb d_Re_isToldOnce_25 (by decide) (fun hc_18 => ?_) (fun hc_18 => ?_)
    · skip
      obtain ⟨j_19, e_20⟩ : ∃ z : Int32, z = i9 + 1 := ⟨_, rfl⟩
      refine lv_iinc (v := j_19) (lv' := [(2, .int j_19), (3, .ref a_15), (0, .ref r9), (1, .ref e9)]) hx hb d_Re_isToldOnce_45 hl (k := 3) rfl e_20.symm (by decide) rfl (fun ls hl => ?_)
      refine lv_goto (tgt := 2) hx hb d_Re_isToldOnce_48 (by decide) ?_
      have is_21 : j_19.toInt = i9.toInt + 1 := by rw [e_20]; exact iAddK 1 rfl (by omega) (by omega)
      exact ih2 (mU j_19) ls _ locs _ (by rw [hk2]; exact mU_lt (by omega)) ⟨j_19, rfl, (lv_sub hl [2, 3, 0] rfl), hH, hz, hLo, rfl, (by omega)⟩
    · skip
      refine lv_aload_n hx hb d_Re_isToldOnce_28 rfl (lv_at hl 0 rfl) ?_
      obtain ⟨v_22, v_23, v_25, v_27, v_28, v_30, v_31, v_32, v_34, v_35, v_36, F_a_15, c_24, c_26, c_29, c_33⟩ := TI_node hT T_17
      refine hm_get (ci := 1) (v := .int v_25) (C := R_No) (T := F_No) (N := 11) hx hb hts ig_No hown hK hH F_a_15 rfl 2 (by decide) (hts _ mw_345) (fun _ h9 => h9) rfl d_Re_isToldOnce_29 ?_
      refine lv_if_eq (tgt := 45) hx hb d_Re_isToldOnce_32 (by decide) (fun hc_37 => ?_) (fun hc_37 => ?_)
      · skip
        have ic_38 : v_25.toInt = 0 := congrArg Int32.toInt hc_37
        obtain ⟨j_39, e_40⟩ : ∃ z : Int32, z = i9 + 1 := ⟨_, rfl⟩
        refine lv_iinc (v := j_39) (lv' := [(2, .int j_39), (3, .ref a_15), (0, .ref r9), (1, .ref e9)]) hx hb d_Re_isToldOnce_45 hl (k := 3) rfl e_40.symm (by decide) rfl (fun ls hl => ?_)
        refine lv_goto (tgt := 2) hx hb d_Re_isToldOnce_48 (by decide) ?_
        have is_41 : j_39.toInt = i9.toInt + 1 := by rw [e_40]; exact iAddK 1 rfl (by omega) (by omega)
        exact ih2 (mU j_39) ls _ locs _ (by rw [hk2]; exact mU_lt (by omega)) ⟨j_39, rfl, (lv_sub hl [2, 3, 0] rfl), hH, hz, hLo, rfl, (by omega)⟩
      · skip
        refine lv_aload_n hx hb d_Re_isToldOnce_35 rfl (lv_at hl 0 rfl) ?_
        refine lv_aload_n hx hb d_Re_isToldOnce_36 rfl (lv_at hl 2 rfl) ?_
        refine hm_callPi (va_runV (As := [.ref e9]) (b := a_15) (rest := []) ⟨hx, hb, hml, hown, hts⟩ (t_overlaps l D t G ak av h τ n 1 f a_15 e9  hn hT T_17 T_e9) ⟨cw9B 1 hts mw_346 mw_347 mw_106 rfl rfl (by decide +kernel) ⟨Nat.le_of_ble_eq_true rfl, Nat.le_of_ble_eq_true rfl⟩, hts _ mw_348, hts _ mw_349⟩ (hP_V (q := (R_No, F_No, 11)) kE_ok hE hK hH F_a_15 rfl) rfl rfl hl.1 rfl (lv_room (Nat.le_of_ble_eq_true rfl)) d_Re_isToldOnce_37 ⟨Nat.le_of_ble_eq_true rfl, Nat.le_of_ble_eq_true rfl⟩) (fun r_42 h_43 H_44 hp_46  hH z_45 => ?_)
        have hz : s.heap.size ≤ H_44.size := Nat.le_trans hz z_45
        obtain ⟨c_47, rfl⟩ := hp_46
        refine lv_if_eq (tgt := 45) hx hb d_Re_isToldOnce_40 (by decide) (fun hc_49 => ?_) (fun hc_49 => ?_)
        · skip
          have ic_50 : r_42.toInt = 0 := congrArg Int32.toInt hc_49
          obtain ⟨j_51, e_52⟩ : ∃ z : Int32, z = i9 + 1 := ⟨_, rfl⟩
          refine lv_iinc (v := j_51) (lv' := [(2, .int j_51), (3, .ref a_15), (0, .ref r9), (1, .ref e9)]) hx hb d_Re_isToldOnce_45 hl (k := 3) rfl e_52.symm (by decide) rfl (fun ls hl => ?_)
          refine lv_goto (tgt := 2) hx hb d_Re_isToldOnce_48 (by decide) ?_
          have is_53 : j_51.toInt = i9.toInt + 1 := by rw [e_52]; exact iAddK 1 rfl (by omega) (by omega)
          exact ih2 (mU j_51) ls _ locs _ (by rw [hk2]; exact mU_lt (by omega)) ⟨j_51, rfl, (lv_sub hl [2, 3, 0] rfl), hH, hz, hLo, rfl, (by omega)⟩
        · skip
          refine lv_iconst (v := 0) hx hb d_Re_isToldOnce_43 (by decide) ?_
          exact W.zret (v := 0) hx hb hr (by decide) (fun t9 ht hW => ⟨0, h, rfl, ⟨zb0, rfl⟩, by rw [ht]; exact hH, by rw [ht]; exact hz⟩) hLo d_Re_isToldOnce_44

set_option maxHeartbeats 4000000 in
set_option maxRecDepth 100000 in
theorem t_hasTable (l : Launch) (D : va_G) (t : Nat → ClassId) (G : hG) (ak av : Nat → Nat) (h : hM) (τ : tM) (n : Nat) (r9 : Nat) (s9 : Int32) (l9 : Int32) (tb td md nd : Nat) (wp : Int32) (hn : n ≤ 200) (hT : TI τ t n h) (T_r9 : τ r9 = (6, 0)) (F_r9 : h r9 = some (.inr (5, [.ref tb, .ref td, .ref md, .ref nd, .int wp]))) : Met l y_Re_hasTable (.code y_Re_hasTable b_Re_hasTable 5 (some .boolean) :: lw_g) { frames := 1, cells := 0, slots := 0, locals := 23 } (hP (kE D t G ak av) D vwCl G h [.ref r9, .int s9, .int l9]) (hQi D vwCl G (fun r h' => zb r ∧ TI τ t n h' ∧ kf τ [] [r9] h h' ∧ ∃ wp', h' r9 = some (.inr (5, [.ref tb, .ref td, .ref md, .ref nd, .int wp'])))) 0 0 G.P := by
  refine Met.ofW (cc := b_Re_hasTable) (maxL := 5) (ret := (some .boolean)) (by decide) rfl ?_
  intro p e s m args below meth c s₁ Bd hml hv
  obtain ⟨ha, hE, hH⟩ := hv
  have hx := Bd.exec
  have hb := Bd.bytes
  have hr := Bd.returns
  have hts : ∀ w ∈ lw_g, w.before args s = true := fun w hw => atoms_spec (ws := (.code y_Re_hasTable b_Re_hasTable 5 (some .boolean) :: lw_g)) Bd.pre w (List.mem_cons_of_mem _ hw)
  have hown : s.vm.findClass R_Re = some m.cls := findClass_of_methodNamed Bd.named
  have hlocks := Bd.notSynchronized
  have hK := hE.1
  have hH0 := hH
  have hLo : hLc G.P [] := hLc_nil
  have hz : s.heap.size ≤ s.heap.size := Nat.le_refl _
  have hl := lv_entry [.ref r9, .int s9, .int l9] (n := 5) (Nat.le_of_ble_eq_true rfl)
  rw [show entryFrame m args 5 = F0 m 0 ((lg_sl [.ref r9, .int s9, .int l9] ++ List.replicate (5 - (lg_sl [.ref r9, .int s9, .int l9]).length) Slot.unset).toArray) [] from (by rw [ha]; exact lg_entry_eq m [.ref r9, .int s9, .int l9] 5)]
  generalize (lg_sl [.ref r9, .int s9, .int l9] ++ List.replicate (5 - (lg_sl [.ref r9, .int s9, .int l9]).length) Slot.unset).toArray = ls at hl ⊢
  have hl : lv_has ls 5 [(0, .ref r9), (1, .int s9), (2, .int l9)] := hl
  have hkf : kf τ [] [r9] h h := kf_rf
  obtain ⟨Tr0, Tr1, Tr2, Tr3⟩ := TJ_rdr (v2 := some md) (v3 := some nd) hT T_r9 F_r9
  have T_md := Tr2 md rfl
  have T_nd := Tr3 nd rfl
  refine lv_iload_n hx hb d_Re_hasTable_0 rfl (lv_at hl 1 rfl) ?_
  refine lv_sipush (v := 2048) hx hb d_Re_hasTable_1 (by decide) ?_
  refine lv_imul hx hb d_Re_hasTable_4 ?_
  refine lv_topi (fun v_1 e_2 => ?_)
  refine lv_istore_n (lv' := [(3, .int v_1), (0, .ref r9), (1, .int s9), (2, .int l9)]) hx hb d_Re_hasTable_5 rfl hl (by decide) rfl (fun ls hl => ?_)
  refine lv_iconst (v := 0) hx hb d_Re_hasTable_6 (by decide) ?_
  refine lv_istore (lv' := [(4, .int 0), (3, .int v_1), (0, .ref r9), (1, .int s9), (2, .int l9)]) hx hb d_Re_hasTable_7 hl (by decide) rfl (fun ls hl => ?_)
  refine hm_loop (fun k9 ls H locs hh9 => ∃ (i9 : Int32), k9 = mU i9 ∧ lv_has ls 5 [(0, .ref r9), (1, .int s9), (2, .int l9), (3, .int v_1), (4, .int i9)] ∧ hm D vwCl G hh9 H ∧ s.heap.size ≤ H.size ∧ hLc G.P locs ∧ hh9 r9 = some (.inr (5, [.ref tb, .ref td, .ref md, .ref nd, .int wp])) ∧ (TI τ t n hh9) ∧ (kf τ [] [r9] h hh9) ∧ (0 ≤ i9.toInt)) ?_ (hh := h) ⟨0, rfl, (lv_sub hl [2, 3, 4, 1, 0] rfl), hH, hz, hLo, F_r9, hT, hkf, (by decide)⟩
  rintro k9 ls H locs hh9 ⟨i9, hk9, hl, hH, hz, hLo, F_r9, hT, hkf, I_i9⟩ ih9
  refine lv_iload hx hb d_Re_hasTable_9 (lv_at hl 4 rfl) ?_
  refine lv_iload_n hx hb d_Re_hasTable_11 rfl (lv_at hl 2 rfl) ?_
  refine lv_icmp_ge (tgt := 71) hx hb d_Re_hasTable_12 (by decide) (fun hc_3 => ?_) (fun hc_3 => ?_)
  · skip
    have ic_4 : l9.toInt ≤ i9.toInt := iLe hc_3
    refine lv_iconst (v := 1) hx hb d_Re_hasTable_71 (by decide) ?_
    exact W.zret (v := 1) hx hb hr (by decide) (fun t9 ht hW => ⟨1, hh9, rfl, ⟨zb1, hT, hkf, ⟨_, F_r9⟩⟩, by rw [ht]; exact hH, by rw [ht]; exact hz⟩) hLo d_Re_hasTable_72
  · skip
    have ic_5 : i9.toInt < l9.toInt := iNe hc_3
    have iu_6 : l9.toInt < 2147483648 := iUp _
    refine lv_iload hx hb d_Re_hasTable_15 (lv_at hl 4 rfl) ?_
    refine lv_aload_n hx hb d_Re_hasTable_17 rfl (lv_at hl 0 rfl) ?_
    refine hm_get (ci := 5) (v := .ref tb) (C := R_Re) (T := F_Re) (N := 5) hx hb hts ig_Re hown hK hH F_r9 rfl 0 (by decide) (hts _ mw_350) (fun _ h9 => h9) rfl d_Re_hasTable_18 ?_
    obtain ⟨v_7, F_tb, c_8⟩ := TI_page hT Tr0
    refine hm_get (ci := 3) (v := .ref v_7) (C := R_Pg) (T := F_Pg) (N := 1) hx hb hts ig_Pg hown hK hH F_tb rfl 0 (by decide) (hts _ mw_351) (fun _ h9 => h9) rfl d_Re_hasTable_21 ?_
    obtain ⟨g_9, F_v_7, c_10⟩ := TI_byts hT c_8
    have iln_11 : (nI (pgn 1)).toInt = ((pgn 1) : Nat) := nI_toInt (pgn_lt _)
    refine hm_alen (v := nI (pgn 1)) hx hb hK hH 0 F_v_7 (ty := .byte) rfl rfl d_Re_hasTable_24 ?_
    refine lv_icmp_ge (tgt := 71) hx hb d_Re_hasTable_25 (by decide) (fun hc_12 => ?_) (fun hc_12 => ?_)
    · skip
      have ic_13 : (nI (pgn 1)).toInt ≤ i9.toInt := iLe hc_12
      refine lv_iconst (v := 1) hx hb d_Re_hasTable_71 (by decide) ?_
      exact W.zret (v := 1) hx hb hr (by decide) (fun t9 ht hW => ⟨1, hh9, rfl, ⟨zb1, hT, hkf, ⟨_, F_r9⟩⟩, by rw [ht]; exact hH, by rw [ht]; exact hz⟩) hLo d_Re_hasTable_72
    · skip
      have ic_14 : i9.toInt < (nI (pgn 1)).toInt := iNe hc_12
      have iu_15 : (nI (pgn 1)).toInt < 2147483648 := iUp _
      refine lv_aload_n hx hb d_Re_hasTable_28 rfl (lv_at hl 0 rfl) ?_
      refine hm_get (ci := 5) (v := .ref md) (C := R_Re) (T := F_Re) (N := 5) hx hb hts ig_Re hown hK hH F_r9 rfl 2 (by decide) (hts _ mw_329) (fun _ h9 => h9) rfl d_Re_hasTable_29 ?_
      refine lv_iload_n hx hb d_Re_hasTable_32 rfl (lv_at hl 3 rfl) ?_
      refine lv_iload hx hb d_Re_hasTable_33 (lv_at hl 4 rfl) ?_
      refine lv_iadd hx hb d_Re_hasTable_35 ?_
      obtain ⟨v_16, v_18, F_md, c_17⟩ := TI_med hT T_md
      refine hm_callPi (va_runV (As := [.int (v_1 + i9)]) (b := md) (rest := []) ⟨hx, hb, hml, hown, hts⟩ (t_fetch l D t G ak av hh9 τ n md (v_1 + i9)  hn hT T_md) ⟨cw9B 1 hts mw_31 mw_330 mw_32 rfl rfl (by decide +kernel) ⟨Nat.le_of_ble_eq_true rfl, Nat.le_of_ble_eq_true rfl⟩, hts _ mw_34, hts _ mw_35⟩ (hP_V (q := (R_Me, F_Me, 2)) kE_ok hE hK hH F_md rfl) rfl rfl hl.1 rfl (lv_room (Nat.le_of_ble_eq_true rfl)) d_Re_hasTable_36 ⟨Nat.le_of_ble_eq_true rfl, Nat.le_of_ble_eq_true rfl⟩) (fun r_19 h_20 H_21 hp_23  hH z_22 => ?_)
      have hz : s.heap.size ≤ H_21.size := Nat.le_trans hz z_22
      obtain ⟨xp_24, rfl⟩ := hp_23
      refine lv_aload_n hx hb d_Re_hasTable_39 rfl (lv_at hl 0 rfl) ?_
      refine hm_get (ci := 5) (v := .ref tb) (C := R_Re) (T := F_Re) (N := 5) hx hb hts ig_Re hown hK hH F_r9 rfl 0 (by decide) (hts _ mw_350) (fun _ h9 => h9) rfl d_Re_hasTable_40 ?_
      refine hm_get (ci := 3) (v := .ref v_7) (C := R_Pg) (T := F_Pg) (N := 1) hx hb hts ig_Pg hown hK hH F_tb rfl 0 (by decide) (hts _ mw_351) (fun _ h9 => h9) rfl d_Re_hasTable_43 ?_
      refine lv_iload hx hb d_Re_hasTable_46 (lv_at hl 4 rfl) ?_
      refine hm_bald hx hb hK hH 0 F_v_7 rfl (iIn (by omega) (by omega)) d_Re_hasTable_48 ?_
      refine lv_sipush (v := 255) hx hb d_Re_hasTable_49 (by decide) ?_
      refine lv_iand hx hb d_Re_hasTable_52 ?_
      refine lv_icmp_eq (tgt := 65) hx hb d_Re_hasTable_53 (by decide) (fun hc_25 => ?_) (fun hc_25 => ?_)
      · skip
        obtain ⟨j_26, e_27⟩ : ∃ z : Int32, z = i9 + 1 := ⟨_, rfl⟩
        refine lv_iinc (v := j_26) (lv' := [(4, .int j_26), (0, .ref r9), (1, .int s9), (2, .int l9), (3, .int v_1)]) hx hb d_Re_hasTable_65 hl (k := 4) rfl e_27.symm (by decide) rfl (fun ls hl => ?_)
        refine lv_goto (tgt := 9) hx hb d_Re_hasTable_68 (by decide) ?_
        have is_28 : j_26.toInt = i9.toInt + 1 := by rw [e_27]; exact iAddK 1 rfl (by omega) (by omega)
        exact ih9 (mU j_26) ls _ locs _ (by rw [hk9]; exact mU_lt (by omega)) ⟨j_26, rfl, (lv_sub hl [1, 2, 3, 4, 0] rfl), hH, hz, hLo, F_r9, hT, hkf, (by omega)⟩
      · skip
        refine lv_aload_n hx hb d_Re_hasTable_56 rfl (lv_at hl 0 rfl) ?_
        refine lv_iload_n hx hb d_Re_hasTable_57 rfl (lv_at hl 3 rfl) ?_
        refine lv_iload hx hb d_Re_hasTable_58 (lv_at hl 4 rfl) ?_
        refine lv_iadd hx hb d_Re_hasTable_60 ?_
        refine hm_calli (va_runV (As := [.int (v_1 + i9)]) (b := r9) (rest := []) ⟨hx, hb, hml, hown, hts⟩ (t_wrongAt l D t G ak av hh9 τ n r9 (v_1 + i9) tb td md nd wp  hn hT T_r9  F_r9) ⟨cw9B 1 hts mw_331 mw_333 mw_332 rfl rfl (by decide +kernel) ⟨Nat.le_of_ble_eq_true rfl, Nat.le_of_ble_eq_true rfl⟩, hts _ mw_334, hts _ mw_335⟩ (hP_V (q := (R_Re, F_Re, 5)) kE_ok hE hK hH F_r9 rfl) rfl rfl hl.1 rfl (lv_room (Nat.le_of_ble_eq_true rfl)) d_Re_hasTable_61 ⟨Nat.le_of_ble_eq_true rfl, Nat.le_of_ble_eq_true rfl⟩) hLo (fun r_29 h_30 H_31 locs hp_33 hH z_32 hLo => ?_)
        have hz : s.heap.size ≤ H_31.size := Nat.le_trans hz z_32
        have hT0 := hT
        obtain ⟨c_34, hT, kf_36, xp_35⟩ := hp_33
        have F_tb : h_30 tb = some (.inr (3, [.ref v_7])) := kf_at kf_36 Tr0 (by decide) tn0 (nmc (tne Tr0 T_r9 (by decide)) nm0) F_tb
        have F_v_7 : h_30 v_7 = some (.inl ((t 0), (pgn 1), .inl g_9)) := kf_at kf_36 c_8 (by decide) tn0 (nmc (tne c_8 T_r9 (by decide)) nm0) F_v_7
        have F_md : h_30 md = some (.inr (0, [.ref v_16, .int v_18])) := kf_at kf_36 T_md (by decide) tn0 (nmc (tne T_md T_r9 (by decide)) nm0) F_md
        have hkf : kf τ [] [r9] h h_30 := kf_tr hkf kf_36 (List.forall_mem_nil _) (List.forall_mem_cons.mpr ⟨Or.inl (by simp), List.forall_mem_nil _⟩)
        obtain ⟨⟨wp_37, F_r9⟩, rfl⟩ := xp_35
        exact W.zret (v := 0) hx hb hr (by decide) (fun t9 ht hW => ⟨0, h_30, rfl, ⟨zb0, hT, hkf, ⟨_, F_r9⟩⟩, by rw [ht]; exact hH, by rw [ht]; exact hz⟩) hLo d_Re_hasTable_64
