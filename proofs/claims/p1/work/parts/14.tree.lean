set_option maxRecDepth 100000 in
theorem mw_270 : Cond.code y_Di_isNameByte b_Di_isNameByte 1 (some .boolean) ∈ lw_g := lw_gin (List.mem_append_right _ (List.mem_of_getElem? (i := 305) rfl)) (by decide +kernel)
set_option maxRecDepth 100000 in
theorem mw_271 : Cond.methodLink R_Di 241 y_Di_isNameByte ∈ lw_g := lw_gin (List.mem_append_right _ (List.mem_of_getElem? (i := 303) rfl)) (by decide +kernel)
set_option maxRecDepth 100000 in
theorem mw_272 : Cond.static y_Di_isNameByte ∈ lw_g := lw_gin (List.mem_append_right _ (List.mem_of_getElem? (i := 304) rfl)) (by decide +kernel)
set_option maxRecDepth 100000 in
theorem mw_273 : Cond.fieldLink R_Ns 36 "WriteOnceDisc$Node" "number" "I" ∈ lw_g := lw_gin (List.mem_append_right _ (List.mem_of_getElem? (i := 91) rfl)) (by decide +kernel)
set_option maxRecDepth 100000 in
theorem mw_274 : Cond.code y_Ns_nodeOf b_Ns_nodeOf 3 (some (.object "WriteOnceDisc$Node")) ∈ lw_g := lw_gin (List.mem_append_right _ (List.mem_of_getElem? (i := 291) rfl)) (by decide +kernel)
set_option maxRecDepth 100000 in
theorem mw_275 : Cond.methodLink R_Ns 50 y_Ns_nodeOf ∈ lw_g := lw_gin (List.mem_append_right _ (List.mem_of_getElem? (i := 288) rfl)) (by decide +kernel)
set_option maxRecDepth 100000 in
theorem mw_276 : Cond.instanceMethod y_Ns_nodeOf ∈ lw_g := lw_gin (List.mem_append_right _ (List.mem_of_getElem? (i := 289) rfl)) (by decide +kernel)
set_option maxRecDepth 100000 in
theorem mw_277 : Cond.selects R_Ns y_Ns_nodeOf y_Ns_nodeOf ∈ lw_g := lw_gin (List.mem_append_right _ (List.mem_of_getElem? (i := 290) rfl)) (by decide +kernel)
set_option maxRecDepth 100000 in
theorem mw_278 : Cond.code y_No_takeName b_No_takeName 4 none ∈ lw_g := lw_gin (List.mem_append_right _ (List.mem_of_getElem? (i := 321) rfl)) (by decide +kernel)
set_option maxRecDepth 100000 in
theorem mw_279 : Cond.methodLink R_No 48 y_No_takeName ∈ lw_g := lw_gin (List.mem_append_right _ (List.mem_of_getElem? (i := 318) rfl)) (by decide +kernel)
set_option maxRecDepth 100000 in
theorem mw_280 : Cond.instanceMethod y_No_takeName ∈ lw_g := lw_gin (List.mem_append_right _ (List.mem_of_getElem? (i := 319) rfl)) (by decide +kernel)
set_option maxRecDepth 100000 in
theorem mw_281 : Cond.selects R_No y_No_takeName y_No_takeName ∈ lw_g := lw_gin (List.mem_append_right _ (List.mem_of_getElem? (i := 320) rfl)) (by decide +kernel)
set_option maxRecDepth 100000 in
theorem mw_282 : Cond.code y_No_takeContent b_No_takeContent 3 none ∈ lw_g := lw_gin (List.mem_append_right _ (List.mem_of_getElem? (i := 325) rfl)) (by decide +kernel)
set_option maxRecDepth 100000 in
theorem mw_283 : Cond.methodLink R_No 52 y_No_takeContent ∈ lw_g := lw_gin (List.mem_append_right _ (List.mem_of_getElem? (i := 322) rfl)) (by decide +kernel)
set_option maxRecDepth 100000 in
theorem mw_284 : Cond.instanceMethod y_No_takeContent ∈ lw_g := lw_gin (List.mem_append_right _ (List.mem_of_getElem? (i := 323) rfl)) (by decide +kernel)
set_option maxRecDepth 100000 in
theorem mw_285 : Cond.selects R_No y_No_takeContent y_No_takeContent ∈ lw_g := lw_gin (List.mem_append_right _ (List.mem_of_getElem? (i := 324) rfl)) (by decide +kernel)
theorem d_Di_isNameByte_0 : decode b_Di_isNameByte 0 = .ok (.iload_n 0, 1) := by decide +kernel
theorem d_Di_isNameByte_1 : decode b_Di_isNameByte 1 = .ok (.bipush 65, 2) := by decide +kernel
theorem d_Di_isNameByte_3 : decode b_Di_isNameByte 3 = .ok (.if_icmp .lt 9, 3) := by decide +kernel
theorem d_Di_isNameByte_12 : decode b_Di_isNameByte 12 = .ok (.iload_n 0, 1) := by decide +kernel
theorem d_Di_isNameByte_13 : decode b_Di_isNameByte 13 = .ok (.bipush 48, 2) := by decide +kernel
theorem d_Di_isNameByte_15 : decode b_Di_isNameByte 15 = .ok (.if_icmp .lt 9, 3) := by decide +kernel
theorem d_Di_isNameByte_24 : decode b_Di_isNameByte 24 = .ok (.iload_n 0, 1) := by decide +kernel
theorem d_Di_isNameByte_25 : decode b_Di_isNameByte 25 = .ok (.bipush 95, 2) := by decide +kernel
theorem d_Di_isNameByte_27 : decode b_Di_isNameByte 27 = .ok (.if_icmp .ne 7, 3) := by decide +kernel
theorem d_Di_isNameByte_34 : decode b_Di_isNameByte 34 = .ok (.iconst 0, 1) := by decide +kernel
theorem d_Di_isNameByte_35 : decode b_Di_isNameByte 35 = .ok (.ireturn, 1) := by decide +kernel
theorem d_Di_isNameByte_30 : decode b_Di_isNameByte 30 = .ok (.iconst 1, 1) := by decide +kernel
theorem d_Di_isNameByte_31 : decode b_Di_isNameByte 31 = .ok (.goto 4, 3) := by decide +kernel
theorem d_Di_isNameByte_18 : decode b_Di_isNameByte 18 = .ok (.iload_n 0, 1) := by decide +kernel
theorem d_Di_isNameByte_19 : decode b_Di_isNameByte 19 = .ok (.bipush 57, 2) := by decide +kernel
theorem d_Di_isNameByte_21 : decode b_Di_isNameByte 21 = .ok (.if_icmp .le 9, 3) := by decide +kernel
theorem d_Di_isNameByte_6 : decode b_Di_isNameByte 6 = .ok (.iload_n 0, 1) := by decide +kernel
theorem d_Di_isNameByte_7 : decode b_Di_isNameByte 7 = .ok (.bipush 90, 2) := by decide +kernel
theorem d_Di_isNameByte_9 : decode b_Di_isNameByte 9 = .ok (.if_icmp .le 21, 3) := by decide +kernel
theorem d_Di_nameIn_0 : decode b_Di_nameIn 0 = .ok (.lconst 0, 1) := by decide +kernel
theorem d_Di_nameIn_1 : decode b_Di_nameIn 1 = .ok (.lstore_n 2, 1) := by decide +kernel
theorem d_Di_nameIn_2 : decode b_Di_nameIn 2 = .ok (.bipush 56, 2) := by decide +kernel
theorem d_Di_nameIn_4 : decode b_Di_nameIn 4 = .ok (.istore 4, 2) := by decide +kernel
theorem d_Di_nameIn_6 : decode b_Di_nameIn 6 = .ok (.iload 4, 2) := by decide +kernel
theorem d_Di_nameIn_8 : decode b_Di_nameIn 8 = .ok (.ifCond .lt 49, 3) := by decide +kernel
theorem d_Di_nameIn_57 : decode b_Di_nameIn 57 = .ok (.lload_n 2, 1) := by decide +kernel
theorem d_Di_nameIn_58 : decode b_Di_nameIn 58 = .ok (.lreturn, 1) := by decide +kernel
theorem d_Di_nameIn_11 : decode b_Di_nameIn 11 = .ok (.lload_n 0, 1) := by decide +kernel
theorem d_Di_nameIn_12 : decode b_Di_nameIn 12 = .ok (.iload 4, 2) := by decide +kernel
theorem d_Di_nameIn_14 : decode b_Di_nameIn 14 = .ok (.lushr, 1) := by decide +kernel
theorem d_Di_nameIn_15 : decode b_Di_nameIn 15 = .ok (.l2i, 1) := by decide +kernel
theorem d_Di_nameIn_16 : decode b_Di_nameIn 16 = .ok (.sipush 255, 3) := by decide +kernel
theorem d_Di_nameIn_19 : decode b_Di_nameIn 19 = .ok (.iand, 1) := by decide +kernel
theorem d_Di_nameIn_20 : decode b_Di_nameIn 20 = .ok (.istore 5, 2) := by decide +kernel
theorem d_Di_nameIn_22 : decode b_Di_nameIn 22 = .ok (.iload 5, 2) := by decide +kernel
theorem d_Di_nameIn_24 : decode b_Di_nameIn 24 = .ok (.ifCond .eq 13, 3) := by decide +kernel
theorem d_Di_nameIn_37 : decode b_Di_nameIn 37 = .ok (.iload 5, 2) := by decide +kernel
theorem d_Di_nameIn_39 : decode b_Di_nameIn 39 = .ok (.ifCond .eq 12, 3) := by decide +kernel
theorem d_Di_nameIn_51 : decode b_Di_nameIn 51 = .ok (.iinc 4 (-8), 3) := by decide +kernel
theorem d_Di_nameIn_54 : decode b_Di_nameIn 54 = .ok (.goto (-48), 3) := by decide +kernel
theorem d_Di_nameIn_27 : decode b_Di_nameIn 27 = .ok (.iload 5, 2) := by decide +kernel
theorem d_Di_nameIn_29 : decode b_Di_nameIn 29 = .ok (.invokestatic 241, 3) := by decide +kernel
theorem d_Di_nameIn_32 : decode b_Di_nameIn 32 = .ok (.ifCond .ne 5, 3) := by decide +kernel
theorem d_Di_nameIn_42 : decode b_Di_nameIn 42 = .ok (.lload_n 2, 1) := by decide +kernel
theorem d_Di_nameIn_43 : decode b_Di_nameIn 43 = .ok (.bipush 8, 2) := by decide +kernel
theorem d_Di_nameIn_45 : decode b_Di_nameIn 45 = .ok (.lshl, 1) := by decide +kernel
theorem d_Di_nameIn_46 : decode b_Di_nameIn 46 = .ok (.iload 5, 2) := by decide +kernel
theorem d_Di_nameIn_48 : decode b_Di_nameIn 48 = .ok (.i2l, 1) := by decide +kernel
theorem d_Di_nameIn_49 : decode b_Di_nameIn 49 = .ok (.lor, 1) := by decide +kernel
theorem d_Di_nameIn_50 : decode b_Di_nameIn 50 = .ok (.lstore_n 2, 1) := by decide +kernel
theorem d_Di_nameIn_35 : decode b_Di_nameIn 35 = .ok (.lconst 0, 1) := by decide +kernel
theorem d_Di_nameIn_36 : decode b_Di_nameIn 36 = .ok (.lreturn, 1) := by decide +kernel
theorem d_Di_isContent_0 : decode b_Di_isContent 0 = .ok (.iload_n 0, 1) := by decide +kernel
theorem d_Di_isContent_1 : decode b_Di_isContent 1 = .ok (.ifCond .lt 25, 3) := by decide +kernel
theorem d_Di_isContent_26 : decode b_Di_isContent 26 = .ok (.iconst 0, 1) := by decide +kernel
theorem d_Di_isContent_27 : decode b_Di_isContent 27 = .ok (.ireturn, 1) := by decide +kernel
theorem d_Di_isContent_4 : decode b_Di_isContent 4 = .ok (.iload_n 0, 1) := by decide +kernel
theorem d_Di_isContent_5 : decode b_Di_isContent 5 = .ok (.sipush 6000, 3) := by decide +kernel
theorem d_Di_isContent_8 : decode b_Di_isContent 8 = .ok (.if_icmp .gt 18, 3) := by decide +kernel
theorem d_Di_isContent_11 : decode b_Di_isContent 11 = .ok (.iload_n 1, 1) := by decide +kernel
theorem d_Di_isContent_12 : decode b_Di_isContent 12 = .ok (.ifCond .lt 14, 3) := by decide +kernel
theorem d_Di_isContent_15 : decode b_Di_isContent 15 = .ok (.iload_n 1, 1) := by decide +kernel
theorem d_Di_isContent_16 : decode b_Di_isContent 16 = .ok (.sipush 255, 3) := by decide +kernel
theorem d_Di_isContent_19 : decode b_Di_isContent 19 = .ok (.if_icmp .gt 7, 3) := by decide +kernel
theorem d_Di_isContent_22 : decode b_Di_isContent 22 = .ok (.iconst 1, 1) := by decide +kernel
theorem d_Di_isContent_23 : decode b_Di_isContent 23 = .ok (.goto 4, 3) := by decide +kernel
theorem d_Ns_nodeOf_0 : decode b_Ns_nodeOf 0 = .ok (.iconst 0, 1) := by decide +kernel
theorem d_Ns_nodeOf_1 : decode b_Ns_nodeOf 1 = .ok (.istore_n 2, 1) := by decide +kernel
theorem d_Ns_nodeOf_2 : decode b_Ns_nodeOf 2 = .ok (.iload_n 2, 1) := by decide +kernel
theorem d_Ns_nodeOf_3 : decode b_Ns_nodeOf 3 = .ok (.aload_n 0, 1) := by decide +kernel
theorem d_Ns_nodeOf_4 : decode b_Ns_nodeOf 4 = .ok (.getfield 20, 3) := by decide +kernel
theorem d_Ns_nodeOf_7 : decode b_Ns_nodeOf 7 = .ok (.if_icmp .ge 29, 3) := by decide +kernel
theorem d_Ns_nodeOf_10 : decode b_Ns_nodeOf 10 = .ok (.aload_n 0, 1) := by decide +kernel
theorem d_Ns_nodeOf_11 : decode b_Ns_nodeOf 11 = .ok (.getfield 11, 3) := by decide +kernel
theorem d_Ns_nodeOf_14 : decode b_Ns_nodeOf 14 = .ok (.iload_n 2, 1) := by decide +kernel
theorem d_Ns_nodeOf_15 : decode b_Ns_nodeOf 15 = .ok (.aaload, 1) := by decide +kernel
theorem d_Ns_nodeOf_16 : decode b_Ns_nodeOf 16 = .ok (.getfield 36, 3) := by decide +kernel
theorem d_Ns_nodeOf_19 : decode b_Ns_nodeOf 19 = .ok (.iload_n 1, 1) := by decide +kernel
theorem d_Ns_nodeOf_20 : decode b_Ns_nodeOf 20 = .ok (.if_icmp .ne 10, 3) := by decide +kernel
theorem d_Ns_nodeOf_30 : decode b_Ns_nodeOf 30 = .ok (.iinc 2 1, 3) := by decide +kernel
theorem d_Ns_nodeOf_33 : decode b_Ns_nodeOf 33 = .ok (.goto (-31), 3) := by decide +kernel
theorem d_Ns_nodeOf_36 : decode b_Ns_nodeOf 36 = .ok (.aconst_null, 1) := by decide +kernel
theorem d_Ns_nodeOf_37 : decode b_Ns_nodeOf 37 = .ok (.areturn, 1) := by decide +kernel
theorem d_Ns_nodeOf_23 : decode b_Ns_nodeOf 23 = .ok (.aload_n 0, 1) := by decide +kernel
theorem d_Ns_nodeOf_24 : decode b_Ns_nodeOf 24 = .ok (.getfield 11, 3) := by decide +kernel
theorem d_Ns_nodeOf_27 : decode b_Ns_nodeOf 27 = .ok (.iload_n 2, 1) := by decide +kernel
theorem d_Ns_nodeOf_28 : decode b_Ns_nodeOf 28 = .ok (.aaload, 1) := by decide +kernel
theorem d_Ns_nodeOf_29 : decode b_Ns_nodeOf 29 = .ok (.areturn, 1) := by decide +kernel
theorem d_Ns_directoryOf_0 : decode b_Ns_directoryOf 0 = .ok (.aload_n 0, 1) := by decide +kernel
theorem d_Ns_directoryOf_1 : decode b_Ns_directoryOf 1 = .ok (.iload_n 1, 1) := by decide +kernel
theorem d_Ns_directoryOf_2 : decode b_Ns_directoryOf 2 = .ok (.invokevirtual 50, 3) := by decide +kernel
theorem d_Ns_directoryOf_5 : decode b_Ns_directoryOf 5 = .ok (.astore_n 2, 1) := by decide +kernel
theorem d_Ns_directoryOf_6 : decode b_Ns_directoryOf 6 = .ok (.aload_n 2, 1) := by decide +kernel
theorem d_Ns_directoryOf_7 : decode b_Ns_directoryOf 7 = .ok (.ifnull 14, 3) := by decide +kernel
theorem d_Ns_directoryOf_10 : decode b_Ns_directoryOf 10 = .ok (.aload_n 2, 1) := by decide +kernel
theorem d_Ns_directoryOf_11 : decode b_Ns_directoryOf 11 = .ok (.getfield 58, 3) := by decide +kernel
theorem d_Ns_directoryOf_14 : decode b_Ns_directoryOf 14 = .ok (.ifCond .eq 7, 3) := by decide +kernel
theorem d_Ns_directoryOf_17 : decode b_Ns_directoryOf 17 = .ok (.aload_n 2, 1) := by decide +kernel
theorem d_Ns_directoryOf_18 : decode b_Ns_directoryOf 18 = .ok (.goto 4, 3) := by decide +kernel
theorem d_Ns_directoryOf_22 : decode b_Ns_directoryOf 22 = .ok (.areturn, 1) := by decide +kernel
theorem d_Ns_directoryOf_21 : decode b_Ns_directoryOf 21 = .ok (.aconst_null, 1) := by decide +kernel
theorem d_No_depth_0 : decode b_No_depth 0 = .ok (.iconst 0, 1) := by decide +kernel
theorem d_No_depth_1 : decode b_No_depth 1 = .ok (.istore_n 1, 1) := by decide +kernel
theorem d_No_depth_2 : decode b_No_depth 2 = .ok (.aload_n 0, 1) := by decide +kernel
theorem d_No_depth_3 : decode b_No_depth 3 = .ok (.getfield 15, 3) := by decide +kernel
theorem d_No_depth_6 : decode b_No_depth 6 = .ok (.astore_n 2, 1) := by decide +kernel
theorem d_No_depth_7 : decode b_No_depth 7 = .ok (.aload_n 2, 1) := by decide +kernel
theorem d_No_depth_8 : decode b_No_depth 8 = .ok (.ifnull 14, 3) := by decide +kernel
theorem d_No_depth_22 : decode b_No_depth 22 = .ok (.iload_n 1, 1) := by decide +kernel
theorem d_No_depth_23 : decode b_No_depth 23 = .ok (.ireturn, 1) := by decide +kernel
theorem d_Ns_hasOtherNamed_0 : decode b_Ns_hasOtherNamed 0 = .ok (.iconst 0, 1) := by decide +kernel
theorem d_Ns_hasOtherNamed_1 : decode b_Ns_hasOtherNamed 1 = .ok (.istore 5, 2) := by decide +kernel
theorem d_Ns_hasOtherNamed_3 : decode b_Ns_hasOtherNamed 3 = .ok (.iload 5, 2) := by decide +kernel
theorem d_Ns_hasOtherNamed_5 : decode b_Ns_hasOtherNamed 5 = .ok (.aload_n 0, 1) := by decide +kernel
theorem d_Ns_hasOtherNamed_6 : decode b_Ns_hasOtherNamed 6 = .ok (.getfield 20, 3) := by decide +kernel
theorem d_Ns_hasOtherNamed_9 : decode b_Ns_hasOtherNamed 9 = .ok (.if_icmp .ge 52, 3) := by decide +kernel
theorem d_Ns_hasOtherNamed_12 : decode b_Ns_hasOtherNamed 12 = .ok (.aload_n 0, 1) := by decide +kernel
theorem d_Ns_hasOtherNamed_13 : decode b_Ns_hasOtherNamed 13 = .ok (.getfield 11, 3) := by decide +kernel
theorem d_Ns_hasOtherNamed_16 : decode b_Ns_hasOtherNamed 16 = .ok (.iload 5, 2) := by decide +kernel
theorem d_Ns_hasOtherNamed_18 : decode b_Ns_hasOtherNamed 18 = .ok (.aaload, 1) := by decide +kernel
theorem d_Ns_hasOtherNamed_19 : decode b_Ns_hasOtherNamed 19 = .ok (.getfield 54, 3) := by decide +kernel
theorem d_Ns_hasOtherNamed_22 : decode b_Ns_hasOtherNamed 22 = .ok (.aload_n 1, 1) := by decide +kernel
theorem d_Ns_hasOtherNamed_23 : decode b_Ns_hasOtherNamed 23 = .ok (.if_acmp .ne 32, 3) := by decide +kernel
theorem d_Ns_hasOtherNamed_55 : decode b_Ns_hasOtherNamed 55 = .ok (.iinc 5 1, 3) := by decide +kernel
theorem d_Ns_hasOtherNamed_58 : decode b_Ns_hasOtherNamed 58 = .ok (.goto (-55), 3) := by decide +kernel
theorem d_Ns_hasOtherNamed_61 : decode b_Ns_hasOtherNamed 61 = .ok (.iconst 0, 1) := by decide +kernel
theorem d_Ns_hasOtherNamed_62 : decode b_Ns_hasOtherNamed 62 = .ok (.ireturn, 1) := by decide +kernel
theorem d_Ns_append_0 : decode b_Ns_append 0 = .ok (.aload_n 0, 1) := by decide +kernel
theorem d_Ns_append_1 : decode b_Ns_append 1 = .ok (.getfield 20, 3) := by decide +kernel
theorem d_Ns_append_4 : decode b_Ns_append 4 = .ok (.aload_n 0, 1) := by decide +kernel
theorem d_Ns_append_5 : decode b_Ns_append 5 = .ok (.getfield 11, 3) := by decide +kernel
theorem d_Ns_append_8 : decode b_Ns_append 8 = .ok (.arraylength, 1) := by decide +kernel
theorem d_Ns_append_9 : decode b_Ns_append 9 = .ok (.if_icmp .lt 5, 3) := by decide +kernel
theorem d_Ns_append_14 : decode b_Ns_append 14 = .ok (.aload_n 0, 1) := by decide +kernel
theorem d_Ns_append_15 : decode b_Ns_append 15 = .ok (.getfield 11, 3) := by decide +kernel
theorem d_Ns_append_18 : decode b_Ns_append 18 = .ok (.aload_n 0, 1) := by decide +kernel
theorem d_Ns_append_19 : decode b_Ns_append 19 = .ok (.getfield 20, 3) := by decide +kernel
theorem d_Ns_append_22 : decode b_Ns_append 22 = .ok (.aaload, 1) := by decide +kernel
theorem d_Ns_append_23 : decode b_Ns_append 23 = .ok (.astore_n 1, 1) := by decide +kernel
theorem d_Ns_append_24 : decode b_Ns_append 24 = .ok (.aload_n 1, 1) := by decide +kernel
theorem d_Ns_append_25 : decode b_Ns_append 25 = .ok (.aload_n 0, 1) := by decide +kernel
theorem d_Ns_append_26 : decode b_Ns_append 26 = .ok (.getfield 24, 3) := by decide +kernel
theorem d_Ns_append_29 : decode b_Ns_append 29 = .ok (.putfield 36, 3) := by decide +kernel
theorem d_Ns_append_32 : decode b_Ns_append 32 = .ok (.aload_n 0, 1) := by decide +kernel
theorem d_Ns_append_33 : decode b_Ns_append 33 = .ok (.dup, 1) := by decide +kernel
theorem d_Ns_append_34 : decode b_Ns_append 34 = .ok (.getfield 20, 3) := by decide +kernel
theorem d_Ns_append_37 : decode b_Ns_append 37 = .ok (.iconst 1, 1) := by decide +kernel
theorem d_Ns_append_38 : decode b_Ns_append 38 = .ok (.iadd, 1) := by decide +kernel
theorem d_Ns_append_39 : decode b_Ns_append 39 = .ok (.putfield 20, 3) := by decide +kernel
theorem d_Ns_append_42 : decode b_Ns_append 42 = .ok (.aload_n 0, 1) := by decide +kernel
theorem d_Ns_append_43 : decode b_Ns_append 43 = .ok (.dup, 1) := by decide +kernel
theorem d_Ns_append_44 : decode b_Ns_append 44 = .ok (.getfield 24, 3) := by decide +kernel
theorem d_Ns_append_47 : decode b_Ns_append 47 = .ok (.iconst 1, 1) := by decide +kernel
theorem d_Ns_append_48 : decode b_Ns_append 48 = .ok (.iadd, 1) := by decide +kernel
theorem d_Ns_append_49 : decode b_Ns_append 49 = .ok (.putfield 24, 3) := by decide +kernel
theorem d_Ns_append_52 : decode b_Ns_append 52 = .ok (.aload_n 1, 1) := by decide +kernel
theorem d_Ns_append_53 : decode b_Ns_append 53 = .ok (.areturn, 1) := by decide +kernel
theorem d_No_takeName_0 : decode b_No_takeName 0 = .ok (.aload_n 0, 1) := by decide +kernel
theorem d_No_takeName_1 : decode b_No_takeName 1 = .ok (.lload_n 1, 1) := by decide +kernel
theorem d_No_takeName_2 : decode b_No_takeName 2 = .ok (.putfield 23, 3) := by decide +kernel
theorem d_No_takeName_5 : decode b_No_takeName 5 = .ok (.aload_n 0, 1) := by decide +kernel
theorem d_No_takeName_6 : decode b_No_takeName 6 = .ok (.iconst 0, 1) := by decide +kernel
theorem d_No_takeName_7 : decode b_No_takeName 7 = .ok (.putfield 27, 3) := by decide +kernel
theorem d_No_takeName_10 : decode b_No_takeName 10 = .ok (.iconst 0, 1) := by decide +kernel
theorem d_No_takeName_11 : decode b_No_takeName 11 = .ok (.istore_n 3, 1) := by decide +kernel
theorem d_No_takeName_12 : decode b_No_takeName 12 = .ok (.iload_n 3, 1) := by decide +kernel
theorem d_No_takeName_13 : decode b_No_takeName 13 = .ok (.bipush 64, 2) := by decide +kernel
theorem d_No_takeName_15 : decode b_No_takeName 15 = .ok (.if_icmp .ge 27, 3) := by decide +kernel
theorem d_No_takeName_42 : decode b_No_takeName 42 = .ok (.return_, 1) := by decide +kernel
theorem d_No_takeName_18 : decode b_No_takeName 18 = .ok (.lload_n 1, 1) := by decide +kernel
theorem d_No_takeName_19 : decode b_No_takeName 19 = .ok (.iload_n 3, 1) := by decide +kernel
theorem d_No_takeName_20 : decode b_No_takeName 20 = .ok (.lushr, 1) := by decide +kernel
theorem d_No_takeName_21 : decode b_No_takeName 21 = .ok (.lconst 0, 1) := by decide +kernel
theorem d_No_takeName_22 : decode b_No_takeName 22 = .ok (.lcmp, 1) := by decide +kernel
theorem d_No_takeName_23 : decode b_No_takeName 23 = .ok (.ifCond .eq 13, 3) := by decide +kernel
theorem d_No_takeName_36 : decode b_No_takeName 36 = .ok (.iinc 3 8, 3) := by decide +kernel
theorem d_No_takeName_39 : decode b_No_takeName 39 = .ok (.goto (-27), 3) := by decide +kernel
theorem d_No_takeName_26 : decode b_No_takeName 26 = .ok (.aload_n 0, 1) := by decide +kernel
theorem d_No_takeName_27 : decode b_No_takeName 27 = .ok (.dup, 1) := by decide +kernel
theorem d_No_takeName_28 : decode b_No_takeName 28 = .ok (.getfield 27, 3) := by decide +kernel
theorem d_No_takeName_31 : decode b_No_takeName 31 = .ok (.iconst 1, 1) := by decide +kernel
theorem d_No_takeName_32 : decode b_No_takeName 32 = .ok (.iadd, 1) := by decide +kernel
theorem d_No_takeName_33 : decode b_No_takeName 33 = .ok (.putfield 27, 3) := by decide +kernel
theorem d_No_takeContent_0 : decode b_No_takeContent 0 = .ok (.aload_n 0, 1) := by decide +kernel
theorem d_No_takeContent_1 : decode b_No_takeContent 1 = .ok (.iload_n 1, 1) := by decide +kernel
theorem d_No_takeContent_2 : decode b_No_takeContent 2 = .ok (.putfield 30, 3) := by decide +kernel
theorem d_No_takeContent_5 : decode b_No_takeContent 5 = .ok (.aload_n 0, 1) := by decide +kernel
theorem d_No_takeContent_6 : decode b_No_takeContent 6 = .ok (.iload_n 2, 1) := by decide +kernel
theorem d_No_takeContent_7 : decode b_No_takeContent 7 = .ok (.putfield 33, 3) := by decide +kernel
theorem d_No_takeContent_10 : decode b_No_takeContent 10 = .ok (.aload_n 0, 1) := by decide +kernel
theorem d_No_takeContent_11 : decode b_No_takeContent 11 = .ok (.iconst 0, 1) := by decide +kernel
theorem d_No_takeContent_12 : decode b_No_takeContent 12 = .ok (.putfield 36, 3) := by decide +kernel
theorem d_No_takeContent_15 : decode b_No_takeContent 15 = .ok (.aload_n 0, 1) := by decide +kernel
theorem d_No_takeContent_16 : decode b_No_takeContent 16 = .ok (.iconst 0, 1) := by decide +kernel
theorem d_No_takeContent_17 : decode b_No_takeContent 17 = .ok (.putfield 39, 3) := by decide +kernel
theorem d_No_takeContent_20 : decode b_No_takeContent 20 = .ok (.return_, 1) := by decide +kernel
theorem d_No_become_0 : decode b_No_become 0 = .ok (.aload_n 0, 1) := by decide +kernel
theorem d_No_become_1 : decode b_No_become 1 = .ok (.aload_n 1, 1) := by decide +kernel
theorem d_No_become_2 : decode b_No_become 2 = .ok (.putfield 15, 3) := by decide +kernel
theorem d_No_become_5 : decode b_No_become 5 = .ok (.aload_n 0, 1) := by decide +kernel
theorem d_No_become_6 : decode b_No_become 6 = .ok (.iload_n 2, 1) := by decide +kernel
theorem d_No_become_7 : decode b_No_become 7 = .ok (.putfield 19, 3) := by decide +kernel
theorem d_No_become_10 : decode b_No_become 10 = .ok (.aload_n 0, 1) := by decide +kernel
theorem d_No_become_11 : decode b_No_become 11 = .ok (.lload_n 3, 1) := by decide +kernel
theorem d_No_become_12 : decode b_No_become 12 = .ok (.invokevirtual 48, 3) := by decide +kernel
theorem d_No_become_15 : decode b_No_become 15 = .ok (.aload_n 0, 1) := by decide +kernel
theorem d_No_become_16 : decode b_No_become 16 = .ok (.iconst 0, 1) := by decide +kernel
theorem d_No_become_17 : decode b_No_become 17 = .ok (.iconst 0, 1) := by decide +kernel
theorem d_No_become_18 : decode b_No_become 18 = .ok (.invokevirtual 52, 3) := by decide +kernel
theorem d_No_become_21 : decode b_No_become 21 = .ok (.return_, 1) := by decide +kernel
/-- what a byte of a name may be, as the code asks it -/
def lt3 (c : Int32) : Int32 := if c = 95 then 1 else 0
def lt2 (c : Int32) : Int32 := if c < 48 then lt3 c else if c ≤ 57 then 1 else lt3 c
def letC (c : Int32) : Int32 := if c < 65 then lt2 c else if c ≤ 90 then 1 else lt2 c
/-- byte k of a word -/
def tb (w : Int64) (k : Nat) : Int32 := (w.toUInt64 >>> ((nI (8 * (k + 1)) - 8).toInt64.toUInt64 &&& Int64.toUInt64 63)).toInt64.toInt32 &&& 255
/-- the name that bytes k - 1 to 0 add to a, 0 if one is none of a name's -/
def tl (w : Int64) : Nat → Int64 → Int64
  | 0, a => a
  | k + 1, a => if tb w k = 0 then tl w k a else if letC (tb w k) = 0 then 0 else tl w k (a <<< ((8 : Int32).toInt64 &&& 63) ||| (tb w k).toInt64)
def tlV (w : Int64) : Int64 := tl w 8 0
theorem sh_0 : (56 : Int32) = nI (8 * 8) - 8 := by decide
theorem sh_neg : ∀ k, k < 9 → ((nI (8 * k) - 8 < 0) ↔ k = 0) := by decide
theorem sh_dec : ∀ k, k < 8 → nI (8 * (k + 1)) - 8 + Int32.ofInt (-8) = nI (8 * k) - 8 := by decide

/-- whether size and seed are a content -/
def cntC (sz sd : Int32) : Int32 := if sz < 0 then 0 else if 6000 < sz then 0 else if sd < 0 then 0 else if 255 < sd then 0 else 1

theorem sn_ge : ∀ k, k < 9 → ((64 ≤ (64 : Int32) - nI (8 * k)) ↔ k = 0) := by decide
theorem sn_dec : ∀ k, k < 8 → (64 : Int32) - nI (8 * (k + 1)) + Int32.ofInt 8 = 64 - nI (8 * k) := by decide

set_option maxHeartbeats 4000000 in
set_option maxRecDepth 100000 in
theorem c_Di_isNameByte (l : Launch) (D : va_G) (t : Nat → ClassId) (G : hG) (ak av : Nat → Nat) (h : hM) (c9 : Int32) : Met l y_Di_isNameByte (.code y_Di_isNameByte b_Di_isNameByte 1 (some .boolean) :: lw_g) { frames := 0, cells := 0, slots := 0, locals := 0 } (hP (kE D t G ak av) D vwCl G h [.int c9]) (hQi D vwCl G (fun r h' => r = letC c9 ∧ h = h')) 0 0 G.P := by
  refine Met.ofW (cc := b_Di_isNameByte) (maxL := 1) (ret := (some .boolean)) (by decide) rfl ?_
  intro p e s m args below meth c s₁ Bd hml hv
  obtain ⟨ha, hE, hH⟩ := hv
  have hx := Bd.exec
  have hb := Bd.bytes
  have hr := Bd.returns
  have hts : ∀ w ∈ lw_g, w.before args s = true := fun w hw => atoms_spec (ws := (.code y_Di_isNameByte b_Di_isNameByte 1 (some .boolean) :: lw_g)) Bd.pre w (List.mem_cons_of_mem _ hw)
  have hown : s.vm.findClass R_Di = some m.cls := findClass_of_methodNamed Bd.named
  have hlocks := Bd.notSynchronized
  have hK := hE.1
  have hH0 := hH
  have hLo : hLc G.P [] := hLc_nil
  have hz : s.heap.size ≤ s.heap.size := Nat.le_refl _
  have hkp : kp [] h h := kp_rf
  have hl := lv_entry [.int c9] (n := 1) (Nat.le_of_ble_eq_true rfl)
  rw [show entryFrame m args 1 = F0 m 0 ((lg_sl [.int c9] ++ List.replicate (1 - (lg_sl [.int c9]).length) Slot.unset).toArray) [] from (by rw [ha]; exact lg_entry_eq m [.int c9] 1)]
  generalize (lg_sl [.int c9] ++ List.replicate (1 - (lg_sl [.int c9]).length) Slot.unset).toArray = ls at hl ⊢
  have hl : lv_has ls 1 [(0, .int c9)] := hl
  refine lv_iload_n hx hb d_Di_isNameByte_0 rfl (lv_at hl 0 rfl) ?_
  refine lv_bipush (v := 65) hx hb d_Di_isNameByte_1 (by decide) ?_
  refine lv_icmp_lt (tgt := 12) hx hb d_Di_isNameByte_3 (by decide) (fun hc1 => ?_) (fun hc1 => ?_)
  · skip
    refine lv_iload_n hx hb d_Di_isNameByte_12 rfl (lv_at hl 0 rfl) ?_
    refine lv_bipush (v := 48) hx hb d_Di_isNameByte_13 (by decide) ?_
    refine lv_icmp_lt (tgt := 24) hx hb d_Di_isNameByte_15 (by decide) (fun hc2 => ?_) (fun hc2 => ?_)
    · skip
      refine lv_iload_n hx hb d_Di_isNameByte_24 rfl (lv_at hl 0 rfl) ?_
      refine lv_bipush (v := 95) hx hb d_Di_isNameByte_25 (by decide) ?_
      refine lv_icmp_ne (tgt := 34) hx hb d_Di_isNameByte_27 (by decide) (fun hc3 => ?_) (fun hc3 => ?_)
      · skip
        refine lv_iconst (v := 0) hx hb d_Di_isNameByte_34 (by decide) ?_
        exact W.zret (v := 0) hx hb hr (by decide) (fun t9 ht hW => ⟨0, h, rfl, ⟨by simp [letC, lt2, lt3, hc1, hc2, hc3], rfl⟩, by rw [ht]; exact hH, by rw [ht]; exact hz⟩) hLo d_Di_isNameByte_35
      · skip
        refine lv_iconst (v := 1) hx hb d_Di_isNameByte_30 (by decide) ?_
        refine lv_goto (tgt := 35) hx hb d_Di_isNameByte_31 (by decide) ?_
        exact W.zret (v := 1) hx hb hr (by decide) (fun t9 ht hW => ⟨1, h, rfl, ⟨by simp [letC, lt2, lt3, hc1, hc2, hc3], rfl⟩, by rw [ht]; exact hH, by rw [ht]; exact hz⟩) hLo d_Di_isNameByte_35
    · skip
      refine lv_iload_n hx hb d_Di_isNameByte_18 rfl (lv_at hl 0 rfl) ?_
      refine lv_bipush (v := 57) hx hb d_Di_isNameByte_19 (by decide) ?_
      refine lv_icmp_le (tgt := 30) hx hb d_Di_isNameByte_21 (by decide) (fun hc4 => ?_) (fun hc4 => ?_)
      · skip
        refine lv_iconst (v := 1) hx hb d_Di_isNameByte_30 (by decide) ?_
        refine lv_goto (tgt := 35) hx hb d_Di_isNameByte_31 (by decide) ?_
        exact W.zret (v := 1) hx hb hr (by decide) (fun t9 ht hW => ⟨1, h, rfl, ⟨by simp [letC, lt2, lt3, hc1, hc2, hc4], rfl⟩, by rw [ht]; exact hH, by rw [ht]; exact hz⟩) hLo d_Di_isNameByte_35
      · skip
        refine lv_iload_n hx hb d_Di_isNameByte_24 rfl (lv_at hl 0 rfl) ?_
        refine lv_bipush (v := 95) hx hb d_Di_isNameByte_25 (by decide) ?_
        refine lv_icmp_ne (tgt := 34) hx hb d_Di_isNameByte_27 (by decide) (fun hc5 => ?_) (fun hc5 => ?_)
        · skip
          refine lv_iconst (v := 0) hx hb d_Di_isNameByte_34 (by decide) ?_
          exact W.zret (v := 0) hx hb hr (by decide) (fun t9 ht hW => ⟨0, h, rfl, ⟨by simp [letC, lt2, lt3, hc1, hc2, hc4, hc5], rfl⟩, by rw [ht]; exact hH, by rw [ht]; exact hz⟩) hLo d_Di_isNameByte_35
        · skip
          refine lv_iconst (v := 1) hx hb d_Di_isNameByte_30 (by decide) ?_
          refine lv_goto (tgt := 35) hx hb d_Di_isNameByte_31 (by decide) ?_
          exact W.zret (v := 1) hx hb hr (by decide) (fun t9 ht hW => ⟨1, h, rfl, ⟨by simp [letC, lt2, lt3, hc1, hc2, hc4, hc5], rfl⟩, by rw [ht]; exact hH, by rw [ht]; exact hz⟩) hLo d_Di_isNameByte_35
  · skip
    refine lv_iload_n hx hb d_Di_isNameByte_6 rfl (lv_at hl 0 rfl) ?_
    refine lv_bipush (v := 90) hx hb d_Di_isNameByte_7 (by decide) ?_
    refine lv_icmp_le (tgt := 30) hx hb d_Di_isNameByte_9 (by decide) (fun hc6 => ?_) (fun hc6 => ?_)
    · skip
      refine lv_iconst (v := 1) hx hb d_Di_isNameByte_30 (by decide) ?_
      refine lv_goto (tgt := 35) hx hb d_Di_isNameByte_31 (by decide) ?_
      exact W.zret (v := 1) hx hb hr (by decide) (fun t9 ht hW => ⟨1, h, rfl, ⟨by simp [letC, lt2, lt3, hc1, hc6], rfl⟩, by rw [ht]; exact hH, by rw [ht]; exact hz⟩) hLo d_Di_isNameByte_35
    · skip
      refine lv_iload_n hx hb d_Di_isNameByte_12 rfl (lv_at hl 0 rfl) ?_
      refine lv_bipush (v := 48) hx hb d_Di_isNameByte_13 (by decide) ?_
      refine lv_icmp_lt (tgt := 24) hx hb d_Di_isNameByte_15 (by decide) (fun hc7 => ?_) (fun hc7 => ?_)
      · skip
        refine lv_iload_n hx hb d_Di_isNameByte_24 rfl (lv_at hl 0 rfl) ?_
        refine lv_bipush (v := 95) hx hb d_Di_isNameByte_25 (by decide) ?_
        refine lv_icmp_ne (tgt := 34) hx hb d_Di_isNameByte_27 (by decide) (fun hc8 => ?_) (fun hc8 => ?_)
        · skip
          refine lv_iconst (v := 0) hx hb d_Di_isNameByte_34 (by decide) ?_
          exact W.zret (v := 0) hx hb hr (by decide) (fun t9 ht hW => ⟨0, h, rfl, ⟨by simp [letC, lt2, lt3, hc1, hc6, hc7, hc8], rfl⟩, by rw [ht]; exact hH, by rw [ht]; exact hz⟩) hLo d_Di_isNameByte_35
        · skip
          refine lv_iconst (v := 1) hx hb d_Di_isNameByte_30 (by decide) ?_
          refine lv_goto (tgt := 35) hx hb d_Di_isNameByte_31 (by decide) ?_
          exact W.zret (v := 1) hx hb hr (by decide) (fun t9 ht hW => ⟨1, h, rfl, ⟨by simp [letC, lt2, lt3, hc1, hc6, hc7, hc8], rfl⟩, by rw [ht]; exact hH, by rw [ht]; exact hz⟩) hLo d_Di_isNameByte_35
      · skip
        refine lv_iload_n hx hb d_Di_isNameByte_18 rfl (lv_at hl 0 rfl) ?_
        refine lv_bipush (v := 57) hx hb d_Di_isNameByte_19 (by decide) ?_
        refine lv_icmp_le (tgt := 30) hx hb d_Di_isNameByte_21 (by decide) (fun hc9 => ?_) (fun hc9 => ?_)
        · skip
          refine lv_iconst (v := 1) hx hb d_Di_isNameByte_30 (by decide) ?_
          refine lv_goto (tgt := 35) hx hb d_Di_isNameByte_31 (by decide) ?_
          exact W.zret (v := 1) hx hb hr (by decide) (fun t9 ht hW => ⟨1, h, rfl, ⟨by simp [letC, lt2, lt3, hc1, hc6, hc7, hc9], rfl⟩, by rw [ht]; exact hH, by rw [ht]; exact hz⟩) hLo d_Di_isNameByte_35
        · skip
          refine lv_iload_n hx hb d_Di_isNameByte_24 rfl (lv_at hl 0 rfl) ?_
          refine lv_bipush (v := 95) hx hb d_Di_isNameByte_25 (by decide) ?_
          refine lv_icmp_ne (tgt := 34) hx hb d_Di_isNameByte_27 (by decide) (fun hc10 => ?_) (fun hc10 => ?_)
          · skip
            refine lv_iconst (v := 0) hx hb d_Di_isNameByte_34 (by decide) ?_
            exact W.zret (v := 0) hx hb hr (by decide) (fun t9 ht hW => ⟨0, h, rfl, ⟨by simp [letC, lt2, lt3, hc1, hc6, hc7, hc9, hc10], rfl⟩, by rw [ht]; exact hH, by rw [ht]; exact hz⟩) hLo d_Di_isNameByte_35
          · skip
            refine lv_iconst (v := 1) hx hb d_Di_isNameByte_30 (by decide) ?_
            refine lv_goto (tgt := 35) hx hb d_Di_isNameByte_31 (by decide) ?_
            exact W.zret (v := 1) hx hb hr (by decide) (fun t9 ht hW => ⟨1, h, rfl, ⟨by simp [letC, lt2, lt3, hc1, hc6, hc7, hc9, hc10], rfl⟩, by rw [ht]; exact hH, by rw [ht]; exact hz⟩) hLo d_Di_isNameByte_35

set_option maxHeartbeats 4000000 in
set_option maxRecDepth 100000 in
theorem c_Di_nameIn (l : Launch) (D : va_G) (t : Nat → ClassId) (G : hG) (ak av : Nat → Nat) (h : hM) (w : Int64) : Met l y_Di_nameIn (.code y_Di_nameIn b_Di_nameIn 6 (some .long) :: lw_g) { frames := 1, cells := 0, slots := 0, locals := 20 } (hP (kE D t G ak av) D vwCl G h [.long w]) (hQl D vwCl G (fun r h' => r = tlV w ∧ h = h')) 0 0 G.P := by
  refine Met.ofW (cc := b_Di_nameIn) (maxL := 6) (ret := (some .long)) (by decide) rfl ?_
  intro p e s m args below meth c s₁ Bd hml hv
  obtain ⟨ha, hE, hH⟩ := hv
  have hx := Bd.exec
  have hb := Bd.bytes
  have hr := Bd.returns
  have hts : ∀ w ∈ lw_g, w.before args s = true := fun w hw => atoms_spec (ws := (.code y_Di_nameIn b_Di_nameIn 6 (some .long) :: lw_g)) Bd.pre w (List.mem_cons_of_mem _ hw)
  have hown : s.vm.findClass R_Di = some m.cls := findClass_of_methodNamed Bd.named
  have hlocks := Bd.notSynchronized
  have hK := hE.1
  have hH0 := hH
  have hLo : hLc G.P [] := hLc_nil
  have hz : s.heap.size ≤ s.heap.size := Nat.le_refl _
  have hkp : kp [] h h := kp_rf
  have hl := lv_entry [.long w] (n := 6) (Nat.le_of_ble_eq_true rfl)
  rw [show entryFrame m args 6 = F0 m 0 ((lg_sl [.long w] ++ List.replicate (6 - (lg_sl [.long w]).length) Slot.unset).toArray) [] from (by rw [ha]; exact lg_entry_eq m [.long w] 6)]
  generalize (lg_sl [.long w] ++ List.replicate (6 - (lg_sl [.long w]).length) Slot.unset).toArray = ls at hl ⊢
  have hl : lv_has ls 6 [(0, .long w)] := hl
  refine lv_lconst (v := 0) hx hb d_Di_nameIn_0 (by decide) ?_
  refine lv_lstore_n (lv' := [(2, .long 0), (0, .long w)]) hx hb d_Di_nameIn_1 rfl hl (by decide) rfl (fun ls hl => ?_)
  refine lv_bipush (v := 56) hx hb d_Di_nameIn_2 (by decide) ?_
  refine lv_topi (fun v1 e2 => ?_)
  obtain rfl : v1 = nI (8 * 8) - 8 := e2.trans (sh_0)
  refine lv_istore (lv' := [(4, .int (nI (8 * 8) - 8)), (2, .long 0), (0, .long w)]) hx hb d_Di_nameIn_4 hl (by decide) rfl (fun ls hl => ?_)
  refine hm_loop (fun k ls H locs hh => ∃ (k9 : Nat) (acc : Int64), k = k9 ∧ lv_has ls 6 [(4, .int (nI (8 * k9) - 8)), (0, .long w), (2, .long acc)] ∧ hm D vwCl G hh H ∧ s.heap.size ≤ H.size ∧ hLc G.P locs ∧ kp [] h hh ∧ (tl w k9 acc = tlV w) ∧ (k9 ≤ 8) ∧ (h = hh)) ?_ (hh := h) ⟨8, 0, rfl, (lv_sub hl [0, 2, 1] rfl), hH, hz, hLo, hkp, rfl, by omega, rfl⟩
  rintro k ls H locs hh ⟨k9, acc, hk, hl, hH, hz, hLo, hkp, htl, hk9, hhh⟩ ih
  rcases Nat.eq_zero_or_pos k9 with rfl | hpos
  · skip
    refine lv_iload hx hb d_Di_nameIn_6 (lv_at hl 0 rfl) ?_
    refine lv_if_lt (tgt := 57) hx hb d_Di_nameIn_8 (by decide) (fun hc3 => ?_) (fun hc3 => absurd ((sh_neg 0 (by decide)).mpr rfl) hc3)
    refine lv_lload_n hx hb d_Di_nameIn_57 rfl (lv_at hl 2 rfl) ?_
    exact W.lret (v := acc) hx hb hr (fun t9 ht hW => ⟨acc, hh, rfl, ⟨htl, hhh⟩, by rw [ht]; exact hH, by rw [ht]; exact hz⟩) hLo d_Di_nameIn_58
  · skip
    obtain ⟨j, rfl⟩ : ∃ j, k9 = j + 1 := ⟨k9 - 1, by omega⟩
    refine lv_iload hx hb d_Di_nameIn_6 (lv_at hl 0 rfl) ?_
    refine lv_if_lt (tgt := 57) hx hb d_Di_nameIn_8 (by decide) (fun hc4 => absurd hc4 (mt (sh_neg (j + 1) (by omega)).mp (by omega))) (fun hc4 => ?_)
    refine lv_lload_n hx hb d_Di_nameIn_11 rfl (lv_at hl 1 rfl) ?_
    refine lv_iload hx hb d_Di_nameIn_12 (lv_at hl 0 rfl) ?_
    refine lv_lushr (v := (w.toUInt64 >>> ((nI (8 * (j + 1)) - 8).toInt64.toUInt64 &&& Int64.toUInt64 63)).toInt64) hx hb d_Di_nameIn_14 rfl ?_
    refine lv_l2i (v := ((w.toUInt64 >>> ((nI (8 * (j + 1)) - 8).toInt64.toUInt64 &&& Int64.toUInt64 63)).toInt64).toInt32) hx hb d_Di_nameIn_15 rfl ?_
    refine lv_sipush (v := 255) hx hb d_Di_nameIn_16 (by decide) ?_
    refine lv_iand hx hb d_Di_nameIn_19 ?_
    refine W.eq (g2 := F0 m 20 ls [.int (tb w j)]) rfl ?_
    refine lv_istore (lv' := [(5, .int (tb w j)), (4, .int (nI (8 * (j + 1)) - 8)), (0, .long w), (2, .long acc)]) hx hb d_Di_nameIn_20 hl (by decide) rfl (fun ls hl => ?_)
    refine lv_iload hx hb d_Di_nameIn_22 (lv_at hl 0 rfl) ?_
    refine lv_if_eq (tgt := 37) hx hb d_Di_nameIn_24 (by decide) (fun hc5 => ?_) (fun hc5 => ?_)
    · skip
      refine lv_iload hx hb d_Di_nameIn_37 (lv_at hl 0 rfl) ?_
      refine lv_if_eq (tgt := 51) hx hb d_Di_nameIn_39 (by decide) (fun hc6 => ?_) (fun hc6 => absurd hc5 hc6)
      refine lv_iinc (v := nI (8 * j) - 8) (lv' := [(4, .int (nI (8 * j) - 8)), (5, .int (tb w j)), (0, .long w), (2, .long acc)]) hx hb d_Di_nameIn_51 hl (k := 1) rfl (sh_dec j (by omega)) (by decide) rfl (fun ls hl => ?_)
      refine lv_goto (tgt := 6) hx hb d_Di_nameIn_54 (by decide) ?_
      exact ih (j) ls _ locs _ (by rw [hk]; omega) ⟨j, acc, rfl, (lv_sub hl [0, 2, 3] rfl), hH, hz, hLo, hkp, by rw [← htl, tl, if_pos hc5], by omega, hhh⟩
    · skip
      refine lv_iload hx hb d_Di_nameIn_27 (lv_at hl 0 rfl) ?_
      refine hm_calli (va_runS (As := [.int (tb w j)]) (rest := []) ⟨hx, hb, hml, hown, hts⟩ (c_Di_isNameByte l D t G ak av hh (tb w j)) ⟨cw9B 1 hts mw_270 mw_271 mw_121 rfl rfl (by decide +kernel) ⟨Nat.le_of_ble_eq_true rfl, Nat.le_of_ble_eq_true rfl⟩, hts _ mw_272⟩ (hP_S kE_ok hE hH) rfl rfl hl.1 rfl (lv_room (Nat.le_of_ble_eq_true rfl)) d_Di_nameIn_29 ⟨Nat.le_of_ble_eq_true rfl, Nat.le_of_ble_eq_true rfl⟩) hLo (fun r7 h8 H9 locs hp11 hH z10 hLo => ?_)
      have hz : s.heap.size ≤ H9.size := Nat.le_trans hz z10
      obtain ⟨rfl, rfl⟩ := hp11
      refine lv_if_ne (tgt := 37) hx hb d_Di_nameIn_32 (by decide) (fun hc12 => ?_) (fun hc12 => ?_)
      · skip
        refine lv_iload hx hb d_Di_nameIn_37 (lv_at hl 0 rfl) ?_
        refine lv_if_eq (tgt := 51) hx hb d_Di_nameIn_39 (by decide) (fun hc13 => absurd hc13 hc5) (fun hc13 => ?_)
        refine lv_lload_n hx hb d_Di_nameIn_42 rfl (lv_at hl 3 rfl) ?_
        refine lv_bipush (v := 8) hx hb d_Di_nameIn_43 (by decide) ?_
        refine lv_lshl (v := acc <<< ((8 : Int32).toInt64 &&& 63)) hx hb d_Di_nameIn_45 rfl ?_
        refine lv_iload hx hb d_Di_nameIn_46 (lv_at hl 0 rfl) ?_
        refine lv_i2l (v := (tb w j).toInt64) hx hb d_Di_nameIn_48 rfl ?_
        refine lv_lor hx hb d_Di_nameIn_49 ?_
        refine lv_lstore_n (lv' := [(2, .long ((acc <<< ((8 : Int32).toInt64 &&& 63)) ||| ((tb w j).toInt64))), (5, .int (tb w j)), (4, .int (nI (8 * (j + 1)) - 8)), (0, .long w)]) hx hb d_Di_nameIn_50 rfl hl (by decide) rfl (fun ls hl => ?_)
        refine lv_iinc (v := nI (8 * j) - 8) (lv' := [(4, .int (nI (8 * j) - 8)), (2, .long ((acc <<< ((8 : Int32).toInt64 &&& 63)) ||| ((tb w j).toInt64))), (5, .int (tb w j)), (0, .long w)]) hx hb d_Di_nameIn_51 hl (k := 2) rfl (sh_dec j (by omega)) (by decide) rfl (fun ls hl => ?_)
        refine lv_goto (tgt := 6) hx hb d_Di_nameIn_54 (by decide) ?_
        exact ih (j) ls _ locs _ (by rw [hk]; omega) ⟨j, ((acc <<< ((8 : Int32).toInt64 &&& 63)) ||| ((tb w j).toInt64)), rfl, (lv_sub hl [0, 3, 1] rfl), hH, hz, hLo, hkp, by rw [← htl, tl, if_neg hc5, if_neg hc12], by omega, hhh⟩
      · skip
        refine lv_lconst (v := 0) hx hb d_Di_nameIn_35 (by decide) ?_
        exact W.lret (v := 0) hx hb hr (fun t9 ht hW => ⟨0, hh, rfl, ⟨by rw [← htl, tl, if_neg hc5, if_pos hc12], hhh⟩, by rw [ht]; exact hH, by rw [ht]; exact hz⟩) hLo d_Di_nameIn_36

set_option maxHeartbeats 4000000 in
set_option maxRecDepth 100000 in
theorem c_Di_isContent (l : Launch) (D : va_G) (t : Nat → ClassId) (G : hG) (ak av : Nat → Nat) (h : hM) (sz sd : Int32) : Met l y_Di_isContent (.code y_Di_isContent b_Di_isContent 2 (some .boolean) :: lw_g) { frames := 0, cells := 0, slots := 0, locals := 0 } (hP (kE D t G ak av) D vwCl G h [.int sz, .int sd]) (hQi D vwCl G (fun r h' => r = cntC sz sd ∧ h = h')) 0 0 G.P := by
  refine Met.ofW (cc := b_Di_isContent) (maxL := 2) (ret := (some .boolean)) (by decide) rfl ?_
  intro p e s m args below meth c s₁ Bd hml hv
  obtain ⟨ha, hE, hH⟩ := hv
  have hx := Bd.exec
  have hb := Bd.bytes
  have hr := Bd.returns
  have hts : ∀ w ∈ lw_g, w.before args s = true := fun w hw => atoms_spec (ws := (.code y_Di_isContent b_Di_isContent 2 (some .boolean) :: lw_g)) Bd.pre w (List.mem_cons_of_mem _ hw)
  have hown : s.vm.findClass R_Di = some m.cls := findClass_of_methodNamed Bd.named
  have hlocks := Bd.notSynchronized
  have hK := hE.1
  have hH0 := hH
  have hLo : hLc G.P [] := hLc_nil
  have hz : s.heap.size ≤ s.heap.size := Nat.le_refl _
  have hkp : kp [] h h := kp_rf
  have hl := lv_entry [.int sz, .int sd] (n := 2) (Nat.le_of_ble_eq_true rfl)
  rw [show entryFrame m args 2 = F0 m 0 ((lg_sl [.int sz, .int sd] ++ List.replicate (2 - (lg_sl [.int sz, .int sd]).length) Slot.unset).toArray) [] from (by rw [ha]; exact lg_entry_eq m [.int sz, .int sd] 2)]
  generalize (lg_sl [.int sz, .int sd] ++ List.replicate (2 - (lg_sl [.int sz, .int sd]).length) Slot.unset).toArray = ls at hl ⊢
  have hl : lv_has ls 2 [(0, .int sz), (1, .int sd)] := hl
  refine lv_iload_n hx hb d_Di_isContent_0 rfl (lv_at hl 0 rfl) ?_
  refine lv_if_lt (tgt := 26) hx hb d_Di_isContent_1 (by decide) (fun hc1 => ?_) (fun hc1 => ?_)
  · skip
    refine lv_iconst (v := 0) hx hb d_Di_isContent_26 (by decide) ?_
    exact W.zret (v := 0) hx hb hr (by decide) (fun t9 ht hW => ⟨0, h, rfl, ⟨by simp [cntC, hc1], rfl⟩, by rw [ht]; exact hH, by rw [ht]; exact hz⟩) hLo d_Di_isContent_27
  · skip
    refine lv_iload_n hx hb d_Di_isContent_4 rfl (lv_at hl 0 rfl) ?_
    refine lv_sipush (v := 6000) hx hb d_Di_isContent_5 (by decide) ?_
    refine lv_icmp_gt (tgt := 26) hx hb d_Di_isContent_8 (by decide) (fun hc2 => ?_) (fun hc2 => ?_)
    · skip
      refine lv_iconst (v := 0) hx hb d_Di_isContent_26 (by decide) ?_
      exact W.zret (v := 0) hx hb hr (by decide) (fun t9 ht hW => ⟨0, h, rfl, ⟨by simp [cntC, hc1, hc2], rfl⟩, by rw [ht]; exact hH, by rw [ht]; exact hz⟩) hLo d_Di_isContent_27
    · skip
      refine lv_iload_n hx hb d_Di_isContent_11 rfl (lv_at hl 1 rfl) ?_
      refine lv_if_lt (tgt := 26) hx hb d_Di_isContent_12 (by decide) (fun hc3 => ?_) (fun hc3 => ?_)
      · skip
        refine lv_iconst (v := 0) hx hb d_Di_isContent_26 (by decide) ?_
        exact W.zret (v := 0) hx hb hr (by decide) (fun t9 ht hW => ⟨0, h, rfl, ⟨by simp [cntC, hc1, hc2, hc3], rfl⟩, by rw [ht]; exact hH, by rw [ht]; exact hz⟩) hLo d_Di_isContent_27
      · skip
        refine lv_iload_n hx hb d_Di_isContent_15 rfl (lv_at hl 1 rfl) ?_
        refine lv_sipush (v := 255) hx hb d_Di_isContent_16 (by decide) ?_
        refine lv_icmp_gt (tgt := 26) hx hb d_Di_isContent_19 (by decide) (fun hc4 => ?_) (fun hc4 => ?_)
        · skip
          refine lv_iconst (v := 0) hx hb d_Di_isContent_26 (by decide) ?_
          exact W.zret (v := 0) hx hb hr (by decide) (fun t9 ht hW => ⟨0, h, rfl, ⟨by simp [cntC, hc1, hc2, hc3, hc4], rfl⟩, by rw [ht]; exact hH, by rw [ht]; exact hz⟩) hLo d_Di_isContent_27
        · skip
          refine lv_iconst (v := 1) hx hb d_Di_isContent_22 (by decide) ?_
          refine lv_goto (tgt := 27) hx hb d_Di_isContent_23 (by decide) ?_
          exact W.zret (v := 1) hx hb hr (by decide) (fun t9 ht hW => ⟨1, h, rfl, ⟨by simp [cntC, hc1, hc2, hc3, hc4], rfl⟩, by rw [ht]; exact hH, by rw [ht]; exact hz⟩) hLo d_Di_isContent_27

set_option maxHeartbeats 4000000 in
set_option maxRecDepth 100000 in
theorem c_Nodes_nodeOf (l : Launch) (D : va_G) (t : Nat → ClassId) (G : hG) (ak av : Nat → Nat) (h : hM) (ns sl od rt : Nat) (fs : Nat → Option Nat) (sc np nu : Int32) (f_ns : h ns = some (.inr (2, [.ref sl, .ref od, .int 1, .int 1]))) (f_sl : h sl = some (.inl ((t 4), 30, .inr (.inr (.inr (.inr fs)))))) (f_rt : h rt = some (.inr (1, [.int 0, .null, .int 1, .long 0, .int 0, .int 0, .int 0, .int 0, .int 0, .int sc, .int np]))) (hf0 : fs 0 = some rt) : Met l y_Ns_nodeOf (.code y_Ns_nodeOf b_Ns_nodeOf 3 (some (.object "WriteOnceDisc$Node")) :: lw_g) { frames := 0, cells := 0, slots := 0, locals := 0 } (hP (kE D t G ak av) D vwCl G h [.ref ns, .int nu]) (hQr D vwCl G (fun r h' => r = (if nu = 0 then some rt else none) ∧ h = h')) 0 0 G.P := by
  refine Met.ofW (cc := b_Ns_nodeOf) (maxL := 3) (ret := (some (.object "WriteOnceDisc$Node"))) (by decide) rfl ?_
  intro p e s m args below meth c s₁ Bd hml hv
  obtain ⟨ha, hE, hH⟩ := hv
  have hx := Bd.exec
  have hb := Bd.bytes
  have hr := Bd.returns
  have hts : ∀ w ∈ lw_g, w.before args s = true := fun w hw => atoms_spec (ws := (.code y_Ns_nodeOf b_Ns_nodeOf 3 (some (.object "WriteOnceDisc$Node")) :: lw_g)) Bd.pre w (List.mem_cons_of_mem _ hw)
  have hown : s.vm.findClass R_Ns = some m.cls := findClass_of_methodNamed Bd.named
  have hlocks := Bd.notSynchronized
  have hK := hE.1
  have hH0 := hH
  have hLo : hLc G.P [] := hLc_nil
  have hz : s.heap.size ≤ s.heap.size := Nat.le_refl _
  have hkp : kp [] h h := kp_rf
  have hl := lv_entry [.ref ns, .int nu] (n := 3) (Nat.le_of_ble_eq_true rfl)
  rw [show entryFrame m args 3 = F0 m 0 ((lg_sl [.ref ns, .int nu] ++ List.replicate (3 - (lg_sl [.ref ns, .int nu]).length) Slot.unset).toArray) [] from (by rw [ha]; exact lg_entry_eq m [.ref ns, .int nu] 3)]
  generalize (lg_sl [.ref ns, .int nu] ++ List.replicate (3 - (lg_sl [.ref ns, .int nu]).length) Slot.unset).toArray = ls at hl ⊢
  have hl : lv_has ls 3 [(0, .ref ns), (1, .int nu)] := hl
  refine lv_iconst (v := 0) hx hb d_Ns_nodeOf_0 (by decide) ?_
  refine lv_istore_n (lv' := [(2, .int 0), (0, .ref ns), (1, .int nu)]) hx hb d_Ns_nodeOf_1 rfl hl (by decide) rfl (fun ls hl => ?_)
  refine lv_iload_n hx hb d_Ns_nodeOf_2 rfl (lv_at hl 0 rfl) ?_
  refine lv_aload_n hx hb d_Ns_nodeOf_3 rfl (lv_at hl 1 rfl) ?_
  refine hm_get (ci := 2) (v := .int 1) (C := R_Ns) (T := F_Ns) (N := 4) hx hb hts ig_Ns hown hK hH f_ns rfl 2 (by decide) (hts _ mw_37) (fun _ h9 => h9) rfl d_Ns_nodeOf_4 ?_
  refine lv_icmp_ge (tgt := 36) hx hb d_Ns_nodeOf_7 (by decide) (fun hc1 => absurd hc1 (by decide)) (fun hc1 => ?_)
  refine lv_aload_n hx hb d_Ns_nodeOf_10 rfl (lv_at hl 1 rfl) ?_
  refine hm_get (ci := 2) (v := .ref sl) (C := R_Ns) (T := F_Ns) (N := 4) hx hb hts ig_Ns hown hK hH f_ns rfl 0 (by decide) (hts _ mw_35) (fun _ h9 => h9) rfl d_Ns_nodeOf_11 ?_
  refine lv_iload_n hx hb d_Ns_nodeOf_14 rfl (lv_at hl 0 rfl) ?_
  refine hj_aald (v := .ref rt) hx hb hK hH 4 f_sl (C := R_No) rfl 0 (by decide) (by decide) (by decide) (by rw [hf0]; rfl) d_Ns_nodeOf_15 ?_
  refine hm_get (ci := 1) (v := .int 0) (C := R_No) (T := F_No) (N := 11) hx hb hts ig_No hown hK hH f_rt rfl 0 (by decide) (hts _ mw_273) (fun _ h9 => h9) rfl d_Ns_nodeOf_16 ?_
  refine lv_iload_n hx hb d_Ns_nodeOf_19 rfl (lv_at hl 2 rfl) ?_
  refine lv_icmp_ne (tgt := 30) hx hb d_Ns_nodeOf_20 (by decide) (fun hc2 => ?_) (fun hc2 => ?_)
  · skip
    refine lv_iinc (v := 0 + 1) (lv' := [(2, .int (0 + 1)), (0, .ref ns), (1, .int nu)]) hx hb d_Ns_nodeOf_30 hl (k := 0) rfl (by rfl) (by decide) rfl (fun ls hl => ?_)
    refine lv_goto (tgt := 2) hx hb d_Ns_nodeOf_33 (by decide) ?_
    refine lv_iload_n hx hb d_Ns_nodeOf_2 rfl (lv_at hl 0 rfl) ?_
    refine lv_aload_n hx hb d_Ns_nodeOf_3 rfl (lv_at hl 1 rfl) ?_
    refine hm_get (ci := 2) (v := .int 1) (C := R_Ns) (T := F_Ns) (N := 4) hx hb hts ig_Ns hown hK hH f_ns rfl 2 (by decide) (hts _ mw_37) (fun _ h9 => h9) rfl d_Ns_nodeOf_4 ?_
    refine lv_icmp_ge (tgt := 36) hx hb d_Ns_nodeOf_7 (by decide) (fun hc3 => ?_) (fun hc3 => absurd (by decide) hc3)
    refine lv_null hx hb d_Ns_nodeOf_36 ?_
    exact W.aret (v := va_rf (none)) hx hb hr (Or.inl ⟨_, rfl⟩) (va_rf_or _) (fun t9 ht hW => ⟨none, h, rfl, ⟨(if_neg (fun q => hc2 q.symm)).symm, rfl⟩, by rw [ht]; exact hH, by rw [ht]; exact hz⟩) hLo d_Ns_nodeOf_37
  · skip
    refine lv_aload_n hx hb d_Ns_nodeOf_23 rfl (lv_at hl 1 rfl) ?_
    refine hm_get (ci := 2) (v := .ref sl) (C := R_Ns) (T := F_Ns) (N := 4) hx hb hts ig_Ns hown hK hH f_ns rfl 0 (by decide) (hts _ mw_35) (fun _ h9 => h9) rfl d_Ns_nodeOf_24 ?_
    refine lv_iload_n hx hb d_Ns_nodeOf_27 rfl (lv_at hl 0 rfl) ?_
    refine hj_aald (v := .ref rt) hx hb hK hH 4 f_sl (C := R_No) rfl 0 (by decide) (by decide) (by decide) (by rw [hf0]; rfl) d_Ns_nodeOf_28 ?_
    exact W.aret (v := va_rf (some rt)) hx hb hr (Or.inl ⟨_, rfl⟩) (va_rf_or _) (fun t9 ht hW => ⟨some rt, h, rfl, ⟨(if_pos hc2.symm).symm, rfl⟩, by rw [ht]; exact hH, by rw [ht]; exact hz⟩) hLo d_Ns_nodeOf_29

set_option maxHeartbeats 4000000 in
set_option maxRecDepth 100000 in
theorem c_Nodes_dirOf (l : Launch) (D : va_G) (t : Nat → ClassId) (G : hG) (ak av : Nat → Nat) (h : hM) (ns sl od rt : Nat) (fs : Nat → Option Nat) (sc np nu : Int32) (f_ns : h ns = some (.inr (2, [.ref sl, .ref od, .int 1, .int 1]))) (f_sl : h sl = some (.inl ((t 4), 30, .inr (.inr (.inr (.inr fs)))))) (f_rt : h rt = some (.inr (1, [.int 0, .null, .int 1, .long 0, .int 0, .int 0, .int 0, .int 0, .int 0, .int sc, .int np]))) (hf0 : fs 0 = some rt) : Met l y_Ns_directoryOf (.code y_Ns_directoryOf b_Ns_directoryOf 3 (some (.object "WriteOnceDisc$Node")) :: lw_g) { frames := 1, cells := 0, slots := 0, locals := 22 } (hP (kE D t G ak av) D vwCl G h [.ref ns, .int nu]) (hQr D vwCl G (fun r h' => r = (if nu = 0 then some rt else none) ∧ h = h')) 0 0 G.P := by
  refine Met.ofW (cc := b_Ns_directoryOf) (maxL := 3) (ret := (some (.object "WriteOnceDisc$Node"))) (by decide) rfl ?_
  intro p e s m args below meth c s₁ Bd hml hv
  obtain ⟨ha, hE, hH⟩ := hv
  have hx := Bd.exec
  have hb := Bd.bytes
  have hr := Bd.returns
  have hts : ∀ w ∈ lw_g, w.before args s = true := fun w hw => atoms_spec (ws := (.code y_Ns_directoryOf b_Ns_directoryOf 3 (some (.object "WriteOnceDisc$Node")) :: lw_g)) Bd.pre w (List.mem_cons_of_mem _ hw)
  have hown : s.vm.findClass R_Ns = some m.cls := findClass_of_methodNamed Bd.named
  have hlocks := Bd.notSynchronized
  have hK := hE.1
  have hH0 := hH
  have hLo : hLc G.P [] := hLc_nil
  have hz : s.heap.size ≤ s.heap.size := Nat.le_refl _
  have hkp : kp [] h h := kp_rf
  have hl := lv_entry [.ref ns, .int nu] (n := 3) (Nat.le_of_ble_eq_true rfl)
  rw [show entryFrame m args 3 = F0 m 0 ((lg_sl [.ref ns, .int nu] ++ List.replicate (3 - (lg_sl [.ref ns, .int nu]).length) Slot.unset).toArray) [] from (by rw [ha]; exact lg_entry_eq m [.ref ns, .int nu] 3)]
  generalize (lg_sl [.ref ns, .int nu] ++ List.replicate (3 - (lg_sl [.ref ns, .int nu]).length) Slot.unset).toArray = ls at hl ⊢
  have hl : lv_has ls 3 [(0, .ref ns), (1, .int nu)] := hl
  refine lv_aload_n hx hb d_Ns_directoryOf_0 rfl (lv_at hl 0 rfl) ?_
  refine lv_iload_n hx hb d_Ns_directoryOf_1 rfl (lv_at hl 1 rfl) ?_
  by_cases hin : nu = 0
  · skip
    refine hm_callr (va_runV (As := [.int nu]) (b := ns) (rest := []) ⟨hx, hb, hml, hown, hts⟩ (c_Nodes_nodeOf l D t G ak av h ns sl od rt fs sc np nu f_ns f_sl f_rt hf0) ⟨cw9B 1 hts mw_274 mw_275 mw_187 rfl rfl (by decide +kernel) ⟨Nat.le_of_ble_eq_true rfl, Nat.le_of_ble_eq_true rfl⟩, hts _ mw_276, hts _ mw_277⟩ (hP_V (q := (R_Ns, F_Ns, 4)) kE_ok hE hK hH f_ns rfl) rfl rfl hl.1 rfl (lv_room (Nat.le_of_ble_eq_true rfl)) d_Ns_directoryOf_2 ⟨Nat.le_of_ble_eq_true rfl, Nat.le_of_ble_eq_true rfl⟩) hLo (fun r1 h2 H3 locs hp5 hH z4 hLo => ?_)
    have hz : s.heap.size ≤ H3.size := Nat.le_trans hz z4
    obtain ⟨hr9, rfl⟩ := hp5
    rw [if_pos hin] at hr9
    subst hr9
    refine W.eq (g2 := F0 m 5 ls [.ref rt]) rfl ?_
    refine lv_astore_n (lv' := [(2, .ref rt), (0, .ref ns), (1, .int nu)]) hx hb d_Ns_directoryOf_5 rfl hl (by decide) rfl (fun ls hl => ?_)
    refine lv_aload_n hx hb d_Ns_directoryOf_6 rfl (lv_at hl 0 rfl) ?_
    refine lv_ifnull hx hb d_Ns_directoryOf_7 ?_
    refine lv_aload_n hx hb d_Ns_directoryOf_10 rfl (lv_at hl 0 rfl) ?_
    refine hm_get (ci := 1) (v := .int 1) (C := R_No) (T := F_No) (N := 11) hx hb hts ig_No hown hK hH f_rt rfl 2 (by decide) (hts _ mw_185) (fun _ h9 => h9) rfl d_Ns_directoryOf_11 ?_
    refine lv_if_eq (tgt := 21) hx hb d_Ns_directoryOf_14 (by decide) (fun hc6 => absurd hc6 (by decide)) (fun hc6 => ?_)
    refine lv_aload_n hx hb d_Ns_directoryOf_17 rfl (lv_at hl 0 rfl) ?_
    refine lv_goto (tgt := 22) hx hb d_Ns_directoryOf_18 (by decide) ?_
    exact W.aret (v := va_rf (some rt)) hx hb hr (Or.inl ⟨_, rfl⟩) (va_rf_or _) (fun t9 ht hW => ⟨some rt, h, rfl, ⟨(if_pos hin).symm, rfl⟩, by rw [ht]; exact hH, by rw [ht]; exact hz⟩) hLo d_Ns_directoryOf_22
  · skip
    refine hm_callr (va_runV (As := [.int nu]) (b := ns) (rest := []) ⟨hx, hb, hml, hown, hts⟩ (c_Nodes_nodeOf l D t G ak av h ns sl od rt fs sc np nu f_ns f_sl f_rt hf0) ⟨cw9B 1 hts mw_274 mw_275 mw_187 rfl rfl (by decide +kernel) ⟨Nat.le_of_ble_eq_true rfl, Nat.le_of_ble_eq_true rfl⟩, hts _ mw_276, hts _ mw_277⟩ (hP_V (q := (R_Ns, F_Ns, 4)) kE_ok hE hK hH f_ns rfl) rfl rfl hl.1 rfl (lv_room (Nat.le_of_ble_eq_true rfl)) d_Ns_directoryOf_2 ⟨Nat.le_of_ble_eq_true rfl, Nat.le_of_ble_eq_true rfl⟩) hLo (fun r7 h8 H9 locs hp11 hH z10 hLo => ?_)
    have hz : s.heap.size ≤ H9.size := Nat.le_trans hz z10
    obtain ⟨hr9, rfl⟩ := hp11
    rw [if_neg hin] at hr9
    subst hr9
    refine W.eq (g2 := F0 m 5 ls [.null]) rfl ?_
    refine lv_astore_nN (lv' := [(2, .null), (0, .ref ns), (1, .int nu)]) hx hb d_Ns_directoryOf_5 rfl hl (by decide) rfl (fun ls hl => ?_)
    refine lv_aload_nN hx hb d_Ns_directoryOf_6 rfl (lv_at hl 0 rfl) ?_
    refine lv_ifnullN (tgt := 21) hx hb d_Ns_directoryOf_7 (by decide) ?_
    refine lv_null hx hb d_Ns_directoryOf_21 ?_
    exact W.aret (v := va_rf (none)) hx hb hr (Or.inl ⟨_, rfl⟩) (va_rf_or _) (fun t9 ht hW => ⟨none, h, rfl, ⟨(if_neg hin).symm, rfl⟩, by rw [ht]; exact hH, by rw [ht]; exact hz⟩) hLo d_Ns_directoryOf_22

set_option maxHeartbeats 4000000 in
set_option maxRecDepth 100000 in
theorem c_Node_depth (l : Launch) (D : va_G) (t : Nat → ClassId) (G : hG) (ak av : Nat → Nat) (h : hM) (rt : Nat) (sc np : Int32) (f_rt : h rt = some (.inr (1, [.int 0, .null, .int 1, .long 0, .int 0, .int 0, .int 0, .int 0, .int 0, .int sc, .int np]))) : Met l y_No_depth (.code y_No_depth b_No_depth 3 (some .int) :: lw_g) { frames := 0, cells := 0, slots := 0, locals := 0 } (hP (kE D t G ak av) D vwCl G h [.ref rt]) (hQi D vwCl G (fun r h' => r = 0 ∧ h = h')) 0 0 G.P := by
  refine Met.ofW (cc := b_No_depth) (maxL := 3) (ret := (some .int)) (by decide) rfl ?_
  intro p e s m args below meth c s₁ Bd hml hv
  obtain ⟨ha, hE, hH⟩ := hv
  have hx := Bd.exec
  have hb := Bd.bytes
  have hr := Bd.returns
  have hts : ∀ w ∈ lw_g, w.before args s = true := fun w hw => atoms_spec (ws := (.code y_No_depth b_No_depth 3 (some .int) :: lw_g)) Bd.pre w (List.mem_cons_of_mem _ hw)
  have hown : s.vm.findClass R_No = some m.cls := findClass_of_methodNamed Bd.named
  have hlocks := Bd.notSynchronized
  have hK := hE.1
  have hH0 := hH
  have hLo : hLc G.P [] := hLc_nil
  have hz : s.heap.size ≤ s.heap.size := Nat.le_refl _
  have hkp : kp [] h h := kp_rf
  have hl := lv_entry [.ref rt] (n := 3) (Nat.le_of_ble_eq_true rfl)
  rw [show entryFrame m args 3 = F0 m 0 ((lg_sl [.ref rt] ++ List.replicate (3 - (lg_sl [.ref rt]).length) Slot.unset).toArray) [] from (by rw [ha]; exact lg_entry_eq m [.ref rt] 3)]
  generalize (lg_sl [.ref rt] ++ List.replicate (3 - (lg_sl [.ref rt]).length) Slot.unset).toArray = ls at hl ⊢
  have hl : lv_has ls 3 [(0, .ref rt)] := hl
  refine lv_iconst (v := 0) hx hb d_No_depth_0 (by decide) ?_
  refine lv_istore_n (lv' := [(1, .int 0), (0, .ref rt)]) hx hb d_No_depth_1 rfl hl (by decide) rfl (fun ls hl => ?_)
  refine lv_aload_n hx hb d_No_depth_2 rfl (lv_at hl 1 rfl) ?_
  refine hm_get (ci := 1) (v := .null) (C := R_No) (T := F_No) (N := 11) hx hb hts ig_No hown hK hH f_rt rfl 1 (by decide) (hts _ mw_12) (fun _ h9 => h9) rfl d_No_depth_3 ?_
  refine lv_astore_nN (lv' := [(2, .null), (1, .int 0), (0, .ref rt)]) hx hb d_No_depth_6 rfl hl (by decide) rfl (fun ls hl => ?_)
  refine lv_aload_nN hx hb d_No_depth_7 rfl (lv_at hl 0 rfl) ?_
  refine lv_ifnullN (tgt := 22) hx hb d_No_depth_8 (by decide) ?_
  refine lv_iload_n hx hb d_No_depth_22 rfl (lv_at hl 1 rfl) ?_
  exact W.iret (v := 0) hx hb hr (fun t9 ht hW => ⟨0, h, rfl, ⟨rfl, rfl⟩, by rw [ht]; exact hH, by rw [ht]; exact hz⟩) hLo d_No_depth_23

set_option maxHeartbeats 4000000 in
set_option maxRecDepth 100000 in
theorem c_Nodes_other (l : Launch) (D : va_G) (t : Nat → ClassId) (G : hG) (ak av : Nat → Nat) (h : hM) (ns sl od rt : Nat) (fs : Nat → Option Nat) (sc np : Int32) (wo : Int64) (f_ns : h ns = some (.inr (2, [.ref sl, .ref od, .int 1, .int 1]))) (f_sl : h sl = some (.inl ((t 4), 30, .inr (.inr (.inr (.inr fs)))))) (f_rt : h rt = some (.inr (1, [.int 0, .null, .int 1, .long 0, .int 0, .int 0, .int 0, .int 0, .int 0, .int sc, .int np]))) (hf0 : fs 0 = some rt) : Met l y_Ns_hasOtherNamed (.code y_Ns_hasOtherNamed b_Ns_hasOtherNamed 6 (some .boolean) :: lw_g) { frames := 0, cells := 0, slots := 0, locals := 0 } (hP (kE D t G ak av) D vwCl G h [.ref ns, .ref rt, .long wo, .null]) (hQi D vwCl G (fun r h' => r = 0 ∧ h = h')) 0 0 G.P := by
  refine Met.ofW (cc := b_Ns_hasOtherNamed) (maxL := 6) (ret := (some .boolean)) (by decide) rfl ?_
  intro p e s m args below meth c s₁ Bd hml hv
  obtain ⟨ha, hE, hH⟩ := hv
  have hx := Bd.exec
  have hb := Bd.bytes
  have hr := Bd.returns
  have hts : ∀ w ∈ lw_g, w.before args s = true := fun w hw => atoms_spec (ws := (.code y_Ns_hasOtherNamed b_Ns_hasOtherNamed 6 (some .boolean) :: lw_g)) Bd.pre w (List.mem_cons_of_mem _ hw)
  have hown : s.vm.findClass R_Ns = some m.cls := findClass_of_methodNamed Bd.named
  have hlocks := Bd.notSynchronized
  have hK := hE.1
  have hH0 := hH
  have hLo : hLc G.P [] := hLc_nil
  have hz : s.heap.size ≤ s.heap.size := Nat.le_refl _
  have hkp : kp [] h h := kp_rf
  have hl := lv_entry [.ref ns, .ref rt, .long wo, .null] (n := 6) (Nat.le_of_ble_eq_true rfl)
  rw [show entryFrame m args 6 = F0 m 0 ((lg_sl [.ref ns, .ref rt, .long wo, .null] ++ List.replicate (6 - (lg_sl [.ref ns, .ref rt, .long wo, .null]).length) Slot.unset).toArray) [] from (by rw [ha]; exact lg_entry_eq m [.ref ns, .ref rt, .long wo, .null] 6)]
  generalize (lg_sl [.ref ns, .ref rt, .long wo, .null] ++ List.replicate (6 - (lg_sl [.ref ns, .ref rt, .long wo, .null]).length) Slot.unset).toArray = ls at hl ⊢
  have hl : lv_has ls 6 [(0, .ref ns), (1, .ref rt), (2, .long wo), (4, .null)] := hl
  refine lv_iconst (v := 0) hx hb d_Ns_hasOtherNamed_0 (by decide) ?_
  refine lv_istore (lv' := [(5, .int 0), (0, .ref ns), (1, .ref rt), (2, .long wo), (4, .null)]) hx hb d_Ns_hasOtherNamed_1 hl (by decide) rfl (fun ls hl => ?_)
  refine lv_iload hx hb d_Ns_hasOtherNamed_3 (lv_at hl 0 rfl) ?_
  refine lv_aload_n hx hb d_Ns_hasOtherNamed_5 rfl (lv_at hl 1 rfl) ?_
  refine hm_get (ci := 2) (v := .int 1) (C := R_Ns) (T := F_Ns) (N := 4) hx hb hts ig_Ns hown hK hH f_ns rfl 2 (by decide) (hts _ mw_37) (fun _ h9 => h9) rfl d_Ns_hasOtherNamed_6 ?_
  refine lv_icmp_ge (tgt := 61) hx hb d_Ns_hasOtherNamed_9 (by decide) (fun hc1 => absurd hc1 (by decide)) (fun hc1 => ?_)
  refine lv_aload_n hx hb d_Ns_hasOtherNamed_12 rfl (lv_at hl 1 rfl) ?_
  refine hm_get (ci := 2) (v := .ref sl) (C := R_Ns) (T := F_Ns) (N := 4) hx hb hts ig_Ns hown hK hH f_ns rfl 0 (by decide) (hts _ mw_35) (fun _ h9 => h9) rfl d_Ns_hasOtherNamed_13 ?_
  refine lv_iload hx hb d_Ns_hasOtherNamed_16 (lv_at hl 0 rfl) ?_
  refine hj_aald (v := .ref rt) hx hb hK hH 4 f_sl (C := R_No) rfl 0 (by decide) (by decide) (by decide) (by rw [hf0]; rfl) d_Ns_hasOtherNamed_18 ?_
  refine hm_get (ci := 1) (v := .null) (C := R_No) (T := F_No) (N := 11) hx hb hts ig_No hown hK hH f_rt rfl 1 (by decide) (hts _ mw_184) (fun _ h9 => h9) rfl d_Ns_hasOtherNamed_19 ?_
  refine lv_aload_n hx hb d_Ns_hasOtherNamed_22 rfl (lv_at hl 2 rfl) ?_
  refine lv_acmp_ne (rx := none) (ry := some rt) (tgt := 55) hx hb d_Ns_hasOtherNamed_23 (by decide) (fun hc2 => ?_) (fun hc2 => absurd hc2 (by simp))
  refine lv_iinc (v := 0 + 1) (lv' := [(5, .int (0 + 1)), (0, .ref ns), (1, .ref rt), (2, .long wo), (4, .null)]) hx hb d_Ns_hasOtherNamed_55 hl (k := 0) rfl (by rfl) (by decide) rfl (fun ls hl => ?_)
  refine lv_goto (tgt := 3) hx hb d_Ns_hasOtherNamed_58 (by decide) ?_
  refine lv_iload hx hb d_Ns_hasOtherNamed_3 (lv_at hl 0 rfl) ?_
  refine lv_aload_n hx hb d_Ns_hasOtherNamed_5 rfl (lv_at hl 1 rfl) ?_
  refine hm_get (ci := 2) (v := .int 1) (C := R_Ns) (T := F_Ns) (N := 4) hx hb hts ig_Ns hown hK hH f_ns rfl 2 (by decide) (hts _ mw_37) (fun _ h9 => h9) rfl d_Ns_hasOtherNamed_6 ?_
  refine lv_icmp_ge (tgt := 61) hx hb d_Ns_hasOtherNamed_9 (by decide) (fun hc3 => ?_) (fun hc3 => absurd (by decide) hc3)
  refine lv_iconst (v := 0) hx hb d_Ns_hasOtherNamed_61 (by decide) ?_
  exact W.zret (v := 0) hx hb hr (by decide) (fun t9 ht hW => ⟨0, h, rfl, ⟨rfl, rfl⟩, by rw [ht]; exact hH, by rw [ht]; exact hz⟩) hLo d_Ns_hasOtherNamed_62

set_option maxHeartbeats 4000000 in
set_option maxRecDepth 100000 in
theorem c_Nodes_append (l : Launch) (D : va_G) (t : Nat → ClassId) (G : hG) (ak av : Nat → Nat) (h : hM) (ns sl od nd : Nat) (fs : Nat → Option Nat) (f_ns : h ns = some (.inr (2, [.ref sl, .ref od, .int 1, .int 1]))) (f_sl : h sl = some (.inl ((t 4), 30, .inr (.inr (.inr (.inr fs)))))) (f_nd : h nd = some (.inr (1, [.int 0, .null, .int 1, .long 0, .int 0, .int 0, .int 0, .int 0, .int 0, .int 0, .int 1]))) (hf1 : fs 1 = some nd) : Met l y_Ns_append (.code y_Ns_append b_Ns_append 2 (some (.object "WriteOnceDisc$Node")) :: lw_g) { frames := 0, cells := 0, slots := 0, locals := 0 } (hP (kE D t G ak av) D vwCl G h [.ref ns]) (hQr D vwCl G (fun r h' => r = some nd ∧ kp [ns, nd] h h' ∧ h' ns = some (.inr (2, [.ref sl, .ref od, .int (1 + 1), .int (1 + 1)])) ∧ h' nd = some (.inr (1, [.int 1, .null, .int 1, .long 0, .int 0, .int 0, .int 0, .int 0, .int 0, .int 0, .int 1])))) 0 0 G.P := by
  refine Met.ofW (cc := b_Ns_append) (maxL := 2) (ret := (some (.object "WriteOnceDisc$Node"))) (by decide) rfl ?_
  intro p e s m args below meth c s₁ Bd hml hv
  obtain ⟨ha, hE, hH⟩ := hv
  have hx := Bd.exec
  have hb := Bd.bytes
  have hr := Bd.returns
  have hts : ∀ w ∈ lw_g, w.before args s = true := fun w hw => atoms_spec (ws := (.code y_Ns_append b_Ns_append 2 (some (.object "WriteOnceDisc$Node")) :: lw_g)) Bd.pre w (List.mem_cons_of_mem _ hw)
  have hown : s.vm.findClass R_Ns = some m.cls := findClass_of_methodNamed Bd.named
  have hlocks := Bd.notSynchronized
  have hK := hE.1
  have hH0 := hH
  have hLo : hLc G.P [] := hLc_nil
  have hz : s.heap.size ≤ s.heap.size := Nat.le_refl _
  have hkp : kp [ns, nd] h h := kp_rf
  have hl := lv_entry [.ref ns] (n := 2) (Nat.le_of_ble_eq_true rfl)
  rw [show entryFrame m args 2 = F0 m 0 ((lg_sl [.ref ns] ++ List.replicate (2 - (lg_sl [.ref ns]).length) Slot.unset).toArray) [] from (by rw [ha]; exact lg_entry_eq m [.ref ns] 2)]
  generalize (lg_sl [.ref ns] ++ List.replicate (2 - (lg_sl [.ref ns]).length) Slot.unset).toArray = ls at hl ⊢
  have hl : lv_has ls 2 [(0, .ref ns)] := hl
  refine lv_aload_n hx hb d_Ns_append_0 rfl (lv_at hl 0 rfl) ?_
  refine hm_get (ci := 2) (v := .int 1) (C := R_Ns) (T := F_Ns) (N := 4) hx hb hts ig_Ns hown hK hH f_ns rfl 2 (by decide) (hts _ mw_37) (fun _ h9 => h9) rfl d_Ns_append_1 ?_
  refine lv_aload_n hx hb d_Ns_append_4 rfl (lv_at hl 0 rfl) ?_
  refine hm_get (ci := 2) (v := .ref sl) (C := R_Ns) (T := F_Ns) (N := 4) hx hb hts ig_Ns hown hK hH f_ns rfl 0 (by decide) (hts _ mw_35) (fun _ h9 => h9) rfl d_Ns_append_5 ?_
  refine hm_alen (v := 30) hx hb hK hH 4 f_sl (ty := (.object "WriteOnceDisc$Node")) rfl (show Int32.ofNat 30 = 30 by decide) d_Ns_append_8 ?_
  refine lv_icmp_lt (tgt := 14) hx hb d_Ns_append_9 (by decide) (fun hc1 => ?_) (fun hc1 => absurd (by decide) hc1)
  refine lv_aload_n hx hb d_Ns_append_14 rfl (lv_at hl 0 rfl) ?_
  refine hm_get (ci := 2) (v := .ref sl) (C := R_Ns) (T := F_Ns) (N := 4) hx hb hts ig_Ns hown hK hH f_ns rfl 0 (by decide) (hts _ mw_35) (fun _ h9 => h9) rfl d_Ns_append_15 ?_
  refine lv_aload_n hx hb d_Ns_append_18 rfl (lv_at hl 0 rfl) ?_
  refine hm_get (ci := 2) (v := .int 1) (C := R_Ns) (T := F_Ns) (N := 4) hx hb hts ig_Ns hown hK hH f_ns rfl 2 (by decide) (hts _ mw_37) (fun _ h9 => h9) rfl d_Ns_append_19 ?_
  refine hj_aald (v := .ref nd) hx hb hK hH 4 f_sl (C := R_No) rfl 1 (by decide) (by decide) (by decide) (by rw [hf1]; rfl) d_Ns_append_22 ?_
  refine lv_astore_n (lv' := [(1, .ref nd), (0, .ref ns)]) hx hb d_Ns_append_23 rfl hl (by decide) rfl (fun ls hl => ?_)
  refine lv_aload_n hx hb d_Ns_append_24 rfl (lv_at hl 0 rfl) ?_
  refine lv_aload_n hx hb d_Ns_append_25 rfl (lv_at hl 1 rfl) ?_
  refine hm_get (ci := 2) (v := .int 1) (C := R_Ns) (T := F_Ns) (N := 4) hx hb hts ig_Ns hown hK hH f_ns rfl 3 (by decide) (hts _ mw_38) (fun _ h9 => h9) rfl d_Ns_append_26 ?_
  refine hm_put (ci := 1) (v := .int 1) (ty := .int) (C := R_No) (T := F_No) (N := 11) hx hb hts ig_No t_No tk_No nm_No hown hK hH hLo f_nd rfl 0 (by decide) (hts _ mw_273) (fun _ h9 => h9) rfl (by decide +kernel) rfl rfl (Nat.le_of_ble_eq_true rfl) d_Ns_append_29 (fun H2 locs hH z3 hLo => ?_)
  have hz : s.heap.size ≤ H2.size := by rw [z3]; exact hz
  obtain ⟨h4, e5⟩ : ∃ z, z = hu h nd (.inr (1, [.int 1, .null, .int 1, .long 0, .int 0, .int 0, .int 0, .int 0, .int 0, .int 0, .int 1])) := ⟨_, rfl⟩
  have hH : hm D vwCl G h4 H2 := by rw [e5]; exact hH
  have f_ns : h4 ns = some (.inr (2, [.ref sl, .ref od, .int 1, .int 1])) := by rw [e5, hu_n (h_neC f_ns f_nd (by decide))]; exact f_ns
  have f_sl : h4 sl = some (.inl ((t 4), 30, .inr (.inr (.inr (.inr fs))))) := by rw [e5, hu_n (h_neA f_sl f_nd)]; exact f_sl
  have f_nd : h4 nd = some (.inr (1, [.int 1, .null, .int 1, .long 0, .int 0, .int 0, .int 0, .int 0, .int 0, .int 0, .int 1])) := by rw [e5]; exact hu_s _ _ _
  have hkp : kp [ns, nd] h h4 := by rw [e5]; exact kp_put hkp (by simp)
  refine lv_aload_n hx hb d_Ns_append_32 rfl (lv_at hl 1 rfl) ?_
  refine lv_dup hx hb d_Ns_append_33 rfl ?_
  refine hm_get (ci := 2) (v := .int 1) (C := R_Ns) (T := F_Ns) (N := 4) hx hb hts ig_Ns hown hK hH f_ns rfl 2 (by decide) (hts _ mw_37) (fun _ h9 => h9) rfl d_Ns_append_34 ?_
  refine lv_iconst (v := 1) hx hb d_Ns_append_37 (by decide) ?_
  refine lv_iadd hx hb d_Ns_append_38 ?_
  refine hm_put (ci := 2) (v := .int (1 + 1)) (ty := .int) (C := R_Ns) (T := F_Ns) (N := 4) hx hb hts ig_Ns t_Ns tk_Ns nm_Ns hown hK hH hLo f_ns rfl 2 (by decide) (hts _ mw_37) (fun _ h9 => h9) rfl (by decide +kernel) rfl rfl (Nat.le_of_ble_eq_true rfl) d_Ns_append_39 (fun H6 locs hH z7 hLo => ?_)
  have hz : s.heap.size ≤ H6.size := by rw [z7]; exact hz
  obtain ⟨h8, e9⟩ : ∃ z, z = hu h4 ns (.inr (2, [.ref sl, .ref od, .int (1 + 1), .int 1])) := ⟨_, rfl⟩
  have hH : hm D vwCl G h8 H6 := by rw [e9]; exact hH
  have f_sl : h8 sl = some (.inl ((t 4), 30, .inr (.inr (.inr (.inr fs))))) := by rw [e9, hu_n (h_neA f_sl f_ns)]; exact f_sl
  have f_nd : h8 nd = some (.inr (1, [.int 1, .null, .int 1, .long 0, .int 0, .int 0, .int 0, .int 0, .int 0, .int 0, .int 1])) := by rw [e9, hu_n (h_neC f_nd f_ns (by decide))]; exact f_nd
  have f_ns : h8 ns = some (.inr (2, [.ref sl, .ref od, .int (1 + 1), .int 1])) := by rw [e9]; exact hu_s _ _ _
  have hkp : kp [ns, nd] h h8 := by rw [e9]; exact kp_put hkp (by simp)
  refine lv_aload_n hx hb d_Ns_append_42 rfl (lv_at hl 1 rfl) ?_
  refine lv_dup hx hb d_Ns_append_43 rfl ?_
  refine hm_get (ci := 2) (v := .int 1) (C := R_Ns) (T := F_Ns) (N := 4) hx hb hts ig_Ns hown hK hH f_ns rfl 3 (by decide) (hts _ mw_38) (fun _ h9 => h9) rfl d_Ns_append_44 ?_
  refine lv_iconst (v := 1) hx hb d_Ns_append_47 (by decide) ?_
  refine lv_iadd hx hb d_Ns_append_48 ?_
  refine hm_put (ci := 2) (v := .int (1 + 1)) (ty := .int) (C := R_Ns) (T := F_Ns) (N := 4) hx hb hts ig_Ns t_Ns tk_Ns nm_Ns hown hK hH hLo f_ns rfl 3 (by decide) (hts _ mw_38) (fun _ h9 => h9) rfl (by decide +kernel) rfl rfl (Nat.le_of_ble_eq_true rfl) d_Ns_append_49 (fun H10 locs hH z11 hLo => ?_)
  have hz : s.heap.size ≤ H10.size := by rw [z11]; exact hz
  obtain ⟨h12, e13⟩ : ∃ z, z = hu h8 ns (.inr (2, [.ref sl, .ref od, .int (1 + 1), .int (1 + 1)])) := ⟨_, rfl⟩
  have hH : hm D vwCl G h12 H10 := by rw [e13]; exact hH
  have f_sl : h12 sl = some (.inl ((t 4), 30, .inr (.inr (.inr (.inr fs))))) := by rw [e13, hu_n (h_neA f_sl f_ns)]; exact f_sl
  have f_nd : h12 nd = some (.inr (1, [.int 1, .null, .int 1, .long 0, .int 0, .int 0, .int 0, .int 0, .int 0, .int 0, .int 1])) := by rw [e13, hu_n (h_neC f_nd f_ns (by decide))]; exact f_nd
  have f_ns : h12 ns = some (.inr (2, [.ref sl, .ref od, .int (1 + 1), .int (1 + 1)])) := by rw [e13]; exact hu_s _ _ _
  have hkp : kp [ns, nd] h h12 := by rw [e13]; exact kp_put hkp (by simp)
  refine lv_aload_n hx hb d_Ns_append_52 rfl (lv_at hl 0 rfl) ?_
  exact W.aret (v := va_rf (some nd)) hx hb hr (Or.inl ⟨_, rfl⟩) (va_rf_or _) (fun t9 ht hW => ⟨some nd, h12, rfl, ⟨rfl, hkp, f_ns, f_nd⟩, by rw [ht]; exact hH, by rw [ht]; exact hz⟩) hLo d_Ns_append_53

set_option maxHeartbeats 4000000 in
set_option maxRecDepth 100000 in
theorem c_Node_takeName (l : Launch) (D : va_G) (t : Nat → ClassId) (G : hG) (ak av : Nat → Nat) (h : hM) (nd rt : Nat) (di : Int32) (wo : Int64) (f_nd : h nd = some (.inr (1, [.int 1, .ref rt, .int di, .long 0, .int 0, .int 0, .int 0, .int 0, .int 0, .int 0, .int 1]))) : Met l y_No_takeName (.code y_No_takeName b_No_takeName 4 none :: lw_g) { frames := 0, cells := 0, slots := 0, locals := 0 } (hP (kE D t G ak av) D vwCl G h [.ref nd, .long wo]) (hQv D vwCl G (fun h' => kp [nd] h h' ∧ ∃ le : Int32, h' nd = some (.inr (1, [.int 1, .ref rt, .int di, .long wo, .int le, .int 0, .int 0, .int 0, .int 0, .int 0, .int 1])))) 0 0 G.P := by
  refine Met.ofW (cc := b_No_takeName) (maxL := 4) (ret := none) (by decide) rfl ?_
  intro p e s m args below meth c s₁ Bd hml hv
  obtain ⟨ha, hE, hH⟩ := hv
  have hx := Bd.exec
  have hb := Bd.bytes
  have hr := Bd.returns
  have hts : ∀ w ∈ lw_g, w.before args s = true := fun w hw => atoms_spec (ws := (.code y_No_takeName b_No_takeName 4 none :: lw_g)) Bd.pre w (List.mem_cons_of_mem _ hw)
  have hown : s.vm.findClass R_No = some m.cls := findClass_of_methodNamed Bd.named
  have hlocks := Bd.notSynchronized
  have hK := hE.1
  have hH0 := hH
  have hLo : hLc G.P [] := hLc_nil
  have hz : s.heap.size ≤ s.heap.size := Nat.le_refl _
  have hkp : kp [nd] h h := kp_rf
  have hl := lv_entry [.ref nd, .long wo] (n := 4) (Nat.le_of_ble_eq_true rfl)
  rw [show entryFrame m args 4 = F0 m 0 ((lg_sl [.ref nd, .long wo] ++ List.replicate (4 - (lg_sl [.ref nd, .long wo]).length) Slot.unset).toArray) [] from (by rw [ha]; exact lg_entry_eq m [.ref nd, .long wo] 4)]
  generalize (lg_sl [.ref nd, .long wo] ++ List.replicate (4 - (lg_sl [.ref nd, .long wo]).length) Slot.unset).toArray = ls at hl ⊢
  have hl : lv_has ls 4 [(0, .ref nd), (1, .long wo)] := hl
  refine lv_aload_n hx hb d_No_takeName_0 rfl (lv_at hl 0 rfl) ?_
  refine lv_lload_n hx hb d_No_takeName_1 rfl (lv_at hl 1 rfl) ?_
  refine hm_put (ci := 1) (v := .long wo) (ty := .long) (C := R_No) (T := F_No) (N := 11) hx hb hts ig_No t_No tk_No nm_No hown hK hH hLo f_nd rfl 3 (by decide) (hts _ mw_14) (fun _ h9 => h9) rfl (by decide +kernel) rfl rfl (Nat.le_of_ble_eq_true rfl) d_No_takeName_2 (fun H1 locs hH z2 hLo => ?_)
  have hz : s.heap.size ≤ H1.size := by rw [z2]; exact hz
  obtain ⟨h3, e4⟩ : ∃ z, z = hu h nd (.inr (1, [.int 1, .ref rt, .int di, .long wo, .int 0, .int 0, .int 0, .int 0, .int 0, .int 0, .int 1])) := ⟨_, rfl⟩
  have hH : hm D vwCl G h3 H1 := by rw [e4]; exact hH
  have f_nd : h3 nd = some (.inr (1, [.int 1, .ref rt, .int di, .long wo, .int 0, .int 0, .int 0, .int 0, .int 0, .int 0, .int 1])) := by rw [e4]; exact hu_s _ _ _
  have hkp : kp [nd] h h3 := by rw [e4]; exact kp_put hkp (by simp)
  refine lv_aload_n hx hb d_No_takeName_5 rfl (lv_at hl 0 rfl) ?_
  refine lv_iconst (v := 0) hx hb d_No_takeName_6 (by decide) ?_
  refine hm_put (ci := 1) (v := .int 0) (ty := .int) (C := R_No) (T := F_No) (N := 11) hx hb hts ig_No t_No tk_No nm_No hown hK hH hLo f_nd rfl 4 (by decide) (hts _ mw_15) (fun _ h9 => h9) rfl (by decide +kernel) rfl rfl (Nat.le_of_ble_eq_true rfl) d_No_takeName_7 (fun H5 locs hH z6 hLo => ?_)
  have hz : s.heap.size ≤ H5.size := by rw [z6]; exact hz
  obtain ⟨h7, e8⟩ : ∃ z, z = hu h3 nd (.inr (1, [.int 1, .ref rt, .int di, .long wo, .int 0, .int 0, .int 0, .int 0, .int 0, .int 0, .int 1])) := ⟨_, rfl⟩
  have hH : hm D vwCl G h7 H5 := by rw [e8]; exact hH
  have f_nd : h7 nd = some (.inr (1, [.int 1, .ref rt, .int di, .long wo, .int 0, .int 0, .int 0, .int 0, .int 0, .int 0, .int 1])) := by rw [e8]; exact hu_s _ _ _
  have hkp : kp [nd] h h7 := by rw [e8]; exact kp_put hkp (by simp)
  refine lv_iconst (v := 0) hx hb d_No_takeName_10 (by decide) ?_
  refine lv_topi (fun v9 e10 => ?_)
  obtain rfl : v9 = 64 - nI (8 * 8) := e10.trans (by decide)
  refine lv_istore_n (lv' := [(3, .int (64 - nI (8 * 8))), (0, .ref nd), (1, .long wo)]) hx hb d_No_takeName_11 rfl hl (by decide) rfl (fun ls hl => ?_)
  refine hm_loop (fun k ls H locs hh => ∃ (k9 : Nat) (le : Int32), k = k9 ∧ lv_has ls 4 [(3, .int (64 - nI (8 * k9))), (0, .ref nd), (1, .long wo)] ∧ hm D vwCl G hh H ∧ s.heap.size ≤ H.size ∧ hLc G.P locs ∧ kp [nd] h hh ∧ hh nd = some (.inr (1, [.int 1, .ref rt, .int di, .long wo, .int le, .int 0, .int 0, .int 0, .int 0, .int 0, .int 1])) ∧ (k9 ≤ 8)) ?_ (hh := h7) ⟨8, 0, rfl, (lv_sub hl [0, 1, 2] rfl), hH, hz, hLo, hkp, f_nd, by omega⟩
  rintro k ls H locs hh ⟨k9, le, hk, hl, hH, hz, hLo, hkp, f_nd, hk9⟩ ih
  rcases (show k9 = 0 ∨ 0 < k9 by omega) with rfl | hpos
  · skip
    refine lv_iload_n hx hb d_No_takeName_12 rfl (lv_at hl 0 rfl) ?_
    refine lv_bipush (v := 64) hx hb d_No_takeName_13 (by decide) ?_
    refine lv_icmp_ge (tgt := 42) hx hb d_No_takeName_15 (by decide) (fun hc11 => ?_) (fun hc11 => absurd ((sn_ge 0 (by decide)).mpr rfl) hc11)
    exact W.vret hx hb hr (fun t9 ht hW => ⟨hh, rfl, ⟨hkp, le, f_nd⟩, by rw [ht]; exact hH, by rw [ht]; exact hz⟩) hLo d_No_takeName_42
  · skip
    obtain ⟨j, rfl⟩ : ∃ j, k9 = j + 1 := ⟨k9 - 1, by omega⟩
    refine lv_iload_n hx hb d_No_takeName_12 rfl (lv_at hl 0 rfl) ?_
    refine lv_bipush (v := 64) hx hb d_No_takeName_13 (by decide) ?_
    refine lv_icmp_ge (tgt := 42) hx hb d_No_takeName_15 (by decide) (fun hc12 => absurd hc12 (mt (sn_ge (j + 1) (by omega)).mp (by omega))) (fun hc12 => ?_)
    refine lv_lload_n hx hb d_No_takeName_18 rfl (lv_at hl 2 rfl) ?_
    refine lv_iload_n hx hb d_No_takeName_19 rfl (lv_at hl 0 rfl) ?_
    refine lv_lushr (v := (wo.toUInt64 >>> ((64 - nI (8 * (j + 1))).toInt64.toUInt64 &&& Int64.toUInt64 63)).toInt64) hx hb d_No_takeName_20 rfl ?_
    refine lv_lconst (v := 0) hx hb d_No_takeName_21 (by decide) ?_
    refine W.lcmp hx hb d_No_takeName_22 ?_
    refine lv_if_eq (tgt := 36) hx hb d_No_takeName_23 (by decide) (fun hc13 => ?_) (fun hc13 => ?_)
    · skip
      refine lv_iinc (v := 64 - nI (8 * j)) (lv' := [(3, .int (64 - nI (8 * j))), (0, .ref nd), (1, .long wo)]) hx hb d_No_takeName_36 hl (k := 0) rfl (sn_dec j (by omega)) (by decide) rfl (fun ls hl => ?_)
      refine lv_goto (tgt := 12) hx hb d_No_takeName_39 (by decide) ?_
      exact ih (j) ls _ locs _ (by rw [hk]; omega) ⟨j, le, rfl, (lv_sub hl [0, 1, 2] rfl), hH, hz, hLo, hkp, f_nd, by omega⟩
    · skip
      refine lv_aload_n hx hb d_No_takeName_26 rfl (lv_at hl 1 rfl) ?_
      refine lv_dup hx hb d_No_takeName_27 rfl ?_
      refine hm_get (ci := 1) (v := .int le) (C := R_No) (T := F_No) (N := 11) hx hb hts ig_No hown hK hH f_nd rfl 4 (by decide) (hts _ mw_15) (fun _ h9 => h9) rfl d_No_takeName_28 ?_
      refine lv_iconst (v := 1) hx hb d_No_takeName_31 (by decide) ?_
      refine lv_iadd hx hb d_No_takeName_32 ?_
      refine hm_put (ci := 1) (v := .int (le + 1)) (ty := .int) (C := R_No) (T := F_No) (N := 11) hx hb hts ig_No t_No tk_No nm_No hown hK hH hLo f_nd rfl 4 (by decide) (hts _ mw_15) (fun _ h9 => h9) rfl (by decide +kernel) rfl rfl (Nat.le_of_ble_eq_true rfl) d_No_takeName_33 (fun H14 locs hH z15 hLo => ?_)
      have hz : s.heap.size ≤ H14.size := by rw [z15]; exact hz
      obtain ⟨h16, e17⟩ : ∃ z, z = hu hh nd (.inr (1, [.int 1, .ref rt, .int di, .long wo, .int (le + 1), .int 0, .int 0, .int 0, .int 0, .int 0, .int 1])) := ⟨_, rfl⟩
      have hH : hm D vwCl G h16 H14 := by rw [e17]; exact hH
      have f_nd : h16 nd = some (.inr (1, [.int 1, .ref rt, .int di, .long wo, .int (le + 1), .int 0, .int 0, .int 0, .int 0, .int 0, .int 1])) := by rw [e17]; exact hu_s _ _ _
      have hkp : kp [nd] h h16 := by rw [e17]; exact kp_put hkp (by simp)
      refine lv_iinc (v := 64 - nI (8 * j)) (lv' := [(3, .int (64 - nI (8 * j))), (0, .ref nd), (1, .long wo)]) hx hb d_No_takeName_36 hl (k := 0) rfl (sn_dec j (by omega)) (by decide) rfl (fun ls hl => ?_)
      refine lv_goto (tgt := 12) hx hb d_No_takeName_39 (by decide) ?_
      exact ih (j) ls _ locs _ (by rw [hk]; omega) ⟨j, _, rfl, (lv_sub hl [0, 1, 2] rfl), hH, hz, hLo, hkp, f_nd, by omega⟩

set_option maxHeartbeats 4000000 in
set_option maxRecDepth 100000 in
theorem c_Node_takeContent (l : Launch) (D : va_G) (t : Nat → ClassId) (G : hG) (ak av : Nat → Nat) (h : hM) (nd rt : Nat) (di le sz sd : Int32) (wo : Int64) (f_nd : h nd = some (.inr (1, [.int 1, .ref rt, .int di, .long wo, .int le, .int 0, .int 0, .int 0, .int 0, .int 0, .int 1]))) : Met l y_No_takeContent (.code y_No_takeContent b_No_takeContent 3 none :: lw_g) { frames := 0, cells := 0, slots := 0, locals := 0 } (hP (kE D t G ak av) D vwCl G h [.ref nd, .int sz, .int sd]) (hQv D vwCl G (fun h' => kp [nd] h h' ∧ h' nd = some (.inr (1, [.int 1, .ref rt, .int di, .long wo, .int le, .int sz, .int sd, .int 0, .int 0, .int 0, .int 1])))) 0 0 G.P := by
  refine Met.ofW (cc := b_No_takeContent) (maxL := 3) (ret := none) (by decide) rfl ?_
  intro p e s m args below meth c s₁ Bd hml hv
  obtain ⟨ha, hE, hH⟩ := hv
  have hx := Bd.exec
  have hb := Bd.bytes
  have hr := Bd.returns
  have hts : ∀ w ∈ lw_g, w.before args s = true := fun w hw => atoms_spec (ws := (.code y_No_takeContent b_No_takeContent 3 none :: lw_g)) Bd.pre w (List.mem_cons_of_mem _ hw)
  have hown : s.vm.findClass R_No = some m.cls := findClass_of_methodNamed Bd.named
  have hlocks := Bd.notSynchronized
  have hK := hE.1
  have hH0 := hH
  have hLo : hLc G.P [] := hLc_nil
  have hz : s.heap.size ≤ s.heap.size := Nat.le_refl _
  have hkp : kp [nd] h h := kp_rf
  have hl := lv_entry [.ref nd, .int sz, .int sd] (n := 3) (Nat.le_of_ble_eq_true rfl)
  rw [show entryFrame m args 3 = F0 m 0 ((lg_sl [.ref nd, .int sz, .int sd] ++ List.replicate (3 - (lg_sl [.ref nd, .int sz, .int sd]).length) Slot.unset).toArray) [] from (by rw [ha]; exact lg_entry_eq m [.ref nd, .int sz, .int sd] 3)]
  generalize (lg_sl [.ref nd, .int sz, .int sd] ++ List.replicate (3 - (lg_sl [.ref nd, .int sz, .int sd]).length) Slot.unset).toArray = ls at hl ⊢
  have hl : lv_has ls 3 [(0, .ref nd), (1, .int sz), (2, .int sd)] := hl
  refine lv_aload_n hx hb d_No_takeContent_0 rfl (lv_at hl 0 rfl) ?_
  refine lv_iload_n hx hb d_No_takeContent_1 rfl (lv_at hl 1 rfl) ?_
  refine hm_put (ci := 1) (v := .int sz) (ty := .int) (C := R_No) (T := F_No) (N := 11) hx hb hts ig_No t_No tk_No nm_No hown hK hH hLo f_nd rfl 5 (by decide) (hts _ mw_16) (fun _ h9 => h9) rfl (by decide +kernel) rfl rfl (Nat.le_of_ble_eq_true rfl) d_No_takeContent_2 (fun H1 locs hH z2 hLo => ?_)
  have hz : s.heap.size ≤ H1.size := by rw [z2]; exact hz
  obtain ⟨h3, e4⟩ : ∃ z, z = hu h nd (.inr (1, [.int 1, .ref rt, .int di, .long wo, .int le, .int sz, .int 0, .int 0, .int 0, .int 0, .int 1])) := ⟨_, rfl⟩
  have hH : hm D vwCl G h3 H1 := by rw [e4]; exact hH
  have f_nd : h3 nd = some (.inr (1, [.int 1, .ref rt, .int di, .long wo, .int le, .int sz, .int 0, .int 0, .int 0, .int 0, .int 1])) := by rw [e4]; exact hu_s _ _ _
  have hkp : kp [nd] h h3 := by rw [e4]; exact kp_put hkp (by simp)
  refine lv_aload_n hx hb d_No_takeContent_5 rfl (lv_at hl 0 rfl) ?_
  refine lv_iload_n hx hb d_No_takeContent_6 rfl (lv_at hl 2 rfl) ?_
  refine hm_put (ci := 1) (v := .int sd) (ty := .int) (C := R_No) (T := F_No) (N := 11) hx hb hts ig_No t_No tk_No nm_No hown hK hH hLo f_nd rfl 6 (by decide) (hts _ mw_17) (fun _ h9 => h9) rfl (by decide +kernel) rfl rfl (Nat.le_of_ble_eq_true rfl) d_No_takeContent_7 (fun H5 locs hH z6 hLo => ?_)
  have hz : s.heap.size ≤ H5.size := by rw [z6]; exact hz
  obtain ⟨h7, e8⟩ : ∃ z, z = hu h3 nd (.inr (1, [.int 1, .ref rt, .int di, .long wo, .int le, .int sz, .int sd, .int 0, .int 0, .int 0, .int 1])) := ⟨_, rfl⟩
  have hH : hm D vwCl G h7 H5 := by rw [e8]; exact hH
  have f_nd : h7 nd = some (.inr (1, [.int 1, .ref rt, .int di, .long wo, .int le, .int sz, .int sd, .int 0, .int 0, .int 0, .int 1])) := by rw [e8]; exact hu_s _ _ _
  have hkp : kp [nd] h h7 := by rw [e8]; exact kp_put hkp (by simp)
  refine lv_aload_n hx hb d_No_takeContent_10 rfl (lv_at hl 0 rfl) ?_
  refine lv_iconst (v := 0) hx hb d_No_takeContent_11 (by decide) ?_
  refine hm_put (ci := 1) (v := .int 0) (ty := .boolean) (C := R_No) (T := F_No) (N := 11) hx hb hts ig_No t_No tk_No nm_No hown hK hH hLo f_nd rfl 7 (by decide) (hts _ mw_18) (fun _ h9 => h9) rfl (by decide +kernel) (by decide) (by decide) (Nat.le_of_ble_eq_true rfl) d_No_takeContent_12 (fun H9 locs hH z10 hLo => ?_)
  have hz : s.heap.size ≤ H9.size := by rw [z10]; exact hz
  obtain ⟨h11, e12⟩ : ∃ z, z = hu h7 nd (.inr (1, [.int 1, .ref rt, .int di, .long wo, .int le, .int sz, .int sd, .int 0, .int 0, .int 0, .int 1])) := ⟨_, rfl⟩
  have hH : hm D vwCl G h11 H9 := by rw [e12]; exact hH
  have f_nd : h11 nd = some (.inr (1, [.int 1, .ref rt, .int di, .long wo, .int le, .int sz, .int sd, .int 0, .int 0, .int 0, .int 1])) := by rw [e12]; exact hu_s _ _ _
  have hkp : kp [nd] h h11 := by rw [e12]; exact kp_put hkp (by simp)
  refine lv_aload_n hx hb d_No_takeContent_15 rfl (lv_at hl 0 rfl) ?_
  refine lv_iconst (v := 0) hx hb d_No_takeContent_16 (by decide) ?_
  refine hm_put (ci := 1) (v := .int 0) (ty := .int) (C := R_No) (T := F_No) (N := 11) hx hb hts ig_No t_No tk_No nm_No hown hK hH hLo f_nd rfl 8 (by decide) (hts _ mw_19) (fun _ h9 => h9) rfl (by decide +kernel) rfl rfl (Nat.le_of_ble_eq_true rfl) d_No_takeContent_17 (fun H13 locs hH z14 hLo => ?_)
  have hz : s.heap.size ≤ H13.size := by rw [z14]; exact hz
  obtain ⟨h15, e16⟩ : ∃ z, z = hu h11 nd (.inr (1, [.int 1, .ref rt, .int di, .long wo, .int le, .int sz, .int sd, .int 0, .int 0, .int 0, .int 1])) := ⟨_, rfl⟩
  have hH : hm D vwCl G h15 H13 := by rw [e16]; exact hH
  have f_nd : h15 nd = some (.inr (1, [.int 1, .ref rt, .int di, .long wo, .int le, .int sz, .int sd, .int 0, .int 0, .int 0, .int 1])) := by rw [e16]; exact hu_s _ _ _
  have hkp : kp [nd] h h15 := by rw [e16]; exact kp_put hkp (by simp)
  exact W.vret hx hb hr (fun t9 ht hW => ⟨h15, rfl, ⟨hkp, f_nd⟩, by rw [ht]; exact hH, by rw [ht]; exact hz⟩) hLo d_No_takeContent_20

set_option maxHeartbeats 4000000 in
set_option maxRecDepth 100000 in
theorem c_Node_become1 (l : Launch) (D : va_G) (t : Nat → ClassId) (G : hG) (ak av : Nat → Nat) (h : hM) (nd rt : Nat) (wo : Int64) (f_nd : h nd = some (.inr (1, [.int 1, .null, .int 1, .long 0, .int 0, .int 0, .int 0, .int 0, .int 0, .int 0, .int 1]))) : Met l y_No_become (.code y_No_become b_No_become 5 none :: lw_g) { frames := 1, cells := 0, slots := 0, locals := 23 } (hP (kE D t G ak av) D vwCl G h [.ref nd, .ref rt, .int 1, .long wo]) (hQv D vwCl G (fun h' => kp [nd] h h' ∧ ∃ le : Int32, h' nd = some (.inr (1, [.int 1, .ref rt, .int 1, .long wo, .int le, .int 0, .int 0, .int 0, .int 0, .int 0, .int 1])))) 0 0 G.P := by
  refine Met.ofW (cc := b_No_become) (maxL := 5) (ret := none) (by decide) rfl ?_
  intro p e s m args below meth c s₁ Bd hml hv
  obtain ⟨ha, hE, hH⟩ := hv
  have hx := Bd.exec
  have hb := Bd.bytes
  have hr := Bd.returns
  have hts : ∀ w ∈ lw_g, w.before args s = true := fun w hw => atoms_spec (ws := (.code y_No_become b_No_become 5 none :: lw_g)) Bd.pre w (List.mem_cons_of_mem _ hw)
  have hown : s.vm.findClass R_No = some m.cls := findClass_of_methodNamed Bd.named
  have hlocks := Bd.notSynchronized
  have hK := hE.1
  have hH0 := hH
  have hLo : hLc G.P [] := hLc_nil
  have hz : s.heap.size ≤ s.heap.size := Nat.le_refl _
  have hkp : kp [nd] h h := kp_rf
  have hl := lv_entry [.ref nd, .ref rt, .int 1, .long wo] (n := 5) (Nat.le_of_ble_eq_true rfl)
  rw [show entryFrame m args 5 = F0 m 0 ((lg_sl [.ref nd, .ref rt, .int 1, .long wo] ++ List.replicate (5 - (lg_sl [.ref nd, .ref rt, .int 1, .long wo]).length) Slot.unset).toArray) [] from (by rw [ha]; exact lg_entry_eq m [.ref nd, .ref rt, .int 1, .long wo] 5)]
  generalize (lg_sl [.ref nd, .ref rt, .int 1, .long wo] ++ List.replicate (5 - (lg_sl [.ref nd, .ref rt, .int 1, .long wo]).length) Slot.unset).toArray = ls at hl ⊢
  have hl : lv_has ls 5 [(0, .ref nd), (1, .ref rt), (2, .int 1), (3, .long wo)] := hl
  refine lv_aload_n hx hb d_No_become_0 rfl (lv_at hl 0 rfl) ?_
  refine lv_aload_n hx hb d_No_become_1 rfl (lv_at hl 1 rfl) ?_
  refine hm_put (ci := 1) (v := .ref rt) (ty := (.object "WriteOnceDisc$Node")) (C := R_No) (T := F_No) (N := 11) hx hb hts ig_No t_No tk_No nm_No hown hK hH hLo f_nd rfl 1 (by decide) (hts _ mw_12) (fun _ h9 => h9) rfl (by decide +kernel) rfl rfl (Nat.le_of_ble_eq_true rfl) d_No_become_2 (fun H1 locs hH z2 hLo => ?_)
  have hz : s.heap.size ≤ H1.size := by rw [z2]; exact hz
  obtain ⟨h3, e4⟩ : ∃ z, z = hu h nd (.inr (1, [.int 1, .ref rt, .int 1, .long 0, .int 0, .int 0, .int 0, .int 0, .int 0, .int 0, .int 1])) := ⟨_, rfl⟩
  have hH : hm D vwCl G h3 H1 := by rw [e4]; exact hH
  have f_nd : h3 nd = some (.inr (1, [.int 1, .ref rt, .int 1, .long 0, .int 0, .int 0, .int 0, .int 0, .int 0, .int 0, .int 1])) := by rw [e4]; exact hu_s _ _ _
  have hkp : kp [nd] h h3 := by rw [e4]; exact kp_put hkp (by simp)
  refine lv_aload_n hx hb d_No_become_5 rfl (lv_at hl 0 rfl) ?_
  refine lv_iload_n hx hb d_No_become_6 rfl (lv_at hl 2 rfl) ?_
  refine hm_put (ci := 1) (v := .int 1) (ty := .boolean) (C := R_No) (T := F_No) (N := 11) hx hb hts ig_No t_No tk_No nm_No hown hK hH hLo f_nd rfl 2 (by decide) (hts _ mw_13) (fun _ h9 => h9) rfl (by decide +kernel) (by decide) (by decide) (Nat.le_of_ble_eq_true rfl) d_No_become_7 (fun H5 locs hH z6 hLo => ?_)
  have hz : s.heap.size ≤ H5.size := by rw [z6]; exact hz
  obtain ⟨h7, e8⟩ : ∃ z, z = hu h3 nd (.inr (1, [.int 1, .ref rt, .int 1, .long 0, .int 0, .int 0, .int 0, .int 0, .int 0, .int 0, .int 1])) := ⟨_, rfl⟩
  have hH : hm D vwCl G h7 H5 := by rw [e8]; exact hH
  have f_nd : h7 nd = some (.inr (1, [.int 1, .ref rt, .int 1, .long 0, .int 0, .int 0, .int 0, .int 0, .int 0, .int 0, .int 1])) := by rw [e8]; exact hu_s _ _ _
  have hkp : kp [nd] h h7 := by rw [e8]; exact kp_put hkp (by simp)
  refine lv_aload_n hx hb d_No_become_10 rfl (lv_at hl 0 rfl) ?_
  refine lv_lload_n hx hb d_No_become_11 rfl (lv_at hl 3 rfl) ?_
  refine hm_callv (va_runV (As := [.long wo]) (b := nd) (rest := []) ⟨hx, hb, hml, hown, hts⟩ (c_Node_takeName l D t G ak av h7 nd rt 1 wo f_nd) ⟨cw9B 1 hts mw_278 mw_279 mw_40 rfl rfl (by decide +kernel) ⟨Nat.le_of_ble_eq_true rfl, Nat.le_of_ble_eq_true rfl⟩, hts _ mw_280, hts _ mw_281⟩ (hP_V (q := (R_No, F_No, 11)) kE_ok hE hK hH f_nd rfl) rfl rfl hl.1 rfl (lv_room (Nat.le_of_ble_eq_true rfl)) d_No_become_12 ⟨Nat.le_of_ble_eq_true rfl, Nat.le_of_ble_eq_true rfl⟩) hLo (fun h9 H10 locs hp12 hH z11 hLo => ?_)
  have hz : s.heap.size ≤ H10.size := Nat.le_trans hz z11
  obtain ⟨hk9, le, hn9⟩ := hp12
  have hkp : kp [nd] h h9 := kp_tr2 hkp hk9 (List.forall_mem_cons.mpr ⟨Or.inl (by simp), List.forall_mem_nil _⟩)
  have f_nd : h9 nd = some (.inr (1, [.int 1, .ref rt, .int 1, .long wo, .int le, .int 0, .int 0, .int 0, .int 0, .int 0, .int 1])) := hn9
  refine lv_aload_n hx hb d_No_become_15 rfl (lv_at hl 0 rfl) ?_
  refine lv_iconst (v := 0) hx hb d_No_become_16 (by decide) ?_
  refine lv_iconst (v := 0) hx hb d_No_become_17 (by decide) ?_
  refine hm_callv (va_runV (As := [.int 0, .int 0]) (b := nd) (rest := []) ⟨hx, hb, hml, hown, hts⟩ (c_Node_takeContent l D t G ak av h9 nd rt 1 le 0 0 wo f_nd) ⟨cw9B 2 hts mw_282 mw_283 mw_40 rfl rfl (by decide +kernel) ⟨Nat.le_of_ble_eq_true rfl, Nat.le_of_ble_eq_true rfl⟩, hts _ mw_284, hts _ mw_285⟩ (hP_V (q := (R_No, F_No, 11)) kE_ok hE hK hH f_nd rfl) rfl rfl hl.1 rfl (lv_room (Nat.le_of_ble_eq_true rfl)) d_No_become_18 ⟨Nat.le_of_ble_eq_true rfl, Nat.le_of_ble_eq_true rfl⟩) hLo (fun h13 H14 locs hp16 hH z15 hLo => ?_)
  have hz : s.heap.size ≤ H14.size := Nat.le_trans hz z15
  obtain ⟨hk9, hn9⟩ := hp16
  have hkp : kp [nd] h h13 := kp_tr2 hkp hk9 (List.forall_mem_cons.mpr ⟨Or.inl (by simp), List.forall_mem_nil _⟩)
  have f_nd : h13 nd = some (.inr (1, [.int 1, .ref rt, .int 1, .long wo, .int le, .int 0, .int 0, .int 0, .int 0, .int 0, .int 1])) := hn9
  exact W.vret hx hb hr (fun t9 ht hW => ⟨h13, rfl, ⟨hkp, le, f_nd⟩, by rw [ht]; exact hH, by rw [ht]; exact hz⟩) hLo d_No_become_21

set_option maxHeartbeats 4000000 in
set_option maxRecDepth 100000 in
theorem c_Node_become0 (l : Launch) (D : va_G) (t : Nat → ClassId) (G : hG) (ak av : Nat → Nat) (h : hM) (nd rt : Nat) (wo : Int64) (f_nd : h nd = some (.inr (1, [.int 1, .null, .int 1, .long 0, .int 0, .int 0, .int 0, .int 0, .int 0, .int 0, .int 1]))) : Met l y_No_become (.code y_No_become b_No_become 5 none :: lw_g) { frames := 1, cells := 0, slots := 0, locals := 23 } (hP (kE D t G ak av) D vwCl G h [.ref nd, .ref rt, .int 0, .long wo]) (hQv D vwCl G (fun h' => kp [nd] h h' ∧ ∃ le : Int32, h' nd = some (.inr (1, [.int 1, .ref rt, .int 0, .long wo, .int le, .int 0, .int 0, .int 0, .int 0, .int 0, .int 1])))) 0 0 G.P := by
  refine Met.ofW (cc := b_No_become) (maxL := 5) (ret := none) (by decide) rfl ?_
  intro p e s m args below meth c s₁ Bd hml hv
  obtain ⟨ha, hE, hH⟩ := hv
  have hx := Bd.exec
  have hb := Bd.bytes
  have hr := Bd.returns
  have hts : ∀ w ∈ lw_g, w.before args s = true := fun w hw => atoms_spec (ws := (.code y_No_become b_No_become 5 none :: lw_g)) Bd.pre w (List.mem_cons_of_mem _ hw)
  have hown : s.vm.findClass R_No = some m.cls := findClass_of_methodNamed Bd.named
  have hlocks := Bd.notSynchronized
  have hK := hE.1
  have hH0 := hH
  have hLo : hLc G.P [] := hLc_nil
  have hz : s.heap.size ≤ s.heap.size := Nat.le_refl _
  have hkp : kp [nd] h h := kp_rf
  have hl := lv_entry [.ref nd, .ref rt, .int 0, .long wo] (n := 5) (Nat.le_of_ble_eq_true rfl)
  rw [show entryFrame m args 5 = F0 m 0 ((lg_sl [.ref nd, .ref rt, .int 0, .long wo] ++ List.replicate (5 - (lg_sl [.ref nd, .ref rt, .int 0, .long wo]).length) Slot.unset).toArray) [] from (by rw [ha]; exact lg_entry_eq m [.ref nd, .ref rt, .int 0, .long wo] 5)]
  generalize (lg_sl [.ref nd, .ref rt, .int 0, .long wo] ++ List.replicate (5 - (lg_sl [.ref nd, .ref rt, .int 0, .long wo]).length) Slot.unset).toArray = ls at hl ⊢
  have hl : lv_has ls 5 [(0, .ref nd), (1, .ref rt), (2, .int 0), (3, .long wo)] := hl
  refine lv_aload_n hx hb d_No_become_0 rfl (lv_at hl 0 rfl) ?_
  refine lv_aload_n hx hb d_No_become_1 rfl (lv_at hl 1 rfl) ?_
  refine hm_put (ci := 1) (v := .ref rt) (ty := (.object "WriteOnceDisc$Node")) (C := R_No) (T := F_No) (N := 11) hx hb hts ig_No t_No tk_No nm_No hown hK hH hLo f_nd rfl 1 (by decide) (hts _ mw_12) (fun _ h9 => h9) rfl (by decide +kernel) rfl rfl (Nat.le_of_ble_eq_true rfl) d_No_become_2 (fun H1 locs hH z2 hLo => ?_)
  have hz : s.heap.size ≤ H1.size := by rw [z2]; exact hz
  obtain ⟨h3, e4⟩ : ∃ z, z = hu h nd (.inr (1, [.int 1, .ref rt, .int 1, .long 0, .int 0, .int 0, .int 0, .int 0, .int 0, .int 0, .int 1])) := ⟨_, rfl⟩
  have hH : hm D vwCl G h3 H1 := by rw [e4]; exact hH
  have f_nd : h3 nd = some (.inr (1, [.int 1, .ref rt, .int 1, .long 0, .int 0, .int 0, .int 0, .int 0, .int 0, .int 0, .int 1])) := by rw [e4]; exact hu_s _ _ _
  have hkp : kp [nd] h h3 := by rw [e4]; exact kp_put hkp (by simp)
  refine lv_aload_n hx hb d_No_become_5 rfl (lv_at hl 0 rfl) ?_
  refine lv_iload_n hx hb d_No_become_6 rfl (lv_at hl 2 rfl) ?_
  refine hm_put (ci := 1) (v := .int 0) (ty := .boolean) (C := R_No) (T := F_No) (N := 11) hx hb hts ig_No t_No tk_No nm_No hown hK hH hLo f_nd rfl 2 (by decide) (hts _ mw_13) (fun _ h9 => h9) rfl (by decide +kernel) (by decide) (by decide) (Nat.le_of_ble_eq_true rfl) d_No_become_7 (fun H5 locs hH z6 hLo => ?_)
  have hz : s.heap.size ≤ H5.size := by rw [z6]; exact hz
  obtain ⟨h7, e8⟩ : ∃ z, z = hu h3 nd (.inr (1, [.int 1, .ref rt, .int 0, .long 0, .int 0, .int 0, .int 0, .int 0, .int 0, .int 0, .int 1])) := ⟨_, rfl⟩
  have hH : hm D vwCl G h7 H5 := by rw [e8]; exact hH
  have f_nd : h7 nd = some (.inr (1, [.int 1, .ref rt, .int 0, .long 0, .int 0, .int 0, .int 0, .int 0, .int 0, .int 0, .int 1])) := by rw [e8]; exact hu_s _ _ _
  have hkp : kp [nd] h h7 := by rw [e8]; exact kp_put hkp (by simp)
  refine lv_aload_n hx hb d_No_become_10 rfl (lv_at hl 0 rfl) ?_
  refine lv_lload_n hx hb d_No_become_11 rfl (lv_at hl 3 rfl) ?_
  refine hm_callv (va_runV (As := [.long wo]) (b := nd) (rest := []) ⟨hx, hb, hml, hown, hts⟩ (c_Node_takeName l D t G ak av h7 nd rt 0 wo f_nd) ⟨cw9B 1 hts mw_278 mw_279 mw_40 rfl rfl (by decide +kernel) ⟨Nat.le_of_ble_eq_true rfl, Nat.le_of_ble_eq_true rfl⟩, hts _ mw_280, hts _ mw_281⟩ (hP_V (q := (R_No, F_No, 11)) kE_ok hE hK hH f_nd rfl) rfl rfl hl.1 rfl (lv_room (Nat.le_of_ble_eq_true rfl)) d_No_become_12 ⟨Nat.le_of_ble_eq_true rfl, Nat.le_of_ble_eq_true rfl⟩) hLo (fun h9 H10 locs hp12 hH z11 hLo => ?_)
  have hz : s.heap.size ≤ H10.size := Nat.le_trans hz z11
  obtain ⟨hk9, le, hn9⟩ := hp12
  have hkp : kp [nd] h h9 := kp_tr2 hkp hk9 (List.forall_mem_cons.mpr ⟨Or.inl (by simp), List.forall_mem_nil _⟩)
  have f_nd : h9 nd = some (.inr (1, [.int 1, .ref rt, .int 0, .long wo, .int le, .int 0, .int 0, .int 0, .int 0, .int 0, .int 1])) := hn9
  refine lv_aload_n hx hb d_No_become_15 rfl (lv_at hl 0 rfl) ?_
  refine lv_iconst (v := 0) hx hb d_No_become_16 (by decide) ?_
  refine lv_iconst (v := 0) hx hb d_No_become_17 (by decide) ?_
  refine hm_callv (va_runV (As := [.int 0, .int 0]) (b := nd) (rest := []) ⟨hx, hb, hml, hown, hts⟩ (c_Node_takeContent l D t G ak av h9 nd rt 0 le 0 0 wo f_nd) ⟨cw9B 2 hts mw_282 mw_283 mw_40 rfl rfl (by decide +kernel) ⟨Nat.le_of_ble_eq_true rfl, Nat.le_of_ble_eq_true rfl⟩, hts _ mw_284, hts _ mw_285⟩ (hP_V (q := (R_No, F_No, 11)) kE_ok hE hK hH f_nd rfl) rfl rfl hl.1 rfl (lv_room (Nat.le_of_ble_eq_true rfl)) d_No_become_18 ⟨Nat.le_of_ble_eq_true rfl, Nat.le_of_ble_eq_true rfl⟩) hLo (fun h13 H14 locs hp16 hH z15 hLo => ?_)
  have hz : s.heap.size ≤ H14.size := Nat.le_trans hz z15
  obtain ⟨hk9, hn9⟩ := hp16
  have hkp : kp [nd] h h13 := kp_tr2 hkp hk9 (List.forall_mem_cons.mpr ⟨Or.inl (by simp), List.forall_mem_nil _⟩)
  have f_nd : h13 nd = some (.inr (1, [.int 1, .ref rt, .int 0, .long wo, .int le, .int 0, .int 0, .int 0, .int 0, .int 0, .int 1])) := hn9
  exact W.vret hx hb hr (fun t9 ht hW => ⟨h13, rfl, ⟨hkp, le, f_nd⟩, by rw [ht]; exact hH, by rw [ht]; exact hz⟩) hLo d_No_become_21
