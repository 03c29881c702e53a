set_option maxRecDepth 100000 in
theorem mw_128 : Cond.fieldLink R_Ns 20 "WriteOnceDisc$Nodes" "count" "I" ∈ lw_g := lw_gin (List.mem_append_right _ (List.mem_of_getElem? (i := 184) rfl)) (by decide +kernel)
set_option maxRecDepth 100000 in
theorem mw_129 : Cond.fieldLink R_Ns 11 "WriteOnceDisc$Nodes" "slots" "[LWriteOnceDisc$Node;" ∈ lw_g := lw_gin (List.mem_append_right _ (List.mem_of_getElem? (i := 179) rfl)) (by decide +kernel)
set_option maxRecDepth 100000 in
theorem mw_130 : Cond.fieldLink R_Ns 36 "WriteOnceDisc$Node" "number" "I" ∈ lw_g := lw_gin (List.mem_append_right _ (List.mem_of_getElem? (i := 91) rfl)) (by decide +kernel)
set_option maxRecDepth 100000 in
theorem mw_131 : Cond.code y_Ns_nodeOf b_Ns_nodeOf 3 (some (.object "WriteOnceDisc$Node")) ∈ lw_g := lw_gin (List.mem_append_right _ (List.mem_of_getElem? (i := 291) rfl)) (by decide +kernel)
set_option maxRecDepth 100000 in
theorem mw_132 : Cond.initialized R_Ns ∈ lw_g := lw_gin (List.mem_append_right _ (List.mem_of_getElem? (i := 7) rfl)) (by decide +kernel)
set_option maxRecDepth 100000 in
theorem mw_133 : Cond.methodLink R_Ns 50 y_Ns_nodeOf ∈ lw_g := lw_gin (List.mem_append_right _ (List.mem_of_getElem? (i := 288) rfl)) (by decide +kernel)
set_option maxRecDepth 100000 in
theorem mw_134 : Cond.instanceMethod y_Ns_nodeOf ∈ lw_g := lw_gin (List.mem_append_right _ (List.mem_of_getElem? (i := 289) rfl)) (by decide +kernel)
set_option maxRecDepth 100000 in
theorem mw_135 : Cond.selects R_Ns y_Ns_nodeOf y_Ns_nodeOf ∈ lw_g := lw_gin (List.mem_append_right _ (List.mem_of_getElem? (i := 290) rfl)) (by decide +kernel)
set_option maxRecDepth 100000 in
theorem mw_136 : Cond.fieldLink R_Ns 58 "WriteOnceDisc$Node" "isDirectory" "Z" ∈ lw_g := lw_gin (List.mem_append_right _ (List.mem_of_getElem? (i := 100) rfl)) (by decide +kernel)
set_option maxRecDepth 100000 in
theorem mw_137 : Cond.fieldLink R_Ns 54 "WriteOnceDisc$Node" "parent" "LWriteOnceDisc$Node;" ∈ lw_g := lw_gin (List.mem_append_right _ (List.mem_of_getElem? (i := 94) rfl)) (by decide +kernel)
set_option maxRecDepth 100000 in
theorem mw_138 : Cond.fieldLink R_Ns 69 "WriteOnceDisc$Node" "word" "J" ∈ lw_g := lw_gin (List.mem_append_right _ (List.mem_of_getElem? (i := 105) rfl)) (by decide +kernel)
set_option maxRecDepth 100000 in
theorem mw_139 : Cond.code y_No_isWithin b_No_isWithin 3 (some .boolean) ∈ lw_g := lw_gin (List.mem_append_right _ (List.mem_of_getElem? (i := 358) rfl)) (by decide +kernel)
set_option maxRecDepth 100000 in
theorem mw_140 : Cond.methodLink R_Ns 73 y_No_isWithin ∈ lw_g := lw_gin (List.mem_append_right _ (List.mem_of_getElem? (i := 363) rfl)) (by decide +kernel)
set_option maxRecDepth 100000 in
theorem mw_141 : Cond.instanceMethod y_No_isWithin ∈ lw_g := lw_gin (List.mem_append_right _ (List.mem_of_getElem? (i := 356) rfl)) (by decide +kernel)
set_option maxRecDepth 100000 in
theorem mw_142 : Cond.selects R_No y_No_isWithin y_No_isWithin ∈ lw_g := lw_gin (List.mem_append_right _ (List.mem_of_getElem? (i := 357) rfl)) (by decide +kernel)
set_option maxRecDepth 100000 in
theorem mw_143 : Cond.code y_No_depth b_No_depth 3 (some .int) ∈ lw_g := lw_gin (List.mem_append_right _ (List.mem_of_getElem? (i := 295) rfl)) (by decide +kernel)
set_option maxRecDepth 100000 in
theorem mw_144 : Cond.methodLink R_Ns 77 y_No_depth ∈ lw_g := lw_gin (List.mem_append_right _ (List.mem_of_getElem? (i := 364) rfl)) (by decide +kernel)
set_option maxRecDepth 100000 in
theorem mw_145 : Cond.instanceMethod y_No_depth ∈ lw_g := lw_gin (List.mem_append_right _ (List.mem_of_getElem? (i := 293) rfl)) (by decide +kernel)
set_option maxRecDepth 100000 in
theorem mw_146 : Cond.selects R_No y_No_depth y_No_depth ∈ lw_g := lw_gin (List.mem_append_right _ (List.mem_of_getElem? (i := 294) rfl)) (by decide +kernel)
set_option maxRecDepth 100000 in
theorem mw_147 : Cond.methodLink R_Ns 80 Lib.Math.max.name ∈ lw_g := lw_gin (List.mem_append_right _ (List.mem_of_getElem? (i := 365) rfl)) (by decide +kernel)
set_option maxRecDepth 100000 in
theorem mw_148 : Cond.static Lib.Math.max.name ∈ lw_g := lw_gin (List.mem_append_right _ (List.mem_of_getElem? (i := 366) rfl)) (by decide +kernel)
set_option maxRecDepth 100000 in
theorem mw_149 : Cond.initialized "java/lang/Math" ∈ lw_g := lw_gin (List.mem_append_right _ (List.mem_of_getElem? (i := 11) rfl)) (by decide +kernel)
set_option maxRecDepth 100000 in
theorem mw_150 : Cond.code Lib.Math.max.name Lib.Math.max.code 2 (some .int) ∈ lw_g := lw_gin (List.mem_append_right _ (List.mem_of_getElem? (i := 367) rfl)) (by decide +kernel)
set_option maxRecDepth 100000 in
theorem mw_151 : Cond.fieldLink R_Ns 24 "WriteOnceDisc$Nodes" "nextNumber" "I" ∈ lw_g := lw_gin (List.mem_append_right _ (List.mem_of_getElem? (i := 187) rfl)) (by decide +kernel)
theorem d_Ns_nodeOf_0 : decode b_Ns_nodeOf 0 = .ok (.iconst 0, 1) := by decide +kernel
theorem d_Ns_nodeOf_1 : decode b_Ns_nodeOf 1 = .ok (.istore_n 2, 1) := by decide +kernel
theorem d_Ns_nodeOf_2 : decode b_Ns_nodeOf 2 = .ok (.iload_n 2, 1) := by decide +kernel
theorem d_Ns_nodeOf_3 : decode b_Ns_nodeOf 3 = .ok (.aload_n 0, 1) := by decide +kernel
theorem d_Ns_nodeOf_4 : decode b_Ns_nodeOf 4 = .ok (.getfield 20, 3) := by decide +kernel
theorem d_Ns_nodeOf_7 : decode b_Ns_nodeOf 7 = .ok (.if_icmp .ge 29, 3) := by decide +kernel
theorem d_Ns_nodeOf_36 : decode b_Ns_nodeOf 36 = .ok (.aconst_null, 1) := by decide +kernel
theorem d_Ns_nodeOf_37 : decode b_Ns_nodeOf 37 = .ok (.areturn, 1) := by decide +kernel
theorem d_Ns_nodeOf_10 : decode b_Ns_nodeOf 10 = .ok (.aload_n 0, 1) := by decide +kernel
theorem d_Ns_nodeOf_11 : decode b_Ns_nodeOf 11 = .ok (.getfield 11, 3) := by decide +kernel
theorem d_Ns_nodeOf_14 : decode b_Ns_nodeOf 14 = .ok (.iload_n 2, 1) := by decide +kernel
theorem d_Ns_nodeOf_15 : decode b_Ns_nodeOf 15 = .ok (.aaload, 1) := by decide +kernel
theorem d_Ns_nodeOf_16 : decode b_Ns_nodeOf 16 = .ok (.getfield 36, 3) := by decide +kernel
theorem d_Ns_nodeOf_19 : decode b_Ns_nodeOf 19 = .ok (.iload_n 1, 1) := by decide +kernel
theorem d_Ns_nodeOf_20 : decode b_Ns_nodeOf 20 = .ok (.if_icmp .ne 10, 3) := by decide +kernel
theorem d_Ns_nodeOf_30 : decode b_Ns_nodeOf 30 = .ok (.iinc 2 1, 3) := by decide +kernel
theorem d_Ns_nodeOf_33 : decode b_Ns_nodeOf 33 = .ok (.goto (-31), 3) := by decide +kernel
theorem d_Ns_nodeOf_23 : decode b_Ns_nodeOf 23 = .ok (.aload_n 0, 1) := by decide +kernel
theorem d_Ns_nodeOf_24 : decode b_Ns_nodeOf 24 = .ok (.getfield 11, 3) := by decide +kernel
theorem d_Ns_nodeOf_27 : decode b_Ns_nodeOf 27 = .ok (.iload_n 2, 1) := by decide +kernel
theorem d_Ns_nodeOf_28 : decode b_Ns_nodeOf 28 = .ok (.aaload, 1) := by decide +kernel
theorem d_Ns_nodeOf_29 : decode b_Ns_nodeOf 29 = .ok (.areturn, 1) := by decide +kernel
theorem d_Ns_directoryOf_0 : decode b_Ns_directoryOf 0 = .ok (.aload_n 0, 1) := by decide +kernel
theorem d_Ns_directoryOf_1 : decode b_Ns_directoryOf 1 = .ok (.iload_n 1, 1) := by decide +kernel
theorem d_Ns_directoryOf_2 : decode b_Ns_directoryOf 2 = .ok (.invokevirtual 50, 3) := by decide +kernel
theorem d_Ns_directoryOf_5 : decode b_Ns_directoryOf 5 = .ok (.astore_n 2, 1) := by decide +kernel
theorem d_Ns_directoryOf_6 : decode b_Ns_directoryOf 6 = .ok (.aload_n 2, 1) := by decide +kernel
theorem d_Ns_directoryOf_7 : decode b_Ns_directoryOf 7 = .ok (.ifnull 14, 3) := by decide +kernel
theorem d_Ns_directoryOf_21 : decode b_Ns_directoryOf 21 = .ok (.aconst_null, 1) := by decide +kernel
theorem d_Ns_directoryOf_22 : decode b_Ns_directoryOf 22 = .ok (.areturn, 1) := by decide +kernel
theorem d_Ns_directoryOf_10 : decode b_Ns_directoryOf 10 = .ok (.aload_n 2, 1) := by decide +kernel
theorem d_Ns_directoryOf_11 : decode b_Ns_directoryOf 11 = .ok (.getfield 58, 3) := by decide +kernel
theorem d_Ns_directoryOf_14 : decode b_Ns_directoryOf 14 = .ok (.ifCond .eq 7, 3) := by decide +kernel
theorem d_Ns_directoryOf_17 : decode b_Ns_directoryOf 17 = .ok (.aload_n 2, 1) := by decide +kernel
theorem d_Ns_directoryOf_18 : decode b_Ns_directoryOf 18 = .ok (.goto 4, 3) := by decide +kernel
theorem d_Ns_hasOtherNamed_0 : decode b_Ns_hasOtherNamed 0 = .ok (.iconst 0, 1) := by decide +kernel
theorem d_Ns_hasOtherNamed_1 : decode b_Ns_hasOtherNamed 1 = .ok (.istore 5, 2) := by decide +kernel
theorem d_Ns_hasOtherNamed_3 : decode b_Ns_hasOtherNamed 3 = .ok (.iload 5, 2) := by decide +kernel
theorem d_Ns_hasOtherNamed_5 : decode b_Ns_hasOtherNamed 5 = .ok (.aload_n 0, 1) := by decide +kernel
theorem d_Ns_hasOtherNamed_6 : decode b_Ns_hasOtherNamed 6 = .ok (.getfield 20, 3) := by decide +kernel
theorem d_Ns_hasOtherNamed_9 : decode b_Ns_hasOtherNamed 9 = .ok (.if_icmp .ge 52, 3) := by decide +kernel
theorem d_Ns_hasOtherNamed_61 : decode b_Ns_hasOtherNamed 61 = .ok (.iconst 0, 1) := by decide +kernel
theorem d_Ns_hasOtherNamed_62 : decode b_Ns_hasOtherNamed 62 = .ok (.ireturn, 1) := by decide +kernel
theorem d_Ns_hasOtherNamed_12 : decode b_Ns_hasOtherNamed 12 = .ok (.aload_n 0, 1) := by decide +kernel
theorem d_Ns_hasOtherNamed_13 : decode b_Ns_hasOtherNamed 13 = .ok (.getfield 11, 3) := by decide +kernel
theorem d_Ns_hasOtherNamed_16 : decode b_Ns_hasOtherNamed 16 = .ok (.iload 5, 2) := by decide +kernel
theorem d_Ns_hasOtherNamed_18 : decode b_Ns_hasOtherNamed 18 = .ok (.aaload, 1) := by decide +kernel
theorem d_Ns_hasOtherNamed_19 : decode b_Ns_hasOtherNamed 19 = .ok (.getfield 54, 3) := by decide +kernel
theorem d_Ns_hasOtherNamed_22 : decode b_Ns_hasOtherNamed 22 = .ok (.aload_n 1, 1) := by decide +kernel
theorem d_Ns_hasOtherNamed_23 : decode b_Ns_hasOtherNamed 23 = .ok (.if_acmp .ne 32, 3) := by decide +kernel
theorem d_Ns_hasOtherNamed_55 : decode b_Ns_hasOtherNamed 55 = .ok (.iinc 5 1, 3) := by decide +kernel
theorem d_Ns_hasOtherNamed_58 : decode b_Ns_hasOtherNamed 58 = .ok (.goto (-55), 3) := by decide +kernel
theorem d_Ns_hasOtherNamed_26 : decode b_Ns_hasOtherNamed 26 = .ok (.aload_n 0, 1) := by decide +kernel
theorem d_Ns_hasOtherNamed_27 : decode b_Ns_hasOtherNamed 27 = .ok (.getfield 11, 3) := by decide +kernel
theorem d_Ns_hasOtherNamed_30 : decode b_Ns_hasOtherNamed 30 = .ok (.iload 5, 2) := by decide +kernel
theorem d_Ns_hasOtherNamed_32 : decode b_Ns_hasOtherNamed 32 = .ok (.aaload, 1) := by decide +kernel
theorem d_Ns_hasOtherNamed_33 : decode b_Ns_hasOtherNamed 33 = .ok (.getfield 69, 3) := by decide +kernel
theorem d_Ns_hasOtherNamed_36 : decode b_Ns_hasOtherNamed 36 = .ok (.lload_n 2, 1) := by decide +kernel
theorem d_Ns_hasOtherNamed_37 : decode b_Ns_hasOtherNamed 37 = .ok (.lcmp, 1) := by decide +kernel
theorem d_Ns_hasOtherNamed_38 : decode b_Ns_hasOtherNamed 38 = .ok (.ifCond .ne 17, 3) := by decide +kernel
theorem d_Ns_hasOtherNamed_41 : decode b_Ns_hasOtherNamed 41 = .ok (.aload_n 0, 1) := by decide +kernel
theorem d_Ns_hasOtherNamed_42 : decode b_Ns_hasOtherNamed 42 = .ok (.getfield 11, 3) := by decide +kernel
theorem d_Ns_hasOtherNamed_45 : decode b_Ns_hasOtherNamed 45 = .ok (.iload 5, 2) := by decide +kernel
theorem d_Ns_hasOtherNamed_47 : decode b_Ns_hasOtherNamed 47 = .ok (.aaload, 1) := by decide +kernel
theorem d_Ns_hasOtherNamed_48 : decode b_Ns_hasOtherNamed 48 = .ok (.aload 4, 2) := by decide +kernel
theorem d_Ns_hasOtherNamed_50 : decode b_Ns_hasOtherNamed 50 = .ok (.if_acmp .eq 5, 3) := by decide +kernel
theorem d_Ns_hasOtherNamed_53 : decode b_Ns_hasOtherNamed 53 = .ok (.iconst 1, 1) := by decide +kernel
theorem d_Ns_hasOtherNamed_54 : decode b_Ns_hasOtherNamed 54 = .ok (.ireturn, 1) := by decide +kernel
theorem d_Ns_hasChildren_0 : decode b_Ns_hasChildren 0 = .ok (.iconst 0, 1) := by decide +kernel
theorem d_Ns_hasChildren_1 : decode b_Ns_hasChildren 1 = .ok (.istore_n 2, 1) := by decide +kernel
theorem d_Ns_hasChildren_2 : decode b_Ns_hasChildren 2 = .ok (.iload_n 2, 1) := by decide +kernel
theorem d_Ns_hasChildren_3 : decode b_Ns_hasChildren 3 = .ok (.aload_n 0, 1) := by decide +kernel
theorem d_Ns_hasChildren_4 : decode b_Ns_hasChildren 4 = .ok (.getfield 20, 3) := by decide +kernel
theorem d_Ns_hasChildren_7 : decode b_Ns_hasChildren 7 = .ok (.if_icmp .ge 24, 3) := by decide +kernel
theorem d_Ns_hasChildren_31 : decode b_Ns_hasChildren 31 = .ok (.iconst 0, 1) := by decide +kernel
theorem d_Ns_hasChildren_32 : decode b_Ns_hasChildren 32 = .ok (.ireturn, 1) := by decide +kernel
theorem d_Ns_hasChildren_10 : decode b_Ns_hasChildren 10 = .ok (.aload_n 0, 1) := by decide +kernel
theorem d_Ns_hasChildren_11 : decode b_Ns_hasChildren 11 = .ok (.getfield 11, 3) := by decide +kernel
theorem d_Ns_hasChildren_14 : decode b_Ns_hasChildren 14 = .ok (.iload_n 2, 1) := by decide +kernel
theorem d_Ns_hasChildren_15 : decode b_Ns_hasChildren 15 = .ok (.aaload, 1) := by decide +kernel
theorem d_Ns_hasChildren_16 : decode b_Ns_hasChildren 16 = .ok (.getfield 54, 3) := by decide +kernel
theorem d_Ns_hasChildren_19 : decode b_Ns_hasChildren 19 = .ok (.aload_n 1, 1) := by decide +kernel
theorem d_Ns_hasChildren_20 : decode b_Ns_hasChildren 20 = .ok (.if_acmp .ne 5, 3) := by decide +kernel
theorem d_Ns_hasChildren_25 : decode b_Ns_hasChildren 25 = .ok (.iinc 2 1, 3) := by decide +kernel
theorem d_Ns_hasChildren_28 : decode b_Ns_hasChildren 28 = .ok (.goto (-26), 3) := by decide +kernel
theorem d_Ns_hasChildren_23 : decode b_Ns_hasChildren 23 = .ok (.iconst 1, 1) := by decide +kernel
theorem d_Ns_hasChildren_24 : decode b_Ns_hasChildren 24 = .ok (.ireturn, 1) := by decide +kernel
theorem d_Ns_levelsOf_0 : decode b_Ns_levelsOf 0 = .ok (.iconst 0, 1) := by decide +kernel
theorem d_Ns_levelsOf_1 : decode b_Ns_levelsOf 1 = .ok (.istore_n 2, 1) := by decide +kernel
theorem d_Ns_levelsOf_2 : decode b_Ns_levelsOf 2 = .ok (.iconst 0, 1) := by decide +kernel
theorem d_Ns_levelsOf_3 : decode b_Ns_levelsOf 3 = .ok (.istore_n 3, 1) := by decide +kernel
theorem d_Ns_levelsOf_4 : decode b_Ns_levelsOf 4 = .ok (.iload_n 3, 1) := by decide +kernel
theorem d_Ns_levelsOf_5 : decode b_Ns_levelsOf 5 = .ok (.aload_n 0, 1) := by decide +kernel
theorem d_Ns_levelsOf_6 : decode b_Ns_levelsOf 6 = .ok (.getfield 20, 3) := by decide +kernel
theorem d_Ns_levelsOf_9 : decode b_Ns_levelsOf 9 = .ok (.if_icmp .ge 55, 3) := by decide +kernel
theorem d_Ns_levelsOf_64 : decode b_Ns_levelsOf 64 = .ok (.iload_n 2, 1) := by decide +kernel
theorem d_Ns_levelsOf_65 : decode b_Ns_levelsOf 65 = .ok (.ireturn, 1) := by decide +kernel
theorem d_Ns_levelsOf_12 : decode b_Ns_levelsOf 12 = .ok (.aload_n 0, 1) := by decide +kernel
theorem d_Ns_levelsOf_13 : decode b_Ns_levelsOf 13 = .ok (.getfield 11, 3) := by decide +kernel
theorem d_Ns_levelsOf_16 : decode b_Ns_levelsOf 16 = .ok (.iload_n 3, 1) := by decide +kernel
theorem d_Ns_levelsOf_17 : decode b_Ns_levelsOf 17 = .ok (.aaload, 1) := by decide +kernel
theorem d_Ns_levelsOf_18 : decode b_Ns_levelsOf 18 = .ok (.getfield 58, 3) := by decide +kernel
theorem d_Ns_levelsOf_21 : decode b_Ns_levelsOf 21 = .ok (.ifCond .eq 37, 3) := by decide +kernel
theorem d_Ns_levelsOf_58 : decode b_Ns_levelsOf 58 = .ok (.iinc 3 1, 3) := by decide +kernel
theorem d_Ns_levelsOf_61 : decode b_Ns_levelsOf 61 = .ok (.goto (-57), 3) := by decide +kernel
theorem d_Ns_levelsOf_24 : decode b_Ns_levelsOf 24 = .ok (.aload_n 0, 1) := by decide +kernel
theorem d_Ns_levelsOf_25 : decode b_Ns_levelsOf 25 = .ok (.getfield 11, 3) := by decide +kernel
theorem d_Ns_levelsOf_28 : decode b_Ns_levelsOf 28 = .ok (.iload_n 3, 1) := by decide +kernel
theorem d_Ns_levelsOf_29 : decode b_Ns_levelsOf 29 = .ok (.aaload, 1) := by decide +kernel
theorem d_Ns_levelsOf_30 : decode b_Ns_levelsOf 30 = .ok (.aload_n 1, 1) := by decide +kernel
theorem d_Ns_levelsOf_31 : decode b_Ns_levelsOf 31 = .ok (.invokevirtual 73, 3) := by decide +kernel
theorem d_Ns_levelsOf_34 : decode b_Ns_levelsOf 34 = .ok (.ifCond .eq 24, 3) := by decide +kernel
theorem d_Ns_levelsOf_37 : decode b_Ns_levelsOf 37 = .ok (.iload_n 2, 1) := by decide +kernel
theorem d_Ns_levelsOf_38 : decode b_Ns_levelsOf 38 = .ok (.aload_n 0, 1) := by decide +kernel
theorem d_Ns_levelsOf_39 : decode b_Ns_levelsOf 39 = .ok (.getfield 11, 3) := by decide +kernel
theorem d_Ns_levelsOf_42 : decode b_Ns_levelsOf 42 = .ok (.iload_n 3, 1) := by decide +kernel
theorem d_Ns_levelsOf_43 : decode b_Ns_levelsOf 43 = .ok (.aaload, 1) := by decide +kernel
theorem d_Ns_levelsOf_44 : decode b_Ns_levelsOf 44 = .ok (.invokevirtual 77, 3) := by decide +kernel
theorem d_Ns_levelsOf_47 : decode b_Ns_levelsOf 47 = .ok (.aload_n 1, 1) := by decide +kernel
theorem d_Ns_levelsOf_48 : decode b_Ns_levelsOf 48 = .ok (.invokevirtual 77, 3) := by decide +kernel
theorem d_Ns_levelsOf_51 : decode b_Ns_levelsOf 51 = .ok (.isub, 1) := by decide +kernel
theorem d_Ns_levelsOf_52 : decode b_Ns_levelsOf 52 = .ok (.iconst 1, 1) := by decide +kernel
theorem d_Ns_levelsOf_53 : decode b_Ns_levelsOf 53 = .ok (.iadd, 1) := by decide +kernel
theorem d_Ns_levelsOf_54 : decode b_Ns_levelsOf 54 = .ok (.invokestatic 80, 3) := by decide +kernel
theorem d_Ns_levelsOf_57 : decode b_Ns_levelsOf 57 = .ok (.istore_n 2, 1) := by decide +kernel
theorem d_Ns_append_0 : decode b_Ns_append 0 = .ok (.aload_n 0, 1) := by decide +kernel
theorem d_Ns_append_1 : decode b_Ns_append 1 = .ok (.getfield 20, 3) := by decide +kernel
theorem d_Ns_append_4 : decode b_Ns_append 4 = .ok (.aload_n 0, 1) := by decide +kernel
theorem d_Ns_append_5 : decode b_Ns_append 5 = .ok (.getfield 11, 3) := by decide +kernel
theorem d_Ns_append_8 : decode b_Ns_append 8 = .ok (.arraylength, 1) := by decide +kernel
theorem d_Ns_append_9 : decode b_Ns_append 9 = .ok (.if_icmp .lt 5, 3) := by decide +kernel
theorem d_Ns_append_14 : decode b_Ns_append 14 = .ok (.aload_n 0, 1) := by decide +kernel
theorem d_Ns_append_15 : decode b_Ns_append 15 = .ok (.getfield 11, 3) := by decide +kernel
theorem d_Ns_append_18 : decode b_Ns_append 18 = .ok (.aload_n 0, 1) := by decide +kernel
theorem d_Ns_append_19 : decode b_Ns_append 19 = .ok (.getfield 20, 3) := by decide +kernel
theorem d_Ns_append_22 : decode b_Ns_append 22 = .ok (.aaload, 1) := by decide +kernel
theorem d_Ns_append_23 : decode b_Ns_append 23 = .ok (.astore_n 1, 1) := by decide +kernel
theorem d_Ns_append_24 : decode b_Ns_append 24 = .ok (.aload_n 1, 1) := by decide +kernel
theorem d_Ns_append_25 : decode b_Ns_append 25 = .ok (.aload_n 0, 1) := by decide +kernel
theorem d_Ns_append_26 : decode b_Ns_append 26 = .ok (.getfield 24, 3) := by decide +kernel
theorem d_Ns_append_29 : decode b_Ns_append 29 = .ok (.putfield 36, 3) := by decide +kernel
theorem d_Ns_append_32 : decode b_Ns_append 32 = .ok (.aload_n 0, 1) := by decide +kernel
theorem d_Ns_append_33 : decode b_Ns_append 33 = .ok (.dup, 1) := by decide +kernel
theorem d_Ns_append_34 : decode b_Ns_append 34 = .ok (.getfield 20, 3) := by decide +kernel
theorem d_Ns_append_37 : decode b_Ns_append 37 = .ok (.iconst 1, 1) := by decide +kernel
theorem d_Ns_append_38 : decode b_Ns_append 38 = .ok (.iadd, 1) := by decide +kernel
theorem d_Ns_append_39 : decode b_Ns_append 39 = .ok (.putfield 20, 3) := by decide +kernel
theorem d_Ns_append_42 : decode b_Ns_append 42 = .ok (.aload_n 0, 1) := by decide +kernel
theorem d_Ns_append_43 : decode b_Ns_append 43 = .ok (.dup, 1) := by decide +kernel
theorem d_Ns_append_44 : decode b_Ns_append 44 = .ok (.getfield 24, 3) := by decide +kernel
theorem d_Ns_append_47 : decode b_Ns_append 47 = .ok (.iconst 1, 1) := by decide +kernel
theorem d_Ns_append_48 : decode b_Ns_append 48 = .ok (.iadd, 1) := by decide +kernel
theorem d_Ns_append_49 : decode b_Ns_append 49 = .ok (.putfield 24, 3) := by decide +kernel
theorem d_Ns_append_52 : decode b_Ns_append 52 = .ok (.aload_n 1, 1) := by decide +kernel
theorem d_Ns_append_53 : decode b_Ns_append 53 = .ok (.areturn, 1) := by decide +kernel
theorem d_Ns_append_12 : decode b_Ns_append 12 = .ok (.aconst_null, 1) := by decide +kernel
theorem d_Ns_append_13 : decode b_Ns_append 13 = .ok (.areturn, 1) := by decide +kernel
set_option maxHeartbeats 4000000 in
set_option maxRecDepth 100000 in
theorem t_nodeOf (l : Launch) (D : va_G) (t : Nat → ClassId) (G : hG) (ak av : Nat → Nat) (h : hM) (τ : tM) (n f : Nat) (P9 : Nat) (no9 : Int32) (hn : n ≤ 200) (hT : TI τ t n h) (T_P9 : τ P9 = (7, f)) : Met l y_Ns_nodeOf (.code y_Ns_nodeOf b_Ns_nodeOf 3 (some (.object "WriteOnceDisc$Node")) :: lw_g) { frames := 0, cells := 0, slots := 0, locals := 0 } (hP (kE D t G ak av) D vwCl G h [.ref P9, .int no9]) (hQr D vwCl G (fun r h' => (∀ q, r = some q → τ q = (10, f)) ∧ ((∀ a, r = some a → ndl t h P9 a no9) ∧ (r = none → ndn t h P9 no9)) ∧ h = h')) 0 0 nof := by
  refine Met.ofW (cc := b_Ns_nodeOf) (maxL := 3) (ret := (some (.object "WriteOnceDisc$Node"))) (by decide) rfl ?_
  intro p e s m args below meth c s₁ Bd hml hv
  obtain ⟨ha, hE, hH⟩ := hv
  have hx := Bd.exec
  have hb := Bd.bytes
  have hr := Bd.returns
  have hts : ∀ w ∈ lw_g, w.before args s = true := fun w hw => atoms_spec (ws := (.code y_Ns_nodeOf b_Ns_nodeOf 3 (some (.object "WriteOnceDisc$Node")) :: lw_g)) Bd.pre w (List.mem_cons_of_mem _ hw)
  have hown : s.vm.findClass R_Ns = some m.cls := findClass_of_methodNamed Bd.named
  have hlocks := Bd.notSynchronized
  have hK := hE.1
  have hH0 := hH
  have hLo : hLc nof [] := hLc_nil
  have hz : s.heap.size ≤ s.heap.size := Nat.le_refl _
  have hl := lv_entry [.ref P9, .int no9] (n := 3) (Nat.le_of_ble_eq_true rfl)
  rw [show entryFrame m args 3 = F0 m 0 ((lg_sl [.ref P9, .int no9] ++ List.replicate (3 - (lg_sl [.ref P9, .int no9]).length) Slot.unset).toArray) [] from (by rw [ha]; exact lg_entry_eq m [.ref P9, .int no9] 3)]
  generalize (lg_sl [.ref P9, .int no9] ++ List.replicate (3 - (lg_sl [.ref P9, .int no9]).length) Slot.unset).toArray = ls at hl ⊢
  have hl : lv_has ls 3 [(0, .ref P9), (1, .int no9)] := hl
  obtain ⟨v_1, v_3, v_5, v_7, F_P9, c_2, c_4, c_6⟩ := TI_nds hT T_P9
  obtain ⟨g_8, F_v_1, c_9, c_10⟩ := TI_slo hT c_2
  refine lv_iconst (v := 0) hx hb d_Ns_nodeOf_0 (by decide) ?_
  refine lv_istore_n (lv' := [(2, .int 0), (0, .ref P9), (1, .int no9)]) hx hb d_Ns_nodeOf_1 rfl hl (by decide) rfl (fun ls hl => ?_)
  refine hm_loop (fun k2 ls H locs hh2 => ∃ (i9 : Int32), k2 = mU i9 ∧ lv_has ls 3 [(0, .ref P9), (1, .int no9), (2, .int i9)] ∧ hm D vwCl G hh2 H ∧ s.heap.size ≤ H.size ∧ hLc nof locs ∧ (h = hh2) ∧ (0 ≤ i9.toInt) ∧ (∀ k a, k < i9.toInt.toNat → g_8 k = some a → ∀ z, nod h a ≠ some (.int no9, z))) ?_ (hh := h) ⟨0, rfl, (lv_sub hl [1, 2, 0] rfl), hH, hz, hLo, rfl, (by decide), (fun k a hk => absurd hk (Nat.not_lt_zero k))⟩
  rintro k2 ls H locs hh2 ⟨i9, hk2, hl, hH, hz, hLo, rfl, I_i9, hN9⟩ ih2
  refine lv_iload_n hx hb d_Ns_nodeOf_2 rfl (lv_at hl 2 rfl) ?_
  refine lv_aload_n hx hb d_Ns_nodeOf_3 rfl (lv_at hl 0 rfl) ?_
  refine hm_get (ci := 2) (v := .int v_5) (C := R_Ns) (T := F_Ns) (N := 4) hx hb hts ig_Ns hown hK hH F_P9 rfl 2 (by decide) (hts _ mw_128) (fun _ h9 => h9) rfl d_Ns_nodeOf_4 ?_
  refine lv_icmp_ge (tgt := 36) hx hb d_Ns_nodeOf_7 (by decide) (fun hc_11 => ?_) (fun hc_11 => ?_)
  · skip
    have ic_12 : v_5.toInt ≤ i9.toInt := iLe hc_11
    refine lv_null hx hb d_Ns_nodeOf_36 ?_
    exact W.aret (v := va_rf (none)) hx hb hr (Or.inl ⟨_, rfl⟩) (va_rf_or _) (fun t9 ht hW => ⟨none, h, rfl, ⟨(fun _ h9 => by cases h9), ⟨fun a h9 => (by cases h9), fun _ s9 o9 c9 n9 sl9 hq i a y hi ha => by obtain ⟨rfl, rfl, rfl, rfl, rfl⟩ := Nds_eq hq ⟨F_P9, F_v_1⟩; exact hN9 i a (by omega) ha y⟩, rfl⟩, by rw [ht]; exact hH, by rw [ht]; exact hz⟩) hLo d_Ns_nodeOf_37
  · skip
    have ic_13 : i9.toInt < v_5.toInt := iNe hc_11
    have iu_14 : v_5.toInt < 2147483648 := iUp _
    refine lv_aload_n hx hb d_Ns_nodeOf_10 rfl (lv_at hl 0 rfl) ?_
    refine hm_get (ci := 2) (v := .ref v_1) (C := R_Ns) (T := F_Ns) (N := 4) hx hb hts ig_Ns hown hK hH F_P9 rfl 0 (by decide) (hts _ mw_129) (fun _ h9 => h9) rfl d_Ns_nodeOf_11 ?_
    refine lv_iload_n hx hb d_Ns_nodeOf_14 rfl (lv_at hl 2 rfl) ?_
    obtain ⟨a_15, e_16, T_17⟩ := c_9 i9.toNatClampNeg (iCl (by omega) (by omega))
    refine hm_aald (v := .ref a_15) hx hb hK hH 4 F_v_1 (C := R_No) rfl (iIn (by omega) (by omega)) (by rw [e_16]; rfl) d_Ns_nodeOf_15 ?_
    obtain ⟨v_18, v_19, v_21, v_23, v_24, v_26, v_27, v_28, v_30, v_31, v_32, F_a_15, c_20, c_22, c_25, c_29⟩ := TI_node hT T_17
    refine hm_get (ci := 1) (v := .int v_18) (C := R_No) (T := F_No) (N := 11) hx hb hts ig_No hown hK hH F_a_15 rfl 0 (by decide) (hts _ mw_130) (fun _ h9 => h9) rfl d_Ns_nodeOf_16 ?_
    refine lv_iload_n hx hb d_Ns_nodeOf_19 rfl (lv_at hl 1 rfl) ?_
    refine lv_icmp_ne (tgt := 30) hx hb d_Ns_nodeOf_20 (by decide) (fun hc_33 => ?_) (fun hc_33 => ?_)
    · skip
      obtain ⟨j_34, e_35⟩ : ∃ z : Int32, z = i9 + 1 := ⟨_, rfl⟩
      refine lv_iinc (v := j_34) (lv' := [(2, .int j_34), (0, .ref P9), (1, .int no9)]) hx hb d_Ns_nodeOf_30 hl (k := 2) rfl e_35.symm (by decide) rfl (fun ls hl => ?_)
      refine lv_goto (tgt := 2) hx hb d_Ns_nodeOf_33 (by decide) ?_
      have is_36 : j_34.toInt = i9.toInt + 1 := by rw [e_35]; exact iAddK 1 rfl (by omega) (by omega)
      exact ih2 (mU j_34) ls _ locs _ (by rw [hk2]; exact mU_lt (by omega)) ⟨j_34, rfl, (lv_sub hl [1, 2, 0] rfl), hH, hz, hLo, rfl, (by omega), (nxt9 (Q := fun k a => ∀ z, nod h a ≠ some (.int no9, z)) I_i9 (by omega) hN9 e_16 (nod_no F_a_15 hc_33))⟩
    · skip
      have ic_37 : v_18.toInt = no9.toInt := congrArg Int32.toInt hc_33
      refine lv_aload_n hx hb d_Ns_nodeOf_23 rfl (lv_at hl 0 rfl) ?_
      refine hm_get (ci := 2) (v := .ref v_1) (C := R_Ns) (T := F_Ns) (N := 4) hx hb hts ig_Ns hown hK hH F_P9 rfl 0 (by decide) (hts _ mw_129) (fun _ h9 => h9) rfl d_Ns_nodeOf_24 ?_
      refine lv_iload_n hx hb d_Ns_nodeOf_27 rfl (lv_at hl 2 rfl) ?_
      refine hm_aald (v := .ref a_15) hx hb hK hH 4 F_v_1 (C := R_No) rfl (iIn (by omega) (by omega)) (by rw [e_16]; rfl) d_Ns_nodeOf_28 ?_
      exact W.aret (v := va_rf (some a_15)) hx hb hr (Or.inl ⟨_, rfl⟩) (va_rf_or _) (fun t9 ht hW => ⟨some a_15, h, rfl, ⟨(fun _ h9 => by cases h9; exact T_17), ⟨fun a h9 => by cases h9; exact ⟨v_1, v_3, v_5, v_7, g_8, i9.toNatClampNeg, _, ⟨F_P9, F_v_1⟩, iClt I_i9 (by omega), e_16, by rw [← hc_33]; exact nod_of F_a_15⟩, fun h9 => (by cases h9)⟩, rfl⟩, by rw [ht]; exact hH, by rw [ht]; exact hz⟩) hLo d_Ns_nodeOf_29

set_option maxHeartbeats 4000000 in
set_option maxRecDepth 100000 in
theorem t_dirOf (l : Launch) (D : va_G) (t : Nat → ClassId) (G : hG) (ak av : Nat → Nat) (h : hM) (τ : tM) (n f : Nat) (P9 : Nat) (no9 : Int32) (hn : n ≤ 200) (hT : TI τ t n h) (T_P9 : τ P9 = (7, f)) : Met l y_Ns_directoryOf (.code y_Ns_directoryOf b_Ns_directoryOf 3 (some (.object "WriteOnceDisc$Node")) :: lw_g) { frames := 1, cells := 0, slots := 0, locals := 22 } (hP (kE D t G ak av) D vwCl G h [.ref P9, .int no9]) (hQr D vwCl G (fun r h' => (∀ q, r = some q → τ q = (10, f)) ∧ (∀ a, r = some a → ndl t h P9 a no9) ∧ h = h')) 0 0 nof := by
  refine Met.ofW (cc := b_Ns_directoryOf) (maxL := 3) (ret := (some (.object "WriteOnceDisc$Node"))) (by decide) rfl ?_
  intro p e s m args below meth c s₁ Bd hml hv
  obtain ⟨ha, hE, hH⟩ := hv
  have hx := Bd.exec
  have hb := Bd.bytes
  have hr := Bd.returns
  have hts : ∀ w ∈ lw_g, w.before args s = true := fun w hw => atoms_spec (ws := (.code y_Ns_directoryOf b_Ns_directoryOf 3 (some (.object "WriteOnceDisc$Node")) :: lw_g)) Bd.pre w (List.mem_cons_of_mem _ hw)
  have hown : s.vm.findClass R_Ns = some m.cls := findClass_of_methodNamed Bd.named
  have hlocks := Bd.notSynchronized
  have hK := hE.1
  have hH0 := hH
  have hLo : hLc nof [] := hLc_nil
  have hz : s.heap.size ≤ s.heap.size := Nat.le_refl _
  have hl := lv_entry [.ref P9, .int no9] (n := 3) (Nat.le_of_ble_eq_true rfl)
  rw [show entryFrame m args 3 = F0 m 0 ((lg_sl [.ref P9, .int no9] ++ List.replicate (3 - (lg_sl [.ref P9, .int no9]).length) Slot.unset).toArray) [] from (by rw [ha]; exact lg_entry_eq m [.ref P9, .int no9] 3)]
  generalize (lg_sl [.ref P9, .int no9] ++ List.replicate (3 - (lg_sl [.ref P9, .int no9]).length) Slot.unset).toArray = ls at hl ⊢
  have hl : lv_has ls 3 [(0, .ref P9), (1, .int no9)] := hl
  refine lv_aload_n hx hb d_Ns_directoryOf_0 rfl (lv_at hl 0 rfl) ?_
  refine lv_iload_n hx hb d_Ns_directoryOf_1 rfl (lv_at hl 1 rfl) ?_
  obtain ⟨v_1, v_3, v_5, v_7, F_P9, c_2, c_4, c_6⟩ := TI_nds hT T_P9
  refine hm_callPr (va_runV (As := [.int no9]) (b := P9) (rest := []) ⟨hx, hb, hml, hown, hts⟩ (t_nodeOf l D t G ak av h τ n f P9 no9  hn hT T_P9) ⟨cw9B 1 hts mw_131 mw_133 mw_132 rfl rfl (by decide +kernel) ⟨Nat.le_of_ble_eq_true rfl, Nat.le_of_ble_eq_true rfl⟩, hts _ mw_134, hts _ mw_135⟩ (hP_V (q := (R_Ns, F_Ns, 4)) kE_ok hE hK hH F_P9 rfl) rfl rfl hl.1 rfl (lv_room (Nat.le_of_ble_eq_true rfl)) d_Ns_directoryOf_2 ⟨Nat.le_of_ble_eq_true rfl, Nat.le_of_ble_eq_true rfl⟩) (fun r_8 h_9 H_10 hp_12  hH z_11 => ?_)
  have hz : s.heap.size ≤ H_10.size := Nat.le_trans hz z_11
  obtain ⟨c_13, xp_14, rfl⟩ := hp_12
  rcases r_8 with _ | q_15
  · skip
    refine lv_astore_nN (lv' := [(2, .null), (0, .ref P9), (1, .int no9)]) hx hb d_Ns_directoryOf_5 rfl hl (by decide) rfl (fun ls hl => ?_)
    refine lv_aload_nN hx hb d_Ns_directoryOf_6 rfl (lv_at hl 0 rfl) ?_
    refine lv_ifnullN (tgt := 21) hx hb d_Ns_directoryOf_7 (by decide) ?_
    refine lv_null hx hb d_Ns_directoryOf_21 ?_
    exact W.aret (v := va_rf (none)) hx hb hr (Or.inl ⟨_, rfl⟩) (va_rf_or _) (fun t9 ht hW => ⟨none, h, rfl, ⟨(fun _ h9 => by cases h9), (fun a h9 => by cases h9), rfl⟩, by rw [ht]; exact hH, by rw [ht]; exact hz⟩) hLo d_Ns_directoryOf_22
  · skip
    have T_16 := c_13 q_15 rfl
    refine lv_astore_n (lv' := [(2, .ref q_15), (0, .ref P9), (1, .int no9)]) hx hb d_Ns_directoryOf_5 rfl hl (by decide) rfl (fun ls hl => ?_)
    refine lv_aload_n hx hb d_Ns_directoryOf_6 rfl (lv_at hl 0 rfl) ?_
    refine lv_ifnull hx hb d_Ns_directoryOf_7 ?_
    refine lv_aload_n hx hb d_Ns_directoryOf_10 rfl (lv_at hl 0 rfl) ?_
    obtain ⟨v_17, v_18, v_20, v_22, v_23, v_25, v_26, v_27, v_29, v_30, v_31, F_q_15, c_19, c_21, c_24, c_28⟩ := TI_node hT T_16
    refine hm_get (ci := 1) (v := .int v_20) (C := R_No) (T := F_No) (N := 11) hx hb hts ig_No hown hK hH F_q_15 rfl 2 (by decide) (hts _ mw_136) (fun _ h9 => h9) rfl d_Ns_directoryOf_11 ?_
    refine lv_if_eq (tgt := 21) hx hb d_Ns_directoryOf_14 (by decide) (fun hc_32 => ?_) (fun hc_32 => ?_)
    · skip
      have ic_33 : v_20.toInt = 0 := congrArg Int32.toInt hc_32
      refine lv_null hx hb d_Ns_directoryOf_21 ?_
      exact W.aret (v := va_rf (none)) hx hb hr (Or.inl ⟨_, rfl⟩) (va_rf_or _) (fun t9 ht hW => ⟨none, h, rfl, ⟨(fun _ h9 => by cases h9), (fun a h9 => by cases h9), rfl⟩, by rw [ht]; exact hH, by rw [ht]; exact hz⟩) hLo d_Ns_directoryOf_22
    · skip
      refine lv_aload_n hx hb d_Ns_directoryOf_17 rfl (lv_at hl 0 rfl) ?_
      refine lv_goto (tgt := 22) hx hb d_Ns_directoryOf_18 (by decide) ?_
      exact W.aret (v := va_rf (some q_15)) hx hb hr (Or.inl ⟨_, rfl⟩) (va_rf_or _) (fun t9 ht hW => ⟨some q_15, h, rfl, ⟨(fun _ h9 => by cases h9; exact T_16), (fun a h9 => by cases h9; exact xp_14.1 _ rfl), rfl⟩, by rw [ht]; exact hH, by rw [ht]; exact hz⟩) hLo d_Ns_directoryOf_22

set_option maxHeartbeats 4000000 in
set_option maxRecDepth 100000 in
theorem t_other0 (l : Launch) (D : va_G) (t : Nat → ClassId) (G : hG) (ak av : Nat → Nat) (h : hM) (τ : tM) (n f : Nat) (P9 : Nat) (p9 : Nat) (w9 : Int64) (hn : n ≤ 200) (hT : TI τ t n h) (T_P9 : τ P9 = (7, f)) (T_p9 : τ p9 = (10, f)) : Met l y_Ns_hasOtherNamed (.code y_Ns_hasOtherNamed b_Ns_hasOtherNamed 6 (some .boolean) :: lw_g) { frames := 0, cells := 0, slots := 0, locals := 0 } (hP (kE D t G ak av) D vwCl G h [.ref P9, .ref p9, .long w9, .null]) (hQi D vwCl G (fun r h' => zb r ∧ h = h')) 0 0 nof := by
  refine Met.ofW (cc := b_Ns_hasOtherNamed) (maxL := 6) (ret := (some .boolean)) (by decide) rfl ?_
  intro p e s m args below meth c s₁ Bd hml hv
  obtain ⟨ha, hE, hH⟩ := hv
  have hx := Bd.exec
  have hb := Bd.bytes
  have hr := Bd.returns
  have hts : ∀ w ∈ lw_g, w.before args s = true := fun w hw => atoms_spec (ws := (.code y_Ns_hasOtherNamed b_Ns_hasOtherNamed 6 (some .boolean) :: lw_g)) Bd.pre w (List.mem_cons_of_mem _ hw)
  have hown : s.vm.findClass R_Ns = some m.cls := findClass_of_methodNamed Bd.named
  have hlocks := Bd.notSynchronized
  have hK := hE.1
  have hH0 := hH
  have hLo : hLc nof [] := hLc_nil
  have hz : s.heap.size ≤ s.heap.size := Nat.le_refl _
  have hl := lv_entry [.ref P9, .ref p9, .long w9, .null] (n := 6) (Nat.le_of_ble_eq_true rfl)
  rw [show entryFrame m args 6 = F0 m 0 ((lg_sl [.ref P9, .ref p9, .long w9, .null] ++ List.replicate (6 - (lg_sl [.ref P9, .ref p9, .long w9, .null]).length) Slot.unset).toArray) [] from (by rw [ha]; exact lg_entry_eq m [.ref P9, .ref p9, .long w9, .null] 6)]
  generalize (lg_sl [.ref P9, .ref p9, .long w9, .null] ++ List.replicate (6 - (lg_sl [.ref P9, .ref p9, .long w9, .null]).length) Slot.unset).toArray = ls at hl ⊢
  have hl : lv_has ls 6 [(0, .ref P9), (1, .ref p9), (2, .long w9), (4, .null)] := hl
  refine lv_iconst (v := 0) hx hb d_Ns_hasOtherNamed_0 (by decide) ?_
  refine lv_istore (lv' := [(5, .int 0), (0, .ref P9), (1, .ref p9), (2, .long w9), (4, .null)]) hx hb d_Ns_hasOtherNamed_1 hl (by decide) rfl (fun ls hl => ?_)
  refine hm_loop (fun k3 ls H locs hh3 => ∃ (i9 : Int32), k3 = mU i9 ∧ lv_has ls 6 [(0, .ref P9), (1, .ref p9), (2, .long w9), (4, .null), (5, .int i9)] ∧ hm D vwCl G hh3 H ∧ s.heap.size ≤ H.size ∧ hLc nof locs ∧ (h = hh3) ∧ (0 ≤ i9.toInt)) ?_ (hh := h) ⟨0, rfl, (lv_sub hl [1, 2, 3, 4, 0] rfl), hH, hz, hLo, rfl, (by decide)⟩
  rintro k3 ls H locs hh3 ⟨i9, hk3, hl, hH, hz, hLo, rfl, I_i9⟩ ih3
  refine lv_iload hx hb d_Ns_hasOtherNamed_3 (lv_at hl 4 rfl) ?_
  refine lv_aload_n hx hb d_Ns_hasOtherNamed_5 rfl (lv_at hl 0 rfl) ?_
  obtain ⟨v_1, v_3, v_5, v_7, F_P9, c_2, c_4, c_6⟩ := TI_nds hT T_P9
  refine hm_get (ci := 2) (v := .int v_5) (C := R_Ns) (T := F_Ns) (N := 4) hx hb hts ig_Ns hown hK hH F_P9 rfl 2 (by decide) (hts _ mw_128) (fun _ h9 => h9) rfl d_Ns_hasOtherNamed_6 ?_
  refine lv_icmp_ge (tgt := 61) hx hb d_Ns_hasOtherNamed_9 (by decide) (fun hc_8 => ?_) (fun hc_8 => ?_)
  · skip
    have ic_9 : v_5.toInt ≤ i9.toInt := iLe hc_8
    refine lv_iconst (v := 0) hx hb d_Ns_hasOtherNamed_61 (by decide) ?_
    exact W.zret (v := 0) hx hb hr (by decide) (fun t9 ht hW => ⟨0, h, rfl, ⟨zb0, rfl⟩, by rw [ht]; exact hH, by rw [ht]; exact hz⟩) hLo d_Ns_hasOtherNamed_62
  · skip
    have ic_10 : i9.toInt < v_5.toInt := iNe hc_8
    have iu_11 : v_5.toInt < 2147483648 := iUp _
    refine lv_aload_n hx hb d_Ns_hasOtherNamed_12 rfl (lv_at hl 0 rfl) ?_
    refine hm_get (ci := 2) (v := .ref v_1) (C := R_Ns) (T := F_Ns) (N := 4) hx hb hts ig_Ns hown hK hH F_P9 rfl 0 (by decide) (hts _ mw_129) (fun _ h9 => h9) rfl d_Ns_hasOtherNamed_13 ?_
    refine lv_iload hx hb d_Ns_hasOtherNamed_16 (lv_at hl 4 rfl) ?_
    obtain ⟨g_12, F_v_1, c_13, c_14⟩ := TI_slo hT c_2
    obtain ⟨a_15, e_16, T_17⟩ := c_13 i9.toNatClampNeg (iCl (by omega) (by omega))
    refine hm_aald (v := .ref a_15) hx hb hK hH 4 F_v_1 (C := R_No) rfl (iIn (by omega) (by omega)) (by rw [e_16]; rfl) d_Ns_hasOtherNamed_18 ?_
    obtain ⟨v_18, v_19, v_21, v_23, v_24, v_26, v_27, v_28, v_30, v_31, v_32, F_a_15, c_20, c_22, c_25, c_29⟩ := TI_node hT T_17
    refine hm_get (ci := 1) (v := va_rf v_19) (C := R_No) (T := F_No) (N := 11) hx hb hts ig_No hown hK hH F_a_15 rfl 1 (by decide) (hts _ mw_137) (fun _ h9 => h9) rfl d_Ns_hasOtherNamed_19 ?_
    refine lv_aload_n hx hb d_Ns_hasOtherNamed_22 rfl (lv_at hl 1 rfl) ?_
    refine lv_acmp_ne (rx := v_19) (ry := some p9) (tgt := 55) hx hb d_Ns_hasOtherNamed_23 (by decide) (fun hc_33 => ?_) (fun hc_33 => ?_)
    · skip
      obtain ⟨j_34, e_35⟩ : ∃ z : Int32, z = i9 + 1 := ⟨_, rfl⟩
      refine lv_iinc (v := j_34) (lv' := [(5, .int j_34), (0, .ref P9), (1, .ref p9), (2, .long w9), (4, .null)]) hx hb d_Ns_hasOtherNamed_55 hl (k := 4) rfl e_35.symm (by decide) rfl (fun ls hl => ?_)
      refine lv_goto (tgt := 3) hx hb d_Ns_hasOtherNamed_58 (by decide) ?_
      have is_36 : j_34.toInt = i9.toInt + 1 := by rw [e_35]; exact iAddK 1 rfl (by omega) (by omega)
      exact ih3 (mU j_34) ls _ locs _ (by rw [hk3]; exact mU_lt (by omega)) ⟨j_34, rfl, (lv_sub hl [1, 2, 3, 4, 0] rfl), hH, hz, hLo, rfl, (by omega)⟩
    · skip
      refine lv_aload_n hx hb d_Ns_hasOtherNamed_26 rfl (lv_at hl 0 rfl) ?_
      refine hm_get (ci := 2) (v := .ref v_1) (C := R_Ns) (T := F_Ns) (N := 4) hx hb hts ig_Ns hown hK hH F_P9 rfl 0 (by decide) (hts _ mw_129) (fun _ h9 => h9) rfl d_Ns_hasOtherNamed_27 ?_
      refine lv_iload hx hb d_Ns_hasOtherNamed_30 (lv_at hl 4 rfl) ?_
      refine hm_aald (v := .ref a_15) hx hb hK hH 4 F_v_1 (C := R_No) rfl (iIn (by omega) (by omega)) (by rw [e_16]; rfl) d_Ns_hasOtherNamed_32 ?_
      refine hm_get (ci := 1) (v := .long v_23) (C := R_No) (T := F_No) (N := 11) hx hb hts ig_No hown hK hH F_a_15 rfl 3 (by decide) (hts _ mw_138) (fun _ h9 => h9) rfl d_Ns_hasOtherNamed_33 ?_
      refine lv_lload_n hx hb d_Ns_hasOtherNamed_36 rfl (lv_at hl 2 rfl) ?_
      refine W.lcmp hx hb d_Ns_hasOtherNamed_37 ?_
      refine lv_if_ne (tgt := 55) hx hb d_Ns_hasOtherNamed_38 (by decide) (fun hc_37 => ?_) (fun hc_37 => ?_)
      · skip
        obtain ⟨j_38, e_39⟩ : ∃ z : Int32, z = i9 + 1 := ⟨_, rfl⟩
        refine lv_iinc (v := j_38) (lv' := [(5, .int j_38), (0, .ref P9), (1, .ref p9), (2, .long w9), (4, .null)]) hx hb d_Ns_hasOtherNamed_55 hl (k := 4) rfl e_39.symm (by decide) rfl (fun ls hl => ?_)
        refine lv_goto (tgt := 3) hx hb d_Ns_hasOtherNamed_58 (by decide) ?_
        have is_40 : j_38.toInt = i9.toInt + 1 := by rw [e_39]; exact iAddK 1 rfl (by omega) (by omega)
        exact ih3 (mU j_38) ls _ locs _ (by rw [hk3]; exact mU_lt (by omega)) ⟨j_38, rfl, (lv_sub hl [1, 2, 3, 4, 0] rfl), hH, hz, hLo, rfl, (by omega)⟩
      · skip
        refine lv_aload_n hx hb d_Ns_hasOtherNamed_41 rfl (lv_at hl 0 rfl) ?_
        refine hm_get (ci := 2) (v := .ref v_1) (C := R_Ns) (T := F_Ns) (N := 4) hx hb hts ig_Ns hown hK hH F_P9 rfl 0 (by decide) (hts _ mw_129) (fun _ h9 => h9) rfl d_Ns_hasOtherNamed_42 ?_
        refine lv_iload hx hb d_Ns_hasOtherNamed_45 (lv_at hl 4 rfl) ?_
        refine hm_aald (v := .ref a_15) hx hb hK hH 4 F_v_1 (C := R_No) rfl (iIn (by omega) (by omega)) (by rw [e_16]; rfl) d_Ns_hasOtherNamed_47 ?_
        refine lv_aloadN hx hb d_Ns_hasOtherNamed_48 (lv_at hl 3 rfl) ?_
        refine lv_acmp_eq (rx := some a_15) (ry := none) (tgt := 55) hx hb d_Ns_hasOtherNamed_50 (by decide) (fun hc_41 => ?_) (fun hc_41 => ?_)
        · skip
          obtain ⟨j_42, e_43⟩ : ∃ z : Int32, z = i9 + 1 := ⟨_, rfl⟩
          refine lv_iinc (v := j_42) (lv' := [(5, .int j_42), (0, .ref P9), (1, .ref p9), (2, .long w9), (4, .null)]) hx hb d_Ns_hasOtherNamed_55 hl (k := 4) rfl e_43.symm (by decide) rfl (fun ls hl => ?_)
          refine lv_goto (tgt := 3) hx hb d_Ns_hasOtherNamed_58 (by decide) ?_
          have is_44 : j_42.toInt = i9.toInt + 1 := by rw [e_43]; exact iAddK 1 rfl (by omega) (by omega)
          exact ih3 (mU j_42) ls _ locs _ (by rw [hk3]; exact mU_lt (by omega)) ⟨j_42, rfl, (lv_sub hl [1, 2, 3, 4, 0] rfl), hH, hz, hLo, rfl, (by omega)⟩
        · skip
          refine lv_iconst (v := 1) hx hb d_Ns_hasOtherNamed_53 (by decide) ?_
          exact W.zret (v := 1) hx hb hr (by decide) (fun t9 ht hW => ⟨1, h, rfl, ⟨zb1, rfl⟩, by rw [ht]; exact hH, by rw [ht]; exact hz⟩) hLo d_Ns_hasOtherNamed_54

set_option maxHeartbeats 4000000 in
set_option maxRecDepth 100000 in
theorem t_other1 (l : Launch) (D : va_G) (t : Nat → ClassId) (G : hG) (ak av : Nat → Nat) (h : hM) (τ : tM) (n f : Nat) (P9 : Nat) (p9 : Nat) (w9 : Int64) (x9 : Nat) (hn : n ≤ 200) (hT : TI τ t n h) (T_P9 : τ P9 = (7, f)) (T_p9 : τ p9 = (10, f)) (T_x9 : τ x9 = (10, f)) : Met l y_Ns_hasOtherNamed (.code y_Ns_hasOtherNamed b_Ns_hasOtherNamed 6 (some .boolean) :: lw_g) { frames := 0, cells := 0, slots := 0, locals := 0 } (hP (kE D t G ak av) D vwCl G h [.ref P9, .ref p9, .long w9, .ref x9]) (hQi D vwCl G (fun r h' => zb r ∧ h = h')) 0 0 nof := by
  refine Met.ofW (cc := b_Ns_hasOtherNamed) (maxL := 6) (ret := (some .boolean)) (by decide) rfl ?_
  intro p e s m args below meth c s₁ Bd hml hv
  obtain ⟨ha, hE, hH⟩ := hv
  have hx := Bd.exec
  have hb := Bd.bytes
  have hr := Bd.returns
  have hts : ∀ w ∈ lw_g, w.before args s = true := fun w hw => atoms_spec (ws := (.code y_Ns_hasOtherNamed b_Ns_hasOtherNamed 6 (some .boolean) :: lw_g)) Bd.pre w (List.mem_cons_of_mem _ hw)
  have hown : s.vm.findClass R_Ns = some m.cls := findClass_of_methodNamed Bd.named
  have hlocks := Bd.notSynchronized
  have hK := hE.1
  have hH0 := hH
  have hLo : hLc nof [] := hLc_nil
  have hz : s.heap.size ≤ s.heap.size := Nat.le_refl _
  have hl := lv_entry [.ref P9, .ref p9, .long w9, .ref x9] (n := 6) (Nat.le_of_ble_eq_true rfl)
  rw [show entryFrame m args 6 = F0 m 0 ((lg_sl [.ref P9, .ref p9, .long w9, .ref x9] ++ List.replicate (6 - (lg_sl [.ref P9, .ref p9, .long w9, .ref x9]).length) Slot.unset).toArray) [] from (by rw [ha]; exact lg_entry_eq m [.ref P9, .ref p9, .long w9, .ref x9] 6)]
  generalize (lg_sl [.ref P9, .ref p9, .long w9, .ref x9] ++ List.replicate (6 - (lg_sl [.ref P9, .ref p9, .long w9, .ref x9]).length) Slot.unset).toArray = ls at hl ⊢
  have hl : lv_has ls 6 [(0, .ref P9), (1, .ref p9), (2, .long w9), (4, .ref x9)] := hl
  refine lv_iconst (v := 0) hx hb d_Ns_hasOtherNamed_0 (by decide) ?_
  refine lv_istore (lv' := [(5, .int 0), (0, .ref P9), (1, .ref p9), (2, .long w9), (4, .ref x9)]) hx hb d_Ns_hasOtherNamed_1 hl (by decide) rfl (fun ls hl => ?_)
  refine hm_loop (fun k3 ls H locs hh3 => ∃ (i9 : Int32), k3 = mU i9 ∧ lv_has ls 6 [(0, .ref P9), (1, .ref p9), (2, .long w9), (4, .ref x9), (5, .int i9)] ∧ hm D vwCl G hh3 H ∧ s.heap.size ≤ H.size ∧ hLc nof locs ∧ (h = hh3) ∧ (0 ≤ i9.toInt)) ?_ (hh := h) ⟨0, rfl, (lv_sub hl [1, 2, 3, 4, 0] rfl), hH, hz, hLo, rfl, (by decide)⟩
  rintro k3 ls H locs hh3 ⟨i9, hk3, hl, hH, hz, hLo, rfl, I_i9⟩ ih3
  refine lv_iload hx hb d_Ns_hasOtherNamed_3 (lv_at hl 4 rfl) ?_
  refine lv_aload_n hx hb d_Ns_hasOtherNamed_5 rfl (lv_at hl 0 rfl) ?_
  obtain ⟨v_1, v_3, v_5, v_7, F_P9, c_2, c_4, c_6⟩ := TI_nds hT T_P9
  refine hm_get (ci := 2) (v := .int v_5) (C := R_Ns) (T := F_Ns) (N := 4) hx hb hts ig_Ns hown hK hH F_P9 rfl 2 (by decide) (hts _ mw_128) (fun _ h9 => h9) rfl d_Ns_hasOtherNamed_6 ?_
  refine lv_icmp_ge (tgt := 61) hx hb d_Ns_hasOtherNamed_9 (by decide) (fun hc_8 => ?_) (fun hc_8 => ?_)
  · skip
    have ic_9 : v_5.toInt ≤ i9.toInt := iLe hc_8
    refine lv_iconst (v := 0) hx hb d_Ns_hasOtherNamed_61 (by decide) ?_
    exact W.zret (v := 0) hx hb hr (by decide) (fun t9 ht hW => ⟨0, h, rfl, ⟨zb0, rfl⟩, by rw [ht]; exact hH, by rw [ht]; exact hz⟩) hLo d_Ns_hasOtherNamed_62
  · skip
    have ic_10 : i9.toInt < v_5.toInt := iNe hc_8
    have iu_11 : v_5.toInt < 2147483648 := iUp _
    refine lv_aload_n hx hb d_Ns_hasOtherNamed_12 rfl (lv_at hl 0 rfl) ?_
    refine hm_get (ci := 2) (v := .ref v_1) (C := R_Ns) (T := F_Ns) (N := 4) hx hb hts ig_Ns hown hK hH F_P9 rfl 0 (by decide) (hts _ mw_129) (fun _ h9 => h9) rfl d_Ns_hasOtherNamed_13 ?_
    refine lv_iload hx hb d_Ns_hasOtherNamed_16 (lv_at hl 4 rfl) ?_
    obtain ⟨g_12, F_v_1, c_13, c_14⟩ := TI_slo hT c_2
    obtain ⟨a_15, e_16, T_17⟩ := c_13 i9.toNatClampNeg (iCl (by omega) (by omega))
    refine hm_aald (v := .ref a_15) hx hb hK hH 4 F_v_1 (C := R_No) rfl (iIn (by omega) (by omega)) (by rw [e_16]; rfl) d_Ns_hasOtherNamed_18 ?_
    obtain ⟨v_18, v_19, v_21, v_23, v_24, v_26, v_27, v_28, v_30, v_31, v_32, F_a_15, c_20, c_22, c_25, c_29⟩ := TI_node hT T_17
    refine hm_get (ci := 1) (v := va_rf v_19) (C := R_No) (T := F_No) (N := 11) hx hb hts ig_No hown hK hH F_a_15 rfl 1 (by decide) (hts _ mw_137) (fun _ h9 => h9) rfl d_Ns_hasOtherNamed_19 ?_
    refine lv_aload_n hx hb d_Ns_hasOtherNamed_22 rfl (lv_at hl 1 rfl) ?_
    refine lv_acmp_ne (rx := v_19) (ry := some p9) (tgt := 55) hx hb d_Ns_hasOtherNamed_23 (by decide) (fun hc_33 => ?_) (fun hc_33 => ?_)
    · skip
      obtain ⟨j_34, e_35⟩ : ∃ z : Int32, z = i9 + 1 := ⟨_, rfl⟩
      refine lv_iinc (v := j_34) (lv' := [(5, .int j_34), (0, .ref P9), (1, .ref p9), (2, .long w9), (4, .ref x9)]) hx hb d_Ns_hasOtherNamed_55 hl (k := 4) rfl e_35.symm (by decide) rfl (fun ls hl => ?_)
      refine lv_goto (tgt := 3) hx hb d_Ns_hasOtherNamed_58 (by decide) ?_
      have is_36 : j_34.toInt = i9.toInt + 1 := by rw [e_35]; exact iAddK 1 rfl (by omega) (by omega)
      exact ih3 (mU j_34) ls _ locs _ (by rw [hk3]; exact mU_lt (by omega)) ⟨j_34, rfl, (lv_sub hl [1, 2, 3, 4, 0] rfl), hH, hz, hLo, rfl, (by omega)⟩
    · skip
      refine lv_aload_n hx hb d_Ns_hasOtherNamed_26 rfl (lv_at hl 0 rfl) ?_
      refine hm_get (ci := 2) (v := .ref v_1) (C := R_Ns) (T := F_Ns) (N := 4) hx hb hts ig_Ns hown hK hH F_P9 rfl 0 (by decide) (hts _ mw_129) (fun _ h9 => h9) rfl d_Ns_hasOtherNamed_27 ?_
      refine lv_iload hx hb d_Ns_hasOtherNamed_30 (lv_at hl 4 rfl) ?_
      refine hm_aald (v := .ref a_15) hx hb hK hH 4 F_v_1 (C := R_No) rfl (iIn (by omega) (by omega)) (by rw [e_16]; rfl) d_Ns_hasOtherNamed_32 ?_
      refine hm_get (ci := 1) (v := .long v_23) (C := R_No) (T := F_No) (N := 11) hx hb hts ig_No hown hK hH F_a_15 rfl 3 (by decide) (hts _ mw_138) (fun _ h9 => h9) rfl d_Ns_hasOtherNamed_33 ?_
      refine lv_lload_n hx hb d_Ns_hasOtherNamed_36 rfl (lv_at hl 2 rfl) ?_
      refine W.lcmp hx hb d_Ns_hasOtherNamed_37 ?_
      refine lv_if_ne (tgt := 55) hx hb d_Ns_hasOtherNamed_38 (by decide) (fun hc_37 => ?_) (fun hc_37 => ?_)
      · skip
        obtain ⟨j_38, e_39⟩ : ∃ z : Int32, z = i9 + 1 := ⟨_, rfl⟩
        refine lv_iinc (v := j_38) (lv' := [(5, .int j_38), (0, .ref P9), (1, .ref p9), (2, .long w9), (4, .ref x9)]) hx hb d_Ns_hasOtherNamed_55 hl (k := 4) rfl e_39.symm (by decide) rfl (fun ls hl => ?_)
        refine lv_goto (tgt := 3) hx hb d_Ns_hasOtherNamed_58 (by decide) ?_
        have is_40 : j_38.toInt = i9.toInt + 1 := by rw [e_39]; exact iAddK 1 rfl (by omega) (by omega)
        exact ih3 (mU j_38) ls _ locs _ (by rw [hk3]; exact mU_lt (by omega)) ⟨j_38, rfl, (lv_sub hl [1, 2, 3, 4, 0] rfl), hH, hz, hLo, rfl, (by omega)⟩
      · skip
        refine lv_aload_n hx hb d_Ns_hasOtherNamed_41 rfl (lv_at hl 0 rfl) ?_
        refine hm_get (ci := 2) (v := .ref v_1) (C := R_Ns) (T := F_Ns) (N := 4) hx hb hts ig_Ns hown hK hH F_P9 rfl 0 (by decide) (hts _ mw_129) (fun _ h9 => h9) rfl d_Ns_hasOtherNamed_42 ?_
        refine lv_iload hx hb d_Ns_hasOtherNamed_45 (lv_at hl 4 rfl) ?_
        refine hm_aald (v := .ref a_15) hx hb hK hH 4 F_v_1 (C := R_No) rfl (iIn (by omega) (by omega)) (by rw [e_16]; rfl) d_Ns_hasOtherNamed_47 ?_
        refine lv_aload hx hb d_Ns_hasOtherNamed_48 (lv_at hl 3 rfl) ?_
        refine lv_acmp_eq (rx := some a_15) (ry := some x9) (tgt := 55) hx hb d_Ns_hasOtherNamed_50 (by decide) (fun hc_41 => ?_) (fun hc_41 => ?_)
        · skip
          obtain ⟨j_42, e_43⟩ : ∃ z : Int32, z = i9 + 1 := ⟨_, rfl⟩
          refine lv_iinc (v := j_42) (lv' := [(5, .int j_42), (0, .ref P9), (1, .ref p9), (2, .long w9), (4, .ref x9)]) hx hb d_Ns_hasOtherNamed_55 hl (k := 4) rfl e_43.symm (by decide) rfl (fun ls hl => ?_)
          refine lv_goto (tgt := 3) hx hb d_Ns_hasOtherNamed_58 (by decide) ?_
          have is_44 : j_42.toInt = i9.toInt + 1 := by rw [e_43]; exact iAddK 1 rfl (by omega) (by omega)
          exact ih3 (mU j_42) ls _ locs _ (by rw [hk3]; exact mU_lt (by omega)) ⟨j_42, rfl, (lv_sub hl [1, 2, 3, 4, 0] rfl), hH, hz, hLo, rfl, (by omega)⟩
        · skip
          refine lv_iconst (v := 1) hx hb d_Ns_hasOtherNamed_53 (by decide) ?_
          exact W.zret (v := 1) hx hb hr (by decide) (fun t9 ht hW => ⟨1, h, rfl, ⟨zb1, rfl⟩, by rw [ht]; exact hH, by rw [ht]; exact hz⟩) hLo d_Ns_hasOtherNamed_54

set_option maxHeartbeats 4000000 in
set_option maxRecDepth 100000 in
theorem t_hasCh (l : Launch) (D : va_G) (t : Nat → ClassId) (G : hG) (ak av : Nat → Nat) (h : hM) (τ : tM) (n f : Nat) (P9 : Nat) (d9 : Nat) (hn : n ≤ 200) (hT : TI τ t n h) (T_P9 : τ P9 = (7, f)) (T_d9 : τ d9 = (10, f)) : Met l y_Ns_hasChildren (.code y_Ns_hasChildren b_Ns_hasChildren 3 (some .boolean) :: lw_g) { frames := 0, cells := 0, slots := 0, locals := 0 } (hP (kE D t G ak av) D vwCl G h [.ref P9, .ref d9]) (hQi D vwCl G (fun r h' => zb r ∧ (r = 0 → ∀ s o c nn sl, Nds t h P9 s o c nn sl → ∀ a, live sl c.toInt.toNat a → prt h a ≠ some d9) ∧ h = h')) 0 0 nof := by
  refine Met.ofW (cc := b_Ns_hasChildren) (maxL := 3) (ret := (some .boolean)) (by decide) rfl ?_
  intro p e s m args below meth c s₁ Bd hml hv
  obtain ⟨ha, hE, hH⟩ := hv
  have hx := Bd.exec
  have hb := Bd.bytes
  have hr := Bd.returns
  have hts : ∀ w ∈ lw_g, w.before args s = true := fun w hw => atoms_spec (ws := (.code y_Ns_hasChildren b_Ns_hasChildren 3 (some .boolean) :: lw_g)) Bd.pre w (List.mem_cons_of_mem _ hw)
  have hown : s.vm.findClass R_Ns = some m.cls := findClass_of_methodNamed Bd.named
  have hlocks := Bd.notSynchronized
  have hK := hE.1
  have hH0 := hH
  have hLo : hLc nof [] := hLc_nil
  have hz : s.heap.size ≤ s.heap.size := Nat.le_refl _
  have hl := lv_entry [.ref P9, .ref d9] (n := 3) (Nat.le_of_ble_eq_true rfl)
  rw [show entryFrame m args 3 = F0 m 0 ((lg_sl [.ref P9, .ref d9] ++ List.replicate (3 - (lg_sl [.ref P9, .ref d9]).length) Slot.unset).toArray) [] from (by rw [ha]; exact lg_entry_eq m [.ref P9, .ref d9] 3)]
  generalize (lg_sl [.ref P9, .ref d9] ++ List.replicate (3 - (lg_sl [.ref P9, .ref d9]).length) Slot.unset).toArray = ls at hl ⊢
  have hl : lv_has ls 3 [(0, .ref P9), (1, .ref d9)] := hl
  obtain ⟨v_1, v_3, v_5, v_7, F_P9, c_2, c_4, c_6⟩ := TI_nds hT T_P9
  obtain ⟨g_8, F_v_1, c_9, c_10⟩ := TI_slo hT c_2
  refine lv_iconst (v := 0) hx hb d_Ns_hasChildren_0 (by decide) ?_
  refine lv_istore_n (lv' := [(2, .int 0), (0, .ref P9), (1, .ref d9)]) hx hb d_Ns_hasChildren_1 rfl hl (by decide) rfl (fun ls hl => ?_)
  refine hm_loop (fun k2 ls H locs hh2 => ∃ (i9 : Int32), k2 = mU i9 ∧ lv_has ls 3 [(0, .ref P9), (1, .ref d9), (2, .int i9)] ∧ hm D vwCl G hh2 H ∧ s.heap.size ≤ H.size ∧ hLc nof locs ∧ (h = hh2) ∧ (0 ≤ i9.toInt) ∧ (∀ k a, k < i9.toInt.toNat → g_8 k = some a → prt h a ≠ some d9)) ?_ (hh := h) ⟨0, rfl, (lv_sub hl [1, 2, 0] rfl), hH, hz, hLo, rfl, (by decide), (fun k a hk => absurd hk (Nat.not_lt_zero k))⟩
  rintro k2 ls H locs hh2 ⟨i9, hk2, hl, hH, hz, hLo, rfl, I_i9, hN9⟩ ih2
  refine lv_iload_n hx hb d_Ns_hasChildren_2 rfl (lv_at hl 2 rfl) ?_
  refine lv_aload_n hx hb d_Ns_hasChildren_3 rfl (lv_at hl 0 rfl) ?_
  refine hm_get (ci := 2) (v := .int v_5) (C := R_Ns) (T := F_Ns) (N := 4) hx hb hts ig_Ns hown hK hH F_P9 rfl 2 (by decide) (hts _ mw_128) (fun _ h9 => h9) rfl d_Ns_hasChildren_4 ?_
  refine lv_icmp_ge (tgt := 31) hx hb d_Ns_hasChildren_7 (by decide) (fun hc_11 => ?_) (fun hc_11 => ?_)
  · skip
    have ic_12 : v_5.toInt ≤ i9.toInt := iLe hc_11
    refine lv_iconst (v := 0) hx hb d_Ns_hasChildren_31 (by decide) ?_
    exact W.zret (v := 0) hx hb hr (by decide) (fun t9 ht hW => ⟨0, h, rfl, ⟨zb0, (fun _ s9 o9 c9 n9 sl9 hq a ⟨i, hi, ha⟩ => by obtain ⟨rfl, rfl, rfl, rfl, rfl⟩ := Nds_eq hq ⟨F_P9, F_v_1⟩; exact hN9 i a (by omega) ha), rfl⟩, by rw [ht]; exact hH, by rw [ht]; exact hz⟩) hLo d_Ns_hasChildren_32
  · skip
    have ic_13 : i9.toInt < v_5.toInt := iNe hc_11
    have iu_14 : v_5.toInt < 2147483648 := iUp _
    refine lv_aload_n hx hb d_Ns_hasChildren_10 rfl (lv_at hl 0 rfl) ?_
    refine hm_get (ci := 2) (v := .ref v_1) (C := R_Ns) (T := F_Ns) (N := 4) hx hb hts ig_Ns hown hK hH F_P9 rfl 0 (by decide) (hts _ mw_129) (fun _ h9 => h9) rfl d_Ns_hasChildren_11 ?_
    refine lv_iload_n hx hb d_Ns_hasChildren_14 rfl (lv_at hl 2 rfl) ?_
    obtain ⟨a_15, e_16, T_17⟩ := c_9 i9.toNatClampNeg (iCl (by omega) (by omega))
    refine hm_aald (v := .ref a_15) hx hb hK hH 4 F_v_1 (C := R_No) rfl (iIn (by omega) (by omega)) (by rw [e_16]; rfl) d_Ns_hasChildren_15 ?_
    obtain ⟨v_18, v_19, v_21, v_23, v_24, v_26, v_27, v_28, v_30, v_31, v_32, F_a_15, c_20, c_22, c_25, c_29⟩ := TI_node hT T_17
    refine hm_get (ci := 1) (v := va_rf v_19) (C := R_No) (T := F_No) (N := 11) hx hb hts ig_No hown hK hH F_a_15 rfl 1 (by decide) (hts _ mw_137) (fun _ h9 => h9) rfl d_Ns_hasChildren_16 ?_
    refine lv_aload_n hx hb d_Ns_hasChildren_19 rfl (lv_at hl 1 rfl) ?_
    refine lv_acmp_ne (rx := v_19) (ry := some d9) (tgt := 25) hx hb d_Ns_hasChildren_20 (by decide) (fun hc_33 => ?_) (fun hc_33 => ?_)
    · skip
      obtain ⟨j_34, e_35⟩ : ∃ z : Int32, z = i9 + 1 := ⟨_, rfl⟩
      refine lv_iinc (v := j_34) (lv' := [(2, .int j_34), (0, .ref P9), (1, .ref d9)]) hx hb d_Ns_hasChildren_25 hl (k := 2) rfl e_35.symm (by decide) rfl (fun ls hl => ?_)
      refine lv_goto (tgt := 2) hx hb d_Ns_hasChildren_28 (by decide) ?_
      have is_36 : j_34.toInt = i9.toInt + 1 := by rw [e_35]; exact iAddK 1 rfl (by omega) (by omega)
      exact ih2 (mU j_34) ls _ locs _ (by rw [hk2]; exact mU_lt (by omega)) ⟨j_34, rfl, (lv_sub hl [1, 2, 0] rfl), hH, hz, hLo, rfl, (by omega), (nxt9 (Q := fun k a => prt h a ≠ some d9) I_i9 (by omega) hN9 e_16 (prt_no F_a_15 hc_33))⟩
    · skip
      refine lv_iconst (v := 1) hx hb d_Ns_hasChildren_23 (by decide) ?_
      exact W.zret (v := 1) hx hb hr (by decide) (fun t9 ht hW => ⟨1, h, rfl, ⟨zb1, (fun z => absurd z (by decide)), rfl⟩, by rw [ht]; exact hH, by rw [ht]; exact hz⟩) hLo d_Ns_hasChildren_24

set_option maxHeartbeats 4000000 in
set_option maxRecDepth 100000 in
theorem t_levels (l : Launch) (D : va_G) (t : Nat → ClassId) (G : hG) (ak av : Nat → Nat) (h : hM) (τ : tM) (n f : Nat) (P9 : Nat) (d9 : Nat) (hn : n ≤ 200) (hT : TI τ t n h) (T_P9 : τ P9 = (7, f)) (T_d9 : τ d9 = (10, f)) (hTr : TrP t h P9) (hC : ∃ k, Ch (prt h) k d9) : Met l y_Ns_levelsOf (.code y_Ns_levelsOf b_Ns_levelsOf 4 (some .int) :: lw_g) { frames := 1, cells := 0, slots := 0, locals := 22 } (hP (kE D t G ak av) D vwCl G h [.ref P9, .ref d9]) (hQi D vwCl G (fun r h' => h = h')) 0 0 nof := by
  refine Met.ofW (cc := b_Ns_levelsOf) (maxL := 4) (ret := (some .int)) (by decide) rfl ?_
  intro p e s m args below meth c s₁ Bd hml hv
  obtain ⟨ha, hE, hH⟩ := hv
  have hx := Bd.exec
  have hb := Bd.bytes
  have hr := Bd.returns
  have hts : ∀ w ∈ lw_g, w.before args s = true := fun w hw => atoms_spec (ws := (.code y_Ns_levelsOf b_Ns_levelsOf 4 (some .int) :: lw_g)) Bd.pre w (List.mem_cons_of_mem _ hw)
  have hown : s.vm.findClass R_Ns = some m.cls := findClass_of_methodNamed Bd.named
  have hlocks := Bd.notSynchronized
  have hK := hE.1
  have hH0 := hH
  have hLo : hLc nof [] := hLc_nil
  have hz : s.heap.size ≤ s.heap.size := Nat.le_refl _
  have hl := lv_entry [.ref P9, .ref d9] (n := 4) (Nat.le_of_ble_eq_true rfl)
  rw [show entryFrame m args 4 = F0 m 0 ((lg_sl [.ref P9, .ref d9] ++ List.replicate (4 - (lg_sl [.ref P9, .ref d9]).length) Slot.unset).toArray) [] from (by rw [ha]; exact lg_entry_eq m [.ref P9, .ref d9] 4)]
  generalize (lg_sl [.ref P9, .ref d9] ++ List.replicate (4 - (lg_sl [.ref P9, .ref d9]).length) Slot.unset).toArray = ls at hl ⊢
  have hl : lv_has ls 4 [(0, .ref P9), (1, .ref d9)] := hl
  obtain ⟨s8, o8, c8, n8, sl8, hNd8, G3, G4, hTr⟩ := hTr
  obtain ⟨v_1, v_3, v_5, v_7, F_P9, c_2, c_4, c_6⟩ := TI_nds hT T_P9
  obtain ⟨g_8, F_v_1, c_9, c_10⟩ := TI_slo hT c_2
  obtain ⟨e81, e82, e83, e84, e85⟩ := Nds_eq hNd8 ⟨F_P9, F_v_1⟩
  rw [e83, e85] at hTr
  refine lv_iconst (v := 0) hx hb d_Ns_levelsOf_0 (by decide) ?_
  refine lv_istore_n (lv' := [(2, .int 0), (0, .ref P9), (1, .ref d9)]) hx hb d_Ns_levelsOf_1 rfl hl (by decide) rfl (fun ls hl => ?_)
  refine lv_iconst (v := 0) hx hb d_Ns_levelsOf_2 (by decide) ?_
  refine lv_istore_n (lv' := [(3, .int 0), (2, .int 0), (0, .ref P9), (1, .ref d9)]) hx hb d_Ns_levelsOf_3 rfl hl (by decide) rfl (fun ls hl => ?_)
  refine hm_loop (fun k4 ls H locs hh4 => ∃ (lv9 : Int32) (i9 : Int32), k4 = mU i9 ∧ lv_has ls 4 [(0, .ref P9), (1, .ref d9), (2, .int lv9), (3, .int i9)] ∧ hm D vwCl G hh4 H ∧ s.heap.size ≤ H.size ∧ hLc nof locs ∧ (h = hh4) ∧ (0 ≤ i9.toInt)) ?_ (hh := h) ⟨0, 0, rfl, (lv_sub hl [2, 3, 1, 0] rfl), hH, hz, hLo, rfl, (by decide)⟩
  rintro k4 ls H locs hh4 ⟨lv9, i9, hk4, hl, hH, hz, hLo, rfl, I_i9⟩ ih4
  refine lv_iload_n hx hb d_Ns_levelsOf_4 rfl (lv_at hl 3 rfl) ?_
  refine lv_aload_n hx hb d_Ns_levelsOf_5 rfl (lv_at hl 0 rfl) ?_
  refine hm_get (ci := 2) (v := .int v_5) (C := R_Ns) (T := F_Ns) (N := 4) hx hb hts ig_Ns hown hK hH F_P9 rfl 2 (by decide) (hts _ mw_128) (fun _ h9 => h9) rfl d_Ns_levelsOf_6 ?_
  refine lv_icmp_ge (tgt := 64) hx hb d_Ns_levelsOf_9 (by decide) (fun hc_11 => ?_) (fun hc_11 => ?_)
  · skip
    have ic_12 : v_5.toInt ≤ i9.toInt := iLe hc_11
    refine lv_iload_n hx hb d_Ns_levelsOf_64 rfl (lv_at hl 2 rfl) ?_
    exact W.iret (v := lv9) hx hb hr (fun t9 ht hW => ⟨lv9, h, rfl, rfl, by rw [ht]; exact hH, by rw [ht]; exact hz⟩) hLo d_Ns_levelsOf_65
  · skip
    have ic_13 : i9.toInt < v_5.toInt := iNe hc_11
    have iu_14 : v_5.toInt < 2147483648 := iUp _
    refine lv_aload_n hx hb d_Ns_levelsOf_12 rfl (lv_at hl 0 rfl) ?_
    refine hm_get (ci := 2) (v := .ref v_1) (C := R_Ns) (T := F_Ns) (N := 4) hx hb hts ig_Ns hown hK hH F_P9 rfl 0 (by decide) (hts _ mw_129) (fun _ h9 => h9) rfl d_Ns_levelsOf_13 ?_
    refine lv_iload_n hx hb d_Ns_levelsOf_16 rfl (lv_at hl 3 rfl) ?_
    obtain ⟨a_15, e_16, T_17⟩ := c_9 i9.toNatClampNeg (iCl (by omega) (by omega))
    refine hm_aald (v := .ref a_15) hx hb hK hH 4 F_v_1 (C := R_No) rfl (iIn (by omega) (by omega)) (by rw [e_16]; rfl) d_Ns_levelsOf_17 ?_
    obtain ⟨v_18, v_19, v_21, v_23, v_24, v_26, v_27, v_28, v_30, v_31, v_32, F_a_15, c_20, c_22, c_25, c_29⟩ := TI_node hT T_17
    refine hm_get (ci := 1) (v := .int v_21) (C := R_No) (T := F_No) (N := 11) hx hb hts ig_No hown hK hH F_a_15 rfl 2 (by decide) (hts _ mw_136) (fun _ h9 => h9) rfl d_Ns_levelsOf_18 ?_
    refine lv_if_eq (tgt := 58) hx hb d_Ns_levelsOf_21 (by decide) (fun hc_33 => ?_) (fun hc_33 => ?_)
    · skip
      have ic_34 : v_21.toInt = 0 := congrArg Int32.toInt hc_33
      obtain ⟨j_35, e_36⟩ : ∃ z : Int32, z = i9 + 1 := ⟨_, rfl⟩
      refine lv_iinc (v := j_35) (lv' := [(3, .int j_35), (0, .ref P9), (1, .ref d9), (2, .int lv9)]) hx hb d_Ns_levelsOf_58 hl (k := 3) rfl e_36.symm (by decide) rfl (fun ls hl => ?_)
      refine lv_goto (tgt := 4) hx hb d_Ns_levelsOf_61 (by decide) ?_
      have is_37 : j_35.toInt = i9.toInt + 1 := by rw [e_36]; exact iAddK 1 rfl (by omega) (by omega)
      exact ih4 (mU j_35) ls _ locs _ (by rw [hk4]; exact mU_lt (by omega)) ⟨lv9, j_35, rfl, (lv_sub hl [1, 2, 3, 0] rfl), hH, hz, hLo, rfl, (by omega)⟩
    · skip
      refine lv_aload_n hx hb d_Ns_levelsOf_24 rfl (lv_at hl 0 rfl) ?_
      refine hm_get (ci := 2) (v := .ref v_1) (C := R_Ns) (T := F_Ns) (N := 4) hx hb hts ig_Ns hown hK hH F_P9 rfl 0 (by decide) (hts _ mw_129) (fun _ h9 => h9) rfl d_Ns_levelsOf_25 ?_
      refine lv_iload_n hx hb d_Ns_levelsOf_28 rfl (lv_at hl 3 rfl) ?_
      refine hm_aald (v := .ref a_15) hx hb hK hH 4 F_v_1 (C := R_No) rfl (iIn (by omega) (by omega)) (by rw [e_16]; rfl) d_Ns_levelsOf_29 ?_
      refine lv_aload_n hx hb d_Ns_levelsOf_30 rfl (lv_at hl 1 rfl) ?_
      refine hm_callPi (va_runV (As := [.ref d9]) (b := a_15) (rest := []) ⟨hx, hb, hml, hown, hts⟩ (t_within l D t G ak av h τ n f a_15 d9  hn hT T_17 T_d9 (hTr a_15 ⟨i9.toNatClampNeg, iClt I_i9 (by omega), e_16⟩).1) ⟨cw9B 1 hts mw_139 mw_140 mw_106 rfl rfl (by decide +kernel) ⟨Nat.le_of_ble_eq_true rfl, Nat.le_of_ble_eq_true rfl⟩, hts _ mw_141, hts _ mw_142⟩ (hP_V (q := (R_No, F_No, 11)) kE_ok hE hK hH F_a_15 rfl) rfl rfl hl.1 rfl (lv_room (Nat.le_of_ble_eq_true rfl)) d_Ns_levelsOf_31 ⟨Nat.le_of_ble_eq_true rfl, Nat.le_of_ble_eq_true rfl⟩) (fun r_38 h_39 H_40 hp_42  hH z_41 => ?_)
      have hz : s.heap.size ≤ H_40.size := Nat.le_trans hz z_41
      obtain ⟨c_43, xp_44, rfl⟩ := hp_42
      refine lv_if_eq (tgt := 58) hx hb d_Ns_levelsOf_34 (by decide) (fun hc_45 => ?_) (fun hc_45 => ?_)
      · skip
        have ic_46 : r_38.toInt = 0 := congrArg Int32.toInt hc_45
        obtain ⟨j_47, e_48⟩ : ∃ z : Int32, z = i9 + 1 := ⟨_, rfl⟩
        refine lv_iinc (v := j_47) (lv' := [(3, .int j_47), (0, .ref P9), (1, .ref d9), (2, .int lv9)]) hx hb d_Ns_levelsOf_58 hl (k := 3) rfl e_48.symm (by decide) rfl (fun ls hl => ?_)
        refine lv_goto (tgt := 4) hx hb d_Ns_levelsOf_61 (by decide) ?_
        have is_49 : j_47.toInt = i9.toInt + 1 := by rw [e_48]; exact iAddK 1 rfl (by omega) (by omega)
        exact ih4 (mU j_47) ls _ locs _ (by rw [hk4]; exact mU_lt (by omega)) ⟨lv9, j_47, rfl, (lv_sub hl [1, 2, 3, 0] rfl), hH, hz, hLo, rfl, (by omega)⟩
      · skip
        refine lv_iload_n hx hb d_Ns_levelsOf_37 rfl (lv_at hl 2 rfl) ?_
        refine lv_aload_n hx hb d_Ns_levelsOf_38 rfl (lv_at hl 0 rfl) ?_
        refine hm_get (ci := 2) (v := .ref v_1) (C := R_Ns) (T := F_Ns) (N := 4) hx hb hts ig_Ns hown hK hH F_P9 rfl 0 (by decide) (hts _ mw_129) (fun _ h9 => h9) rfl d_Ns_levelsOf_39 ?_
        refine lv_iload_n hx hb d_Ns_levelsOf_42 rfl (lv_at hl 3 rfl) ?_
        refine hm_aald (v := .ref a_15) hx hb hK hH 4 F_v_1 (C := R_No) rfl (iIn (by omega) (by omega)) (by rw [e_16]; rfl) d_Ns_levelsOf_43 ?_
        refine hm_callPi (va_runV (As := []) (b := a_15) (rest := [.int lv9]) ⟨hx, hb, hml, hown, hts⟩ (t_depth l D t G ak av h τ n f a_15  hn hT T_17 (hTr a_15 ⟨i9.toNatClampNeg, iClt I_i9 (by omega), e_16⟩).1) ⟨cw9B 0 hts mw_143 mw_144 mw_106 rfl rfl (by decide +kernel) ⟨Nat.le_of_ble_eq_true rfl, Nat.le_of_ble_eq_true rfl⟩, hts _ mw_145, hts _ mw_146⟩ (hP_V (q := (R_No, F_No, 11)) kE_ok hE hK hH F_a_15 rfl) rfl rfl hl.1 rfl (lv_room (Nat.le_of_ble_eq_true rfl)) d_Ns_levelsOf_44 ⟨Nat.le_of_ble_eq_true rfl, Nat.le_of_ble_eq_true rfl⟩) (fun r_50 h_51 H_52 hp_54  hH z_53 => ?_)
        have hz : s.heap.size ≤ H_52.size := Nat.le_trans hz z_53
        obtain rfl := hp_54
        refine lv_aload_n hx hb d_Ns_levelsOf_47 rfl (lv_at hl 1 rfl) ?_
        obtain ⟨v_56, v_57, v_59, v_61, v_62, v_64, v_65, v_66, v_68, v_69, v_70, F_d9, c_58, c_60, c_63, c_67⟩ := TI_node hT T_d9
        refine hm_callPi (va_runV (As := []) (b := d9) (rest := [.int r_50, .int lv9]) ⟨hx, hb, hml, hown, hts⟩ (t_depth l D t G ak av h τ n f d9  hn hT T_d9 hC) ⟨cw9B 0 hts mw_143 mw_144 mw_106 rfl rfl (by decide +kernel) ⟨Nat.le_of_ble_eq_true rfl, Nat.le_of_ble_eq_true rfl⟩, hts _ mw_145, hts _ mw_146⟩ (hP_V (q := (R_No, F_No, 11)) kE_ok hE hK hH F_d9 rfl) rfl rfl hl.1 rfl (lv_room (Nat.le_of_ble_eq_true rfl)) d_Ns_levelsOf_48 ⟨Nat.le_of_ble_eq_true rfl, Nat.le_of_ble_eq_true rfl⟩) (fun r_71 h_72 H_73 hp_75  hH z_74 => ?_)
        have hz : s.heap.size ≤ H_73.size := Nat.le_trans hz z_74
        obtain rfl := hp_75
        refine lv_isub hx hb d_Ns_levelsOf_51 ?_
        refine lv_iconst (v := 1) hx hb d_Ns_levelsOf_52 (by decide) ?_
        refine lv_iadd hx hb d_Ns_levelsOf_53 ?_
        refine va_mmax (x := lv9) (y := (r_50 - r_71) + 1) hx hb (hml.trans hl.1.symm) hown (hts _ mw_147) (hts _ mw_148) (hts _ mw_149) (hts _ mw_150) (Nat.le_of_ble_eq_true rfl) (Nat.le_of_ble_eq_true rfl) (Nat.le_of_ble_eq_true rfl) (Nat.le_of_ble_eq_true rfl) d_Ns_levelsOf_54 ?_
        refine lv_topi (fun v_77 e_78 => ?_)
        refine lv_istore_n (lv' := [(2, .int v_77), (0, .ref P9), (1, .ref d9), (3, .int i9)]) hx hb d_Ns_levelsOf_57 rfl hl (by decide) rfl (fun ls hl => ?_)
        obtain ⟨j_79, e_80⟩ : ∃ z : Int32, z = i9 + 1 := ⟨_, rfl⟩
        refine lv_iinc (v := j_79) (lv' := [(3, .int j_79), (2, .int v_77), (0, .ref P9), (1, .ref d9)]) hx hb d_Ns_levelsOf_58 hl (k := 3) rfl e_80.symm (by decide) rfl (fun ls hl => ?_)
        refine lv_goto (tgt := 4) hx hb d_Ns_levelsOf_61 (by decide) ?_
        have is_81 : j_79.toInt = i9.toInt + 1 := by rw [e_80]; exact iAddK 1 rfl (by omega) (by omega)
        exact ih4 (mU j_79) ls _ locs _ (by rw [hk4]; exact mU_lt (by omega)) ⟨v_77, j_79, rfl, (lv_sub hl [2, 3, 1, 0] rfl), hH, hz, hLo, rfl, (by omega)⟩

set_option maxHeartbeats 4000000 in
set_option maxRecDepth 100000 in
theorem t_append (l : Launch) (D : va_G) (t : Nat → ClassId) (G : hG) (ak av : Nat → Nat) (h : hM) (τ : tM) (n f : Nat) (P9 : Nat) (hn : n ≤ 200) (hT : TI τ t n h) (T_P9 : τ P9 = (7, f)) : Met l y_Ns_append (.code y_Ns_append b_Ns_append 2 (some (.object "WriteOnceDisc$Node")) :: lw_g) { frames := 0, cells := 0, slots := 0, locals := 0 } (hP (kE D t G ak av) D vwCl G h [.ref P9]) (hQr D vwCl G (fun r h' => (∀ q, r = some q → τ q = (10, f)) ∧ TI τ t n h' ∧ kf τ [(10, f)] [P9] h h' ∧ apnP τ t h h' P9 r)) 0 0 G.P := by
  refine Met.ofW (cc := b_Ns_append) (maxL := 2) (ret := (some (.object "WriteOnceDisc$Node"))) (by decide) rfl ?_
  intro p e s m args below meth c s₁ Bd hml hv
  obtain ⟨ha, hE, hH⟩ := hv
  have hx := Bd.exec
  have hb := Bd.bytes
  have hr := Bd.returns
  have hts : ∀ w ∈ lw_g, w.before args s = true := fun w hw => atoms_spec (ws := (.code y_Ns_append b_Ns_append 2 (some (.object "WriteOnceDisc$Node")) :: lw_g)) Bd.pre w (List.mem_cons_of_mem _ hw)
  have hown : s.vm.findClass R_Ns = some m.cls := findClass_of_methodNamed Bd.named
  have hlocks := Bd.notSynchronized
  have hK := hE.1
  have hH0 := hH
  have hLo : hLc G.P [] := hLc_nil
  have hz : s.heap.size ≤ s.heap.size := Nat.le_refl _
  have hl := lv_entry [.ref P9] (n := 2) (Nat.le_of_ble_eq_true rfl)
  rw [show entryFrame m args 2 = F0 m 0 ((lg_sl [.ref P9] ++ List.replicate (2 - (lg_sl [.ref P9]).length) Slot.unset).toArray) [] from (by rw [ha]; exact lg_entry_eq m [.ref P9] 2)]
  generalize (lg_sl [.ref P9] ++ List.replicate (2 - (lg_sl [.ref P9]).length) Slot.unset).toArray = ls at hl ⊢
  have hl : lv_has ls 2 [(0, .ref P9)] := hl
  have hkf : kf τ [(10, f)] [P9] h h := kf_rf
  obtain ⟨v_1, v_3, v_5, v_7, F_P9, c_2, c_4, c_6⟩ := TI_nds hT T_P9
  obtain ⟨g_8, F_v_1, c_9, c_10⟩ := TI_slo hT c_2
  have O_N : Nds t h P9 v_1 v_3 v_5 v_7 g_8 := ⟨F_P9, F_v_1⟩
  refine lv_aload_n hx hb d_Ns_append_0 rfl (lv_at hl 0 rfl) ?_
  refine hm_get (ci := 2) (v := .int v_5) (C := R_Ns) (T := F_Ns) (N := 4) hx hb hts ig_Ns hown hK hH F_P9 rfl 2 (by decide) (hts _ mw_128) (fun _ h9 => h9) rfl d_Ns_append_1 ?_
  refine lv_aload_n hx hb d_Ns_append_4 rfl (lv_at hl 0 rfl) ?_
  refine hm_get (ci := 2) (v := .ref v_1) (C := R_Ns) (T := F_Ns) (N := 4) hx hb hts ig_Ns hown hK hH F_P9 rfl 0 (by decide) (hts _ mw_129) (fun _ h9 => h9) rfl d_Ns_append_5 ?_
  refine hm_alen (v := 30) hx hb hK hH 4 F_v_1 (ty := (.object "WriteOnceDisc$Node")) rfl (show Int32.ofNat 30 = 30 by decide) d_Ns_append_8 ?_
  refine lv_icmp_lt (tgt := 14) hx hb d_Ns_append_9 (by decide) (fun hc_11 => ?_) (fun hc_11 => ?_)
  · skip
    have ic_12 : v_5.toInt < 30 := iLt hc_11
    refine lv_aload_n hx hb d_Ns_append_14 rfl (lv_at hl 0 rfl) ?_
    refine hm_get (ci := 2) (v := .ref v_1) (C := R_Ns) (T := F_Ns) (N := 4) hx hb hts ig_Ns hown hK hH F_P9 rfl 0 (by decide) (hts _ mw_129) (fun _ h9 => h9) rfl d_Ns_append_15 ?_
    refine lv_aload_n hx hb d_Ns_append_18 rfl (lv_at hl 0 rfl) ?_
    refine hm_get (ci := 2) (v := .int v_5) (C := R_Ns) (T := F_Ns) (N := 4) hx hb hts ig_Ns hown hK hH F_P9 rfl 2 (by decide) (hts _ mw_128) (fun _ h9 => h9) rfl d_Ns_append_19 ?_
    obtain ⟨a_13, e_14, T_15⟩ := c_9 v_5.toNatClampNeg (iCl (by omega) (by omega))
    refine hm_aald (v := .ref a_13) hx hb hK hH 4 F_v_1 (C := R_No) rfl (iIn (by omega) (by omega)) (by rw [e_14]; rfl) d_Ns_append_22 ?_
    refine lv_astore_n (lv' := [(1, .ref a_13), (0, .ref P9)]) hx hb d_Ns_append_23 rfl hl (by decide) rfl (fun ls hl => ?_)
    obtain ⟨v_16, v_17, v_19, v_21, v_22, v_24, v_25, v_26, v_28, v_29, v_30, F_a_13, c_18, c_20, c_23, c_27⟩ := TI_node hT T_15
    have O_a := F_a_13
    refine lv_aload_n hx hb d_Ns_append_24 rfl (lv_at hl 0 rfl) ?_
    refine lv_aload_n hx hb d_Ns_append_25 rfl (lv_at hl 1 rfl) ?_
    refine hm_get (ci := 2) (v := .int v_7) (C := R_Ns) (T := F_Ns) (N := 4) hx hb hts ig_Ns hown hK hH F_P9 rfl 3 (by decide) (hts _ mw_151) (fun _ h9 => h9) rfl d_Ns_append_26 ?_
    refine hm_put (ci := 1) (v := .int v_7) (ty := .int) (C := R_No) (T := F_No) (N := 11) hx hb hts ig_No t_No tk_No nm_No hown hK hH hLo F_a_13 rfl 0 (by decide) (hts _ mw_130) (fun _ h9 => h9) rfl (by decide +kernel) rfl rfl (Nat.le_of_ble_eq_true rfl) d_Ns_append_29 (fun H_31 locs hH z_32 hLo => ?_)
    have hz : s.heap.size ≤ H_31.size := by rw [z_32]; exact hz
    obtain ⟨h_33, e_34⟩ : ∃ z, z = hu h a_13 (.inr (1, [.int v_7, va_rf v_17, .int v_19, .long v_21, .int v_22, .int v_24, .int v_25, .int v_26, .int v_28, .int v_29, .int v_30])) := ⟨_, rfl⟩
    have hH : hm D vwCl G h_33 H_31 := by rw [e_34]; exact hH
    have F_P9 : h_33 P9 = some (.inr (2, [.ref v_1, .ref v_3, .int v_5, .int v_7])) := by rw [e_34, hu_n (tne T_P9 T_15 (by decide))]; exact F_P9
    have F_v_1 : h_33 v_1 = some (.inl ((t 4), 30, .inr (.inr (.inr (.inr g_8))))) := by rw [e_34, hu_n (tne c_2 T_15 (by decide))]; exact F_v_1
    have F_a_13 : h_33 a_13 = some (.inr (1, [.int v_7, va_rf v_17, .int v_19, .long v_21, .int v_22, .int v_24, .int v_25, .int v_26, .int v_28, .int v_29, .int v_30])) := by rw [e_34]; exact hu_s _ _ _
    have hT : TI τ t n h_33 := by rw [e_34]; exact TI_put hT T_15 (by decide) ⟨v_7, v_17, v_19, v_21, v_22, v_24, v_25, v_26, v_28, v_29, v_30, rfl, c_18, c_20, c_23, c_27⟩
    have hkf : kf τ [(10, f)] [P9] h h_33 := by rw [e_34]; exact kf_put hkf T_15 List.mem_cons_self
    refine lv_aload_n hx hb d_Ns_append_32 rfl (lv_at hl 1 rfl) ?_
    refine lv_dup hx hb d_Ns_append_33 rfl ?_
    refine hm_get (ci := 2) (v := .int v_5) (C := R_Ns) (T := F_Ns) (N := 4) hx hb hts ig_Ns hown hK hH F_P9 rfl 2 (by decide) (hts _ mw_128) (fun _ h9 => h9) rfl d_Ns_append_34 ?_
    refine lv_iconst (v := 1) hx hb d_Ns_append_37 (by decide) ?_
    refine lv_iadd hx hb d_Ns_append_38 ?_
    have is_35 : (v_5 + 1).toInt = v_5.toInt + 1 := iAddK 1 rfl (by omega) (by omega)
    refine hm_put (ci := 2) (v := .int (v_5 + 1)) (ty := .int) (C := R_Ns) (T := F_Ns) (N := 4) hx hb hts ig_Ns t_Ns tk_Ns nm_Ns hown hK hH hLo F_P9 rfl 2 (by decide) (hts _ mw_128) (fun _ h9 => h9) rfl (by decide +kernel) rfl rfl (Nat.le_of_ble_eq_true rfl) d_Ns_append_39 (fun H_36 locs hH z_37 hLo => ?_)
    have hz : s.heap.size ≤ H_36.size := by rw [z_37]; exact hz
    obtain ⟨h_38, e_39⟩ : ∃ z, z = hu h_33 P9 (.inr (2, [.ref v_1, .ref v_3, .int (v_5 + 1), .int v_7])) := ⟨_, rfl⟩
    have hH : hm D vwCl G h_38 H_36 := by rw [e_39]; exact hH
    have F_v_1 : h_38 v_1 = some (.inl ((t 4), 30, .inr (.inr (.inr (.inr g_8))))) := by rw [e_39, hu_n (tne c_2 T_P9 (by decide))]; exact F_v_1
    have F_a_13 : h_38 a_13 = some (.inr (1, [.int v_7, va_rf v_17, .int v_19, .long v_21, .int v_22, .int v_24, .int v_25, .int v_26, .int v_28, .int v_29, .int v_30])) := by rw [e_39, hu_n (tne T_15 T_P9 (by decide))]; exact F_a_13
    have F_P9 : h_38 P9 = some (.inr (2, [.ref v_1, .ref v_3, .int (v_5 + 1), .int v_7])) := by rw [e_39]; exact hu_s _ _ _
    have hT : TI τ t n h_38 := by rw [e_39]; exact TI_put hT T_P9 (by decide) ⟨v_1, v_3, v_5 + 1, v_7, rfl, c_2, c_4, ⟨by omega, by omega⟩⟩
    have hkf : kf τ [(10, f)] [P9] h h_38 := by rw [e_39]; exact kf_putM hkf (by simp)
    refine lv_aload_n hx hb d_Ns_append_42 rfl (lv_at hl 1 rfl) ?_
    refine lv_dup hx hb d_Ns_append_43 rfl ?_
    refine hm_get (ci := 2) (v := .int v_7) (C := R_Ns) (T := F_Ns) (N := 4) hx hb hts ig_Ns hown hK hH F_P9 rfl 3 (by decide) (hts _ mw_151) (fun _ h9 => h9) rfl d_Ns_append_44 ?_
    refine lv_iconst (v := 1) hx hb d_Ns_append_47 (by decide) ?_
    refine lv_iadd hx hb d_Ns_append_48 ?_
    refine hm_put (ci := 2) (v := .int (v_7 + 1)) (ty := .int) (C := R_Ns) (T := F_Ns) (N := 4) hx hb hts ig_Ns t_Ns tk_Ns nm_Ns hown hK hH hLo F_P9 rfl 3 (by decide) (hts _ mw_151) (fun _ h9 => h9) rfl (by decide +kernel) rfl rfl (Nat.le_of_ble_eq_true rfl) d_Ns_append_49 (fun H_40 locs hH z_41 hLo => ?_)
    have hz : s.heap.size ≤ H_40.size := by rw [z_41]; exact hz
    obtain ⟨h_42, e_43⟩ : ∃ z, z = hu h_38 P9 (.inr (2, [.ref v_1, .ref v_3, .int (v_5 + 1), .int (v_7 + 1)])) := ⟨_, rfl⟩
    have hH : hm D vwCl G h_42 H_40 := by rw [e_43]; exact hH
    have F_v_1 : h_42 v_1 = some (.inl ((t 4), 30, .inr (.inr (.inr (.inr g_8))))) := by rw [e_43, hu_n (tne c_2 T_P9 (by decide))]; exact F_v_1
    have F_a_13 : h_42 a_13 = some (.inr (1, [.int v_7, va_rf v_17, .int v_19, .long v_21, .int v_22, .int v_24, .int v_25, .int v_26, .int v_28, .int v_29, .int v_30])) := by rw [e_43, hu_n (tne T_15 T_P9 (by decide))]; exact F_a_13
    have F_P9 : h_42 P9 = some (.inr (2, [.ref v_1, .ref v_3, .int (v_5 + 1), .int (v_7 + 1)])) := by rw [e_43]; exact hu_s _ _ _
    have hT : TI τ t n h_42 := by rw [e_43]; exact TI_put hT T_P9 (by decide) ⟨v_1, v_3, v_5 + 1, v_7 + 1, rfl, c_2, c_4, ⟨by omega, by omega⟩⟩
    have hkf : kf τ [(10, f)] [P9] h h_42 := by rw [e_43]; exact kf_putM hkf (by simp)
    refine lv_aload_n hx hb d_Ns_append_52 rfl (lv_at hl 0 rfl) ?_
    have W_P9 := F_P9
    have W_a := F_a_13
    exact W.aret (v := va_rf (some a_13)) hx hb hr (Or.inl ⟨_, rfl⟩) (va_rf_or _) (fun t9 ht hW => ⟨some a_13, h_42, rfl, ⟨(fun _ h9 => by cases h9; exact T_15), hT, hkf, (fun s o c nn sl hq => Or.inr (by
      obtain ⟨rfl, rfl, rfl, rfl, rfl⟩ := Nds_eq hq O_N
      exact ⟨a_13, rfl, by omega, e_14, W_P9, ⟨_, _, nod_of O_a, nod_of W_a⟩, fun b hb h1 h2 => by rw [e_43, hu_n h2, e_39, hu_n h2, e_34, hu_n h1]⟩))⟩, by rw [ht]; exact hH, by rw [ht]; exact hz⟩) hLo d_Ns_append_53
  · skip
    have ic_44 : 30 ≤ v_5.toInt := iNl hc_11
    refine lv_null hx hb d_Ns_append_12 ?_
    exact W.aret (v := va_rf (none)) hx hb hr (Or.inl ⟨_, rfl⟩) (va_rf_or _) (fun t9 ht hW => ⟨none, h, rfl, ⟨(fun _ h9 => by cases h9), hT, hkf, (fun s o c nn sl hq => Or.inl ⟨rfl, rfl, by obtain ⟨-, -, rfl, -, -⟩ := Nds_eq hq ⟨F_P9, F_v_1⟩; omega⟩)⟩, by rw [ht]; exact hH, by rw [ht]; exact hz⟩) hLo d_Ns_append_13
