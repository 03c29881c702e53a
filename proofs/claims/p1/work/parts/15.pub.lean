set_option maxRecDepth 100000 in
theorem mw_286 : Cond.code y_Me_takesDefect b_Me_takesDefect 2 (some .boolean) ∈ lw_g := lw_gin (List.mem_append_right _ (List.mem_of_getElem? (i := 271) rfl)) (by decide +kernel)
set_option maxRecDepth 100000 in
theorem mw_287 : Cond.methodLink R_Di 56 y_Me_takesDefect ∈ lw_g := lw_gin (List.mem_append_right _ (List.mem_of_getElem? (i := 268) rfl)) (by decide +kernel)
set_option maxRecDepth 100000 in
theorem mw_288 : Cond.instanceMethod y_Me_takesDefect ∈ lw_g := lw_gin (List.mem_append_right _ (List.mem_of_getElem? (i := 269) rfl)) (by decide +kernel)
set_option maxRecDepth 100000 in
theorem mw_289 : Cond.selects R_Me y_Me_takesDefect y_Me_takesDefect ∈ lw_g := lw_gin (List.mem_append_right _ (List.mem_of_getElem? (i := 270) rfl)) (by decide +kernel)
set_option maxRecDepth 100000 in
theorem mw_290 : Cond.fieldLink R_Di 60 "WriteOnceDisc$Writer" "supply" "LWriteOnceDisc$Power;" ∈ lw_g := lw_gin (List.mem_append_right _ (List.mem_of_getElem? (i := 69) rfl)) (by decide +kernel)
set_option maxRecDepth 100000 in
theorem mw_291 : Cond.fieldLink R_Di 64 "WriteOnceDisc$Power" "left" "I" ∈ lw_g := lw_gin (List.mem_append_right _ (List.mem_of_getElem? (i := 43) rfl)) (by decide +kernel)
set_option maxRecDepth 100000 in
theorem mw_292 : Cond.fieldLink R_Di 195 "WriteOnceDisc$Power" "spent" "I" ∈ lw_g := lw_gin (List.mem_append_right _ (List.mem_of_getElem? (i := 47) rfl)) (by decide +kernel)
set_option maxRecDepth 100000 in
theorem mw_293 : Cond.methodLink R_Di 180 y_Me_has ∈ lw_g := lw_gin (List.mem_append_right _ (List.mem_of_getElem? (i := 768) rfl)) (by decide +kernel)
set_option maxRecDepth 100000 in
theorem mw_294 : Cond.fieldLink R_Di 166 "WriteOnceDisc$Medium" "sectors" "[LWriteOnceDisc$Sector;" ∈ lw_g := lw_gin (List.mem_append_right _ (List.mem_of_getElem? (i := 227) rfl)) (by decide +kernel)
set_option maxRecDepth 100000 in
theorem mw_295 : Cond.fieldLink R_Di 183 "WriteOnceDisc$Sector" "condition" "I" ∈ lw_g := lw_gin (List.mem_append_right _ (List.mem_of_getElem? (i := 212) rfl)) (by decide +kernel)
set_option maxRecDepth 100000 in
theorem mw_296 : Cond.code y_Me_fetch b_Me_fetch 4 (some .int) ∈ lw_g := lw_gin (List.mem_append_right _ (List.mem_of_getElem? (i := 618) rfl)) (by decide +kernel)
set_option maxRecDepth 100000 in
theorem mw_297 : Cond.methodLink R_Di 188 y_Me_fetch ∈ lw_g := lw_gin (List.mem_append_right _ (List.mem_of_getElem? (i := 773) rfl)) (by decide +kernel)
set_option maxRecDepth 100000 in
theorem mw_298 : Cond.instanceMethod y_Me_fetch ∈ lw_g := lw_gin (List.mem_append_right _ (List.mem_of_getElem? (i := 616) rfl)) (by decide +kernel)
set_option maxRecDepth 100000 in
theorem mw_299 : Cond.selects R_Me y_Me_fetch y_Me_fetch ∈ lw_g := lw_gin (List.mem_append_right _ (List.mem_of_getElem? (i := 617) rfl)) (by decide +kernel)
set_option maxRecDepth 100000 in
theorem mw_300 : Cond.methodLink R_Me 65 y_Me_fetch ∈ lw_g := lw_gin (List.mem_append_right _ (List.mem_of_getElem? (i := 615) rfl)) (by decide +kernel)
set_option maxRecDepth 100000 in
theorem mw_301 : Cond.code y_Me_isWritten b_Me_isWritten 2 (some .boolean) ∈ lw_g := lw_gin (List.mem_append_right _ (List.mem_of_getElem? (i := 417) rfl)) (by decide +kernel)
set_option maxRecDepth 100000 in
theorem mw_302 : Cond.methodLink R_Me 56 y_Me_isWritten ∈ lw_g := lw_gin (List.mem_append_right _ (List.mem_of_getElem? (i := 414) rfl)) (by decide +kernel)
set_option maxRecDepth 100000 in
theorem mw_303 : Cond.instanceMethod y_Me_isWritten ∈ lw_g := lw_gin (List.mem_append_right _ (List.mem_of_getElem? (i := 415) rfl)) (by decide +kernel)
set_option maxRecDepth 100000 in
theorem mw_304 : Cond.selects R_Me y_Me_isWritten y_Me_isWritten ∈ lw_g := lw_gin (List.mem_append_right _ (List.mem_of_getElem? (i := 416) rfl)) (by decide +kernel)
set_option maxRecDepth 100000 in
theorem mw_305 : Cond.code y_Me_change b_Me_change 5 (some .int) ∈ lw_g := lw_gin (List.mem_append_right _ (List.mem_of_getElem? (i := 781) rfl)) (by decide +kernel)
set_option maxRecDepth 100000 in
theorem mw_306 : Cond.methodLink R_Di 191 y_Me_change ∈ lw_g := lw_gin (List.mem_append_right _ (List.mem_of_getElem? (i := 778) rfl)) (by decide +kernel)
set_option maxRecDepth 100000 in
theorem mw_307 : Cond.instanceMethod y_Me_change ∈ lw_g := lw_gin (List.mem_append_right _ (List.mem_of_getElem? (i := 779) rfl)) (by decide +kernel)
set_option maxRecDepth 100000 in
theorem mw_308 : Cond.selects R_Me y_Me_change y_Me_change ∈ lw_g := lw_gin (List.mem_append_right _ (List.mem_of_getElem? (i := 780) rfl)) (by decide +kernel)
set_option maxRecDepth 100000 in
theorem mw_309 : Cond.code y_Me_sectorOfMark b_Me_sectorOfMark 4 (some .int) ∈ lw_g := lw_gin (List.mem_append_right _ (List.mem_of_getElem? (i := 793) rfl)) (by decide +kernel)
set_option maxRecDepth 100000 in
theorem mw_310 : Cond.methodLink R_Di 198 y_Me_sectorOfMark ∈ lw_g := lw_gin (List.mem_append_right _ (List.mem_of_getElem? (i := 790) rfl)) (by decide +kernel)
set_option maxRecDepth 100000 in
theorem mw_311 : Cond.instanceMethod y_Me_sectorOfMark ∈ lw_g := lw_gin (List.mem_append_right _ (List.mem_of_getElem? (i := 791) rfl)) (by decide +kernel)
set_option maxRecDepth 100000 in
theorem mw_312 : Cond.selects R_Me y_Me_sectorOfMark y_Me_sectorOfMark ∈ lw_g := lw_gin (List.mem_append_right _ (List.mem_of_getElem? (i := 792) rfl)) (by decide +kernel)
set_option maxRecDepth 100000 in
theorem mw_313 : Cond.constant R_Di 204 (-1000000) ∈ lw_g := lw_gin (List.mem_append_right _ (List.mem_of_getElem? (i := 795) rfl)) (by decide +kernel)
set_option maxRecDepth 100000 in
theorem mw_314 : Cond.fieldLink R_Di 69 "WriteOnceDisc$Power" "isLost" "Z" ∈ lw_g := lw_gin (List.mem_append_right _ (List.mem_of_getElem? (i := 45) rfl)) (by decide +kernel)
set_option maxRecDepth 100000 in
theorem mw_315 : Cond.methodLink R_Di 90 y_Ns_nodeOf ∈ lw_g := lw_gin (List.mem_append_right _ (List.mem_of_getElem? (i := 333) rfl)) (by decide +kernel)
set_option maxRecDepth 100000 in
theorem mw_316 : Cond.fieldLink R_Di 97 "WriteOnceDisc$Node" "isDirectory" "Z" ∈ lw_g := lw_gin (List.mem_append_right _ (List.mem_of_getElem? (i := 101) rfl)) (by decide +kernel)
set_option maxRecDepth 100000 in
theorem mw_317 : Cond.fieldLink R_Di 100 "WriteOnceDisc$Node" "parent" "LWriteOnceDisc$Node;" ∈ lw_g := lw_gin (List.mem_append_right _ (List.mem_of_getElem? (i := 96) rfl)) (by decide +kernel)
set_option maxRecDepth 100000 in
theorem mw_318 : Cond.code y_Ns_directoryOf b_Ns_directoryOf 3 (some (.object "WriteOnceDisc$Node")) ∈ lw_g := lw_gin (List.mem_append_right _ (List.mem_of_getElem? (i := 287) rfl)) (by decide +kernel)
set_option maxRecDepth 100000 in
theorem mw_319 : Cond.methodLink R_Di 72 y_Ns_directoryOf ∈ lw_g := lw_gin (List.mem_append_right _ (List.mem_of_getElem? (i := 284) rfl)) (by decide +kernel)
set_option maxRecDepth 100000 in
theorem mw_320 : Cond.instanceMethod y_Ns_directoryOf ∈ lw_g := lw_gin (List.mem_append_right _ (List.mem_of_getElem? (i := 285) rfl)) (by decide +kernel)
set_option maxRecDepth 100000 in
theorem mw_321 : Cond.selects R_Ns y_Ns_directoryOf y_Ns_directoryOf ∈ lw_g := lw_gin (List.mem_append_right _ (List.mem_of_getElem? (i := 286) rfl)) (by decide +kernel)
set_option maxRecDepth 100000 in
theorem mw_322 : Cond.code y_Di_nameIn b_Di_nameIn 6 (some .long) ∈ lw_g := lw_gin (List.mem_append_right _ (List.mem_of_getElem? (i := 302) rfl)) (by decide +kernel)
set_option maxRecDepth 100000 in
theorem mw_323 : Cond.methodLink R_Di 112 y_Di_nameIn ∈ lw_g := lw_gin (List.mem_append_right _ (List.mem_of_getElem? (i := 300) rfl)) (by decide +kernel)
set_option maxRecDepth 100000 in
theorem mw_324 : Cond.static y_Di_nameIn ∈ lw_g := lw_gin (List.mem_append_right _ (List.mem_of_getElem? (i := 301) rfl)) (by decide +kernel)
theorem d_Me_takesDefect_0 : decode b_Me_takesDefect 0 = .ok (.aload_n 0, 1) := by decide +kernel
theorem d_Me_takesDefect_1 : decode b_Me_takesDefect 1 = .ok (.iload_n 1, 1) := by decide +kernel
theorem d_Me_takesDefect_2 : decode b_Me_takesDefect 2 = .ok (.invokevirtual 28, 3) := by decide +kernel
theorem d_Me_takesDefect_5 : decode b_Me_takesDefect 5 = .ok (.ifCond .ne 5, 3) := by decide +kernel
theorem d_Me_takesDefect_10 : decode b_Me_takesDefect 10 = .ok (.aload_n 0, 1) := by decide +kernel
theorem d_Me_takesDefect_11 : decode b_Me_takesDefect 11 = .ok (.getfield 17, 3) := by decide +kernel
theorem d_Me_takesDefect_14 : decode b_Me_takesDefect 14 = .ok (.iload_n 1, 1) := by decide +kernel
theorem d_Me_takesDefect_15 : decode b_Me_takesDefect 15 = .ok (.aaload, 1) := by decide +kernel
theorem d_Me_takesDefect_16 : decode b_Me_takesDefect 16 = .ok (.getfield 25, 3) := by decide +kernel
theorem d_Me_takesDefect_19 : decode b_Me_takesDefect 19 = .ok (.ifCond .ne 13, 3) := by decide +kernel
theorem d_Me_takesDefect_22 : decode b_Me_takesDefect 22 = .ok (.aload_n 0, 1) := by decide +kernel
theorem d_Me_takesDefect_23 : decode b_Me_takesDefect 23 = .ok (.getfield 17, 3) := by decide +kernel
theorem d_Me_takesDefect_26 : decode b_Me_takesDefect 26 = .ok (.iload_n 1, 1) := by decide +kernel
theorem d_Me_takesDefect_27 : decode b_Me_takesDefect 27 = .ok (.aaload, 1) := by decide +kernel
theorem d_Me_takesDefect_28 : decode b_Me_takesDefect 28 = .ok (.iconst 1, 1) := by decide +kernel
theorem d_Me_takesDefect_29 : decode b_Me_takesDefect 29 = .ok (.putfield 32, 3) := by decide +kernel
theorem d_Me_takesDefect_32 : decode b_Me_takesDefect 32 = .ok (.iconst 1, 1) := by decide +kernel
theorem d_Me_takesDefect_33 : decode b_Me_takesDefect 33 = .ok (.ireturn, 1) := by decide +kernel
theorem d_Me_takesDefect_8 : decode b_Me_takesDefect 8 = .ok (.iconst 0, 1) := by decide +kernel
theorem d_Me_takesDefect_9 : decode b_Me_takesDefect 9 = .ok (.ireturn, 1) := by decide +kernel
theorem d_Di_defect_0 : decode b_Di_defect 0 = .ok (.aload_n 0, 1) := by decide +kernel
theorem d_Di_defect_1 : decode b_Di_defect 1 = .ok (.getfield 53, 3) := by decide +kernel
theorem d_Di_defect_4 : decode b_Di_defect 4 = .ok (.iload_n 1, 1) := by decide +kernel
theorem d_Di_defect_5 : decode b_Di_defect 5 = .ok (.invokevirtual 56, 3) := by decide +kernel
theorem d_Di_defect_8 : decode b_Di_defect 8 = .ok (.ireturn, 1) := by decide +kernel
theorem d_Di_power_0 : decode b_Di_power 0 = .ok (.aload_n 0, 1) := by decide +kernel
theorem d_Di_power_1 : decode b_Di_power 1 = .ok (.getfield 10, 3) := by decide +kernel
theorem d_Di_power_4 : decode b_Di_power 4 = .ok (.getfield 60, 3) := by decide +kernel
theorem d_Di_power_7 : decode b_Di_power 7 = .ok (.iload_n 1, 1) := by decide +kernel
theorem d_Di_power_8 : decode b_Di_power 8 = .ok (.ifCond .ge 7, 3) := by decide +kernel
theorem d_Di_power_15 : decode b_Di_power 15 = .ok (.iload_n 1, 1) := by decide +kernel
theorem d_Di_power_16 : decode b_Di_power 16 = .ok (.putfield 64, 3) := by decide +kernel
theorem d_Di_power_19 : decode b_Di_power 19 = .ok (.return_, 1) := by decide +kernel
theorem d_Di_power_11 : decode b_Di_power 11 = .ok (.iconst (-1), 1) := by decide +kernel
theorem d_Di_power_12 : decode b_Di_power 12 = .ok (.goto 4, 3) := by decide +kernel
theorem d_Di_writes_0 : decode b_Di_writes 0 = .ok (.aload_n 0, 1) := by decide +kernel
theorem d_Di_writes_1 : decode b_Di_writes 1 = .ok (.getfield 10, 3) := by decide +kernel
theorem d_Di_writes_4 : decode b_Di_writes 4 = .ok (.getfield 60, 3) := by decide +kernel
theorem d_Di_writes_7 : decode b_Di_writes 7 = .ok (.getfield 195, 3) := by decide +kernel
theorem d_Di_writes_10 : decode b_Di_writes 10 = .ok (.ireturn, 1) := by decide +kernel
theorem d_Di_state_0 : decode b_Di_state 0 = .ok (.aload_n 0, 1) := by decide +kernel
theorem d_Di_state_1 : decode b_Di_state 1 = .ok (.getfield 53, 3) := by decide +kernel
theorem d_Di_state_4 : decode b_Di_state 4 = .ok (.iload_n 1, 1) := by decide +kernel
theorem d_Di_state_5 : decode b_Di_state 5 = .ok (.invokevirtual 180, 3) := by decide +kernel
theorem d_Di_state_8 : decode b_Di_state 8 = .ok (.ifCond .eq 18, 3) := by decide +kernel
theorem d_Di_state_11 : decode b_Di_state 11 = .ok (.aload_n 0, 1) := by decide +kernel
theorem d_Di_state_12 : decode b_Di_state 12 = .ok (.getfield 53, 3) := by decide +kernel
theorem d_Di_state_15 : decode b_Di_state 15 = .ok (.getfield 166, 3) := by decide +kernel
theorem d_Di_state_18 : decode b_Di_state 18 = .ok (.iload_n 1, 1) := by decide +kernel
theorem d_Di_state_19 : decode b_Di_state 19 = .ok (.aaload, 1) := by decide +kernel
theorem d_Di_state_20 : decode b_Di_state 20 = .ok (.getfield 183, 3) := by decide +kernel
theorem d_Di_state_23 : decode b_Di_state 23 = .ok (.goto 4, 3) := by decide +kernel
theorem d_Di_state_27 : decode b_Di_state 27 = .ok (.ireturn, 1) := by decide +kernel
theorem d_Di_state_26 : decode b_Di_state 26 = .ok (.iconst (-1), 1) := by decide +kernel
theorem d_Me_fetch_0 : decode b_Me_fetch 0 = .ok (.iload_n 1, 1) := by decide +kernel
theorem d_Me_fetch_1 : decode b_Me_fetch 1 = .ok (.sipush 2048, 3) := by decide +kernel
theorem d_Me_fetch_4 : decode b_Me_fetch 4 = .ok (.idiv, 1) := by decide +kernel
theorem d_Me_fetch_5 : decode b_Me_fetch 5 = .ok (.istore_n 2, 1) := by decide +kernel
theorem d_Me_fetch_6 : decode b_Me_fetch 6 = .ok (.iload_n 1, 1) := by decide +kernel
theorem d_Me_fetch_7 : decode b_Me_fetch 7 = .ok (.ifCond .lt 12, 3) := by decide +kernel
theorem d_Me_fetch_19 : decode b_Me_fetch 19 = .ok (.iconst (-1), 1) := by decide +kernel
theorem d_Me_fetch_20 : decode b_Me_fetch 20 = .ok (.ireturn, 1) := by decide +kernel
theorem d_Me_fetch_10 : decode b_Me_fetch 10 = .ok (.iload_n 2, 1) := by decide +kernel
theorem d_Me_fetch_11 : decode b_Me_fetch 11 = .ok (.aload_n 0, 1) := by decide +kernel
theorem d_Me_fetch_12 : decode b_Me_fetch 12 = .ok (.getfield 17, 3) := by decide +kernel
theorem d_Me_fetch_15 : decode b_Me_fetch 15 = .ok (.arraylength, 1) := by decide +kernel
theorem d_Me_fetch_16 : decode b_Me_fetch 16 = .ok (.if_icmp .lt 5, 3) := by decide +kernel
theorem d_Me_fetch_21 : decode b_Me_fetch 21 = .ok (.aload_n 0, 1) := by decide +kernel
theorem d_Me_fetch_22 : decode b_Me_fetch 22 = .ok (.getfield 17, 3) := by decide +kernel
theorem d_Me_fetch_25 : decode b_Me_fetch 25 = .ok (.iload_n 2, 1) := by decide +kernel
theorem d_Me_fetch_26 : decode b_Me_fetch 26 = .ok (.aaload, 1) := by decide +kernel
theorem d_Me_fetch_27 : decode b_Me_fetch 27 = .ok (.astore_n 3, 1) := by decide +kernel
theorem d_Me_fetch_28 : decode b_Me_fetch 28 = .ok (.aload_n 3, 1) := by decide +kernel
theorem d_Me_fetch_29 : decode b_Me_fetch 29 = .ok (.getfield 25, 3) := by decide +kernel
theorem d_Me_fetch_32 : decode b_Me_fetch 32 = .ok (.iconst 1, 1) := by decide +kernel
theorem d_Me_fetch_33 : decode b_Me_fetch 33 = .ok (.if_icmp .ne 27, 3) := by decide +kernel
theorem d_Me_fetch_60 : decode b_Me_fetch 60 = .ok (.iconst 0, 1) := by decide +kernel
theorem d_Me_fetch_61 : decode b_Me_fetch 61 = .ok (.ireturn, 1) := by decide +kernel
theorem d_Di_byteAt_0 : decode b_Di_byteAt 0 = .ok (.aload_n 0, 1) := by decide +kernel
theorem d_Di_byteAt_1 : decode b_Di_byteAt 1 = .ok (.getfield 53, 3) := by decide +kernel
theorem d_Di_byteAt_4 : decode b_Di_byteAt 4 = .ok (.iload_n 1, 1) := by decide +kernel
theorem d_Di_byteAt_5 : decode b_Di_byteAt 5 = .ok (.invokevirtual 188, 3) := by decide +kernel
theorem d_Di_byteAt_8 : decode b_Di_byteAt 8 = .ok (.ireturn, 1) := by decide +kernel
theorem d_Me_isWritten_0 : decode b_Me_isWritten 0 = .ok (.iload_n 1, 1) := by decide +kernel
theorem d_Me_isWritten_1 : decode b_Me_isWritten 1 = .ok (.ifCond .lt 29, 3) := by decide +kernel
theorem d_Me_isWritten_30 : decode b_Me_isWritten 30 = .ok (.iconst 0, 1) := by decide +kernel
theorem d_Me_isWritten_31 : decode b_Me_isWritten 31 = .ok (.ireturn, 1) := by decide +kernel
theorem d_Me_isWritten_4 : decode b_Me_isWritten 4 = .ok (.iload_n 1, 1) := by decide +kernel
theorem d_Me_isWritten_5 : decode b_Me_isWritten 5 = .ok (.aload_n 0, 1) := by decide +kernel
theorem d_Me_isWritten_6 : decode b_Me_isWritten 6 = .ok (.getfield 17, 3) := by decide +kernel
theorem d_Me_isWritten_9 : decode b_Me_isWritten 9 = .ok (.arraylength, 1) := by decide +kernel
theorem d_Me_isWritten_10 : decode b_Me_isWritten 10 = .ok (.if_icmp .ge 20, 3) := by decide +kernel
theorem d_Me_isWritten_13 : decode b_Me_isWritten 13 = .ok (.aload_n 0, 1) := by decide +kernel
theorem d_Me_isWritten_14 : decode b_Me_isWritten 14 = .ok (.getfield 17, 3) := by decide +kernel
theorem d_Me_isWritten_17 : decode b_Me_isWritten 17 = .ok (.iload_n 1, 1) := by decide +kernel
theorem d_Me_isWritten_18 : decode b_Me_isWritten 18 = .ok (.aaload, 1) := by decide +kernel
theorem d_Me_isWritten_19 : decode b_Me_isWritten 19 = .ok (.getfield 25, 3) := by decide +kernel
theorem d_Me_isWritten_22 : decode b_Me_isWritten 22 = .ok (.iconst 1, 1) := by decide +kernel
theorem d_Me_isWritten_23 : decode b_Me_isWritten 23 = .ok (.if_icmp .ne 7, 3) := by decide +kernel
theorem d_Me_change_0 : decode b_Me_change 0 = .ok (.aload_n 0, 1) := by decide +kernel
theorem d_Me_change_1 : decode b_Me_change 1 = .ok (.iload_n 1, 1) := by decide +kernel
theorem d_Me_change_2 : decode b_Me_change 2 = .ok (.invokevirtual 65, 3) := by decide +kernel
theorem d_Me_change_5 : decode b_Me_change 5 = .ok (.istore_n 3, 1) := by decide +kernel
theorem d_Me_change_6 : decode b_Me_change 6 = .ok (.iload_n 1, 1) := by decide +kernel
theorem d_Me_change_7 : decode b_Me_change 7 = .ok (.sipush 2048, 3) := by decide +kernel
theorem d_Me_change_10 : decode b_Me_change 10 = .ok (.idiv, 1) := by decide +kernel
theorem d_Me_change_11 : decode b_Me_change 11 = .ok (.istore 4, 2) := by decide +kernel
theorem d_Me_change_13 : decode b_Me_change 13 = .ok (.iload_n 3, 1) := by decide +kernel
theorem d_Me_change_14 : decode b_Me_change 14 = .ok (.iconst (-1), 1) := by decide +kernel
theorem d_Me_change_15 : decode b_Me_change 15 = .ok (.if_icmp .eq 25, 3) := by decide +kernel
theorem d_Me_change_40 : decode b_Me_change 40 = .ok (.iconst (-1), 1) := by decide +kernel
theorem d_Me_change_41 : decode b_Me_change 41 = .ok (.ireturn, 1) := by decide +kernel
theorem d_Me_change_18 : decode b_Me_change 18 = .ok (.aload_n 0, 1) := by decide +kernel
theorem d_Me_change_19 : decode b_Me_change 19 = .ok (.iload 4, 2) := by decide +kernel
theorem d_Me_change_21 : decode b_Me_change 21 = .ok (.invokevirtual 56, 3) := by decide +kernel
theorem d_Me_change_24 : decode b_Me_change 24 = .ok (.ifCond .eq 16, 3) := by decide +kernel
theorem d_Di_spoil_0 : decode b_Di_spoil 0 = .ok (.aload_n 0, 1) := by decide +kernel
theorem d_Di_spoil_1 : decode b_Di_spoil 1 = .ok (.getfield 53, 3) := by decide +kernel
theorem d_Di_spoil_4 : decode b_Di_spoil 4 = .ok (.iload_n 1, 1) := by decide +kernel
theorem d_Di_spoil_5 : decode b_Di_spoil 5 = .ok (.iload_n 2, 1) := by decide +kernel
theorem d_Di_spoil_6 : decode b_Di_spoil 6 = .ok (.invokevirtual 191, 3) := by decide +kernel
theorem d_Di_spoil_9 : decode b_Di_spoil 9 = .ok (.ireturn, 1) := by decide +kernel
theorem d_Me_sectorOfMark_0 : decode b_Me_sectorOfMark 0 = .ok (.iconst 0, 1) := by decide +kernel
theorem d_Me_sectorOfMark_1 : decode b_Me_sectorOfMark 1 = .ok (.istore_n 2, 1) := by decide +kernel
theorem d_Me_sectorOfMark_2 : decode b_Me_sectorOfMark 2 = .ok (.iconst 0, 1) := by decide +kernel
theorem d_Me_sectorOfMark_3 : decode b_Me_sectorOfMark 3 = .ok (.istore_n 3, 1) := by decide +kernel
theorem d_Me_sectorOfMark_4 : decode b_Me_sectorOfMark 4 = .ok (.iload_n 3, 1) := by decide +kernel
theorem d_Me_sectorOfMark_5 : decode b_Me_sectorOfMark 5 = .ok (.aload_n 0, 1) := by decide +kernel
theorem d_Me_sectorOfMark_6 : decode b_Me_sectorOfMark 6 = .ok (.getfield 9, 3) := by decide +kernel
theorem d_Me_sectorOfMark_9 : decode b_Me_sectorOfMark 9 = .ok (.if_icmp .ge 27, 3) := by decide +kernel
theorem d_Me_sectorOfMark_36 : decode b_Me_sectorOfMark 36 = .ok (.iconst (-1), 1) := by decide +kernel
theorem d_Me_sectorOfMark_37 : decode b_Me_sectorOfMark 37 = .ok (.ireturn, 1) := by decide +kernel
theorem d_Di_open_0 : decode b_Di_open 0 = .ok (.aload_n 0, 1) := by decide +kernel
theorem d_Di_open_1 : decode b_Di_open 1 = .ok (.getfield 53, 3) := by decide +kernel
theorem d_Di_open_4 : decode b_Di_open 4 = .ok (.iload_n 1, 1) := by decide +kernel
theorem d_Di_open_5 : decode b_Di_open 5 = .ok (.invokevirtual 198, 3) := by decide +kernel
theorem d_Di_open_8 : decode b_Di_open 8 = .ok (.istore_n 2, 1) := by decide +kernel
theorem d_Di_open_9 : decode b_Di_open 9 = .ok (.iload_n 2, 1) := by decide +kernel
theorem d_Di_open_10 : decode b_Di_open 10 = .ok (.iconst (-1), 1) := by decide +kernel
theorem d_Di_open_11 : decode b_Di_open 11 = .ok (.if_icmp .ne 6, 3) := by decide +kernel
theorem d_Di_open_14 : decode b_Di_open 14 = .ok (.ldc 204, 2) := by decide +kernel
theorem d_Di_open_16 : decode b_Di_open 16 = .ok (.ireturn, 1) := by decide +kernel
theorem d_Di_replace_0 : decode b_Di_replace 0 = .ok (.aload_n 0, 1) := by decide +kernel
theorem d_Di_replace_1 : decode b_Di_replace 1 = .ok (.getfield 10, 3) := by decide +kernel
theorem d_Di_replace_4 : decode b_Di_replace 4 = .ok (.getfield 60, 3) := by decide +kernel
theorem d_Di_replace_7 : decode b_Di_replace 7 = .ok (.getfield 69, 3) := by decide +kernel
theorem d_Di_replace_10 : decode b_Di_replace 10 = .ok (.ifCond .eq 6, 3) := by decide +kernel
theorem d_Di_replace_16 : decode b_Di_replace 16 = .ok (.aload_n 0, 1) := by decide +kernel
theorem d_Di_replace_17 : decode b_Di_replace 17 = .ok (.getfield 26, 3) := by decide +kernel
theorem d_Di_replace_20 : decode b_Di_replace 20 = .ok (.iload_n 1, 1) := by decide +kernel
theorem d_Di_replace_21 : decode b_Di_replace 21 = .ok (.invokevirtual 90, 3) := by decide +kernel
theorem d_Di_replace_24 : decode b_Di_replace 24 = .ok (.astore 4, 2) := by decide +kernel
theorem d_Di_replace_26 : decode b_Di_replace 26 = .ok (.aload 4, 2) := by decide +kernel
theorem d_Di_replace_28 : decode b_Di_replace 28 = .ok (.ifnull 19, 3) := by decide +kernel
theorem d_Di_replace_31 : decode b_Di_replace 31 = .ok (.aload 4, 2) := by decide +kernel
theorem d_Di_replace_33 : decode b_Di_replace 33 = .ok (.getfield 97, 3) := by decide +kernel
theorem d_Di_replace_36 : decode b_Di_replace 36 = .ok (.ifCond .ne 11, 3) := by decide +kernel
theorem d_Di_replace_47 : decode b_Di_replace 47 = .ok (.bipush (-2), 2) := by decide +kernel
theorem d_Di_replace_49 : decode b_Di_replace 49 = .ok (.ireturn, 1) := by decide +kernel
theorem d_Di_remove_0 : decode b_Di_remove 0 = .ok (.aload_n 0, 1) := by decide +kernel
theorem d_Di_remove_1 : decode b_Di_remove 1 = .ok (.getfield 10, 3) := by decide +kernel
theorem d_Di_remove_4 : decode b_Di_remove 4 = .ok (.getfield 60, 3) := by decide +kernel
theorem d_Di_remove_7 : decode b_Di_remove 7 = .ok (.getfield 69, 3) := by decide +kernel
theorem d_Di_remove_10 : decode b_Di_remove 10 = .ok (.ifCond .eq 6, 3) := by decide +kernel
theorem d_Di_remove_16 : decode b_Di_remove 16 = .ok (.aload_n 0, 1) := by decide +kernel
theorem d_Di_remove_17 : decode b_Di_remove 17 = .ok (.getfield 26, 3) := by decide +kernel
theorem d_Di_remove_20 : decode b_Di_remove 20 = .ok (.iload_n 1, 1) := by decide +kernel
theorem d_Di_remove_21 : decode b_Di_remove 21 = .ok (.invokevirtual 90, 3) := by decide +kernel
theorem d_Di_remove_24 : decode b_Di_remove 24 = .ok (.astore_n 2, 1) := by decide +kernel
theorem d_Di_remove_25 : decode b_Di_remove 25 = .ok (.aload_n 2, 1) := by decide +kernel
theorem d_Di_remove_26 : decode b_Di_remove 26 = .ok (.ifnull 21, 3) := by decide +kernel
theorem d_Di_remove_29 : decode b_Di_remove 29 = .ok (.aload_n 2, 1) := by decide +kernel
theorem d_Di_remove_30 : decode b_Di_remove 30 = .ok (.getfield 100, 3) := by decide +kernel
theorem d_Di_remove_33 : decode b_Di_remove 33 = .ok (.ifnull 14, 3) := by decide +kernel
theorem d_Di_remove_47 : decode b_Di_remove 47 = .ok (.bipush (-2), 2) := by decide +kernel
theorem d_Di_remove_49 : decode b_Di_remove 49 = .ok (.ireturn, 1) := by decide +kernel
theorem d_Di_rename_0 : decode b_Di_rename 0 = .ok (.aload_n 0, 1) := by decide +kernel
theorem d_Di_rename_1 : decode b_Di_rename 1 = .ok (.getfield 10, 3) := by decide +kernel
theorem d_Di_rename_4 : decode b_Di_rename 4 = .ok (.getfield 60, 3) := by decide +kernel
theorem d_Di_rename_7 : decode b_Di_rename 7 = .ok (.getfield 69, 3) := by decide +kernel
theorem d_Di_rename_10 : decode b_Di_rename 10 = .ok (.ifCond .eq 6, 3) := by decide +kernel
theorem d_Di_rename_16 : decode b_Di_rename 16 = .ok (.aload_n 0, 1) := by decide +kernel
theorem d_Di_rename_17 : decode b_Di_rename 17 = .ok (.getfield 26, 3) := by decide +kernel
theorem d_Di_rename_20 : decode b_Di_rename 20 = .ok (.iload_n 1, 1) := by decide +kernel
theorem d_Di_rename_21 : decode b_Di_rename 21 = .ok (.invokevirtual 90, 3) := by decide +kernel
theorem d_Di_rename_24 : decode b_Di_rename 24 = .ok (.astore 5, 2) := by decide +kernel
theorem d_Di_rename_26 : decode b_Di_rename 26 = .ok (.aload_n 0, 1) := by decide +kernel
theorem d_Di_rename_27 : decode b_Di_rename 27 = .ok (.getfield 26, 3) := by decide +kernel
theorem d_Di_rename_30 : decode b_Di_rename 30 = .ok (.iload_n 2, 1) := by decide +kernel
theorem d_Di_rename_31 : decode b_Di_rename 31 = .ok (.invokevirtual 72, 3) := by decide +kernel
theorem d_Di_rename_34 : decode b_Di_rename 34 = .ok (.astore 6, 2) := by decide +kernel
theorem d_Di_rename_36 : decode b_Di_rename 36 = .ok (.lload_n 3, 1) := by decide +kernel
theorem d_Di_rename_37 : decode b_Di_rename 37 = .ok (.invokestatic 112, 3) := by decide +kernel
theorem d_Di_rename_40 : decode b_Di_rename 40 = .ok (.lstore 7, 2) := by decide +kernel
theorem d_Di_rename_42 : decode b_Di_rename 42 = .ok (.aload 5, 2) := by decide +kernel
theorem d_Di_rename_44 : decode b_Di_rename 44 = .ok (.ifnull 23, 3) := by decide +kernel
theorem d_Di_rename_47 : decode b_Di_rename 47 = .ok (.aload 5, 2) := by decide +kernel
theorem d_Di_rename_49 : decode b_Di_rename 49 = .ok (.getfield 100, 3) := by decide +kernel
theorem d_Di_rename_52 : decode b_Di_rename 52 = .ok (.ifnull 15, 3) := by decide +kernel
theorem d_Di_rename_67 : decode b_Di_rename 67 = .ok (.bipush (-2), 2) := by decide +kernel
theorem d_Di_rename_69 : decode b_Di_rename 69 = .ok (.ireturn, 1) := by decide +kernel
theorem bool9 {r : Int32} {P Q : Prop} (h : (r = 1 ∧ P) ∨ (r = 0 ∧ Q)) : narrow .boolean (.int r) = .int r := by
  rcases h with ⟨rfl, -⟩ | ⟨rfl, -⟩ <;> decide
/-- a byte of a blank medium -/
def bytV (n : Nat) (a : Int32) : Int32 := if a < 0 then -1 else if a / 2048 < nI n then 0 else -1
theorem div9 {a : Int32} {n : Nat} (h0 : ¬ a < 0) (h1 : a / 2048 < nI n) (hn : n ≤ 200) : ∃ j, j < n ∧ a / 2048 = nI j := by
  obtain ⟨q, hq, rfl⟩ := nI_of h0
  have e : nI q / 2048 = nI (q / 2048) := pk_div hq (by decide) (by decide)
  rw [e] at h1 ⊢
  exact ⟨q / 2048, (nI_ltI (by omega) (by omega)).mp h1, rfl⟩

set_option maxHeartbeats 4000000 in
set_option maxRecDepth 100000 in
theorem c_Medium_takes (l : Launch) (D : va_G) (t : Nat → ClassId) (G : hG) (ak av : Nat → Nat) (h : hM) (md sa n : Nat) (fa : Nat → Option Nat) (sx : Int32) (f_md : h md = some (.inr (0, [.ref sa, .int (nI 0)]))) (f_sa : h sa = some (.inl ((t 5), n, .inr (.inr (.inr (.inr fa)))))) (hrow : rowP (.inr (6, [.int 0, .int 0, .null])) fa 0 n h) (hn : n ≤ 200) : Met l y_Me_takesDefect (.code y_Me_takesDefect b_Me_takesDefect 2 (some .boolean) :: lw_g) { frames := 1, cells := 0, slots := 0, locals := 21 } (hP (kE D t G ak av) D vwCl G h [.ref md, .int sx]) (hQi D vwCl G (fun r h' => (r = 1 ∧ ∃ j, j < n ∧ sx = nI j) ∨ (r = 0 ∧ (sx < 0 ∨ nI n ≤ sx)))) 0 0 G.P := by
  refine Met.ofW (cc := b_Me_takesDefect) (maxL := 2) (ret := (some .boolean)) (by decide) rfl ?_
  intro p e s m args below meth c s₁ Bd hml hv
  obtain ⟨ha, hE, hH⟩ := hv
  have hx := Bd.exec
  have hb := Bd.bytes
  have hr := Bd.returns
  have hts : ∀ w ∈ lw_g, w.before args s = true := fun w hw => atoms_spec (ws := (.code y_Me_takesDefect b_Me_takesDefect 2 (some .boolean) :: lw_g)) Bd.pre w (List.mem_cons_of_mem _ hw)
  have hown : s.vm.findClass R_Me = some m.cls := findClass_of_methodNamed Bd.named
  have hlocks := Bd.notSynchronized
  have hK := hE.1
  have hH0 := hH
  have hLo : hLc G.P [] := hLc_nil
  have hz : s.heap.size ≤ s.heap.size := Nat.le_refl _
  have hkp : kp [] h h := kp_rf
  have hl := lv_entry [.ref md, .int sx] (n := 2) (Nat.le_of_ble_eq_true rfl)
  rw [show entryFrame m args 2 = F0 m 0 ((lg_sl [.ref md, .int sx] ++ List.replicate (2 - (lg_sl [.ref md, .int sx]).length) Slot.unset).toArray) [] from (by rw [ha]; exact lg_entry_eq m [.ref md, .int sx] 2)]
  generalize (lg_sl [.ref md, .int sx] ++ List.replicate (2 - (lg_sl [.ref md, .int sx]).length) Slot.unset).toArray = ls at hl ⊢
  have hl : lv_has ls 2 [(0, .ref md), (1, .int sx)] := hl
  refine lv_aload_n hx hb d_Me_takesDefect_0 rfl (lv_at hl 0 rfl) ?_
  refine lv_iload_n hx hb d_Me_takesDefect_1 rfl (lv_at hl 1 rfl) ?_
  refine hm_calli (va_runV (As := [.int sx]) (b := md) (rest := []) ⟨hx, hb, hml, hown, hts⟩ (c_Medium_has l D t G ak av h md sa n fa (nI 0) sx f_md f_sa (by omega)) ⟨cw9B 1 hts mw_162 mw_164 mw_163 rfl rfl (by decide +kernel) ⟨Nat.le_of_ble_eq_true rfl, Nat.le_of_ble_eq_true rfl⟩, hts _ mw_165, hts _ mw_166⟩ (hP_V (q := (R_Me, F_Me, 2)) kE_ok hE hK hH f_md rfl) rfl rfl hl.1 rfl (lv_room (Nat.le_of_ble_eq_true rfl)) d_Me_takesDefect_2 ⟨Nat.le_of_ble_eq_true rfl, Nat.le_of_ble_eq_true rfl⟩) hLo (fun r1 h2 H3 locs hp5 hH z4 hLo => ?_)
  have hz : s.heap.size ≤ H3.size := Nat.le_trans hz z4
  obtain ⟨hr9, rfl⟩ := hp5
  rcases hr9 with ⟨rfl, j, hj, rfl⟩ | ⟨rfl, ho⟩
  · skip
    refine lv_if_ne (tgt := 10) hx hb d_Me_takesDefect_5 (by decide) (fun hc6 => ?_) (fun hc6 => absurd hc6 (by decide))
    obtain ⟨sc, hsc, f_sc⟩ := hrow.2 j (Nat.zero_le _) hj
    refine lv_aload_n hx hb d_Me_takesDefect_10 rfl (lv_at hl 0 rfl) ?_
    refine hm_get (ci := 0) (v := .ref sa) (C := R_Me) (T := F_Me) (N := 2) hx hb hts ig_Me hown hK hH f_md rfl 0 (by decide) (hts _ mw_28) (fun _ h9 => h9) rfl d_Me_takesDefect_11 ?_
    refine lv_iload_n hx hb d_Me_takesDefect_14 rfl (lv_at hl 1 rfl) ?_
    refine hj_aald (v := .ref sc) hx hb hK hH 5 f_sa (C := R_Se) rfl j rfl hj (by omega) (by rw [hsc]; rfl) d_Me_takesDefect_15 ?_
    refine hm_get (ci := 6) (v := .int 0) (C := R_Se) (T := F_Se) (N := 3) hx hb hts ig_Se hown hK hH f_sc rfl 0 (by decide) (hts _ mw_179) (fun _ h9 => h9) rfl d_Me_takesDefect_16 ?_
    refine lv_if_ne (tgt := 32) hx hb d_Me_takesDefect_19 (by decide) (fun hc7 => absurd rfl hc7) (fun hc7 => ?_)
    refine lv_aload_n hx hb d_Me_takesDefect_22 rfl (lv_at hl 0 rfl) ?_
    refine hm_get (ci := 0) (v := .ref sa) (C := R_Me) (T := F_Me) (N := 2) hx hb hts ig_Me hown hK hH f_md rfl 0 (by decide) (hts _ mw_28) (fun _ h9 => h9) rfl d_Me_takesDefect_23 ?_
    refine lv_iload_n hx hb d_Me_takesDefect_26 rfl (lv_at hl 1 rfl) ?_
    refine hj_aald (v := .ref sc) hx hb hK hH 5 f_sa (C := R_Se) rfl j rfl hj (by omega) (by rw [hsc]; rfl) d_Me_takesDefect_27 ?_
    refine lv_iconst (v := 1) hx hb d_Me_takesDefect_28 (by decide) ?_
    refine hm_put (ci := 6) (v := .int 1) (ty := .boolean) (C := R_Se) (T := F_Se) (N := 3) hx hb hts ig_Se t_Se tk_Se nm_Se hown hK hH hLo f_sc rfl 1 (by decide) (hts _ mw_174) (fun _ h9 => h9) rfl (by decide +kernel) (by decide) (by decide) (Nat.le_of_ble_eq_true rfl) d_Me_takesDefect_29 (fun H8 locs hH z9 hLo => ?_)
    have hz : s.heap.size ≤ H8.size := by rw [z9]; exact hz
    obtain ⟨h10, e11⟩ : ∃ z, z = hu h sc (.inr (6, [.int 0, .int 1, .null])) := ⟨_, rfl⟩
    have hH : hm D vwCl G h10 H8 := by rw [e11]; exact hH
    have f_md : h10 md = some (.inr (0, [.ref sa, .int (nI 0)])) := by rw [e11, hu_n (h_neC f_md f_sc (by decide))]; exact f_md
    have f_sa : h10 sa = some (.inl ((t 5), n, .inr (.inr (.inr (.inr fa))))) := by rw [e11, hu_n (h_neA f_sa f_sc)]; exact f_sa
    have f_sc : h10 sc = some (.inr (6, [.int 0, .int 1, .null])) := by rw [e11]; exact hu_s _ _ _
    refine lv_iconst (v := 1) hx hb d_Me_takesDefect_32 (by decide) ?_
    exact W.zret (v := 1) hx hb hr (by decide) (fun t9 ht hW => ⟨1, h10, rfl, Or.inl ⟨rfl, j, hj, rfl⟩, by rw [ht]; exact hH, by rw [ht]; exact hz⟩) hLo d_Me_takesDefect_33
  · skip
    refine lv_if_ne (tgt := 10) hx hb d_Me_takesDefect_5 (by decide) (fun hc12 => absurd rfl hc12) (fun hc12 => ?_)
    refine lv_iconst (v := 0) hx hb d_Me_takesDefect_8 (by decide) ?_
    exact W.zret (v := 0) hx hb hr (by decide) (fun t9 ht hW => ⟨0, h, rfl, Or.inr ⟨rfl, ho⟩, by rw [ht]; exact hH, by rw [ht]; exact hz⟩) hLo d_Me_takesDefect_9

set_option maxHeartbeats 4000000 in
set_option maxRecDepth 100000 in
theorem c_x_defect (l : Launch) (D : va_G) (t : Nat → ClassId) (G : hG) (ak av : Nat → Nat) (h : hM) (x n : Nat) (sx : Int32) (hX : FrX t h x n) : Met l y_Di_defect (.code y_Di_defect b_Di_defect 2 (some .boolean) :: lw_g) { frames := 2, cells := 0, slots := 0, locals := 42 } (hP (kE D t G ak av) D vwCl G h [.ref x, .int sx]) (hQi D vwCl G (fun r h' => (r = 1 ∧ ∃ j, j < n ∧ sx = nI j) ∨ (r = 0 ∧ (sx < 0 ∨ nI n ≤ sx)))) 0 0 G.P := by
  refine Met.ofW (cc := b_Di_defect) (maxL := 2) (ret := (some .boolean)) (by decide) rfl ?_
  intro p e s m args below meth c s₁ Bd hml hv
  obtain ⟨ha, hE, hH⟩ := hv
  have hx := Bd.exec
  have hb := Bd.bytes
  have hr := Bd.returns
  have hts : ∀ w ∈ lw_g, w.before args s = true := fun w hw => atoms_spec (ws := (.code y_Di_defect b_Di_defect 2 (some .boolean) :: lw_g)) Bd.pre w (List.mem_cons_of_mem _ hw)
  have hown : s.vm.findClass R_Di = some m.cls := findClass_of_methodNamed Bd.named
  have hlocks := Bd.notSynchronized
  have hK := hE.1
  have hH0 := hH
  have hLo : hLc G.P [] := hLc_nil
  have hz : s.heap.size ≤ s.heap.size := Nat.le_refl _
  have hkp : kp [] h h := kp_rf
  have hl := lv_entry [.ref x, .int sx] (n := 2) (Nat.le_of_ble_eq_true rfl)
  rw [show entryFrame m args 2 = F0 m 0 ((lg_sl [.ref x, .int sx] ++ List.replicate (2 - (lg_sl [.ref x, .int sx]).length) Slot.unset).toArray) [] from (by rw [ha]; exact lg_entry_eq m [.ref x, .int sx] 2)]
  generalize (lg_sl [.ref x, .int sx] ++ List.replicate (2 - (lg_sl [.ref x, .int sx]).length) Slot.unset).toArray = ls at hl ⊢
  have hl : lv_has ls 2 [(0, .ref x), (1, .int sx)] := hl
  obtain ⟨wr, rd, ns, op, sr, md, su, pg, pb, sl, od, sa, fs, g, fa, f_x, f_wr, f_su, f_pg, f_pb, f_ns, f_sl, f_od, hgf, hnd, f_md, f_sa, hrow, ne_sl_od, hn40, hn⟩ := hX
  obtain ⟨rt, hf0, f_rt⟩ := hnd.2 0 (by decide) (by decide)
  refine lv_aload_n hx hb d_Di_defect_0 rfl (lv_at hl 0 rfl) ?_
  refine hm_get (ci := 8) (v := .ref md) (C := R_Di) (T := F_Di) (N := 9) hx hb hts ig_Di hown hK hH f_x rfl 3 (by decide) (hts _ mw_269) (fun _ h9 => h9) rfl d_Di_defect_1 ?_
  refine lv_iload_n hx hb d_Di_defect_4 rfl (lv_at hl 1 rfl) ?_
  refine hm_calli (va_runV (As := [.int sx]) (b := md) (rest := []) ⟨hx, hb, hml, hown, hts⟩ (c_Medium_takes l D t G ak av h md sa n fa sx f_md f_sa hrow hn) ⟨cw9B 1 hts mw_286 mw_287 mw_163 rfl rfl (by decide +kernel) ⟨Nat.le_of_ble_eq_true rfl, Nat.le_of_ble_eq_true rfl⟩, hts _ mw_288, hts _ mw_289⟩ (hP_V (q := (R_Me, F_Me, 2)) kE_ok hE hK hH f_md rfl) rfl rfl hl.1 rfl (lv_room (Nat.le_of_ble_eq_true rfl)) d_Di_defect_5 ⟨Nat.le_of_ble_eq_true rfl, Nat.le_of_ble_eq_true rfl⟩) hLo (fun r1 h2 H3 locs hp5 hH z4 hLo => ?_)
  have hz : s.heap.size ≤ H3.size := Nat.le_trans hz z4
  exact W.zret (v := r1) hx hb hr (bool9 hp5) (fun t9 ht hW => ⟨r1, h2, rfl, hp5, by rw [ht]; exact hH, by rw [ht]; exact hz⟩) hLo d_Di_defect_8

set_option maxHeartbeats 4000000 in
set_option maxRecDepth 100000 in
theorem c_x_power (l : Launch) (D : va_G) (t : Nat → ClassId) (G : hG) (ak av : Nat → Nat) (h : hM) (x n : Nat) (v : Int32) (hX : FrX t h x n) : Met l y_Di_power (.code y_Di_power b_Di_power 2 none :: lw_g) { frames := 0, cells := 0, slots := 0, locals := 0 } (hP (kE D t G ak av) D vwCl G h [.ref x, .int v]) (hQv D vwCl G (fun h' => True)) 0 0 G.P := by
  refine Met.ofW (cc := b_Di_power) (maxL := 2) (ret := none) (by decide) rfl ?_
  intro p e s m args below meth c s₁ Bd hml hv
  obtain ⟨ha, hE, hH⟩ := hv
  have hx := Bd.exec
  have hb := Bd.bytes
  have hr := Bd.returns
  have hts : ∀ w ∈ lw_g, w.before args s = true := fun w hw => atoms_spec (ws := (.code y_Di_power b_Di_power 2 none :: lw_g)) Bd.pre w (List.mem_cons_of_mem _ hw)
  have hown : s.vm.findClass R_Di = some m.cls := findClass_of_methodNamed Bd.named
  have hlocks := Bd.notSynchronized
  have hK := hE.1
  have hH0 := hH
  have hLo : hLc G.P [] := hLc_nil
  have hz : s.heap.size ≤ s.heap.size := Nat.le_refl _
  have hkp : kp [] h h := kp_rf
  have hl := lv_entry [.ref x, .int v] (n := 2) (Nat.le_of_ble_eq_true rfl)
  rw [show entryFrame m args 2 = F0 m 0 ((lg_sl [.ref x, .int v] ++ List.replicate (2 - (lg_sl [.ref x, .int v]).length) Slot.unset).toArray) [] from (by rw [ha]; exact lg_entry_eq m [.ref x, .int v] 2)]
  generalize (lg_sl [.ref x, .int v] ++ List.replicate (2 - (lg_sl [.ref x, .int v]).length) Slot.unset).toArray = ls at hl ⊢
  have hl : lv_has ls 2 [(0, .ref x), (1, .int v)] := hl
  obtain ⟨wr, rd, ns, op, sr, md, su, pg, pb, sl, od, sa, fs, g, fa, f_x, f_wr, f_su, f_pg, f_pb, f_ns, f_sl, f_od, hgf, hnd, f_md, f_sa, hrow, ne_sl_od, hn40, hn⟩ := hX
  obtain ⟨rt, hf0, f_rt⟩ := hnd.2 0 (by decide) (by decide)
  refine lv_aload_n hx hb d_Di_power_0 rfl (lv_at hl 0 rfl) ?_
  refine hm_get (ci := 8) (v := .ref wr) (C := R_Di) (T := F_Di) (N := 9) hx hb hts ig_Di hown hK hH f_x rfl 0 (by decide) (hts _ mw_246) (fun _ h9 => h9) rfl d_Di_power_1 ?_
  refine hm_get (ci := 7) (v := .ref su) (C := R_Wr) (T := F_Wr) (N := 2) hx hb hts ig_Wr hown hK hH f_wr rfl 0 (by decide) (hts _ mw_290) (fun _ h9 => h9) rfl d_Di_power_4 ?_
  refine lv_iload_n hx hb d_Di_power_7 rfl (lv_at hl 1 rfl) ?_
  refine lv_if_ge (tgt := 15) hx hb d_Di_power_8 (by decide) (fun hc1 => ?_) (fun hc1 => ?_)
  · skip
    refine lv_iload_n hx hb d_Di_power_15 rfl (lv_at hl 1 rfl) ?_
    refine hm_put (ci := 4) (v := .int v) (ty := .int) (C := R_Po) (T := F_Po) (N := 3) hx hb hts ig_Po t_Po tk_Po nm_Po hown hK hH hLo f_su rfl 0 (by decide) (hts _ mw_291) (fun _ h9 => h9) rfl (by decide +kernel) rfl rfl (Nat.le_of_ble_eq_true rfl) d_Di_power_16 (fun H2 locs hH z3 hLo => ?_)
    have hz : s.heap.size ≤ H2.size := by rw [z3]; exact hz
    obtain ⟨h4, e5⟩ : ∃ z, z = hu h su (.inr (4, [.int v, .int 0, .int 0])) := ⟨_, rfl⟩
    have hH : hm D vwCl G h4 H2 := by rw [e5]; exact hH
    have f_x : h4 x = some (.inr (8, [.ref wr, .ref rd, .ref ns, .ref md, .null, .int 0, .int 0, .ref op, .ref sr])) := by rw [e5, hu_n (h_neC f_x f_su (by decide))]; exact f_x
    have f_wr : h4 wr = some (.inr (7, [.ref su, .ref pg])) := by rw [e5, hu_n (h_neC f_wr f_su (by decide))]; exact f_wr
    have f_pg : h4 pg = some (.inr (3, [.ref pb])) := by rw [e5, hu_n (h_neC f_pg f_su (by decide))]; exact f_pg
    have f_pb : h4 pb = some (.inl ((t 0), 2048, .inl (fun _ => 0))) := by rw [e5, hu_n (h_neA f_pb f_su)]; exact f_pb
    have f_ns : h4 ns = some (.inr (2, [.ref sl, .ref od, .int 1, .int 1])) := by rw [e5, hu_n (h_neC f_ns f_su (by decide))]; exact f_ns
    have f_sl : h4 sl = some (.inl ((t 4), 30, .inr (.inr (.inr (.inr fs))))) := by rw [e5, hu_n (h_neA f_sl f_su)]; exact f_sl
    have f_od : h4 od = some (.inl ((t 4), 30, .inr (.inr (.inr (.inr g))))) := by rw [e5, hu_n (h_neA f_od f_su)]; exact f_od
    have f_md : h4 md = some (.inr (0, [.ref sa, .int (nI 0)])) := by rw [e5, hu_n (h_neC f_md f_su (by decide))]; exact f_md
    have f_sa : h4 sa = some (.inl ((t 5), n, .inr (.inr (.inr (.inr fa))))) := by rw [e5, hu_n (h_neA f_sa f_su)]; exact f_sa
    have f_rt : h4 rt = some (.inr (1, [.int 0, .null, .int 1, .long 0, .int 0, .int 0, .int 0, .int 0, .int 0, .int 0, .int 1])) := by rw [e5, hu_n (h_neC f_rt f_su (by decide))]; exact f_rt
    have f_su : h4 su = some (.inr (4, [.int v, .int 0, .int 0])) := by rw [e5]; exact hu_s _ _ _
    exact W.vret hx hb hr (fun t9 ht hW => ⟨h4, rfl, trivial, by rw [ht]; exact hH, by rw [ht]; exact hz⟩) hLo d_Di_power_19
  · skip
    refine lv_iconst (v := -1) hx hb d_Di_power_11 (by decide) ?_
    refine lv_goto (tgt := 16) hx hb d_Di_power_12 (by decide) ?_
    refine hm_put (ci := 4) (v := .int (-1)) (ty := .int) (C := R_Po) (T := F_Po) (N := 3) hx hb hts ig_Po t_Po tk_Po nm_Po hown hK hH hLo f_su rfl 0 (by decide) (hts _ mw_291) (fun _ h9 => h9) rfl (by decide +kernel) rfl rfl (Nat.le_of_ble_eq_true rfl) d_Di_power_16 (fun H6 locs hH z7 hLo => ?_)
    have hz : s.heap.size ≤ H6.size := by rw [z7]; exact hz
    obtain ⟨h8, e9⟩ : ∃ z, z = hu h su (.inr (4, [.int (-1), .int 0, .int 0])) := ⟨_, rfl⟩
    have hH : hm D vwCl G h8 H6 := by rw [e9]; exact hH
    have f_x : h8 x = some (.inr (8, [.ref wr, .ref rd, .ref ns, .ref md, .null, .int 0, .int 0, .ref op, .ref sr])) := by rw [e9, hu_n (h_neC f_x f_su (by decide))]; exact f_x
    have f_wr : h8 wr = some (.inr (7, [.ref su, .ref pg])) := by rw [e9, hu_n (h_neC f_wr f_su (by decide))]; exact f_wr
    have f_pg : h8 pg = some (.inr (3, [.ref pb])) := by rw [e9, hu_n (h_neC f_pg f_su (by decide))]; exact f_pg
    have f_pb : h8 pb = some (.inl ((t 0), 2048, .inl (fun _ => 0))) := by rw [e9, hu_n (h_neA f_pb f_su)]; exact f_pb
    have f_ns : h8 ns = some (.inr (2, [.ref sl, .ref od, .int 1, .int 1])) := by rw [e9, hu_n (h_neC f_ns f_su (by decide))]; exact f_ns
    have f_sl : h8 sl = some (.inl ((t 4), 30, .inr (.inr (.inr (.inr fs))))) := by rw [e9, hu_n (h_neA f_sl f_su)]; exact f_sl
    have f_od : h8 od = some (.inl ((t 4), 30, .inr (.inr (.inr (.inr g))))) := by rw [e9, hu_n (h_neA f_od f_su)]; exact f_od
    have f_md : h8 md = some (.inr (0, [.ref sa, .int (nI 0)])) := by rw [e9, hu_n (h_neC f_md f_su (by decide))]; exact f_md
    have f_sa : h8 sa = some (.inl ((t 5), n, .inr (.inr (.inr (.inr fa))))) := by rw [e9, hu_n (h_neA f_sa f_su)]; exact f_sa
    have f_rt : h8 rt = some (.inr (1, [.int 0, .null, .int 1, .long 0, .int 0, .int 0, .int 0, .int 0, .int 0, .int 0, .int 1])) := by rw [e9, hu_n (h_neC f_rt f_su (by decide))]; exact f_rt
    have f_su : h8 su = some (.inr (4, [.int (-1), .int 0, .int 0])) := by rw [e9]; exact hu_s _ _ _
    exact W.vret hx hb hr (fun t9 ht hW => ⟨h8, rfl, trivial, by rw [ht]; exact hH, by rw [ht]; exact hz⟩) hLo d_Di_power_19

set_option maxHeartbeats 4000000 in
set_option maxRecDepth 100000 in
theorem c_x_writes (l : Launch) (D : va_G) (t : Nat → ClassId) (G : hG) (ak av : Nat → Nat) (h : hM) (x n : Nat) (hX : FrX t h x n) : Met l y_Di_writes (.code y_Di_writes b_Di_writes 1 (some .int) :: lw_g) { frames := 0, cells := 0, slots := 0, locals := 0 } (hP (kE D t G ak av) D vwCl G h [.ref x]) (hQi D vwCl G (fun r h' => r = 0)) 0 0 G.P := by
  refine Met.ofW (cc := b_Di_writes) (maxL := 1) (ret := (some .int)) (by decide) rfl ?_
  intro p e s m args below meth c s₁ Bd hml hv
  obtain ⟨ha, hE, hH⟩ := hv
  have hx := Bd.exec
  have hb := Bd.bytes
  have hr := Bd.returns
  have hts : ∀ w ∈ lw_g, w.before args s = true := fun w hw => atoms_spec (ws := (.code y_Di_writes b_Di_writes 1 (some .int) :: lw_g)) Bd.pre w (List.mem_cons_of_mem _ hw)
  have hown : s.vm.findClass R_Di = some m.cls := findClass_of_methodNamed Bd.named
  have hlocks := Bd.notSynchronized
  have hK := hE.1
  have hH0 := hH
  have hLo : hLc G.P [] := hLc_nil
  have hz : s.heap.size ≤ s.heap.size := Nat.le_refl _
  have hkp : kp [] h h := kp_rf
  have hl := lv_entry [.ref x] (n := 1) (Nat.le_of_ble_eq_true rfl)
  rw [show entryFrame m args 1 = F0 m 0 ((lg_sl [.ref x] ++ List.replicate (1 - (lg_sl [.ref x]).length) Slot.unset).toArray) [] from (by rw [ha]; exact lg_entry_eq m [.ref x] 1)]
  generalize (lg_sl [.ref x] ++ List.replicate (1 - (lg_sl [.ref x]).length) Slot.unset).toArray = ls at hl ⊢
  have hl : lv_has ls 1 [(0, .ref x)] := hl
  obtain ⟨wr, rd, ns, op, sr, md, su, pg, pb, sl, od, sa, fs, g, fa, f_x, f_wr, f_su, f_pg, f_pb, f_ns, f_sl, f_od, hgf, hnd, f_md, f_sa, hrow, ne_sl_od, hn40, hn⟩ := hX
  obtain ⟨rt, hf0, f_rt⟩ := hnd.2 0 (by decide) (by decide)
  refine lv_aload_n hx hb d_Di_writes_0 rfl (lv_at hl 0 rfl) ?_
  refine hm_get (ci := 8) (v := .ref wr) (C := R_Di) (T := F_Di) (N := 9) hx hb hts ig_Di hown hK hH f_x rfl 0 (by decide) (hts _ mw_246) (fun _ h9 => h9) rfl d_Di_writes_1 ?_
  refine hm_get (ci := 7) (v := .ref su) (C := R_Wr) (T := F_Wr) (N := 2) hx hb hts ig_Wr hown hK hH f_wr rfl 0 (by decide) (hts _ mw_290) (fun _ h9 => h9) rfl d_Di_writes_4 ?_
  refine hm_get (ci := 4) (v := .int 0) (C := R_Po) (T := F_Po) (N := 3) hx hb hts ig_Po hown hK hH f_su rfl 2 (by decide) (hts _ mw_292) (fun _ h9 => h9) rfl d_Di_writes_7 ?_
  exact W.iret (v := 0) hx hb hr (fun t9 ht hW => ⟨0, h, rfl, rfl, by rw [ht]; exact hH, by rw [ht]; exact hz⟩) hLo d_Di_writes_10

set_option maxHeartbeats 4000000 in
set_option maxRecDepth 100000 in
theorem c_x_state (l : Launch) (D : va_G) (t : Nat → ClassId) (G : hG) (ak av : Nat → Nat) (h : hM) (x n : Nat) (sx : Int32) (hX : FrX t h x n) : Met l y_Di_state (.code y_Di_state b_Di_state 2 (some .int) :: lw_g) { frames := 1, cells := 0, slots := 0, locals := 21 } (hP (kE D t G ak av) D vwCl G h [.ref x, .int sx]) (hQi D vwCl G (fun r h' => (r = 0 ∧ ∃ j, j < n ∧ sx = nI j) ∨ (r = -1 ∧ (sx < 0 ∨ nI n ≤ sx)))) 0 0 G.P := by
  refine Met.ofW (cc := b_Di_state) (maxL := 2) (ret := (some .int)) (by decide) rfl ?_
  intro p e s m args below meth c s₁ Bd hml hv
  obtain ⟨ha, hE, hH⟩ := hv
  have hx := Bd.exec
  have hb := Bd.bytes
  have hr := Bd.returns
  have hts : ∀ w ∈ lw_g, w.before args s = true := fun w hw => atoms_spec (ws := (.code y_Di_state b_Di_state 2 (some .int) :: lw_g)) Bd.pre w (List.mem_cons_of_mem _ hw)
  have hown : s.vm.findClass R_Di = some m.cls := findClass_of_methodNamed Bd.named
  have hlocks := Bd.notSynchronized
  have hK := hE.1
  have hH0 := hH
  have hLo : hLc G.P [] := hLc_nil
  have hz : s.heap.size ≤ s.heap.size := Nat.le_refl _
  have hkp : kp [] h h := kp_rf
  have hl := lv_entry [.ref x, .int sx] (n := 2) (Nat.le_of_ble_eq_true rfl)
  rw [show entryFrame m args 2 = F0 m 0 ((lg_sl [.ref x, .int sx] ++ List.replicate (2 - (lg_sl [.ref x, .int sx]).length) Slot.unset).toArray) [] from (by rw [ha]; exact lg_entry_eq m [.ref x, .int sx] 2)]
  generalize (lg_sl [.ref x, .int sx] ++ List.replicate (2 - (lg_sl [.ref x, .int sx]).length) Slot.unset).toArray = ls at hl ⊢
  have hl : lv_has ls 2 [(0, .ref x), (1, .int sx)] := hl
  obtain ⟨wr, rd, ns, op, sr, md, su, pg, pb, sl, od, sa, fs, g, fa, f_x, f_wr, f_su, f_pg, f_pb, f_ns, f_sl, f_od, hgf, hnd, f_md, f_sa, hrow, ne_sl_od, hn40, hn⟩ := hX
  obtain ⟨rt, hf0, f_rt⟩ := hnd.2 0 (by decide) (by decide)
  refine lv_aload_n hx hb d_Di_state_0 rfl (lv_at hl 0 rfl) ?_
  refine hm_get (ci := 8) (v := .ref md) (C := R_Di) (T := F_Di) (N := 9) hx hb hts ig_Di hown hK hH f_x rfl 3 (by decide) (hts _ mw_269) (fun _ h9 => h9) rfl d_Di_state_1 ?_
  refine lv_iload_n hx hb d_Di_state_4 rfl (lv_at hl 1 rfl) ?_
  refine hm_calli (va_runV (As := [.int sx]) (b := md) (rest := []) ⟨hx, hb, hml, hown, hts⟩ (c_Medium_has l D t G ak av h md sa n fa (nI 0) sx f_md f_sa (by omega)) ⟨cw9B 1 hts mw_162 mw_293 mw_163 rfl rfl (by decide +kernel) ⟨Nat.le_of_ble_eq_true rfl, Nat.le_of_ble_eq_true rfl⟩, hts _ mw_165, hts _ mw_166⟩ (hP_V (q := (R_Me, F_Me, 2)) kE_ok hE hK hH f_md rfl) rfl rfl hl.1 rfl (lv_room (Nat.le_of_ble_eq_true rfl)) d_Di_state_5 ⟨Nat.le_of_ble_eq_true rfl, Nat.le_of_ble_eq_true rfl⟩) hLo (fun r1 h2 H3 locs hp5 hH z4 hLo => ?_)
  have hz : s.heap.size ≤ H3.size := Nat.le_trans hz z4
  obtain ⟨hr9, rfl⟩ := hp5
  rcases hr9 with ⟨rfl, j, hj, rfl⟩ | ⟨rfl, ho⟩
  · skip
    refine lv_if_eq (tgt := 26) hx hb d_Di_state_8 (by decide) (fun hc6 => absurd hc6 (by decide)) (fun hc6 => ?_)
    obtain ⟨sc, hsc, f_sc⟩ := hrow.2 j (Nat.zero_le _) hj
    refine lv_aload_n hx hb d_Di_state_11 rfl (lv_at hl 0 rfl) ?_
    refine hm_get (ci := 8) (v := .ref md) (C := R_Di) (T := F_Di) (N := 9) hx hb hts ig_Di hown hK hH f_x rfl 3 (by decide) (hts _ mw_269) (fun _ h9 => h9) rfl d_Di_state_12 ?_
    refine hm_get (ci := 0) (v := .ref sa) (C := R_Me) (T := F_Me) (N := 2) hx hb hts ig_Me hown hK hH f_md rfl 0 (by decide) (hts _ mw_294) (fun _ h9 => h9) rfl d_Di_state_15 ?_
    refine lv_iload_n hx hb d_Di_state_18 rfl (lv_at hl 1 rfl) ?_
    refine hj_aald (v := .ref sc) hx hb hK hH 5 f_sa (C := R_Se) rfl j rfl hj (by omega) (by rw [hsc]; rfl) d_Di_state_19 ?_
    refine hm_get (ci := 6) (v := .int 0) (C := R_Se) (T := F_Se) (N := 3) hx hb hts ig_Se hown hK hH f_sc rfl 0 (by decide) (hts _ mw_295) (fun _ h9 => h9) rfl d_Di_state_20 ?_
    refine lv_goto (tgt := 27) hx hb d_Di_state_23 (by decide) ?_
    exact W.iret (v := 0) hx hb hr (fun t9 ht hW => ⟨0, h, rfl, Or.inl ⟨rfl, j, hj, rfl⟩, by rw [ht]; exact hH, by rw [ht]; exact hz⟩) hLo d_Di_state_27
  · skip
    refine lv_if_eq (tgt := 26) hx hb d_Di_state_8 (by decide) (fun hc7 => ?_) (fun hc7 => absurd rfl hc7)
    refine lv_iconst (v := -1) hx hb d_Di_state_26 (by decide) ?_
    exact W.iret (v := (-1)) hx hb hr (fun t9 ht hW => ⟨(-1), h, rfl, Or.inr ⟨rfl, ho⟩, by rw [ht]; exact hH, by rw [ht]; exact hz⟩) hLo d_Di_state_27

set_option maxHeartbeats 4000000 in
set_option maxRecDepth 100000 in
theorem c_Medium_fetch (l : Launch) (D : va_G) (t : Nat → ClassId) (G : hG) (ak av : Nat → Nat) (h : hM) (md sa n : Nat) (fa : Nat → Option Nat) (a9 : Int32) (f_md : h md = some (.inr (0, [.ref sa, .int (nI 0)]))) (f_sa : h sa = some (.inl ((t 5), n, .inr (.inr (.inr (.inr fa)))))) (hrow : rowP (.inr (6, [.int 0, .int 0, .null])) fa 0 n h) (hn : n ≤ 200) : Met l y_Me_fetch (.code y_Me_fetch b_Me_fetch 4 (some .int) :: lw_g) { frames := 0, cells := 0, slots := 0, locals := 0 } (hP (kE D t G ak av) D vwCl G h [.ref md, .int a9]) (hQi D vwCl G (fun r h' => r = bytV n a9 ∧ h = h')) 0 0 G.P := by
  refine Met.ofW (cc := b_Me_fetch) (maxL := 4) (ret := (some .int)) (by decide) rfl ?_
  intro p e s m args below meth c s₁ Bd hml hv
  obtain ⟨ha, hE, hH⟩ := hv
  have hx := Bd.exec
  have hb := Bd.bytes
  have hr := Bd.returns
  have hts : ∀ w ∈ lw_g, w.before args s = true := fun w hw => atoms_spec (ws := (.code y_Me_fetch b_Me_fetch 4 (some .int) :: lw_g)) Bd.pre w (List.mem_cons_of_mem _ hw)
  have hown : s.vm.findClass R_Me = some m.cls := findClass_of_methodNamed Bd.named
  have hlocks := Bd.notSynchronized
  have hK := hE.1
  have hH0 := hH
  have hLo : hLc G.P [] := hLc_nil
  have hz : s.heap.size ≤ s.heap.size := Nat.le_refl _
  have hkp : kp [] h h := kp_rf
  have hl := lv_entry [.ref md, .int a9] (n := 4) (Nat.le_of_ble_eq_true rfl)
  rw [show entryFrame m args 4 = F0 m 0 ((lg_sl [.ref md, .int a9] ++ List.replicate (4 - (lg_sl [.ref md, .int a9]).length) Slot.unset).toArray) [] from (by rw [ha]; exact lg_entry_eq m [.ref md, .int a9] 4)]
  generalize (lg_sl [.ref md, .int a9] ++ List.replicate (4 - (lg_sl [.ref md, .int a9]).length) Slot.unset).toArray = ls at hl ⊢
  have hl : lv_has ls 4 [(0, .ref md), (1, .int a9)] := hl
  refine lv_iload_n hx hb d_Me_fetch_0 rfl (lv_at hl 1 rfl) ?_
  refine lv_sipush (v := 2048) hx hb d_Me_fetch_1 (by decide) ?_
  refine lv_idiv hx hb d_Me_fetch_4 (by decide) ?_
  refine lv_istore_n (lv' := [(2, .int (a9 / 2048)), (0, .ref md), (1, .int a9)]) hx hb d_Me_fetch_5 rfl hl (by decide) rfl (fun ls hl => ?_)
  refine lv_iload_n hx hb d_Me_fetch_6 rfl (lv_at hl 2 rfl) ?_
  refine lv_if_lt (tgt := 19) hx hb d_Me_fetch_7 (by decide) (fun hc1 => ?_) (fun hc1 => ?_)
  · skip
    refine lv_iconst (v := -1) hx hb d_Me_fetch_19 (by decide) ?_
    exact W.iret (v := (-1)) hx hb hr (fun t9 ht hW => ⟨(-1), h, rfl, ⟨by rw [bytV, if_pos hc1], rfl⟩, by rw [ht]; exact hH, by rw [ht]; exact hz⟩) hLo d_Me_fetch_20
  · skip
    refine lv_iload_n hx hb d_Me_fetch_10 rfl (lv_at hl 0 rfl) ?_
    refine lv_aload_n hx hb d_Me_fetch_11 rfl (lv_at hl 1 rfl) ?_
    refine hm_get (ci := 0) (v := .ref sa) (C := R_Me) (T := F_Me) (N := 2) hx hb hts ig_Me hown hK hH f_md rfl 0 (by decide) (hts _ mw_28) (fun _ h9 => h9) rfl d_Me_fetch_12 ?_
    refine hm_alen (v := nI n) hx hb hK hH 5 f_sa (ty := (.object "WriteOnceDisc$Sector")) rfl rfl d_Me_fetch_15 ?_
    refine lv_icmp_lt (tgt := 21) hx hb d_Me_fetch_16 (by decide) (fun hc2 => ?_) (fun hc2 => ?_)
    · skip
      obtain ⟨j, hj, hje⟩ := div9 hc1 hc2 hn
      obtain ⟨sc, hsc, f_sc⟩ := hrow.2 j (Nat.zero_le _) hj
      refine lv_aload_n hx hb d_Me_fetch_21 rfl (lv_at hl 1 rfl) ?_
      refine hm_get (ci := 0) (v := .ref sa) (C := R_Me) (T := F_Me) (N := 2) hx hb hts ig_Me hown hK hH f_md rfl 0 (by decide) (hts _ mw_28) (fun _ h9 => h9) rfl d_Me_fetch_22 ?_
      refine lv_iload_n hx hb d_Me_fetch_25 rfl (lv_at hl 0 rfl) ?_
      refine hj_aald (v := .ref sc) hx hb hK hH 5 f_sa (C := R_Se) rfl j hje hj (by omega) (by rw [hsc]; rfl) d_Me_fetch_26 ?_
      refine lv_astore_n (lv' := [(3, .ref sc), (2, .int (a9 / 2048)), (0, .ref md), (1, .int a9)]) hx hb d_Me_fetch_27 rfl hl (by decide) rfl (fun ls hl => ?_)
      refine lv_aload_n hx hb d_Me_fetch_28 rfl (lv_at hl 0 rfl) ?_
      refine hm_get (ci := 6) (v := .int 0) (C := R_Se) (T := F_Se) (N := 3) hx hb hts ig_Se hown hK hH f_sc rfl 0 (by decide) (hts _ mw_179) (fun _ h9 => h9) rfl d_Me_fetch_29 ?_
      refine lv_iconst (v := 1) hx hb d_Me_fetch_32 (by decide) ?_
      refine lv_icmp_ne (tgt := 60) hx hb d_Me_fetch_33 (by decide) (fun hc3 => ?_) (fun hc3 => absurd hc3 (by decide))
      refine lv_iconst (v := 0) hx hb d_Me_fetch_60 (by decide) ?_
      exact W.iret (v := 0) hx hb hr (fun t9 ht hW => ⟨0, h, rfl, ⟨by rw [bytV, if_neg hc1, if_pos hc2], rfl⟩, by rw [ht]; exact hH, by rw [ht]; exact hz⟩) hLo d_Me_fetch_61
    · skip
      refine lv_iconst (v := -1) hx hb d_Me_fetch_19 (by decide) ?_
      exact W.iret (v := (-1)) hx hb hr (fun t9 ht hW => ⟨(-1), h, rfl, ⟨by rw [bytV, if_neg hc1, if_neg hc2], rfl⟩, by rw [ht]; exact hH, by rw [ht]; exact hz⟩) hLo d_Me_fetch_20

set_option maxHeartbeats 4000000 in
set_option maxRecDepth 100000 in
theorem c_x_byteAt (l : Launch) (D : va_G) (t : Nat → ClassId) (G : hG) (ak av : Nat → Nat) (h : hM) (x n : Nat) (a9 : Int32) (hX : FrX t h x n) : Met l y_Di_byteAt (.code y_Di_byteAt b_Di_byteAt 2 (some .int) :: lw_g) { frames := 1, cells := 0, slots := 0, locals := 23 } (hP (kE D t G ak av) D vwCl G h [.ref x, .int a9]) (hQi D vwCl G (fun r h' => r = bytV n a9)) 0 0 G.P := by
  refine Met.ofW (cc := b_Di_byteAt) (maxL := 2) (ret := (some .int)) (by decide) rfl ?_
  intro p e s m args below meth c s₁ Bd hml hv
  obtain ⟨ha, hE, hH⟩ := hv
  have hx := Bd.exec
  have hb := Bd.bytes
  have hr := Bd.returns
  have hts : ∀ w ∈ lw_g, w.before args s = true := fun w hw => atoms_spec (ws := (.code y_Di_byteAt b_Di_byteAt 2 (some .int) :: lw_g)) Bd.pre w (List.mem_cons_of_mem _ hw)
  have hown : s.vm.findClass R_Di = some m.cls := findClass_of_methodNamed Bd.named
  have hlocks := Bd.notSynchronized
  have hK := hE.1
  have hH0 := hH
  have hLo : hLc G.P [] := hLc_nil
  have hz : s.heap.size ≤ s.heap.size := Nat.le_refl _
  have hkp : kp [] h h := kp_rf
  have hl := lv_entry [.ref x, .int a9] (n := 2) (Nat.le_of_ble_eq_true rfl)
  rw [show entryFrame m args 2 = F0 m 0 ((lg_sl [.ref x, .int a9] ++ List.replicate (2 - (lg_sl [.ref x, .int a9]).length) Slot.unset).toArray) [] from (by rw [ha]; exact lg_entry_eq m [.ref x, .int a9] 2)]
  generalize (lg_sl [.ref x, .int a9] ++ List.replicate (2 - (lg_sl [.ref x, .int a9]).length) Slot.unset).toArray = ls at hl ⊢
  have hl : lv_has ls 2 [(0, .ref x), (1, .int a9)] := hl
  obtain ⟨wr, rd, ns, op, sr, md, su, pg, pb, sl, od, sa, fs, g, fa, f_x, f_wr, f_su, f_pg, f_pb, f_ns, f_sl, f_od, hgf, hnd, f_md, f_sa, hrow, ne_sl_od, hn40, hn⟩ := hX
  obtain ⟨rt, hf0, f_rt⟩ := hnd.2 0 (by decide) (by decide)
  refine lv_aload_n hx hb d_Di_byteAt_0 rfl (lv_at hl 0 rfl) ?_
  refine hm_get (ci := 8) (v := .ref md) (C := R_Di) (T := F_Di) (N := 9) hx hb hts ig_Di hown hK hH f_x rfl 3 (by decide) (hts _ mw_269) (fun _ h9 => h9) rfl d_Di_byteAt_1 ?_
  refine lv_iload_n hx hb d_Di_byteAt_4 rfl (lv_at hl 1 rfl) ?_
  refine hm_calli (va_runV (As := [.int a9]) (b := md) (rest := []) ⟨hx, hb, hml, hown, hts⟩ (c_Medium_fetch l D t G ak av h md sa n fa a9 f_md f_sa hrow hn) ⟨cw9B 1 hts mw_296 mw_297 mw_163 rfl rfl (by decide +kernel) ⟨Nat.le_of_ble_eq_true rfl, Nat.le_of_ble_eq_true rfl⟩, hts _ mw_298, hts _ mw_299⟩ (hP_V (q := (R_Me, F_Me, 2)) kE_ok hE hK hH f_md rfl) rfl rfl hl.1 rfl (lv_room (Nat.le_of_ble_eq_true rfl)) d_Di_byteAt_5 ⟨Nat.le_of_ble_eq_true rfl, Nat.le_of_ble_eq_true rfl⟩) hLo (fun r1 h2 H3 locs hp5 hH z4 hLo => ?_)
  have hz : s.heap.size ≤ H3.size := Nat.le_trans hz z4
  obtain ⟨rfl, rfl⟩ := hp5
  exact W.iret (v := bytV n a9) hx hb hr (fun t9 ht hW => ⟨bytV n a9, h, rfl, rfl, by rw [ht]; exact hH, by rw [ht]; exact hz⟩) hLo d_Di_byteAt_8

set_option maxHeartbeats 4000000 in
set_option maxRecDepth 100000 in
theorem c_Medium_written (l : Launch) (D : va_G) (t : Nat → ClassId) (G : hG) (ak av : Nat → Nat) (h : hM) (md sa n : Nat) (fa : Nat → Option Nat) (sx : Int32) (f_md : h md = some (.inr (0, [.ref sa, .int (nI 0)]))) (f_sa : h sa = some (.inl ((t 5), n, .inr (.inr (.inr (.inr fa)))))) (hrow : rowP (.inr (6, [.int 0, .int 0, .null])) fa 0 n h) (hn : n ≤ 200) : Met l y_Me_isWritten (.code y_Me_isWritten b_Me_isWritten 2 (some .boolean) :: lw_g) { frames := 0, cells := 0, slots := 0, locals := 0 } (hP (kE D t G ak av) D vwCl G h [.ref md, .int sx]) (hQi D vwCl G (fun r h' => r = 0 ∧ h = h')) 0 0 G.P := by
  refine Met.ofW (cc := b_Me_isWritten) (maxL := 2) (ret := (some .boolean)) (by decide) rfl ?_
  intro p e s m args below meth c s₁ Bd hml hv
  obtain ⟨ha, hE, hH⟩ := hv
  have hx := Bd.exec
  have hb := Bd.bytes
  have hr := Bd.returns
  have hts : ∀ w ∈ lw_g, w.before args s = true := fun w hw => atoms_spec (ws := (.code y_Me_isWritten b_Me_isWritten 2 (some .boolean) :: lw_g)) Bd.pre w (List.mem_cons_of_mem _ hw)
  have hown : s.vm.findClass R_Me = some m.cls := findClass_of_methodNamed Bd.named
  have hlocks := Bd.notSynchronized
  have hK := hE.1
  have hH0 := hH
  have hLo : hLc G.P [] := hLc_nil
  have hz : s.heap.size ≤ s.heap.size := Nat.le_refl _
  have hkp : kp [] h h := kp_rf
  have hl := lv_entry [.ref md, .int sx] (n := 2) (Nat.le_of_ble_eq_true rfl)
  rw [show entryFrame m args 2 = F0 m 0 ((lg_sl [.ref md, .int sx] ++ List.replicate (2 - (lg_sl [.ref md, .int sx]).length) Slot.unset).toArray) [] from (by rw [ha]; exact lg_entry_eq m [.ref md, .int sx] 2)]
  generalize (lg_sl [.ref md, .int sx] ++ List.replicate (2 - (lg_sl [.ref md, .int sx]).length) Slot.unset).toArray = ls at hl ⊢
  have hl : lv_has ls 2 [(0, .ref md), (1, .int sx)] := hl
  refine lv_iload_n hx hb d_Me_isWritten_0 rfl (lv_at hl 1 rfl) ?_
  refine lv_if_lt (tgt := 30) hx hb d_Me_isWritten_1 (by decide) (fun hc1 => ?_) (fun hc1 => ?_)
  · skip
    refine lv_iconst (v := 0) hx hb d_Me_isWritten_30 (by decide) ?_
    exact W.zret (v := 0) hx hb hr (by decide) (fun t9 ht hW => ⟨0, h, rfl, ⟨rfl, rfl⟩, by rw [ht]; exact hH, by rw [ht]; exact hz⟩) hLo d_Me_isWritten_31
  · skip
    refine lv_iload_n hx hb d_Me_isWritten_4 rfl (lv_at hl 1 rfl) ?_
    refine lv_aload_n hx hb d_Me_isWritten_5 rfl (lv_at hl 0 rfl) ?_
    refine hm_get (ci := 0) (v := .ref sa) (C := R_Me) (T := F_Me) (N := 2) hx hb hts ig_Me hown hK hH f_md rfl 0 (by decide) (hts _ mw_28) (fun _ h9 => h9) rfl d_Me_isWritten_6 ?_
    refine hm_alen (v := nI n) hx hb hK hH 5 f_sa (ty := (.object "WriteOnceDisc$Sector")) rfl rfl d_Me_isWritten_9 ?_
    refine lv_icmp_ge (tgt := 30) hx hb d_Me_isWritten_10 (by decide) (fun hc2 => ?_) (fun hc2 => ?_)
    · skip
      refine lv_iconst (v := 0) hx hb d_Me_isWritten_30 (by decide) ?_
      exact W.zret (v := 0) hx hb hr (by decide) (fun t9 ht hW => ⟨0, h, rfl, ⟨rfl, rfl⟩, by rw [ht]; exact hH, by rw [ht]; exact hz⟩) hLo d_Me_isWritten_31
    · skip
      obtain ⟨j, hj, hje, -⟩ := pk_mu hc1 hc2 (by omega)
      obtain ⟨sc, hsc, f_sc⟩ := hrow.2 j (Nat.zero_le _) hj
      refine lv_aload_n hx hb d_Me_isWritten_13 rfl (lv_at hl 0 rfl) ?_
      refine hm_get (ci := 0) (v := .ref sa) (C := R_Me) (T := F_Me) (N := 2) hx hb hts ig_Me hown hK hH f_md rfl 0 (by decide) (hts _ mw_28) (fun _ h9 => h9) rfl d_Me_isWritten_14 ?_
      refine lv_iload_n hx hb d_Me_isWritten_17 rfl (lv_at hl 1 rfl) ?_
      refine hj_aald (v := .ref sc) hx hb hK hH 5 f_sa (C := R_Se) rfl j hje hj (by omega) (by rw [hsc]; rfl) d_Me_isWritten_18 ?_
      refine hm_get (ci := 6) (v := .int 0) (C := R_Se) (T := F_Se) (N := 3) hx hb hts ig_Se hown hK hH f_sc rfl 0 (by decide) (hts _ mw_179) (fun _ h9 => h9) rfl d_Me_isWritten_19 ?_
      refine lv_iconst (v := 1) hx hb d_Me_isWritten_22 (by decide) ?_
      refine lv_icmp_ne (tgt := 30) hx hb d_Me_isWritten_23 (by decide) (fun hc3 => ?_) (fun hc3 => absurd hc3 (by decide))
      refine lv_iconst (v := 0) hx hb d_Me_isWritten_30 (by decide) ?_
      exact W.zret (v := 0) hx hb hr (by decide) (fun t9 ht hW => ⟨0, h, rfl, ⟨rfl, rfl⟩, by rw [ht]; exact hH, by rw [ht]; exact hz⟩) hLo d_Me_isWritten_31

set_option maxHeartbeats 4000000 in
set_option maxRecDepth 100000 in
theorem c_Medium_change (l : Launch) (D : va_G) (t : Nat → ClassId) (G : hG) (ak av : Nat → Nat) (h : hM) (md sa n : Nat) (fa : Nat → Option Nat) (a9 vv : Int32) (f_md : h md = some (.inr (0, [.ref sa, .int (nI 0)]))) (f_sa : h sa = some (.inl ((t 5), n, .inr (.inr (.inr (.inr fa)))))) (hrow : rowP (.inr (6, [.int 0, .int 0, .null])) fa 0 n h) (hn : n ≤ 200) : Met l y_Me_change (.code y_Me_change b_Me_change 5 (some .int) :: lw_g) { frames := 1, cells := 0, slots := 0, locals := 23 } (hP (kE D t G ak av) D vwCl G h [.ref md, .int a9, .int vv]) (hQi D vwCl G (fun r h' => r = -1 ∧ h = h')) 0 0 G.P := by
  refine Met.ofW (cc := b_Me_change) (maxL := 5) (ret := (some .int)) (by decide) rfl ?_
  intro p e s m args below meth c s₁ Bd hml hv
  obtain ⟨ha, hE, hH⟩ := hv
  have hx := Bd.exec
  have hb := Bd.bytes
  have hr := Bd.returns
  have hts : ∀ w ∈ lw_g, w.before args s = true := fun w hw => atoms_spec (ws := (.code y_Me_change b_Me_change 5 (some .int) :: lw_g)) Bd.pre w (List.mem_cons_of_mem _ hw)
  have hown : s.vm.findClass R_Me = some m.cls := findClass_of_methodNamed Bd.named
  have hlocks := Bd.notSynchronized
  have hK := hE.1
  have hH0 := hH
  have hLo : hLc G.P [] := hLc_nil
  have hz : s.heap.size ≤ s.heap.size := Nat.le_refl _
  have hkp : kp [] h h := kp_rf
  have hl := lv_entry [.ref md, .int a9, .int vv] (n := 5) (Nat.le_of_ble_eq_true rfl)
  rw [show entryFrame m args 5 = F0 m 0 ((lg_sl [.ref md, .int a9, .int vv] ++ List.replicate (5 - (lg_sl [.ref md, .int a9, .int vv]).length) Slot.unset).toArray) [] from (by rw [ha]; exact lg_entry_eq m [.ref md, .int a9, .int vv] 5)]
  generalize (lg_sl [.ref md, .int a9, .int vv] ++ List.replicate (5 - (lg_sl [.ref md, .int a9, .int vv]).length) Slot.unset).toArray = ls at hl ⊢
  have hl : lv_has ls 5 [(0, .ref md), (1, .int a9), (2, .int vv)] := hl
  refine lv_aload_n hx hb d_Me_change_0 rfl (lv_at hl 0 rfl) ?_
  refine lv_iload_n hx hb d_Me_change_1 rfl (lv_at hl 1 rfl) ?_
  refine hm_calli (va_runV (As := [.int a9]) (b := md) (rest := []) ⟨hx, hb, hml, hown, hts⟩ (c_Medium_fetch l D t G ak av h md sa n fa a9 f_md f_sa hrow hn) ⟨cw9B 1 hts mw_296 mw_300 mw_163 rfl rfl (by decide +kernel) ⟨Nat.le_of_ble_eq_true rfl, Nat.le_of_ble_eq_true rfl⟩, hts _ mw_298, hts _ mw_299⟩ (hP_V (q := (R_Me, F_Me, 2)) kE_ok hE hK hH f_md rfl) rfl rfl hl.1 rfl (lv_room (Nat.le_of_ble_eq_true rfl)) d_Me_change_2 ⟨Nat.le_of_ble_eq_true rfl, Nat.le_of_ble_eq_true rfl⟩) hLo (fun r1 h2 H3 locs hp5 hH z4 hLo => ?_)
  have hz : s.heap.size ≤ H3.size := Nat.le_trans hz z4
  obtain ⟨rfl, rfl⟩ := hp5
  refine lv_istore_n (lv' := [(3, .int (bytV n a9)), (0, .ref md), (1, .int a9), (2, .int vv)]) hx hb d_Me_change_5 rfl hl (by decide) rfl (fun ls hl => ?_)
  refine lv_iload_n hx hb d_Me_change_6 rfl (lv_at hl 2 rfl) ?_
  refine lv_sipush (v := 2048) hx hb d_Me_change_7 (by decide) ?_
  refine lv_idiv hx hb d_Me_change_10 (by decide) ?_
  refine lv_istore (lv' := [(4, .int (a9 / 2048)), (3, .int (bytV n a9)), (0, .ref md), (1, .int a9), (2, .int vv)]) hx hb d_Me_change_11 hl (by decide) rfl (fun ls hl => ?_)
  refine lv_iload_n hx hb d_Me_change_13 rfl (lv_at hl 1 rfl) ?_
  refine lv_iconst (v := -1) hx hb d_Me_change_14 (by decide) ?_
  refine lv_icmp_eq (tgt := 40) hx hb d_Me_change_15 (by decide) (fun hc6 => ?_) (fun hc6 => ?_)
  · skip
    refine lv_iconst (v := -1) hx hb d_Me_change_40 (by decide) ?_
    exact W.iret (v := (-1)) hx hb hr (fun t9 ht hW => ⟨(-1), h, rfl, ⟨rfl, rfl⟩, by rw [ht]; exact hH, by rw [ht]; exact hz⟩) hLo d_Me_change_41
  · skip
    refine lv_aload_n hx hb d_Me_change_18 rfl (lv_at hl 2 rfl) ?_
    refine lv_iload hx hb d_Me_change_19 (lv_at hl 0 rfl) ?_
    refine hm_calli (va_runV (As := [.int (a9 / 2048)]) (b := md) (rest := []) ⟨hx, hb, hml, hown, hts⟩ (c_Medium_written l D t G ak av h md sa n fa (a9 / 2048) f_md f_sa hrow hn) ⟨cw9B 1 hts mw_301 mw_302 mw_163 rfl rfl (by decide +kernel) ⟨Nat.le_of_ble_eq_true rfl, Nat.le_of_ble_eq_true rfl⟩, hts _ mw_303, hts _ mw_304⟩ (hP_V (q := (R_Me, F_Me, 2)) kE_ok hE hK hH f_md rfl) rfl rfl hl.1 rfl (lv_room (Nat.le_of_ble_eq_true rfl)) d_Me_change_21 ⟨Nat.le_of_ble_eq_true rfl, Nat.le_of_ble_eq_true rfl⟩) hLo (fun r7 h8 H9 locs hp11 hH z10 hLo => ?_)
    have hz : s.heap.size ≤ H9.size := Nat.le_trans hz z10
    obtain ⟨rfl, rfl⟩ := hp11
    refine lv_if_eq (tgt := 40) hx hb d_Me_change_24 (by decide) (fun hc12 => ?_) (fun hc12 => absurd rfl hc12)
    refine lv_iconst (v := -1) hx hb d_Me_change_40 (by decide) ?_
    exact W.iret (v := (-1)) hx hb hr (fun t9 ht hW => ⟨(-1), h, rfl, ⟨rfl, rfl⟩, by rw [ht]; exact hH, by rw [ht]; exact hz⟩) hLo d_Me_change_41

set_option maxHeartbeats 4000000 in
set_option maxRecDepth 100000 in
theorem c_x_spoil (l : Launch) (D : va_G) (t : Nat → ClassId) (G : hG) (ak av : Nat → Nat) (h : hM) (x n : Nat) (a9 vv : Int32) (hX : FrX t h x n) : Met l y_Di_spoil (.code y_Di_spoil b_Di_spoil 3 (some .int) :: lw_g) { frames := 2, cells := 0, slots := 0, locals := 47 } (hP (kE D t G ak av) D vwCl G h [.ref x, .int a9, .int vv]) (hQi D vwCl G (fun r h' => r = -1)) 0 0 G.P := by
  refine Met.ofW (cc := b_Di_spoil) (maxL := 3) (ret := (some .int)) (by decide) rfl ?_
  intro p e s m args below meth c s₁ Bd hml hv
  obtain ⟨ha, hE, hH⟩ := hv
  have hx := Bd.exec
  have hb := Bd.bytes
  have hr := Bd.returns
  have hts : ∀ w ∈ lw_g, w.before args s = true := fun w hw => atoms_spec (ws := (.code y_Di_spoil b_Di_spoil 3 (some .int) :: lw_g)) Bd.pre w (List.mem_cons_of_mem _ hw)
  have hown : s.vm.findClass R_Di = some m.cls := findClass_of_methodNamed Bd.named
  have hlocks := Bd.notSynchronized
  have hK := hE.1
  have hH0 := hH
  have hLo : hLc G.P [] := hLc_nil
  have hz : s.heap.size ≤ s.heap.size := Nat.le_refl _
  have hkp : kp [] h h := kp_rf
  have hl := lv_entry [.ref x, .int a9, .int vv] (n := 3) (Nat.le_of_ble_eq_true rfl)
  rw [show entryFrame m args 3 = F0 m 0 ((lg_sl [.ref x, .int a9, .int vv] ++ List.replicate (3 - (lg_sl [.ref x, .int a9, .int vv]).length) Slot.unset).toArray) [] from (by rw [ha]; exact lg_entry_eq m [.ref x, .int a9, .int vv] 3)]
  generalize (lg_sl [.ref x, .int a9, .int vv] ++ List.replicate (3 - (lg_sl [.ref x, .int a9, .int vv]).length) Slot.unset).toArray = ls at hl ⊢
  have hl : lv_has ls 3 [(0, .ref x), (1, .int a9), (2, .int vv)] := hl
  obtain ⟨wr, rd, ns, op, sr, md, su, pg, pb, sl, od, sa, fs, g, fa, f_x, f_wr, f_su, f_pg, f_pb, f_ns, f_sl, f_od, hgf, hnd, f_md, f_sa, hrow, ne_sl_od, hn40, hn⟩ := hX
  obtain ⟨rt, hf0, f_rt⟩ := hnd.2 0 (by decide) (by decide)
  refine lv_aload_n hx hb d_Di_spoil_0 rfl (lv_at hl 0 rfl) ?_
  refine hm_get (ci := 8) (v := .ref md) (C := R_Di) (T := F_Di) (N := 9) hx hb hts ig_Di hown hK hH f_x rfl 3 (by decide) (hts _ mw_269) (fun _ h9 => h9) rfl d_Di_spoil_1 ?_
  refine lv_iload_n hx hb d_Di_spoil_4 rfl (lv_at hl 1 rfl) ?_
  refine lv_iload_n hx hb d_Di_spoil_5 rfl (lv_at hl 2 rfl) ?_
  refine hm_calli (va_runV (As := [.int a9, .int vv]) (b := md) (rest := []) ⟨hx, hb, hml, hown, hts⟩ (c_Medium_change l D t G ak av h md sa n fa a9 vv f_md f_sa hrow hn) ⟨cw9B 2 hts mw_305 mw_306 mw_163 rfl rfl (by decide +kernel) ⟨Nat.le_of_ble_eq_true rfl, Nat.le_of_ble_eq_true rfl⟩, hts _ mw_307, hts _ mw_308⟩ (hP_V (q := (R_Me, F_Me, 2)) kE_ok hE hK hH f_md rfl) rfl rfl hl.1 rfl (lv_room (Nat.le_of_ble_eq_true rfl)) d_Di_spoil_6 ⟨Nat.le_of_ble_eq_true rfl, Nat.le_of_ble_eq_true rfl⟩) hLo (fun r1 h2 H3 locs hp5 hH z4 hLo => ?_)
  have hz : s.heap.size ≤ H3.size := Nat.le_trans hz z4
  obtain ⟨rfl, rfl⟩ := hp5
  exact W.iret (v := (-1)) hx hb hr (fun t9 ht hW => ⟨(-1), h, rfl, rfl, by rw [ht]; exact hH, by rw [ht]; exact hz⟩) hLo d_Di_spoil_9

set_option maxHeartbeats 4000000 in
set_option maxRecDepth 100000 in
theorem c_Medium_somark (l : Launch) (D : va_G) (t : Nat → ClassId) (G : hG) (ak av : Nat → Nat) (h : hM) (md sa n : Nat) (fa : Nat → Option Nat) (i9 : Int32) (f_md : h md = some (.inr (0, [.ref sa, .int (nI 0)]))) (f_sa : h sa = some (.inl ((t 5), n, .inr (.inr (.inr (.inr fa)))))) : Met l y_Me_sectorOfMark (.code y_Me_sectorOfMark b_Me_sectorOfMark 4 (some .int) :: lw_g) { frames := 0, cells := 0, slots := 0, locals := 0 } (hP (kE D t G ak av) D vwCl G h [.ref md, .int i9]) (hQi D vwCl G (fun r h' => r = -1 ∧ h = h')) 0 0 G.P := by
  refine Met.ofW (cc := b_Me_sectorOfMark) (maxL := 4) (ret := (some .int)) (by decide) rfl ?_
  intro p e s m args below meth c s₁ Bd hml hv
  obtain ⟨ha, hE, hH⟩ := hv
  have hx := Bd.exec
  have hb := Bd.bytes
  have hr := Bd.returns
  have hts : ∀ w ∈ lw_g, w.before args s = true := fun w hw => atoms_spec (ws := (.code y_Me_sectorOfMark b_Me_sectorOfMark 4 (some .int) :: lw_g)) Bd.pre w (List.mem_cons_of_mem _ hw)
  have hown : s.vm.findClass R_Me = some m.cls := findClass_of_methodNamed Bd.named
  have hlocks := Bd.notSynchronized
  have hK := hE.1
  have hH0 := hH
  have hLo : hLc G.P [] := hLc_nil
  have hz : s.heap.size ≤ s.heap.size := Nat.le_refl _
  have hkp : kp [] h h := kp_rf
  have hl := lv_entry [.ref md, .int i9] (n := 4) (Nat.le_of_ble_eq_true rfl)
  rw [show entryFrame m args 4 = F0 m 0 ((lg_sl [.ref md, .int i9] ++ List.replicate (4 - (lg_sl [.ref md, .int i9]).length) Slot.unset).toArray) [] from (by rw [ha]; exact lg_entry_eq m [.ref md, .int i9] 4)]
  generalize (lg_sl [.ref md, .int i9] ++ List.replicate (4 - (lg_sl [.ref md, .int i9]).length) Slot.unset).toArray = ls at hl ⊢
  have hl : lv_has ls 4 [(0, .ref md), (1, .int i9)] := hl
  refine lv_iconst (v := 0) hx hb d_Me_sectorOfMark_0 (by decide) ?_
  refine lv_istore_n (lv' := [(2, .int 0), (0, .ref md), (1, .int i9)]) hx hb d_Me_sectorOfMark_1 rfl hl (by decide) rfl (fun ls hl => ?_)
  refine lv_iconst (v := 0) hx hb d_Me_sectorOfMark_2 (by decide) ?_
  refine lv_istore_n (lv' := [(3, .int 0), (2, .int 0), (0, .ref md), (1, .int i9)]) hx hb d_Me_sectorOfMark_3 rfl hl (by decide) rfl (fun ls hl => ?_)
  refine lv_iload_n hx hb d_Me_sectorOfMark_4 rfl (lv_at hl 0 rfl) ?_
  refine lv_aload_n hx hb d_Me_sectorOfMark_5 rfl (lv_at hl 2 rfl) ?_
  refine hm_get (ci := 0) (v := .int (nI 0)) (C := R_Me) (T := F_Me) (N := 2) hx hb hts ig_Me hown hK hH f_md rfl 1 (by decide) (hts _ mw_26) (fun _ h9 => h9) rfl d_Me_sectorOfMark_6 ?_
  refine lv_icmp_ge (tgt := 36) hx hb d_Me_sectorOfMark_9 (by decide) (fun hc1 => ?_) (fun hc1 => absurd (by decide) hc1)
  refine lv_iconst (v := -1) hx hb d_Me_sectorOfMark_36 (by decide) ?_
  exact W.iret (v := (-1)) hx hb hr (fun t9 ht hW => ⟨(-1), h, rfl, ⟨rfl, rfl⟩, by rw [ht]; exact hH, by rw [ht]; exact hz⟩) hLo d_Me_sectorOfMark_37

set_option maxHeartbeats 4000000 in
set_option maxRecDepth 100000 in
theorem c_x_open (l : Launch) (D : va_G) (t : Nat → ClassId) (G : hG) (ak av : Nat → Nat) (h : hM) (x n : Nat) (i9 : Int32) (hX : FrX t h x n) : Met l y_Di_open (.code y_Di_open b_Di_open 5 (some .int) :: lw_g) { frames := 1, cells := 0, slots := 0, locals := 23 } (hP (kE D t G ak av) D vwCl G h [.ref x, .int i9]) (hQi D vwCl G (fun r h' => r = -1000000)) 0 0 G.P := by
  refine Met.ofW (cc := b_Di_open) (maxL := 5) (ret := (some .int)) (by decide) rfl ?_
  intro p e s m args below meth c s₁ Bd hml hv
  obtain ⟨ha, hE, hH⟩ := hv
  have hx := Bd.exec
  have hb := Bd.bytes
  have hr := Bd.returns
  have hts : ∀ w ∈ lw_g, w.before args s = true := fun w hw => atoms_spec (ws := (.code y_Di_open b_Di_open 5 (some .int) :: lw_g)) Bd.pre w (List.mem_cons_of_mem _ hw)
  have hown : s.vm.findClass R_Di = some m.cls := findClass_of_methodNamed Bd.named
  have hlocks := Bd.notSynchronized
  have hK := hE.1
  have hH0 := hH
  have hLo : hLc G.P [] := hLc_nil
  have hz : s.heap.size ≤ s.heap.size := Nat.le_refl _
  have hkp : kp [] h h := kp_rf
  have hl := lv_entry [.ref x, .int i9] (n := 5) (Nat.le_of_ble_eq_true rfl)
  rw [show entryFrame m args 5 = F0 m 0 ((lg_sl [.ref x, .int i9] ++ List.replicate (5 - (lg_sl [.ref x, .int i9]).length) Slot.unset).toArray) [] from (by rw [ha]; exact lg_entry_eq m [.ref x, .int i9] 5)]
  generalize (lg_sl [.ref x, .int i9] ++ List.replicate (5 - (lg_sl [.ref x, .int i9]).length) Slot.unset).toArray = ls at hl ⊢
  have hl : lv_has ls 5 [(0, .ref x), (1, .int i9)] := hl
  obtain ⟨wr, rd, ns, op, sr, md, su, pg, pb, sl, od, sa, fs, g, fa, f_x, f_wr, f_su, f_pg, f_pb, f_ns, f_sl, f_od, hgf, hnd, f_md, f_sa, hrow, ne_sl_od, hn40, hn⟩ := hX
  obtain ⟨rt, hf0, f_rt⟩ := hnd.2 0 (by decide) (by decide)
  refine lv_aload_n hx hb d_Di_open_0 rfl (lv_at hl 0 rfl) ?_
  refine hm_get (ci := 8) (v := .ref md) (C := R_Di) (T := F_Di) (N := 9) hx hb hts ig_Di hown hK hH f_x rfl 3 (by decide) (hts _ mw_269) (fun _ h9 => h9) rfl d_Di_open_1 ?_
  refine lv_iload_n hx hb d_Di_open_4 rfl (lv_at hl 1 rfl) ?_
  refine hm_calli (va_runV (As := [.int i9]) (b := md) (rest := []) ⟨hx, hb, hml, hown, hts⟩ (c_Medium_somark l D t G ak av h md sa n fa i9 f_md f_sa) ⟨cw9B 1 hts mw_309 mw_310 mw_163 rfl rfl (by decide +kernel) ⟨Nat.le_of_ble_eq_true rfl, Nat.le_of_ble_eq_true rfl⟩, hts _ mw_311, hts _ mw_312⟩ (hP_V (q := (R_Me, F_Me, 2)) kE_ok hE hK hH f_md rfl) rfl rfl hl.1 rfl (lv_room (Nat.le_of_ble_eq_true rfl)) d_Di_open_5 ⟨Nat.le_of_ble_eq_true rfl, Nat.le_of_ble_eq_true rfl⟩) hLo (fun r1 h2 H3 locs hp5 hH z4 hLo => ?_)
  have hz : s.heap.size ≤ H3.size := Nat.le_trans hz z4
  obtain ⟨rfl, rfl⟩ := hp5
  refine lv_istore_n (lv' := [(2, .int (-1)), (0, .ref x), (1, .int i9)]) hx hb d_Di_open_8 rfl hl (by decide) rfl (fun ls hl => ?_)
  refine lv_iload_n hx hb d_Di_open_9 rfl (lv_at hl 0 rfl) ?_
  refine lv_iconst (v := -1) hx hb d_Di_open_10 (by decide) ?_
  refine lv_icmp_ne (tgt := 17) hx hb d_Di_open_11 (by decide) (fun hc6 => absurd rfl hc6) (fun hc6 => ?_)
  refine lv_ldc (v := -1000000) hx hb hown (hts _ mw_313) d_Di_open_14 ?_
  exact W.iret (v := (-1000000)) hx hb hr (fun t9 ht hW => ⟨(-1000000), h, rfl, rfl, by rw [ht]; exact hH, by rw [ht]; exact hz⟩) hLo d_Di_open_16

set_option maxHeartbeats 4000000 in
set_option maxRecDepth 100000 in
theorem c_x_replace (l : Launch) (D : va_G) (t : Nat → ClassId) (G : hG) (ak av : Nat → Nat) (h : hM) (x n : Nat) (nu sz sd : Int32) (hX : FrX t h x n) : Met l y_Di_replace (.code y_Di_replace b_Di_replace 5 (some .int) :: lw_g) { frames := 1, cells := 0, slots := 0, locals := 22 } (hP (kE D t G ak av) D vwCl G h [.ref x, .int nu, .int sz, .int sd]) (hQi D vwCl G (fun r h' => r = -2)) 0 0 G.P := by
  refine Met.ofW (cc := b_Di_replace) (maxL := 5) (ret := (some .int)) (by decide) rfl ?_
  intro p e s m args below meth c s₁ Bd hml hv
  obtain ⟨ha, hE, hH⟩ := hv
  have hx := Bd.exec
  have hb := Bd.bytes
  have hr := Bd.returns
  have hts : ∀ w ∈ lw_g, w.before args s = true := fun w hw => atoms_spec (ws := (.code y_Di_replace b_Di_replace 5 (some .int) :: lw_g)) Bd.pre w (List.mem_cons_of_mem _ hw)
  have hown : s.vm.findClass R_Di = some m.cls := findClass_of_methodNamed Bd.named
  have hlocks := Bd.notSynchronized
  have hK := hE.1
  have hH0 := hH
  have hLo : hLc G.P [] := hLc_nil
  have hz : s.heap.size ≤ s.heap.size := Nat.le_refl _
  have hkp : kp [] h h := kp_rf
  have hl := lv_entry [.ref x, .int nu, .int sz, .int sd] (n := 5) (Nat.le_of_ble_eq_true rfl)
  rw [show entryFrame m args 5 = F0 m 0 ((lg_sl [.ref x, .int nu, .int sz, .int sd] ++ List.replicate (5 - (lg_sl [.ref x, .int nu, .int sz, .int sd]).length) Slot.unset).toArray) [] from (by rw [ha]; exact lg_entry_eq m [.ref x, .int nu, .int sz, .int sd] 5)]
  generalize (lg_sl [.ref x, .int nu, .int sz, .int sd] ++ List.replicate (5 - (lg_sl [.ref x, .int nu, .int sz, .int sd]).length) Slot.unset).toArray = ls at hl ⊢
  have hl : lv_has ls 5 [(0, .ref x), (1, .int nu), (2, .int sz), (3, .int sd)] := hl
  obtain ⟨wr, rd, ns, op, sr, md, su, pg, pb, sl, od, sa, fs, g, fa, f_x, f_wr, f_su, f_pg, f_pb, f_ns, f_sl, f_od, hgf, hnd, f_md, f_sa, hrow, ne_sl_od, hn40, hn⟩ := hX
  obtain ⟨rt, hf0, f_rt⟩ := hnd.2 0 (by decide) (by decide)
  refine lv_aload_n hx hb d_Di_replace_0 rfl (lv_at hl 0 rfl) ?_
  refine hm_get (ci := 8) (v := .ref wr) (C := R_Di) (T := F_Di) (N := 9) hx hb hts ig_Di hown hK hH f_x rfl 0 (by decide) (hts _ mw_246) (fun _ h9 => h9) rfl d_Di_replace_1 ?_
  refine hm_get (ci := 7) (v := .ref su) (C := R_Wr) (T := F_Wr) (N := 2) hx hb hts ig_Wr hown hK hH f_wr rfl 0 (by decide) (hts _ mw_290) (fun _ h9 => h9) rfl d_Di_replace_4 ?_
  refine hm_get (ci := 4) (v := .int 0) (C := R_Po) (T := F_Po) (N := 3) hx hb hts ig_Po hown hK hH f_su rfl 1 (by decide) (hts _ mw_314) (fun _ h9 => h9) rfl d_Di_replace_7 ?_
  refine lv_if_eq (tgt := 16) hx hb d_Di_replace_10 (by decide) (fun hc1 => ?_) (fun hc1 => absurd rfl hc1)
  refine lv_aload_n hx hb d_Di_replace_16 rfl (lv_at hl 0 rfl) ?_
  refine hm_get (ci := 8) (v := .ref ns) (C := R_Di) (T := F_Di) (N := 9) hx hb hts ig_Di hown hK hH f_x rfl 2 (by decide) (hts _ mw_258) (fun _ h9 => h9) rfl d_Di_replace_17 ?_
  refine lv_iload_n hx hb d_Di_replace_20 rfl (lv_at hl 1 rfl) ?_
  by_cases hin : nu = 0
  · skip
    refine hm_callr (va_runV (As := [.int nu]) (b := ns) (rest := []) ⟨hx, hb, hml, hown, hts⟩ (c_Nodes_nodeOf l D t G ak av h ns sl od rt fs 0 1 nu f_ns f_sl f_rt hf0) ⟨cw9B 1 hts mw_274 mw_315 mw_187 rfl rfl (by decide +kernel) ⟨Nat.le_of_ble_eq_true rfl, Nat.le_of_ble_eq_true rfl⟩, hts _ mw_276, hts _ mw_277⟩ (hP_V (q := (R_Ns, F_Ns, 4)) kE_ok hE hK hH f_ns rfl) rfl rfl hl.1 rfl (lv_room (Nat.le_of_ble_eq_true rfl)) d_Di_replace_21 ⟨Nat.le_of_ble_eq_true rfl, Nat.le_of_ble_eq_true rfl⟩) hLo (fun r2 h3 H4 locs hp6 hH z5 hLo => ?_)
    have hz : s.heap.size ≤ H4.size := Nat.le_trans hz z5
    obtain ⟨hr9, rfl⟩ := hp6
    rw [if_pos hin] at hr9
    subst hr9
    refine W.eq (g2 := F0 m 24 ls [.ref rt]) rfl ?_
    refine lv_astore (lv' := [(4, .ref rt), (0, .ref x), (1, .int nu), (2, .int sz), (3, .int sd)]) hx hb d_Di_replace_24 hl (by decide) rfl (fun ls hl => ?_)
    refine lv_aload hx hb d_Di_replace_26 (lv_at hl 0 rfl) ?_
    refine lv_ifnull hx hb d_Di_replace_28 ?_
    refine lv_aload hx hb d_Di_replace_31 (lv_at hl 0 rfl) ?_
    refine hm_get (ci := 1) (v := .int 1) (C := R_No) (T := F_No) (N := 11) hx hb hts ig_No hown hK hH f_rt rfl 2 (by decide) (hts _ mw_316) (fun _ h9 => h9) rfl d_Di_replace_33 ?_
    refine lv_if_ne (tgt := 47) hx hb d_Di_replace_36 (by decide) (fun hc7 => ?_) (fun hc7 => absurd hc7 (by decide))
    refine lv_bipush (v := -2) hx hb d_Di_replace_47 (by decide) ?_
    exact W.iret (v := (-2)) hx hb hr (fun t9 ht hW => ⟨(-2), h, rfl, rfl, by rw [ht]; exact hH, by rw [ht]; exact hz⟩) hLo d_Di_replace_49
  · skip
    refine hm_callr (va_runV (As := [.int nu]) (b := ns) (rest := []) ⟨hx, hb, hml, hown, hts⟩ (c_Nodes_nodeOf l D t G ak av h ns sl od rt fs 0 1 nu f_ns f_sl f_rt hf0) ⟨cw9B 1 hts mw_274 mw_315 mw_187 rfl rfl (by decide +kernel) ⟨Nat.le_of_ble_eq_true rfl, Nat.le_of_ble_eq_true rfl⟩, hts _ mw_276, hts _ mw_277⟩ (hP_V (q := (R_Ns, F_Ns, 4)) kE_ok hE hK hH f_ns rfl) rfl rfl hl.1 rfl (lv_room (Nat.le_of_ble_eq_true rfl)) d_Di_replace_21 ⟨Nat.le_of_ble_eq_true rfl, Nat.le_of_ble_eq_true rfl⟩) hLo (fun r8 h9 H10 locs hp12 hH z11 hLo => ?_)
    have hz : s.heap.size ≤ H10.size := Nat.le_trans hz z11
    obtain ⟨hr9, rfl⟩ := hp12
    rw [if_neg hin] at hr9
    subst hr9
    refine W.eq (g2 := F0 m 24 ls [.null]) rfl ?_
    refine lv_astoreN (lv' := [(4, .null), (0, .ref x), (1, .int nu), (2, .int sz), (3, .int sd)]) hx hb d_Di_replace_24 hl (by decide) rfl (fun ls hl => ?_)
    refine lv_aloadN hx hb d_Di_replace_26 (lv_at hl 0 rfl) ?_
    refine lv_ifnullN (tgt := 47) hx hb d_Di_replace_28 (by decide) ?_
    refine lv_bipush (v := -2) hx hb d_Di_replace_47 (by decide) ?_
    exact W.iret (v := (-2)) hx hb hr (fun t9 ht hW => ⟨(-2), h, rfl, rfl, by rw [ht]; exact hH, by rw [ht]; exact hz⟩) hLo d_Di_replace_49

set_option maxHeartbeats 4000000 in
set_option maxRecDepth 100000 in
theorem c_x_remove (l : Launch) (D : va_G) (t : Nat → ClassId) (G : hG) (ak av : Nat → Nat) (h : hM) (x n : Nat) (nu : Int32) (hX : FrX t h x n) : Met l y_Di_remove (.code y_Di_remove b_Di_remove 3 (some .int) :: lw_g) { frames := 1, cells := 0, slots := 0, locals := 22 } (hP (kE D t G ak av) D vwCl G h [.ref x, .int nu]) (hQi D vwCl G (fun r h' => r = -2)) 0 0 G.P := by
  refine Met.ofW (cc := b_Di_remove) (maxL := 3) (ret := (some .int)) (by decide) rfl ?_
  intro p e s m args below meth c s₁ Bd hml hv
  obtain ⟨ha, hE, hH⟩ := hv
  have hx := Bd.exec
  have hb := Bd.bytes
  have hr := Bd.returns
  have hts : ∀ w ∈ lw_g, w.before args s = true := fun w hw => atoms_spec (ws := (.code y_Di_remove b_Di_remove 3 (some .int) :: lw_g)) Bd.pre w (List.mem_cons_of_mem _ hw)
  have hown : s.vm.findClass R_Di = some m.cls := findClass_of_methodNamed Bd.named
  have hlocks := Bd.notSynchronized
  have hK := hE.1
  have hH0 := hH
  have hLo : hLc G.P [] := hLc_nil
  have hz : s.heap.size ≤ s.heap.size := Nat.le_refl _
  have hkp : kp [] h h := kp_rf
  have hl := lv_entry [.ref x, .int nu] (n := 3) (Nat.le_of_ble_eq_true rfl)
  rw [show entryFrame m args 3 = F0 m 0 ((lg_sl [.ref x, .int nu] ++ List.replicate (3 - (lg_sl [.ref x, .int nu]).length) Slot.unset).toArray) [] from (by rw [ha]; exact lg_entry_eq m [.ref x, .int nu] 3)]
  generalize (lg_sl [.ref x, .int nu] ++ List.replicate (3 - (lg_sl [.ref x, .int nu]).length) Slot.unset).toArray = ls at hl ⊢
  have hl : lv_has ls 3 [(0, .ref x), (1, .int nu)] := hl
  obtain ⟨wr, rd, ns, op, sr, md, su, pg, pb, sl, od, sa, fs, g, fa, f_x, f_wr, f_su, f_pg, f_pb, f_ns, f_sl, f_od, hgf, hnd, f_md, f_sa, hrow, ne_sl_od, hn40, hn⟩ := hX
  obtain ⟨rt, hf0, f_rt⟩ := hnd.2 0 (by decide) (by decide)
  refine lv_aload_n hx hb d_Di_remove_0 rfl (lv_at hl 0 rfl) ?_
  refine hm_get (ci := 8) (v := .ref wr) (C := R_Di) (T := F_Di) (N := 9) hx hb hts ig_Di hown hK hH f_x rfl 0 (by decide) (hts _ mw_246) (fun _ h9 => h9) rfl d_Di_remove_1 ?_
  refine hm_get (ci := 7) (v := .ref su) (C := R_Wr) (T := F_Wr) (N := 2) hx hb hts ig_Wr hown hK hH f_wr rfl 0 (by decide) (hts _ mw_290) (fun _ h9 => h9) rfl d_Di_remove_4 ?_
  refine hm_get (ci := 4) (v := .int 0) (C := R_Po) (T := F_Po) (N := 3) hx hb hts ig_Po hown hK hH f_su rfl 1 (by decide) (hts _ mw_314) (fun _ h9 => h9) rfl d_Di_remove_7 ?_
  refine lv_if_eq (tgt := 16) hx hb d_Di_remove_10 (by decide) (fun hc1 => ?_) (fun hc1 => absurd rfl hc1)
  refine lv_aload_n hx hb d_Di_remove_16 rfl (lv_at hl 0 rfl) ?_
  refine hm_get (ci := 8) (v := .ref ns) (C := R_Di) (T := F_Di) (N := 9) hx hb hts ig_Di hown hK hH f_x rfl 2 (by decide) (hts _ mw_258) (fun _ h9 => h9) rfl d_Di_remove_17 ?_
  refine lv_iload_n hx hb d_Di_remove_20 rfl (lv_at hl 1 rfl) ?_
  by_cases hin : nu = 0
  · skip
    refine hm_callr (va_runV (As := [.int nu]) (b := ns) (rest := []) ⟨hx, hb, hml, hown, hts⟩ (c_Nodes_nodeOf l D t G ak av h ns sl od rt fs 0 1 nu f_ns f_sl f_rt hf0) ⟨cw9B 1 hts mw_274 mw_315 mw_187 rfl rfl (by decide +kernel) ⟨Nat.le_of_ble_eq_true rfl, Nat.le_of_ble_eq_true rfl⟩, hts _ mw_276, hts _ mw_277⟩ (hP_V (q := (R_Ns, F_Ns, 4)) kE_ok hE hK hH f_ns rfl) rfl rfl hl.1 rfl (lv_room (Nat.le_of_ble_eq_true rfl)) d_Di_remove_21 ⟨Nat.le_of_ble_eq_true rfl, Nat.le_of_ble_eq_true rfl⟩) hLo (fun r2 h3 H4 locs hp6 hH z5 hLo => ?_)
    have hz : s.heap.size ≤ H4.size := Nat.le_trans hz z5
    obtain ⟨hr9, rfl⟩ := hp6
    rw [if_pos hin] at hr9
    subst hr9
    refine W.eq (g2 := F0 m 24 ls [.ref rt]) rfl ?_
    refine lv_astore_n (lv' := [(2, .ref rt), (0, .ref x), (1, .int nu)]) hx hb d_Di_remove_24 rfl hl (by decide) rfl (fun ls hl => ?_)
    refine lv_aload_n hx hb d_Di_remove_25 rfl (lv_at hl 0 rfl) ?_
    refine lv_ifnull hx hb d_Di_remove_26 ?_
    refine lv_aload_n hx hb d_Di_remove_29 rfl (lv_at hl 0 rfl) ?_
    refine hm_get (ci := 1) (v := .null) (C := R_No) (T := F_No) (N := 11) hx hb hts ig_No hown hK hH f_rt rfl 1 (by decide) (hts _ mw_317) (fun _ h9 => h9) rfl d_Di_remove_30 ?_
    refine lv_ifnullN (tgt := 47) hx hb d_Di_remove_33 (by decide) ?_
    refine lv_bipush (v := -2) hx hb d_Di_remove_47 (by decide) ?_
    exact W.iret (v := (-2)) hx hb hr (fun t9 ht hW => ⟨(-2), h, rfl, rfl, by rw [ht]; exact hH, by rw [ht]; exact hz⟩) hLo d_Di_remove_49
  · skip
    refine hm_callr (va_runV (As := [.int nu]) (b := ns) (rest := []) ⟨hx, hb, hml, hown, hts⟩ (c_Nodes_nodeOf l D t G ak av h ns sl od rt fs 0 1 nu f_ns f_sl f_rt hf0) ⟨cw9B 1 hts mw_274 mw_315 mw_187 rfl rfl (by decide +kernel) ⟨Nat.le_of_ble_eq_true rfl, Nat.le_of_ble_eq_true rfl⟩, hts _ mw_276, hts _ mw_277⟩ (hP_V (q := (R_Ns, F_Ns, 4)) kE_ok hE hK hH f_ns rfl) rfl rfl hl.1 rfl (lv_room (Nat.le_of_ble_eq_true rfl)) d_Di_remove_21 ⟨Nat.le_of_ble_eq_true rfl, Nat.le_of_ble_eq_true rfl⟩) hLo (fun r7 h8 H9 locs hp11 hH z10 hLo => ?_)
    have hz : s.heap.size ≤ H9.size := Nat.le_trans hz z10
    obtain ⟨hr9, rfl⟩ := hp11
    rw [if_neg hin] at hr9
    subst hr9
    refine W.eq (g2 := F0 m 24 ls [.null]) rfl ?_
    refine lv_astore_nN (lv' := [(2, .null), (0, .ref x), (1, .int nu)]) hx hb d_Di_remove_24 rfl hl (by decide) rfl (fun ls hl => ?_)
    refine lv_aload_nN hx hb d_Di_remove_25 rfl (lv_at hl 0 rfl) ?_
    refine lv_ifnullN (tgt := 47) hx hb d_Di_remove_26 (by decide) ?_
    refine lv_bipush (v := -2) hx hb d_Di_remove_47 (by decide) ?_
    exact W.iret (v := (-2)) hx hb hr (fun t9 ht hW => ⟨(-2), h, rfl, rfl, by rw [ht]; exact hH, by rw [ht]; exact hz⟩) hLo d_Di_remove_49

set_option maxHeartbeats 4000000 in
set_option maxRecDepth 100000 in
theorem c_x_rename (l : Launch) (D : va_G) (t : Nat → ClassId) (G : hG) (ak av : Nat → Nat) (h : hM) (x n : Nat) (nu nu2 : Int32) (wo : Int64) (hX : FrX t h x n) : Met l y_Di_rename (.code y_Di_rename b_Di_rename 9 (some .int) :: lw_g) { frames := 2, cells := 0, slots := 0, locals := 45 } (hP (kE D t G ak av) D vwCl G h [.ref x, .int nu, .int nu2, .long wo]) (hQi D vwCl G (fun r h' => r = -2)) 0 0 G.P := by
  refine Met.ofW (cc := b_Di_rename) (maxL := 9) (ret := (some .int)) (by decide) rfl ?_
  intro p e s m args below meth c s₁ Bd hml hv
  obtain ⟨ha, hE, hH⟩ := hv
  have hx := Bd.exec
  have hb := Bd.bytes
  have hr := Bd.returns
  have hts : ∀ w ∈ lw_g, w.before args s = true := fun w hw => atoms_spec (ws := (.code y_Di_rename b_Di_rename 9 (some .int) :: lw_g)) Bd.pre w (List.mem_cons_of_mem _ hw)
  have hown : s.vm.findClass R_Di = some m.cls := findClass_of_methodNamed Bd.named
  have hlocks := Bd.notSynchronized
  have hK := hE.1
  have hH0 := hH
  have hLo : hLc G.P [] := hLc_nil
  have hz : s.heap.size ≤ s.heap.size := Nat.le_refl _
  have hkp : kp [] h h := kp_rf
  have hl := lv_entry [.ref x, .int nu, .int nu2, .long wo] (n := 9) (Nat.le_of_ble_eq_true rfl)
  rw [show entryFrame m args 9 = F0 m 0 ((lg_sl [.ref x, .int nu, .int nu2, .long wo] ++ List.replicate (9 - (lg_sl [.ref x, .int nu, .int nu2, .long wo]).length) Slot.unset).toArray) [] from (by rw [ha]; exact lg_entry_eq m [.ref x, .int nu, .int nu2, .long wo] 9)]
  generalize (lg_sl [.ref x, .int nu, .int nu2, .long wo] ++ List.replicate (9 - (lg_sl [.ref x, .int nu, .int nu2, .long wo]).length) Slot.unset).toArray = ls at hl ⊢
  have hl : lv_has ls 9 [(0, .ref x), (1, .int nu), (2, .int nu2), (3, .long wo)] := hl
  obtain ⟨wr, rd, ns, op, sr, md, su, pg, pb, sl, od, sa, fs, g, fa, f_x, f_wr, f_su, f_pg, f_pb, f_ns, f_sl, f_od, hgf, hnd, f_md, f_sa, hrow, ne_sl_od, hn40, hn⟩ := hX
  obtain ⟨rt, hf0, f_rt⟩ := hnd.2 0 (by decide) (by decide)
  refine lv_aload_n hx hb d_Di_rename_0 rfl (lv_at hl 0 rfl) ?_
  refine hm_get (ci := 8) (v := .ref wr) (C := R_Di) (T := F_Di) (N := 9) hx hb hts ig_Di hown hK hH f_x rfl 0 (by decide) (hts _ mw_246) (fun _ h9 => h9) rfl d_Di_rename_1 ?_
  refine hm_get (ci := 7) (v := .ref su) (C := R_Wr) (T := F_Wr) (N := 2) hx hb hts ig_Wr hown hK hH f_wr rfl 0 (by decide) (hts _ mw_290) (fun _ h9 => h9) rfl d_Di_rename_4 ?_
  refine hm_get (ci := 4) (v := .int 0) (C := R_Po) (T := F_Po) (N := 3) hx hb hts ig_Po hown hK hH f_su rfl 1 (by decide) (hts _ mw_314) (fun _ h9 => h9) rfl d_Di_rename_7 ?_
  refine lv_if_eq (tgt := 16) hx hb d_Di_rename_10 (by decide) (fun hc1 => ?_) (fun hc1 => absurd rfl hc1)
  refine lv_aload_n hx hb d_Di_rename_16 rfl (lv_at hl 0 rfl) ?_
  refine hm_get (ci := 8) (v := .ref ns) (C := R_Di) (T := F_Di) (N := 9) hx hb hts ig_Di hown hK hH f_x rfl 2 (by decide) (hts _ mw_258) (fun _ h9 => h9) rfl d_Di_rename_17 ?_
  refine lv_iload_n hx hb d_Di_rename_20 rfl (lv_at hl 1 rfl) ?_
  by_cases hin : nu = 0
  · skip
    refine hm_callr (va_runV (As := [.int nu]) (b := ns) (rest := []) ⟨hx, hb, hml, hown, hts⟩ (c_Nodes_nodeOf l D t G ak av h ns sl od rt fs 0 1 nu f_ns f_sl f_rt hf0) ⟨cw9B 1 hts mw_274 mw_315 mw_187 rfl rfl (by decide +kernel) ⟨Nat.le_of_ble_eq_true rfl, Nat.le_of_ble_eq_true rfl⟩, hts _ mw_276, hts _ mw_277⟩ (hP_V (q := (R_Ns, F_Ns, 4)) kE_ok hE hK hH f_ns rfl) rfl rfl hl.1 rfl (lv_room (Nat.le_of_ble_eq_true rfl)) d_Di_rename_21 ⟨Nat.le_of_ble_eq_true rfl, Nat.le_of_ble_eq_true rfl⟩) hLo (fun r2 h3 H4 locs hp6 hH z5 hLo => ?_)
    have hz : s.heap.size ≤ H4.size := Nat.le_trans hz z5
    obtain ⟨hr9, rfl⟩ := hp6
    rw [if_pos hin] at hr9
    subst hr9
    refine W.eq (g2 := F0 m 24 ls [.ref rt]) rfl ?_
    refine lv_astore (lv' := [(5, .ref rt), (0, .ref x), (1, .int nu), (2, .int nu2), (3, .long wo)]) hx hb d_Di_rename_24 hl (by decide) rfl (fun ls hl => ?_)
    refine lv_aload_n hx hb d_Di_rename_26 rfl (lv_at hl 1 rfl) ?_
    refine hm_get (ci := 8) (v := .ref ns) (C := R_Di) (T := F_Di) (N := 9) hx hb hts ig_Di hown hK hH f_x rfl 2 (by decide) (hts _ mw_258) (fun _ h9 => h9) rfl d_Di_rename_27 ?_
    refine lv_iload_n hx hb d_Di_rename_30 rfl (lv_at hl 3 rfl) ?_
    by_cases hin2 : nu2 = 0
    · skip
      refine hm_callr (va_runV (As := [.int nu2]) (b := ns) (rest := []) ⟨hx, hb, hml, hown, hts⟩ (c_Nodes_dirOf l D t G ak av h ns sl od rt fs 0 1 nu2 f_ns f_sl f_rt hf0) ⟨cw9B 1 hts mw_318 mw_319 mw_187 rfl rfl (by decide +kernel) ⟨Nat.le_of_ble_eq_true rfl, Nat.le_of_ble_eq_true rfl⟩, hts _ mw_320, hts _ mw_321⟩ (hP_V (q := (R_Ns, F_Ns, 4)) kE_ok hE hK hH f_ns rfl) rfl rfl hl.1 rfl (lv_room (Nat.le_of_ble_eq_true rfl)) d_Di_rename_31 ⟨Nat.le_of_ble_eq_true rfl, Nat.le_of_ble_eq_true rfl⟩) hLo (fun r7 h8 H9 locs hp11 hH z10 hLo => ?_)
      have hz : s.heap.size ≤ H9.size := Nat.le_trans hz z10
      obtain ⟨hr9, rfl⟩ := hp11
      rw [if_pos hin2] at hr9
      subst hr9
      refine W.eq (g2 := F0 m 34 ls [.ref rt]) rfl ?_
      refine lv_astore (lv' := [(6, .ref rt), (5, .ref rt), (0, .ref x), (1, .int nu), (2, .int nu2), (3, .long wo)]) hx hb d_Di_rename_34 hl (by decide) rfl (fun ls hl => ?_)
      refine lv_lload_n hx hb d_Di_rename_36 rfl (lv_at hl 5 rfl) ?_
      refine hm_calll (va_runS (As := [.long wo]) (rest := []) ⟨hx, hb, hml, hown, hts⟩ (c_Di_nameIn l D t G ak av h wo) ⟨cw9B 1 hts mw_322 mw_323 mw_121 rfl rfl (by decide +kernel) ⟨Nat.le_of_ble_eq_true rfl, Nat.le_of_ble_eq_true rfl⟩, hts _ mw_324⟩ (hP_S kE_ok hE hH) rfl rfl hl.1 rfl (lv_room (Nat.le_of_ble_eq_true rfl)) d_Di_rename_37 ⟨Nat.le_of_ble_eq_true rfl, Nat.le_of_ble_eq_true rfl⟩) hLo (fun r12 h13 H14 locs hp16 hH z15 hLo => ?_)
      have hz : s.heap.size ≤ H14.size := Nat.le_trans hz z15
      obtain ⟨rfl, rfl⟩ := hp16
      refine lv_lstore (lv' := [(7, .long (tlV wo)), (6, .ref rt), (5, .ref rt), (0, .ref x), (1, .int nu), (2, .int nu2), (3, .long wo)]) hx hb d_Di_rename_40 hl (by decide) rfl (fun ls hl => ?_)
      refine lv_aload hx hb d_Di_rename_42 (lv_at hl 2 rfl) ?_
      refine lv_ifnull hx hb d_Di_rename_44 ?_
      refine lv_aload hx hb d_Di_rename_47 (lv_at hl 2 rfl) ?_
      refine hm_get (ci := 1) (v := .null) (C := R_No) (T := F_No) (N := 11) hx hb hts ig_No hown hK hH f_rt rfl 1 (by decide) (hts _ mw_317) (fun _ h9 => h9) rfl d_Di_rename_49 ?_
      refine lv_ifnullN (tgt := 67) hx hb d_Di_rename_52 (by decide) ?_
      refine lv_bipush (v := -2) hx hb d_Di_rename_67 (by decide) ?_
      exact W.iret (v := (-2)) hx hb hr (fun t9 ht hW => ⟨(-2), h, rfl, rfl, by rw [ht]; exact hH, by rw [ht]; exact hz⟩) hLo d_Di_rename_69
    · skip
      refine hm_callr (va_runV (As := [.int nu2]) (b := ns) (rest := []) ⟨hx, hb, hml, hown, hts⟩ (c_Nodes_dirOf l D t G ak av h ns sl od rt fs 0 1 nu2 f_ns f_sl f_rt hf0) ⟨cw9B 1 hts mw_318 mw_319 mw_187 rfl rfl (by decide +kernel) ⟨Nat.le_of_ble_eq_true rfl, Nat.le_of_ble_eq_true rfl⟩, hts _ mw_320, hts _ mw_321⟩ (hP_V (q := (R_Ns, F_Ns, 4)) kE_ok hE hK hH f_ns rfl) rfl rfl hl.1 rfl (lv_room (Nat.le_of_ble_eq_true rfl)) d_Di_rename_31 ⟨Nat.le_of_ble_eq_true rfl, Nat.le_of_ble_eq_true rfl⟩) hLo (fun r17 h18 H19 locs hp21 hH z20 hLo => ?_)
      have hz : s.heap.size ≤ H19.size := Nat.le_trans hz z20
      obtain ⟨hr9, rfl⟩ := hp21
      rw [if_neg hin2] at hr9
      subst hr9
      refine W.eq (g2 := F0 m 34 ls [.null]) rfl ?_
      refine lv_astoreN (lv' := [(6, .null), (5, .ref rt), (0, .ref x), (1, .int nu), (2, .int nu2), (3, .long wo)]) hx hb d_Di_rename_34 hl (by decide) rfl (fun ls hl => ?_)
      refine lv_lload_n hx hb d_Di_rename_36 rfl (lv_at hl 5 rfl) ?_
      refine hm_calll (va_runS (As := [.long wo]) (rest := []) ⟨hx, hb, hml, hown, hts⟩ (c_Di_nameIn l D t G ak av h wo) ⟨cw9B 1 hts mw_322 mw_323 mw_121 rfl rfl (by decide +kernel) ⟨Nat.le_of_ble_eq_true rfl, Nat.le_of_ble_eq_true rfl⟩, hts _ mw_324⟩ (hP_S kE_ok hE hH) rfl rfl hl.1 rfl (lv_room (Nat.le_of_ble_eq_true rfl)) d_Di_rename_37 ⟨Nat.le_of_ble_eq_true rfl, Nat.le_of_ble_eq_true rfl⟩) hLo (fun r22 h23 H24 locs hp26 hH z25 hLo => ?_)
      have hz : s.heap.size ≤ H24.size := Nat.le_trans hz z25
      obtain ⟨rfl, rfl⟩ := hp26
      refine lv_lstore (lv' := [(7, .long (tlV wo)), (6, .null), (5, .ref rt), (0, .ref x), (1, .int nu), (2, .int nu2), (3, .long wo)]) hx hb d_Di_rename_40 hl (by decide) rfl (fun ls hl => ?_)
      refine lv_aload hx hb d_Di_rename_42 (lv_at hl 2 rfl) ?_
      refine lv_ifnull hx hb d_Di_rename_44 ?_
      refine lv_aload hx hb d_Di_rename_47 (lv_at hl 2 rfl) ?_
      refine hm_get (ci := 1) (v := .null) (C := R_No) (T := F_No) (N := 11) hx hb hts ig_No hown hK hH f_rt rfl 1 (by decide) (hts _ mw_317) (fun _ h9 => h9) rfl d_Di_rename_49 ?_
      refine lv_ifnullN (tgt := 67) hx hb d_Di_rename_52 (by decide) ?_
      refine lv_bipush (v := -2) hx hb d_Di_rename_67 (by decide) ?_
      exact W.iret (v := (-2)) hx hb hr (fun t9 ht hW => ⟨(-2), h, rfl, rfl, by rw [ht]; exact hH, by rw [ht]; exact hz⟩) hLo d_Di_rename_69
  · skip
    refine hm_callr (va_runV (As := [.int nu]) (b := ns) (rest := []) ⟨hx, hb, hml, hown, hts⟩ (c_Nodes_nodeOf l D t G ak av h ns sl od rt fs 0 1 nu f_ns f_sl f_rt hf0) ⟨cw9B 1 hts mw_274 mw_315 mw_187 rfl rfl (by decide +kernel) ⟨Nat.le_of_ble_eq_true rfl, Nat.le_of_ble_eq_true rfl⟩, hts _ mw_276, hts _ mw_277⟩ (hP_V (q := (R_Ns, F_Ns, 4)) kE_ok hE hK hH f_ns rfl) rfl rfl hl.1 rfl (lv_room (Nat.le_of_ble_eq_true rfl)) d_Di_rename_21 ⟨Nat.le_of_ble_eq_true rfl, Nat.le_of_ble_eq_true rfl⟩) hLo (fun r27 h28 H29 locs hp31 hH z30 hLo => ?_)
    have hz : s.heap.size ≤ H29.size := Nat.le_trans hz z30
    obtain ⟨hr9, rfl⟩ := hp31
    rw [if_neg hin] at hr9
    subst hr9
    refine W.eq (g2 := F0 m 24 ls [.null]) rfl ?_
    refine lv_astoreN (lv' := [(5, .null), (0, .ref x), (1, .int nu), (2, .int nu2), (3, .long wo)]) hx hb d_Di_rename_24 hl (by decide) rfl (fun ls hl => ?_)
    refine lv_aload_n hx hb d_Di_rename_26 rfl (lv_at hl 1 rfl) ?_
    refine hm_get (ci := 8) (v := .ref ns) (C := R_Di) (T := F_Di) (N := 9) hx hb hts ig_Di hown hK hH f_x rfl 2 (by decide) (hts _ mw_258) (fun _ h9 => h9) rfl d_Di_rename_27 ?_
    refine lv_iload_n hx hb d_Di_rename_30 rfl (lv_at hl 3 rfl) ?_
    by_cases hin2 : nu2 = 0
    · skip
      refine hm_callr (va_runV (As := [.int nu2]) (b := ns) (rest := []) ⟨hx, hb, hml, hown, hts⟩ (c_Nodes_dirOf l D t G ak av h ns sl od rt fs 0 1 nu2 f_ns f_sl f_rt hf0) ⟨cw9B 1 hts mw_318 mw_319 mw_187 rfl rfl (by decide +kernel) ⟨Nat.le_of_ble_eq_true rfl, Nat.le_of_ble_eq_true rfl⟩, hts _ mw_320, hts _ mw_321⟩ (hP_V (q := (R_Ns, F_Ns, 4)) kE_ok hE hK hH f_ns rfl) rfl rfl hl.1 rfl (lv_room (Nat.le_of_ble_eq_true rfl)) d_Di_rename_31 ⟨Nat.le_of_ble_eq_true rfl, Nat.le_of_ble_eq_true rfl⟩) hLo (fun r32 h33 H34 locs hp36 hH z35 hLo => ?_)
      have hz : s.heap.size ≤ H34.size := Nat.le_trans hz z35
      obtain ⟨hr9, rfl⟩ := hp36
      rw [if_pos hin2] at hr9
      subst hr9
      refine W.eq (g2 := F0 m 34 ls [.ref rt]) rfl ?_
      refine lv_astore (lv' := [(6, .ref rt), (5, .null), (0, .ref x), (1, .int nu), (2, .int nu2), (3, .long wo)]) hx hb d_Di_rename_34 hl (by decide) rfl (fun ls hl => ?_)
      refine lv_lload_n hx hb d_Di_rename_36 rfl (lv_at hl 5 rfl) ?_
      refine hm_calll (va_runS (As := [.long wo]) (rest := []) ⟨hx, hb, hml, hown, hts⟩ (c_Di_nameIn l D t G ak av h wo) ⟨cw9B 1 hts mw_322 mw_323 mw_121 rfl rfl (by decide +kernel) ⟨Nat.le_of_ble_eq_true rfl, Nat.le_of_ble_eq_true rfl⟩, hts _ mw_324⟩ (hP_S kE_ok hE hH) rfl rfl hl.1 rfl (lv_room (Nat.le_of_ble_eq_true rfl)) d_Di_rename_37 ⟨Nat.le_of_ble_eq_true rfl, Nat.le_of_ble_eq_true rfl⟩) hLo (fun r37 h38 H39 locs hp41 hH z40 hLo => ?_)
      have hz : s.heap.size ≤ H39.size := Nat.le_trans hz z40
      obtain ⟨rfl, rfl⟩ := hp41
      refine lv_lstore (lv' := [(7, .long (tlV wo)), (6, .ref rt), (5, .null), (0, .ref x), (1, .int nu), (2, .int nu2), (3, .long wo)]) hx hb d_Di_rename_40 hl (by decide) rfl (fun ls hl => ?_)
      refine lv_aloadN hx hb d_Di_rename_42 (lv_at hl 2 rfl) ?_
      refine lv_ifnullN (tgt := 67) hx hb d_Di_rename_44 (by decide) ?_
      refine lv_bipush (v := -2) hx hb d_Di_rename_67 (by decide) ?_
      exact W.iret (v := (-2)) hx hb hr (fun t9 ht hW => ⟨(-2), h, rfl, rfl, by rw [ht]; exact hH, by rw [ht]; exact hz⟩) hLo d_Di_rename_69
    · skip
      refine hm_callr (va_runV (As := [.int nu2]) (b := ns) (rest := []) ⟨hx, hb, hml, hown, hts⟩ (c_Nodes_dirOf l D t G ak av h ns sl od rt fs 0 1 nu2 f_ns f_sl f_rt hf0) ⟨cw9B 1 hts mw_318 mw_319 mw_187 rfl rfl (by decide +kernel) ⟨Nat.le_of_ble_eq_true rfl, Nat.le_of_ble_eq_true rfl⟩, hts _ mw_320, hts _ mw_321⟩ (hP_V (q := (R_Ns, F_Ns, 4)) kE_ok hE hK hH f_ns rfl) rfl rfl hl.1 rfl (lv_room (Nat.le_of_ble_eq_true rfl)) d_Di_rename_31 ⟨Nat.le_of_ble_eq_true rfl, Nat.le_of_ble_eq_true rfl⟩) hLo (fun r42 h43 H44 locs hp46 hH z45 hLo => ?_)
      have hz : s.heap.size ≤ H44.size := Nat.le_trans hz z45
      obtain ⟨hr9, rfl⟩ := hp46
      rw [if_neg hin2] at hr9
      subst hr9
      refine W.eq (g2 := F0 m 34 ls [.null]) rfl ?_
      refine lv_astoreN (lv' := [(6, .null), (5, .null), (0, .ref x), (1, .int nu), (2, .int nu2), (3, .long wo)]) hx hb d_Di_rename_34 hl (by decide) rfl (fun ls hl => ?_)
      refine lv_lload_n hx hb d_Di_rename_36 rfl (lv_at hl 5 rfl) ?_
      refine hm_calll (va_runS (As := [.long wo]) (rest := []) ⟨hx, hb, hml, hown, hts⟩ (c_Di_nameIn l D t G ak av h wo) ⟨cw9B 1 hts mw_322 mw_323 mw_121 rfl rfl (by decide +kernel) ⟨Nat.le_of_ble_eq_true rfl, Nat.le_of_ble_eq_true rfl⟩, hts _ mw_324⟩ (hP_S kE_ok hE hH) rfl rfl hl.1 rfl (lv_room (Nat.le_of_ble_eq_true rfl)) d_Di_rename_37 ⟨Nat.le_of_ble_eq_true rfl, Nat.le_of_ble_eq_true rfl⟩) hLo (fun r47 h48 H49 locs hp51 hH z50 hLo => ?_)
      have hz : s.heap.size ≤ H49.size := Nat.le_trans hz z50
      obtain ⟨rfl, rfl⟩ := hp51
      refine lv_lstore (lv' := [(7, .long (tlV wo)), (6, .null), (5, .null), (0, .ref x), (1, .int nu), (2, .int nu2), (3, .long wo)]) hx hb d_Di_rename_40 hl (by decide) rfl (fun ls hl => ?_)
      refine lv_aloadN hx hb d_Di_rename_42 (lv_at hl 2 rfl) ?_
      refine lv_ifnullN (tgt := 67) hx hb d_Di_rename_44 (by decide) ?_
      refine lv_bipush (v := -2) hx hb d_Di_rename_67 (by decide) ?_
      exact W.iret (v := (-2)) hx hb hr (fun t9 ht hW => ⟨(-2), h, rfl, rfl, by rw [ht]; exact hH, by rw [ht]; exact hz⟩) hLo d_Di_rename_69
