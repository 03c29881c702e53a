set_option maxRecDepth 100000 in
theorem mw_432 : Cond.fieldLink R_Mo 109 "WriteOnceDiscModel" "thrown" "I" ∈ lw_g := lw_gin (List.mem_append_right _ (List.mem_of_getElem? (i := 917) rfl)) (by decide +kernel)
set_option maxRecDepth 100000 in
theorem mw_433 : Cond.constantLong R_Mo 129 (255) ∈ lw_g := lw_gin (List.mem_append_right _ (List.mem_of_getElem? (i := 1069) rfl)) (by decide +kernel)
set_option maxRecDepth 100000 in
theorem mw_434 : Cond.code y_Mo_isLetter b_Mo_isLetter 1 (some .boolean) ∈ lw_g := lw_gin (List.mem_append_right _ (List.mem_of_getElem? (i := 1072) rfl)) (by decide +kernel)
set_option maxRecDepth 100000 in
theorem mw_435 : Cond.methodLink R_Mo 131 y_Mo_isLetter ∈ lw_g := lw_gin (List.mem_append_right _ (List.mem_of_getElem? (i := 1070) rfl)) (by decide +kernel)
set_option maxRecDepth 100000 in
theorem mw_436 : Cond.static y_Mo_isLetter ∈ lw_g := lw_gin (List.mem_append_right _ (List.mem_of_getElem? (i := 1071) rfl)) (by decide +kernel)
set_option maxRecDepth 100000 in
theorem mw_437 : Cond.code y_Mo_in b_Mo_in 3 (some .boolean) ∈ lw_g := lw_gin (List.mem_append_right _ (List.mem_of_getElem? (i := 1053) rfl)) (by decide +kernel)
set_option maxRecDepth 100000 in
theorem mw_438 : Cond.methodLink R_Mo 118 y_Mo_in ∈ lw_g := lw_gin (List.mem_append_right _ (List.mem_of_getElem? (i := 1051) rfl)) (by decide +kernel)
set_option maxRecDepth 100000 in
theorem mw_439 : Cond.static y_Mo_in ∈ lw_g := lw_gin (List.mem_append_right _ (List.mem_of_getElem? (i := 1052) rfl)) (by decide +kernel)
set_option maxRecDepth 100000 in
theorem mw_440 : Cond.fieldLink R_Mo 125 "WriteOnceDiscModel" "lost" "Z" ∈ lw_g := lw_gin (List.mem_append_right _ (List.mem_of_getElem? (i := 923) rfl)) (by decide +kernel)
set_option maxRecDepth 100000 in
theorem mw_441 : Cond.code y_Mo_told b_Mo_told 6 (some .long) ∈ lw_g := lw_gin (List.mem_append_right _ (List.mem_of_getElem? (i := 1068) rfl)) (by decide +kernel)
set_option maxRecDepth 100000 in
theorem mw_442 : Cond.methodLink R_Mo 135 y_Mo_told ∈ lw_g := lw_gin (List.mem_append_right _ (List.mem_of_getElem? (i := 1066) rfl)) (by decide +kernel)
set_option maxRecDepth 100000 in
theorem mw_443 : Cond.static y_Mo_told ∈ lw_g := lw_gin (List.mem_append_right _ (List.mem_of_getElem? (i := 1067) rfl)) (by decide +kernel)
set_option maxRecDepth 100000 in
theorem mw_444 : Cond.code y_Mo_isNode b_Mo_isNode 2 (some .boolean) ∈ lw_g := lw_gin (List.mem_append_right _ (List.mem_of_getElem? (i := 1076) rfl)) (by decide +kernel)
set_option maxRecDepth 100000 in
theorem mw_445 : Cond.methodLink R_Mo 139 y_Mo_isNode ∈ lw_g := lw_gin (List.mem_append_right _ (List.mem_of_getElem? (i := 1073) rfl)) (by decide +kernel)
set_option maxRecDepth 100000 in
theorem mw_446 : Cond.instanceMethod y_Mo_isNode ∈ lw_g := lw_gin (List.mem_append_right _ (List.mem_of_getElem? (i := 1075) rfl)) (by decide +kernel)
set_option maxRecDepth 100000 in
theorem mw_447 : Cond.selects R_Mo y_Mo_isNode y_Mo_isNode ∈ lw_g := lw_gin (List.mem_append_left _ (List.mem_of_getElem? (i := 29) rfl)) (by decide +kernel)
set_option maxRecDepth 100000 in
theorem mw_448 : Cond.code y_Mo_depthOf b_Mo_depthOf 4 (some .int) ∈ lw_g := lw_gin (List.mem_append_right _ (List.mem_of_getElem? (i := 1080) rfl)) (by decide +kernel)
set_option maxRecDepth 100000 in
theorem mw_449 : Cond.methodLink R_Mo 142 y_Mo_depthOf ∈ lw_g := lw_gin (List.mem_append_right _ (List.mem_of_getElem? (i := 1077) rfl)) (by decide +kernel)
set_option maxRecDepth 100000 in
theorem mw_450 : Cond.instanceMethod y_Mo_depthOf ∈ lw_g := lw_gin (List.mem_append_right _ (List.mem_of_getElem? (i := 1079) rfl)) (by decide +kernel)
set_option maxRecDepth 100000 in
theorem mw_451 : Cond.selects R_Mo y_Mo_depthOf y_Mo_depthOf ∈ lw_g := lw_gin (List.mem_append_left _ (List.mem_of_getElem? (i := 30) rfl)) (by decide +kernel)
set_option maxRecDepth 100000 in
theorem mw_452 : Cond.code y_Mo_namedIn b_Mo_namedIn 5 (some .int) ∈ lw_g := lw_gin (List.mem_append_right _ (List.mem_of_getElem? (i := 1084) rfl)) (by decide +kernel)
set_option maxRecDepth 100000 in
theorem mw_453 : Cond.methodLink R_Mo 146 y_Mo_namedIn ∈ lw_g := lw_gin (List.mem_append_right _ (List.mem_of_getElem? (i := 1081) rfl)) (by decide +kernel)
set_option maxRecDepth 100000 in
theorem mw_454 : Cond.instanceMethod y_Mo_namedIn ∈ lw_g := lw_gin (List.mem_append_right _ (List.mem_of_getElem? (i := 1083) rfl)) (by decide +kernel)
set_option maxRecDepth 100000 in
theorem mw_455 : Cond.selects R_Mo y_Mo_namedIn y_Mo_namedIn ∈ lw_g := lw_gin (List.mem_append_left _ (List.mem_of_getElem? (i := 31) rfl)) (by decide +kernel)
set_option maxRecDepth 100000 in
theorem mw_456 : Cond.code y_Mo_alive b_Mo_alive 3 (some .int) ∈ lw_g := lw_gin (List.mem_append_right _ (List.mem_of_getElem? (i := 1088) rfl)) (by decide +kernel)
set_option maxRecDepth 100000 in
theorem mw_457 : Cond.methodLink R_Mo 150 y_Mo_alive ∈ lw_g := lw_gin (List.mem_append_right _ (List.mem_of_getElem? (i := 1085) rfl)) (by decide +kernel)
set_option maxRecDepth 100000 in
theorem mw_458 : Cond.instanceMethod y_Mo_alive ∈ lw_g := lw_gin (List.mem_append_right _ (List.mem_of_getElem? (i := 1087) rfl)) (by decide +kernel)
set_option maxRecDepth 100000 in
theorem mw_459 : Cond.selects R_Mo y_Mo_alive y_Mo_alive ∈ lw_g := lw_gin (List.mem_append_left _ (List.mem_of_getElem? (i := 32) rfl)) (by decide +kernel)
set_option maxRecDepth 100000 in
theorem mw_460 : Cond.code y_Mo_add b_Mo_add 11 (some .int) ∈ lw_g := lw_gin (List.mem_append_right _ (List.mem_of_getElem? (i := 1065) rfl)) (by decide +kernel)
set_option maxRecDepth 100000 in
theorem mw_461 : Cond.methodLink R_Mo 154 y_Mo_add ∈ lw_g := lw_gin (List.mem_append_right _ (List.mem_of_getElem? (i := 1062) rfl)) (by decide +kernel)
set_option maxRecDepth 100000 in
theorem mw_462 : Cond.instanceMethod y_Mo_add ∈ lw_g := lw_gin (List.mem_append_right _ (List.mem_of_getElem? (i := 1064) rfl)) (by decide +kernel)
set_option maxRecDepth 100000 in
theorem mw_463 : Cond.selects R_Mo y_Mo_add y_Mo_add ∈ lw_g := lw_gin (List.mem_append_left _ (List.mem_of_getElem? (i := 28) rfl)) (by decide +kernel)
set_option maxRecDepth 100000 in
theorem mw_464 : Cond.code y_Mo_isContent b_Mo_isContent 2 (some .boolean) ∈ lw_g := lw_gin (List.mem_append_right _ (List.mem_of_getElem? (i := 1095) rfl)) (by decide +kernel)
set_option maxRecDepth 100000 in
theorem mw_465 : Cond.methodLink R_Mo 158 y_Mo_isContent ∈ lw_g := lw_gin (List.mem_append_right _ (List.mem_of_getElem? (i := 1093) rfl)) (by decide +kernel)
set_option maxRecDepth 100000 in
theorem mw_466 : Cond.static y_Mo_isContent ∈ lw_g := lw_gin (List.mem_append_right _ (List.mem_of_getElem? (i := 1094) rfl)) (by decide +kernel)
set_option maxRecDepth 100000 in
theorem mw_467 : Cond.fieldLink R_Mo 115 "WriteOnceDiscModel" "side" "I" ∈ lw_g := lw_gin (List.mem_append_right _ (List.mem_of_getElem? (i := 919) rfl)) (by decide +kernel)
set_option maxRecDepth 100000 in
theorem mw_468 : Cond.fieldLink R_Mo 122 "WriteOnceDiscModel" "writes" "I" ∈ lw_g := lw_gin (List.mem_append_right _ (List.mem_of_getElem? (i := 925) rfl)) (by decide +kernel)
set_option maxRecDepth 100000 in
theorem mw_469 : Cond.code y_Mo_get b_Mo_get 2 (some .int) ∈ lw_g := lw_gin (List.mem_append_right _ (List.mem_of_getElem? (i := 1135) rfl)) (by decide +kernel)
set_option maxRecDepth 100000 in
theorem mw_470 : Cond.methodLink R_Mo 225 y_Mo_get ∈ lw_g := lw_gin (List.mem_append_right _ (List.mem_of_getElem? (i := 1132) rfl)) (by decide +kernel)
set_option maxRecDepth 100000 in
theorem mw_471 : Cond.instanceMethod y_Mo_get ∈ lw_g := lw_gin (List.mem_append_right _ (List.mem_of_getElem? (i := 1134) rfl)) (by decide +kernel)
set_option maxRecDepth 100000 in
theorem mw_472 : Cond.selects R_Mo y_Mo_get y_Mo_get ∈ lw_g := lw_gin (List.mem_append_left _ (List.mem_of_getElem? (i := 37) rfl)) (by decide +kernel)
set_option maxRecDepth 100000 in
theorem mw_473 : Cond.code y_Mo_isWrittenSector b_Mo_isWrittenSector 2 (some .boolean) ∈ lw_g := lw_gin (List.mem_append_right _ (List.mem_of_getElem? (i := 1230) rfl)) (by decide +kernel)
set_option maxRecDepth 100000 in
theorem mw_474 : Cond.methodLink R_Mo 260 y_Mo_isWrittenSector ∈ lw_g := lw_gin (List.mem_append_right _ (List.mem_of_getElem? (i := 1227) rfl)) (by decide +kernel)
set_option maxRecDepth 100000 in
theorem mw_475 : Cond.instanceMethod y_Mo_isWrittenSector ∈ lw_g := lw_gin (List.mem_append_right _ (List.mem_of_getElem? (i := 1229) rfl)) (by decide +kernel)
set_option maxRecDepth 100000 in
theorem mw_476 : Cond.selects R_Mo y_Mo_isWrittenSector y_Mo_isWrittenSector ∈ lw_g := lw_gin (List.mem_append_left _ (List.mem_of_getElem? (i := 54) rfl)) (by decide +kernel)
set_option maxRecDepth 100000 in
theorem mw_477 : Cond.code y_Mo_isMark b_Mo_isMark 4 (some .boolean) ∈ lw_g := lw_gin (List.mem_append_right _ (List.mem_of_getElem? (i := 1226) rfl)) (by decide +kernel)
set_option maxRecDepth 100000 in
theorem mw_478 : Cond.methodLink R_Mo 311 y_Mo_isMark ∈ lw_g := lw_gin (List.mem_append_right _ (List.mem_of_getElem? (i := 1223) rfl)) (by decide +kernel)
set_option maxRecDepth 100000 in
theorem mw_479 : Cond.instanceMethod y_Mo_isMark ∈ lw_g := lw_gin (List.mem_append_right _ (List.mem_of_getElem? (i := 1225) rfl)) (by decide +kernel)
set_option maxRecDepth 100000 in
theorem mw_480 : Cond.selects R_Mo y_Mo_isMark y_Mo_isMark ∈ lw_g := lw_gin (List.mem_append_left _ (List.mem_of_getElem? (i := 53) rfl)) (by decide +kernel)
set_option maxRecDepth 100000 in
theorem mw_481 : Cond.code y_Mo_markAt b_Mo_markAt 4 (some .int) ∈ lw_g := lw_gin (List.mem_append_right _ (List.mem_of_getElem? (i := 1222) rfl)) (by decide +kernel)
set_option maxRecDepth 100000 in
theorem mw_482 : Cond.methodLink R_Mo 314 y_Mo_markAt ∈ lw_g := lw_gin (List.mem_append_right _ (List.mem_of_getElem? (i := 1219) rfl)) (by decide +kernel)
set_option maxRecDepth 100000 in
theorem mw_483 : Cond.instanceMethod y_Mo_markAt ∈ lw_g := lw_gin (List.mem_append_right _ (List.mem_of_getElem? (i := 1221) rfl)) (by decide +kernel)
set_option maxRecDepth 100000 in
theorem mw_484 : Cond.selects R_Mo y_Mo_markAt y_Mo_markAt ∈ lw_g := lw_gin (List.mem_append_left _ (List.mem_of_getElem? (i := 52) rfl)) (by decide +kernel)
set_option maxRecDepth 100000 in
theorem mw_485 : Cond.constant R_Mo 320 (-1000000) ∈ lw_g := lw_gin (List.mem_append_right _ (List.mem_of_getElem? (i := 1297) rfl)) (by decide +kernel)
set_option maxRecDepth 100000 in
theorem mw_486 : Cond.fieldLink R_Mo 254 "WriteOnceDiscModel" "opened" "I" ∈ lw_g := lw_gin (List.mem_append_right _ (List.mem_of_getElem? (i := 951) rfl)) (by decide +kernel)
set_option maxRecDepth 100000 in
theorem mw_487 : Cond.fieldLink R_Mo 247 "WriteOnceDiscModel" "number" "I" ∈ lw_g := lw_gin (List.mem_append_right _ (List.mem_of_getElem? (i := 937) rfl)) (by decide +kernel)
theorem d_Mo_in_0 : decode b_Mo_in 0 = .ok (.iload_n 0, 1) := by decide +kernel
theorem d_Mo_in_1 : decode b_Mo_in 1 = .ok (.iload_n 1, 1) := by decide +kernel
theorem d_Mo_in_2 : decode b_Mo_in 2 = .ok (.if_icmp .lt 12, 3) := by decide +kernel
theorem d_Mo_in_14 : decode b_Mo_in 14 = .ok (.iconst 0, 1) := by decide +kernel
theorem d_Mo_in_15 : decode b_Mo_in 15 = .ok (.ireturn, 1) := by decide +kernel
theorem d_Mo_in_5 : decode b_Mo_in 5 = .ok (.iload_n 0, 1) := by decide +kernel
theorem d_Mo_in_6 : decode b_Mo_in 6 = .ok (.iload_n 2, 1) := by decide +kernel
theorem d_Mo_in_7 : decode b_Mo_in 7 = .ok (.if_icmp .gt 7, 3) := by decide +kernel
theorem d_Mo_in_10 : decode b_Mo_in 10 = .ok (.iconst 1, 1) := by decide +kernel
theorem d_Mo_in_11 : decode b_Mo_in 11 = .ok (.goto 4, 3) := by decide +kernel
theorem d_Mo_thrown_0 : decode b_Mo_thrown 0 = .ok (.aload_n 0, 1) := by decide +kernel
theorem d_Mo_thrown_1 : decode b_Mo_thrown 1 = .ok (.getfield 109, 3) := by decide +kernel
theorem d_Mo_thrown_4 : decode b_Mo_thrown 4 = .ok (.ireturn, 1) := by decide +kernel
theorem d_Mo_isNode_0 : decode b_Mo_isNode 0 = .ok (.iload_n 1, 1) := by decide +kernel
theorem d_Mo_isNode_1 : decode b_Mo_isNode 1 = .ok (.ifCond .lt 24, 3) := by decide +kernel
theorem d_Mo_isNode_25 : decode b_Mo_isNode 25 = .ok (.iconst 0, 1) := by decide +kernel
theorem d_Mo_isNode_26 : decode b_Mo_isNode 26 = .ok (.ireturn, 1) := by decide +kernel
theorem d_Mo_isNode_4 : decode b_Mo_isNode 4 = .ok (.iload_n 1, 1) := by decide +kernel
theorem d_Mo_isNode_5 : decode b_Mo_isNode 5 = .ok (.aload_n 0, 1) := by decide +kernel
theorem d_Mo_isNode_6 : decode b_Mo_isNode 6 = .ok (.getfield 112, 3) := by decide +kernel
theorem d_Mo_isNode_9 : decode b_Mo_isNode 9 = .ok (.if_icmp .ge 16, 3) := by decide +kernel
theorem d_Mo_isNode_12 : decode b_Mo_isNode 12 = .ok (.aload_n 0, 1) := by decide +kernel
theorem d_Mo_isNode_13 : decode b_Mo_isNode 13 = .ok (.getfield 24, 3) := by decide +kernel
theorem d_Mo_isNode_16 : decode b_Mo_isNode 16 = .ok (.iload_n 1, 1) := by decide +kernel
theorem d_Mo_isNode_17 : decode b_Mo_isNode 17 = .ok (.baload, 1) := by decide +kernel
theorem d_Mo_isNode_18 : decode b_Mo_isNode 18 = .ok (.ifCond .eq 7, 3) := by decide +kernel
theorem d_Mo_isNode_21 : decode b_Mo_isNode 21 = .ok (.iconst 1, 1) := by decide +kernel
theorem d_Mo_isNode_22 : decode b_Mo_isNode 22 = .ok (.goto 4, 3) := by decide +kernel
theorem d_Mo_isLetter_0 : decode b_Mo_isLetter 0 = .ok (.iload_n 0, 1) := by decide +kernel
theorem d_Mo_isLetter_1 : decode b_Mo_isLetter 1 = .ok (.bipush 65, 2) := by decide +kernel
theorem d_Mo_isLetter_3 : decode b_Mo_isLetter 3 = .ok (.if_icmp .lt 9, 3) := by decide +kernel
theorem d_Mo_isLetter_12 : decode b_Mo_isLetter 12 = .ok (.iload_n 0, 1) := by decide +kernel
theorem d_Mo_isLetter_13 : decode b_Mo_isLetter 13 = .ok (.bipush 48, 2) := by decide +kernel
theorem d_Mo_isLetter_15 : decode b_Mo_isLetter 15 = .ok (.if_icmp .lt 9, 3) := by decide +kernel
theorem d_Mo_isLetter_24 : decode b_Mo_isLetter 24 = .ok (.iload_n 0, 1) := by decide +kernel
theorem d_Mo_isLetter_25 : decode b_Mo_isLetter 25 = .ok (.bipush 95, 2) := by decide +kernel
theorem d_Mo_isLetter_27 : decode b_Mo_isLetter 27 = .ok (.if_icmp .ne 7, 3) := by decide +kernel
theorem d_Mo_isLetter_34 : decode b_Mo_isLetter 34 = .ok (.iconst 0, 1) := by decide +kernel
theorem d_Mo_isLetter_35 : decode b_Mo_isLetter 35 = .ok (.ireturn, 1) := by decide +kernel
theorem d_Mo_isLetter_30 : decode b_Mo_isLetter 30 = .ok (.iconst 1, 1) := by decide +kernel
theorem d_Mo_isLetter_31 : decode b_Mo_isLetter 31 = .ok (.goto 4, 3) := by decide +kernel
theorem d_Mo_isLetter_18 : decode b_Mo_isLetter 18 = .ok (.iload_n 0, 1) := by decide +kernel
theorem d_Mo_isLetter_19 : decode b_Mo_isLetter 19 = .ok (.bipush 57, 2) := by decide +kernel
theorem d_Mo_isLetter_21 : decode b_Mo_isLetter 21 = .ok (.if_icmp .le 9, 3) := by decide +kernel
theorem d_Mo_isLetter_6 : decode b_Mo_isLetter 6 = .ok (.iload_n 0, 1) := by decide +kernel
theorem d_Mo_isLetter_7 : decode b_Mo_isLetter 7 = .ok (.bipush 90, 2) := by decide +kernel
theorem d_Mo_isLetter_9 : decode b_Mo_isLetter 9 = .ok (.if_icmp .le 21, 3) := by decide +kernel
theorem d_Mo_told_0 : decode b_Mo_told 0 = .ok (.lconst 0, 1) := by decide +kernel
theorem d_Mo_told_1 : decode b_Mo_told 1 = .ok (.lstore_n 2, 1) := by decide +kernel
theorem d_Mo_told_2 : decode b_Mo_told 2 = .ok (.bipush 7, 2) := by decide +kernel
theorem d_Mo_told_4 : decode b_Mo_told 4 = .ok (.istore 4, 2) := by decide +kernel
theorem d_Mo_told_6 : decode b_Mo_told 6 = .ok (.iload 4, 2) := by decide +kernel
theorem d_Mo_told_8 : decode b_Mo_told 8 = .ok (.ifCond .lt 50, 3) := by decide +kernel
theorem d_Mo_told_58 : decode b_Mo_told 58 = .ok (.lload_n 2, 1) := by decide +kernel
theorem d_Mo_told_59 : decode b_Mo_told 59 = .ok (.lreturn, 1) := by decide +kernel
theorem d_Mo_told_11 : decode b_Mo_told 11 = .ok (.lload_n 0, 1) := by decide +kernel
theorem d_Mo_told_12 : decode b_Mo_told 12 = .ok (.bipush 8, 2) := by decide +kernel
theorem d_Mo_told_14 : decode b_Mo_told 14 = .ok (.iload 4, 2) := by decide +kernel
theorem d_Mo_told_16 : decode b_Mo_told 16 = .ok (.imul, 1) := by decide +kernel
theorem d_Mo_told_17 : decode b_Mo_told 17 = .ok (.lushr, 1) := by decide +kernel
theorem d_Mo_told_18 : decode b_Mo_told 18 = .ok (.ldc2_w 129, 3) := by decide +kernel
theorem d_Mo_told_21 : decode b_Mo_told 21 = .ok (.land, 1) := by decide +kernel
theorem d_Mo_told_22 : decode b_Mo_told 22 = .ok (.l2i, 1) := by decide +kernel
theorem d_Mo_told_23 : decode b_Mo_told 23 = .ok (.istore 5, 2) := by decide +kernel
theorem d_Mo_told_25 : decode b_Mo_told 25 = .ok (.iload 5, 2) := by decide +kernel
theorem d_Mo_told_27 : decode b_Mo_told 27 = .ok (.ifCond .ne 6, 3) := by decide +kernel
theorem d_Mo_told_33 : decode b_Mo_told 33 = .ok (.iload 5, 2) := by decide +kernel
theorem d_Mo_told_35 : decode b_Mo_told 35 = .ok (.invokestatic 131, 3) := by decide +kernel
theorem d_Mo_told_38 : decode b_Mo_told 38 = .ok (.ifCond .ne 5, 3) := by decide +kernel
theorem d_Mo_told_43 : decode b_Mo_told 43 = .ok (.lload_n 2, 1) := by decide +kernel
theorem d_Mo_told_44 : decode b_Mo_told 44 = .ok (.bipush 8, 2) := by decide +kernel
theorem d_Mo_told_46 : decode b_Mo_told 46 = .ok (.lshl, 1) := by decide +kernel
theorem d_Mo_told_47 : decode b_Mo_told 47 = .ok (.iload 5, 2) := by decide +kernel
theorem d_Mo_told_49 : decode b_Mo_told 49 = .ok (.i2l, 1) := by decide +kernel
theorem d_Mo_told_50 : decode b_Mo_told 50 = .ok (.lor, 1) := by decide +kernel
theorem d_Mo_told_51 : decode b_Mo_told 51 = .ok (.lstore_n 2, 1) := by decide +kernel
theorem d_Mo_told_52 : decode b_Mo_told 52 = .ok (.iinc 4 (-1), 3) := by decide +kernel
theorem d_Mo_told_55 : decode b_Mo_told 55 = .ok (.goto (-49), 3) := by decide +kernel
theorem d_Mo_told_41 : decode b_Mo_told 41 = .ok (.lconst 0, 1) := by decide +kernel
theorem d_Mo_told_42 : decode b_Mo_told 42 = .ok (.lreturn, 1) := by decide +kernel
theorem d_Mo_told_30 : decode b_Mo_told 30 = .ok (.goto 22, 3) := by decide +kernel
theorem d_Mo_namedIn_0 : decode b_Mo_namedIn 0 = .ok (.iconst 1, 1) := by decide +kernel
theorem d_Mo_namedIn_1 : decode b_Mo_namedIn 1 = .ok (.istore 4, 2) := by decide +kernel
theorem d_Mo_namedIn_3 : decode b_Mo_namedIn 3 = .ok (.iload 4, 2) := by decide +kernel
theorem d_Mo_namedIn_5 : decode b_Mo_namedIn 5 = .ok (.aload_n 0, 1) := by decide +kernel
theorem d_Mo_namedIn_6 : decode b_Mo_namedIn 6 = .ok (.getfield 112, 3) := by decide +kernel
theorem d_Mo_namedIn_9 : decode b_Mo_namedIn 9 = .ok (.if_icmp .ge 45, 3) := by decide +kernel
theorem d_Mo_namedIn_54 : decode b_Mo_namedIn 54 = .ok (.iconst (-1), 1) := by decide +kernel
theorem d_Mo_namedIn_55 : decode b_Mo_namedIn 55 = .ok (.ireturn, 1) := by decide +kernel
theorem d_Mo_depthOf_0 : decode b_Mo_depthOf 0 = .ok (.iconst 0, 1) := by decide +kernel
theorem d_Mo_depthOf_1 : decode b_Mo_depthOf 1 = .ok (.istore_n 2, 1) := by decide +kernel
theorem d_Mo_depthOf_2 : decode b_Mo_depthOf 2 = .ok (.iload_n 1, 1) := by decide +kernel
theorem d_Mo_depthOf_3 : decode b_Mo_depthOf 3 = .ok (.istore_n 3, 1) := by decide +kernel
theorem d_Mo_depthOf_4 : decode b_Mo_depthOf 4 = .ok (.iload_n 3, 1) := by decide +kernel
theorem d_Mo_depthOf_5 : decode b_Mo_depthOf 5 = .ok (.ifCond .le 16, 3) := by decide +kernel
theorem d_Mo_depthOf_21 : decode b_Mo_depthOf 21 = .ok (.iload_n 2, 1) := by decide +kernel
theorem d_Mo_depthOf_22 : decode b_Mo_depthOf 22 = .ok (.ireturn, 1) := by decide +kernel
theorem d_Mo_alive_0 : decode b_Mo_alive 0 = .ok (.iconst 0, 1) := by decide +kernel
theorem d_Mo_alive_1 : decode b_Mo_alive 1 = .ok (.istore_n 1, 1) := by decide +kernel
theorem d_Mo_alive_2 : decode b_Mo_alive 2 = .ok (.iconst 0, 1) := by decide +kernel
theorem d_Mo_alive_3 : decode b_Mo_alive 3 = .ok (.istore_n 2, 1) := by decide +kernel
theorem d_Mo_alive_4 : decode b_Mo_alive 4 = .ok (.iload_n 2, 1) := by decide +kernel
theorem d_Mo_alive_5 : decode b_Mo_alive 5 = .ok (.aload_n 0, 1) := by decide +kernel
theorem d_Mo_alive_6 : decode b_Mo_alive 6 = .ok (.getfield 112, 3) := by decide +kernel
theorem d_Mo_alive_9 : decode b_Mo_alive 9 = .ok (.if_icmp .ge 26, 3) := by decide +kernel
theorem d_Mo_alive_12 : decode b_Mo_alive 12 = .ok (.iload_n 1, 1) := by decide +kernel
theorem d_Mo_alive_13 : decode b_Mo_alive 13 = .ok (.aload_n 0, 1) := by decide +kernel
theorem d_Mo_alive_14 : decode b_Mo_alive 14 = .ok (.getfield 24, 3) := by decide +kernel
theorem d_Mo_alive_17 : decode b_Mo_alive 17 = .ok (.iload_n 2, 1) := by decide +kernel
theorem d_Mo_alive_18 : decode b_Mo_alive 18 = .ok (.baload, 1) := by decide +kernel
theorem d_Mo_alive_19 : decode b_Mo_alive 19 = .ok (.ifCond .eq 7, 3) := by decide +kernel
theorem d_Mo_alive_22 : decode b_Mo_alive 22 = .ok (.iconst 1, 1) := by decide +kernel
theorem d_Mo_alive_23 : decode b_Mo_alive 23 = .ok (.goto 4, 3) := by decide +kernel
theorem d_Mo_alive_27 : decode b_Mo_alive 27 = .ok (.iadd, 1) := by decide +kernel
theorem d_Mo_alive_28 : decode b_Mo_alive 28 = .ok (.istore_n 1, 1) := by decide +kernel
theorem d_Mo_alive_29 : decode b_Mo_alive 29 = .ok (.iinc 2 1, 3) := by decide +kernel
theorem d_Mo_alive_32 : decode b_Mo_alive 32 = .ok (.goto (-28), 3) := by decide +kernel
theorem d_Mo_alive_35 : decode b_Mo_alive 35 = .ok (.iload_n 1, 1) := by decide +kernel
theorem d_Mo_alive_36 : decode b_Mo_alive 36 = .ok (.ireturn, 1) := by decide +kernel
theorem d_Mo_isContent_0 : decode b_Mo_isContent 0 = .ok (.iload_n 0, 1) := by decide +kernel
theorem d_Mo_isContent_1 : decode b_Mo_isContent 1 = .ok (.iconst 0, 1) := by decide +kernel
theorem d_Mo_isContent_2 : decode b_Mo_isContent 2 = .ok (.sipush 6000, 3) := by decide +kernel
theorem d_Mo_isContent_5 : decode b_Mo_isContent 5 = .ok (.invokestatic 118, 3) := by decide +kernel
theorem d_Mo_isContent_8 : decode b_Mo_isContent 8 = .ok (.ifCond .eq 18, 3) := by decide +kernel
theorem d_Mo_isContent_26 : decode b_Mo_isContent 26 = .ok (.iconst 0, 1) := by decide +kernel
theorem d_Mo_isContent_27 : decode b_Mo_isContent 27 = .ok (.ireturn, 1) := by decide +kernel
theorem d_Mo_isContent_11 : decode b_Mo_isContent 11 = .ok (.iload_n 1, 1) := by decide +kernel
theorem d_Mo_isContent_12 : decode b_Mo_isContent 12 = .ok (.iconst 0, 1) := by decide +kernel
theorem d_Mo_isContent_13 : decode b_Mo_isContent 13 = .ok (.sipush 255, 3) := by decide +kernel
theorem d_Mo_isContent_16 : decode b_Mo_isContent 16 = .ok (.invokestatic 118, 3) := by decide +kernel
theorem d_Mo_isContent_19 : decode b_Mo_isContent 19 = .ok (.ifCond .eq 7, 3) := by decide +kernel
theorem d_Mo_isContent_22 : decode b_Mo_isContent 22 = .ok (.iconst 1, 1) := by decide +kernel
theorem d_Mo_isContent_23 : decode b_Mo_isContent 23 = .ok (.goto 4, 3) := by decide +kernel
theorem d_Mo_add_0 : decode b_Mo_add 0 = .ok (.aload_n 0, 1) := by decide +kernel
theorem d_Mo_add_1 : decode b_Mo_add 1 = .ok (.getfield 125, 3) := by decide +kernel
theorem d_Mo_add_4 : decode b_Mo_add 4 = .ok (.ifCond .eq 6, 3) := by decide +kernel
theorem d_Mo_add_10 : decode b_Mo_add 10 = .ok (.lload_n 2, 1) := by decide +kernel
theorem d_Mo_add_11 : decode b_Mo_add 11 = .ok (.invokestatic 135, 3) := by decide +kernel
theorem d_Mo_add_14 : decode b_Mo_add 14 = .ok (.lstore 8, 2) := by decide +kernel
theorem d_Mo_add_16 : decode b_Mo_add 16 = .ok (.iload 7, 2) := by decide +kernel
theorem d_Mo_add_18 : decode b_Mo_add 18 = .ok (.ifCond .eq 44, 3) := by decide +kernel
theorem d_Mo_add_62 : decode b_Mo_add 62 = .ok (.bipush (-2), 2) := by decide +kernel
theorem d_Mo_add_64 : decode b_Mo_add 64 = .ok (.ireturn, 1) := by decide +kernel
theorem d_Mo_add_21 : decode b_Mo_add 21 = .ok (.aload_n 0, 1) := by decide +kernel
theorem d_Mo_add_22 : decode b_Mo_add 22 = .ok (.iload_n 1, 1) := by decide +kernel
theorem d_Mo_add_23 : decode b_Mo_add 23 = .ok (.invokevirtual 139, 3) := by decide +kernel
theorem d_Mo_add_26 : decode b_Mo_add 26 = .ok (.ifCond .eq 36, 3) := by decide +kernel
theorem d_Mo_add_29 : decode b_Mo_add 29 = .ok (.aload_n 0, 1) := by decide +kernel
theorem d_Mo_add_30 : decode b_Mo_add 30 = .ok (.getfield 27, 3) := by decide +kernel
theorem d_Mo_add_33 : decode b_Mo_add 33 = .ok (.iload_n 1, 1) := by decide +kernel
theorem d_Mo_add_34 : decode b_Mo_add 34 = .ok (.baload, 1) := by decide +kernel
theorem d_Mo_add_35 : decode b_Mo_add 35 = .ok (.ifCond .eq 27, 3) := by decide +kernel
theorem d_Mo_add_38 : decode b_Mo_add 38 = .ok (.lload 8, 2) := by decide +kernel
theorem d_Mo_add_40 : decode b_Mo_add 40 = .ok (.lconst 0, 1) := by decide +kernel
theorem d_Mo_add_41 : decode b_Mo_add 41 = .ok (.lcmp, 1) := by decide +kernel
theorem d_Mo_add_42 : decode b_Mo_add 42 = .ok (.ifCond .eq 20, 3) := by decide +kernel
theorem d_Mo_add_45 : decode b_Mo_add 45 = .ok (.iload 4, 2) := by decide +kernel
theorem d_Mo_add_47 : decode b_Mo_add 47 = .ok (.ifCond .eq 18, 3) := by decide +kernel
theorem d_Mo_add_50 : decode b_Mo_add 50 = .ok (.aload_n 0, 1) := by decide +kernel
theorem d_Mo_add_51 : decode b_Mo_add 51 = .ok (.iload_n 1, 1) := by decide +kernel
theorem d_Mo_add_52 : decode b_Mo_add 52 = .ok (.invokevirtual 142, 3) := by decide +kernel
theorem d_Mo_add_55 : decode b_Mo_add 55 = .ok (.iconst 1, 1) := by decide +kernel
theorem d_Mo_add_56 : decode b_Mo_add 56 = .ok (.iadd, 1) := by decide +kernel
theorem d_Mo_add_57 : decode b_Mo_add 57 = .ok (.bipush 6, 2) := by decide +kernel
theorem d_Mo_add_59 : decode b_Mo_add 59 = .ok (.if_icmp .le 6, 3) := by decide +kernel
theorem d_Mo_add_65 : decode b_Mo_add 65 = .ok (.aload_n 0, 1) := by decide +kernel
theorem d_Mo_add_66 : decode b_Mo_add 66 = .ok (.iload_n 1, 1) := by decide +kernel
theorem d_Mo_add_67 : decode b_Mo_add 67 = .ok (.lload 8, 2) := by decide +kernel
theorem d_Mo_add_69 : decode b_Mo_add 69 = .ok (.invokevirtual 146, 3) := by decide +kernel
theorem d_Mo_add_72 : decode b_Mo_add 72 = .ok (.ifCond .lt 6, 3) := by decide +kernel
theorem d_Mo_add_78 : decode b_Mo_add 78 = .ok (.aload_n 0, 1) := by decide +kernel
theorem d_Mo_add_79 : decode b_Mo_add 79 = .ok (.invokevirtual 150, 3) := by decide +kernel
theorem d_Mo_add_82 : decode b_Mo_add 82 = .ok (.bipush 30, 2) := by decide +kernel
theorem d_Mo_add_84 : decode b_Mo_add 84 = .ok (.if_icmp .ne 6, 3) := by decide +kernel
theorem d_Mo_add_90 : decode b_Mo_add 90 = .ok (.aload_n 0, 1) := by decide +kernel
theorem d_Mo_add_91 : decode b_Mo_add 91 = .ok (.getfield 112, 3) := by decide +kernel
theorem d_Mo_add_94 : decode b_Mo_add 94 = .ok (.istore 10, 2) := by decide +kernel
theorem d_Mo_add_96 : decode b_Mo_add 96 = .ok (.aload_n 0, 1) := by decide +kernel
theorem d_Mo_add_97 : decode b_Mo_add 97 = .ok (.dup, 1) := by decide +kernel
theorem d_Mo_add_98 : decode b_Mo_add 98 = .ok (.getfield 112, 3) := by decide +kernel
theorem d_Mo_add_101 : decode b_Mo_add 101 = .ok (.iconst 1, 1) := by decide +kernel
theorem d_Mo_add_102 : decode b_Mo_add 102 = .ok (.iadd, 1) := by decide +kernel
theorem d_Mo_add_103 : decode b_Mo_add 103 = .ok (.putfield 112, 3) := by decide +kernel
theorem d_Mo_add_106 : decode b_Mo_add 106 = .ok (.aload_n 0, 1) := by decide +kernel
theorem d_Mo_add_107 : decode b_Mo_add 107 = .ok (.getfield 24, 3) := by decide +kernel
theorem d_Mo_add_110 : decode b_Mo_add 110 = .ok (.iload 10, 2) := by decide +kernel
theorem d_Mo_add_112 : decode b_Mo_add 112 = .ok (.iconst 1, 1) := by decide +kernel
theorem d_Mo_add_113 : decode b_Mo_add 113 = .ok (.bastore, 1) := by decide +kernel
theorem d_Mo_add_114 : decode b_Mo_add 114 = .ok (.aload_n 0, 1) := by decide +kernel
theorem d_Mo_add_115 : decode b_Mo_add 115 = .ok (.getfield 27, 3) := by decide +kernel
theorem d_Mo_add_118 : decode b_Mo_add 118 = .ok (.iload 10, 2) := by decide +kernel
theorem d_Mo_add_120 : decode b_Mo_add 120 = .ok (.iload 4, 2) := by decide +kernel
theorem d_Mo_add_122 : decode b_Mo_add 122 = .ok (.bastore, 1) := by decide +kernel
theorem d_Mo_add_123 : decode b_Mo_add 123 = .ok (.aload_n 0, 1) := by decide +kernel
theorem d_Mo_add_124 : decode b_Mo_add 124 = .ok (.getfield 30, 3) := by decide +kernel
theorem d_Mo_add_127 : decode b_Mo_add 127 = .ok (.iload 10, 2) := by decide +kernel
theorem d_Mo_add_129 : decode b_Mo_add 129 = .ok (.iload_n 1, 1) := by decide +kernel
theorem d_Mo_add_130 : decode b_Mo_add 130 = .ok (.iastore, 1) := by decide +kernel
theorem d_Mo_add_131 : decode b_Mo_add 131 = .ok (.aload_n 0, 1) := by decide +kernel
theorem d_Mo_add_132 : decode b_Mo_add 132 = .ok (.getfield 34, 3) := by decide +kernel
theorem d_Mo_add_135 : decode b_Mo_add 135 = .ok (.iload 10, 2) := by decide +kernel
theorem d_Mo_add_137 : decode b_Mo_add 137 = .ok (.lload 8, 2) := by decide +kernel
theorem d_Mo_add_139 : decode b_Mo_add 139 = .ok (.lastore, 1) := by decide +kernel
theorem d_Mo_add_140 : decode b_Mo_add 140 = .ok (.aload_n 0, 1) := by decide +kernel
theorem d_Mo_add_141 : decode b_Mo_add 141 = .ok (.getfield 38, 3) := by decide +kernel
theorem d_Mo_add_144 : decode b_Mo_add 144 = .ok (.iload 10, 2) := by decide +kernel
theorem d_Mo_add_146 : decode b_Mo_add 146 = .ok (.iload 5, 2) := by decide +kernel
theorem d_Mo_add_148 : decode b_Mo_add 148 = .ok (.iastore, 1) := by decide +kernel
theorem d_Mo_add_149 : decode b_Mo_add 149 = .ok (.aload_n 0, 1) := by decide +kernel
theorem d_Mo_add_150 : decode b_Mo_add 150 = .ok (.getfield 41, 3) := by decide +kernel
theorem d_Mo_add_153 : decode b_Mo_add 153 = .ok (.iload 10, 2) := by decide +kernel
theorem d_Mo_add_155 : decode b_Mo_add 155 = .ok (.iload 6, 2) := by decide +kernel
theorem d_Mo_add_157 : decode b_Mo_add 157 = .ok (.iastore, 1) := by decide +kernel
theorem d_Mo_add_158 : decode b_Mo_add 158 = .ok (.aload_n 0, 1) := by decide +kernel
theorem d_Mo_add_159 : decode b_Mo_add 159 = .ok (.getfield 44, 3) := by decide +kernel
theorem d_Mo_add_162 : decode b_Mo_add 162 = .ok (.iload 10, 2) := by decide +kernel
theorem d_Mo_add_164 : decode b_Mo_add 164 = .ok (.iconst 0, 1) := by decide +kernel
theorem d_Mo_add_165 : decode b_Mo_add 165 = .ok (.bastore, 1) := by decide +kernel
theorem d_Mo_add_166 : decode b_Mo_add 166 = .ok (.aload_n 0, 1) := by decide +kernel
theorem d_Mo_add_167 : decode b_Mo_add 167 = .ok (.getfield 47, 3) := by decide +kernel
theorem d_Mo_add_170 : decode b_Mo_add 170 = .ok (.iload 10, 2) := by decide +kernel
theorem d_Mo_add_172 : decode b_Mo_add 172 = .ok (.iconst 0, 1) := by decide +kernel
theorem d_Mo_add_173 : decode b_Mo_add 173 = .ok (.iastore, 1) := by decide +kernel
theorem d_Mo_add_174 : decode b_Mo_add 174 = .ok (.iload 10, 2) := by decide +kernel
theorem d_Mo_add_176 : decode b_Mo_add 176 = .ok (.ireturn, 1) := by decide +kernel
theorem d_Mo_directory_0 : decode b_Mo_directory 0 = .ok (.aload_n 0, 1) := by decide +kernel
theorem d_Mo_directory_1 : decode b_Mo_directory 1 = .ok (.iconst 0, 1) := by decide +kernel
theorem d_Mo_directory_2 : decode b_Mo_directory 2 = .ok (.putfield 109, 3) := by decide +kernel
theorem d_Mo_directory_5 : decode b_Mo_directory 5 = .ok (.aload_n 0, 1) := by decide +kernel
theorem d_Mo_directory_6 : decode b_Mo_directory 6 = .ok (.iload_n 1, 1) := by decide +kernel
theorem d_Mo_directory_7 : decode b_Mo_directory 7 = .ok (.lload_n 2, 1) := by decide +kernel
theorem d_Mo_directory_8 : decode b_Mo_directory 8 = .ok (.iconst 1, 1) := by decide +kernel
theorem d_Mo_directory_9 : decode b_Mo_directory 9 = .ok (.iconst 0, 1) := by decide +kernel
theorem d_Mo_directory_10 : decode b_Mo_directory 10 = .ok (.iconst 0, 1) := by decide +kernel
theorem d_Mo_directory_11 : decode b_Mo_directory 11 = .ok (.iconst 1, 1) := by decide +kernel
theorem d_Mo_directory_12 : decode b_Mo_directory 12 = .ok (.invokevirtual 154, 3) := by decide +kernel
theorem d_Mo_directory_15 : decode b_Mo_directory 15 = .ok (.ireturn, 1) := by decide +kernel
theorem d_Mo_file_0 : decode b_Mo_file 0 = .ok (.aload_n 0, 1) := by decide +kernel
theorem d_Mo_file_1 : decode b_Mo_file 1 = .ok (.iconst 0, 1) := by decide +kernel
theorem d_Mo_file_2 : decode b_Mo_file 2 = .ok (.putfield 109, 3) := by decide +kernel
theorem d_Mo_file_5 : decode b_Mo_file 5 = .ok (.aload_n 0, 1) := by decide +kernel
theorem d_Mo_file_6 : decode b_Mo_file 6 = .ok (.iload_n 1, 1) := by decide +kernel
theorem d_Mo_file_7 : decode b_Mo_file 7 = .ok (.lload_n 2, 1) := by decide +kernel
theorem d_Mo_file_8 : decode b_Mo_file 8 = .ok (.iconst 0, 1) := by decide +kernel
theorem d_Mo_file_9 : decode b_Mo_file 9 = .ok (.iload 4, 2) := by decide +kernel
theorem d_Mo_file_11 : decode b_Mo_file 11 = .ok (.iload 5, 2) := by decide +kernel
theorem d_Mo_file_13 : decode b_Mo_file 13 = .ok (.iload 4, 2) := by decide +kernel
theorem d_Mo_file_15 : decode b_Mo_file 15 = .ok (.iload 5, 2) := by decide +kernel
theorem d_Mo_file_17 : decode b_Mo_file 17 = .ok (.invokestatic 158, 3) := by decide +kernel
theorem d_Mo_file_20 : decode b_Mo_file 20 = .ok (.invokevirtual 154, 3) := by decide +kernel
theorem d_Mo_file_23 : decode b_Mo_file 23 = .ok (.ireturn, 1) := by decide +kernel
theorem d_Mo_replace_0 : decode b_Mo_replace 0 = .ok (.aload_n 0, 1) := by decide +kernel
theorem d_Mo_replace_1 : decode b_Mo_replace 1 = .ok (.iconst 0, 1) := by decide +kernel
theorem d_Mo_replace_2 : decode b_Mo_replace 2 = .ok (.putfield 109, 3) := by decide +kernel
theorem d_Mo_replace_5 : decode b_Mo_replace 5 = .ok (.aload_n 0, 1) := by decide +kernel
theorem d_Mo_replace_6 : decode b_Mo_replace 6 = .ok (.getfield 125, 3) := by decide +kernel
theorem d_Mo_replace_9 : decode b_Mo_replace 9 = .ok (.ifCond .eq 6, 3) := by decide +kernel
theorem d_Mo_replace_15 : decode b_Mo_replace 15 = .ok (.aload_n 0, 1) := by decide +kernel
theorem d_Mo_replace_16 : decode b_Mo_replace 16 = .ok (.iload_n 1, 1) := by decide +kernel
theorem d_Mo_replace_17 : decode b_Mo_replace 17 = .ok (.invokevirtual 139, 3) := by decide +kernel
theorem d_Mo_replace_20 : decode b_Mo_replace 20 = .ok (.ifCond .eq 20, 3) := by decide +kernel
theorem d_Mo_replace_23 : decode b_Mo_replace 23 = .ok (.aload_n 0, 1) := by decide +kernel
theorem d_Mo_replace_24 : decode b_Mo_replace 24 = .ok (.getfield 27, 3) := by decide +kernel
theorem d_Mo_replace_27 : decode b_Mo_replace 27 = .ok (.iload_n 1, 1) := by decide +kernel
theorem d_Mo_replace_28 : decode b_Mo_replace 28 = .ok (.baload, 1) := by decide +kernel
theorem d_Mo_replace_29 : decode b_Mo_replace 29 = .ok (.ifCond .ne 11, 3) := by decide +kernel
theorem d_Mo_replace_40 : decode b_Mo_replace 40 = .ok (.bipush (-2), 2) := by decide +kernel
theorem d_Mo_replace_42 : decode b_Mo_replace 42 = .ok (.ireturn, 1) := by decide +kernel
theorem d_Mo_remove_0 : decode b_Mo_remove 0 = .ok (.aload_n 0, 1) := by decide +kernel
theorem d_Mo_remove_1 : decode b_Mo_remove 1 = .ok (.iconst 0, 1) := by decide +kernel
theorem d_Mo_remove_2 : decode b_Mo_remove 2 = .ok (.putfield 109, 3) := by decide +kernel
theorem d_Mo_remove_5 : decode b_Mo_remove 5 = .ok (.aload_n 0, 1) := by decide +kernel
theorem d_Mo_remove_6 : decode b_Mo_remove 6 = .ok (.getfield 125, 3) := by decide +kernel
theorem d_Mo_remove_9 : decode b_Mo_remove 9 = .ok (.ifCond .eq 6, 3) := by decide +kernel
theorem d_Mo_remove_15 : decode b_Mo_remove 15 = .ok (.aload_n 0, 1) := by decide +kernel
theorem d_Mo_remove_16 : decode b_Mo_remove 16 = .ok (.iload_n 1, 1) := by decide +kernel
theorem d_Mo_remove_17 : decode b_Mo_remove 17 = .ok (.invokevirtual 139, 3) := by decide +kernel
theorem d_Mo_remove_20 : decode b_Mo_remove 20 = .ok (.ifCond .eq 7, 3) := by decide +kernel
theorem d_Mo_remove_23 : decode b_Mo_remove 23 = .ok (.iload_n 1, 1) := by decide +kernel
theorem d_Mo_remove_24 : decode b_Mo_remove 24 = .ok (.ifCond .ne 6, 3) := by decide +kernel
theorem d_Mo_remove_27 : decode b_Mo_remove 27 = .ok (.bipush (-2), 2) := by decide +kernel
theorem d_Mo_remove_29 : decode b_Mo_remove 29 = .ok (.ireturn, 1) := by decide +kernel
theorem d_Mo_rename_0 : decode b_Mo_rename 0 = .ok (.aload_n 0, 1) := by decide +kernel
theorem d_Mo_rename_1 : decode b_Mo_rename 1 = .ok (.iconst 0, 1) := by decide +kernel
theorem d_Mo_rename_2 : decode b_Mo_rename 2 = .ok (.putfield 109, 3) := by decide +kernel
theorem d_Mo_rename_5 : decode b_Mo_rename 5 = .ok (.aload_n 0, 1) := by decide +kernel
theorem d_Mo_rename_6 : decode b_Mo_rename 6 = .ok (.getfield 125, 3) := by decide +kernel
theorem d_Mo_rename_9 : decode b_Mo_rename 9 = .ok (.ifCond .eq 6, 3) := by decide +kernel
theorem d_Mo_rename_15 : decode b_Mo_rename 15 = .ok (.lload_n 3, 1) := by decide +kernel
theorem d_Mo_rename_16 : decode b_Mo_rename 16 = .ok (.invokestatic 135, 3) := by decide +kernel
theorem d_Mo_rename_19 : decode b_Mo_rename 19 = .ok (.lstore 5, 2) := by decide +kernel
theorem d_Mo_rename_21 : decode b_Mo_rename 21 = .ok (.aload_n 0, 1) := by decide +kernel
theorem d_Mo_rename_22 : decode b_Mo_rename 22 = .ok (.iload_n 1, 1) := by decide +kernel
theorem d_Mo_rename_23 : decode b_Mo_rename 23 = .ok (.invokevirtual 139, 3) := by decide +kernel
theorem d_Mo_rename_26 : decode b_Mo_rename 26 = .ok (.ifCond .eq 40, 3) := by decide +kernel
theorem d_Mo_rename_29 : decode b_Mo_rename 29 = .ok (.iload_n 1, 1) := by decide +kernel
theorem d_Mo_rename_30 : decode b_Mo_rename 30 = .ok (.ifCond .eq 36, 3) := by decide +kernel
theorem d_Mo_rename_66 : decode b_Mo_rename 66 = .ok (.bipush (-2), 2) := by decide +kernel
theorem d_Mo_rename_68 : decode b_Mo_rename 68 = .ok (.ireturn, 1) := by decide +kernel
theorem d_Mo_defect_0 : decode b_Mo_defect 0 = .ok (.aload_n 0, 1) := by decide +kernel
theorem d_Mo_defect_1 : decode b_Mo_defect 1 = .ok (.iconst 0, 1) := by decide +kernel
theorem d_Mo_defect_2 : decode b_Mo_defect 2 = .ok (.putfield 109, 3) := by decide +kernel
theorem d_Mo_defect_5 : decode b_Mo_defect 5 = .ok (.iload_n 1, 1) := by decide +kernel
theorem d_Mo_defect_6 : decode b_Mo_defect 6 = .ok (.iconst 0, 1) := by decide +kernel
theorem d_Mo_defect_7 : decode b_Mo_defect 7 = .ok (.aload_n 0, 1) := by decide +kernel
theorem d_Mo_defect_8 : decode b_Mo_defect 8 = .ok (.getfield 99, 3) := by decide +kernel
theorem d_Mo_defect_11 : decode b_Mo_defect 11 = .ok (.iconst 1, 1) := by decide +kernel
theorem d_Mo_defect_12 : decode b_Mo_defect 12 = .ok (.isub, 1) := by decide +kernel
theorem d_Mo_defect_13 : decode b_Mo_defect 13 = .ok (.invokestatic 118, 3) := by decide +kernel
theorem d_Mo_defect_16 : decode b_Mo_defect 16 = .ok (.ifCond .ne 5, 3) := by decide +kernel
theorem d_Mo_defect_21 : decode b_Mo_defect 21 = .ok (.aload_n 0, 1) := by decide +kernel
theorem d_Mo_defect_22 : decode b_Mo_defect 22 = .ok (.getfield 14, 3) := by decide +kernel
theorem d_Mo_defect_25 : decode b_Mo_defect 25 = .ok (.aload_n 0, 1) := by decide +kernel
theorem d_Mo_defect_26 : decode b_Mo_defect 26 = .ok (.getfield 115, 3) := by decide +kernel
theorem d_Mo_defect_29 : decode b_Mo_defect 29 = .ok (.iload_n 1, 1) := by decide +kernel
theorem d_Mo_defect_30 : decode b_Mo_defect 30 = .ok (.iadd, 1) := by decide +kernel
theorem d_Mo_defect_31 : decode b_Mo_defect 31 = .ok (.baload, 1) := by decide +kernel
theorem d_Mo_defect_32 : decode b_Mo_defect 32 = .ok (.ifCond .ne 10, 3) := by decide +kernel
theorem d_Mo_defect_35 : decode b_Mo_defect 35 = .ok (.aload_n 0, 1) := by decide +kernel
theorem d_Mo_defect_36 : decode b_Mo_defect 36 = .ok (.getfield 17, 3) := by decide +kernel
theorem d_Mo_defect_39 : decode b_Mo_defect 39 = .ok (.iload_n 1, 1) := by decide +kernel
theorem d_Mo_defect_40 : decode b_Mo_defect 40 = .ok (.iconst 1, 1) := by decide +kernel
theorem d_Mo_defect_41 : decode b_Mo_defect 41 = .ok (.bastore, 1) := by decide +kernel
theorem d_Mo_defect_42 : decode b_Mo_defect 42 = .ok (.iconst 1, 1) := by decide +kernel
theorem d_Mo_defect_43 : decode b_Mo_defect 43 = .ok (.ireturn, 1) := by decide +kernel
theorem d_Mo_defect_19 : decode b_Mo_defect 19 = .ok (.iconst 0, 1) := by decide +kernel
theorem d_Mo_defect_20 : decode b_Mo_defect 20 = .ok (.ireturn, 1) := by decide +kernel
theorem d_Mo_power_0 : decode b_Mo_power 0 = .ok (.aload_n 0, 1) := by decide +kernel
theorem d_Mo_power_1 : decode b_Mo_power 1 = .ok (.iconst 0, 1) := by decide +kernel
theorem d_Mo_power_2 : decode b_Mo_power 2 = .ok (.putfield 109, 3) := by decide +kernel
theorem d_Mo_power_5 : decode b_Mo_power 5 = .ok (.aload_n 0, 1) := by decide +kernel
theorem d_Mo_power_6 : decode b_Mo_power 6 = .ok (.getfield 125, 3) := by decide +kernel
theorem d_Mo_power_9 : decode b_Mo_power 9 = .ok (.ifCond .ne 16, 3) := by decide +kernel
theorem d_Mo_power_12 : decode b_Mo_power 12 = .ok (.aload_n 0, 1) := by decide +kernel
theorem d_Mo_power_13 : decode b_Mo_power 13 = .ok (.iload_n 1, 1) := by decide +kernel
theorem d_Mo_power_14 : decode b_Mo_power 14 = .ok (.ifCond .ge 7, 3) := by decide +kernel
theorem d_Mo_power_21 : decode b_Mo_power 21 = .ok (.iload_n 1, 1) := by decide +kernel
theorem d_Mo_power_22 : decode b_Mo_power 22 = .ok (.putfield 103, 3) := by decide +kernel
theorem d_Mo_power_25 : decode b_Mo_power 25 = .ok (.return_, 1) := by decide +kernel
theorem d_Mo_power_17 : decode b_Mo_power 17 = .ok (.iconst (-1), 1) := by decide +kernel
theorem d_Mo_power_18 : decode b_Mo_power 18 = .ok (.goto 4, 3) := by decide +kernel
theorem d_Mo_state_0 : decode b_Mo_state 0 = .ok (.aload_n 0, 1) := by decide +kernel
theorem d_Mo_state_1 : decode b_Mo_state 1 = .ok (.iconst 0, 1) := by decide +kernel
theorem d_Mo_state_2 : decode b_Mo_state 2 = .ok (.putfield 109, 3) := by decide +kernel
theorem d_Mo_state_5 : decode b_Mo_state 5 = .ok (.iload_n 1, 1) := by decide +kernel
theorem d_Mo_state_6 : decode b_Mo_state 6 = .ok (.iconst 0, 1) := by decide +kernel
theorem d_Mo_state_7 : decode b_Mo_state 7 = .ok (.aload_n 0, 1) := by decide +kernel
theorem d_Mo_state_8 : decode b_Mo_state 8 = .ok (.getfield 99, 3) := by decide +kernel
theorem d_Mo_state_11 : decode b_Mo_state 11 = .ok (.iconst 1, 1) := by decide +kernel
theorem d_Mo_state_12 : decode b_Mo_state 12 = .ok (.isub, 1) := by decide +kernel
theorem d_Mo_state_13 : decode b_Mo_state 13 = .ok (.invokestatic 118, 3) := by decide +kernel
theorem d_Mo_state_16 : decode b_Mo_state 16 = .ok (.ifCond .eq 17, 3) := by decide +kernel
theorem d_Mo_state_19 : decode b_Mo_state 19 = .ok (.aload_n 0, 1) := by decide +kernel
theorem d_Mo_state_20 : decode b_Mo_state 20 = .ok (.getfield 14, 3) := by decide +kernel
theorem d_Mo_state_23 : decode b_Mo_state 23 = .ok (.aload_n 0, 1) := by decide +kernel
theorem d_Mo_state_24 : decode b_Mo_state 24 = .ok (.getfield 115, 3) := by decide +kernel
theorem d_Mo_state_27 : decode b_Mo_state 27 = .ok (.iload_n 1, 1) := by decide +kernel
theorem d_Mo_state_28 : decode b_Mo_state 28 = .ok (.iadd, 1) := by decide +kernel
theorem d_Mo_state_29 : decode b_Mo_state 29 = .ok (.baload, 1) := by decide +kernel
theorem d_Mo_state_30 : decode b_Mo_state 30 = .ok (.goto 4, 3) := by decide +kernel
theorem d_Mo_state_34 : decode b_Mo_state 34 = .ok (.ireturn, 1) := by decide +kernel
theorem d_Mo_state_33 : decode b_Mo_state 33 = .ok (.iconst (-1), 1) := by decide +kernel
theorem d_Mo_writes_0 : decode b_Mo_writes 0 = .ok (.aload_n 0, 1) := by decide +kernel
theorem d_Mo_writes_1 : decode b_Mo_writes 1 = .ok (.iconst 0, 1) := by decide +kernel
theorem d_Mo_writes_2 : decode b_Mo_writes 2 = .ok (.putfield 109, 3) := by decide +kernel
theorem d_Mo_writes_5 : decode b_Mo_writes 5 = .ok (.aload_n 0, 1) := by decide +kernel
theorem d_Mo_writes_6 : decode b_Mo_writes 6 = .ok (.getfield 122, 3) := by decide +kernel
theorem d_Mo_writes_9 : decode b_Mo_writes 9 = .ok (.ireturn, 1) := by decide +kernel
theorem d_Mo_get_0 : decode b_Mo_get 0 = .ok (.aload_n 0, 1) := by decide +kernel
theorem d_Mo_get_1 : decode b_Mo_get 1 = .ok (.getfield 8, 3) := by decide +kernel
theorem d_Mo_get_4 : decode b_Mo_get 4 = .ok (.sipush 2048, 3) := by decide +kernel
theorem d_Mo_get_7 : decode b_Mo_get 7 = .ok (.aload_n 0, 1) := by decide +kernel
theorem d_Mo_get_8 : decode b_Mo_get 8 = .ok (.getfield 115, 3) := by decide +kernel
theorem d_Mo_get_11 : decode b_Mo_get 11 = .ok (.imul, 1) := by decide +kernel
theorem d_Mo_get_12 : decode b_Mo_get 12 = .ok (.iload_n 1, 1) := by decide +kernel
theorem d_Mo_get_13 : decode b_Mo_get 13 = .ok (.iadd, 1) := by decide +kernel
theorem d_Mo_get_14 : decode b_Mo_get 14 = .ok (.baload, 1) := by decide +kernel
theorem d_Mo_get_15 : decode b_Mo_get 15 = .ok (.sipush 255, 3) := by decide +kernel
theorem d_Mo_get_18 : decode b_Mo_get 18 = .ok (.iand, 1) := by decide +kernel
theorem d_Mo_get_19 : decode b_Mo_get 19 = .ok (.ireturn, 1) := by decide +kernel
theorem d_Mo_byteAt_0 : decode b_Mo_byteAt 0 = .ok (.aload_n 0, 1) := by decide +kernel
theorem d_Mo_byteAt_1 : decode b_Mo_byteAt 1 = .ok (.iconst 0, 1) := by decide +kernel
theorem d_Mo_byteAt_2 : decode b_Mo_byteAt 2 = .ok (.putfield 109, 3) := by decide +kernel
theorem d_Mo_byteAt_5 : decode b_Mo_byteAt 5 = .ok (.iload_n 1, 1) := by decide +kernel
theorem d_Mo_byteAt_6 : decode b_Mo_byteAt 6 = .ok (.iconst 0, 1) := by decide +kernel
theorem d_Mo_byteAt_7 : decode b_Mo_byteAt 7 = .ok (.sipush 2048, 3) := by decide +kernel
theorem d_Mo_byteAt_10 : decode b_Mo_byteAt 10 = .ok (.aload_n 0, 1) := by decide +kernel
theorem d_Mo_byteAt_11 : decode b_Mo_byteAt 11 = .ok (.getfield 99, 3) := by decide +kernel
theorem d_Mo_byteAt_14 : decode b_Mo_byteAt 14 = .ok (.imul, 1) := by decide +kernel
theorem d_Mo_byteAt_15 : decode b_Mo_byteAt 15 = .ok (.iconst 1, 1) := by decide +kernel
theorem d_Mo_byteAt_16 : decode b_Mo_byteAt 16 = .ok (.isub, 1) := by decide +kernel
theorem d_Mo_byteAt_17 : decode b_Mo_byteAt 17 = .ok (.invokestatic 118, 3) := by decide +kernel
theorem d_Mo_byteAt_20 : decode b_Mo_byteAt 20 = .ok (.ifCond .eq 11, 3) := by decide +kernel
theorem d_Mo_byteAt_31 : decode b_Mo_byteAt 31 = .ok (.iconst (-1), 1) := by decide +kernel
theorem d_Mo_byteAt_32 : decode b_Mo_byteAt 32 = .ok (.ireturn, 1) := by decide +kernel
theorem d_Mo_byteAt_23 : decode b_Mo_byteAt 23 = .ok (.aload_n 0, 1) := by decide +kernel
theorem d_Mo_byteAt_24 : decode b_Mo_byteAt 24 = .ok (.iload_n 1, 1) := by decide +kernel
theorem d_Mo_byteAt_25 : decode b_Mo_byteAt 25 = .ok (.invokevirtual 225, 3) := by decide +kernel
theorem d_Mo_byteAt_28 : decode b_Mo_byteAt 28 = .ok (.goto 4, 3) := by decide +kernel
theorem d_Mo_spoil_0 : decode b_Mo_spoil 0 = .ok (.aload_n 0, 1) := by decide +kernel
theorem d_Mo_spoil_1 : decode b_Mo_spoil 1 = .ok (.iconst 0, 1) := by decide +kernel
theorem d_Mo_spoil_2 : decode b_Mo_spoil 2 = .ok (.putfield 109, 3) := by decide +kernel
theorem d_Mo_spoil_5 : decode b_Mo_spoil 5 = .ok (.iload_n 1, 1) := by decide +kernel
theorem d_Mo_spoil_6 : decode b_Mo_spoil 6 = .ok (.iconst 0, 1) := by decide +kernel
theorem d_Mo_spoil_7 : decode b_Mo_spoil 7 = .ok (.sipush 2048, 3) := by decide +kernel
theorem d_Mo_spoil_10 : decode b_Mo_spoil 10 = .ok (.aload_n 0, 1) := by decide +kernel
theorem d_Mo_spoil_11 : decode b_Mo_spoil 11 = .ok (.getfield 99, 3) := by decide +kernel
theorem d_Mo_spoil_14 : decode b_Mo_spoil 14 = .ok (.imul, 1) := by decide +kernel
theorem d_Mo_spoil_15 : decode b_Mo_spoil 15 = .ok (.iconst 1, 1) := by decide +kernel
theorem d_Mo_spoil_16 : decode b_Mo_spoil 16 = .ok (.isub, 1) := by decide +kernel
theorem d_Mo_spoil_17 : decode b_Mo_spoil 17 = .ok (.invokestatic 118, 3) := by decide +kernel
theorem d_Mo_spoil_20 : decode b_Mo_spoil 20 = .ok (.ifCond .eq 22, 3) := by decide +kernel
theorem d_Mo_spoil_42 : decode b_Mo_spoil 42 = .ok (.iconst (-1), 1) := by decide +kernel
theorem d_Mo_spoil_43 : decode b_Mo_spoil 43 = .ok (.ireturn, 1) := by decide +kernel
theorem d_Mo_spoil_23 : decode b_Mo_spoil 23 = .ok (.aload_n 0, 1) := by decide +kernel
theorem d_Mo_spoil_24 : decode b_Mo_spoil 24 = .ok (.getfield 14, 3) := by decide +kernel
theorem d_Mo_spoil_27 : decode b_Mo_spoil 27 = .ok (.aload_n 0, 1) := by decide +kernel
theorem d_Mo_spoil_28 : decode b_Mo_spoil 28 = .ok (.getfield 115, 3) := by decide +kernel
theorem d_Mo_spoil_31 : decode b_Mo_spoil 31 = .ok (.iload_n 1, 1) := by decide +kernel
theorem d_Mo_spoil_32 : decode b_Mo_spoil 32 = .ok (.sipush 2048, 3) := by decide +kernel
theorem d_Mo_spoil_35 : decode b_Mo_spoil 35 = .ok (.idiv, 1) := by decide +kernel
theorem d_Mo_spoil_36 : decode b_Mo_spoil 36 = .ok (.iadd, 1) := by decide +kernel
theorem d_Mo_spoil_37 : decode b_Mo_spoil 37 = .ok (.baload, 1) := by decide +kernel
theorem d_Mo_spoil_38 : decode b_Mo_spoil 38 = .ok (.iconst 1, 1) := by decide +kernel
theorem d_Mo_spoil_39 : decode b_Mo_spoil 39 = .ok (.if_icmp .eq 5, 3) := by decide +kernel
theorem d_Mo_isWrittenSector_0 : decode b_Mo_isWrittenSector 0 = .ok (.iload_n 1, 1) := by decide +kernel
theorem d_Mo_isWrittenSector_1 : decode b_Mo_isWrittenSector 1 = .ok (.iconst 0, 1) := by decide +kernel
theorem d_Mo_isWrittenSector_2 : decode b_Mo_isWrittenSector 2 = .ok (.aload_n 0, 1) := by decide +kernel
theorem d_Mo_isWrittenSector_3 : decode b_Mo_isWrittenSector 3 = .ok (.getfield 99, 3) := by decide +kernel
theorem d_Mo_isWrittenSector_6 : decode b_Mo_isWrittenSector 6 = .ok (.iconst 1, 1) := by decide +kernel
theorem d_Mo_isWrittenSector_7 : decode b_Mo_isWrittenSector 7 = .ok (.isub, 1) := by decide +kernel
theorem d_Mo_isWrittenSector_8 : decode b_Mo_isWrittenSector 8 = .ok (.invokestatic 118, 3) := by decide +kernel
theorem d_Mo_isWrittenSector_11 : decode b_Mo_isWrittenSector 11 = .ok (.ifCond .eq 22, 3) := by decide +kernel
theorem d_Mo_isWrittenSector_14 : decode b_Mo_isWrittenSector 14 = .ok (.aload_n 0, 1) := by decide +kernel
theorem d_Mo_isWrittenSector_15 : decode b_Mo_isWrittenSector 15 = .ok (.getfield 14, 3) := by decide +kernel
theorem d_Mo_isWrittenSector_18 : decode b_Mo_isWrittenSector 18 = .ok (.aload_n 0, 1) := by decide +kernel
theorem d_Mo_isWrittenSector_19 : decode b_Mo_isWrittenSector 19 = .ok (.getfield 115, 3) := by decide +kernel
theorem d_Mo_isWrittenSector_22 : decode b_Mo_isWrittenSector 22 = .ok (.iload_n 1, 1) := by decide +kernel
theorem d_Mo_isWrittenSector_23 : decode b_Mo_isWrittenSector 23 = .ok (.iadd, 1) := by decide +kernel
theorem d_Mo_isWrittenSector_24 : decode b_Mo_isWrittenSector 24 = .ok (.baload, 1) := by decide +kernel
theorem d_Mo_isWrittenSector_25 : decode b_Mo_isWrittenSector 25 = .ok (.iconst 1, 1) := by decide +kernel
theorem d_Mo_isWrittenSector_26 : decode b_Mo_isWrittenSector 26 = .ok (.if_icmp .ne 7, 3) := by decide +kernel
theorem d_Mo_isWrittenSector_33 : decode b_Mo_isWrittenSector 33 = .ok (.iconst 0, 1) := by decide +kernel
theorem d_Mo_isWrittenSector_34 : decode b_Mo_isWrittenSector 34 = .ok (.ireturn, 1) := by decide +kernel
theorem d_Mo_isMark_0 : decode b_Mo_isMark 0 = .ok (.sipush 2048, 3) := by decide +kernel
theorem d_Mo_isMark_3 : decode b_Mo_isMark 3 = .ok (.iload_n 1, 1) := by decide +kernel
theorem d_Mo_isMark_4 : decode b_Mo_isMark 4 = .ok (.imul, 1) := by decide +kernel
theorem d_Mo_isMark_5 : decode b_Mo_isMark 5 = .ok (.istore_n 2, 1) := by decide +kernel
theorem d_Mo_isMark_6 : decode b_Mo_isMark 6 = .ok (.aload_n 0, 1) := by decide +kernel
theorem d_Mo_isMark_7 : decode b_Mo_isMark 7 = .ok (.iload_n 1, 1) := by decide +kernel
theorem d_Mo_isMark_8 : decode b_Mo_isMark 8 = .ok (.invokevirtual 260, 3) := by decide +kernel
theorem d_Mo_isMark_11 : decode b_Mo_isMark 11 = .ok (.ifCond .eq 49, 3) := by decide +kernel
theorem d_Mo_isMark_60 : decode b_Mo_isMark 60 = .ok (.iconst 0, 1) := by decide +kernel
theorem d_Mo_isMark_61 : decode b_Mo_isMark 61 = .ok (.ireturn, 1) := by decide +kernel
theorem d_Mo_markAt_0 : decode b_Mo_markAt 0 = .ok (.iload_n 1, 1) := by decide +kernel
theorem d_Mo_markAt_1 : decode b_Mo_markAt 1 = .ok (.istore_n 2, 1) := by decide +kernel
theorem d_Mo_markAt_2 : decode b_Mo_markAt 2 = .ok (.iconst 0, 1) := by decide +kernel
theorem d_Mo_markAt_3 : decode b_Mo_markAt 3 = .ok (.istore_n 3, 1) := by decide +kernel
theorem d_Mo_markAt_4 : decode b_Mo_markAt 4 = .ok (.iload_n 3, 1) := by decide +kernel
theorem d_Mo_markAt_5 : decode b_Mo_markAt 5 = .ok (.aload_n 0, 1) := by decide +kernel
theorem d_Mo_markAt_6 : decode b_Mo_markAt 6 = .ok (.getfield 99, 3) := by decide +kernel
theorem d_Mo_markAt_9 : decode b_Mo_markAt 9 = .ok (.if_icmp .ge 33, 3) := by decide +kernel
theorem d_Mo_markAt_42 : decode b_Mo_markAt 42 = .ok (.iconst (-1), 1) := by decide +kernel
theorem d_Mo_markAt_43 : decode b_Mo_markAt 43 = .ok (.ireturn, 1) := by decide +kernel
theorem d_Mo_markAt_12 : decode b_Mo_markAt 12 = .ok (.iload_n 1, 1) := by decide +kernel
theorem d_Mo_markAt_13 : decode b_Mo_markAt 13 = .ok (.ifCond .lt 29, 3) := by decide +kernel
theorem d_Mo_markAt_16 : decode b_Mo_markAt 16 = .ok (.aload_n 0, 1) := by decide +kernel
theorem d_Mo_markAt_17 : decode b_Mo_markAt 17 = .ok (.iload_n 3, 1) := by decide +kernel
theorem d_Mo_markAt_18 : decode b_Mo_markAt 18 = .ok (.invokevirtual 311, 3) := by decide +kernel
theorem d_Mo_markAt_21 : decode b_Mo_markAt 21 = .ok (.ifCond .ne 6, 3) := by decide +kernel
theorem d_Mo_markAt_24 : decode b_Mo_markAt 24 = .ok (.goto 12, 3) := by decide +kernel
theorem d_Mo_markAt_36 : decode b_Mo_markAt 36 = .ok (.iinc 3 1, 3) := by decide +kernel
theorem d_Mo_markAt_39 : decode b_Mo_markAt 39 = .ok (.goto (-35), 3) := by decide +kernel
theorem d_Mo_mark_0 : decode b_Mo_mark 0 = .ok (.aload_n 0, 1) := by decide +kernel
theorem d_Mo_mark_1 : decode b_Mo_mark 1 = .ok (.iload_n 1, 1) := by decide +kernel
theorem d_Mo_mark_2 : decode b_Mo_mark 2 = .ok (.invokevirtual 314, 3) := by decide +kernel
theorem d_Mo_mark_5 : decode b_Mo_mark 5 = .ok (.istore_n 3, 1) := by decide +kernel
theorem d_Mo_mark_6 : decode b_Mo_mark 6 = .ok (.aload_n 0, 1) := by decide +kernel
theorem d_Mo_mark_7 : decode b_Mo_mark 7 = .ok (.iload_n 3, 1) := by decide +kernel
theorem d_Mo_mark_8 : decode b_Mo_mark 8 = .ok (.ifCond .lt 16, 3) := by decide +kernel
theorem d_Mo_mark_24 : decode b_Mo_mark 24 = .ok (.iconst 1, 1) := by decide +kernel
theorem d_Mo_mark_25 : decode b_Mo_mark 25 = .ok (.putfield 109, 3) := by decide +kernel
theorem d_Mo_mark_28 : decode b_Mo_mark 28 = .ok (.aload_n 0, 1) := by decide +kernel
theorem d_Mo_mark_29 : decode b_Mo_mark 29 = .ok (.getfield 109, 3) := by decide +kernel
theorem d_Mo_mark_32 : decode b_Mo_mark 32 = .ok (.iconst 1, 1) := by decide +kernel
theorem d_Mo_mark_33 : decode b_Mo_mark 33 = .ok (.if_icmp .ne 5, 3) := by decide +kernel
theorem d_Mo_mark_36 : decode b_Mo_mark 36 = .ok (.iconst 0, 1) := by decide +kernel
theorem d_Mo_mark_37 : decode b_Mo_mark 37 = .ok (.ireturn, 1) := by decide +kernel
theorem d_Mo_open_0 : decode b_Mo_open 0 = .ok (.aload_n 0, 1) := by decide +kernel
theorem d_Mo_open_1 : decode b_Mo_open 1 = .ok (.iconst 0, 1) := by decide +kernel
theorem d_Mo_open_2 : decode b_Mo_open 2 = .ok (.putfield 109, 3) := by decide +kernel
theorem d_Mo_open_5 : decode b_Mo_open 5 = .ok (.aload_n 0, 1) := by decide +kernel
theorem d_Mo_open_6 : decode b_Mo_open 6 = .ok (.iload_n 1, 1) := by decide +kernel
theorem d_Mo_open_7 : decode b_Mo_open 7 = .ok (.invokevirtual 314, 3) := by decide +kernel
theorem d_Mo_open_10 : decode b_Mo_open 10 = .ok (.istore_n 2, 1) := by decide +kernel
theorem d_Mo_open_11 : decode b_Mo_open 11 = .ok (.iload_n 2, 1) := by decide +kernel
theorem d_Mo_open_12 : decode b_Mo_open 12 = .ok (.ifCond .ge 7, 3) := by decide +kernel
theorem d_Mo_open_15 : decode b_Mo_open 15 = .ok (.ldc_w 320, 3) := by decide +kernel
theorem d_Mo_open_18 : decode b_Mo_open 18 = .ok (.ireturn, 1) := by decide +kernel
theorem d_Mo_node_0 : decode b_Mo_node 0 = .ok (.aload_n 0, 1) := by decide +kernel
theorem d_Mo_node_1 : decode b_Mo_node 1 = .ok (.iload_n 1, 1) := by decide +kernel
theorem d_Mo_node_2 : decode b_Mo_node 2 = .ok (.iconst 0, 1) := by decide +kernel
theorem d_Mo_node_3 : decode b_Mo_node 3 = .ok (.aload_n 0, 1) := by decide +kernel
theorem d_Mo_node_4 : decode b_Mo_node 4 = .ok (.getfield 254, 3) := by decide +kernel
theorem d_Mo_node_7 : decode b_Mo_node 7 = .ok (.iconst 1, 1) := by decide +kernel
theorem d_Mo_node_8 : decode b_Mo_node 8 = .ok (.isub, 1) := by decide +kernel
theorem d_Mo_node_9 : decode b_Mo_node 9 = .ok (.invokestatic 118, 3) := by decide +kernel
theorem d_Mo_node_12 : decode b_Mo_node 12 = .ok (.ifCond .eq 16, 3) := by decide +kernel
theorem d_Mo_node_28 : decode b_Mo_node 28 = .ok (.iconst 1, 1) := by decide +kernel
theorem d_Mo_node_29 : decode b_Mo_node 29 = .ok (.putfield 109, 3) := by decide +kernel
theorem d_Mo_node_32 : decode b_Mo_node 32 = .ok (.aload_n 0, 1) := by decide +kernel
theorem d_Mo_node_33 : decode b_Mo_node 33 = .ok (.getfield 109, 3) := by decide +kernel
theorem d_Mo_node_36 : decode b_Mo_node 36 = .ok (.iconst 1, 1) := by decide +kernel
theorem d_Mo_node_37 : decode b_Mo_node 37 = .ok (.if_icmp .ne 5, 3) := by decide +kernel
theorem d_Mo_node_40 : decode b_Mo_node 40 = .ok (.iconst 0, 1) := by decide +kernel
theorem d_Mo_node_41 : decode b_Mo_node 41 = .ok (.ireturn, 1) := by decide +kernel
theorem d_Mo_name_0 : decode b_Mo_name 0 = .ok (.aload_n 0, 1) := by decide +kernel
theorem d_Mo_name_1 : decode b_Mo_name 1 = .ok (.iload_n 1, 1) := by decide +kernel
theorem d_Mo_name_2 : decode b_Mo_name 2 = .ok (.iconst 0, 1) := by decide +kernel
theorem d_Mo_name_3 : decode b_Mo_name 3 = .ok (.aload_n 0, 1) := by decide +kernel
theorem d_Mo_name_4 : decode b_Mo_name 4 = .ok (.getfield 254, 3) := by decide +kernel
theorem d_Mo_name_7 : decode b_Mo_name 7 = .ok (.iconst 1, 1) := by decide +kernel
theorem d_Mo_name_8 : decode b_Mo_name 8 = .ok (.isub, 1) := by decide +kernel
theorem d_Mo_name_9 : decode b_Mo_name 9 = .ok (.invokestatic 118, 3) := by decide +kernel
theorem d_Mo_name_12 : decode b_Mo_name 12 = .ok (.ifCond .eq 7, 3) := by decide +kernel
theorem d_Mo_name_19 : decode b_Mo_name 19 = .ok (.iconst 1, 1) := by decide +kernel
theorem d_Mo_name_20 : decode b_Mo_name 20 = .ok (.putfield 109, 3) := by decide +kernel
theorem d_Mo_name_23 : decode b_Mo_name 23 = .ok (.aload_n 0, 1) := by decide +kernel
theorem d_Mo_name_24 : decode b_Mo_name 24 = .ok (.getfield 109, 3) := by decide +kernel
theorem d_Mo_name_27 : decode b_Mo_name 27 = .ok (.iconst 1, 1) := by decide +kernel
theorem d_Mo_name_28 : decode b_Mo_name 28 = .ok (.if_icmp .ne 7, 3) := by decide +kernel
theorem d_Mo_name_31 : decode b_Mo_name 31 = .ok (.lconst 0, 1) := by decide +kernel
theorem d_Mo_name_32 : decode b_Mo_name 32 = .ok (.goto 9, 3) := by decide +kernel
theorem d_Mo_name_41 : decode b_Mo_name 41 = .ok (.lreturn, 1) := by decide +kernel
theorem d_Mo_read_0 : decode b_Mo_read 0 = .ok (.aload_n 0, 1) := by decide +kernel
theorem d_Mo_read_1 : decode b_Mo_read 1 = .ok (.iload_n 1, 1) := by decide +kernel
theorem d_Mo_read_2 : decode b_Mo_read 2 = .ok (.iconst 0, 1) := by decide +kernel
theorem d_Mo_read_3 : decode b_Mo_read 3 = .ok (.aload_n 0, 1) := by decide +kernel
theorem d_Mo_read_4 : decode b_Mo_read 4 = .ok (.getfield 254, 3) := by decide +kernel
theorem d_Mo_read_7 : decode b_Mo_read 7 = .ok (.iconst 1, 1) := by decide +kernel
theorem d_Mo_read_8 : decode b_Mo_read 8 = .ok (.isub, 1) := by decide +kernel
theorem d_Mo_read_9 : decode b_Mo_read 9 = .ok (.invokestatic 118, 3) := by decide +kernel
theorem d_Mo_read_12 : decode b_Mo_read 12 = .ok (.ifCond .eq 32, 3) := by decide +kernel
theorem d_Mo_read_44 : decode b_Mo_read 44 = .ok (.iconst 1, 1) := by decide +kernel
theorem d_Mo_read_45 : decode b_Mo_read 45 = .ok (.putfield 109, 3) := by decide +kernel
theorem d_Mo_read_48 : decode b_Mo_read 48 = .ok (.aload_n 0, 1) := by decide +kernel
theorem d_Mo_read_49 : decode b_Mo_read 49 = .ok (.getfield 109, 3) := by decide +kernel
theorem d_Mo_read_52 : decode b_Mo_read 52 = .ok (.iconst 1, 1) := by decide +kernel
theorem d_Mo_read_53 : decode b_Mo_read 53 = .ok (.if_icmp .ne 7, 3) := by decide +kernel
theorem d_Mo_read_56 : decode b_Mo_read 56 = .ok (.iconst 0, 1) := by decide +kernel
theorem d_Mo_read_57 : decode b_Mo_read 57 = .ok (.goto 19, 3) := by decide +kernel
theorem d_Mo_read_76 : decode b_Mo_read 76 = .ok (.ireturn, 1) := by decide +kernel
theorem d_Mo_tree_0 : decode b_Mo_tree 0 = .ok (.aload_n 0, 1) := by decide +kernel
theorem d_Mo_tree_1 : decode b_Mo_tree 1 = .ok (.aload_n 0, 1) := by decide +kernel
theorem d_Mo_tree_2 : decode b_Mo_tree 2 = .ok (.iload_n 1, 1) := by decide +kernel
theorem d_Mo_tree_3 : decode b_Mo_tree 3 = .ok (.invokevirtual 139, 3) := by decide +kernel
theorem d_Mo_tree_6 : decode b_Mo_tree 6 = .ok (.ifCond .eq 16, 3) := by decide +kernel
theorem d_Mo_tree_9 : decode b_Mo_tree 9 = .ok (.iload_n 2, 1) := by decide +kernel
theorem d_Mo_tree_10 : decode b_Mo_tree 10 = .ok (.iconst 0, 1) := by decide +kernel
theorem d_Mo_tree_11 : decode b_Mo_tree 11 = .ok (.iconst 4, 1) := by decide +kernel
theorem d_Mo_tree_12 : decode b_Mo_tree 12 = .ok (.invokestatic 118, 3) := by decide +kernel
theorem d_Mo_tree_15 : decode b_Mo_tree 15 = .ok (.ifCond .eq 7, 3) := by decide +kernel
theorem d_Mo_tree_22 : decode b_Mo_tree 22 = .ok (.iconst 1, 1) := by decide +kernel
theorem d_Mo_tree_23 : decode b_Mo_tree 23 = .ok (.putfield 109, 3) := by decide +kernel
theorem d_Mo_tree_26 : decode b_Mo_tree 26 = .ok (.aload_n 0, 1) := by decide +kernel
theorem d_Mo_tree_27 : decode b_Mo_tree 27 = .ok (.getfield 109, 3) := by decide +kernel
theorem d_Mo_tree_30 : decode b_Mo_tree 30 = .ok (.iconst 1, 1) := by decide +kernel
theorem d_Mo_tree_31 : decode b_Mo_tree 31 = .ok (.if_icmp .ne 5, 3) := by decide +kernel
theorem d_Mo_tree_34 : decode b_Mo_tree 34 = .ok (.iconst 0, 1) := by decide +kernel
theorem d_Mo_tree_35 : decode b_Mo_tree 35 = .ok (.ireturn, 1) := by decide +kernel
theorem d_Mo_tree_18 : decode b_Mo_tree 18 = .ok (.iconst 0, 1) := by decide +kernel
theorem d_Mo_tree_19 : decode b_Mo_tree 19 = .ok (.goto 4, 3) := by decide +kernel
theorem d_Mo_tree_36 : decode b_Mo_tree 36 = .ok (.iload_n 2, 1) := by decide +kernel
theorem d_Mo_tree_37 : decode b_Mo_tree 37 = .ok (.ifCond .ne 12, 3) := by decide +kernel
theorem d_Mo_tree_49 : decode b_Mo_tree 49 = .ok (.iload_n 2, 1) := by decide +kernel
theorem d_Mo_tree_50 : decode b_Mo_tree 50 = .ok (.iconst 1, 1) := by decide +kernel
theorem d_Mo_tree_51 : decode b_Mo_tree 51 = .ok (.if_icmp .ne 20, 3) := by decide +kernel
theorem d_Mo_tree_71 : decode b_Mo_tree 71 = .ok (.iload_n 2, 1) := by decide +kernel
theorem d_Mo_tree_72 : decode b_Mo_tree 72 = .ok (.iconst 2, 1) := by decide +kernel
theorem d_Mo_tree_73 : decode b_Mo_tree 73 = .ok (.if_icmp .ne 12, 3) := by decide +kernel
theorem d_Mo_tree_85 : decode b_Mo_tree 85 = .ok (.iload_n 2, 1) := by decide +kernel
theorem d_Mo_tree_86 : decode b_Mo_tree 86 = .ok (.iconst 3, 1) := by decide +kernel
theorem d_Mo_tree_87 : decode b_Mo_tree 87 = .ok (.if_icmp .ne 12, 3) := by decide +kernel
theorem d_Mo_tree_99 : decode b_Mo_tree 99 = .ok (.aload_n 0, 1) := by decide +kernel
theorem d_Mo_tree_100 : decode b_Mo_tree 100 = .ok (.getfield 47, 3) := by decide +kernel
theorem d_Mo_tree_103 : decode b_Mo_tree 103 = .ok (.iload_n 1, 1) := by decide +kernel
theorem d_Mo_tree_104 : decode b_Mo_tree 104 = .ok (.iaload, 1) := by decide +kernel
theorem d_Mo_tree_105 : decode b_Mo_tree 105 = .ok (.ireturn, 1) := by decide +kernel
theorem d_Mo_tree_90 : decode b_Mo_tree 90 = .ok (.aload_n 0, 1) := by decide +kernel
theorem d_Mo_tree_91 : decode b_Mo_tree 91 = .ok (.getfield 41, 3) := by decide +kernel
theorem d_Mo_tree_94 : decode b_Mo_tree 94 = .ok (.iload_n 1, 1) := by decide +kernel
theorem d_Mo_tree_95 : decode b_Mo_tree 95 = .ok (.iaload, 1) := by decide +kernel
theorem d_Mo_tree_96 : decode b_Mo_tree 96 = .ok (.goto 9, 3) := by decide +kernel
theorem d_Mo_tree_76 : decode b_Mo_tree 76 = .ok (.aload_n 0, 1) := by decide +kernel
theorem d_Mo_tree_77 : decode b_Mo_tree 77 = .ok (.getfield 38, 3) := by decide +kernel
theorem d_Mo_tree_80 : decode b_Mo_tree 80 = .ok (.iload_n 1, 1) := by decide +kernel
theorem d_Mo_tree_81 : decode b_Mo_tree 81 = .ok (.iaload, 1) := by decide +kernel
theorem d_Mo_tree_82 : decode b_Mo_tree 82 = .ok (.goto 23, 3) := by decide +kernel
theorem d_Mo_tree_54 : decode b_Mo_tree 54 = .ok (.aload_n 0, 1) := by decide +kernel
theorem d_Mo_tree_55 : decode b_Mo_tree 55 = .ok (.getfield 27, 3) := by decide +kernel
theorem d_Mo_tree_58 : decode b_Mo_tree 58 = .ok (.iload_n 1, 1) := by decide +kernel
theorem d_Mo_tree_59 : decode b_Mo_tree 59 = .ok (.baload, 1) := by decide +kernel
theorem d_Mo_tree_60 : decode b_Mo_tree 60 = .ok (.ifCond .eq 7, 3) := by decide +kernel
theorem d_Mo_tree_63 : decode b_Mo_tree 63 = .ok (.iconst 0, 1) := by decide +kernel
theorem d_Mo_tree_64 : decode b_Mo_tree 64 = .ok (.goto 41, 3) := by decide +kernel
theorem d_Mo_tree_40 : decode b_Mo_tree 40 = .ok (.aload_n 0, 1) := by decide +kernel
theorem d_Mo_tree_41 : decode b_Mo_tree 41 = .ok (.getfield 30, 3) := by decide +kernel
theorem d_Mo_tree_44 : decode b_Mo_tree 44 = .ok (.iload_n 1, 1) := by decide +kernel
theorem d_Mo_tree_45 : decode b_Mo_tree 45 = .ok (.iaload, 1) := by decide +kernel
theorem d_Mo_tree_46 : decode b_Mo_tree 46 = .ok (.goto 59, 3) := by decide +kernel
theorem d_Mo_discover_0 : decode b_Mo_discover 0 = .ok (.aload_n 0, 1) := by decide +kernel
theorem d_Mo_discover_1 : decode b_Mo_discover 1 = .ok (.iconst 0, 1) := by decide +kernel
theorem d_Mo_discover_2 : decode b_Mo_discover 2 = .ok (.putfield 109, 3) := by decide +kernel
theorem d_Mo_discover_5 : decode b_Mo_discover 5 = .ok (.iconst 0, 1) := by decide +kernel
theorem d_Mo_discover_6 : decode b_Mo_discover 6 = .ok (.istore_n 1, 1) := by decide +kernel
theorem d_Mo_discover_7 : decode b_Mo_discover 7 = .ok (.iconst (-1), 1) := by decide +kernel
theorem d_Mo_discover_8 : decode b_Mo_discover 8 = .ok (.istore_n 2, 1) := by decide +kernel
theorem d_Mo_discover_9 : decode b_Mo_discover 9 = .ok (.iconst 0, 1) := by decide +kernel
theorem d_Mo_discover_10 : decode b_Mo_discover 10 = .ok (.istore_n 3, 1) := by decide +kernel
theorem d_Mo_discover_11 : decode b_Mo_discover 11 = .ok (.iload_n 3, 1) := by decide +kernel
theorem d_Mo_discover_12 : decode b_Mo_discover 12 = .ok (.aload_n 0, 1) := by decide +kernel
theorem d_Mo_discover_13 : decode b_Mo_discover 13 = .ok (.getfield 99, 3) := by decide +kernel
theorem d_Mo_discover_16 : decode b_Mo_discover 16 = .ok (.if_icmp .ge 44, 3) := by decide +kernel
theorem d_Mo_discover_60 : decode b_Mo_discover 60 = .ok (.aload_n 0, 1) := by decide +kernel
theorem d_Mo_discover_61 : decode b_Mo_discover 61 = .ok (.getfield 125, 3) := by decide +kernel
theorem d_Mo_discover_64 : decode b_Mo_discover 64 = .ok (.ifCond .eq 8, 3) := by decide +kernel
theorem d_Mo_discover_72 : decode b_Mo_discover 72 = .ok (.aload_n 0, 1) := by decide +kernel
theorem d_Mo_discover_73 : decode b_Mo_discover 73 = .ok (.iconst 0, 1) := by decide +kernel
theorem d_Mo_discover_74 : decode b_Mo_discover 74 = .ok (.putfield 125, 3) := by decide +kernel
theorem d_Mo_discover_77 : decode b_Mo_discover 77 = .ok (.aload_n 0, 1) := by decide +kernel
theorem d_Mo_discover_78 : decode b_Mo_discover 78 = .ok (.iconst 0, 1) := by decide +kernel
theorem d_Mo_discover_79 : decode b_Mo_discover 79 = .ok (.putfield 247, 3) := by decide +kernel
theorem d_Mo_discover_82 : decode b_Mo_discover 82 = .ok (.iconst 0, 1) := by decide +kernel
theorem d_Mo_discover_83 : decode b_Mo_discover 83 = .ok (.istore_n 3, 1) := by decide +kernel
theorem d_Mo_discover_84 : decode b_Mo_discover 84 = .ok (.iload_n 3, 1) := by decide +kernel
theorem d_Mo_discover_85 : decode b_Mo_discover 85 = .ok (.aload_n 0, 1) := by decide +kernel
theorem d_Mo_discover_86 : decode b_Mo_discover 86 = .ok (.getfield 112, 3) := by decide +kernel
theorem d_Mo_discover_89 : decode b_Mo_discover 89 = .ok (.if_icmp .ge 16, 3) := by decide +kernel
theorem d_Mo_discover_92 : decode b_Mo_discover 92 = .ok (.aload_n 0, 1) := by decide +kernel
theorem d_Mo_discover_93 : decode b_Mo_discover 93 = .ok (.getfield 24, 3) := by decide +kernel
theorem d_Mo_discover_96 : decode b_Mo_discover 96 = .ok (.iload_n 3, 1) := by decide +kernel
theorem d_Mo_discover_97 : decode b_Mo_discover 97 = .ok (.iconst 0, 1) := by decide +kernel
theorem d_Mo_discover_98 : decode b_Mo_discover 98 = .ok (.bastore, 1) := by decide +kernel
theorem d_Mo_discover_99 : decode b_Mo_discover 99 = .ok (.iinc 3 1, 3) := by decide +kernel
theorem d_Mo_discover_102 : decode b_Mo_discover 102 = .ok (.goto (-18), 3) := by decide +kernel
theorem d_Mo_discover_105 : decode b_Mo_discover 105 = .ok (.aload_n 0, 1) := by decide +kernel
theorem d_Mo_discover_106 : decode b_Mo_discover 106 = .ok (.invokevirtual 106, 3) := by decide +kernel
theorem d_Mo_discover_109 : decode b_Mo_discover 109 = .ok (.iload_n 2, 1) := by decide +kernel
theorem d_Mo_discover_110 : decode b_Mo_discover 110 = .ok (.ifCond .ge 5, 3) := by decide +kernel
theorem d_Mo_discover_113 : decode b_Mo_discover 113 = .ok (.iconst 0, 1) := by decide +kernel
theorem d_Mo_discover_114 : decode b_Mo_discover 114 = .ok (.ireturn, 1) := by decide +kernel
theorem d_Mo_discover_19 : decode b_Mo_discover 19 = .ok (.aload_n 0, 1) := by decide +kernel
theorem d_Mo_discover_20 : decode b_Mo_discover 20 = .ok (.iload_n 3, 1) := by decide +kernel
theorem d_Mo_discover_21 : decode b_Mo_discover 21 = .ok (.invokevirtual 311, 3) := by decide +kernel
theorem d_Mo_discover_24 : decode b_Mo_discover 24 = .ok (.ifCond .eq 30, 3) := by decide +kernel
theorem d_Mo_discover_54 : decode b_Mo_discover 54 = .ok (.iinc 3 1, 3) := by decide +kernel
theorem d_Mo_discover_57 : decode b_Mo_discover 57 = .ok (.goto (-46), 3) := by decide +kernel
/-- whether v lies between a and b -/
def inC (v a b : Int32) : Int32 := if v < a then 0 else if b < v then 0 else 1
theorem inC0 {v b : Int32} (h : v < 0 ∨ b < v) : inC v 0 b = 0 := by
  unfold inC
  by_cases h1 : v < 0
  · rw [if_pos h1]
  · rw [if_neg h1, if_pos (h.resolve_left h1)]
theorem inC1 {v b : Int32} (h1 : ¬ v < 0) (h2 : ¬ b < v) : inC v 0 b = 1 := by
  unfold inC
  rw [if_neg h1, if_neg h2]
theorem nI_mul9 (a b : Nat) : nI a * nI b = nI (a * b) := (Int32.ofNat_mul a b).symm
theorem nI_sub1 {n : Nat} (h : 1 ≤ n) : nI n - 1 = nI (n - 1) := by
  obtain ⟨k, rfl⟩ : ∃ k, n = k + 1 := ⟨n - 1, by omega⟩
  rw [nI_pred]
  rfl
/-- the sectors of a medium: in it, or outside -/
theorem in9 {sx : Int32} {n : Nat} (hn : n ≤ 200) (h1 : 1 ≤ n) : (inC sx 0 (nI n - 1) = 1 ∧ ∃ j, j < n ∧ sx = nI j) ∨ (inC sx 0 (nI n - 1) = 0 ∧ (sx < 0 ∨ nI n ≤ sx)) := by
  obtain ⟨k, rfl⟩ : ∃ k, n = k + 1 := ⟨n - 1, by omega⟩
  rw [nI_pred k]
  by_cases h0 : sx < 0
  · exact Or.inr ⟨inC0 (Or.inl h0), Or.inl h0⟩
  · obtain ⟨q, hq, rfl⟩ := nI_of h0
    by_cases h2 : q < k + 1
    · refine Or.inl ⟨inC1 h0 (fun z => ?_), q, h2, rfl⟩
      have := (nI_ltI (by omega) (by omega)).mp z
      omega
    · refine Or.inr ⟨inC0 (Or.inr ((nI_ltI (by omega) (by omega)).mpr (by omega))), Or.inr ?_⟩
      exact Int32.not_lt.mp (fun z => h2 ((nI_ltI (by omega) (by omega)).mp z))
theorem cntI (sz sd : Int32) : cntC sz sd = if inC sz 0 6000 = 0 then 0 else if inC sd 0 255 = 0 then 0 else 1 := by
  unfold cntC inC
  by_cases h1 : sz < 0 <;> by_cases h2 : 6000 < sz <;> by_cases h3 : sd < 0 <;> by_cases h4 : 255 < sd <;> simp [h1, h2, h3, h4]
theorem z9 {k : Int32} (h0 : ¬ k < 0) (h1 : ¬ 1 ≤ k) : k = 0 := by
  obtain ⟨q, hq, rfl⟩ := nI_of h0
  have h2 : q < 1 := (nI_ltI hq (by decide)).mp (Int32.not_le.mp h1)
  obtain rfl : q = 0 := by omega
  rfl
theorem n9 {k : Int32} (h0 : k < 0) : ¬ k = 0 := fun q => by
  rw [q] at h0
  exact absurd h0 (by decide)
theorem o9 {k : Int32} (h0 : 1 ≤ k) : ¬ k = 0 := fun q => by
  rw [q] at h0
  exact absurd h0 (by decide)
theorem td_0 : (7 : Int32) = nI 8 - 1 := by decide
theorem td_neg : ∀ k, k < 9 → ((nI k - 1 < 0) ↔ k = 0) := by decide
theorem td_dec : ∀ k, k < 8 → nI (k + 1) - 1 + Int32.ofInt (-1) = nI k - 1 := by decide
theorem td_mul : ∀ k, k < 8 → (8 : Int32) * (nI (k + 1) - 1) = nI (8 * (k + 1)) - 8 := by decide
theorem td_b (w : Int64) {k : Nat} (hk : k < 8) : ((w.toUInt64 >>> ((8 * (nI (k + 1) - 1)).toInt64.toUInt64 &&& Int64.toUInt64 63)).toInt64 &&& 255).toInt32 = tb w k := by
  rw [td_mul k hk, Int64.toInt32_and]
  rfl
/-- what a reference holds of its fields but for thrown -/
def ThM (h : hM) (m n : Nat) (th : Int32) : Prop := ∃ (aBy aSt aDe aPa aIt aId aPr aNa aSi aSe aIw aEx aOl aPl aTa aAt aLo aS1 aS2 aS3 aS4 aS5 aS6 aO1 aO2 aO3 aO4 aO5 : Nat), h m = some (.inr (9, [.int th, .int (nI n), .int 0, .ref aBy, .ref aSt, .ref aDe, .int 0, .int (-1), .int 0, .ref aPa, .int 1, .ref aIt, .ref aId, .ref aPr, .ref aNa, .ref aSi, .ref aSe, .ref aIw, .ref aEx, .ref aOl, .int 0, .ref aPl, .int 0, .int 0, .ref aTa, .ref aAt, .ref aLo, .int 0, .int 0, .ref aS1, .ref aS2, .ref aS3, .ref aS4, .ref aS5, .ref aS6, .int 0, .ref aO1, .ref aO2, .ref aO3, .ref aO4, .ref aO5]))

theorem by_0 {a : Int32} {n : Nat} (hn : n ≤ 200) (h1 : 40 ≤ n) (h : inC a 0 (2048 * nI n - 1) = 0) : bytV n a = -1 := by
  have e : 2048 * nI n - 1 = nI (2048 * n - 1) := by
    rw [show (2048 : Int32) = nI 2048 from rfl, nI_mul9]
    exact nI_sub1 (by omega)
  rw [e] at h
  unfold bytV
  by_cases h0 : a < 0
  · rw [if_pos h0]
  · rw [if_neg h0]
    obtain ⟨q, hq, rfl⟩ := nI_of h0
    have e2 : nI q / 2048 = nI (q / 2048) := pk_div hq (by decide) (by decide)
    rw [e2]
    by_cases h2 : nI (2048 * n - 1) < nI q
    · have h3 := (nI_ltI (by omega) hq).mp h2
      rw [if_neg (fun z => by have := (nI_ltI (by omega) (by omega)).mp z; omega)]
    · rw [inC1 h0 h2] at h
      exact absurd h (by decide)
theorem by_1 {a : Int32} {n : Nat} (hn : n ≤ 200) (h1 : 40 ≤ n) (h : ¬ inC a 0 (2048 * nI n - 1) = 0) : bytV n a = 0 ∧ ∃ q, q < 2048 * n ∧ a = nI q := by
  have e : 2048 * nI n - 1 = nI (2048 * n - 1) := by
    rw [show (2048 : Int32) = nI 2048 from rfl, nI_mul9]
    exact nI_sub1 (by omega)
  rw [e] at h
  by_cases h0 : a < 0
  · exact absurd (inC0 (Or.inl h0)) h
  · obtain ⟨q, hq, rfl⟩ := nI_of h0
    by_cases h2 : nI (2048 * n - 1) < nI q
    · exact absurd (inC0 (Or.inr h2)) h
    · have h3 : q < 2048 * n := by
        apply Nat.lt_of_not_le
        intro z
        exact h2 ((nI_ltI (by omega) hq).mpr (by omega))
      have e2 : nI q / 2048 = nI (q / 2048) := pk_div hq (by decide) (by decide)
      refine ⟨?_, q, h3, rfl⟩
      rw [bytV, if_neg h0, e2, if_pos ((nI_ltI (by omega) (by omega)).mpr (by omega))]

theorem inN (v : Int32) : inC v 0 (0 - 1) = 0 := by
  by_cases h : v < 0
  · exact inC0 (Or.inl h)
  · refine inC0 (Or.inr ?_)
    obtain ⟨q, hq, rfl⟩ := nI_of h
    exact Int32.lt_of_lt_of_le (show (0 - 1 : Int32) < 0 by decide) (Int32.not_lt.mp h)

/-- what tree answers of the root alone -/
def treeC (k9 w9 : Int32) : Int32 := if w9 = 0 then -1 else 0
def treeT (k9 w9 : Int32) : Int32 := if k9 = 0 then (if inC w9 0 4 = 0 then 1 else 0) else 1

set_option maxHeartbeats 4000000 in
set_option maxRecDepth 100000 in
theorem c_m_in (l : Launch) (D : va_G) (t : Nat → ClassId) (G : hG) (ak av : Nat → Nat) (h : hM) (v9 a9 b9 : Int32) : Met l y_Mo_in (.code y_Mo_in b_Mo_in 3 (some .boolean) :: lw_g) { frames := 0, cells := 0, slots := 0, locals := 0 } (hP (kE D t G ak av) D vwCl G h [.int v9, .int a9, .int b9]) (hQi D vwCl G (fun r h' => r = inC v9 a9 b9 ∧ h = h')) 0 0 G.P := by
  refine Met.ofW (cc := b_Mo_in) (maxL := 3) (ret := (some .boolean)) (by decide) rfl ?_
  intro p e s m args below meth c s₁ Bd hml hv
  obtain ⟨ha, hE, hH⟩ := hv
  have hx := Bd.exec
  have hb := Bd.bytes
  have hr := Bd.returns
  have hts : ∀ w ∈ lw_g, w.before args s = true := fun w hw => atoms_spec (ws := (.code y_Mo_in b_Mo_in 3 (some .boolean) :: lw_g)) Bd.pre w (List.mem_cons_of_mem _ hw)
  have hown : s.vm.findClass R_Mo = some m.cls := findClass_of_methodNamed Bd.named
  have hlocks := Bd.notSynchronized
  have hK := hE.1
  have hH0 := hH
  have hLo : hLc G.P [] := hLc_nil
  have hz : s.heap.size ≤ s.heap.size := Nat.le_refl _
  have hkp : kp [] h h := kp_rf
  have hl := lv_entry [.int v9, .int a9, .int b9] (n := 3) (Nat.le_of_ble_eq_true rfl)
  rw [show entryFrame m args 3 = F0 m 0 ((lg_sl [.int v9, .int a9, .int b9] ++ List.replicate (3 - (lg_sl [.int v9, .int a9, .int b9]).length) Slot.unset).toArray) [] from (by rw [ha]; exact lg_entry_eq m [.int v9, .int a9, .int b9] 3)]
  generalize (lg_sl [.int v9, .int a9, .int b9] ++ List.replicate (3 - (lg_sl [.int v9, .int a9, .int b9]).length) Slot.unset).toArray = ls at hl ⊢
  have hl : lv_has ls 3 [(0, .int v9), (1, .int a9), (2, .int b9)] := hl
  refine lv_iload_n hx hb d_Mo_in_0 rfl (lv_at hl 0 rfl) ?_
  refine lv_iload_n hx hb d_Mo_in_1 rfl (lv_at hl 1 rfl) ?_
  refine lv_icmp_lt (tgt := 14) hx hb d_Mo_in_2 (by decide) (fun hc1 => ?_) (fun hc1 => ?_)
  · skip
    refine lv_iconst (v := 0) hx hb d_Mo_in_14 (by decide) ?_
    exact W.zret (v := 0) hx hb hr (by decide) (fun t9 ht hW => ⟨0, h, rfl, ⟨(if_pos hc1).symm, rfl⟩, by rw [ht]; exact hH, by rw [ht]; exact hz⟩) hLo d_Mo_in_15
  · skip
    refine lv_iload_n hx hb d_Mo_in_5 rfl (lv_at hl 0 rfl) ?_
    refine lv_iload_n hx hb d_Mo_in_6 rfl (lv_at hl 2 rfl) ?_
    refine lv_icmp_gt (tgt := 14) hx hb d_Mo_in_7 (by decide) (fun hc2 => ?_) (fun hc2 => ?_)
    · skip
      refine lv_iconst (v := 0) hx hb d_Mo_in_14 (by decide) ?_
      exact W.zret (v := 0) hx hb hr (by decide) (fun t9 ht hW => ⟨0, h, rfl, ⟨by rw [inC, if_neg hc1, if_pos hc2], rfl⟩, by rw [ht]; exact hH, by rw [ht]; exact hz⟩) hLo d_Mo_in_15
    · skip
      refine lv_iconst (v := 1) hx hb d_Mo_in_10 (by decide) ?_
      refine lv_goto (tgt := 15) hx hb d_Mo_in_11 (by decide) ?_
      exact W.zret (v := 1) hx hb hr (by decide) (fun t9 ht hW => ⟨1, h, rfl, ⟨by rw [inC, if_neg hc1, if_neg hc2], rfl⟩, by rw [ht]; exact hH, by rw [ht]; exact hz⟩) hLo d_Mo_in_15

set_option maxHeartbeats 4000000 in
set_option maxRecDepth 100000 in
theorem c_m_thrown (l : Launch) (D : va_G) (t : Nat → ClassId) (G : hG) (ak av : Nat → Nat) (h : hM) (mo n : Nat) (th : Int32) (hT : ThM h mo n th) : Met l y_Mo_thrown (.code y_Mo_thrown b_Mo_thrown 1 (some .int) :: lw_g) { frames := 0, cells := 0, slots := 0, locals := 0 } (hP (kE D t G ak av) D vwCl G h [.ref mo]) (hQi D vwCl G (fun r h' => r = th ∧ h = h')) 0 0 G.P := by
  refine Met.ofW (cc := b_Mo_thrown) (maxL := 1) (ret := (some .int)) (by decide) rfl ?_
  intro p e s m args below meth c s₁ Bd hml hv
  obtain ⟨ha, hE, hH⟩ := hv
  have hx := Bd.exec
  have hb := Bd.bytes
  have hr := Bd.returns
  have hts : ∀ w ∈ lw_g, w.before args s = true := fun w hw => atoms_spec (ws := (.code y_Mo_thrown b_Mo_thrown 1 (some .int) :: lw_g)) Bd.pre w (List.mem_cons_of_mem _ hw)
  have hown : s.vm.findClass R_Mo = some m.cls := findClass_of_methodNamed Bd.named
  have hlocks := Bd.notSynchronized
  have hK := hE.1
  have hH0 := hH
  have hLo : hLc G.P [] := hLc_nil
  have hz : s.heap.size ≤ s.heap.size := Nat.le_refl _
  have hkp : kp [] h h := kp_rf
  have hl := lv_entry [.ref mo] (n := 1) (Nat.le_of_ble_eq_true rfl)
  rw [show entryFrame m args 1 = F0 m 0 ((lg_sl [.ref mo] ++ List.replicate (1 - (lg_sl [.ref mo]).length) Slot.unset).toArray) [] from (by rw [ha]; exact lg_entry_eq m [.ref mo] 1)]
  generalize (lg_sl [.ref mo] ++ List.replicate (1 - (lg_sl [.ref mo]).length) Slot.unset).toArray = ls at hl ⊢
  have hl : lv_has ls 1 [(0, .ref mo)] := hl
  obtain ⟨aBy, aSt, aDe, aPa, aIt, aId, aPr, aNa, aSi, aSe, aIw, aEx, aOl, aPl, aTa, aAt, aLo, aS1, aS2, aS3, aS4, aS5, aS6, aO1, aO2, aO3, aO4, aO5, f_m⟩ := hT
  refine lv_aload_n hx hb d_Mo_thrown_0 rfl (lv_at hl 0 rfl) ?_
  refine hm_get (ci := 9) (v := .int th) (C := R_Mo) (T := F_Mo) (N := 41) hx hb hts ig_Mo hown hK hH f_m rfl 0 (by decide) (hts _ mw_432) (fun _ h9 => h9) rfl d_Mo_thrown_1 ?_
  exact W.iret (v := th) hx hb hr (fun t9 ht hW => ⟨th, h, rfl, ⟨rfl, rfl⟩, by rw [ht]; exact hH, by rw [ht]; exact hz⟩) hLo d_Mo_thrown_4

set_option maxHeartbeats 4000000 in
set_option maxRecDepth 100000 in
theorem c_m_isNode (l : Launch) (D : va_G) (t : Nat → ClassId) (G : hG) (ak av : Nat → Nat) (h : hM) (mo n aBy aSt aDe aPa aIt aId aPr aNa aSi aSe aIw aEx aOl aPl aTa aAt aLo aS1 aS2 aS3 aS4 aS5 aS6 aO1 aO2 aO3 aO4 aO5 : Nat) (gIt : Nat → Int32) (k9 : Int32) (f_m : h mo = some (.inr (9, [.int 0, .int (nI n), .int 0, .ref aBy, .ref aSt, .ref aDe, .int 0, .int (-1), .int 0, .ref aPa, .int 1, .ref aIt, .ref aId, .ref aPr, .ref aNa, .ref aSi, .ref aSe, .ref aIw, .ref aEx, .ref aOl, .int 0, .ref aPl, .int 0, .int 0, .ref aTa, .ref aAt, .ref aLo, .int 0, .int 0, .ref aS1, .ref aS2, .ref aS3, .ref aS4, .ref aS5, .ref aS6, .int 0, .ref aO1, .ref aO2, .ref aO3, .ref aO4, .ref aO5]))) (f_aIt : h aIt = some (.inl ((t 1), 700, .inl gIt))) (zIt : gIt 0 = 1) : Met l y_Mo_isNode (.code y_Mo_isNode b_Mo_isNode 2 (some .boolean) :: lw_g) { frames := 0, cells := 0, slots := 0, locals := 0 } (hP (kE D t G ak av) D vwCl G h [.ref mo, .int k9]) (hQi D vwCl G (fun r h' => r = (if k9 = 0 then 1 else 0) ∧ h = h')) 0 0 G.P := by
  refine Met.ofW (cc := b_Mo_isNode) (maxL := 2) (ret := (some .boolean)) (by decide) rfl ?_
  intro p e s m args below meth c s₁ Bd hml hv
  obtain ⟨ha, hE, hH⟩ := hv
  have hx := Bd.exec
  have hb := Bd.bytes
  have hr := Bd.returns
  have hts : ∀ w ∈ lw_g, w.before args s = true := fun w hw => atoms_spec (ws := (.code y_Mo_isNode b_Mo_isNode 2 (some .boolean) :: lw_g)) Bd.pre w (List.mem_cons_of_mem _ hw)
  have hown : s.vm.findClass R_Mo = some m.cls := findClass_of_methodNamed Bd.named
  have hlocks := Bd.notSynchronized
  have hK := hE.1
  have hH0 := hH
  have hLo : hLc G.P [] := hLc_nil
  have hz : s.heap.size ≤ s.heap.size := Nat.le_refl _
  have hkp : kp [] h h := kp_rf
  have hl := lv_entry [.ref mo, .int k9] (n := 2) (Nat.le_of_ble_eq_true rfl)
  rw [show entryFrame m args 2 = F0 m 0 ((lg_sl [.ref mo, .int k9] ++ List.replicate (2 - (lg_sl [.ref mo, .int k9]).length) Slot.unset).toArray) [] from (by rw [ha]; exact lg_entry_eq m [.ref mo, .int k9] 2)]
  generalize (lg_sl [.ref mo, .int k9] ++ List.replicate (2 - (lg_sl [.ref mo, .int k9]).length) Slot.unset).toArray = ls at hl ⊢
  have hl : lv_has ls 2 [(0, .ref mo), (1, .int k9)] := hl
  refine lv_iload_n hx hb d_Mo_isNode_0 rfl (lv_at hl 1 rfl) ?_
  refine lv_if_lt (tgt := 25) hx hb d_Mo_isNode_1 (by decide) (fun hc1 => ?_) (fun hc1 => ?_)
  · skip
    refine lv_iconst (v := 0) hx hb d_Mo_isNode_25 (by decide) ?_
    exact W.zret (v := 0) hx hb hr (by decide) (fun t9 ht hW => ⟨0, h, rfl, ⟨(if_neg (n9 hc1)).symm, rfl⟩, by rw [ht]; exact hH, by rw [ht]; exact hz⟩) hLo d_Mo_isNode_26
  · skip
    refine lv_iload_n hx hb d_Mo_isNode_4 rfl (lv_at hl 1 rfl) ?_
    refine lv_aload_n hx hb d_Mo_isNode_5 rfl (lv_at hl 0 rfl) ?_
    refine hm_get (ci := 9) (v := .int 1) (C := R_Mo) (T := F_Mo) (N := 41) hx hb hts ig_Mo hown hK hH f_m rfl 10 (by decide) (hts _ mw_390) (fun _ h9 => h9) rfl d_Mo_isNode_6 ?_
    refine lv_icmp_ge (tgt := 25) hx hb d_Mo_isNode_9 (by decide) (fun hc2 => ?_) (fun hc2 => ?_)
    · skip
      refine lv_iconst (v := 0) hx hb d_Mo_isNode_25 (by decide) ?_
      exact W.zret (v := 0) hx hb hr (by decide) (fun t9 ht hW => ⟨0, h, rfl, ⟨(if_neg (o9 hc2)).symm, rfl⟩, by rw [ht]; exact hH, by rw [ht]; exact hz⟩) hLo d_Mo_isNode_26
    · skip
      obtain rfl : k9 = 0 := z9 hc1 hc2
      refine lv_aload_n hx hb d_Mo_isNode_12 rfl (lv_at hl 0 rfl) ?_
      refine hm_get (ci := 9) (v := .ref aIt) (C := R_Mo) (T := F_Mo) (N := 41) hx hb hts ig_Mo hown hK hH f_m rfl 11 (by decide) (hts _ mw_391) (fun _ h9 => h9) rfl d_Mo_isNode_13 ?_
      refine lv_iload_n hx hb d_Mo_isNode_16 rfl (lv_at hl 1 rfl) ?_
      refine hj_zald hx hb hK hH 1 f_aIt rfl 0 (by decide) (by decide) (by decide) d_Mo_isNode_17 ?_
      refine lv_if_eq (tgt := 25) hx hb d_Mo_isNode_18 (by decide) (fun hc3 => absurd hc3 (by rw [zIt]; decide)) (fun hc3 => ?_)
      refine lv_iconst (v := 1) hx hb d_Mo_isNode_21 (by decide) ?_
      refine lv_goto (tgt := 26) hx hb d_Mo_isNode_22 (by decide) ?_
      exact W.zret (v := 1) hx hb hr (by decide) (fun t9 ht hW => ⟨1, h, rfl, ⟨(if_pos rfl).symm, rfl⟩, by rw [ht]; exact hH, by rw [ht]; exact hz⟩) hLo d_Mo_isNode_26

set_option maxHeartbeats 4000000 in
set_option maxRecDepth 100000 in
theorem c_m_isLetter (l : Launch) (D : va_G) (t : Nat → ClassId) (G : hG) (ak av : Nat → Nat) (h : hM) (c9 : Int32) : Met l y_Mo_isLetter (.code y_Mo_isLetter b_Mo_isLetter 1 (some .boolean) :: lw_g) { frames := 0, cells := 0, slots := 0, locals := 0 } (hP (kE D t G ak av) D vwCl G h [.int c9]) (hQi D vwCl G (fun r h' => r = letC c9 ∧ h = h')) 0 0 G.P := by
  refine Met.ofW (cc := b_Mo_isLetter) (maxL := 1) (ret := (some .boolean)) (by decide) rfl ?_
  intro p e s m args below meth c s₁ Bd hml hv
  obtain ⟨ha, hE, hH⟩ := hv
  have hx := Bd.exec
  have hb := Bd.bytes
  have hr := Bd.returns
  have hts : ∀ w ∈ lw_g, w.before args s = true := fun w hw => atoms_spec (ws := (.code y_Mo_isLetter b_Mo_isLetter 1 (some .boolean) :: lw_g)) Bd.pre w (List.mem_cons_of_mem _ hw)
  have hown : s.vm.findClass R_Mo = some m.cls := findClass_of_methodNamed Bd.named
  have hlocks := Bd.notSynchronized
  have hK := hE.1
  have hH0 := hH
  have hLo : hLc G.P [] := hLc_nil
  have hz : s.heap.size ≤ s.heap.size := Nat.le_refl _
  have hkp : kp [] h h := kp_rf
  have hl := lv_entry [.int c9] (n := 1) (Nat.le_of_ble_eq_true rfl)
  rw [show entryFrame m args 1 = F0 m 0 ((lg_sl [.int c9] ++ List.replicate (1 - (lg_sl [.int c9]).length) Slot.unset).toArray) [] from (by rw [ha]; exact lg_entry_eq m [.int c9] 1)]
  generalize (lg_sl [.int c9] ++ List.replicate (1 - (lg_sl [.int c9]).length) Slot.unset).toArray = ls at hl ⊢
  have hl : lv_has ls 1 [(0, .int c9)] := hl
  refine lv_iload_n hx hb d_Mo_isLetter_0 rfl (lv_at hl 0 rfl) ?_
  refine lv_bipush (v := 65) hx hb d_Mo_isLetter_1 (by decide) ?_
  refine lv_icmp_lt (tgt := 12) hx hb d_Mo_isLetter_3 (by decide) (fun hc1 => ?_) (fun hc1 => ?_)
  · skip
    refine lv_iload_n hx hb d_Mo_isLetter_12 rfl (lv_at hl 0 rfl) ?_
    refine lv_bipush (v := 48) hx hb d_Mo_isLetter_13 (by decide) ?_
    refine lv_icmp_lt (tgt := 24) hx hb d_Mo_isLetter_15 (by decide) (fun hc2 => ?_) (fun hc2 => ?_)
    · skip
      refine lv_iload_n hx hb d_Mo_isLetter_24 rfl (lv_at hl 0 rfl) ?_
      refine lv_bipush (v := 95) hx hb d_Mo_isLetter_25 (by decide) ?_
      refine lv_icmp_ne (tgt := 34) hx hb d_Mo_isLetter_27 (by decide) (fun hc3 => ?_) (fun hc3 => ?_)
      · skip
        refine lv_iconst (v := 0) hx hb d_Mo_isLetter_34 (by decide) ?_
        exact W.zret (v := 0) hx hb hr (by decide) (fun t9 ht hW => ⟨0, h, rfl, ⟨by simp [letC, lt2, lt3, hc1, hc2, hc3], rfl⟩, by rw [ht]; exact hH, by rw [ht]; exact hz⟩) hLo d_Mo_isLetter_35
      · skip
        refine lv_iconst (v := 1) hx hb d_Mo_isLetter_30 (by decide) ?_
        refine lv_goto (tgt := 35) hx hb d_Mo_isLetter_31 (by decide) ?_
        exact W.zret (v := 1) hx hb hr (by decide) (fun t9 ht hW => ⟨1, h, rfl, ⟨by simp [letC, lt2, lt3, hc1, hc2, hc3], rfl⟩, by rw [ht]; exact hH, by rw [ht]; exact hz⟩) hLo d_Mo_isLetter_35
    · skip
      refine lv_iload_n hx hb d_Mo_isLetter_18 rfl (lv_at hl 0 rfl) ?_
      refine lv_bipush (v := 57) hx hb d_Mo_isLetter_19 (by decide) ?_
      refine lv_icmp_le (tgt := 30) hx hb d_Mo_isLetter_21 (by decide) (fun hc4 => ?_) (fun hc4 => ?_)
      · skip
        refine lv_iconst (v := 1) hx hb d_Mo_isLetter_30 (by decide) ?_
        refine lv_goto (tgt := 35) hx hb d_Mo_isLetter_31 (by decide) ?_
        exact W.zret (v := 1) hx hb hr (by decide) (fun t9 ht hW => ⟨1, h, rfl, ⟨by simp [letC, lt2, lt3, hc1, hc2, hc4], rfl⟩, by rw [ht]; exact hH, by rw [ht]; exact hz⟩) hLo d_Mo_isLetter_35
      · skip
        refine lv_iload_n hx hb d_Mo_isLetter_24 rfl (lv_at hl 0 rfl) ?_
        refine lv_bipush (v := 95) hx hb d_Mo_isLetter_25 (by decide) ?_
        refine lv_icmp_ne (tgt := 34) hx hb d_Mo_isLetter_27 (by decide) (fun hc5 => ?_) (fun hc5 => ?_)
        · skip
          refine lv_iconst (v := 0) hx hb d_Mo_isLetter_34 (by decide) ?_
          exact W.zret (v := 0) hx hb hr (by decide) (fun t9 ht hW => ⟨0, h, rfl, ⟨by simp [letC, lt2, lt3, hc1, hc2, hc4, hc5], rfl⟩, by rw [ht]; exact hH, by rw [ht]; exact hz⟩) hLo d_Mo_isLetter_35
        · skip
          refine lv_iconst (v := 1) hx hb d_Mo_isLetter_30 (by decide) ?_
          refine lv_goto (tgt := 35) hx hb d_Mo_isLetter_31 (by decide) ?_
          exact W.zret (v := 1) hx hb hr (by decide) (fun t9 ht hW => ⟨1, h, rfl, ⟨by simp [letC, lt2, lt3, hc1, hc2, hc4, hc5], rfl⟩, by rw [ht]; exact hH, by rw [ht]; exact hz⟩) hLo d_Mo_isLetter_35
  · skip
    refine lv_iload_n hx hb d_Mo_isLetter_6 rfl (lv_at hl 0 rfl) ?_
    refine lv_bipush (v := 90) hx hb d_Mo_isLetter_7 (by decide) ?_
    refine lv_icmp_le (tgt := 30) hx hb d_Mo_isLetter_9 (by decide) (fun hc6 => ?_) (fun hc6 => ?_)
    · skip
      refine lv_iconst (v := 1) hx hb d_Mo_isLetter_30 (by decide) ?_
      refine lv_goto (tgt := 35) hx hb d_Mo_isLetter_31 (by decide) ?_
      exact W.zret (v := 1) hx hb hr (by decide) (fun t9 ht hW => ⟨1, h, rfl, ⟨by simp [letC, lt2, lt3, hc1, hc6], rfl⟩, by rw [ht]; exact hH, by rw [ht]; exact hz⟩) hLo d_Mo_isLetter_35
    · skip
      refine lv_iload_n hx hb d_Mo_isLetter_12 rfl (lv_at hl 0 rfl) ?_
      refine lv_bipush (v := 48) hx hb d_Mo_isLetter_13 (by decide) ?_
      refine lv_icmp_lt (tgt := 24) hx hb d_Mo_isLetter_15 (by decide) (fun hc7 => ?_) (fun hc7 => ?_)
      · skip
        refine lv_iload_n hx hb d_Mo_isLetter_24 rfl (lv_at hl 0 rfl) ?_
        refine lv_bipush (v := 95) hx hb d_Mo_isLetter_25 (by decide) ?_
        refine lv_icmp_ne (tgt := 34) hx hb d_Mo_isLetter_27 (by decide) (fun hc8 => ?_) (fun hc8 => ?_)
        · skip
          refine lv_iconst (v := 0) hx hb d_Mo_isLetter_34 (by decide) ?_
          exact W.zret (v := 0) hx hb hr (by decide) (fun t9 ht hW => ⟨0, h, rfl, ⟨by simp [letC, lt2, lt3, hc1, hc6, hc7, hc8], rfl⟩, by rw [ht]; exact hH, by rw [ht]; exact hz⟩) hLo d_Mo_isLetter_35
        · skip
          refine lv_iconst (v := 1) hx hb d_Mo_isLetter_30 (by decide) ?_
          refine lv_goto (tgt := 35) hx hb d_Mo_isLetter_31 (by decide) ?_
          exact W.zret (v := 1) hx hb hr (by decide) (fun t9 ht hW => ⟨1, h, rfl, ⟨by simp [letC, lt2, lt3, hc1, hc6, hc7, hc8], rfl⟩, by rw [ht]; exact hH, by rw [ht]; exact hz⟩) hLo d_Mo_isLetter_35
      · skip
        refine lv_iload_n hx hb d_Mo_isLetter_18 rfl (lv_at hl 0 rfl) ?_
        refine lv_bipush (v := 57) hx hb d_Mo_isLetter_19 (by decide) ?_
        refine lv_icmp_le (tgt := 30) hx hb d_Mo_isLetter_21 (by decide) (fun hc9 => ?_) (fun hc9 => ?_)
        · skip
          refine lv_iconst (v := 1) hx hb d_Mo_isLetter_30 (by decide) ?_
          refine lv_goto (tgt := 35) hx hb d_Mo_isLetter_31 (by decide) ?_
          exact W.zret (v := 1) hx hb hr (by decide) (fun t9 ht hW => ⟨1, h, rfl, ⟨by simp [letC, lt2, lt3, hc1, hc6, hc7, hc9], rfl⟩, by rw [ht]; exact hH, by rw [ht]; exact hz⟩) hLo d_Mo_isLetter_35
        · skip
          refine lv_iload_n hx hb d_Mo_isLetter_24 rfl (lv_at hl 0 rfl) ?_
          refine lv_bipush (v := 95) hx hb d_Mo_isLetter_25 (by decide) ?_
          refine lv_icmp_ne (tgt := 34) hx hb d_Mo_isLetter_27 (by decide) (fun hc10 => ?_) (fun hc10 => ?_)
          · skip
            refine lv_iconst (v := 0) hx hb d_Mo_isLetter_34 (by decide) ?_
            exact W.zret (v := 0) hx hb hr (by decide) (fun t9 ht hW => ⟨0, h, rfl, ⟨by simp [letC, lt2, lt3, hc1, hc6, hc7, hc9, hc10], rfl⟩, by rw [ht]; exact hH, by rw [ht]; exact hz⟩) hLo d_Mo_isLetter_35
          · skip
            refine lv_iconst (v := 1) hx hb d_Mo_isLetter_30 (by decide) ?_
            refine lv_goto (tgt := 35) hx hb d_Mo_isLetter_31 (by decide) ?_
            exact W.zret (v := 1) hx hb hr (by decide) (fun t9 ht hW => ⟨1, h, rfl, ⟨by simp [letC, lt2, lt3, hc1, hc6, hc7, hc9, hc10], rfl⟩, by rw [ht]; exact hH, by rw [ht]; exact hz⟩) hLo d_Mo_isLetter_35

set_option maxHeartbeats 4000000 in
set_option maxRecDepth 100000 in
theorem c_m_told (l : Launch) (D : va_G) (t : Nat → ClassId) (G : hG) (ak av : Nat → Nat) (h : hM) (w : Int64) : Met l y_Mo_told (.code y_Mo_told b_Mo_told 6 (some .long) :: lw_g) { frames := 1, cells := 0, slots := 0, locals := 20 } (hP (kE D t G ak av) D vwCl G h [.long w]) (hQl D vwCl G (fun r h' => r = tlV w ∧ h = h')) 0 0 G.P := by
  refine Met.ofW (cc := b_Mo_told) (maxL := 6) (ret := (some .long)) (by decide) rfl ?_
  intro p e s m args below meth c s₁ Bd hml hv
  obtain ⟨ha, hE, hH⟩ := hv
  have hx := Bd.exec
  have hb := Bd.bytes
  have hr := Bd.returns
  have hts : ∀ w ∈ lw_g, w.before args s = true := fun w hw => atoms_spec (ws := (.code y_Mo_told b_Mo_told 6 (some .long) :: lw_g)) Bd.pre w (List.mem_cons_of_mem _ hw)
  have hown : s.vm.findClass R_Mo = some m.cls := findClass_of_methodNamed Bd.named
  have hlocks := Bd.notSynchronized
  have hK := hE.1
  have hH0 := hH
  have hLo : hLc G.P [] := hLc_nil
  have hz : s.heap.size ≤ s.heap.size := Nat.le_refl _
  have hkp : kp [] h h := kp_rf
  have hl := lv_entry [.long w] (n := 6) (Nat.le_of_ble_eq_true rfl)
  rw [show entryFrame m args 6 = F0 m 0 ((lg_sl [.long w] ++ List.replicate (6 - (lg_sl [.long w]).length) Slot.unset).toArray) [] from (by rw [ha]; exact lg_entry_eq m [.long w] 6)]
  generalize (lg_sl [.long w] ++ List.replicate (6 - (lg_sl [.long w]).length) Slot.unset).toArray = ls at hl ⊢
  have hl : lv_has ls 6 [(0, .long w)] := hl
  refine lv_lconst (v := 0) hx hb d_Mo_told_0 (by decide) ?_
  refine lv_lstore_n (lv' := [(2, .long 0), (0, .long w)]) hx hb d_Mo_told_1 rfl hl (by decide) rfl (fun ls hl => ?_)
  refine lv_bipush (v := 7) hx hb d_Mo_told_2 (by decide) ?_
  refine lv_topi (fun v1 e2 => ?_)
  obtain rfl : v1 = nI 8 - 1 := e2.trans (td_0)
  refine lv_istore (lv' := [(4, .int (nI 8 - 1)), (2, .long 0), (0, .long w)]) hx hb d_Mo_told_4 hl (by decide) rfl (fun ls hl => ?_)
  refine hm_loop (fun k ls H locs hh => ∃ (k9 : Nat) (acc : Int64), k = k9 ∧ lv_has ls 6 [(4, .int (nI k9 - 1)), (0, .long w), (2, .long acc)] ∧ hm D vwCl G hh H ∧ s.heap.size ≤ H.size ∧ hLc G.P locs ∧ kp [] h hh ∧ (tl w k9 acc = tlV w) ∧ (k9 ≤ 8) ∧ (h = hh)) ?_ (hh := h) ⟨8, 0, rfl, (lv_sub hl [0, 2, 1] rfl), hH, hz, hLo, hkp, rfl, by omega, rfl⟩
  rintro k ls H locs hh ⟨k9, acc, hk, hl, hH, hz, hLo, hkp, htl, hk9, hhh⟩ ih
  rcases Nat.eq_zero_or_pos k9 with rfl | hpos
  · skip
    refine lv_iload hx hb d_Mo_told_6 (lv_at hl 0 rfl) ?_
    refine lv_if_lt (tgt := 58) hx hb d_Mo_told_8 (by decide) (fun hc3 => ?_) (fun hc3 => absurd ((td_neg 0 (by decide)).mpr rfl) hc3)
    refine lv_lload_n hx hb d_Mo_told_58 rfl (lv_at hl 2 rfl) ?_
    exact W.lret (v := acc) hx hb hr (fun t9 ht hW => ⟨acc, hh, rfl, ⟨htl, hhh⟩, by rw [ht]; exact hH, by rw [ht]; exact hz⟩) hLo d_Mo_told_59
  · skip
    obtain ⟨j, rfl⟩ : ∃ j, k9 = j + 1 := ⟨k9 - 1, by omega⟩
    refine lv_iload hx hb d_Mo_told_6 (lv_at hl 0 rfl) ?_
    refine lv_if_lt (tgt := 58) hx hb d_Mo_told_8 (by decide) (fun hc4 => absurd hc4 (mt (td_neg (j + 1) (by omega)).mp (by omega))) (fun hc4 => ?_)
    refine lv_lload_n hx hb d_Mo_told_11 rfl (lv_at hl 1 rfl) ?_
    refine lv_bipush (v := 8) hx hb d_Mo_told_12 (by decide) ?_
    refine lv_iload hx hb d_Mo_told_14 (lv_at hl 0 rfl) ?_
    refine lv_imul hx hb d_Mo_told_16 ?_
    refine lv_lushr (v := (w.toUInt64 >>> ((8 * (nI (j + 1) - 1)).toInt64.toUInt64 &&& Int64.toUInt64 63)).toInt64) hx hb d_Mo_told_17 rfl ?_
    refine lv_ldc2 (v := 255) hx hb hown (hts _ mw_433) d_Mo_told_18 ?_
    refine lv_land hx hb d_Mo_told_21 ?_
    refine lv_l2i (v := (((w.toUInt64 >>> ((8 * (nI (j + 1) - 1)).toInt64.toUInt64 &&& Int64.toUInt64 63)).toInt64) &&& 255).toInt32) hx hb d_Mo_told_22 rfl ?_
    refine lv_topi (fun v5 e6 => ?_)
    obtain rfl : v5 = tb w j := e6.trans (td_b w (by omega))
    refine lv_istore (lv' := [(5, .int (tb w j)), (4, .int (nI (j + 1) - 1)), (0, .long w), (2, .long acc)]) hx hb d_Mo_told_23 hl (by decide) rfl (fun ls hl => ?_)
    refine lv_iload hx hb d_Mo_told_25 (lv_at hl 0 rfl) ?_
    refine lv_if_ne (tgt := 33) hx hb d_Mo_told_27 (by decide) (fun hc7 => ?_) (fun hc7 => ?_)
    · skip
      refine lv_iload hx hb d_Mo_told_33 (lv_at hl 0 rfl) ?_
      refine hm_calli (va_runS (As := [.int (tb w j)]) (rest := []) ⟨hx, hb, hml, hown, hts⟩ (c_m_isLetter l D t G ak av hh (tb w j)) ⟨cw9B 1 hts mw_434 mw_435 mw_428 rfl rfl (by decide +kernel) ⟨Nat.le_of_ble_eq_true rfl, Nat.le_of_ble_eq_true rfl⟩, hts _ mw_436⟩ (hP_S kE_ok hE hH) rfl rfl hl.1 rfl (lv_room (Nat.le_of_ble_eq_true rfl)) d_Mo_told_35 ⟨Nat.le_of_ble_eq_true rfl, Nat.le_of_ble_eq_true rfl⟩) hLo (fun r8 h9 H10 locs hp12 hH z11 hLo => ?_)
      have hz : s.heap.size ≤ H10.size := Nat.le_trans hz z11
      obtain ⟨rfl, rfl⟩ := hp12
      refine lv_if_ne (tgt := 43) hx hb d_Mo_told_38 (by decide) (fun hc13 => ?_) (fun hc13 => ?_)
      · skip
        refine lv_lload_n hx hb d_Mo_told_43 rfl (lv_at hl 3 rfl) ?_
        refine lv_bipush (v := 8) hx hb d_Mo_told_44 (by decide) ?_
        refine lv_lshl (v := acc <<< ((8 : Int32).toInt64 &&& 63)) hx hb d_Mo_told_46 rfl ?_
        refine lv_iload hx hb d_Mo_told_47 (lv_at hl 0 rfl) ?_
        refine lv_i2l (v := (tb w j).toInt64) hx hb d_Mo_told_49 rfl ?_
        refine lv_lor hx hb d_Mo_told_50 ?_
        refine lv_lstore_n (lv' := [(2, .long ((acc <<< ((8 : Int32).toInt64 &&& 63)) ||| ((tb w j).toInt64))), (5, .int (tb w j)), (4, .int (nI (j + 1) - 1)), (0, .long w)]) hx hb d_Mo_told_51 rfl hl (by decide) rfl (fun ls hl => ?_)
        refine lv_iinc (v := nI j - 1) (lv' := [(4, .int (nI j - 1)), (2, .long ((acc <<< ((8 : Int32).toInt64 &&& 63)) ||| ((tb w j).toInt64))), (5, .int (tb w j)), (0, .long w)]) hx hb d_Mo_told_52 hl (k := 2) rfl (td_dec j (by omega)) (by decide) rfl (fun ls hl => ?_)
        refine lv_goto (tgt := 6) hx hb d_Mo_told_55 (by decide) ?_
        exact ih (j) ls _ locs _ (by rw [hk]; omega) ⟨j, ((acc <<< ((8 : Int32).toInt64 &&& 63)) ||| ((tb w j).toInt64)), rfl, (lv_sub hl [0, 3, 1] rfl), hH, hz, hLo, hkp, by rw [← htl, tl, if_neg hc7, if_neg hc13], by omega, hhh⟩
      · skip
        refine lv_lconst (v := 0) hx hb d_Mo_told_41 (by decide) ?_
        exact W.lret (v := 0) hx hb hr (fun t9 ht hW => ⟨0, hh, rfl, ⟨by rw [← htl, tl, if_neg hc7, if_pos hc13], hhh⟩, by rw [ht]; exact hH, by rw [ht]; exact hz⟩) hLo d_Mo_told_42
    · skip
      refine lv_goto (tgt := 52) hx hb d_Mo_told_30 (by decide) ?_
      refine lv_iinc (v := nI j - 1) (lv' := [(4, .int (nI j - 1)), (5, .int (tb w j)), (0, .long w), (2, .long acc)]) hx hb d_Mo_told_52 hl (k := 1) rfl (td_dec j (by omega)) (by decide) rfl (fun ls hl => ?_)
      refine lv_goto (tgt := 6) hx hb d_Mo_told_55 (by decide) ?_
      exact ih (j) ls _ locs _ (by rw [hk]; omega) ⟨j, acc, rfl, (lv_sub hl [0, 2, 3] rfl), hH, hz, hLo, hkp, by rw [← htl, tl, if_pos hc7], by omega, hhh⟩

set_option maxHeartbeats 4000000 in
set_option maxRecDepth 100000 in
theorem c_m_namedIn (l : Launch) (D : va_G) (t : Nat → ClassId) (G : hG) (ak av : Nat → Nat) (h : hM) (mo n aBy aSt aDe aPa aIt aId aPr aNa aSi aSe aIw aEx aOl aPl aTa aAt aLo aS1 aS2 aS3 aS4 aS5 aS6 aO1 aO2 aO3 aO4 aO5 : Nat) (d9 : Int32) (wo : Int64) (f_m : h mo = some (.inr (9, [.int 0, .int (nI n), .int 0, .ref aBy, .ref aSt, .ref aDe, .int 0, .int (-1), .int 0, .ref aPa, .int 1, .ref aIt, .ref aId, .ref aPr, .ref aNa, .ref aSi, .ref aSe, .ref aIw, .ref aEx, .ref aOl, .int 0, .ref aPl, .int 0, .int 0, .ref aTa, .ref aAt, .ref aLo, .int 0, .int 0, .ref aS1, .ref aS2, .ref aS3, .ref aS4, .ref aS5, .ref aS6, .int 0, .ref aO1, .ref aO2, .ref aO3, .ref aO4, .ref aO5]))) : Met l y_Mo_namedIn (.code y_Mo_namedIn b_Mo_namedIn 5 (some .int) :: lw_g) { frames := 0, cells := 0, slots := 0, locals := 0 } (hP (kE D t G ak av) D vwCl G h [.ref mo, .int d9, .long wo]) (hQi D vwCl G (fun r h' => r = -1 ∧ h = h')) 0 0 G.P := by
  refine Met.ofW (cc := b_Mo_namedIn) (maxL := 5) (ret := (some .int)) (by decide) rfl ?_
  intro p e s m args below meth c s₁ Bd hml hv
  obtain ⟨ha, hE, hH⟩ := hv
  have hx := Bd.exec
  have hb := Bd.bytes
  have hr := Bd.returns
  have hts : ∀ w ∈ lw_g, w.before args s = true := fun w hw => atoms_spec (ws := (.code y_Mo_namedIn b_Mo_namedIn 5 (some .int) :: lw_g)) Bd.pre w (List.mem_cons_of_mem _ hw)
  have hown : s.vm.findClass R_Mo = some m.cls := findClass_of_methodNamed Bd.named
  have hlocks := Bd.notSynchronized
  have hK := hE.1
  have hH0 := hH
  have hLo : hLc G.P [] := hLc_nil
  have hz : s.heap.size ≤ s.heap.size := Nat.le_refl _
  have hkp : kp [] h h := kp_rf
  have hl := lv_entry [.ref mo, .int d9, .long wo] (n := 5) (Nat.le_of_ble_eq_true rfl)
  rw [show entryFrame m args 5 = F0 m 0 ((lg_sl [.ref mo, .int d9, .long wo] ++ List.replicate (5 - (lg_sl [.ref mo, .int d9, .long wo]).length) Slot.unset).toArray) [] from (by rw [ha]; exact lg_entry_eq m [.ref mo, .int d9, .long wo] 5)]
  generalize (lg_sl [.ref mo, .int d9, .long wo] ++ List.replicate (5 - (lg_sl [.ref mo, .int d9, .long wo]).length) Slot.unset).toArray = ls at hl ⊢
  have hl : lv_has ls 5 [(0, .ref mo), (1, .int d9), (2, .long wo)] := hl
  refine lv_iconst (v := 1) hx hb d_Mo_namedIn_0 (by decide) ?_
  refine lv_istore (lv' := [(4, .int 1), (0, .ref mo), (1, .int d9), (2, .long wo)]) hx hb d_Mo_namedIn_1 hl (by decide) rfl (fun ls hl => ?_)
  refine lv_iload hx hb d_Mo_namedIn_3 (lv_at hl 0 rfl) ?_
  refine lv_aload_n hx hb d_Mo_namedIn_5 rfl (lv_at hl 1 rfl) ?_
  refine hm_get (ci := 9) (v := .int 1) (C := R_Mo) (T := F_Mo) (N := 41) hx hb hts ig_Mo hown hK hH f_m rfl 10 (by decide) (hts _ mw_390) (fun _ h9 => h9) rfl d_Mo_namedIn_6 ?_
  refine lv_icmp_ge (tgt := 54) hx hb d_Mo_namedIn_9 (by decide) (fun hc1 => ?_) (fun hc1 => absurd (by decide) hc1)
  refine lv_iconst (v := -1) hx hb d_Mo_namedIn_54 (by decide) ?_
  exact W.iret (v := (-1)) hx hb hr (fun t9 ht hW => ⟨(-1), h, rfl, ⟨rfl, rfl⟩, by rw [ht]; exact hH, by rw [ht]; exact hz⟩) hLo d_Mo_namedIn_55

set_option maxHeartbeats 4000000 in
set_option maxRecDepth 100000 in
theorem c_m_depthOf (l : Launch) (D : va_G) (t : Nat → ClassId) (G : hG) (ak av : Nat → Nat) (h : hM) (mo : Nat) : Met l y_Mo_depthOf (.code y_Mo_depthOf b_Mo_depthOf 4 (some .int) :: lw_g) { frames := 0, cells := 0, slots := 0, locals := 0 } (hP (kE D t G ak av) D vwCl G h [.ref mo, .int 0]) (hQi D vwCl G (fun r h' => r = 0 ∧ h = h')) 0 0 G.P := by
  refine Met.ofW (cc := b_Mo_depthOf) (maxL := 4) (ret := (some .int)) (by decide) rfl ?_
  intro p e s m args below meth c s₁ Bd hml hv
  obtain ⟨ha, hE, hH⟩ := hv
  have hx := Bd.exec
  have hb := Bd.bytes
  have hr := Bd.returns
  have hts : ∀ w ∈ lw_g, w.before args s = true := fun w hw => atoms_spec (ws := (.code y_Mo_depthOf b_Mo_depthOf 4 (some .int) :: lw_g)) Bd.pre w (List.mem_cons_of_mem _ hw)
  have hown : s.vm.findClass R_Mo = some m.cls := findClass_of_methodNamed Bd.named
  have hlocks := Bd.notSynchronized
  have hK := hE.1
  have hH0 := hH
  have hLo : hLc G.P [] := hLc_nil
  have hz : s.heap.size ≤ s.heap.size := Nat.le_refl _
  have hkp : kp [] h h := kp_rf
  have hl := lv_entry [.ref mo, .int 0] (n := 4) (Nat.le_of_ble_eq_true rfl)
  rw [show entryFrame m args 4 = F0 m 0 ((lg_sl [.ref mo, .int 0] ++ List.replicate (4 - (lg_sl [.ref mo, .int 0]).length) Slot.unset).toArray) [] from (by rw [ha]; exact lg_entry_eq m [.ref mo, .int 0] 4)]
  generalize (lg_sl [.ref mo, .int 0] ++ List.replicate (4 - (lg_sl [.ref mo, .int 0]).length) Slot.unset).toArray = ls at hl ⊢
  have hl : lv_has ls 4 [(0, .ref mo), (1, .int 0)] := hl
  refine lv_iconst (v := 0) hx hb d_Mo_depthOf_0 (by decide) ?_
  refine lv_istore_n (lv' := [(2, .int 0), (0, .ref mo), (1, .int 0)]) hx hb d_Mo_depthOf_1 rfl hl (by decide) rfl (fun ls hl => ?_)
  refine lv_iload_n hx hb d_Mo_depthOf_2 rfl (lv_at hl 2 rfl) ?_
  refine lv_istore_n (lv' := [(3, .int 0), (2, .int 0), (0, .ref mo), (1, .int 0)]) hx hb d_Mo_depthOf_3 rfl hl (by decide) rfl (fun ls hl => ?_)
  refine lv_iload_n hx hb d_Mo_depthOf_4 rfl (lv_at hl 0 rfl) ?_
  refine lv_if_le (tgt := 21) hx hb d_Mo_depthOf_5 (by decide) (fun hc1 => ?_) (fun hc1 => absurd (by decide) hc1)
  refine lv_iload_n hx hb d_Mo_depthOf_21 rfl (lv_at hl 1 rfl) ?_
  exact W.iret (v := 0) hx hb hr (fun t9 ht hW => ⟨0, h, rfl, ⟨rfl, rfl⟩, by rw [ht]; exact hH, by rw [ht]; exact hz⟩) hLo d_Mo_depthOf_22

set_option maxHeartbeats 4000000 in
set_option maxRecDepth 100000 in
theorem c_m_alive (l : Launch) (D : va_G) (t : Nat → ClassId) (G : hG) (ak av : Nat → Nat) (h : hM) (mo n aBy aSt aDe aPa aIt aId aPr aNa aSi aSe aIw aEx aOl aPl aTa aAt aLo aS1 aS2 aS3 aS4 aS5 aS6 aO1 aO2 aO3 aO4 aO5 : Nat) (gIt : Nat → Int32) (f_m : h mo = some (.inr (9, [.int 0, .int (nI n), .int 0, .ref aBy, .ref aSt, .ref aDe, .int 0, .int (-1), .int 0, .ref aPa, .int 1, .ref aIt, .ref aId, .ref aPr, .ref aNa, .ref aSi, .ref aSe, .ref aIw, .ref aEx, .ref aOl, .int 0, .ref aPl, .int 0, .int 0, .ref aTa, .ref aAt, .ref aLo, .int 0, .int 0, .ref aS1, .ref aS2, .ref aS3, .ref aS4, .ref aS5, .ref aS6, .int 0, .ref aO1, .ref aO2, .ref aO3, .ref aO4, .ref aO5]))) (f_aIt : h aIt = some (.inl ((t 1), 700, .inl gIt))) (zIt : gIt 0 = 1) : Met l y_Mo_alive (.code y_Mo_alive b_Mo_alive 3 (some .int) :: lw_g) { frames := 0, cells := 0, slots := 0, locals := 0 } (hP (kE D t G ak av) D vwCl G h [.ref mo]) (hQi D vwCl G (fun r h' => r = 1 ∧ h = h')) 0 0 G.P := by
  refine Met.ofW (cc := b_Mo_alive) (maxL := 3) (ret := (some .int)) (by decide) rfl ?_
  intro p e s m args below meth c s₁ Bd hml hv
  obtain ⟨ha, hE, hH⟩ := hv
  have hx := Bd.exec
  have hb := Bd.bytes
  have hr := Bd.returns
  have hts : ∀ w ∈ lw_g, w.before args s = true := fun w hw => atoms_spec (ws := (.code y_Mo_alive b_Mo_alive 3 (some .int) :: lw_g)) Bd.pre w (List.mem_cons_of_mem _ hw)
  have hown : s.vm.findClass R_Mo = some m.cls := findClass_of_methodNamed Bd.named
  have hlocks := Bd.notSynchronized
  have hK := hE.1
  have hH0 := hH
  have hLo : hLc G.P [] := hLc_nil
  have hz : s.heap.size ≤ s.heap.size := Nat.le_refl _
  have hkp : kp [] h h := kp_rf
  have hl := lv_entry [.ref mo] (n := 3) (Nat.le_of_ble_eq_true rfl)
  rw [show entryFrame m args 3 = F0 m 0 ((lg_sl [.ref mo] ++ List.replicate (3 - (lg_sl [.ref mo]).length) Slot.unset).toArray) [] from (by rw [ha]; exact lg_entry_eq m [.ref mo] 3)]
  generalize (lg_sl [.ref mo] ++ List.replicate (3 - (lg_sl [.ref mo]).length) Slot.unset).toArray = ls at hl ⊢
  have hl : lv_has ls 3 [(0, .ref mo)] := hl
  refine lv_iconst (v := 0) hx hb d_Mo_alive_0 (by decide) ?_
  refine lv_istore_n (lv' := [(1, .int 0), (0, .ref mo)]) hx hb d_Mo_alive_1 rfl hl (by decide) rfl (fun ls hl => ?_)
  refine lv_iconst (v := 0) hx hb d_Mo_alive_2 (by decide) ?_
  refine lv_istore_n (lv' := [(2, .int 0), (1, .int 0), (0, .ref mo)]) hx hb d_Mo_alive_3 rfl hl (by decide) rfl (fun ls hl => ?_)
  refine lv_iload_n hx hb d_Mo_alive_4 rfl (lv_at hl 0 rfl) ?_
  refine lv_aload_n hx hb d_Mo_alive_5 rfl (lv_at hl 2 rfl) ?_
  refine hm_get (ci := 9) (v := .int 1) (C := R_Mo) (T := F_Mo) (N := 41) hx hb hts ig_Mo hown hK hH f_m rfl 10 (by decide) (hts _ mw_390) (fun _ h9 => h9) rfl d_Mo_alive_6 ?_
  refine lv_icmp_ge (tgt := 35) hx hb d_Mo_alive_9 (by decide) (fun hc1 => absurd hc1 (by decide)) (fun hc1 => ?_)
  refine lv_iload_n hx hb d_Mo_alive_12 rfl (lv_at hl 1 rfl) ?_
  refine lv_aload_n hx hb d_Mo_alive_13 rfl (lv_at hl 2 rfl) ?_
  refine hm_get (ci := 9) (v := .ref aIt) (C := R_Mo) (T := F_Mo) (N := 41) hx hb hts ig_Mo hown hK hH f_m rfl 11 (by decide) (hts _ mw_391) (fun _ h9 => h9) rfl d_Mo_alive_14 ?_
  refine lv_iload_n hx hb d_Mo_alive_17 rfl (lv_at hl 0 rfl) ?_
  refine hj_zald hx hb hK hH 1 f_aIt rfl 0 (by decide) (by decide) (by decide) d_Mo_alive_18 ?_
  refine lv_if_eq (tgt := 26) hx hb d_Mo_alive_19 (by decide) (fun hc2 => absurd hc2 (by rw [zIt]; decide)) (fun hc2 => ?_)
  refine lv_iconst (v := 1) hx hb d_Mo_alive_22 (by decide) ?_
  refine lv_goto (tgt := 27) hx hb d_Mo_alive_23 (by decide) ?_
  refine lv_iadd hx hb d_Mo_alive_27 ?_
  refine lv_istore_n (lv' := [(1, .int (0 + 1)), (2, .int 0), (0, .ref mo)]) hx hb d_Mo_alive_28 rfl hl (by decide) rfl (fun ls hl => ?_)
  refine lv_iinc (v := 0 + 1) (lv' := [(2, .int (0 + 1)), (1, .int (0 + 1)), (0, .ref mo)]) hx hb d_Mo_alive_29 hl (k := 1) rfl (by rfl) (by decide) rfl (fun ls hl => ?_)
  refine lv_goto (tgt := 4) hx hb d_Mo_alive_32 (by decide) ?_
  refine lv_iload_n hx hb d_Mo_alive_4 rfl (lv_at hl 0 rfl) ?_
  refine lv_aload_n hx hb d_Mo_alive_5 rfl (lv_at hl 2 rfl) ?_
  refine hm_get (ci := 9) (v := .int 1) (C := R_Mo) (T := F_Mo) (N := 41) hx hb hts ig_Mo hown hK hH f_m rfl 10 (by decide) (hts _ mw_390) (fun _ h9 => h9) rfl d_Mo_alive_6 ?_
  refine lv_icmp_ge (tgt := 35) hx hb d_Mo_alive_9 (by decide) (fun hc3 => ?_) (fun hc3 => absurd (by decide) hc3)
  refine lv_iload_n hx hb d_Mo_alive_35 rfl (lv_at hl 1 rfl) ?_
  exact W.iret (v := 0 + 1) hx hb hr (fun t9 ht hW => ⟨0 + 1, h, rfl, ⟨by decide, rfl⟩, by rw [ht]; exact hH, by rw [ht]; exact hz⟩) hLo d_Mo_alive_36

set_option maxHeartbeats 4000000 in
set_option maxRecDepth 100000 in
theorem c_m_isContent (l : Launch) (D : va_G) (t : Nat → ClassId) (G : hG) (ak av : Nat → Nat) (h : hM) (sz sd : Int32) : Met l y_Mo_isContent (.code y_Mo_isContent b_Mo_isContent 2 (some .boolean) :: lw_g) { frames := 1, cells := 0, slots := 0, locals := 22 } (hP (kE D t G ak av) D vwCl G h [.int sz, .int sd]) (hQi D vwCl G (fun r h' => r = cntC sz sd ∧ h = h')) 0 0 G.P := by
  refine Met.ofW (cc := b_Mo_isContent) (maxL := 2) (ret := (some .boolean)) (by decide) rfl ?_
  intro p e s m args below meth c s₁ Bd hml hv
  obtain ⟨ha, hE, hH⟩ := hv
  have hx := Bd.exec
  have hb := Bd.bytes
  have hr := Bd.returns
  have hts : ∀ w ∈ lw_g, w.before args s = true := fun w hw => atoms_spec (ws := (.code y_Mo_isContent b_Mo_isContent 2 (some .boolean) :: lw_g)) Bd.pre w (List.mem_cons_of_mem _ hw)
  have hown : s.vm.findClass R_Mo = some m.cls := findClass_of_methodNamed Bd.named
  have hlocks := Bd.notSynchronized
  have hK := hE.1
  have hH0 := hH
  have hLo : hLc G.P [] := hLc_nil
  have hz : s.heap.size ≤ s.heap.size := Nat.le_refl _
  have hkp : kp [] h h := kp_rf
  have hl := lv_entry [.int sz, .int sd] (n := 2) (Nat.le_of_ble_eq_true rfl)
  rw [show entryFrame m args 2 = F0 m 0 ((lg_sl [.int sz, .int sd] ++ List.replicate (2 - (lg_sl [.int sz, .int sd]).length) Slot.unset).toArray) [] from (by rw [ha]; exact lg_entry_eq m [.int sz, .int sd] 2)]
  generalize (lg_sl [.int sz, .int sd] ++ List.replicate (2 - (lg_sl [.int sz, .int sd]).length) Slot.unset).toArray = ls at hl ⊢
  have hl : lv_has ls 2 [(0, .int sz), (1, .int sd)] := hl
  refine lv_iload_n hx hb d_Mo_isContent_0 rfl (lv_at hl 0 rfl) ?_
  refine lv_iconst (v := 0) hx hb d_Mo_isContent_1 (by decide) ?_
  refine lv_sipush (v := 6000) hx hb d_Mo_isContent_2 (by decide) ?_
  refine hm_calli (va_runS (As := [.int sz, .int 0, .int 6000]) (rest := []) ⟨hx, hb, hml, hown, hts⟩ (c_m_in l D t G ak av h sz 0 6000) ⟨cw9B 3 hts mw_437 mw_438 mw_428 rfl rfl (by decide +kernel) ⟨Nat.le_of_ble_eq_true rfl, Nat.le_of_ble_eq_true rfl⟩, hts _ mw_439⟩ (hP_S kE_ok hE hH) rfl rfl hl.1 rfl (lv_room (Nat.le_of_ble_eq_true rfl)) d_Mo_isContent_5 ⟨Nat.le_of_ble_eq_true rfl, Nat.le_of_ble_eq_true rfl⟩) hLo (fun r1 h2 H3 locs hp5 hH z4 hLo => ?_)
  have hz : s.heap.size ≤ H3.size := Nat.le_trans hz z4
  obtain ⟨rfl, rfl⟩ := hp5
  refine lv_if_eq (tgt := 26) hx hb d_Mo_isContent_8 (by decide) (fun hc6 => ?_) (fun hc6 => ?_)
  · skip
    refine lv_iconst (v := 0) hx hb d_Mo_isContent_26 (by decide) ?_
    exact W.zret (v := 0) hx hb hr (by decide) (fun t9 ht hW => ⟨0, h, rfl, ⟨by rw [cntI, if_pos hc6], rfl⟩, by rw [ht]; exact hH, by rw [ht]; exact hz⟩) hLo d_Mo_isContent_27
  · skip
    refine lv_iload_n hx hb d_Mo_isContent_11 rfl (lv_at hl 1 rfl) ?_
    refine lv_iconst (v := 0) hx hb d_Mo_isContent_12 (by decide) ?_
    refine lv_sipush (v := 255) hx hb d_Mo_isContent_13 (by decide) ?_
    refine hm_calli (va_runS (As := [.int sd, .int 0, .int 255]) (rest := []) ⟨hx, hb, hml, hown, hts⟩ (c_m_in l D t G ak av h sd 0 255) ⟨cw9B 3 hts mw_437 mw_438 mw_428 rfl rfl (by decide +kernel) ⟨Nat.le_of_ble_eq_true rfl, Nat.le_of_ble_eq_true rfl⟩, hts _ mw_439⟩ (hP_S kE_ok hE hH) rfl rfl hl.1 rfl (lv_room (Nat.le_of_ble_eq_true rfl)) d_Mo_isContent_16 ⟨Nat.le_of_ble_eq_true rfl, Nat.le_of_ble_eq_true rfl⟩) hLo (fun r7 h8 H9 locs hp11 hH z10 hLo => ?_)
    have hz : s.heap.size ≤ H9.size := Nat.le_trans hz z10
    obtain ⟨rfl, rfl⟩ := hp11
    refine lv_if_eq (tgt := 26) hx hb d_Mo_isContent_19 (by decide) (fun hc12 => ?_) (fun hc12 => ?_)
    · skip
      refine lv_iconst (v := 0) hx hb d_Mo_isContent_26 (by decide) ?_
      exact W.zret (v := 0) hx hb hr (by decide) (fun t9 ht hW => ⟨0, h, rfl, ⟨by rw [cntI, if_neg hc6, if_pos hc12], rfl⟩, by rw [ht]; exact hH, by rw [ht]; exact hz⟩) hLo d_Mo_isContent_27
    · skip
      refine lv_iconst (v := 1) hx hb d_Mo_isContent_22 (by decide) ?_
      refine lv_goto (tgt := 27) hx hb d_Mo_isContent_23 (by decide) ?_
      exact W.zret (v := 1) hx hb hr (by decide) (fun t9 ht hW => ⟨1, h, rfl, ⟨by rw [cntI, if_neg hc6, if_neg hc12], rfl⟩, by rw [ht]; exact hH, by rw [ht]; exact hz⟩) hLo d_Mo_isContent_27

set_option maxHeartbeats 4000000 in
set_option maxRecDepth 100000 in
theorem c_m_add1 (l : Launch) (D : va_G) (t : Nat → ClassId) (G : hG) (ak av : Nat → Nat) (h : hM) (mo n aBy aSt aDe aPa aIt aId aPr aNa aSi aSe aIw aEx aOl aPl aTa aAt aLo aS1 aS2 aS3 aS4 aS5 aS6 aO1 aO2 aO3 aO4 aO5 : Nat) (gIt gId gPr gSi gSe gIw gEx : Nat → Int32) (gNa : Nat → Int64) (d9 sz sd ri : Int32) (wo : Int64) (f_m : h mo = some (.inr (9, [.int 0, .int (nI n), .int 0, .ref aBy, .ref aSt, .ref aDe, .int 0, .int (-1), .int 0, .ref aPa, .int 1, .ref aIt, .ref aId, .ref aPr, .ref aNa, .ref aSi, .ref aSe, .ref aIw, .ref aEx, .ref aOl, .int 0, .ref aPl, .int 0, .int 0, .ref aTa, .ref aAt, .ref aLo, .int 0, .int 0, .ref aS1, .ref aS2, .ref aS3, .ref aS4, .ref aS5, .ref aS6, .int 0, .ref aO1, .ref aO2, .ref aO3, .ref aO4, .ref aO5]))) (f_aIt : h aIt = some (.inl ((t 1), 700, .inl gIt))) (f_aId : h aId = some (.inl ((t 1), 700, .inl gId))) (f_aPr : h aPr = some (.inl ((t 2), 700, .inl gPr))) (f_aNa : h aNa = some (.inl ((t 3), 700, .inr (.inl gNa)))) (f_aSi : h aSi = some (.inl ((t 2), 700, .inl gSi))) (f_aSe : h aSe = some (.inl ((t 2), 700, .inl gSe))) (f_aIw : h aIw = some (.inl ((t 1), 700, .inl gIw))) (f_aEx : h aEx = some (.inl ((t 2), 700, .inl gEx))) (zIt : gIt 0 = 1) (zId : gId 0 = 1) (ne_aIt_aId : aIt ≠ aId) (ne_aIt_aPr : aIt ≠ aPr) (ne_aIt_aSi : aIt ≠ aSi) (ne_aIt_aSe : aIt ≠ aSe) (ne_aIt_aEx : aIt ≠ aEx) (ne_aId_aPr : aId ≠ aPr) (ne_aId_aSi : aId ≠ aSi) (ne_aId_aSe : aId ≠ aSe) (ne_aId_aEx : aId ≠ aEx) (ne_aPr_aSi : aPr ≠ aSi) (ne_aPr_aSe : aPr ≠ aSe) (ne_aPr_aEx : aPr ≠ aEx) (ne_aSi_aSe : aSi ≠ aSe) (ne_aSi_aEx : aSi ≠ aEx) (ne_aSe_aEx : aSe ≠ aEx) (ne_aIt_aIw : aIt ≠ aIw) (ne_aId_aIw : aId ≠ aIw) (ne_aPr_aIw : aPr ≠ aIw) (ne_aSi_aIw : aSi ≠ aIw) (ne_aSe_aIw : aSe ≠ aIw) (ne_aIw_aEx : aIw ≠ aEx) : Met l y_Mo_add (.code y_Mo_add b_Mo_add 11 (some .int) :: lw_g) { frames := 2, cells := 0, slots := 0, locals := 45 } (hP (kE D t G ak av) D vwCl G h [.ref mo, .int d9, .long wo, .int 1, .int sz, .int sd, .int ri]) (hQi D vwCl G (fun r h' => (r = -2 ∧ ¬ (d9 = 0 ∧ tlV wo ≠ 0 ∧ ri ≠ 0)) ∨ (r = 1 ∧ d9 = 0 ∧ tlV wo ≠ 0 ∧ ri ≠ 0))) 0 0 G.P := by
  refine Met.ofW (cc := b_Mo_add) (maxL := 11) (ret := (some .int)) (by decide) rfl ?_
  intro p e s m args below meth c s₁ Bd hml hv
  obtain ⟨ha, hE, hH⟩ := hv
  have hx := Bd.exec
  have hb := Bd.bytes
  have hr := Bd.returns
  have hts : ∀ w ∈ lw_g, w.before args s = true := fun w hw => atoms_spec (ws := (.code y_Mo_add b_Mo_add 11 (some .int) :: lw_g)) Bd.pre w (List.mem_cons_of_mem _ hw)
  have hown : s.vm.findClass R_Mo = some m.cls := findClass_of_methodNamed Bd.named
  have hlocks := Bd.notSynchronized
  have hK := hE.1
  have hH0 := hH
  have hLo : hLc G.P [] := hLc_nil
  have hz : s.heap.size ≤ s.heap.size := Nat.le_refl _
  have hkp : kp [] h h := kp_rf
  have hl := lv_entry [.ref mo, .int d9, .long wo, .int 1, .int sz, .int sd, .int ri] (n := 11) (Nat.le_of_ble_eq_true rfl)
  rw [show entryFrame m args 11 = F0 m 0 ((lg_sl [.ref mo, .int d9, .long wo, .int 1, .int sz, .int sd, .int ri] ++ List.replicate (11 - (lg_sl [.ref mo, .int d9, .long wo, .int 1, .int sz, .int sd, .int ri]).length) Slot.unset).toArray) [] from (by rw [ha]; exact lg_entry_eq m [.ref mo, .int d9, .long wo, .int 1, .int sz, .int sd, .int ri] 11)]
  generalize (lg_sl [.ref mo, .int d9, .long wo, .int 1, .int sz, .int sd, .int ri] ++ List.replicate (11 - (lg_sl [.ref mo, .int d9, .long wo, .int 1, .int sz, .int sd, .int ri]).length) Slot.unset).toArray = ls at hl ⊢
  have hl : lv_has ls 11 [(0, .ref mo), (1, .int d9), (2, .long wo), (4, .int 1), (5, .int sz), (6, .int sd), (7, .int ri)] := hl
  refine lv_aload_n hx hb d_Mo_add_0 rfl (lv_at hl 0 rfl) ?_
  refine hm_get (ci := 9) (v := .int 0) (C := R_Mo) (T := F_Mo) (N := 41) hx hb hts ig_Mo hown hK hH f_m rfl 6 (by decide) (hts _ mw_440) (fun _ h9 => h9) rfl d_Mo_add_1 ?_
  refine lv_if_eq (tgt := 10) hx hb d_Mo_add_4 (by decide) (fun hc1 => ?_) (fun hc1 => absurd rfl hc1)
  refine lv_lload_n hx hb d_Mo_add_10 rfl (lv_at hl 2 rfl) ?_
  refine hm_calll (va_runS (As := [.long wo]) (rest := []) ⟨hx, hb, hml, hown, hts⟩ (c_m_told l D t G ak av h wo) ⟨cw9B 1 hts mw_441 mw_442 mw_428 rfl rfl (by decide +kernel) ⟨Nat.le_of_ble_eq_true rfl, Nat.le_of_ble_eq_true rfl⟩, hts _ mw_443⟩ (hP_S kE_ok hE hH) rfl rfl hl.1 rfl (lv_room (Nat.le_of_ble_eq_true rfl)) d_Mo_add_11 ⟨Nat.le_of_ble_eq_true rfl, Nat.le_of_ble_eq_true rfl⟩) hLo (fun r2 h3 H4 locs hp6 hH z5 hLo => ?_)
  have hz : s.heap.size ≤ H4.size := Nat.le_trans hz z5
  obtain ⟨rfl, rfl⟩ := hp6
  refine lv_lstore (lv' := [(8, .long (tlV wo)), (0, .ref mo), (1, .int d9), (2, .long wo), (4, .int 1), (5, .int sz), (6, .int sd), (7, .int ri)]) hx hb d_Mo_add_14 hl (by decide) rfl (fun ls hl => ?_)
  refine lv_iload hx hb d_Mo_add_16 (lv_at hl 7 rfl) ?_
  refine lv_if_eq (tgt := 62) hx hb d_Mo_add_18 (by decide) (fun hc7 => ?_) (fun hc7 => ?_)
  · skip
    refine lv_bipush (v := -2) hx hb d_Mo_add_62 (by decide) ?_
    exact W.iret (v := (-2)) hx hb hr (fun t9 ht hW => ⟨(-2), h, rfl, Or.inl ⟨rfl, fun q => q.2.2 hc7⟩, by rw [ht]; exact hH, by rw [ht]; exact hz⟩) hLo d_Mo_add_64
  · skip
    refine lv_aload_n hx hb d_Mo_add_21 rfl (lv_at hl 1 rfl) ?_
    refine lv_iload_n hx hb d_Mo_add_22 rfl (lv_at hl 2 rfl) ?_
    by_cases hin : d9 = 0
    · skip
      refine hm_calli (va_runV (As := [.int d9]) (b := mo) (rest := []) ⟨hx, hb, hml, hown, hts⟩ (c_m_isNode l D t G ak av h mo n aBy aSt aDe aPa aIt aId aPr aNa aSi aSe aIw aEx aOl aPl aTa aAt aLo aS1 aS2 aS3 aS4 aS5 aS6 aO1 aO2 aO3 aO4 aO5 gIt d9 f_m f_aIt zIt) ⟨cw9B 1 hts mw_444 mw_445 mw_428 rfl rfl (by decide +kernel) ⟨Nat.le_of_ble_eq_true rfl, Nat.le_of_ble_eq_true rfl⟩, hts _ mw_446, hts _ mw_447⟩ (hP_V (q := (R_Mo, F_Mo, 41)) kE_ok hE hK hH f_m rfl) rfl rfl hl.1 rfl (lv_room (Nat.le_of_ble_eq_true rfl)) d_Mo_add_23 ⟨Nat.le_of_ble_eq_true rfl, Nat.le_of_ble_eq_true rfl⟩) hLo (fun r8 h9 H10 locs hp12 hH z11 hLo => ?_)
      have hz : s.heap.size ≤ H10.size := Nat.le_trans hz z11
      obtain ⟨hr9, rfl⟩ := hp12
      rw [if_pos hin] at hr9
      subst hr9
      have hink := hin
      subst hin
      refine lv_if_eq (tgt := 62) hx hb d_Mo_add_26 (by decide) (fun hc13 => absurd hc13 (by decide)) (fun hc13 => ?_)
      refine lv_aload_n hx hb d_Mo_add_29 rfl (lv_at hl 1 rfl) ?_
      refine hm_get (ci := 9) (v := .ref aId) (C := R_Mo) (T := F_Mo) (N := 41) hx hb hts ig_Mo hown hK hH f_m rfl 12 (by decide) (hts _ mw_392) (fun _ h9 => h9) rfl d_Mo_add_30 ?_
      refine lv_iload_n hx hb d_Mo_add_33 rfl (lv_at hl 2 rfl) ?_
      refine hj_zald hx hb hK hH 1 f_aId rfl 0 (by decide) (by decide) (by decide) d_Mo_add_34 ?_
      refine lv_if_eq (tgt := 62) hx hb d_Mo_add_35 (by decide) (fun hc14 => absurd hc14 (by rw [zId]; decide)) (fun hc14 => ?_)
      refine lv_lload hx hb d_Mo_add_38 (lv_at hl 0 rfl) ?_
      refine lv_lconst (v := 0) hx hb d_Mo_add_40 (by decide) ?_
      refine W.lcmp hx hb d_Mo_add_41 ?_
      refine lv_if_eq (tgt := 62) hx hb d_Mo_add_42 (by decide) (fun hc15 => ?_) (fun hc15 => ?_)
      · skip
        refine lv_bipush (v := -2) hx hb d_Mo_add_62 (by decide) ?_
        exact W.iret (v := (-2)) hx hb hr (fun t9 ht hW => ⟨(-2), h, rfl, Or.inl ⟨rfl, fun q => q.2.1 ((lg_cmp_eq _ _).mp hc15)⟩, by rw [ht]; exact hH, by rw [ht]; exact hz⟩) hLo d_Mo_add_64
      · skip
        refine lv_iload hx hb d_Mo_add_45 (lv_at hl 4 rfl) ?_
        refine lv_if_eq (tgt := 65) hx hb d_Mo_add_47 (by decide) (fun hc16 => absurd hc16 (by decide)) (fun hc16 => ?_)
        refine lv_aload_n hx hb d_Mo_add_50 rfl (lv_at hl 1 rfl) ?_
        refine lv_iload_n hx hb d_Mo_add_51 rfl (lv_at hl 2 rfl) ?_
        refine hm_calli (va_runV (As := [.int 0]) (b := mo) (rest := []) ⟨hx, hb, hml, hown, hts⟩ (c_m_depthOf l D t G ak av h mo) ⟨cw9B 1 hts mw_448 mw_449 mw_428 rfl rfl (by decide +kernel) ⟨Nat.le_of_ble_eq_true rfl, Nat.le_of_ble_eq_true rfl⟩, hts _ mw_450, hts _ mw_451⟩ (hP_V (q := (R_Mo, F_Mo, 41)) kE_ok hE hK hH f_m rfl) rfl rfl hl.1 rfl (lv_room (Nat.le_of_ble_eq_true rfl)) d_Mo_add_52 ⟨Nat.le_of_ble_eq_true rfl, Nat.le_of_ble_eq_true rfl⟩) hLo (fun r17 h18 H19 locs hp21 hH z20 hLo => ?_)
        have hz : s.heap.size ≤ H19.size := Nat.le_trans hz z20
        obtain ⟨rfl, rfl⟩ := hp21
        refine lv_iconst (v := 1) hx hb d_Mo_add_55 (by decide) ?_
        refine lv_iadd hx hb d_Mo_add_56 ?_
        refine lv_bipush (v := 6) hx hb d_Mo_add_57 (by decide) ?_
        refine lv_icmp_le (tgt := 65) hx hb d_Mo_add_59 (by decide) (fun hc22 => ?_) (fun hc22 => absurd (by decide) hc22)
        refine lv_aload_n hx hb d_Mo_add_65 rfl (lv_at hl 1 rfl) ?_
        refine lv_iload_n hx hb d_Mo_add_66 rfl (lv_at hl 2 rfl) ?_
        refine lv_lload hx hb d_Mo_add_67 (lv_at hl 0 rfl) ?_
        refine hm_calli (va_runV (As := [.int 0, .long (tlV wo)]) (b := mo) (rest := []) ⟨hx, hb, hml, hown, hts⟩ (c_m_namedIn l D t G ak av h mo n aBy aSt aDe aPa aIt aId aPr aNa aSi aSe aIw aEx aOl aPl aTa aAt aLo aS1 aS2 aS3 aS4 aS5 aS6 aO1 aO2 aO3 aO4 aO5 0 (tlV wo) f_m) ⟨cw9B 2 hts mw_452 mw_453 mw_428 rfl rfl (by decide +kernel) ⟨Nat.le_of_ble_eq_true rfl, Nat.le_of_ble_eq_true rfl⟩, hts _ mw_454, hts _ mw_455⟩ (hP_V (q := (R_Mo, F_Mo, 41)) kE_ok hE hK hH f_m rfl) rfl rfl hl.1 rfl (lv_room (Nat.le_of_ble_eq_true rfl)) d_Mo_add_69 ⟨Nat.le_of_ble_eq_true rfl, Nat.le_of_ble_eq_true rfl⟩) hLo (fun r23 h24 H25 locs hp27 hH z26 hLo => ?_)
        have hz : s.heap.size ≤ H25.size := Nat.le_trans hz z26
        obtain ⟨rfl, rfl⟩ := hp27
        refine lv_if_lt (tgt := 78) hx hb d_Mo_add_72 (by decide) (fun hc28 => ?_) (fun hc28 => absurd (by decide) hc28)
        refine lv_aload_n hx hb d_Mo_add_78 rfl (lv_at hl 1 rfl) ?_
        refine hm_calli (va_runV (As := []) (b := mo) (rest := []) ⟨hx, hb, hml, hown, hts⟩ (c_m_alive l D t G ak av h mo n aBy aSt aDe aPa aIt aId aPr aNa aSi aSe aIw aEx aOl aPl aTa aAt aLo aS1 aS2 aS3 aS4 aS5 aS6 aO1 aO2 aO3 aO4 aO5 gIt f_m f_aIt zIt) ⟨cw9B 0 hts mw_456 mw_457 mw_428 rfl rfl (by decide +kernel) ⟨Nat.le_of_ble_eq_true rfl, Nat.le_of_ble_eq_true rfl⟩, hts _ mw_458, hts _ mw_459⟩ (hP_V (q := (R_Mo, F_Mo, 41)) kE_ok hE hK hH f_m rfl) rfl rfl hl.1 rfl (lv_room (Nat.le_of_ble_eq_true rfl)) d_Mo_add_79 ⟨Nat.le_of_ble_eq_true rfl, Nat.le_of_ble_eq_true rfl⟩) hLo (fun r29 h30 H31 locs hp33 hH z32 hLo => ?_)
        have hz : s.heap.size ≤ H31.size := Nat.le_trans hz z32
        obtain ⟨rfl, rfl⟩ := hp33
        refine lv_bipush (v := 30) hx hb d_Mo_add_82 (by decide) ?_
        refine lv_icmp_ne (tgt := 90) hx hb d_Mo_add_84 (by decide) (fun hc34 => ?_) (fun hc34 => absurd hc34 (by decide))
        refine lv_aload_n hx hb d_Mo_add_90 rfl (lv_at hl 1 rfl) ?_
        refine hm_get (ci := 9) (v := .int 1) (C := R_Mo) (T := F_Mo) (N := 41) hx hb hts ig_Mo hown hK hH f_m rfl 10 (by decide) (hts _ mw_390) (fun _ h9 => h9) rfl d_Mo_add_91 ?_
        refine lv_istore (lv' := [(10, .int 1), (8, .long (tlV wo)), (0, .ref mo), (1, .int 0), (2, .long wo), (4, .int 1), (5, .int sz), (6, .int sd), (7, .int ri)]) hx hb d_Mo_add_94 hl (by decide) rfl (fun ls hl => ?_)
        refine lv_aload_n hx hb d_Mo_add_96 rfl (lv_at hl 2 rfl) ?_
        refine lv_dup hx hb d_Mo_add_97 rfl ?_
        refine hm_get (ci := 9) (v := .int 1) (C := R_Mo) (T := F_Mo) (N := 41) hx hb hts ig_Mo hown hK hH f_m rfl 10 (by decide) (hts _ mw_390) (fun _ h9 => h9) rfl d_Mo_add_98 ?_
        refine lv_iconst (v := 1) hx hb d_Mo_add_101 (by decide) ?_
        refine lv_iadd hx hb d_Mo_add_102 ?_
        refine hm_put (ci := 9) (v := .int (1 + 1)) (ty := .int) (C := R_Mo) (T := F_Mo) (N := 41) hx hb hts ig_Mo t_Mo tk_Mo nm_Mo hown hK hH hLo f_m rfl 10 (by decide) (hts _ mw_390) (fun _ h9 => h9) rfl (by decide +kernel) rfl rfl (Nat.le_of_ble_eq_true rfl) d_Mo_add_103 (fun H35 locs hH z36 hLo => ?_)
        have hz : s.heap.size ≤ H35.size := by rw [z36]; exact hz
        obtain ⟨h37, e38⟩ : ∃ z, z = hu h mo (.inr (9, [.int 0, .int (nI n), .int 0, .ref aBy, .ref aSt, .ref aDe, .int 0, .int (-1), .int 0, .ref aPa, .int (1 + 1), .ref aIt, .ref aId, .ref aPr, .ref aNa, .ref aSi, .ref aSe, .ref aIw, .ref aEx, .ref aOl, .int 0, .ref aPl, .int 0, .int 0, .ref aTa, .ref aAt, .ref aLo, .int 0, .int 0, .ref aS1, .ref aS2, .ref aS3, .ref aS4, .ref aS5, .ref aS6, .int 0, .ref aO1, .ref aO2, .ref aO3, .ref aO4, .ref aO5])) := ⟨_, rfl⟩
        have hH : hm D vwCl G h37 H35 := by rw [e38]; exact hH
        have f_aIt : h37 aIt = some (.inl ((t 1), 700, .inl gIt)) := by rw [e38, hu_n (h_neA f_aIt f_m)]; exact f_aIt
        have f_aId : h37 aId = some (.inl ((t 1), 700, .inl gId)) := by rw [e38, hu_n (h_neA f_aId f_m)]; exact f_aId
        have f_aPr : h37 aPr = some (.inl ((t 2), 700, .inl gPr)) := by rw [e38, hu_n (h_neA f_aPr f_m)]; exact f_aPr
        have f_aNa : h37 aNa = some (.inl ((t 3), 700, .inr (.inl gNa))) := by rw [e38, hu_n (h_neA f_aNa f_m)]; exact f_aNa
        have f_aSi : h37 aSi = some (.inl ((t 2), 700, .inl gSi)) := by rw [e38, hu_n (h_neA f_aSi f_m)]; exact f_aSi
        have f_aSe : h37 aSe = some (.inl ((t 2), 700, .inl gSe)) := by rw [e38, hu_n (h_neA f_aSe f_m)]; exact f_aSe
        have f_aIw : h37 aIw = some (.inl ((t 1), 700, .inl gIw)) := by rw [e38, hu_n (h_neA f_aIw f_m)]; exact f_aIw
        have f_aEx : h37 aEx = some (.inl ((t 2), 700, .inl gEx)) := by rw [e38, hu_n (h_neA f_aEx f_m)]; exact f_aEx
        have f_m : h37 mo = some (.inr (9, [.int 0, .int (nI n), .int 0, .ref aBy, .ref aSt, .ref aDe, .int 0, .int (-1), .int 0, .ref aPa, .int (1 + 1), .ref aIt, .ref aId, .ref aPr, .ref aNa, .ref aSi, .ref aSe, .ref aIw, .ref aEx, .ref aOl, .int 0, .ref aPl, .int 0, .int 0, .ref aTa, .ref aAt, .ref aLo, .int 0, .int 0, .ref aS1, .ref aS2, .ref aS3, .ref aS4, .ref aS5, .ref aS6, .int 0, .ref aO1, .ref aO2, .ref aO3, .ref aO4, .ref aO5])) := by rw [e38]; exact hu_s _ _ _
        refine lv_aload_n hx hb d_Mo_add_106 rfl (lv_at hl 2 rfl) ?_
        refine hm_get (ci := 9) (v := .ref aIt) (C := R_Mo) (T := F_Mo) (N := 41) hx hb hts ig_Mo hown hK hH f_m rfl 11 (by decide) (hts _ mw_391) (fun _ h9 => h9) rfl d_Mo_add_107 ?_
        refine lv_iload hx hb d_Mo_add_110 (lv_at hl 0 rfl) ?_
        refine lv_iconst (v := 1) hx hb d_Mo_add_112 (by decide) ?_
        refine hj_zast hx hb hK hH hLo 1 f_aIt rfl 1 (by decide) (by decide) (by decide) d_Mo_add_113 (fun H39 locs hH z40 hLo => ?_)
        have hz : s.heap.size ≤ H39.size := by rw [z40]; exact hz
        obtain ⟨h41, e42⟩ : ∃ z, z = hu h37 aIt (.inl ((t 1), 700, .inl (upd gIt 1 (vp_nar .boolean 1)))) := ⟨_, rfl⟩
        have hH : hm D vwCl G h41 H39 := by rw [e42]; exact hH
        have f_m : h41 mo = some (.inr (9, [.int 0, .int (nI n), .int 0, .ref aBy, .ref aSt, .ref aDe, .int 0, .int (-1), .int 0, .ref aPa, .int (1 + 1), .ref aIt, .ref aId, .ref aPr, .ref aNa, .ref aSi, .ref aSe, .ref aIw, .ref aEx, .ref aOl, .int 0, .ref aPl, .int 0, .int 0, .ref aTa, .ref aAt, .ref aLo, .int 0, .int 0, .ref aS1, .ref aS2, .ref aS3, .ref aS4, .ref aS5, .ref aS6, .int 0, .ref aO1, .ref aO2, .ref aO3, .ref aO4, .ref aO5])) := by rw [e42, hu_n (Ne.symm (h_neA f_aIt f_m))]; exact f_m
        have f_aId : h41 aId = some (.inl ((t 1), 700, .inl gId)) := by rw [e42, hu_n (Ne.symm ne_aIt_aId)]; exact f_aId
        have f_aPr : h41 aPr = some (.inl ((t 2), 700, .inl gPr)) := by rw [e42, hu_n (Ne.symm ne_aIt_aPr)]; exact f_aPr
        have f_aNa : h41 aNa = some (.inl ((t 3), 700, .inr (.inl gNa))) := by rw [e42, hu_n (h_neK (k1 := 1) (k2 := 0) f_aNa f_aIt rfl rfl (by decide))]; exact f_aNa
        have f_aSi : h41 aSi = some (.inl ((t 2), 700, .inl gSi)) := by rw [e42, hu_n (Ne.symm ne_aIt_aSi)]; exact f_aSi
        have f_aSe : h41 aSe = some (.inl ((t 2), 700, .inl gSe)) := by rw [e42, hu_n (Ne.symm ne_aIt_aSe)]; exact f_aSe
        have f_aIw : h41 aIw = some (.inl ((t 1), 700, .inl gIw)) := by rw [e42, hu_n (Ne.symm ne_aIt_aIw)]; exact f_aIw
        have f_aEx : h41 aEx = some (.inl ((t 2), 700, .inl gEx)) := by rw [e42, hu_n (Ne.symm ne_aIt_aEx)]; exact f_aEx
        have f_aIt : h41 aIt = some (.inl ((t 1), 700, .inl (upd gIt 1 (vp_nar .boolean 1)))) := by rw [e42]; exact hu_s _ _ _
        refine lv_aload_n hx hb d_Mo_add_114 rfl (lv_at hl 2 rfl) ?_
        refine hm_get (ci := 9) (v := .ref aId) (C := R_Mo) (T := F_Mo) (N := 41) hx hb hts ig_Mo hown hK hH f_m rfl 12 (by decide) (hts _ mw_392) (fun _ h9 => h9) rfl d_Mo_add_115 ?_
        refine lv_iload hx hb d_Mo_add_118 (lv_at hl 0 rfl) ?_
        refine lv_iload hx hb d_Mo_add_120 (lv_at hl 5 rfl) ?_
        refine hj_zast hx hb hK hH hLo 1 f_aId rfl 1 (by decide) (by decide) (by decide) d_Mo_add_122 (fun H43 locs hH z44 hLo => ?_)
        have hz : s.heap.size ≤ H43.size := by rw [z44]; exact hz
        obtain ⟨h45, e46⟩ : ∃ z, z = hu h41 aId (.inl ((t 1), 700, .inl (upd gId 1 (vp_nar .boolean 1)))) := ⟨_, rfl⟩
        have hH : hm D vwCl G h45 H43 := by rw [e46]; exact hH
        have f_m : h45 mo = some (.inr (9, [.int 0, .int (nI n), .int 0, .ref aBy, .ref aSt, .ref aDe, .int 0, .int (-1), .int 0, .ref aPa, .int (1 + 1), .ref aIt, .ref aId, .ref aPr, .ref aNa, .ref aSi, .ref aSe, .ref aIw, .ref aEx, .ref aOl, .int 0, .ref aPl, .int 0, .int 0, .ref aTa, .ref aAt, .ref aLo, .int 0, .int 0, .ref aS1, .ref aS2, .ref aS3, .ref aS4, .ref aS5, .ref aS6, .int 0, .ref aO1, .ref aO2, .ref aO3, .ref aO4, .ref aO5])) := by rw [e46, hu_n (Ne.symm (h_neA f_aId f_m))]; exact f_m
        have f_aPr : h45 aPr = some (.inl ((t 2), 700, .inl gPr)) := by rw [e46, hu_n (Ne.symm ne_aId_aPr)]; exact f_aPr
        have f_aNa : h45 aNa = some (.inl ((t 3), 700, .inr (.inl gNa))) := by rw [e46, hu_n (h_neK (k1 := 1) (k2 := 0) f_aNa f_aId rfl rfl (by decide))]; exact f_aNa
        have f_aSi : h45 aSi = some (.inl ((t 2), 700, .inl gSi)) := by rw [e46, hu_n (Ne.symm ne_aId_aSi)]; exact f_aSi
        have f_aSe : h45 aSe = some (.inl ((t 2), 700, .inl gSe)) := by rw [e46, hu_n (Ne.symm ne_aId_aSe)]; exact f_aSe
        have f_aIw : h45 aIw = some (.inl ((t 1), 700, .inl gIw)) := by rw [e46, hu_n (Ne.symm ne_aId_aIw)]; exact f_aIw
        have f_aEx : h45 aEx = some (.inl ((t 2), 700, .inl gEx)) := by rw [e46, hu_n (Ne.symm ne_aId_aEx)]; exact f_aEx
        have f_aId : h45 aId = some (.inl ((t 1), 700, .inl (upd gId 1 (vp_nar .boolean 1)))) := by rw [e46]; exact hu_s _ _ _
        refine lv_aload_n hx hb d_Mo_add_123 rfl (lv_at hl 2 rfl) ?_
        refine hm_get (ci := 9) (v := .ref aPr) (C := R_Mo) (T := F_Mo) (N := 41) hx hb hts ig_Mo hown hK hH f_m rfl 13 (by decide) (hts _ mw_393) (fun _ h9 => h9) rfl d_Mo_add_124 ?_
        refine lv_iload hx hb d_Mo_add_127 (lv_at hl 0 rfl) ?_
        refine lv_iload_n hx hb d_Mo_add_129 rfl (lv_at hl 3 rfl) ?_
        refine hj_iast hx hb hK hH hLo 2 f_aPr rfl 1 (by decide) (by decide) (by decide) d_Mo_add_130 (fun H47 locs hH z48 hLo => ?_)
        have hz : s.heap.size ≤ H47.size := by rw [z48]; exact hz
        obtain ⟨h49, e50⟩ : ∃ z, z = hu h45 aPr (.inl ((t 2), 700, .inl (upd gPr 1 0))) := ⟨_, rfl⟩
        have hH : hm D vwCl G h49 H47 := by rw [e50]; exact hH
        have f_m : h49 mo = some (.inr (9, [.int 0, .int (nI n), .int 0, .ref aBy, .ref aSt, .ref aDe, .int 0, .int (-1), .int 0, .ref aPa, .int (1 + 1), .ref aIt, .ref aId, .ref aPr, .ref aNa, .ref aSi, .ref aSe, .ref aIw, .ref aEx, .ref aOl, .int 0, .ref aPl, .int 0, .int 0, .ref aTa, .ref aAt, .ref aLo, .int 0, .int 0, .ref aS1, .ref aS2, .ref aS3, .ref aS4, .ref aS5, .ref aS6, .int 0, .ref aO1, .ref aO2, .ref aO3, .ref aO4, .ref aO5])) := by rw [e50, hu_n (Ne.symm (h_neA f_aPr f_m))]; exact f_m
        have f_aNa : h49 aNa = some (.inl ((t 3), 700, .inr (.inl gNa))) := by rw [e50, hu_n (h_neK (k1 := 1) (k2 := 0) f_aNa f_aPr rfl rfl (by decide))]; exact f_aNa
        have f_aSi : h49 aSi = some (.inl ((t 2), 700, .inl gSi)) := by rw [e50, hu_n (Ne.symm ne_aPr_aSi)]; exact f_aSi
        have f_aSe : h49 aSe = some (.inl ((t 2), 700, .inl gSe)) := by rw [e50, hu_n (Ne.symm ne_aPr_aSe)]; exact f_aSe
        have f_aIw : h49 aIw = some (.inl ((t 1), 700, .inl gIw)) := by rw [e50, hu_n (Ne.symm ne_aPr_aIw)]; exact f_aIw
        have f_aEx : h49 aEx = some (.inl ((t 2), 700, .inl gEx)) := by rw [e50, hu_n (Ne.symm ne_aPr_aEx)]; exact f_aEx
        have f_aPr : h49 aPr = some (.inl ((t 2), 700, .inl (upd gPr 1 0))) := by rw [e50]; exact hu_s _ _ _
        refine lv_aload_n hx hb d_Mo_add_131 rfl (lv_at hl 2 rfl) ?_
        refine hm_get (ci := 9) (v := .ref aNa) (C := R_Mo) (T := F_Mo) (N := 41) hx hb hts ig_Mo hown hK hH f_m rfl 14 (by decide) (hts _ mw_394) (fun _ h9 => h9) rfl d_Mo_add_132 ?_
        refine lv_iload hx hb d_Mo_add_135 (lv_at hl 0 rfl) ?_
        refine lv_lload hx hb d_Mo_add_137 (lv_at hl 1 rfl) ?_
        refine hj_last hx hb hK hH hLo 3 f_aNa rfl 1 (by decide) (by decide) (by decide) d_Mo_add_139 (fun H51 locs hH z52 hLo => ?_)
        have hz : s.heap.size ≤ H51.size := by rw [z52]; exact hz
        obtain ⟨h53, e54⟩ : ∃ z, z = hu h49 aNa (.inl ((t 3), 700, .inr (.inl (vp_updL gNa 1 (tlV wo))))) := ⟨_, rfl⟩
        have hH : hm D vwCl G h53 H51 := by rw [e54]; exact hH
        have f_m : h53 mo = some (.inr (9, [.int 0, .int (nI n), .int 0, .ref aBy, .ref aSt, .ref aDe, .int 0, .int (-1), .int 0, .ref aPa, .int (1 + 1), .ref aIt, .ref aId, .ref aPr, .ref aNa, .ref aSi, .ref aSe, .ref aIw, .ref aEx, .ref aOl, .int 0, .ref aPl, .int 0, .int 0, .ref aTa, .ref aAt, .ref aLo, .int 0, .int 0, .ref aS1, .ref aS2, .ref aS3, .ref aS4, .ref aS5, .ref aS6, .int 0, .ref aO1, .ref aO2, .ref aO3, .ref aO4, .ref aO5])) := by rw [e54, hu_n (Ne.symm (h_neA f_aNa f_m))]; exact f_m
        have f_aSi : h53 aSi = some (.inl ((t 2), 700, .inl gSi)) := by rw [e54, hu_n (h_neK (k1 := 0) (k2 := 1) f_aSi f_aNa rfl rfl (by decide))]; exact f_aSi
        have f_aSe : h53 aSe = some (.inl ((t 2), 700, .inl gSe)) := by rw [e54, hu_n (h_neK (k1 := 0) (k2 := 1) f_aSe f_aNa rfl rfl (by decide))]; exact f_aSe
        have f_aIw : h53 aIw = some (.inl ((t 1), 700, .inl gIw)) := by rw [e54, hu_n (h_neK (k1 := 0) (k2 := 1) f_aIw f_aNa rfl rfl (by decide))]; exact f_aIw
        have f_aEx : h53 aEx = some (.inl ((t 2), 700, .inl gEx)) := by rw [e54, hu_n (h_neK (k1 := 0) (k2 := 1) f_aEx f_aNa rfl rfl (by decide))]; exact f_aEx
        have f_aNa : h53 aNa = some (.inl ((t 3), 700, .inr (.inl (vp_updL gNa 1 (tlV wo))))) := by rw [e54]; exact hu_s _ _ _
        refine lv_aload_n hx hb d_Mo_add_140 rfl (lv_at hl 2 rfl) ?_
        refine hm_get (ci := 9) (v := .ref aSi) (C := R_Mo) (T := F_Mo) (N := 41) hx hb hts ig_Mo hown hK hH f_m rfl 15 (by decide) (hts _ mw_395) (fun _ h9 => h9) rfl d_Mo_add_141 ?_
        refine lv_iload hx hb d_Mo_add_144 (lv_at hl 0 rfl) ?_
        refine lv_iload hx hb d_Mo_add_146 (lv_at hl 6 rfl) ?_
        refine hj_iast hx hb hK hH hLo 2 f_aSi rfl 1 (by decide) (by decide) (by decide) d_Mo_add_148 (fun H55 locs hH z56 hLo => ?_)
        have hz : s.heap.size ≤ H55.size := by rw [z56]; exact hz
        obtain ⟨h57, e58⟩ : ∃ z, z = hu h53 aSi (.inl ((t 2), 700, .inl (upd gSi 1 sz))) := ⟨_, rfl⟩
        have hH : hm D vwCl G h57 H55 := by rw [e58]; exact hH
        have f_m : h57 mo = some (.inr (9, [.int 0, .int (nI n), .int 0, .ref aBy, .ref aSt, .ref aDe, .int 0, .int (-1), .int 0, .ref aPa, .int (1 + 1), .ref aIt, .ref aId, .ref aPr, .ref aNa, .ref aSi, .ref aSe, .ref aIw, .ref aEx, .ref aOl, .int 0, .ref aPl, .int 0, .int 0, .ref aTa, .ref aAt, .ref aLo, .int 0, .int 0, .ref aS1, .ref aS2, .ref aS3, .ref aS4, .ref aS5, .ref aS6, .int 0, .ref aO1, .ref aO2, .ref aO3, .ref aO4, .ref aO5])) := by rw [e58, hu_n (Ne.symm (h_neA f_aSi f_m))]; exact f_m
        have f_aSe : h57 aSe = some (.inl ((t 2), 700, .inl gSe)) := by rw [e58, hu_n (Ne.symm ne_aSi_aSe)]; exact f_aSe
        have f_aIw : h57 aIw = some (.inl ((t 1), 700, .inl gIw)) := by rw [e58, hu_n (Ne.symm ne_aSi_aIw)]; exact f_aIw
        have f_aEx : h57 aEx = some (.inl ((t 2), 700, .inl gEx)) := by rw [e58, hu_n (Ne.symm ne_aSi_aEx)]; exact f_aEx
        have f_aSi : h57 aSi = some (.inl ((t 2), 700, .inl (upd gSi 1 sz))) := by rw [e58]; exact hu_s _ _ _
        refine lv_aload_n hx hb d_Mo_add_149 rfl (lv_at hl 2 rfl) ?_
        refine hm_get (ci := 9) (v := .ref aSe) (C := R_Mo) (T := F_Mo) (N := 41) hx hb hts ig_Mo hown hK hH f_m rfl 16 (by decide) (hts _ mw_396) (fun _ h9 => h9) rfl d_Mo_add_150 ?_
        refine lv_iload hx hb d_Mo_add_153 (lv_at hl 0 rfl) ?_
        refine lv_iload hx hb d_Mo_add_155 (lv_at hl 7 rfl) ?_
        refine hj_iast hx hb hK hH hLo 2 f_aSe rfl 1 (by decide) (by decide) (by decide) d_Mo_add_157 (fun H59 locs hH z60 hLo => ?_)
        have hz : s.heap.size ≤ H59.size := by rw [z60]; exact hz
        obtain ⟨h61, e62⟩ : ∃ z, z = hu h57 aSe (.inl ((t 2), 700, .inl (upd gSe 1 sd))) := ⟨_, rfl⟩
        have hH : hm D vwCl G h61 H59 := by rw [e62]; exact hH
        have f_m : h61 mo = some (.inr (9, [.int 0, .int (nI n), .int 0, .ref aBy, .ref aSt, .ref aDe, .int 0, .int (-1), .int 0, .ref aPa, .int (1 + 1), .ref aIt, .ref aId, .ref aPr, .ref aNa, .ref aSi, .ref aSe, .ref aIw, .ref aEx, .ref aOl, .int 0, .ref aPl, .int 0, .int 0, .ref aTa, .ref aAt, .ref aLo, .int 0, .int 0, .ref aS1, .ref aS2, .ref aS3, .ref aS4, .ref aS5, .ref aS6, .int 0, .ref aO1, .ref aO2, .ref aO3, .ref aO4, .ref aO5])) := by rw [e62, hu_n (Ne.symm (h_neA f_aSe f_m))]; exact f_m
        have f_aIw : h61 aIw = some (.inl ((t 1), 700, .inl gIw)) := by rw [e62, hu_n (Ne.symm ne_aSe_aIw)]; exact f_aIw
        have f_aEx : h61 aEx = some (.inl ((t 2), 700, .inl gEx)) := by rw [e62, hu_n (Ne.symm ne_aSe_aEx)]; exact f_aEx
        have f_aSe : h61 aSe = some (.inl ((t 2), 700, .inl (upd gSe 1 sd))) := by rw [e62]; exact hu_s _ _ _
        refine lv_aload_n hx hb d_Mo_add_158 rfl (lv_at hl 2 rfl) ?_
        refine hm_get (ci := 9) (v := .ref aIw) (C := R_Mo) (T := F_Mo) (N := 41) hx hb hts ig_Mo hown hK hH f_m rfl 17 (by decide) (hts _ mw_407) (fun _ h9 => h9) rfl d_Mo_add_159 ?_
        refine lv_iload hx hb d_Mo_add_162 (lv_at hl 0 rfl) ?_
        refine lv_iconst (v := 0) hx hb d_Mo_add_164 (by decide) ?_
        refine hj_zast hx hb hK hH hLo 1 f_aIw rfl 1 (by decide) (by decide) (by decide) d_Mo_add_165 (fun H63 locs hH z64 hLo => ?_)
        have hz : s.heap.size ≤ H63.size := by rw [z64]; exact hz
        obtain ⟨h65, e66⟩ : ∃ z, z = hu h61 aIw (.inl ((t 1), 700, .inl (upd gIw 1 (vp_nar .boolean 0)))) := ⟨_, rfl⟩
        have hH : hm D vwCl G h65 H63 := by rw [e66]; exact hH
        have f_m : h65 mo = some (.inr (9, [.int 0, .int (nI n), .int 0, .ref aBy, .ref aSt, .ref aDe, .int 0, .int (-1), .int 0, .ref aPa, .int (1 + 1), .ref aIt, .ref aId, .ref aPr, .ref aNa, .ref aSi, .ref aSe, .ref aIw, .ref aEx, .ref aOl, .int 0, .ref aPl, .int 0, .int 0, .ref aTa, .ref aAt, .ref aLo, .int 0, .int 0, .ref aS1, .ref aS2, .ref aS3, .ref aS4, .ref aS5, .ref aS6, .int 0, .ref aO1, .ref aO2, .ref aO3, .ref aO4, .ref aO5])) := by rw [e66, hu_n (Ne.symm (h_neA f_aIw f_m))]; exact f_m
        have f_aEx : h65 aEx = some (.inl ((t 2), 700, .inl gEx)) := by rw [e66, hu_n (Ne.symm ne_aIw_aEx)]; exact f_aEx
        have f_aIw : h65 aIw = some (.inl ((t 1), 700, .inl (upd gIw 1 (vp_nar .boolean 0)))) := by rw [e66]; exact hu_s _ _ _
        refine lv_aload_n hx hb d_Mo_add_166 rfl (lv_at hl 2 rfl) ?_
        refine hm_get (ci := 9) (v := .ref aEx) (C := R_Mo) (T := F_Mo) (N := 41) hx hb hts ig_Mo hown hK hH f_m rfl 18 (by decide) (hts _ mw_397) (fun _ h9 => h9) rfl d_Mo_add_167 ?_
        refine lv_iload hx hb d_Mo_add_170 (lv_at hl 0 rfl) ?_
        refine lv_iconst (v := 0) hx hb d_Mo_add_172 (by decide) ?_
        refine hj_iast hx hb hK hH hLo 2 f_aEx rfl 1 (by decide) (by decide) (by decide) d_Mo_add_173 (fun H67 locs hH z68 hLo => ?_)
        have hz : s.heap.size ≤ H67.size := by rw [z68]; exact hz
        obtain ⟨h69, e70⟩ : ∃ z, z = hu h65 aEx (.inl ((t 2), 700, .inl (upd gEx 1 0))) := ⟨_, rfl⟩
        have hH : hm D vwCl G h69 H67 := by rw [e70]; exact hH
        have f_m : h69 mo = some (.inr (9, [.int 0, .int (nI n), .int 0, .ref aBy, .ref aSt, .ref aDe, .int 0, .int (-1), .int 0, .ref aPa, .int (1 + 1), .ref aIt, .ref aId, .ref aPr, .ref aNa, .ref aSi, .ref aSe, .ref aIw, .ref aEx, .ref aOl, .int 0, .ref aPl, .int 0, .int 0, .ref aTa, .ref aAt, .ref aLo, .int 0, .int 0, .ref aS1, .ref aS2, .ref aS3, .ref aS4, .ref aS5, .ref aS6, .int 0, .ref aO1, .ref aO2, .ref aO3, .ref aO4, .ref aO5])) := by rw [e70, hu_n (Ne.symm (h_neA f_aEx f_m))]; exact f_m
        have f_aEx : h69 aEx = some (.inl ((t 2), 700, .inl (upd gEx 1 0))) := by rw [e70]; exact hu_s _ _ _
        refine lv_iload hx hb d_Mo_add_174 (lv_at hl 0 rfl) ?_
        exact W.iret (v := 1) hx hb hr (fun t9 ht hW => ⟨1, h69, rfl, Or.inr ⟨rfl, rfl, mt (lg_cmp_eq _ _).mpr hc15, hc7⟩, by rw [ht]; exact hH, by rw [ht]; exact hz⟩) hLo d_Mo_add_176
    · skip
      refine hm_calli (va_runV (As := [.int d9]) (b := mo) (rest := []) ⟨hx, hb, hml, hown, hts⟩ (c_m_isNode l D t G ak av h mo n aBy aSt aDe aPa aIt aId aPr aNa aSi aSe aIw aEx aOl aPl aTa aAt aLo aS1 aS2 aS3 aS4 aS5 aS6 aO1 aO2 aO3 aO4 aO5 gIt d9 f_m f_aIt zIt) ⟨cw9B 1 hts mw_444 mw_445 mw_428 rfl rfl (by decide +kernel) ⟨Nat.le_of_ble_eq_true rfl, Nat.le_of_ble_eq_true rfl⟩, hts _ mw_446, hts _ mw_447⟩ (hP_V (q := (R_Mo, F_Mo, 41)) kE_ok hE hK hH f_m rfl) rfl rfl hl.1 rfl (lv_room (Nat.le_of_ble_eq_true rfl)) d_Mo_add_23 ⟨Nat.le_of_ble_eq_true rfl, Nat.le_of_ble_eq_true rfl⟩) hLo (fun r71 h72 H73 locs hp75 hH z74 hLo => ?_)
      have hz : s.heap.size ≤ H73.size := Nat.le_trans hz z74
      obtain ⟨hr9, rfl⟩ := hp75
      rw [if_neg hin] at hr9
      subst hr9
      refine lv_if_eq (tgt := 62) hx hb d_Mo_add_26 (by decide) (fun hc76 => ?_) (fun hc76 => absurd rfl hc76)
      refine lv_bipush (v := -2) hx hb d_Mo_add_62 (by decide) ?_
      exact W.iret (v := (-2)) hx hb hr (fun t9 ht hW => ⟨(-2), h, rfl, Or.inl ⟨rfl, fun q => hin q.1⟩, by rw [ht]; exact hH, by rw [ht]; exact hz⟩) hLo d_Mo_add_64

set_option maxHeartbeats 4000000 in
set_option maxRecDepth 100000 in
theorem c_m_add0 (l : Launch) (D : va_G) (t : Nat → ClassId) (G : hG) (ak av : Nat → Nat) (h : hM) (mo n aBy aSt aDe aPa aIt aId aPr aNa aSi aSe aIw aEx aOl aPl aTa aAt aLo aS1 aS2 aS3 aS4 aS5 aS6 aO1 aO2 aO3 aO4 aO5 : Nat) (gIt gId gPr gSi gSe gIw gEx : Nat → Int32) (gNa : Nat → Int64) (d9 sz sd ri : Int32) (wo : Int64) (f_m : h mo = some (.inr (9, [.int 0, .int (nI n), .int 0, .ref aBy, .ref aSt, .ref aDe, .int 0, .int (-1), .int 0, .ref aPa, .int 1, .ref aIt, .ref aId, .ref aPr, .ref aNa, .ref aSi, .ref aSe, .ref aIw, .ref aEx, .ref aOl, .int 0, .ref aPl, .int 0, .int 0, .ref aTa, .ref aAt, .ref aLo, .int 0, .int 0, .ref aS1, .ref aS2, .ref aS3, .ref aS4, .ref aS5, .ref aS6, .int 0, .ref aO1, .ref aO2, .ref aO3, .ref aO4, .ref aO5]))) (f_aIt : h aIt = some (.inl ((t 1), 700, .inl gIt))) (f_aId : h aId = some (.inl ((t 1), 700, .inl gId))) (f_aPr : h aPr = some (.inl ((t 2), 700, .inl gPr))) (f_aNa : h aNa = some (.inl ((t 3), 700, .inr (.inl gNa)))) (f_aSi : h aSi = some (.inl ((t 2), 700, .inl gSi))) (f_aSe : h aSe = some (.inl ((t 2), 700, .inl gSe))) (f_aIw : h aIw = some (.inl ((t 1), 700, .inl gIw))) (f_aEx : h aEx = some (.inl ((t 2), 700, .inl gEx))) (zIt : gIt 0 = 1) (zId : gId 0 = 1) (ne_aIt_aId : aIt ≠ aId) (ne_aIt_aPr : aIt ≠ aPr) (ne_aIt_aSi : aIt ≠ aSi) (ne_aIt_aSe : aIt ≠ aSe) (ne_aIt_aEx : aIt ≠ aEx) (ne_aId_aPr : aId ≠ aPr) (ne_aId_aSi : aId ≠ aSi) (ne_aId_aSe : aId ≠ aSe) (ne_aId_aEx : aId ≠ aEx) (ne_aPr_aSi : aPr ≠ aSi) (ne_aPr_aSe : aPr ≠ aSe) (ne_aPr_aEx : aPr ≠ aEx) (ne_aSi_aSe : aSi ≠ aSe) (ne_aSi_aEx : aSi ≠ aEx) (ne_aSe_aEx : aSe ≠ aEx) (ne_aIt_aIw : aIt ≠ aIw) (ne_aId_aIw : aId ≠ aIw) (ne_aPr_aIw : aPr ≠ aIw) (ne_aSi_aIw : aSi ≠ aIw) (ne_aSe_aIw : aSe ≠ aIw) (ne_aIw_aEx : aIw ≠ aEx) : Met l y_Mo_add (.code y_Mo_add b_Mo_add 11 (some .int) :: lw_g) { frames := 2, cells := 0, slots := 0, locals := 45 } (hP (kE D t G ak av) D vwCl G h [.ref mo, .int d9, .long wo, .int 0, .int sz, .int sd, .int ri]) (hQi D vwCl G (fun r h' => (r = -2 ∧ ¬ (d9 = 0 ∧ tlV wo ≠ 0 ∧ ri ≠ 0)) ∨ (r = 1 ∧ d9 = 0 ∧ tlV wo ≠ 0 ∧ ri ≠ 0))) 0 0 G.P := by
  refine Met.ofW (cc := b_Mo_add) (maxL := 11) (ret := (some .int)) (by decide) rfl ?_
  intro p e s m args below meth c s₁ Bd hml hv
  obtain ⟨ha, hE, hH⟩ := hv
  have hx := Bd.exec
  have hb := Bd.bytes
  have hr := Bd.returns
  have hts : ∀ w ∈ lw_g, w.before args s = true := fun w hw => atoms_spec (ws := (.code y_Mo_add b_Mo_add 11 (some .int) :: lw_g)) Bd.pre w (List.mem_cons_of_mem _ hw)
  have hown : s.vm.findClass R_Mo = some m.cls := findClass_of_methodNamed Bd.named
  have hlocks := Bd.notSynchronized
  have hK := hE.1
  have hH0 := hH
  have hLo : hLc G.P [] := hLc_nil
  have hz : s.heap.size ≤ s.heap.size := Nat.le_refl _
  have hkp : kp [] h h := kp_rf
  have hl := lv_entry [.ref mo, .int d9, .long wo, .int 0, .int sz, .int sd, .int ri] (n := 11) (Nat.le_of_ble_eq_true rfl)
  rw [show entryFrame m args 11 = F0 m 0 ((lg_sl [.ref mo, .int d9, .long wo, .int 0, .int sz, .int sd, .int ri] ++ List.replicate (11 - (lg_sl [.ref mo, .int d9, .long wo, .int 0, .int sz, .int sd, .int ri]).length) Slot.unset).toArray) [] from (by rw [ha]; exact lg_entry_eq m [.ref mo, .int d9, .long wo, .int 0, .int sz, .int sd, .int ri] 11)]
  generalize (lg_sl [.ref mo, .int d9, .long wo, .int 0, .int sz, .int sd, .int ri] ++ List.replicate (11 - (lg_sl [.ref mo, .int d9, .long wo, .int 0, .int sz, .int sd, .int ri]).length) Slot.unset).toArray = ls at hl ⊢
  have hl : lv_has ls 11 [(0, .ref mo), (1, .int d9), (2, .long wo), (4, .int 0), (5, .int sz), (6, .int sd), (7, .int ri)] := hl
  refine lv_aload_n hx hb d_Mo_add_0 rfl (lv_at hl 0 rfl) ?_
  refine hm_get (ci := 9) (v := .int 0) (C := R_Mo) (T := F_Mo) (N := 41) hx hb hts ig_Mo hown hK hH f_m rfl 6 (by decide) (hts _ mw_440) (fun _ h9 => h9) rfl d_Mo_add_1 ?_
  refine lv_if_eq (tgt := 10) hx hb d_Mo_add_4 (by decide) (fun hc1 => ?_) (fun hc1 => absurd rfl hc1)
  refine lv_lload_n hx hb d_Mo_add_10 rfl (lv_at hl 2 rfl) ?_
  refine hm_calll (va_runS (As := [.long wo]) (rest := []) ⟨hx, hb, hml, hown, hts⟩ (c_m_told l D t G ak av h wo) ⟨cw9B 1 hts mw_441 mw_442 mw_428 rfl rfl (by decide +kernel) ⟨Nat.le_of_ble_eq_true rfl, Nat.le_of_ble_eq_true rfl⟩, hts _ mw_443⟩ (hP_S kE_ok hE hH) rfl rfl hl.1 rfl (lv_room (Nat.le_of_ble_eq_true rfl)) d_Mo_add_11 ⟨Nat.le_of_ble_eq_true rfl, Nat.le_of_ble_eq_true rfl⟩) hLo (fun r2 h3 H4 locs hp6 hH z5 hLo => ?_)
  have hz : s.heap.size ≤ H4.size := Nat.le_trans hz z5
  obtain ⟨rfl, rfl⟩ := hp6
  refine lv_lstore (lv' := [(8, .long (tlV wo)), (0, .ref mo), (1, .int d9), (2, .long wo), (4, .int 0), (5, .int sz), (6, .int sd), (7, .int ri)]) hx hb d_Mo_add_14 hl (by decide) rfl (fun ls hl => ?_)
  refine lv_iload hx hb d_Mo_add_16 (lv_at hl 7 rfl) ?_
  refine lv_if_eq (tgt := 62) hx hb d_Mo_add_18 (by decide) (fun hc7 => ?_) (fun hc7 => ?_)
  · skip
    refine lv_bipush (v := -2) hx hb d_Mo_add_62 (by decide) ?_
    exact W.iret (v := (-2)) hx hb hr (fun t9 ht hW => ⟨(-2), h, rfl, Or.inl ⟨rfl, fun q => q.2.2 hc7⟩, by rw [ht]; exact hH, by rw [ht]; exact hz⟩) hLo d_Mo_add_64
  · skip
    refine lv_aload_n hx hb d_Mo_add_21 rfl (lv_at hl 1 rfl) ?_
    refine lv_iload_n hx hb d_Mo_add_22 rfl (lv_at hl 2 rfl) ?_
    by_cases hin : d9 = 0
    · skip
      refine hm_calli (va_runV (As := [.int d9]) (b := mo) (rest := []) ⟨hx, hb, hml, hown, hts⟩ (c_m_isNode l D t G ak av h mo n aBy aSt aDe aPa aIt aId aPr aNa aSi aSe aIw aEx aOl aPl aTa aAt aLo aS1 aS2 aS3 aS4 aS5 aS6 aO1 aO2 aO3 aO4 aO5 gIt d9 f_m f_aIt zIt) ⟨cw9B 1 hts mw_444 mw_445 mw_428 rfl rfl (by decide +kernel) ⟨Nat.le_of_ble_eq_true rfl, Nat.le_of_ble_eq_true rfl⟩, hts _ mw_446, hts _ mw_447⟩ (hP_V (q := (R_Mo, F_Mo, 41)) kE_ok hE hK hH f_m rfl) rfl rfl hl.1 rfl (lv_room (Nat.le_of_ble_eq_true rfl)) d_Mo_add_23 ⟨Nat.le_of_ble_eq_true rfl, Nat.le_of_ble_eq_true rfl⟩) hLo (fun r8 h9 H10 locs hp12 hH z11 hLo => ?_)
      have hz : s.heap.size ≤ H10.size := Nat.le_trans hz z11
      obtain ⟨hr9, rfl⟩ := hp12
      rw [if_pos hin] at hr9
      subst hr9
      have hink := hin
      subst hin
      refine lv_if_eq (tgt := 62) hx hb d_Mo_add_26 (by decide) (fun hc13 => absurd hc13 (by decide)) (fun hc13 => ?_)
      refine lv_aload_n hx hb d_Mo_add_29 rfl (lv_at hl 1 rfl) ?_
      refine hm_get (ci := 9) (v := .ref aId) (C := R_Mo) (T := F_Mo) (N := 41) hx hb hts ig_Mo hown hK hH f_m rfl 12 (by decide) (hts _ mw_392) (fun _ h9 => h9) rfl d_Mo_add_30 ?_
      refine lv_iload_n hx hb d_Mo_add_33 rfl (lv_at hl 2 rfl) ?_
      refine hj_zald hx hb hK hH 1 f_aId rfl 0 (by decide) (by decide) (by decide) d_Mo_add_34 ?_
      refine lv_if_eq (tgt := 62) hx hb d_Mo_add_35 (by decide) (fun hc14 => absurd hc14 (by rw [zId]; decide)) (fun hc14 => ?_)
      refine lv_lload hx hb d_Mo_add_38 (lv_at hl 0 rfl) ?_
      refine lv_lconst (v := 0) hx hb d_Mo_add_40 (by decide) ?_
      refine W.lcmp hx hb d_Mo_add_41 ?_
      refine lv_if_eq (tgt := 62) hx hb d_Mo_add_42 (by decide) (fun hc15 => ?_) (fun hc15 => ?_)
      · skip
        refine lv_bipush (v := -2) hx hb d_Mo_add_62 (by decide) ?_
        exact W.iret (v := (-2)) hx hb hr (fun t9 ht hW => ⟨(-2), h, rfl, Or.inl ⟨rfl, fun q => q.2.1 ((lg_cmp_eq _ _).mp hc15)⟩, by rw [ht]; exact hH, by rw [ht]; exact hz⟩) hLo d_Mo_add_64
      · skip
        refine lv_iload hx hb d_Mo_add_45 (lv_at hl 4 rfl) ?_
        refine lv_if_eq (tgt := 65) hx hb d_Mo_add_47 (by decide) (fun hc16 => ?_) (fun hc16 => absurd rfl hc16)
        refine lv_aload_n hx hb d_Mo_add_65 rfl (lv_at hl 1 rfl) ?_
        refine lv_iload_n hx hb d_Mo_add_66 rfl (lv_at hl 2 rfl) ?_
        refine lv_lload hx hb d_Mo_add_67 (lv_at hl 0 rfl) ?_
        refine hm_calli (va_runV (As := [.int 0, .long (tlV wo)]) (b := mo) (rest := []) ⟨hx, hb, hml, hown, hts⟩ (c_m_namedIn l D t G ak av h mo n aBy aSt aDe aPa aIt aId aPr aNa aSi aSe aIw aEx aOl aPl aTa aAt aLo aS1 aS2 aS3 aS4 aS5 aS6 aO1 aO2 aO3 aO4 aO5 0 (tlV wo) f_m) ⟨cw9B 2 hts mw_452 mw_453 mw_428 rfl rfl (by decide +kernel) ⟨Nat.le_of_ble_eq_true rfl, Nat.le_of_ble_eq_true rfl⟩, hts _ mw_454, hts _ mw_455⟩ (hP_V (q := (R_Mo, F_Mo, 41)) kE_ok hE hK hH f_m rfl) rfl rfl hl.1 rfl (lv_room (Nat.le_of_ble_eq_true rfl)) d_Mo_add_69 ⟨Nat.le_of_ble_eq_true rfl, Nat.le_of_ble_eq_true rfl⟩) hLo (fun r17 h18 H19 locs hp21 hH z20 hLo => ?_)
        have hz : s.heap.size ≤ H19.size := Nat.le_trans hz z20
        obtain ⟨rfl, rfl⟩ := hp21
        refine lv_if_lt (tgt := 78) hx hb d_Mo_add_72 (by decide) (fun hc22 => ?_) (fun hc22 => absurd (by decide) hc22)
        refine lv_aload_n hx hb d_Mo_add_78 rfl (lv_at hl 1 rfl) ?_
        refine hm_calli (va_runV (As := []) (b := mo) (rest := []) ⟨hx, hb, hml, hown, hts⟩ (c_m_alive l D t G ak av h mo n aBy aSt aDe aPa aIt aId aPr aNa aSi aSe aIw aEx aOl aPl aTa aAt aLo aS1 aS2 aS3 aS4 aS5 aS6 aO1 aO2 aO3 aO4 aO5 gIt f_m f_aIt zIt) ⟨cw9B 0 hts mw_456 mw_457 mw_428 rfl rfl (by decide +kernel) ⟨Nat.le_of_ble_eq_true rfl, Nat.le_of_ble_eq_true rfl⟩, hts _ mw_458, hts _ mw_459⟩ (hP_V (q := (R_Mo, F_Mo, 41)) kE_ok hE hK hH f_m rfl) rfl rfl hl.1 rfl (lv_room (Nat.le_of_ble_eq_true rfl)) d_Mo_add_79 ⟨Nat.le_of_ble_eq_true rfl, Nat.le_of_ble_eq_true rfl⟩) hLo (fun r23 h24 H25 locs hp27 hH z26 hLo => ?_)
        have hz : s.heap.size ≤ H25.size := Nat.le_trans hz z26
        obtain ⟨rfl, rfl⟩ := hp27
        refine lv_bipush (v := 30) hx hb d_Mo_add_82 (by decide) ?_
        refine lv_icmp_ne (tgt := 90) hx hb d_Mo_add_84 (by decide) (fun hc28 => ?_) (fun hc28 => absurd hc28 (by decide))
        refine lv_aload_n hx hb d_Mo_add_90 rfl (lv_at hl 1 rfl) ?_
        refine hm_get (ci := 9) (v := .int 1) (C := R_Mo) (T := F_Mo) (N := 41) hx hb hts ig_Mo hown hK hH f_m rfl 10 (by decide) (hts _ mw_390) (fun _ h9 => h9) rfl d_Mo_add_91 ?_
        refine lv_istore (lv' := [(10, .int 1), (8, .long (tlV wo)), (0, .ref mo), (1, .int 0), (2, .long wo), (4, .int 0), (5, .int sz), (6, .int sd), (7, .int ri)]) hx hb d_Mo_add_94 hl (by decide) rfl (fun ls hl => ?_)
        refine lv_aload_n hx hb d_Mo_add_96 rfl (lv_at hl 2 rfl) ?_
        refine lv_dup hx hb d_Mo_add_97 rfl ?_
        refine hm_get (ci := 9) (v := .int 1) (C := R_Mo) (T := F_Mo) (N := 41) hx hb hts ig_Mo hown hK hH f_m rfl 10 (by decide) (hts _ mw_390) (fun _ h9 => h9) rfl d_Mo_add_98 ?_
        refine lv_iconst (v := 1) hx hb d_Mo_add_101 (by decide) ?_
        refine lv_iadd hx hb d_Mo_add_102 ?_
        refine hm_put (ci := 9) (v := .int (1 + 1)) (ty := .int) (C := R_Mo) (T := F_Mo) (N := 41) hx hb hts ig_Mo t_Mo tk_Mo nm_Mo hown hK hH hLo f_m rfl 10 (by decide) (hts _ mw_390) (fun _ h9 => h9) rfl (by decide +kernel) rfl rfl (Nat.le_of_ble_eq_true rfl) d_Mo_add_103 (fun H29 locs hH z30 hLo => ?_)
        have hz : s.heap.size ≤ H29.size := by rw [z30]; exact hz
        obtain ⟨h31, e32⟩ : ∃ z, z = hu h mo (.inr (9, [.int 0, .int (nI n), .int 0, .ref aBy, .ref aSt, .ref aDe, .int 0, .int (-1), .int 0, .ref aPa, .int (1 + 1), .ref aIt, .ref aId, .ref aPr, .ref aNa, .ref aSi, .ref aSe, .ref aIw, .ref aEx, .ref aOl, .int 0, .ref aPl, .int 0, .int 0, .ref aTa, .ref aAt, .ref aLo, .int 0, .int 0, .ref aS1, .ref aS2, .ref aS3, .ref aS4, .ref aS5, .ref aS6, .int 0, .ref aO1, .ref aO2, .ref aO3, .ref aO4, .ref aO5])) := ⟨_, rfl⟩
        have hH : hm D vwCl G h31 H29 := by rw [e32]; exact hH
        have f_aIt : h31 aIt = some (.inl ((t 1), 700, .inl gIt)) := by rw [e32, hu_n (h_neA f_aIt f_m)]; exact f_aIt
        have f_aId : h31 aId = some (.inl ((t 1), 700, .inl gId)) := by rw [e32, hu_n (h_neA f_aId f_m)]; exact f_aId
        have f_aPr : h31 aPr = some (.inl ((t 2), 700, .inl gPr)) := by rw [e32, hu_n (h_neA f_aPr f_m)]; exact f_aPr
        have f_aNa : h31 aNa = some (.inl ((t 3), 700, .inr (.inl gNa))) := by rw [e32, hu_n (h_neA f_aNa f_m)]; exact f_aNa
        have f_aSi : h31 aSi = some (.inl ((t 2), 700, .inl gSi)) := by rw [e32, hu_n (h_neA f_aSi f_m)]; exact f_aSi
        have f_aSe : h31 aSe = some (.inl ((t 2), 700, .inl gSe)) := by rw [e32, hu_n (h_neA f_aSe f_m)]; exact f_aSe
        have f_aIw : h31 aIw = some (.inl ((t 1), 700, .inl gIw)) := by rw [e32, hu_n (h_neA f_aIw f_m)]; exact f_aIw
        have f_aEx : h31 aEx = some (.inl ((t 2), 700, .inl gEx)) := by rw [e32, hu_n (h_neA f_aEx f_m)]; exact f_aEx
        have f_m : h31 mo = some (.inr (9, [.int 0, .int (nI n), .int 0, .ref aBy, .ref aSt, .ref aDe, .int 0, .int (-1), .int 0, .ref aPa, .int (1 + 1), .ref aIt, .ref aId, .ref aPr, .ref aNa, .ref aSi, .ref aSe, .ref aIw, .ref aEx, .ref aOl, .int 0, .ref aPl, .int 0, .int 0, .ref aTa, .ref aAt, .ref aLo, .int 0, .int 0, .ref aS1, .ref aS2, .ref aS3, .ref aS4, .ref aS5, .ref aS6, .int 0, .ref aO1, .ref aO2, .ref aO3, .ref aO4, .ref aO5])) := by rw [e32]; exact hu_s _ _ _
        refine lv_aload_n hx hb d_Mo_add_106 rfl (lv_at hl 2 rfl) ?_
        refine hm_get (ci := 9) (v := .ref aIt) (C := R_Mo) (T := F_Mo) (N := 41) hx hb hts ig_Mo hown hK hH f_m rfl 11 (by decide) (hts _ mw_391) (fun _ h9 => h9) rfl d_Mo_add_107 ?_
        refine lv_iload hx hb d_Mo_add_110 (lv_at hl 0 rfl) ?_
        refine lv_iconst (v := 1) hx hb d_Mo_add_112 (by decide) ?_
        refine hj_zast hx hb hK hH hLo 1 f_aIt rfl 1 (by decide) (by decide) (by decide) d_Mo_add_113 (fun H33 locs hH z34 hLo => ?_)
        have hz : s.heap.size ≤ H33.size := by rw [z34]; exact hz
        obtain ⟨h35, e36⟩ : ∃ z, z = hu h31 aIt (.inl ((t 1), 700, .inl (upd gIt 1 (vp_nar .boolean 1)))) := ⟨_, rfl⟩
        have hH : hm D vwCl G h35 H33 := by rw [e36]; exact hH
        have f_m : h35 mo = some (.inr (9, [.int 0, .int (nI n), .int 0, .ref aBy, .ref aSt, .ref aDe, .int 0, .int (-1), .int 0, .ref aPa, .int (1 + 1), .ref aIt, .ref aId, .ref aPr, .ref aNa, .ref aSi, .ref aSe, .ref aIw, .ref aEx, .ref aOl, .int 0, .ref aPl, .int 0, .int 0, .ref aTa, .ref aAt, .ref aLo, .int 0, .int 0, .ref aS1, .ref aS2, .ref aS3, .ref aS4, .ref aS5, .ref aS6, .int 0, .ref aO1, .ref aO2, .ref aO3, .ref aO4, .ref aO5])) := by rw [e36, hu_n (Ne.symm (h_neA f_aIt f_m))]; exact f_m
        have f_aId : h35 aId = some (.inl ((t 1), 700, .inl gId)) := by rw [e36, hu_n (Ne.symm ne_aIt_aId)]; exact f_aId
        have f_aPr : h35 aPr = some (.inl ((t 2), 700, .inl gPr)) := by rw [e36, hu_n (Ne.symm ne_aIt_aPr)]; exact f_aPr
        have f_aNa : h35 aNa = some (.inl ((t 3), 700, .inr (.inl gNa))) := by rw [e36, hu_n (h_neK (k1 := 1) (k2 := 0) f_aNa f_aIt rfl rfl (by decide))]; exact f_aNa
        have f_aSi : h35 aSi = some (.inl ((t 2), 700, .inl gSi)) := by rw [e36, hu_n (Ne.symm ne_aIt_aSi)]; exact f_aSi
        have f_aSe : h35 aSe = some (.inl ((t 2), 700, .inl gSe)) := by rw [e36, hu_n (Ne.symm ne_aIt_aSe)]; exact f_aSe
        have f_aIw : h35 aIw = some (.inl ((t 1), 700, .inl gIw)) := by rw [e36, hu_n (Ne.symm ne_aIt_aIw)]; exact f_aIw
        have f_aEx : h35 aEx = some (.inl ((t 2), 700, .inl gEx)) := by rw [e36, hu_n (Ne.symm ne_aIt_aEx)]; exact f_aEx
        have f_aIt : h35 aIt = some (.inl ((t 1), 700, .inl (upd gIt 1 (vp_nar .boolean 1)))) := by rw [e36]; exact hu_s _ _ _
        refine lv_aload_n hx hb d_Mo_add_114 rfl (lv_at hl 2 rfl) ?_
        refine hm_get (ci := 9) (v := .ref aId) (C := R_Mo) (T := F_Mo) (N := 41) hx hb hts ig_Mo hown hK hH f_m rfl 12 (by decide) (hts _ mw_392) (fun _ h9 => h9) rfl d_Mo_add_115 ?_
        refine lv_iload hx hb d_Mo_add_118 (lv_at hl 0 rfl) ?_
        refine lv_iload hx hb d_Mo_add_120 (lv_at hl 5 rfl) ?_
        refine hj_zast hx hb hK hH hLo 1 f_aId rfl 1 (by decide) (by decide) (by decide) d_Mo_add_122 (fun H37 locs hH z38 hLo => ?_)
        have hz : s.heap.size ≤ H37.size := by rw [z38]; exact hz
        obtain ⟨h39, e40⟩ : ∃ z, z = hu h35 aId (.inl ((t 1), 700, .inl (upd gId 1 (vp_nar .boolean 0)))) := ⟨_, rfl⟩
        have hH : hm D vwCl G h39 H37 := by rw [e40]; exact hH
        have f_m : h39 mo = some (.inr (9, [.int 0, .int (nI n), .int 0, .ref aBy, .ref aSt, .ref aDe, .int 0, .int (-1), .int 0, .ref aPa, .int (1 + 1), .ref aIt, .ref aId, .ref aPr, .ref aNa, .ref aSi, .ref aSe, .ref aIw, .ref aEx, .ref aOl, .int 0, .ref aPl, .int 0, .int 0, .ref aTa, .ref aAt, .ref aLo, .int 0, .int 0, .ref aS1, .ref aS2, .ref aS3, .ref aS4, .ref aS5, .ref aS6, .int 0, .ref aO1, .ref aO2, .ref aO3, .ref aO4, .ref aO5])) := by rw [e40, hu_n (Ne.symm (h_neA f_aId f_m))]; exact f_m
        have f_aPr : h39 aPr = some (.inl ((t 2), 700, .inl gPr)) := by rw [e40, hu_n (Ne.symm ne_aId_aPr)]; exact f_aPr
        have f_aNa : h39 aNa = some (.inl ((t 3), 700, .inr (.inl gNa))) := by rw [e40, hu_n (h_neK (k1 := 1) (k2 := 0) f_aNa f_aId rfl rfl (by decide))]; exact f_aNa
        have f_aSi : h39 aSi = some (.inl ((t 2), 700, .inl gSi)) := by rw [e40, hu_n (Ne.symm ne_aId_aSi)]; exact f_aSi
        have f_aSe : h39 aSe = some (.inl ((t 2), 700, .inl gSe)) := by rw [e40, hu_n (Ne.symm ne_aId_aSe)]; exact f_aSe
        have f_aIw : h39 aIw = some (.inl ((t 1), 700, .inl gIw)) := by rw [e40, hu_n (Ne.symm ne_aId_aIw)]; exact f_aIw
        have f_aEx : h39 aEx = some (.inl ((t 2), 700, .inl gEx)) := by rw [e40, hu_n (Ne.symm ne_aId_aEx)]; exact f_aEx
        have f_aId : h39 aId = some (.inl ((t 1), 700, .inl (upd gId 1 (vp_nar .boolean 0)))) := by rw [e40]; exact hu_s _ _ _
        refine lv_aload_n hx hb d_Mo_add_123 rfl (lv_at hl 2 rfl) ?_
        refine hm_get (ci := 9) (v := .ref aPr) (C := R_Mo) (T := F_Mo) (N := 41) hx hb hts ig_Mo hown hK hH f_m rfl 13 (by decide) (hts _ mw_393) (fun _ h9 => h9) rfl d_Mo_add_124 ?_
        refine lv_iload hx hb d_Mo_add_127 (lv_at hl 0 rfl) ?_
        refine lv_iload_n hx hb d_Mo_add_129 rfl (lv_at hl 3 rfl) ?_
        refine hj_iast hx hb hK hH hLo 2 f_aPr rfl 1 (by decide) (by decide) (by decide) d_Mo_add_130 (fun H41 locs hH z42 hLo => ?_)
        have hz : s.heap.size ≤ H41.size := by rw [z42]; exact hz
        obtain ⟨h43, e44⟩ : ∃ z, z = hu h39 aPr (.inl ((t 2), 700, .inl (upd gPr 1 0))) := ⟨_, rfl⟩
        have hH : hm D vwCl G h43 H41 := by rw [e44]; exact hH
        have f_m : h43 mo = some (.inr (9, [.int 0, .int (nI n), .int 0, .ref aBy, .ref aSt, .ref aDe, .int 0, .int (-1), .int 0, .ref aPa, .int (1 + 1), .ref aIt, .ref aId, .ref aPr, .ref aNa, .ref aSi, .ref aSe, .ref aIw, .ref aEx, .ref aOl, .int 0, .ref aPl, .int 0, .int 0, .ref aTa, .ref aAt, .ref aLo, .int 0, .int 0, .ref aS1, .ref aS2, .ref aS3, .ref aS4, .ref aS5, .ref aS6, .int 0, .ref aO1, .ref aO2, .ref aO3, .ref aO4, .ref aO5])) := by rw [e44, hu_n (Ne.symm (h_neA f_aPr f_m))]; exact f_m
        have f_aNa : h43 aNa = some (.inl ((t 3), 700, .inr (.inl gNa))) := by rw [e44, hu_n (h_neK (k1 := 1) (k2 := 0) f_aNa f_aPr rfl rfl (by decide))]; exact f_aNa
        have f_aSi : h43 aSi = some (.inl ((t 2), 700, .inl gSi)) := by rw [e44, hu_n (Ne.symm ne_aPr_aSi)]; exact f_aSi
        have f_aSe : h43 aSe = some (.inl ((t 2), 700, .inl gSe)) := by rw [e44, hu_n (Ne.symm ne_aPr_aSe)]; exact f_aSe
        have f_aIw : h43 aIw = some (.inl ((t 1), 700, .inl gIw)) := by rw [e44, hu_n (Ne.symm ne_aPr_aIw)]; exact f_aIw
        have f_aEx : h43 aEx = some (.inl ((t 2), 700, .inl gEx)) := by rw [e44, hu_n (Ne.symm ne_aPr_aEx)]; exact f_aEx
        have f_aPr : h43 aPr = some (.inl ((t 2), 700, .inl (upd gPr 1 0))) := by rw [e44]; exact hu_s _ _ _
        refine lv_aload_n hx hb d_Mo_add_131 rfl (lv_at hl 2 rfl) ?_
        refine hm_get (ci := 9) (v := .ref aNa) (C := R_Mo) (T := F_Mo) (N := 41) hx hb hts ig_Mo hown hK hH f_m rfl 14 (by decide) (hts _ mw_394) (fun _ h9 => h9) rfl d_Mo_add_132 ?_
        refine lv_iload hx hb d_Mo_add_135 (lv_at hl 0 rfl) ?_
        refine lv_lload hx hb d_Mo_add_137 (lv_at hl 1 rfl) ?_
        refine hj_last hx hb hK hH hLo 3 f_aNa rfl 1 (by decide) (by decide) (by decide) d_Mo_add_139 (fun H45 locs hH z46 hLo => ?_)
        have hz : s.heap.size ≤ H45.size := by rw [z46]; exact hz
        obtain ⟨h47, e48⟩ : ∃ z, z = hu h43 aNa (.inl ((t 3), 700, .inr (.inl (vp_updL gNa 1 (tlV wo))))) := ⟨_, rfl⟩
        have hH : hm D vwCl G h47 H45 := by rw [e48]; exact hH
        have f_m : h47 mo = some (.inr (9, [.int 0, .int (nI n), .int 0, .ref aBy, .ref aSt, .ref aDe, .int 0, .int (-1), .int 0, .ref aPa, .int (1 + 1), .ref aIt, .ref aId, .ref aPr, .ref aNa, .ref aSi, .ref aSe, .ref aIw, .ref aEx, .ref aOl, .int 0, .ref aPl, .int 0, .int 0, .ref aTa, .ref aAt, .ref aLo, .int 0, .int 0, .ref aS1, .ref aS2, .ref aS3, .ref aS4, .ref aS5, .ref aS6, .int 0, .ref aO1, .ref aO2, .ref aO3, .ref aO4, .ref aO5])) := by rw [e48, hu_n (Ne.symm (h_neA f_aNa f_m))]; exact f_m
        have f_aSi : h47 aSi = some (.inl ((t 2), 700, .inl gSi)) := by rw [e48, hu_n (h_neK (k1 := 0) (k2 := 1) f_aSi f_aNa rfl rfl (by decide))]; exact f_aSi
        have f_aSe : h47 aSe = some (.inl ((t 2), 700, .inl gSe)) := by rw [e48, hu_n (h_neK (k1 := 0) (k2 := 1) f_aSe f_aNa rfl rfl (by decide))]; exact f_aSe
        have f_aIw : h47 aIw = some (.inl ((t 1), 700, .inl gIw)) := by rw [e48, hu_n (h_neK (k1 := 0) (k2 := 1) f_aIw f_aNa rfl rfl (by decide))]; exact f_aIw
        have f_aEx : h47 aEx = some (.inl ((t 2), 700, .inl gEx)) := by rw [e48, hu_n (h_neK (k1 := 0) (k2 := 1) f_aEx f_aNa rfl rfl (by decide))]; exact f_aEx
        have f_aNa : h47 aNa = some (.inl ((t 3), 700, .inr (.inl (vp_updL gNa 1 (tlV wo))))) := by rw [e48]; exact hu_s _ _ _
        refine lv_aload_n hx hb d_Mo_add_140 rfl (lv_at hl 2 rfl) ?_
        refine hm_get (ci := 9) (v := .ref aSi) (C := R_Mo) (T := F_Mo) (N := 41) hx hb hts ig_Mo hown hK hH f_m rfl 15 (by decide) (hts _ mw_395) (fun _ h9 => h9) rfl d_Mo_add_141 ?_
        refine lv_iload hx hb d_Mo_add_144 (lv_at hl 0 rfl) ?_
        refine lv_iload hx hb d_Mo_add_146 (lv_at hl 6 rfl) ?_
        refine hj_iast hx hb hK hH hLo 2 f_aSi rfl 1 (by decide) (by decide) (by decide) d_Mo_add_148 (fun H49 locs hH z50 hLo => ?_)
        have hz : s.heap.size ≤ H49.size := by rw [z50]; exact hz
        obtain ⟨h51, e52⟩ : ∃ z, z = hu h47 aSi (.inl ((t 2), 700, .inl (upd gSi 1 sz))) := ⟨_, rfl⟩
        have hH : hm D vwCl G h51 H49 := by rw [e52]; exact hH
        have f_m : h51 mo = some (.inr (9, [.int 0, .int (nI n), .int 0, .ref aBy, .ref aSt, .ref aDe, .int 0, .int (-1), .int 0, .ref aPa, .int (1 + 1), .ref aIt, .ref aId, .ref aPr, .ref aNa, .ref aSi, .ref aSe, .ref aIw, .ref aEx, .ref aOl, .int 0, .ref aPl, .int 0, .int 0, .ref aTa, .ref aAt, .ref aLo, .int 0, .int 0, .ref aS1, .ref aS2, .ref aS3, .ref aS4, .ref aS5, .ref aS6, .int 0, .ref aO1, .ref aO2, .ref aO3, .ref aO4, .ref aO5])) := by rw [e52, hu_n (Ne.symm (h_neA f_aSi f_m))]; exact f_m
        have f_aSe : h51 aSe = some (.inl ((t 2), 700, .inl gSe)) := by rw [e52, hu_n (Ne.symm ne_aSi_aSe)]; exact f_aSe
        have f_aIw : h51 aIw = some (.inl ((t 1), 700, .inl gIw)) := by rw [e52, hu_n (Ne.symm ne_aSi_aIw)]; exact f_aIw
        have f_aEx : h51 aEx = some (.inl ((t 2), 700, .inl gEx)) := by rw [e52, hu_n (Ne.symm ne_aSi_aEx)]; exact f_aEx
        have f_aSi : h51 aSi = some (.inl ((t 2), 700, .inl (upd gSi 1 sz))) := by rw [e52]; exact hu_s _ _ _
        refine lv_aload_n hx hb d_Mo_add_149 rfl (lv_at hl 2 rfl) ?_
        refine hm_get (ci := 9) (v := .ref aSe) (C := R_Mo) (T := F_Mo) (N := 41) hx hb hts ig_Mo hown hK hH f_m rfl 16 (by decide) (hts _ mw_396) (fun _ h9 => h9) rfl d_Mo_add_150 ?_
        refine lv_iload hx hb d_Mo_add_153 (lv_at hl 0 rfl) ?_
        refine lv_iload hx hb d_Mo_add_155 (lv_at hl 7 rfl) ?_
        refine hj_iast hx hb hK hH hLo 2 f_aSe rfl 1 (by decide) (by decide) (by decide) d_Mo_add_157 (fun H53 locs hH z54 hLo => ?_)
        have hz : s.heap.size ≤ H53.size := by rw [z54]; exact hz
        obtain ⟨h55, e56⟩ : ∃ z, z = hu h51 aSe (.inl ((t 2), 700, .inl (upd gSe 1 sd))) := ⟨_, rfl⟩
        have hH : hm D vwCl G h55 H53 := by rw [e56]; exact hH
        have f_m : h55 mo = some (.inr (9, [.int 0, .int (nI n), .int 0, .ref aBy, .ref aSt, .ref aDe, .int 0, .int (-1), .int 0, .ref aPa, .int (1 + 1), .ref aIt, .ref aId, .ref aPr, .ref aNa, .ref aSi, .ref aSe, .ref aIw, .ref aEx, .ref aOl, .int 0, .ref aPl, .int 0, .int 0, .ref aTa, .ref aAt, .ref aLo, .int 0, .int 0, .ref aS1, .ref aS2, .ref aS3, .ref aS4, .ref aS5, .ref aS6, .int 0, .ref aO1, .ref aO2, .ref aO3, .ref aO4, .ref aO5])) := by rw [e56, hu_n (Ne.symm (h_neA f_aSe f_m))]; exact f_m
        have f_aIw : h55 aIw = some (.inl ((t 1), 700, .inl gIw)) := by rw [e56, hu_n (Ne.symm ne_aSe_aIw)]; exact f_aIw
        have f_aEx : h55 aEx = some (.inl ((t 2), 700, .inl gEx)) := by rw [e56, hu_n (Ne.symm ne_aSe_aEx)]; exact f_aEx
        have f_aSe : h55 aSe = some (.inl ((t 2), 700, .inl (upd gSe 1 sd))) := by rw [e56]; exact hu_s _ _ _
        refine lv_aload_n hx hb d_Mo_add_158 rfl (lv_at hl 2 rfl) ?_
        refine hm_get (ci := 9) (v := .ref aIw) (C := R_Mo) (T := F_Mo) (N := 41) hx hb hts ig_Mo hown hK hH f_m rfl 17 (by decide) (hts _ mw_407) (fun _ h9 => h9) rfl d_Mo_add_159 ?_
        refine lv_iload hx hb d_Mo_add_162 (lv_at hl 0 rfl) ?_
        refine lv_iconst (v := 0) hx hb d_Mo_add_164 (by decide) ?_
        refine hj_zast hx hb hK hH hLo 1 f_aIw rfl 1 (by decide) (by decide) (by decide) d_Mo_add_165 (fun H57 locs hH z58 hLo => ?_)
        have hz : s.heap.size ≤ H57.size := by rw [z58]; exact hz
        obtain ⟨h59, e60⟩ : ∃ z, z = hu h55 aIw (.inl ((t 1), 700, .inl (upd gIw 1 (vp_nar .boolean 0)))) := ⟨_, rfl⟩
        have hH : hm D vwCl G h59 H57 := by rw [e60]; exact hH
        have f_m : h59 mo = some (.inr (9, [.int 0, .int (nI n), .int 0, .ref aBy, .ref aSt, .ref aDe, .int 0, .int (-1), .int 0, .ref aPa, .int (1 + 1), .ref aIt, .ref aId, .ref aPr, .ref aNa, .ref aSi, .ref aSe, .ref aIw, .ref aEx, .ref aOl, .int 0, .ref aPl, .int 0, .int 0, .ref aTa, .ref aAt, .ref aLo, .int 0, .int 0, .ref aS1, .ref aS2, .ref aS3, .ref aS4, .ref aS5, .ref aS6, .int 0, .ref aO1, .ref aO2, .ref aO3, .ref aO4, .ref aO5])) := by rw [e60, hu_n (Ne.symm (h_neA f_aIw f_m))]; exact f_m
        have f_aEx : h59 aEx = some (.inl ((t 2), 700, .inl gEx)) := by rw [e60, hu_n (Ne.symm ne_aIw_aEx)]; exact f_aEx
        have f_aIw : h59 aIw = some (.inl ((t 1), 700, .inl (upd gIw 1 (vp_nar .boolean 0)))) := by rw [e60]; exact hu_s _ _ _
        refine lv_aload_n hx hb d_Mo_add_166 rfl (lv_at hl 2 rfl) ?_
        refine hm_get (ci := 9) (v := .ref aEx) (C := R_Mo) (T := F_Mo) (N := 41) hx hb hts ig_Mo hown hK hH f_m rfl 18 (by decide) (hts _ mw_397) (fun _ h9 => h9) rfl d_Mo_add_167 ?_
        refine lv_iload hx hb d_Mo_add_170 (lv_at hl 0 rfl) ?_
        refine lv_iconst (v := 0) hx hb d_Mo_add_172 (by decide) ?_
        refine hj_iast hx hb hK hH hLo 2 f_aEx rfl 1 (by decide) (by decide) (by decide) d_Mo_add_173 (fun H61 locs hH z62 hLo => ?_)
        have hz : s.heap.size ≤ H61.size := by rw [z62]; exact hz
        obtain ⟨h63, e64⟩ : ∃ z, z = hu h59 aEx (.inl ((t 2), 700, .inl (upd gEx 1 0))) := ⟨_, rfl⟩
        have hH : hm D vwCl G h63 H61 := by rw [e64]; exact hH
        have f_m : h63 mo = some (.inr (9, [.int 0, .int (nI n), .int 0, .ref aBy, .ref aSt, .ref aDe, .int 0, .int (-1), .int 0, .ref aPa, .int (1 + 1), .ref aIt, .ref aId, .ref aPr, .ref aNa, .ref aSi, .ref aSe, .ref aIw, .ref aEx, .ref aOl, .int 0, .ref aPl, .int 0, .int 0, .ref aTa, .ref aAt, .ref aLo, .int 0, .int 0, .ref aS1, .ref aS2, .ref aS3, .ref aS4, .ref aS5, .ref aS6, .int 0, .ref aO1, .ref aO2, .ref aO3, .ref aO4, .ref aO5])) := by rw [e64, hu_n (Ne.symm (h_neA f_aEx f_m))]; exact f_m
        have f_aEx : h63 aEx = some (.inl ((t 2), 700, .inl (upd gEx 1 0))) := by rw [e64]; exact hu_s _ _ _
        refine lv_iload hx hb d_Mo_add_174 (lv_at hl 0 rfl) ?_
        exact W.iret (v := 1) hx hb hr (fun t9 ht hW => ⟨1, h63, rfl, Or.inr ⟨rfl, rfl, mt (lg_cmp_eq _ _).mpr hc15, hc7⟩, by rw [ht]; exact hH, by rw [ht]; exact hz⟩) hLo d_Mo_add_176
    · skip
      refine hm_calli (va_runV (As := [.int d9]) (b := mo) (rest := []) ⟨hx, hb, hml, hown, hts⟩ (c_m_isNode l D t G ak av h mo n aBy aSt aDe aPa aIt aId aPr aNa aSi aSe aIw aEx aOl aPl aTa aAt aLo aS1 aS2 aS3 aS4 aS5 aS6 aO1 aO2 aO3 aO4 aO5 gIt d9 f_m f_aIt zIt) ⟨cw9B 1 hts mw_444 mw_445 mw_428 rfl rfl (by decide +kernel) ⟨Nat.le_of_ble_eq_true rfl, Nat.le_of_ble_eq_true rfl⟩, hts _ mw_446, hts _ mw_447⟩ (hP_V (q := (R_Mo, F_Mo, 41)) kE_ok hE hK hH f_m rfl) rfl rfl hl.1 rfl (lv_room (Nat.le_of_ble_eq_true rfl)) d_Mo_add_23 ⟨Nat.le_of_ble_eq_true rfl, Nat.le_of_ble_eq_true rfl⟩) hLo (fun r65 h66 H67 locs hp69 hH z68 hLo => ?_)
      have hz : s.heap.size ≤ H67.size := Nat.le_trans hz z68
      obtain ⟨hr9, rfl⟩ := hp69
      rw [if_neg hin] at hr9
      subst hr9
      refine lv_if_eq (tgt := 62) hx hb d_Mo_add_26 (by decide) (fun hc70 => ?_) (fun hc70 => absurd rfl hc70)
      refine lv_bipush (v := -2) hx hb d_Mo_add_62 (by decide) ?_
      exact W.iret (v := (-2)) hx hb hr (fun t9 ht hW => ⟨(-2), h, rfl, Or.inl ⟨rfl, fun q => hin q.1⟩, by rw [ht]; exact hH, by rw [ht]; exact hz⟩) hLo d_Mo_add_64

set_option maxHeartbeats 4000000 in
set_option maxRecDepth 100000 in
theorem c_m_directory (l : Launch) (D : va_G) (t : Nat → ClassId) (G : hG) (ak av : Nat → Nat) (h : hM) (mo n : Nat) (nu : Int32) (wo : Int64) (hM : FrM t h mo n) : Met l y_Mo_directory (.code y_Mo_directory b_Mo_directory 4 (some .int) :: lw_g) { frames := 3, cells := 0, slots := 0, locals := 75 } (hP (kE D t G ak av) D vwCl G h [.ref mo, .int nu, .long wo]) (hQi D vwCl G (fun r h' => (r = -2 ∧ ¬ (nu = 0 ∧ tlV wo ≠ 0)) ∨ (r = 1 ∧ nu = 0 ∧ tlV wo ≠ 0))) 0 0 G.P := by
  refine Met.ofW (cc := b_Mo_directory) (maxL := 4) (ret := (some .int)) (by decide) rfl ?_
  intro p e s m args below meth c s₁ Bd hml hv
  obtain ⟨ha, hE, hH⟩ := hv
  have hx := Bd.exec
  have hb := Bd.bytes
  have hr := Bd.returns
  have hts : ∀ w ∈ lw_g, w.before args s = true := fun w hw => atoms_spec (ws := (.code y_Mo_directory b_Mo_directory 4 (some .int) :: lw_g)) Bd.pre w (List.mem_cons_of_mem _ hw)
  have hown : s.vm.findClass R_Mo = some m.cls := findClass_of_methodNamed Bd.named
  have hlocks := Bd.notSynchronized
  have hK := hE.1
  have hH0 := hH
  have hLo : hLc G.P [] := hLc_nil
  have hz : s.heap.size ≤ s.heap.size := Nat.le_refl _
  have hkp : kp [] h h := kp_rf
  have hl := lv_entry [.ref mo, .int nu, .long wo] (n := 4) (Nat.le_of_ble_eq_true rfl)
  rw [show entryFrame m args 4 = F0 m 0 ((lg_sl [.ref mo, .int nu, .long wo] ++ List.replicate (4 - (lg_sl [.ref mo, .int nu, .long wo]).length) Slot.unset).toArray) [] from (by rw [ha]; exact lg_entry_eq m [.ref mo, .int nu, .long wo] 4)]
  generalize (lg_sl [.ref mo, .int nu, .long wo] ++ List.replicate (4 - (lg_sl [.ref mo, .int nu, .long wo]).length) Slot.unset).toArray = ls at hl ⊢
  have hl : lv_has ls 4 [(0, .ref mo), (1, .int nu), (2, .long wo)] := hl
  obtain ⟨aBy, aSt, aDe, aPa, aIt, aId, aPr, aNa, aSi, aSe, aIw, aEx, aOl, aPl, aTa, aAt, aLo, aS1, aS2, aS3, aS4, aS5, aS6, aO1, aO2, aO3, aO4, aO5, gBy, gSt, gDe, gPa, gIt, gId, gPr, gSi, gSe, gIw, gEx, gOl, gPl, gTa, gAt, gLo, gNa, f_m, f_aBy, f_aSt, f_aDe, f_aPa, f_aIt, f_aId, f_aPr, f_aNa, f_aSi, f_aSe, f_aIw, f_aEx, f_aOl, f_aPl, f_aTa, f_aAt, f_aLo, zBy, zSt, zDe, zIt, zId, zPr, zSi, zSe, zEx, ne_aIt_aId, ne_aIt_aPr, ne_aIt_aSi, ne_aIt_aSe, ne_aIt_aEx, ne_aId_aPr, ne_aId_aSi, ne_aId_aSe, ne_aId_aEx, ne_aPr_aSi, ne_aPr_aSe, ne_aPr_aEx, ne_aSi_aSe, ne_aSi_aEx, ne_aSe_aEx, ne_aId_aAt, ne_aId_aLo, ne_aAt_aLo, ne_aId_aOl, ne_aIt_aIw, ne_aId_aIw, ne_aPr_aIw, ne_aSi_aIw, ne_aSe_aIw, ne_aIw_aEx, ne_aEx_aOl, ne_aOl_aAt, ne_aOl_aLo, hn40, hn⟩ := hM
  refine lv_aload_n hx hb d_Mo_directory_0 rfl (lv_at hl 0 rfl) ?_
  refine lv_iconst (v := 0) hx hb d_Mo_directory_1 (by decide) ?_
  refine hm_put (ci := 9) (v := .int 0) (ty := .int) (C := R_Mo) (T := F_Mo) (N := 41) hx hb hts ig_Mo t_Mo tk_Mo nm_Mo hown hK hH hLo f_m rfl 0 (by decide) (hts _ mw_432) (fun _ h9 => h9) rfl (by decide +kernel) rfl rfl (Nat.le_of_ble_eq_true rfl) d_Mo_directory_2 (fun H1 locs hH z2 hLo => ?_)
  have hz : s.heap.size ≤ H1.size := by rw [z2]; exact hz
  obtain ⟨h3, e4⟩ : ∃ z, z = hu h mo (.inr (9, [.int 0, .int (nI n), .int 0, .ref aBy, .ref aSt, .ref aDe, .int 0, .int (-1), .int 0, .ref aPa, .int 1, .ref aIt, .ref aId, .ref aPr, .ref aNa, .ref aSi, .ref aSe, .ref aIw, .ref aEx, .ref aOl, .int 0, .ref aPl, .int 0, .int 0, .ref aTa, .ref aAt, .ref aLo, .int 0, .int 0, .ref aS1, .ref aS2, .ref aS3, .ref aS4, .ref aS5, .ref aS6, .int 0, .ref aO1, .ref aO2, .ref aO3, .ref aO4, .ref aO5])) := ⟨_, rfl⟩
  have hH : hm D vwCl G h3 H1 := by rw [e4]; exact hH
  have f_aIt : h3 aIt = some (.inl ((t 1), 700, .inl gIt)) := by rw [e4, hu_n (h_neA f_aIt f_m)]; exact f_aIt
  have f_aId : h3 aId = some (.inl ((t 1), 700, .inl gId)) := by rw [e4, hu_n (h_neA f_aId f_m)]; exact f_aId
  have f_aPr : h3 aPr = some (.inl ((t 2), 700, .inl gPr)) := by rw [e4, hu_n (h_neA f_aPr f_m)]; exact f_aPr
  have f_aNa : h3 aNa = some (.inl ((t 3), 700, .inr (.inl gNa))) := by rw [e4, hu_n (h_neA f_aNa f_m)]; exact f_aNa
  have f_aSi : h3 aSi = some (.inl ((t 2), 700, .inl gSi)) := by rw [e4, hu_n (h_neA f_aSi f_m)]; exact f_aSi
  have f_aSe : h3 aSe = some (.inl ((t 2), 700, .inl gSe)) := by rw [e4, hu_n (h_neA f_aSe f_m)]; exact f_aSe
  have f_aIw : h3 aIw = some (.inl ((t 1), 700, .inl gIw)) := by rw [e4, hu_n (h_neA f_aIw f_m)]; exact f_aIw
  have f_aEx : h3 aEx = some (.inl ((t 2), 700, .inl gEx)) := by rw [e4, hu_n (h_neA f_aEx f_m)]; exact f_aEx
  have f_m : h3 mo = some (.inr (9, [.int 0, .int (nI n), .int 0, .ref aBy, .ref aSt, .ref aDe, .int 0, .int (-1), .int 0, .ref aPa, .int 1, .ref aIt, .ref aId, .ref aPr, .ref aNa, .ref aSi, .ref aSe, .ref aIw, .ref aEx, .ref aOl, .int 0, .ref aPl, .int 0, .int 0, .ref aTa, .ref aAt, .ref aLo, .int 0, .int 0, .ref aS1, .ref aS2, .ref aS3, .ref aS4, .ref aS5, .ref aS6, .int 0, .ref aO1, .ref aO2, .ref aO3, .ref aO4, .ref aO5])) := by rw [e4]; exact hu_s _ _ _
  refine lv_aload_n hx hb d_Mo_directory_5 rfl (lv_at hl 0 rfl) ?_
  refine lv_iload_n hx hb d_Mo_directory_6 rfl (lv_at hl 1 rfl) ?_
  refine lv_lload_n hx hb d_Mo_directory_7 rfl (lv_at hl 2 rfl) ?_
  refine lv_iconst (v := 1) hx hb d_Mo_directory_8 (by decide) ?_
  refine lv_iconst (v := 0) hx hb d_Mo_directory_9 (by decide) ?_
  refine lv_iconst (v := 0) hx hb d_Mo_directory_10 (by decide) ?_
  refine lv_iconst (v := 1) hx hb d_Mo_directory_11 (by decide) ?_
  refine hm_calli (va_runV (As := [.int nu, .long wo, .int 1, .int 0, .int 0, .int 1]) (b := mo) (rest := []) ⟨hx, hb, hml, hown, hts⟩ (c_m_add1 l D t G ak av h3 mo n aBy aSt aDe aPa aIt aId aPr aNa aSi aSe aIw aEx aOl aPl aTa aAt aLo aS1 aS2 aS3 aS4 aS5 aS6 aO1 aO2 aO3 aO4 aO5 gIt gId gPr gSi gSe gIw gEx gNa nu 0 0 1 wo f_m f_aIt f_aId f_aPr f_aNa f_aSi f_aSe f_aIw f_aEx zIt zId ne_aIt_aId ne_aIt_aPr ne_aIt_aSi ne_aIt_aSe ne_aIt_aEx ne_aId_aPr ne_aId_aSi ne_aId_aSe ne_aId_aEx ne_aPr_aSi ne_aPr_aSe ne_aPr_aEx ne_aSi_aSe ne_aSi_aEx ne_aSe_aEx ne_aIt_aIw ne_aId_aIw ne_aPr_aIw ne_aSi_aIw ne_aSe_aIw ne_aIw_aEx) ⟨cw9B 6 hts mw_460 mw_461 mw_428 rfl rfl (by decide +kernel) ⟨Nat.le_of_ble_eq_true rfl, Nat.le_of_ble_eq_true rfl⟩, hts _ mw_462, hts _ mw_463⟩ (hP_V (q := (R_Mo, F_Mo, 41)) kE_ok hE hK hH f_m rfl) rfl rfl hl.1 rfl (lv_room (Nat.le_of_ble_eq_true rfl)) d_Mo_directory_12 ⟨Nat.le_of_ble_eq_true rfl, Nat.le_of_ble_eq_true rfl⟩) hLo (fun r5 h6 H7 locs hp9 hH z8 hLo => ?_)
  have hz : s.heap.size ≤ H7.size := Nat.le_trans hz z8
  exact W.iret (v := r5) hx hb hr (fun t9 ht hW => ⟨r5, h6, rfl, hp9.imp (fun q => ⟨q.1, fun z => q.2 ⟨z.1, z.2, by decide⟩⟩) (fun q => ⟨q.1, q.2.1, q.2.2.1⟩), by rw [ht]; exact hH, by rw [ht]; exact hz⟩) hLo d_Mo_directory_15

set_option maxHeartbeats 4000000 in
set_option maxRecDepth 100000 in
theorem c_m_file (l : Launch) (D : va_G) (t : Nat → ClassId) (G : hG) (ak av : Nat → Nat) (h : hM) (mo n : Nat) (nu : Int32) (wo : Int64) (sz sd : Int32) (hM : FrM t h mo n) : Met l y_Mo_file (.code y_Mo_file b_Mo_file 6 (some .int) :: lw_g) { frames := 3, cells := 0, slots := 0, locals := 75 } (hP (kE D t G ak av) D vwCl G h [.ref mo, .int nu, .long wo, .int sz, .int sd]) (hQi D vwCl G (fun r h' => (r = -2 ∧ ¬ (nu = 0 ∧ tlV wo ≠ 0 ∧ cntC sz sd ≠ 0)) ∨ (r = 1 ∧ nu = 0 ∧ tlV wo ≠ 0 ∧ cntC sz sd ≠ 0))) 0 0 G.P := by
  refine Met.ofW (cc := b_Mo_file) (maxL := 6) (ret := (some .int)) (by decide) rfl ?_
  intro p e s m args below meth c s₁ Bd hml hv
  obtain ⟨ha, hE, hH⟩ := hv
  have hx := Bd.exec
  have hb := Bd.bytes
  have hr := Bd.returns
  have hts : ∀ w ∈ lw_g, w.before args s = true := fun w hw => atoms_spec (ws := (.code y_Mo_file b_Mo_file 6 (some .int) :: lw_g)) Bd.pre w (List.mem_cons_of_mem _ hw)
  have hown : s.vm.findClass R_Mo = some m.cls := findClass_of_methodNamed Bd.named
  have hlocks := Bd.notSynchronized
  have hK := hE.1
  have hH0 := hH
  have hLo : hLc G.P [] := hLc_nil
  have hz : s.heap.size ≤ s.heap.size := Nat.le_refl _
  have hkp : kp [] h h := kp_rf
  have hl := lv_entry [.ref mo, .int nu, .long wo, .int sz, .int sd] (n := 6) (Nat.le_of_ble_eq_true rfl)
  rw [show entryFrame m args 6 = F0 m 0 ((lg_sl [.ref mo, .int nu, .long wo, .int sz, .int sd] ++ List.replicate (6 - (lg_sl [.ref mo, .int nu, .long wo, .int sz, .int sd]).length) Slot.unset).toArray) [] from (by rw [ha]; exact lg_entry_eq m [.ref mo, .int nu, .long wo, .int sz, .int sd] 6)]
  generalize (lg_sl [.ref mo, .int nu, .long wo, .int sz, .int sd] ++ List.replicate (6 - (lg_sl [.ref mo, .int nu, .long wo, .int sz, .int sd]).length) Slot.unset).toArray = ls at hl ⊢
  have hl : lv_has ls 6 [(0, .ref mo), (1, .int nu), (2, .long wo), (4, .int sz), (5, .int sd)] := hl
  obtain ⟨aBy, aSt, aDe, aPa, aIt, aId, aPr, aNa, aSi, aSe, aIw, aEx, aOl, aPl, aTa, aAt, aLo, aS1, aS2, aS3, aS4, aS5, aS6, aO1, aO2, aO3, aO4, aO5, gBy, gSt, gDe, gPa, gIt, gId, gPr, gSi, gSe, gIw, gEx, gOl, gPl, gTa, gAt, gLo, gNa, f_m, f_aBy, f_aSt, f_aDe, f_aPa, f_aIt, f_aId, f_aPr, f_aNa, f_aSi, f_aSe, f_aIw, f_aEx, f_aOl, f_aPl, f_aTa, f_aAt, f_aLo, zBy, zSt, zDe, zIt, zId, zPr, zSi, zSe, zEx, ne_aIt_aId, ne_aIt_aPr, ne_aIt_aSi, ne_aIt_aSe, ne_aIt_aEx, ne_aId_aPr, ne_aId_aSi, ne_aId_aSe, ne_aId_aEx, ne_aPr_aSi, ne_aPr_aSe, ne_aPr_aEx, ne_aSi_aSe, ne_aSi_aEx, ne_aSe_aEx, ne_aId_aAt, ne_aId_aLo, ne_aAt_aLo, ne_aId_aOl, ne_aIt_aIw, ne_aId_aIw, ne_aPr_aIw, ne_aSi_aIw, ne_aSe_aIw, ne_aIw_aEx, ne_aEx_aOl, ne_aOl_aAt, ne_aOl_aLo, hn40, hn⟩ := hM
  refine lv_aload_n hx hb d_Mo_file_0 rfl (lv_at hl 0 rfl) ?_
  refine lv_iconst (v := 0) hx hb d_Mo_file_1 (by decide) ?_
  refine hm_put (ci := 9) (v := .int 0) (ty := .int) (C := R_Mo) (T := F_Mo) (N := 41) hx hb hts ig_Mo t_Mo tk_Mo nm_Mo hown hK hH hLo f_m rfl 0 (by decide) (hts _ mw_432) (fun _ h9 => h9) rfl (by decide +kernel) rfl rfl (Nat.le_of_ble_eq_true rfl) d_Mo_file_2 (fun H1 locs hH z2 hLo => ?_)
  have hz : s.heap.size ≤ H1.size := by rw [z2]; exact hz
  obtain ⟨h3, e4⟩ : ∃ z, z = hu h mo (.inr (9, [.int 0, .int (nI n), .int 0, .ref aBy, .ref aSt, .ref aDe, .int 0, .int (-1), .int 0, .ref aPa, .int 1, .ref aIt, .ref aId, .ref aPr, .ref aNa, .ref aSi, .ref aSe, .ref aIw, .ref aEx, .ref aOl, .int 0, .ref aPl, .int 0, .int 0, .ref aTa, .ref aAt, .ref aLo, .int 0, .int 0, .ref aS1, .ref aS2, .ref aS3, .ref aS4, .ref aS5, .ref aS6, .int 0, .ref aO1, .ref aO2, .ref aO3, .ref aO4, .ref aO5])) := ⟨_, rfl⟩
  have hH : hm D vwCl G h3 H1 := by rw [e4]; exact hH
  have f_aIt : h3 aIt = some (.inl ((t 1), 700, .inl gIt)) := by rw [e4, hu_n (h_neA f_aIt f_m)]; exact f_aIt
  have f_aId : h3 aId = some (.inl ((t 1), 700, .inl gId)) := by rw [e4, hu_n (h_neA f_aId f_m)]; exact f_aId
  have f_aPr : h3 aPr = some (.inl ((t 2), 700, .inl gPr)) := by rw [e4, hu_n (h_neA f_aPr f_m)]; exact f_aPr
  have f_aNa : h3 aNa = some (.inl ((t 3), 700, .inr (.inl gNa))) := by rw [e4, hu_n (h_neA f_aNa f_m)]; exact f_aNa
  have f_aSi : h3 aSi = some (.inl ((t 2), 700, .inl gSi)) := by rw [e4, hu_n (h_neA f_aSi f_m)]; exact f_aSi
  have f_aSe : h3 aSe = some (.inl ((t 2), 700, .inl gSe)) := by rw [e4, hu_n (h_neA f_aSe f_m)]; exact f_aSe
  have f_aIw : h3 aIw = some (.inl ((t 1), 700, .inl gIw)) := by rw [e4, hu_n (h_neA f_aIw f_m)]; exact f_aIw
  have f_aEx : h3 aEx = some (.inl ((t 2), 700, .inl gEx)) := by rw [e4, hu_n (h_neA f_aEx f_m)]; exact f_aEx
  have f_m : h3 mo = some (.inr (9, [.int 0, .int (nI n), .int 0, .ref aBy, .ref aSt, .ref aDe, .int 0, .int (-1), .int 0, .ref aPa, .int 1, .ref aIt, .ref aId, .ref aPr, .ref aNa, .ref aSi, .ref aSe, .ref aIw, .ref aEx, .ref aOl, .int 0, .ref aPl, .int 0, .int 0, .ref aTa, .ref aAt, .ref aLo, .int 0, .int 0, .ref aS1, .ref aS2, .ref aS3, .ref aS4, .ref aS5, .ref aS6, .int 0, .ref aO1, .ref aO2, .ref aO3, .ref aO4, .ref aO5])) := by rw [e4]; exact hu_s _ _ _
  refine lv_aload_n hx hb d_Mo_file_5 rfl (lv_at hl 0 rfl) ?_
  refine lv_iload_n hx hb d_Mo_file_6 rfl (lv_at hl 1 rfl) ?_
  refine lv_lload_n hx hb d_Mo_file_7 rfl (lv_at hl 2 rfl) ?_
  refine lv_iconst (v := 0) hx hb d_Mo_file_8 (by decide) ?_
  refine lv_iload hx hb d_Mo_file_9 (lv_at hl 3 rfl) ?_
  refine lv_iload hx hb d_Mo_file_11 (lv_at hl 4 rfl) ?_
  refine lv_iload hx hb d_Mo_file_13 (lv_at hl 3 rfl) ?_
  refine lv_iload hx hb d_Mo_file_15 (lv_at hl 4 rfl) ?_
  refine hm_calli (va_runS (As := [.int sz, .int sd]) (rest := [.int sd, .int sz, .int 0, .long wo, .int nu, .ref mo]) ⟨hx, hb, hml, hown, hts⟩ (c_m_isContent l D t G ak av h3 sz sd) ⟨cw9B 2 hts mw_464 mw_465 mw_428 rfl rfl (by decide +kernel) ⟨Nat.le_of_ble_eq_true rfl, Nat.le_of_ble_eq_true rfl⟩, hts _ mw_466⟩ (hP_S kE_ok hE hH) rfl rfl hl.1 rfl (lv_room (Nat.le_of_ble_eq_true rfl)) d_Mo_file_17 ⟨Nat.le_of_ble_eq_true rfl, Nat.le_of_ble_eq_true rfl⟩) hLo (fun r5 h6 H7 locs hp9 hH z8 hLo => ?_)
  have hz : s.heap.size ≤ H7.size := Nat.le_trans hz z8
  obtain ⟨rfl, rfl⟩ := hp9
  refine hm_calli (va_runV (As := [.int nu, .long wo, .int 0, .int sz, .int sd, .int (cntC sz sd)]) (b := mo) (rest := []) ⟨hx, hb, hml, hown, hts⟩ (c_m_add0 l D t G ak av h3 mo n aBy aSt aDe aPa aIt aId aPr aNa aSi aSe aIw aEx aOl aPl aTa aAt aLo aS1 aS2 aS3 aS4 aS5 aS6 aO1 aO2 aO3 aO4 aO5 gIt gId gPr gSi gSe gIw gEx gNa nu sz sd (cntC sz sd) wo f_m f_aIt f_aId f_aPr f_aNa f_aSi f_aSe f_aIw f_aEx zIt zId ne_aIt_aId ne_aIt_aPr ne_aIt_aSi ne_aIt_aSe ne_aIt_aEx ne_aId_aPr ne_aId_aSi ne_aId_aSe ne_aId_aEx ne_aPr_aSi ne_aPr_aSe ne_aPr_aEx ne_aSi_aSe ne_aSi_aEx ne_aSe_aEx ne_aIt_aIw ne_aId_aIw ne_aPr_aIw ne_aSi_aIw ne_aSe_aIw ne_aIw_aEx) ⟨cw9B 6 hts mw_460 mw_461 mw_428 rfl rfl (by decide +kernel) ⟨Nat.le_of_ble_eq_true rfl, Nat.le_of_ble_eq_true rfl⟩, hts _ mw_462, hts _ mw_463⟩ (hP_V (q := (R_Mo, F_Mo, 41)) kE_ok hE hK hH f_m rfl) rfl rfl hl.1 rfl (lv_room (Nat.le_of_ble_eq_true rfl)) d_Mo_file_20 ⟨Nat.le_of_ble_eq_true rfl, Nat.le_of_ble_eq_true rfl⟩) hLo (fun r10 h11 H12 locs hp14 hH z13 hLo => ?_)
  have hz : s.heap.size ≤ H12.size := Nat.le_trans hz z13
  exact W.iret (v := r10) hx hb hr (fun t9 ht hW => ⟨r10, h11, rfl, hp14, by rw [ht]; exact hH, by rw [ht]; exact hz⟩) hLo d_Mo_file_23

set_option maxHeartbeats 4000000 in
set_option maxRecDepth 100000 in
theorem c_m_replace (l : Launch) (D : va_G) (t : Nat → ClassId) (G : hG) (ak av : Nat → Nat) (h : hM) (mo n : Nat) (nu sz sd : Int32) (hM : FrM t h mo n) : Met l y_Mo_replace (.code y_Mo_replace b_Mo_replace 4 (some .int) :: lw_g) { frames := 1, cells := 0, slots := 0, locals := 21 } (hP (kE D t G ak av) D vwCl G h [.ref mo, .int nu, .int sz, .int sd]) (hQi D vwCl G (fun r h' => r = -2)) 0 0 G.P := by
  refine Met.ofW (cc := b_Mo_replace) (maxL := 4) (ret := (some .int)) (by decide) rfl ?_
  intro p e s m args below meth c s₁ Bd hml hv
  obtain ⟨ha, hE, hH⟩ := hv
  have hx := Bd.exec
  have hb := Bd.bytes
  have hr := Bd.returns
  have hts : ∀ w ∈ lw_g, w.before args s = true := fun w hw => atoms_spec (ws := (.code y_Mo_replace b_Mo_replace 4 (some .int) :: lw_g)) Bd.pre w (List.mem_cons_of_mem _ hw)
  have hown : s.vm.findClass R_Mo = some m.cls := findClass_of_methodNamed Bd.named
  have hlocks := Bd.notSynchronized
  have hK := hE.1
  have hH0 := hH
  have hLo : hLc G.P [] := hLc_nil
  have hz : s.heap.size ≤ s.heap.size := Nat.le_refl _
  have hkp : kp [] h h := kp_rf
  have hl := lv_entry [.ref mo, .int nu, .int sz, .int sd] (n := 4) (Nat.le_of_ble_eq_true rfl)
  rw [show entryFrame m args 4 = F0 m 0 ((lg_sl [.ref mo, .int nu, .int sz, .int sd] ++ List.replicate (4 - (lg_sl [.ref mo, .int nu, .int sz, .int sd]).length) Slot.unset).toArray) [] from (by rw [ha]; exact lg_entry_eq m [.ref mo, .int nu, .int sz, .int sd] 4)]
  generalize (lg_sl [.ref mo, .int nu, .int sz, .int sd] ++ List.replicate (4 - (lg_sl [.ref mo, .int nu, .int sz, .int sd]).length) Slot.unset).toArray = ls at hl ⊢
  have hl : lv_has ls 4 [(0, .ref mo), (1, .int nu), (2, .int sz), (3, .int sd)] := hl
  obtain ⟨aBy, aSt, aDe, aPa, aIt, aId, aPr, aNa, aSi, aSe, aIw, aEx, aOl, aPl, aTa, aAt, aLo, aS1, aS2, aS3, aS4, aS5, aS6, aO1, aO2, aO3, aO4, aO5, gBy, gSt, gDe, gPa, gIt, gId, gPr, gSi, gSe, gIw, gEx, gOl, gPl, gTa, gAt, gLo, gNa, f_m, f_aBy, f_aSt, f_aDe, f_aPa, f_aIt, f_aId, f_aPr, f_aNa, f_aSi, f_aSe, f_aIw, f_aEx, f_aOl, f_aPl, f_aTa, f_aAt, f_aLo, zBy, zSt, zDe, zIt, zId, zPr, zSi, zSe, zEx, ne_aIt_aId, ne_aIt_aPr, ne_aIt_aSi, ne_aIt_aSe, ne_aIt_aEx, ne_aId_aPr, ne_aId_aSi, ne_aId_aSe, ne_aId_aEx, ne_aPr_aSi, ne_aPr_aSe, ne_aPr_aEx, ne_aSi_aSe, ne_aSi_aEx, ne_aSe_aEx, ne_aId_aAt, ne_aId_aLo, ne_aAt_aLo, ne_aId_aOl, ne_aIt_aIw, ne_aId_aIw, ne_aPr_aIw, ne_aSi_aIw, ne_aSe_aIw, ne_aIw_aEx, ne_aEx_aOl, ne_aOl_aAt, ne_aOl_aLo, hn40, hn⟩ := hM
  refine lv_aload_n hx hb d_Mo_replace_0 rfl (lv_at hl 0 rfl) ?_
  refine lv_iconst (v := 0) hx hb d_Mo_replace_1 (by decide) ?_
  refine hm_put (ci := 9) (v := .int 0) (ty := .int) (C := R_Mo) (T := F_Mo) (N := 41) hx hb hts ig_Mo t_Mo tk_Mo nm_Mo hown hK hH hLo f_m rfl 0 (by decide) (hts _ mw_432) (fun _ h9 => h9) rfl (by decide +kernel) rfl rfl (Nat.le_of_ble_eq_true rfl) d_Mo_replace_2 (fun H1 locs hH z2 hLo => ?_)
  have hz : s.heap.size ≤ H1.size := by rw [z2]; exact hz
  obtain ⟨h3, e4⟩ : ∃ z, z = hu h mo (.inr (9, [.int 0, .int (nI n), .int 0, .ref aBy, .ref aSt, .ref aDe, .int 0, .int (-1), .int 0, .ref aPa, .int 1, .ref aIt, .ref aId, .ref aPr, .ref aNa, .ref aSi, .ref aSe, .ref aIw, .ref aEx, .ref aOl, .int 0, .ref aPl, .int 0, .int 0, .ref aTa, .ref aAt, .ref aLo, .int 0, .int 0, .ref aS1, .ref aS2, .ref aS3, .ref aS4, .ref aS5, .ref aS6, .int 0, .ref aO1, .ref aO2, .ref aO3, .ref aO4, .ref aO5])) := ⟨_, rfl⟩
  have hH : hm D vwCl G h3 H1 := by rw [e4]; exact hH
  have f_aIt : h3 aIt = some (.inl ((t 1), 700, .inl gIt)) := by rw [e4, hu_n (h_neA f_aIt f_m)]; exact f_aIt
  have f_aId : h3 aId = some (.inl ((t 1), 700, .inl gId)) := by rw [e4, hu_n (h_neA f_aId f_m)]; exact f_aId
  have f_m : h3 mo = some (.inr (9, [.int 0, .int (nI n), .int 0, .ref aBy, .ref aSt, .ref aDe, .int 0, .int (-1), .int 0, .ref aPa, .int 1, .ref aIt, .ref aId, .ref aPr, .ref aNa, .ref aSi, .ref aSe, .ref aIw, .ref aEx, .ref aOl, .int 0, .ref aPl, .int 0, .int 0, .ref aTa, .ref aAt, .ref aLo, .int 0, .int 0, .ref aS1, .ref aS2, .ref aS3, .ref aS4, .ref aS5, .ref aS6, .int 0, .ref aO1, .ref aO2, .ref aO3, .ref aO4, .ref aO5])) := by rw [e4]; exact hu_s _ _ _
  refine lv_aload_n hx hb d_Mo_replace_5 rfl (lv_at hl 0 rfl) ?_
  refine hm_get (ci := 9) (v := .int 0) (C := R_Mo) (T := F_Mo) (N := 41) hx hb hts ig_Mo hown hK hH f_m rfl 6 (by decide) (hts _ mw_440) (fun _ h9 => h9) rfl d_Mo_replace_6 ?_
  refine lv_if_eq (tgt := 15) hx hb d_Mo_replace_9 (by decide) (fun hc5 => ?_) (fun hc5 => absurd rfl hc5)
  refine lv_aload_n hx hb d_Mo_replace_15 rfl (lv_at hl 0 rfl) ?_
  refine lv_iload_n hx hb d_Mo_replace_16 rfl (lv_at hl 1 rfl) ?_
  by_cases hin : nu = 0
  · skip
    refine hm_calli (va_runV (As := [.int nu]) (b := mo) (rest := []) ⟨hx, hb, hml, hown, hts⟩ (c_m_isNode l D t G ak av h3 mo n aBy aSt aDe aPa aIt aId aPr aNa aSi aSe aIw aEx aOl aPl aTa aAt aLo aS1 aS2 aS3 aS4 aS5 aS6 aO1 aO2 aO3 aO4 aO5 gIt nu f_m f_aIt zIt) ⟨cw9B 1 hts mw_444 mw_445 mw_428 rfl rfl (by decide +kernel) ⟨Nat.le_of_ble_eq_true rfl, Nat.le_of_ble_eq_true rfl⟩, hts _ mw_446, hts _ mw_447⟩ (hP_V (q := (R_Mo, F_Mo, 41)) kE_ok hE hK hH f_m rfl) rfl rfl hl.1 rfl (lv_room (Nat.le_of_ble_eq_true rfl)) d_Mo_replace_17 ⟨Nat.le_of_ble_eq_true rfl, Nat.le_of_ble_eq_true rfl⟩) hLo (fun r6 h7 H8 locs hp10 hH z9 hLo => ?_)
    have hz : s.heap.size ≤ H8.size := Nat.le_trans hz z9
    obtain ⟨hr9, rfl⟩ := hp10
    rw [if_pos hin] at hr9
    subst hr9
    have hink := hin
    subst hin
    refine lv_if_eq (tgt := 40) hx hb d_Mo_replace_20 (by decide) (fun hc11 => absurd hc11 (by decide)) (fun hc11 => ?_)
    refine lv_aload_n hx hb d_Mo_replace_23 rfl (lv_at hl 0 rfl) ?_
    refine hm_get (ci := 9) (v := .ref aId) (C := R_Mo) (T := F_Mo) (N := 41) hx hb hts ig_Mo hown hK hH f_m rfl 12 (by decide) (hts _ mw_392) (fun _ h9 => h9) rfl d_Mo_replace_24 ?_
    refine lv_iload_n hx hb d_Mo_replace_27 rfl (lv_at hl 1 rfl) ?_
    refine hj_zald hx hb hK hH 1 f_aId rfl 0 (by decide) (by decide) (by decide) d_Mo_replace_28 ?_
    refine lv_if_ne (tgt := 40) hx hb d_Mo_replace_29 (by decide) (fun hc12 => ?_) (fun hc12 => absurd hc12 (by rw [zId]; decide))
    refine lv_bipush (v := -2) hx hb d_Mo_replace_40 (by decide) ?_
    exact W.iret (v := (-2)) hx hb hr (fun t9 ht hW => ⟨(-2), h3, rfl, rfl, by rw [ht]; exact hH, by rw [ht]; exact hz⟩) hLo d_Mo_replace_42
  · skip
    refine hm_calli (va_runV (As := [.int nu]) (b := mo) (rest := []) ⟨hx, hb, hml, hown, hts⟩ (c_m_isNode l D t G ak av h3 mo n aBy aSt aDe aPa aIt aId aPr aNa aSi aSe aIw aEx aOl aPl aTa aAt aLo aS1 aS2 aS3 aS4 aS5 aS6 aO1 aO2 aO3 aO4 aO5 gIt nu f_m f_aIt zIt) ⟨cw9B 1 hts mw_444 mw_445 mw_428 rfl rfl (by decide +kernel) ⟨Nat.le_of_ble_eq_true rfl, Nat.le_of_ble_eq_true rfl⟩, hts _ mw_446, hts _ mw_447⟩ (hP_V (q := (R_Mo, F_Mo, 41)) kE_ok hE hK hH f_m rfl) rfl rfl hl.1 rfl (lv_room (Nat.le_of_ble_eq_true rfl)) d_Mo_replace_17 ⟨Nat.le_of_ble_eq_true rfl, Nat.le_of_ble_eq_true rfl⟩) hLo (fun r13 h14 H15 locs hp17 hH z16 hLo => ?_)
    have hz : s.heap.size ≤ H15.size := Nat.le_trans hz z16
    obtain ⟨hr9, rfl⟩ := hp17
    rw [if_neg hin] at hr9
    subst hr9
    refine lv_if_eq (tgt := 40) hx hb d_Mo_replace_20 (by decide) (fun hc18 => ?_) (fun hc18 => absurd rfl hc18)
    refine lv_bipush (v := -2) hx hb d_Mo_replace_40 (by decide) ?_
    exact W.iret (v := (-2)) hx hb hr (fun t9 ht hW => ⟨(-2), h3, rfl, rfl, by rw [ht]; exact hH, by rw [ht]; exact hz⟩) hLo d_Mo_replace_42

set_option maxHeartbeats 4000000 in
set_option maxRecDepth 100000 in
theorem c_m_remove (l : Launch) (D : va_G) (t : Nat → ClassId) (G : hG) (ak av : Nat → Nat) (h : hM) (mo n : Nat) (nu : Int32) (hM : FrM t h mo n) : Met l y_Mo_remove (.code y_Mo_remove b_Mo_remove 3 (some .int) :: lw_g) { frames := 1, cells := 0, slots := 0, locals := 21 } (hP (kE D t G ak av) D vwCl G h [.ref mo, .int nu]) (hQi D vwCl G (fun r h' => r = -2)) 0 0 G.P := by
  refine Met.ofW (cc := b_Mo_remove) (maxL := 3) (ret := (some .int)) (by decide) rfl ?_
  intro p e s m args below meth c s₁ Bd hml hv
  obtain ⟨ha, hE, hH⟩ := hv
  have hx := Bd.exec
  have hb := Bd.bytes
  have hr := Bd.returns
  have hts : ∀ w ∈ lw_g, w.before args s = true := fun w hw => atoms_spec (ws := (.code y_Mo_remove b_Mo_remove 3 (some .int) :: lw_g)) Bd.pre w (List.mem_cons_of_mem _ hw)
  have hown : s.vm.findClass R_Mo = some m.cls := findClass_of_methodNamed Bd.named
  have hlocks := Bd.notSynchronized
  have hK := hE.1
  have hH0 := hH
  have hLo : hLc G.P [] := hLc_nil
  have hz : s.heap.size ≤ s.heap.size := Nat.le_refl _
  have hkp : kp [] h h := kp_rf
  have hl := lv_entry [.ref mo, .int nu] (n := 3) (Nat.le_of_ble_eq_true rfl)
  rw [show entryFrame m args 3 = F0 m 0 ((lg_sl [.ref mo, .int nu] ++ List.replicate (3 - (lg_sl [.ref mo, .int nu]).length) Slot.unset).toArray) [] from (by rw [ha]; exact lg_entry_eq m [.ref mo, .int nu] 3)]
  generalize (lg_sl [.ref mo, .int nu] ++ List.replicate (3 - (lg_sl [.ref mo, .int nu]).length) Slot.unset).toArray = ls at hl ⊢
  have hl : lv_has ls 3 [(0, .ref mo), (1, .int nu)] := hl
  obtain ⟨aBy, aSt, aDe, aPa, aIt, aId, aPr, aNa, aSi, aSe, aIw, aEx, aOl, aPl, aTa, aAt, aLo, aS1, aS2, aS3, aS4, aS5, aS6, aO1, aO2, aO3, aO4, aO5, gBy, gSt, gDe, gPa, gIt, gId, gPr, gSi, gSe, gIw, gEx, gOl, gPl, gTa, gAt, gLo, gNa, f_m, f_aBy, f_aSt, f_aDe, f_aPa, f_aIt, f_aId, f_aPr, f_aNa, f_aSi, f_aSe, f_aIw, f_aEx, f_aOl, f_aPl, f_aTa, f_aAt, f_aLo, zBy, zSt, zDe, zIt, zId, zPr, zSi, zSe, zEx, ne_aIt_aId, ne_aIt_aPr, ne_aIt_aSi, ne_aIt_aSe, ne_aIt_aEx, ne_aId_aPr, ne_aId_aSi, ne_aId_aSe, ne_aId_aEx, ne_aPr_aSi, ne_aPr_aSe, ne_aPr_aEx, ne_aSi_aSe, ne_aSi_aEx, ne_aSe_aEx, ne_aId_aAt, ne_aId_aLo, ne_aAt_aLo, ne_aId_aOl, ne_aIt_aIw, ne_aId_aIw, ne_aPr_aIw, ne_aSi_aIw, ne_aSe_aIw, ne_aIw_aEx, ne_aEx_aOl, ne_aOl_aAt, ne_aOl_aLo, hn40, hn⟩ := hM
  refine lv_aload_n hx hb d_Mo_remove_0 rfl (lv_at hl 0 rfl) ?_
  refine lv_iconst (v := 0) hx hb d_Mo_remove_1 (by decide) ?_
  refine hm_put (ci := 9) (v := .int 0) (ty := .int) (C := R_Mo) (T := F_Mo) (N := 41) hx hb hts ig_Mo t_Mo tk_Mo nm_Mo hown hK hH hLo f_m rfl 0 (by decide) (hts _ mw_432) (fun _ h9 => h9) rfl (by decide +kernel) rfl rfl (Nat.le_of_ble_eq_true rfl) d_Mo_remove_2 (fun H1 locs hH z2 hLo => ?_)
  have hz : s.heap.size ≤ H1.size := by rw [z2]; exact hz
  obtain ⟨h3, e4⟩ : ∃ z, z = hu h mo (.inr (9, [.int 0, .int (nI n), .int 0, .ref aBy, .ref aSt, .ref aDe, .int 0, .int (-1), .int 0, .ref aPa, .int 1, .ref aIt, .ref aId, .ref aPr, .ref aNa, .ref aSi, .ref aSe, .ref aIw, .ref aEx, .ref aOl, .int 0, .ref aPl, .int 0, .int 0, .ref aTa, .ref aAt, .ref aLo, .int 0, .int 0, .ref aS1, .ref aS2, .ref aS3, .ref aS4, .ref aS5, .ref aS6, .int 0, .ref aO1, .ref aO2, .ref aO3, .ref aO4, .ref aO5])) := ⟨_, rfl⟩
  have hH : hm D vwCl G h3 H1 := by rw [e4]; exact hH
  have f_aIt : h3 aIt = some (.inl ((t 1), 700, .inl gIt)) := by rw [e4, hu_n (h_neA f_aIt f_m)]; exact f_aIt
  have f_m : h3 mo = some (.inr (9, [.int 0, .int (nI n), .int 0, .ref aBy, .ref aSt, .ref aDe, .int 0, .int (-1), .int 0, .ref aPa, .int 1, .ref aIt, .ref aId, .ref aPr, .ref aNa, .ref aSi, .ref aSe, .ref aIw, .ref aEx, .ref aOl, .int 0, .ref aPl, .int 0, .int 0, .ref aTa, .ref aAt, .ref aLo, .int 0, .int 0, .ref aS1, .ref aS2, .ref aS3, .ref aS4, .ref aS5, .ref aS6, .int 0, .ref aO1, .ref aO2, .ref aO3, .ref aO4, .ref aO5])) := by rw [e4]; exact hu_s _ _ _
  refine lv_aload_n hx hb d_Mo_remove_5 rfl (lv_at hl 0 rfl) ?_
  refine hm_get (ci := 9) (v := .int 0) (C := R_Mo) (T := F_Mo) (N := 41) hx hb hts ig_Mo hown hK hH f_m rfl 6 (by decide) (hts _ mw_440) (fun _ h9 => h9) rfl d_Mo_remove_6 ?_
  refine lv_if_eq (tgt := 15) hx hb d_Mo_remove_9 (by decide) (fun hc5 => ?_) (fun hc5 => absurd rfl hc5)
  refine lv_aload_n hx hb d_Mo_remove_15 rfl (lv_at hl 0 rfl) ?_
  refine lv_iload_n hx hb d_Mo_remove_16 rfl (lv_at hl 1 rfl) ?_
  by_cases hin : nu = 0
  · skip
    refine hm_calli (va_runV (As := [.int nu]) (b := mo) (rest := []) ⟨hx, hb, hml, hown, hts⟩ (c_m_isNode l D t G ak av h3 mo n aBy aSt aDe aPa aIt aId aPr aNa aSi aSe aIw aEx aOl aPl aTa aAt aLo aS1 aS2 aS3 aS4 aS5 aS6 aO1 aO2 aO3 aO4 aO5 gIt nu f_m f_aIt zIt) ⟨cw9B 1 hts mw_444 mw_445 mw_428 rfl rfl (by decide +kernel) ⟨Nat.le_of_ble_eq_true rfl, Nat.le_of_ble_eq_true rfl⟩, hts _ mw_446, hts _ mw_447⟩ (hP_V (q := (R_Mo, F_Mo, 41)) kE_ok hE hK hH f_m rfl) rfl rfl hl.1 rfl (lv_room (Nat.le_of_ble_eq_true rfl)) d_Mo_remove_17 ⟨Nat.le_of_ble_eq_true rfl, Nat.le_of_ble_eq_true rfl⟩) hLo (fun r6 h7 H8 locs hp10 hH z9 hLo => ?_)
    have hz : s.heap.size ≤ H8.size := Nat.le_trans hz z9
    obtain ⟨hr9, rfl⟩ := hp10
    rw [if_pos hin] at hr9
    subst hr9
    have hink := hin
    subst hin
    refine lv_if_eq (tgt := 27) hx hb d_Mo_remove_20 (by decide) (fun hc11 => absurd hc11 (by decide)) (fun hc11 => ?_)
    refine lv_iload_n hx hb d_Mo_remove_23 rfl (lv_at hl 1 rfl) ?_
    refine lv_if_ne (tgt := 30) hx hb d_Mo_remove_24 (by decide) (fun hc12 => absurd rfl hc12) (fun hc12 => ?_)
    refine lv_bipush (v := -2) hx hb d_Mo_remove_27 (by decide) ?_
    exact W.iret (v := (-2)) hx hb hr (fun t9 ht hW => ⟨(-2), h3, rfl, rfl, by rw [ht]; exact hH, by rw [ht]; exact hz⟩) hLo d_Mo_remove_29
  · skip
    refine hm_calli (va_runV (As := [.int nu]) (b := mo) (rest := []) ⟨hx, hb, hml, hown, hts⟩ (c_m_isNode l D t G ak av h3 mo n aBy aSt aDe aPa aIt aId aPr aNa aSi aSe aIw aEx aOl aPl aTa aAt aLo aS1 aS2 aS3 aS4 aS5 aS6 aO1 aO2 aO3 aO4 aO5 gIt nu f_m f_aIt zIt) ⟨cw9B 1 hts mw_444 mw_445 mw_428 rfl rfl (by decide +kernel) ⟨Nat.le_of_ble_eq_true rfl, Nat.le_of_ble_eq_true rfl⟩, hts _ mw_446, hts _ mw_447⟩ (hP_V (q := (R_Mo, F_Mo, 41)) kE_ok hE hK hH f_m rfl) rfl rfl hl.1 rfl (lv_room (Nat.le_of_ble_eq_true rfl)) d_Mo_remove_17 ⟨Nat.le_of_ble_eq_true rfl, Nat.le_of_ble_eq_true rfl⟩) hLo (fun r13 h14 H15 locs hp17 hH z16 hLo => ?_)
    have hz : s.heap.size ≤ H15.size := Nat.le_trans hz z16
    obtain ⟨hr9, rfl⟩ := hp17
    rw [if_neg hin] at hr9
    subst hr9
    refine lv_if_eq (tgt := 27) hx hb d_Mo_remove_20 (by decide) (fun hc18 => ?_) (fun hc18 => absurd rfl hc18)
    refine lv_bipush (v := -2) hx hb d_Mo_remove_27 (by decide) ?_
    exact W.iret (v := (-2)) hx hb hr (fun t9 ht hW => ⟨(-2), h3, rfl, rfl, by rw [ht]; exact hH, by rw [ht]; exact hz⟩) hLo d_Mo_remove_29

set_option maxHeartbeats 4000000 in
set_option maxRecDepth 100000 in
theorem c_m_rename (l : Launch) (D : va_G) (t : Nat → ClassId) (G : hG) (ak av : Nat → Nat) (h : hM) (mo n : Nat) (nu nu2 : Int32) (wo : Int64) (hM : FrM t h mo n) : Met l y_Mo_rename (.code y_Mo_rename b_Mo_rename 9 (some .int) :: lw_g) { frames := 2, cells := 0, slots := 0, locals := 45 } (hP (kE D t G ak av) D vwCl G h [.ref mo, .int nu, .int nu2, .long wo]) (hQi D vwCl G (fun r h' => r = -2)) 0 0 G.P := by
  refine Met.ofW (cc := b_Mo_rename) (maxL := 9) (ret := (some .int)) (by decide) rfl ?_
  intro p e s m args below meth c s₁ Bd hml hv
  obtain ⟨ha, hE, hH⟩ := hv
  have hx := Bd.exec
  have hb := Bd.bytes
  have hr := Bd.returns
  have hts : ∀ w ∈ lw_g, w.before args s = true := fun w hw => atoms_spec (ws := (.code y_Mo_rename b_Mo_rename 9 (some .int) :: lw_g)) Bd.pre w (List.mem_cons_of_mem _ hw)
  have hown : s.vm.findClass R_Mo = some m.cls := findClass_of_methodNamed Bd.named
  have hlocks := Bd.notSynchronized
  have hK := hE.1
  have hH0 := hH
  have hLo : hLc G.P [] := hLc_nil
  have hz : s.heap.size ≤ s.heap.size := Nat.le_refl _
  have hkp : kp [] h h := kp_rf
  have hl := lv_entry [.ref mo, .int nu, .int nu2, .long wo] (n := 9) (Nat.le_of_ble_eq_true rfl)
  rw [show entryFrame m args 9 = F0 m 0 ((lg_sl [.ref mo, .int nu, .int nu2, .long wo] ++ List.replicate (9 - (lg_sl [.ref mo, .int nu, .int nu2, .long wo]).length) Slot.unset).toArray) [] from (by rw [ha]; exact lg_entry_eq m [.ref mo, .int nu, .int nu2, .long wo] 9)]
  generalize (lg_sl [.ref mo, .int nu, .int nu2, .long wo] ++ List.replicate (9 - (lg_sl [.ref mo, .int nu, .int nu2, .long wo]).length) Slot.unset).toArray = ls at hl ⊢
  have hl : lv_has ls 9 [(0, .ref mo), (1, .int nu), (2, .int nu2), (3, .long wo)] := hl
  obtain ⟨aBy, aSt, aDe, aPa, aIt, aId, aPr, aNa, aSi, aSe, aIw, aEx, aOl, aPl, aTa, aAt, aLo, aS1, aS2, aS3, aS4, aS5, aS6, aO1, aO2, aO3, aO4, aO5, gBy, gSt, gDe, gPa, gIt, gId, gPr, gSi, gSe, gIw, gEx, gOl, gPl, gTa, gAt, gLo, gNa, f_m, f_aBy, f_aSt, f_aDe, f_aPa, f_aIt, f_aId, f_aPr, f_aNa, f_aSi, f_aSe, f_aIw, f_aEx, f_aOl, f_aPl, f_aTa, f_aAt, f_aLo, zBy, zSt, zDe, zIt, zId, zPr, zSi, zSe, zEx, ne_aIt_aId, ne_aIt_aPr, ne_aIt_aSi, ne_aIt_aSe, ne_aIt_aEx, ne_aId_aPr, ne_aId_aSi, ne_aId_aSe, ne_aId_aEx, ne_aPr_aSi, ne_aPr_aSe, ne_aPr_aEx, ne_aSi_aSe, ne_aSi_aEx, ne_aSe_aEx, ne_aId_aAt, ne_aId_aLo, ne_aAt_aLo, ne_aId_aOl, ne_aIt_aIw, ne_aId_aIw, ne_aPr_aIw, ne_aSi_aIw, ne_aSe_aIw, ne_aIw_aEx, ne_aEx_aOl, ne_aOl_aAt, ne_aOl_aLo, hn40, hn⟩ := hM
  refine lv_aload_n hx hb d_Mo_rename_0 rfl (lv_at hl 0 rfl) ?_
  refine lv_iconst (v := 0) hx hb d_Mo_rename_1 (by decide) ?_
  refine hm_put (ci := 9) (v := .int 0) (ty := .int) (C := R_Mo) (T := F_Mo) (N := 41) hx hb hts ig_Mo t_Mo tk_Mo nm_Mo hown hK hH hLo f_m rfl 0 (by decide) (hts _ mw_432) (fun _ h9 => h9) rfl (by decide +kernel) rfl rfl (Nat.le_of_ble_eq_true rfl) d_Mo_rename_2 (fun H1 locs hH z2 hLo => ?_)
  have hz : s.heap.size ≤ H1.size := by rw [z2]; exact hz
  obtain ⟨h3, e4⟩ : ∃ z, z = hu h mo (.inr (9, [.int 0, .int (nI n), .int 0, .ref aBy, .ref aSt, .ref aDe, .int 0, .int (-1), .int 0, .ref aPa, .int 1, .ref aIt, .ref aId, .ref aPr, .ref aNa, .ref aSi, .ref aSe, .ref aIw, .ref aEx, .ref aOl, .int 0, .ref aPl, .int 0, .int 0, .ref aTa, .ref aAt, .ref aLo, .int 0, .int 0, .ref aS1, .ref aS2, .ref aS3, .ref aS4, .ref aS5, .ref aS6, .int 0, .ref aO1, .ref aO2, .ref aO3, .ref aO4, .ref aO5])) := ⟨_, rfl⟩
  have hH : hm D vwCl G h3 H1 := by rw [e4]; exact hH
  have f_aIt : h3 aIt = some (.inl ((t 1), 700, .inl gIt)) := by rw [e4, hu_n (h_neA f_aIt f_m)]; exact f_aIt
  have f_m : h3 mo = some (.inr (9, [.int 0, .int (nI n), .int 0, .ref aBy, .ref aSt, .ref aDe, .int 0, .int (-1), .int 0, .ref aPa, .int 1, .ref aIt, .ref aId, .ref aPr, .ref aNa, .ref aSi, .ref aSe, .ref aIw, .ref aEx, .ref aOl, .int 0, .ref aPl, .int 0, .int 0, .ref aTa, .ref aAt, .ref aLo, .int 0, .int 0, .ref aS1, .ref aS2, .ref aS3, .ref aS4, .ref aS5, .ref aS6, .int 0, .ref aO1, .ref aO2, .ref aO3, .ref aO4, .ref aO5])) := by rw [e4]; exact hu_s _ _ _
  refine lv_aload_n hx hb d_Mo_rename_5 rfl (lv_at hl 0 rfl) ?_
  refine hm_get (ci := 9) (v := .int 0) (C := R_Mo) (T := F_Mo) (N := 41) hx hb hts ig_Mo hown hK hH f_m rfl 6 (by decide) (hts _ mw_440) (fun _ h9 => h9) rfl d_Mo_rename_6 ?_
  refine lv_if_eq (tgt := 15) hx hb d_Mo_rename_9 (by decide) (fun hc5 => ?_) (fun hc5 => absurd rfl hc5)
  refine lv_lload_n hx hb d_Mo_rename_15 rfl (lv_at hl 3 rfl) ?_
  refine hm_calll (va_runS (As := [.long wo]) (rest := []) ⟨hx, hb, hml, hown, hts⟩ (c_m_told l D t G ak av h3 wo) ⟨cw9B 1 hts mw_441 mw_442 mw_428 rfl rfl (by decide +kernel) ⟨Nat.le_of_ble_eq_true rfl, Nat.le_of_ble_eq_true rfl⟩, hts _ mw_443⟩ (hP_S kE_ok hE hH) rfl rfl hl.1 rfl (lv_room (Nat.le_of_ble_eq_true rfl)) d_Mo_rename_16 ⟨Nat.le_of_ble_eq_true rfl, Nat.le_of_ble_eq_true rfl⟩) hLo (fun r6 h7 H8 locs hp10 hH z9 hLo => ?_)
  have hz : s.heap.size ≤ H8.size := Nat.le_trans hz z9
  obtain ⟨rfl, rfl⟩ := hp10
  refine lv_lstore (lv' := [(5, .long (tlV wo)), (0, .ref mo), (1, .int nu), (2, .int nu2), (3, .long wo)]) hx hb d_Mo_rename_19 hl (by decide) rfl (fun ls hl => ?_)
  refine lv_aload_n hx hb d_Mo_rename_21 rfl (lv_at hl 1 rfl) ?_
  refine lv_iload_n hx hb d_Mo_rename_22 rfl (lv_at hl 2 rfl) ?_
  by_cases hin : nu = 0
  · skip
    refine hm_calli (va_runV (As := [.int nu]) (b := mo) (rest := []) ⟨hx, hb, hml, hown, hts⟩ (c_m_isNode l D t G ak av h3 mo n aBy aSt aDe aPa aIt aId aPr aNa aSi aSe aIw aEx aOl aPl aTa aAt aLo aS1 aS2 aS3 aS4 aS5 aS6 aO1 aO2 aO3 aO4 aO5 gIt nu f_m f_aIt zIt) ⟨cw9B 1 hts mw_444 mw_445 mw_428 rfl rfl (by decide +kernel) ⟨Nat.le_of_ble_eq_true rfl, Nat.le_of_ble_eq_true rfl⟩, hts _ mw_446, hts _ mw_447⟩ (hP_V (q := (R_Mo, F_Mo, 41)) kE_ok hE hK hH f_m rfl) rfl rfl hl.1 rfl (lv_room (Nat.le_of_ble_eq_true rfl)) d_Mo_rename_23 ⟨Nat.le_of_ble_eq_true rfl, Nat.le_of_ble_eq_true rfl⟩) hLo (fun r11 h12 H13 locs hp15 hH z14 hLo => ?_)
    have hz : s.heap.size ≤ H13.size := Nat.le_trans hz z14
    obtain ⟨hr9, rfl⟩ := hp15
    rw [if_pos hin] at hr9
    subst hr9
    have hink := hin
    subst hin
    refine lv_if_eq (tgt := 66) hx hb d_Mo_rename_26 (by decide) (fun hc16 => absurd hc16 (by decide)) (fun hc16 => ?_)
    refine lv_iload_n hx hb d_Mo_rename_29 rfl (lv_at hl 2 rfl) ?_
    refine lv_if_eq (tgt := 66) hx hb d_Mo_rename_30 (by decide) (fun hc17 => ?_) (fun hc17 => absurd rfl hc17)
    refine lv_bipush (v := -2) hx hb d_Mo_rename_66 (by decide) ?_
    exact W.iret (v := (-2)) hx hb hr (fun t9 ht hW => ⟨(-2), h3, rfl, rfl, by rw [ht]; exact hH, by rw [ht]; exact hz⟩) hLo d_Mo_rename_68
  · skip
    refine hm_calli (va_runV (As := [.int nu]) (b := mo) (rest := []) ⟨hx, hb, hml, hown, hts⟩ (c_m_isNode l D t G ak av h3 mo n aBy aSt aDe aPa aIt aId aPr aNa aSi aSe aIw aEx aOl aPl aTa aAt aLo aS1 aS2 aS3 aS4 aS5 aS6 aO1 aO2 aO3 aO4 aO5 gIt nu f_m f_aIt zIt) ⟨cw9B 1 hts mw_444 mw_445 mw_428 rfl rfl (by decide +kernel) ⟨Nat.le_of_ble_eq_true rfl, Nat.le_of_ble_eq_true rfl⟩, hts _ mw_446, hts _ mw_447⟩ (hP_V (q := (R_Mo, F_Mo, 41)) kE_ok hE hK hH f_m rfl) rfl rfl hl.1 rfl (lv_room (Nat.le_of_ble_eq_true rfl)) d_Mo_rename_23 ⟨Nat.le_of_ble_eq_true rfl, Nat.le_of_ble_eq_true rfl⟩) hLo (fun r18 h19 H20 locs hp22 hH z21 hLo => ?_)
    have hz : s.heap.size ≤ H20.size := Nat.le_trans hz z21
    obtain ⟨hr9, rfl⟩ := hp22
    rw [if_neg hin] at hr9
    subst hr9
    refine lv_if_eq (tgt := 66) hx hb d_Mo_rename_26 (by decide) (fun hc23 => ?_) (fun hc23 => absurd rfl hc23)
    refine lv_bipush (v := -2) hx hb d_Mo_rename_66 (by decide) ?_
    exact W.iret (v := (-2)) hx hb hr (fun t9 ht hW => ⟨(-2), h3, rfl, rfl, by rw [ht]; exact hH, by rw [ht]; exact hz⟩) hLo d_Mo_rename_68

set_option maxHeartbeats 4000000 in
set_option maxRecDepth 100000 in
theorem c_m_defect (l : Launch) (D : va_G) (t : Nat → ClassId) (G : hG) (ak av : Nat → Nat) (h : hM) (mo n : Nat) (sx : Int32) (hM : FrM t h mo n) : Met l y_Mo_defect (.code y_Mo_defect b_Mo_defect 2 (some .boolean) :: lw_g) { frames := 1, cells := 0, slots := 0, locals := 22 } (hP (kE D t G ak av) D vwCl G h [.ref mo, .int sx]) (hQi D vwCl G (fun r h' => (r = 1 ∧ ∃ j, j < n ∧ sx = nI j) ∨ (r = 0 ∧ (sx < 0 ∨ nI n ≤ sx)))) 0 0 G.P := by
  refine Met.ofW (cc := b_Mo_defect) (maxL := 2) (ret := (some .boolean)) (by decide) rfl ?_
  intro p e s m args below meth c s₁ Bd hml hv
  obtain ⟨ha, hE, hH⟩ := hv
  have hx := Bd.exec
  have hb := Bd.bytes
  have hr := Bd.returns
  have hts : ∀ w ∈ lw_g, w.before args s = true := fun w hw => atoms_spec (ws := (.code y_Mo_defect b_Mo_defect 2 (some .boolean) :: lw_g)) Bd.pre w (List.mem_cons_of_mem _ hw)
  have hown : s.vm.findClass R_Mo = some m.cls := findClass_of_methodNamed Bd.named
  have hlocks := Bd.notSynchronized
  have hK := hE.1
  have hH0 := hH
  have hLo : hLc G.P [] := hLc_nil
  have hz : s.heap.size ≤ s.heap.size := Nat.le_refl _
  have hkp : kp [] h h := kp_rf
  have hl := lv_entry [.ref mo, .int sx] (n := 2) (Nat.le_of_ble_eq_true rfl)
  rw [show entryFrame m args 2 = F0 m 0 ((lg_sl [.ref mo, .int sx] ++ List.replicate (2 - (lg_sl [.ref mo, .int sx]).length) Slot.unset).toArray) [] from (by rw [ha]; exact lg_entry_eq m [.ref mo, .int sx] 2)]
  generalize (lg_sl [.ref mo, .int sx] ++ List.replicate (2 - (lg_sl [.ref mo, .int sx]).length) Slot.unset).toArray = ls at hl ⊢
  have hl : lv_has ls 2 [(0, .ref mo), (1, .int sx)] := hl
  obtain ⟨aBy, aSt, aDe, aPa, aIt, aId, aPr, aNa, aSi, aSe, aIw, aEx, aOl, aPl, aTa, aAt, aLo, aS1, aS2, aS3, aS4, aS5, aS6, aO1, aO2, aO3, aO4, aO5, gBy, gSt, gDe, gPa, gIt, gId, gPr, gSi, gSe, gIw, gEx, gOl, gPl, gTa, gAt, gLo, gNa, f_m, f_aBy, f_aSt, f_aDe, f_aPa, f_aIt, f_aId, f_aPr, f_aNa, f_aSi, f_aSe, f_aIw, f_aEx, f_aOl, f_aPl, f_aTa, f_aAt, f_aLo, zBy, zSt, zDe, zIt, zId, zPr, zSi, zSe, zEx, ne_aIt_aId, ne_aIt_aPr, ne_aIt_aSi, ne_aIt_aSe, ne_aIt_aEx, ne_aId_aPr, ne_aId_aSi, ne_aId_aSe, ne_aId_aEx, ne_aPr_aSi, ne_aPr_aSe, ne_aPr_aEx, ne_aSi_aSe, ne_aSi_aEx, ne_aSe_aEx, ne_aId_aAt, ne_aId_aLo, ne_aAt_aLo, ne_aId_aOl, ne_aIt_aIw, ne_aId_aIw, ne_aPr_aIw, ne_aSi_aIw, ne_aSe_aIw, ne_aIw_aEx, ne_aEx_aOl, ne_aOl_aAt, ne_aOl_aLo, hn40, hn⟩ := hM
  refine lv_aload_n hx hb d_Mo_defect_0 rfl (lv_at hl 0 rfl) ?_
  refine lv_iconst (v := 0) hx hb d_Mo_defect_1 (by decide) ?_
  refine hm_put (ci := 9) (v := .int 0) (ty := .int) (C := R_Mo) (T := F_Mo) (N := 41) hx hb hts ig_Mo t_Mo tk_Mo nm_Mo hown hK hH hLo f_m rfl 0 (by decide) (hts _ mw_432) (fun _ h9 => h9) rfl (by decide +kernel) rfl rfl (Nat.le_of_ble_eq_true rfl) d_Mo_defect_2 (fun H1 locs hH z2 hLo => ?_)
  have hz : s.heap.size ≤ H1.size := by rw [z2]; exact hz
  obtain ⟨h3, e4⟩ : ∃ z, z = hu h mo (.inr (9, [.int 0, .int (nI n), .int 0, .ref aBy, .ref aSt, .ref aDe, .int 0, .int (-1), .int 0, .ref aPa, .int 1, .ref aIt, .ref aId, .ref aPr, .ref aNa, .ref aSi, .ref aSe, .ref aIw, .ref aEx, .ref aOl, .int 0, .ref aPl, .int 0, .int 0, .ref aTa, .ref aAt, .ref aLo, .int 0, .int 0, .ref aS1, .ref aS2, .ref aS3, .ref aS4, .ref aS5, .ref aS6, .int 0, .ref aO1, .ref aO2, .ref aO3, .ref aO4, .ref aO5])) := ⟨_, rfl⟩
  have hH : hm D vwCl G h3 H1 := by rw [e4]; exact hH
  have f_aSt : h3 aSt = some (.inl ((t 0), 400, .inl gSt)) := by rw [e4, hu_n (h_neA f_aSt f_m)]; exact f_aSt
  have f_aDe : h3 aDe = some (.inl ((t 1), 200, .inl gDe)) := by rw [e4, hu_n (h_neA f_aDe f_m)]; exact f_aDe
  have f_m : h3 mo = some (.inr (9, [.int 0, .int (nI n), .int 0, .ref aBy, .ref aSt, .ref aDe, .int 0, .int (-1), .int 0, .ref aPa, .int 1, .ref aIt, .ref aId, .ref aPr, .ref aNa, .ref aSi, .ref aSe, .ref aIw, .ref aEx, .ref aOl, .int 0, .ref aPl, .int 0, .int 0, .ref aTa, .ref aAt, .ref aLo, .int 0, .int 0, .ref aS1, .ref aS2, .ref aS3, .ref aS4, .ref aS5, .ref aS6, .int 0, .ref aO1, .ref aO2, .ref aO3, .ref aO4, .ref aO5])) := by rw [e4]; exact hu_s _ _ _
  refine lv_iload_n hx hb d_Mo_defect_5 rfl (lv_at hl 1 rfl) ?_
  refine lv_iconst (v := 0) hx hb d_Mo_defect_6 (by decide) ?_
  refine lv_aload_n hx hb d_Mo_defect_7 rfl (lv_at hl 0 rfl) ?_
  refine hm_get (ci := 9) (v := .int (nI n)) (C := R_Mo) (T := F_Mo) (N := 41) hx hb hts ig_Mo hown hK hH f_m rfl 1 (by decide) (hts _ mw_425) (fun _ h9 => h9) rfl d_Mo_defect_8 ?_
  refine lv_iconst (v := 1) hx hb d_Mo_defect_11 (by decide) ?_
  refine lv_isub hx hb d_Mo_defect_12 ?_
  refine hm_calli (va_runS (As := [.int sx, .int 0, .int ((nI n) - 1)]) (rest := []) ⟨hx, hb, hml, hown, hts⟩ (c_m_in l D t G ak av h3 sx 0 (nI n - 1)) ⟨cw9B 3 hts mw_437 mw_438 mw_428 rfl rfl (by decide +kernel) ⟨Nat.le_of_ble_eq_true rfl, Nat.le_of_ble_eq_true rfl⟩, hts _ mw_439⟩ (hP_S kE_ok hE hH) rfl rfl hl.1 rfl (lv_room (Nat.le_of_ble_eq_true rfl)) d_Mo_defect_13 ⟨Nat.le_of_ble_eq_true rfl, Nat.le_of_ble_eq_true rfl⟩) hLo (fun r5 h6 H7 locs hp9 hH z8 hLo => ?_)
  have hz : s.heap.size ≤ H7.size := Nat.le_trans hz z8
  obtain ⟨hr9, rfl⟩ := hp9
  rcases in9 (sx := sx) hn (by omega) with ⟨hi9, j, hj, hsx⟩ | ⟨hi9, ho⟩
  · skip
    rw [hi9] at hr9
    subst hr9
    subst hsx
    refine lv_if_ne (tgt := 21) hx hb d_Mo_defect_16 (by decide) (fun hc10 => ?_) (fun hc10 => absurd hc10 (by decide))
    refine lv_aload_n hx hb d_Mo_defect_21 rfl (lv_at hl 0 rfl) ?_
    refine hm_get (ci := 9) (v := .ref aSt) (C := R_Mo) (T := F_Mo) (N := 41) hx hb hts ig_Mo hown hK hH f_m rfl 4 (by decide) (hts _ mw_401) (fun _ h9 => h9) rfl d_Mo_defect_22 ?_
    refine lv_aload_n hx hb d_Mo_defect_25 rfl (lv_at hl 0 rfl) ?_
    refine hm_get (ci := 9) (v := .int 0) (C := R_Mo) (T := F_Mo) (N := 41) hx hb hts ig_Mo hown hK hH f_m rfl 2 (by decide) (hts _ mw_467) (fun _ h9 => h9) rfl d_Mo_defect_26 ?_
    refine lv_iload_n hx hb d_Mo_defect_29 rfl (lv_at hl 1 rfl) ?_
    refine lv_iadd hx hb d_Mo_defect_30 ?_
    refine hj_bald hx hb hK hH 0 f_aSt rfl j (Int32.zero_add _) (by omega) (by decide) d_Mo_defect_31 ?_
    refine lv_if_ne (tgt := 42) hx hb d_Mo_defect_32 (by decide) (fun hc11 => absurd (zSt j) hc11) (fun hc11 => ?_)
    refine lv_aload_n hx hb d_Mo_defect_35 rfl (lv_at hl 0 rfl) ?_
    refine hm_get (ci := 9) (v := .ref aDe) (C := R_Mo) (T := F_Mo) (N := 41) hx hb hts ig_Mo hown hK hH f_m rfl 5 (by decide) (hts _ mw_403) (fun _ h9 => h9) rfl d_Mo_defect_36 ?_
    refine lv_iload_n hx hb d_Mo_defect_39 rfl (lv_at hl 1 rfl) ?_
    refine lv_iconst (v := 1) hx hb d_Mo_defect_40 (by decide) ?_
    refine hj_zast hx hb hK hH hLo 1 f_aDe rfl j rfl (by omega) (by decide) d_Mo_defect_41 (fun H12 locs hH z13 hLo => ?_)
    have hz : s.heap.size ≤ H12.size := by rw [z13]; exact hz
    obtain ⟨h14, e15⟩ : ∃ z, z = hu h3 aDe (.inl ((t 1), 200, .inl (upd gDe j (vp_nar .boolean 1)))) := ⟨_, rfl⟩
    have hH : hm D vwCl G h14 H12 := by rw [e15]; exact hH
    have f_m : h14 mo = some (.inr (9, [.int 0, .int (nI n), .int 0, .ref aBy, .ref aSt, .ref aDe, .int 0, .int (-1), .int 0, .ref aPa, .int 1, .ref aIt, .ref aId, .ref aPr, .ref aNa, .ref aSi, .ref aSe, .ref aIw, .ref aEx, .ref aOl, .int 0, .ref aPl, .int 0, .int 0, .ref aTa, .ref aAt, .ref aLo, .int 0, .int 0, .ref aS1, .ref aS2, .ref aS3, .ref aS4, .ref aS5, .ref aS6, .int 0, .ref aO1, .ref aO2, .ref aO3, .ref aO4, .ref aO5])) := by rw [e15, hu_n (Ne.symm (h_neA f_aDe f_m))]; exact f_m
    have f_aSt : h14 aSt = some (.inl ((t 0), 400, .inl gSt)) := by rw [e15, hu_n (h_neL (k1 := 400) (k2 := 200) f_aSt f_aDe rfl rfl (by omega))]; exact f_aSt
    have f_aDe : h14 aDe = some (.inl ((t 1), 200, .inl (upd gDe j (vp_nar .boolean 1)))) := by rw [e15]; exact hu_s _ _ _
    refine lv_iconst (v := 1) hx hb d_Mo_defect_42 (by decide) ?_
    exact W.zret (v := 1) hx hb hr (by decide) (fun t9 ht hW => ⟨1, h14, rfl, Or.inl ⟨rfl, j, hj, rfl⟩, by rw [ht]; exact hH, by rw [ht]; exact hz⟩) hLo d_Mo_defect_43
  · skip
    rw [hi9] at hr9
    subst hr9
    refine lv_if_ne (tgt := 21) hx hb d_Mo_defect_16 (by decide) (fun hc16 => absurd rfl hc16) (fun hc16 => ?_)
    refine lv_iconst (v := 0) hx hb d_Mo_defect_19 (by decide) ?_
    exact W.zret (v := 0) hx hb hr (by decide) (fun t9 ht hW => ⟨0, h3, rfl, Or.inr ⟨rfl, ho⟩, by rw [ht]; exact hH, by rw [ht]; exact hz⟩) hLo d_Mo_defect_20

set_option maxHeartbeats 4000000 in
set_option maxRecDepth 100000 in
theorem c_m_power (l : Launch) (D : va_G) (t : Nat → ClassId) (G : hG) (ak av : Nat → Nat) (h : hM) (mo n : Nat) (v : Int32) (hM : FrM t h mo n) : Met l y_Mo_power (.code y_Mo_power b_Mo_power 2 none :: lw_g) { frames := 0, cells := 0, slots := 0, locals := 0 } (hP (kE D t G ak av) D vwCl G h [.ref mo, .int v]) (hQv D vwCl G (fun h' => True)) 0 0 G.P := by
  refine Met.ofW (cc := b_Mo_power) (maxL := 2) (ret := none) (by decide) rfl ?_
  intro p e s m args below meth c s₁ Bd hml hv
  obtain ⟨ha, hE, hH⟩ := hv
  have hx := Bd.exec
  have hb := Bd.bytes
  have hr := Bd.returns
  have hts : ∀ w ∈ lw_g, w.before args s = true := fun w hw => atoms_spec (ws := (.code y_Mo_power b_Mo_power 2 none :: lw_g)) Bd.pre w (List.mem_cons_of_mem _ hw)
  have hown : s.vm.findClass R_Mo = some m.cls := findClass_of_methodNamed Bd.named
  have hlocks := Bd.notSynchronized
  have hK := hE.1
  have hH0 := hH
  have hLo : hLc G.P [] := hLc_nil
  have hz : s.heap.size ≤ s.heap.size := Nat.le_refl _
  have hkp : kp [] h h := kp_rf
  have hl := lv_entry [.ref mo, .int v] (n := 2) (Nat.le_of_ble_eq_true rfl)
  rw [show entryFrame m args 2 = F0 m 0 ((lg_sl [.ref mo, .int v] ++ List.replicate (2 - (lg_sl [.ref mo, .int v]).length) Slot.unset).toArray) [] from (by rw [ha]; exact lg_entry_eq m [.ref mo, .int v] 2)]
  generalize (lg_sl [.ref mo, .int v] ++ List.replicate (2 - (lg_sl [.ref mo, .int v]).length) Slot.unset).toArray = ls at hl ⊢
  have hl : lv_has ls 2 [(0, .ref mo), (1, .int v)] := hl
  obtain ⟨aBy, aSt, aDe, aPa, aIt, aId, aPr, aNa, aSi, aSe, aIw, aEx, aOl, aPl, aTa, aAt, aLo, aS1, aS2, aS3, aS4, aS5, aS6, aO1, aO2, aO3, aO4, aO5, gBy, gSt, gDe, gPa, gIt, gId, gPr, gSi, gSe, gIw, gEx, gOl, gPl, gTa, gAt, gLo, gNa, f_m, f_aBy, f_aSt, f_aDe, f_aPa, f_aIt, f_aId, f_aPr, f_aNa, f_aSi, f_aSe, f_aIw, f_aEx, f_aOl, f_aPl, f_aTa, f_aAt, f_aLo, zBy, zSt, zDe, zIt, zId, zPr, zSi, zSe, zEx, ne_aIt_aId, ne_aIt_aPr, ne_aIt_aSi, ne_aIt_aSe, ne_aIt_aEx, ne_aId_aPr, ne_aId_aSi, ne_aId_aSe, ne_aId_aEx, ne_aPr_aSi, ne_aPr_aSe, ne_aPr_aEx, ne_aSi_aSe, ne_aSi_aEx, ne_aSe_aEx, ne_aId_aAt, ne_aId_aLo, ne_aAt_aLo, ne_aId_aOl, ne_aIt_aIw, ne_aId_aIw, ne_aPr_aIw, ne_aSi_aIw, ne_aSe_aIw, ne_aIw_aEx, ne_aEx_aOl, ne_aOl_aAt, ne_aOl_aLo, hn40, hn⟩ := hM
  refine lv_aload_n hx hb d_Mo_power_0 rfl (lv_at hl 0 rfl) ?_
  refine lv_iconst (v := 0) hx hb d_Mo_power_1 (by decide) ?_
  refine hm_put (ci := 9) (v := .int 0) (ty := .int) (C := R_Mo) (T := F_Mo) (N := 41) hx hb hts ig_Mo t_Mo tk_Mo nm_Mo hown hK hH hLo f_m rfl 0 (by decide) (hts _ mw_432) (fun _ h9 => h9) rfl (by decide +kernel) rfl rfl (Nat.le_of_ble_eq_true rfl) d_Mo_power_2 (fun H1 locs hH z2 hLo => ?_)
  have hz : s.heap.size ≤ H1.size := by rw [z2]; exact hz
  obtain ⟨h3, e4⟩ : ∃ z, z = hu h mo (.inr (9, [.int 0, .int (nI n), .int 0, .ref aBy, .ref aSt, .ref aDe, .int 0, .int (-1), .int 0, .ref aPa, .int 1, .ref aIt, .ref aId, .ref aPr, .ref aNa, .ref aSi, .ref aSe, .ref aIw, .ref aEx, .ref aOl, .int 0, .ref aPl, .int 0, .int 0, .ref aTa, .ref aAt, .ref aLo, .int 0, .int 0, .ref aS1, .ref aS2, .ref aS3, .ref aS4, .ref aS5, .ref aS6, .int 0, .ref aO1, .ref aO2, .ref aO3, .ref aO4, .ref aO5])) := ⟨_, rfl⟩
  have hH : hm D vwCl G h3 H1 := by rw [e4]; exact hH
  have f_m : h3 mo = some (.inr (9, [.int 0, .int (nI n), .int 0, .ref aBy, .ref aSt, .ref aDe, .int 0, .int (-1), .int 0, .ref aPa, .int 1, .ref aIt, .ref aId, .ref aPr, .ref aNa, .ref aSi, .ref aSe, .ref aIw, .ref aEx, .ref aOl, .int 0, .ref aPl, .int 0, .int 0, .ref aTa, .ref aAt, .ref aLo, .int 0, .int 0, .ref aS1, .ref aS2, .ref aS3, .ref aS4, .ref aS5, .ref aS6, .int 0, .ref aO1, .ref aO2, .ref aO3, .ref aO4, .ref aO5])) := by rw [e4]; exact hu_s _ _ _
  refine lv_aload_n hx hb d_Mo_power_5 rfl (lv_at hl 0 rfl) ?_
  refine hm_get (ci := 9) (v := .int 0) (C := R_Mo) (T := F_Mo) (N := 41) hx hb hts ig_Mo hown hK hH f_m rfl 6 (by decide) (hts _ mw_440) (fun _ h9 => h9) rfl d_Mo_power_6 ?_
  refine lv_if_ne (tgt := 25) hx hb d_Mo_power_9 (by decide) (fun hc5 => absurd rfl hc5) (fun hc5 => ?_)
  refine lv_aload_n hx hb d_Mo_power_12 rfl (lv_at hl 0 rfl) ?_
  refine lv_iload_n hx hb d_Mo_power_13 rfl (lv_at hl 1 rfl) ?_
  refine lv_if_ge (tgt := 21) hx hb d_Mo_power_14 (by decide) (fun hc6 => ?_) (fun hc6 => ?_)
  · skip
    refine lv_iload_n hx hb d_Mo_power_21 rfl (lv_at hl 1 rfl) ?_
    refine hm_put (ci := 9) (v := .int v) (ty := .int) (C := R_Mo) (T := F_Mo) (N := 41) hx hb hts ig_Mo t_Mo tk_Mo nm_Mo hown hK hH hLo f_m rfl 7 (by decide) (hts _ mw_426) (fun _ h9 => h9) rfl (by decide +kernel) rfl rfl (Nat.le_of_ble_eq_true rfl) d_Mo_power_22 (fun H7 locs hH z8 hLo => ?_)
    have hz : s.heap.size ≤ H7.size := by rw [z8]; exact hz
    obtain ⟨h9, e10⟩ : ∃ z, z = hu h3 mo (.inr (9, [.int 0, .int (nI n), .int 0, .ref aBy, .ref aSt, .ref aDe, .int 0, .int v, .int 0, .ref aPa, .int 1, .ref aIt, .ref aId, .ref aPr, .ref aNa, .ref aSi, .ref aSe, .ref aIw, .ref aEx, .ref aOl, .int 0, .ref aPl, .int 0, .int 0, .ref aTa, .ref aAt, .ref aLo, .int 0, .int 0, .ref aS1, .ref aS2, .ref aS3, .ref aS4, .ref aS5, .ref aS6, .int 0, .ref aO1, .ref aO2, .ref aO3, .ref aO4, .ref aO5])) := ⟨_, rfl⟩
    have hH : hm D vwCl G h9 H7 := by rw [e10]; exact hH
    have f_m : h9 mo = some (.inr (9, [.int 0, .int (nI n), .int 0, .ref aBy, .ref aSt, .ref aDe, .int 0, .int v, .int 0, .ref aPa, .int 1, .ref aIt, .ref aId, .ref aPr, .ref aNa, .ref aSi, .ref aSe, .ref aIw, .ref aEx, .ref aOl, .int 0, .ref aPl, .int 0, .int 0, .ref aTa, .ref aAt, .ref aLo, .int 0, .int 0, .ref aS1, .ref aS2, .ref aS3, .ref aS4, .ref aS5, .ref aS6, .int 0, .ref aO1, .ref aO2, .ref aO3, .ref aO4, .ref aO5])) := by rw [e10]; exact hu_s _ _ _
    exact W.vret hx hb hr (fun t9 ht hW => ⟨h9, rfl, trivial, by rw [ht]; exact hH, by rw [ht]; exact hz⟩) hLo d_Mo_power_25
  · skip
    refine lv_iconst (v := -1) hx hb d_Mo_power_17 (by decide) ?_
    refine lv_goto (tgt := 22) hx hb d_Mo_power_18 (by decide) ?_
    refine hm_put (ci := 9) (v := .int (-1)) (ty := .int) (C := R_Mo) (T := F_Mo) (N := 41) hx hb hts ig_Mo t_Mo tk_Mo nm_Mo hown hK hH hLo f_m rfl 7 (by decide) (hts _ mw_426) (fun _ h9 => h9) rfl (by decide +kernel) rfl rfl (Nat.le_of_ble_eq_true rfl) d_Mo_power_22 (fun H11 locs hH z12 hLo => ?_)
    have hz : s.heap.size ≤ H11.size := by rw [z12]; exact hz
    obtain ⟨h13, e14⟩ : ∃ z, z = hu h3 mo (.inr (9, [.int 0, .int (nI n), .int 0, .ref aBy, .ref aSt, .ref aDe, .int 0, .int (-1), .int 0, .ref aPa, .int 1, .ref aIt, .ref aId, .ref aPr, .ref aNa, .ref aSi, .ref aSe, .ref aIw, .ref aEx, .ref aOl, .int 0, .ref aPl, .int 0, .int 0, .ref aTa, .ref aAt, .ref aLo, .int 0, .int 0, .ref aS1, .ref aS2, .ref aS3, .ref aS4, .ref aS5, .ref aS6, .int 0, .ref aO1, .ref aO2, .ref aO3, .ref aO4, .ref aO5])) := ⟨_, rfl⟩
    have hH : hm D vwCl G h13 H11 := by rw [e14]; exact hH
    have f_m : h13 mo = some (.inr (9, [.int 0, .int (nI n), .int 0, .ref aBy, .ref aSt, .ref aDe, .int 0, .int (-1), .int 0, .ref aPa, .int 1, .ref aIt, .ref aId, .ref aPr, .ref aNa, .ref aSi, .ref aSe, .ref aIw, .ref aEx, .ref aOl, .int 0, .ref aPl, .int 0, .int 0, .ref aTa, .ref aAt, .ref aLo, .int 0, .int 0, .ref aS1, .ref aS2, .ref aS3, .ref aS4, .ref aS5, .ref aS6, .int 0, .ref aO1, .ref aO2, .ref aO3, .ref aO4, .ref aO5])) := by rw [e14]; exact hu_s _ _ _
    exact W.vret hx hb hr (fun t9 ht hW => ⟨h13, rfl, trivial, by rw [ht]; exact hH, by rw [ht]; exact hz⟩) hLo d_Mo_power_25

set_option maxHeartbeats 4000000 in
set_option maxRecDepth 100000 in
theorem c_m_state (l : Launch) (D : va_G) (t : Nat → ClassId) (G : hG) (ak av : Nat → Nat) (h : hM) (mo n : Nat) (sx : Int32) (hM : FrM t h mo n) : Met l y_Mo_state (.code y_Mo_state b_Mo_state 2 (some .int) :: lw_g) { frames := 1, cells := 0, slots := 0, locals := 22 } (hP (kE D t G ak av) D vwCl G h [.ref mo, .int sx]) (hQi D vwCl G (fun r h' => (r = 0 ∧ ∃ j, j < n ∧ sx = nI j) ∨ (r = -1 ∧ (sx < 0 ∨ nI n ≤ sx)))) 0 0 G.P := by
  refine Met.ofW (cc := b_Mo_state) (maxL := 2) (ret := (some .int)) (by decide) rfl ?_
  intro p e s m args below meth c s₁ Bd hml hv
  obtain ⟨ha, hE, hH⟩ := hv
  have hx := Bd.exec
  have hb := Bd.bytes
  have hr := Bd.returns
  have hts : ∀ w ∈ lw_g, w.before args s = true := fun w hw => atoms_spec (ws := (.code y_Mo_state b_Mo_state 2 (some .int) :: lw_g)) Bd.pre w (List.mem_cons_of_mem _ hw)
  have hown : s.vm.findClass R_Mo = some m.cls := findClass_of_methodNamed Bd.named
  have hlocks := Bd.notSynchronized
  have hK := hE.1
  have hH0 := hH
  have hLo : hLc G.P [] := hLc_nil
  have hz : s.heap.size ≤ s.heap.size := Nat.le_refl _
  have hkp : kp [] h h := kp_rf
  have hl := lv_entry [.ref mo, .int sx] (n := 2) (Nat.le_of_ble_eq_true rfl)
  rw [show entryFrame m args 2 = F0 m 0 ((lg_sl [.ref mo, .int sx] ++ List.replicate (2 - (lg_sl [.ref mo, .int sx]).length) Slot.unset).toArray) [] from (by rw [ha]; exact lg_entry_eq m [.ref mo, .int sx] 2)]
  generalize (lg_sl [.ref mo, .int sx] ++ List.replicate (2 - (lg_sl [.ref mo, .int sx]).length) Slot.unset).toArray = ls at hl ⊢
  have hl : lv_has ls 2 [(0, .ref mo), (1, .int sx)] := hl
  obtain ⟨aBy, aSt, aDe, aPa, aIt, aId, aPr, aNa, aSi, aSe, aIw, aEx, aOl, aPl, aTa, aAt, aLo, aS1, aS2, aS3, aS4, aS5, aS6, aO1, aO2, aO3, aO4, aO5, gBy, gSt, gDe, gPa, gIt, gId, gPr, gSi, gSe, gIw, gEx, gOl, gPl, gTa, gAt, gLo, gNa, f_m, f_aBy, f_aSt, f_aDe, f_aPa, f_aIt, f_aId, f_aPr, f_aNa, f_aSi, f_aSe, f_aIw, f_aEx, f_aOl, f_aPl, f_aTa, f_aAt, f_aLo, zBy, zSt, zDe, zIt, zId, zPr, zSi, zSe, zEx, ne_aIt_aId, ne_aIt_aPr, ne_aIt_aSi, ne_aIt_aSe, ne_aIt_aEx, ne_aId_aPr, ne_aId_aSi, ne_aId_aSe, ne_aId_aEx, ne_aPr_aSi, ne_aPr_aSe, ne_aPr_aEx, ne_aSi_aSe, ne_aSi_aEx, ne_aSe_aEx, ne_aId_aAt, ne_aId_aLo, ne_aAt_aLo, ne_aId_aOl, ne_aIt_aIw, ne_aId_aIw, ne_aPr_aIw, ne_aSi_aIw, ne_aSe_aIw, ne_aIw_aEx, ne_aEx_aOl, ne_aOl_aAt, ne_aOl_aLo, hn40, hn⟩ := hM
  refine lv_aload_n hx hb d_Mo_state_0 rfl (lv_at hl 0 rfl) ?_
  refine lv_iconst (v := 0) hx hb d_Mo_state_1 (by decide) ?_
  refine hm_put (ci := 9) (v := .int 0) (ty := .int) (C := R_Mo) (T := F_Mo) (N := 41) hx hb hts ig_Mo t_Mo tk_Mo nm_Mo hown hK hH hLo f_m rfl 0 (by decide) (hts _ mw_432) (fun _ h9 => h9) rfl (by decide +kernel) rfl rfl (Nat.le_of_ble_eq_true rfl) d_Mo_state_2 (fun H1 locs hH z2 hLo => ?_)
  have hz : s.heap.size ≤ H1.size := by rw [z2]; exact hz
  obtain ⟨h3, e4⟩ : ∃ z, z = hu h mo (.inr (9, [.int 0, .int (nI n), .int 0, .ref aBy, .ref aSt, .ref aDe, .int 0, .int (-1), .int 0, .ref aPa, .int 1, .ref aIt, .ref aId, .ref aPr, .ref aNa, .ref aSi, .ref aSe, .ref aIw, .ref aEx, .ref aOl, .int 0, .ref aPl, .int 0, .int 0, .ref aTa, .ref aAt, .ref aLo, .int 0, .int 0, .ref aS1, .ref aS2, .ref aS3, .ref aS4, .ref aS5, .ref aS6, .int 0, .ref aO1, .ref aO2, .ref aO3, .ref aO4, .ref aO5])) := ⟨_, rfl⟩
  have hH : hm D vwCl G h3 H1 := by rw [e4]; exact hH
  have f_aSt : h3 aSt = some (.inl ((t 0), 400, .inl gSt)) := by rw [e4, hu_n (h_neA f_aSt f_m)]; exact f_aSt
  have f_m : h3 mo = some (.inr (9, [.int 0, .int (nI n), .int 0, .ref aBy, .ref aSt, .ref aDe, .int 0, .int (-1), .int 0, .ref aPa, .int 1, .ref aIt, .ref aId, .ref aPr, .ref aNa, .ref aSi, .ref aSe, .ref aIw, .ref aEx, .ref aOl, .int 0, .ref aPl, .int 0, .int 0, .ref aTa, .ref aAt, .ref aLo, .int 0, .int 0, .ref aS1, .ref aS2, .ref aS3, .ref aS4, .ref aS5, .ref aS6, .int 0, .ref aO1, .ref aO2, .ref aO3, .ref aO4, .ref aO5])) := by rw [e4]; exact hu_s _ _ _
  refine lv_iload_n hx hb d_Mo_state_5 rfl (lv_at hl 1 rfl) ?_
  refine lv_iconst (v := 0) hx hb d_Mo_state_6 (by decide) ?_
  refine lv_aload_n hx hb d_Mo_state_7 rfl (lv_at hl 0 rfl) ?_
  refine hm_get (ci := 9) (v := .int (nI n)) (C := R_Mo) (T := F_Mo) (N := 41) hx hb hts ig_Mo hown hK hH f_m rfl 1 (by decide) (hts _ mw_425) (fun _ h9 => h9) rfl d_Mo_state_8 ?_
  refine lv_iconst (v := 1) hx hb d_Mo_state_11 (by decide) ?_
  refine lv_isub hx hb d_Mo_state_12 ?_
  refine hm_calli (va_runS (As := [.int sx, .int 0, .int ((nI n) - 1)]) (rest := []) ⟨hx, hb, hml, hown, hts⟩ (c_m_in l D t G ak av h3 sx 0 (nI n - 1)) ⟨cw9B 3 hts mw_437 mw_438 mw_428 rfl rfl (by decide +kernel) ⟨Nat.le_of_ble_eq_true rfl, Nat.le_of_ble_eq_true rfl⟩, hts _ mw_439⟩ (hP_S kE_ok hE hH) rfl rfl hl.1 rfl (lv_room (Nat.le_of_ble_eq_true rfl)) d_Mo_state_13 ⟨Nat.le_of_ble_eq_true rfl, Nat.le_of_ble_eq_true rfl⟩) hLo (fun r5 h6 H7 locs hp9 hH z8 hLo => ?_)
  have hz : s.heap.size ≤ H7.size := Nat.le_trans hz z8
  obtain ⟨hr9, rfl⟩ := hp9
  rcases in9 (sx := sx) hn (by omega) with ⟨hi9, j, hj, hsx⟩ | ⟨hi9, ho⟩
  · skip
    rw [hi9] at hr9
    subst hr9
    subst hsx
    refine lv_if_eq (tgt := 33) hx hb d_Mo_state_16 (by decide) (fun hc10 => absurd hc10 (by decide)) (fun hc10 => ?_)
    refine lv_aload_n hx hb d_Mo_state_19 rfl (lv_at hl 0 rfl) ?_
    refine hm_get (ci := 9) (v := .ref aSt) (C := R_Mo) (T := F_Mo) (N := 41) hx hb hts ig_Mo hown hK hH f_m rfl 4 (by decide) (hts _ mw_401) (fun _ h9 => h9) rfl d_Mo_state_20 ?_
    refine lv_aload_n hx hb d_Mo_state_23 rfl (lv_at hl 0 rfl) ?_
    refine hm_get (ci := 9) (v := .int 0) (C := R_Mo) (T := F_Mo) (N := 41) hx hb hts ig_Mo hown hK hH f_m rfl 2 (by decide) (hts _ mw_467) (fun _ h9 => h9) rfl d_Mo_state_24 ?_
    refine lv_iload_n hx hb d_Mo_state_27 rfl (lv_at hl 1 rfl) ?_
    refine lv_iadd hx hb d_Mo_state_28 ?_
    refine hj_bald hx hb hK hH 0 f_aSt rfl j (Int32.zero_add _) (by omega) (by decide) d_Mo_state_29 ?_
    refine lv_goto (tgt := 34) hx hb d_Mo_state_30 (by decide) ?_
    exact W.iret (v := gSt j) hx hb hr (fun t9 ht hW => ⟨gSt j, h3, rfl, Or.inl ⟨zSt j, j, hj, rfl⟩, by rw [ht]; exact hH, by rw [ht]; exact hz⟩) hLo d_Mo_state_34
  · skip
    rw [hi9] at hr9
    subst hr9
    refine lv_if_eq (tgt := 33) hx hb d_Mo_state_16 (by decide) (fun hc11 => ?_) (fun hc11 => absurd rfl hc11)
    refine lv_iconst (v := -1) hx hb d_Mo_state_33 (by decide) ?_
    exact W.iret (v := (-1)) hx hb hr (fun t9 ht hW => ⟨(-1), h3, rfl, Or.inr ⟨rfl, ho⟩, by rw [ht]; exact hH, by rw [ht]; exact hz⟩) hLo d_Mo_state_34

set_option maxHeartbeats 4000000 in
set_option maxRecDepth 100000 in
theorem c_m_writes (l : Launch) (D : va_G) (t : Nat → ClassId) (G : hG) (ak av : Nat → Nat) (h : hM) (mo n : Nat) (hM : FrM t h mo n) : Met l y_Mo_writes (.code y_Mo_writes b_Mo_writes 1 (some .int) :: lw_g) { frames := 0, cells := 0, slots := 0, locals := 0 } (hP (kE D t G ak av) D vwCl G h [.ref mo]) (hQi D vwCl G (fun r h' => r = 0)) 0 0 G.P := by
  refine Met.ofW (cc := b_Mo_writes) (maxL := 1) (ret := (some .int)) (by decide) rfl ?_
  intro p e s m args below meth c s₁ Bd hml hv
  obtain ⟨ha, hE, hH⟩ := hv
  have hx := Bd.exec
  have hb := Bd.bytes
  have hr := Bd.returns
  have hts : ∀ w ∈ lw_g, w.before args s = true := fun w hw => atoms_spec (ws := (.code y_Mo_writes b_Mo_writes 1 (some .int) :: lw_g)) Bd.pre w (List.mem_cons_of_mem _ hw)
  have hown : s.vm.findClass R_Mo = some m.cls := findClass_of_methodNamed Bd.named
  have hlocks := Bd.notSynchronized
  have hK := hE.1
  have hH0 := hH
  have hLo : hLc G.P [] := hLc_nil
  have hz : s.heap.size ≤ s.heap.size := Nat.le_refl _
  have hkp : kp [] h h := kp_rf
  have hl := lv_entry [.ref mo] (n := 1) (Nat.le_of_ble_eq_true rfl)
  rw [show entryFrame m args 1 = F0 m 0 ((lg_sl [.ref mo] ++ List.replicate (1 - (lg_sl [.ref mo]).length) Slot.unset).toArray) [] from (by rw [ha]; exact lg_entry_eq m [.ref mo] 1)]
  generalize (lg_sl [.ref mo] ++ List.replicate (1 - (lg_sl [.ref mo]).length) Slot.unset).toArray = ls at hl ⊢
  have hl : lv_has ls 1 [(0, .ref mo)] := hl
  obtain ⟨aBy, aSt, aDe, aPa, aIt, aId, aPr, aNa, aSi, aSe, aIw, aEx, aOl, aPl, aTa, aAt, aLo, aS1, aS2, aS3, aS4, aS5, aS6, aO1, aO2, aO3, aO4, aO5, gBy, gSt, gDe, gPa, gIt, gId, gPr, gSi, gSe, gIw, gEx, gOl, gPl, gTa, gAt, gLo, gNa, f_m, f_aBy, f_aSt, f_aDe, f_aPa, f_aIt, f_aId, f_aPr, f_aNa, f_aSi, f_aSe, f_aIw, f_aEx, f_aOl, f_aPl, f_aTa, f_aAt, f_aLo, zBy, zSt, zDe, zIt, zId, zPr, zSi, zSe, zEx, ne_aIt_aId, ne_aIt_aPr, ne_aIt_aSi, ne_aIt_aSe, ne_aIt_aEx, ne_aId_aPr, ne_aId_aSi, ne_aId_aSe, ne_aId_aEx, ne_aPr_aSi, ne_aPr_aSe, ne_aPr_aEx, ne_aSi_aSe, ne_aSi_aEx, ne_aSe_aEx, ne_aId_aAt, ne_aId_aLo, ne_aAt_aLo, ne_aId_aOl, ne_aIt_aIw, ne_aId_aIw, ne_aPr_aIw, ne_aSi_aIw, ne_aSe_aIw, ne_aIw_aEx, ne_aEx_aOl, ne_aOl_aAt, ne_aOl_aLo, hn40, hn⟩ := hM
  refine lv_aload_n hx hb d_Mo_writes_0 rfl (lv_at hl 0 rfl) ?_
  refine lv_iconst (v := 0) hx hb d_Mo_writes_1 (by decide) ?_
  refine hm_put (ci := 9) (v := .int 0) (ty := .int) (C := R_Mo) (T := F_Mo) (N := 41) hx hb hts ig_Mo t_Mo tk_Mo nm_Mo hown hK hH hLo f_m rfl 0 (by decide) (hts _ mw_432) (fun _ h9 => h9) rfl (by decide +kernel) rfl rfl (Nat.le_of_ble_eq_true rfl) d_Mo_writes_2 (fun H1 locs hH z2 hLo => ?_)
  have hz : s.heap.size ≤ H1.size := by rw [z2]; exact hz
  obtain ⟨h3, e4⟩ : ∃ z, z = hu h mo (.inr (9, [.int 0, .int (nI n), .int 0, .ref aBy, .ref aSt, .ref aDe, .int 0, .int (-1), .int 0, .ref aPa, .int 1, .ref aIt, .ref aId, .ref aPr, .ref aNa, .ref aSi, .ref aSe, .ref aIw, .ref aEx, .ref aOl, .int 0, .ref aPl, .int 0, .int 0, .ref aTa, .ref aAt, .ref aLo, .int 0, .int 0, .ref aS1, .ref aS2, .ref aS3, .ref aS4, .ref aS5, .ref aS6, .int 0, .ref aO1, .ref aO2, .ref aO3, .ref aO4, .ref aO5])) := ⟨_, rfl⟩
  have hH : hm D vwCl G h3 H1 := by rw [e4]; exact hH
  have f_m : h3 mo = some (.inr (9, [.int 0, .int (nI n), .int 0, .ref aBy, .ref aSt, .ref aDe, .int 0, .int (-1), .int 0, .ref aPa, .int 1, .ref aIt, .ref aId, .ref aPr, .ref aNa, .ref aSi, .ref aSe, .ref aIw, .ref aEx, .ref aOl, .int 0, .ref aPl, .int 0, .int 0, .ref aTa, .ref aAt, .ref aLo, .int 0, .int 0, .ref aS1, .ref aS2, .ref aS3, .ref aS4, .ref aS5, .ref aS6, .int 0, .ref aO1, .ref aO2, .ref aO3, .ref aO4, .ref aO5])) := by rw [e4]; exact hu_s _ _ _
  refine lv_aload_n hx hb d_Mo_writes_5 rfl (lv_at hl 0 rfl) ?_
  refine hm_get (ci := 9) (v := .int 0) (C := R_Mo) (T := F_Mo) (N := 41) hx hb hts ig_Mo hown hK hH f_m rfl 8 (by decide) (hts _ mw_468) (fun _ h9 => h9) rfl d_Mo_writes_6 ?_
  exact W.iret (v := 0) hx hb hr (fun t9 ht hW => ⟨0, h3, rfl, rfl, by rw [ht]; exact hH, by rw [ht]; exact hz⟩) hLo d_Mo_writes_9

set_option maxHeartbeats 4000000 in
set_option maxRecDepth 100000 in
theorem c_m_get0 (l : Launch) (D : va_G) (t : Nat → ClassId) (G : hG) (ak av : Nat → Nat) (h : hM) (mo n aBy aSt aDe aPa aIt aId aPr aNa aSi aSe aIw aEx aOl aPl aTa aAt aLo aS1 aS2 aS3 aS4 aS5 aS6 aO1 aO2 aO3 aO4 aO5 q9 : Nat) (gBy : Nat → Int32) (f_m : h mo = some (.inr (9, [.int 0, .int (nI n), .int 0, .ref aBy, .ref aSt, .ref aDe, .int 0, .int (-1), .int 0, .ref aPa, .int 1, .ref aIt, .ref aId, .ref aPr, .ref aNa, .ref aSi, .ref aSe, .ref aIw, .ref aEx, .ref aOl, .int 0, .ref aPl, .int 0, .int 0, .ref aTa, .ref aAt, .ref aLo, .int 0, .int 0, .ref aS1, .ref aS2, .ref aS3, .ref aS4, .ref aS5, .ref aS6, .int 0, .ref aO1, .ref aO2, .ref aO3, .ref aO4, .ref aO5]))) (f_aBy : h aBy = some (.inl ((t 0), 819200, .inl gBy))) (zBy : ∀ j, gBy j = 0) (hq9 : q9 < 409600) : Met l y_Mo_get (.code y_Mo_get b_Mo_get 2 (some .int) :: lw_g) { frames := 0, cells := 0, slots := 0, locals := 0 } (hP (kE D t G ak av) D vwCl G h [.ref mo, .int (nI q9)]) (hQi D vwCl G (fun r h' => r = 0 ∧ h = h')) 0 0 G.P := by
  refine Met.ofW (cc := b_Mo_get) (maxL := 2) (ret := (some .int)) (by decide) rfl ?_
  intro p e s m args below meth c s₁ Bd hml hv
  obtain ⟨ha, hE, hH⟩ := hv
  have hx := Bd.exec
  have hb := Bd.bytes
  have hr := Bd.returns
  have hts : ∀ w ∈ lw_g, w.before args s = true := fun w hw => atoms_spec (ws := (.code y_Mo_get b_Mo_get 2 (some .int) :: lw_g)) Bd.pre w (List.mem_cons_of_mem _ hw)
  have hown : s.vm.findClass R_Mo = some m.cls := findClass_of_methodNamed Bd.named
  have hlocks := Bd.notSynchronized
  have hK := hE.1
  have hH0 := hH
  have hLo : hLc G.P [] := hLc_nil
  have hz : s.heap.size ≤ s.heap.size := Nat.le_refl _
  have hkp : kp [] h h := kp_rf
  have hl := lv_entry [.ref mo, .int (nI q9)] (n := 2) (Nat.le_of_ble_eq_true rfl)
  rw [show entryFrame m args 2 = F0 m 0 ((lg_sl [.ref mo, .int (nI q9)] ++ List.replicate (2 - (lg_sl [.ref mo, .int (nI q9)]).length) Slot.unset).toArray) [] from (by rw [ha]; exact lg_entry_eq m [.ref mo, .int (nI q9)] 2)]
  generalize (lg_sl [.ref mo, .int (nI q9)] ++ List.replicate (2 - (lg_sl [.ref mo, .int (nI q9)]).length) Slot.unset).toArray = ls at hl ⊢
  have hl : lv_has ls 2 [(0, .ref mo), (1, .int (nI q9))] := hl
  refine lv_aload_n hx hb d_Mo_get_0 rfl (lv_at hl 0 rfl) ?_
  refine hm_get (ci := 9) (v := .ref aBy) (C := R_Mo) (T := F_Mo) (N := 41) hx hb hts ig_Mo hown hK hH f_m rfl 3 (by decide) (hts _ mw_400) (fun _ h9 => h9) rfl d_Mo_get_1 ?_
  refine lv_sipush (v := 2048) hx hb d_Mo_get_4 (by decide) ?_
  refine lv_aload_n hx hb d_Mo_get_7 rfl (lv_at hl 0 rfl) ?_
  refine hm_get (ci := 9) (v := .int 0) (C := R_Mo) (T := F_Mo) (N := 41) hx hb hts ig_Mo hown hK hH f_m rfl 2 (by decide) (hts _ mw_467) (fun _ h9 => h9) rfl d_Mo_get_8 ?_
  refine lv_imul hx hb d_Mo_get_11 ?_
  refine lv_iload_n hx hb d_Mo_get_12 rfl (lv_at hl 1 rfl) ?_
  refine lv_iadd hx hb d_Mo_get_13 ?_
  refine hj_bald hx hb hK hH 0 f_aBy rfl q9 (by rw [show (2048 : Int32) * 0 = 0 from rfl]; exact Int32.zero_add _) (by omega) (by decide) d_Mo_get_14 ?_
  refine lv_sipush (v := 255) hx hb d_Mo_get_15 (by decide) ?_
  refine lv_iand hx hb d_Mo_get_18 ?_
  exact W.iret (v := (gBy q9) &&& 255) hx hb hr (fun t9 ht hW => ⟨(gBy q9) &&& 255, h, rfl, ⟨by rw [zBy q9]; rfl, rfl⟩, by rw [ht]; exact hH, by rw [ht]; exact hz⟩) hLo d_Mo_get_19

set_option maxHeartbeats 4000000 in
set_option maxRecDepth 100000 in
theorem c_m_byteAt (l : Launch) (D : va_G) (t : Nat → ClassId) (G : hG) (ak av : Nat → Nat) (h : hM) (mo n : Nat) (a9 : Int32) (hM : FrM t h mo n) : Met l y_Mo_byteAt (.code y_Mo_byteAt b_Mo_byteAt 2 (some .int) :: lw_g) { frames := 1, cells := 0, slots := 0, locals := 22 } (hP (kE D t G ak av) D vwCl G h [.ref mo, .int a9]) (hQi D vwCl G (fun r h' => r = bytV n a9)) 0 0 G.P := by
  refine Met.ofW (cc := b_Mo_byteAt) (maxL := 2) (ret := (some .int)) (by decide) rfl ?_
  intro p e s m args below meth c s₁ Bd hml hv
  obtain ⟨ha, hE, hH⟩ := hv
  have hx := Bd.exec
  have hb := Bd.bytes
  have hr := Bd.returns
  have hts : ∀ w ∈ lw_g, w.before args s = true := fun w hw => atoms_spec (ws := (.code y_Mo_byteAt b_Mo_byteAt 2 (some .int) :: lw_g)) Bd.pre w (List.mem_cons_of_mem _ hw)
  have hown : s.vm.findClass R_Mo = some m.cls := findClass_of_methodNamed Bd.named
  have hlocks := Bd.notSynchronized
  have hK := hE.1
  have hH0 := hH
  have hLo : hLc G.P [] := hLc_nil
  have hz : s.heap.size ≤ s.heap.size := Nat.le_refl _
  have hkp : kp [] h h := kp_rf
  have hl := lv_entry [.ref mo, .int a9] (n := 2) (Nat.le_of_ble_eq_true rfl)
  rw [show entryFrame m args 2 = F0 m 0 ((lg_sl [.ref mo, .int a9] ++ List.replicate (2 - (lg_sl [.ref mo, .int a9]).length) Slot.unset).toArray) [] from (by rw [ha]; exact lg_entry_eq m [.ref mo, .int a9] 2)]
  generalize (lg_sl [.ref mo, .int a9] ++ List.replicate (2 - (lg_sl [.ref mo, .int a9]).length) Slot.unset).toArray = ls at hl ⊢
  have hl : lv_has ls 2 [(0, .ref mo), (1, .int a9)] := hl
  obtain ⟨aBy, aSt, aDe, aPa, aIt, aId, aPr, aNa, aSi, aSe, aIw, aEx, aOl, aPl, aTa, aAt, aLo, aS1, aS2, aS3, aS4, aS5, aS6, aO1, aO2, aO3, aO4, aO5, gBy, gSt, gDe, gPa, gIt, gId, gPr, gSi, gSe, gIw, gEx, gOl, gPl, gTa, gAt, gLo, gNa, f_m, f_aBy, f_aSt, f_aDe, f_aPa, f_aIt, f_aId, f_aPr, f_aNa, f_aSi, f_aSe, f_aIw, f_aEx, f_aOl, f_aPl, f_aTa, f_aAt, f_aLo, zBy, zSt, zDe, zIt, zId, zPr, zSi, zSe, zEx, ne_aIt_aId, ne_aIt_aPr, ne_aIt_aSi, ne_aIt_aSe, ne_aIt_aEx, ne_aId_aPr, ne_aId_aSi, ne_aId_aSe, ne_aId_aEx, ne_aPr_aSi, ne_aPr_aSe, ne_aPr_aEx, ne_aSi_aSe, ne_aSi_aEx, ne_aSe_aEx, ne_aId_aAt, ne_aId_aLo, ne_aAt_aLo, ne_aId_aOl, ne_aIt_aIw, ne_aId_aIw, ne_aPr_aIw, ne_aSi_aIw, ne_aSe_aIw, ne_aIw_aEx, ne_aEx_aOl, ne_aOl_aAt, ne_aOl_aLo, hn40, hn⟩ := hM
  refine lv_aload_n hx hb d_Mo_byteAt_0 rfl (lv_at hl 0 rfl) ?_
  refine lv_iconst (v := 0) hx hb d_Mo_byteAt_1 (by decide) ?_
  refine hm_put (ci := 9) (v := .int 0) (ty := .int) (C := R_Mo) (T := F_Mo) (N := 41) hx hb hts ig_Mo t_Mo tk_Mo nm_Mo hown hK hH hLo f_m rfl 0 (by decide) (hts _ mw_432) (fun _ h9 => h9) rfl (by decide +kernel) rfl rfl (Nat.le_of_ble_eq_true rfl) d_Mo_byteAt_2 (fun H1 locs hH z2 hLo => ?_)
  have hz : s.heap.size ≤ H1.size := by rw [z2]; exact hz
  obtain ⟨h3, e4⟩ : ∃ z, z = hu h mo (.inr (9, [.int 0, .int (nI n), .int 0, .ref aBy, .ref aSt, .ref aDe, .int 0, .int (-1), .int 0, .ref aPa, .int 1, .ref aIt, .ref aId, .ref aPr, .ref aNa, .ref aSi, .ref aSe, .ref aIw, .ref aEx, .ref aOl, .int 0, .ref aPl, .int 0, .int 0, .ref aTa, .ref aAt, .ref aLo, .int 0, .int 0, .ref aS1, .ref aS2, .ref aS3, .ref aS4, .ref aS5, .ref aS6, .int 0, .ref aO1, .ref aO2, .ref aO3, .ref aO4, .ref aO5])) := ⟨_, rfl⟩
  have hH : hm D vwCl G h3 H1 := by rw [e4]; exact hH
  have f_aBy : h3 aBy = some (.inl ((t 0), 819200, .inl gBy)) := by rw [e4, hu_n (h_neA f_aBy f_m)]; exact f_aBy
  have f_m : h3 mo = some (.inr (9, [.int 0, .int (nI n), .int 0, .ref aBy, .ref aSt, .ref aDe, .int 0, .int (-1), .int 0, .ref aPa, .int 1, .ref aIt, .ref aId, .ref aPr, .ref aNa, .ref aSi, .ref aSe, .ref aIw, .ref aEx, .ref aOl, .int 0, .ref aPl, .int 0, .int 0, .ref aTa, .ref aAt, .ref aLo, .int 0, .int 0, .ref aS1, .ref aS2, .ref aS3, .ref aS4, .ref aS5, .ref aS6, .int 0, .ref aO1, .ref aO2, .ref aO3, .ref aO4, .ref aO5])) := by rw [e4]; exact hu_s _ _ _
  refine lv_iload_n hx hb d_Mo_byteAt_5 rfl (lv_at hl 1 rfl) ?_
  refine lv_iconst (v := 0) hx hb d_Mo_byteAt_6 (by decide) ?_
  refine lv_sipush (v := 2048) hx hb d_Mo_byteAt_7 (by decide) ?_
  refine lv_aload_n hx hb d_Mo_byteAt_10 rfl (lv_at hl 0 rfl) ?_
  refine hm_get (ci := 9) (v := .int (nI n)) (C := R_Mo) (T := F_Mo) (N := 41) hx hb hts ig_Mo hown hK hH f_m rfl 1 (by decide) (hts _ mw_425) (fun _ h9 => h9) rfl d_Mo_byteAt_11 ?_
  refine lv_imul hx hb d_Mo_byteAt_14 ?_
  refine lv_iconst (v := 1) hx hb d_Mo_byteAt_15 (by decide) ?_
  refine lv_isub hx hb d_Mo_byteAt_16 ?_
  refine hm_calli (va_runS (As := [.int a9, .int 0, .int ((2048 * (nI n)) - 1)]) (rest := []) ⟨hx, hb, hml, hown, hts⟩ (c_m_in l D t G ak av h3 a9 0 (2048 * nI n - 1)) ⟨cw9B 3 hts mw_437 mw_438 mw_428 rfl rfl (by decide +kernel) ⟨Nat.le_of_ble_eq_true rfl, Nat.le_of_ble_eq_true rfl⟩, hts _ mw_439⟩ (hP_S kE_ok hE hH) rfl rfl hl.1 rfl (lv_room (Nat.le_of_ble_eq_true rfl)) d_Mo_byteAt_17 ⟨Nat.le_of_ble_eq_true rfl, Nat.le_of_ble_eq_true rfl⟩) hLo (fun r5 h6 H7 locs hp9 hH z8 hLo => ?_)
  have hz : s.heap.size ≤ H7.size := Nat.le_trans hz z8
  obtain ⟨rfl, rfl⟩ := hp9
  refine lv_if_eq (tgt := 31) hx hb d_Mo_byteAt_20 (by decide) (fun hc10 => ?_) (fun hc10 => ?_)
  · skip
    refine lv_iconst (v := -1) hx hb d_Mo_byteAt_31 (by decide) ?_
    exact W.iret (v := (-1)) hx hb hr (fun t9 ht hW => ⟨(-1), h3, rfl, (by_0 hn hn40 hc10).symm, by rw [ht]; exact hH, by rw [ht]; exact hz⟩) hLo d_Mo_byteAt_32
  · skip
    obtain ⟨hb9, q9, hq9, rfl⟩ := by_1 hn hn40 hc10
    refine lv_aload_n hx hb d_Mo_byteAt_23 rfl (lv_at hl 0 rfl) ?_
    refine lv_iload_n hx hb d_Mo_byteAt_24 rfl (lv_at hl 1 rfl) ?_
    refine hm_calli (va_runV (As := [.int (nI q9)]) (b := mo) (rest := []) ⟨hx, hb, hml, hown, hts⟩ (c_m_get0 l D t G ak av h3 mo n aBy aSt aDe aPa aIt aId aPr aNa aSi aSe aIw aEx aOl aPl aTa aAt aLo aS1 aS2 aS3 aS4 aS5 aS6 aO1 aO2 aO3 aO4 aO5 q9 gBy f_m f_aBy zBy (by omega)) ⟨cw9B 1 hts mw_469 mw_470 mw_428 rfl rfl (by decide +kernel) ⟨Nat.le_of_ble_eq_true rfl, Nat.le_of_ble_eq_true rfl⟩, hts _ mw_471, hts _ mw_472⟩ (hP_V (q := (R_Mo, F_Mo, 41)) kE_ok hE hK hH f_m rfl) rfl rfl hl.1 rfl (lv_room (Nat.le_of_ble_eq_true rfl)) d_Mo_byteAt_25 ⟨Nat.le_of_ble_eq_true rfl, Nat.le_of_ble_eq_true rfl⟩) hLo (fun r11 h12 H13 locs hp15 hH z14 hLo => ?_)
    have hz : s.heap.size ≤ H13.size := Nat.le_trans hz z14
    obtain ⟨rfl, rfl⟩ := hp15
    refine lv_goto (tgt := 32) hx hb d_Mo_byteAt_28 (by decide) ?_
    exact W.iret (v := 0) hx hb hr (fun t9 ht hW => ⟨0, h3, rfl, hb9.symm, by rw [ht]; exact hH, by rw [ht]; exact hz⟩) hLo d_Mo_byteAt_32

set_option maxHeartbeats 4000000 in
set_option maxRecDepth 100000 in
theorem c_m_spoil (l : Launch) (D : va_G) (t : Nat → ClassId) (G : hG) (ak av : Nat → Nat) (h : hM) (mo n : Nat) (a9 vv : Int32) (hM : FrM t h mo n) : Met l y_Mo_spoil (.code y_Mo_spoil b_Mo_spoil 4 (some .int) :: lw_g) { frames := 1, cells := 0, slots := 0, locals := 22 } (hP (kE D t G ak av) D vwCl G h [.ref mo, .int a9, .int vv]) (hQi D vwCl G (fun r h' => r = -1)) 0 0 G.P := by
  refine Met.ofW (cc := b_Mo_spoil) (maxL := 4) (ret := (some .int)) (by decide) rfl ?_
  intro p e s m args below meth c s₁ Bd hml hv
  obtain ⟨ha, hE, hH⟩ := hv
  have hx := Bd.exec
  have hb := Bd.bytes
  have hr := Bd.returns
  have hts : ∀ w ∈ lw_g, w.before args s = true := fun w hw => atoms_spec (ws := (.code y_Mo_spoil b_Mo_spoil 4 (some .int) :: lw_g)) Bd.pre w (List.mem_cons_of_mem _ hw)
  have hown : s.vm.findClass R_Mo = some m.cls := findClass_of_methodNamed Bd.named
  have hlocks := Bd.notSynchronized
  have hK := hE.1
  have hH0 := hH
  have hLo : hLc G.P [] := hLc_nil
  have hz : s.heap.size ≤ s.heap.size := Nat.le_refl _
  have hkp : kp [] h h := kp_rf
  have hl := lv_entry [.ref mo, .int a9, .int vv] (n := 4) (Nat.le_of_ble_eq_true rfl)
  rw [show entryFrame m args 4 = F0 m 0 ((lg_sl [.ref mo, .int a9, .int vv] ++ List.replicate (4 - (lg_sl [.ref mo, .int a9, .int vv]).length) Slot.unset).toArray) [] from (by rw [ha]; exact lg_entry_eq m [.ref mo, .int a9, .int vv] 4)]
  generalize (lg_sl [.ref mo, .int a9, .int vv] ++ List.replicate (4 - (lg_sl [.ref mo, .int a9, .int vv]).length) Slot.unset).toArray = ls at hl ⊢
  have hl : lv_has ls 4 [(0, .ref mo), (1, .int a9), (2, .int vv)] := hl
  obtain ⟨aBy, aSt, aDe, aPa, aIt, aId, aPr, aNa, aSi, aSe, aIw, aEx, aOl, aPl, aTa, aAt, aLo, aS1, aS2, aS3, aS4, aS5, aS6, aO1, aO2, aO3, aO4, aO5, gBy, gSt, gDe, gPa, gIt, gId, gPr, gSi, gSe, gIw, gEx, gOl, gPl, gTa, gAt, gLo, gNa, f_m, f_aBy, f_aSt, f_aDe, f_aPa, f_aIt, f_aId, f_aPr, f_aNa, f_aSi, f_aSe, f_aIw, f_aEx, f_aOl, f_aPl, f_aTa, f_aAt, f_aLo, zBy, zSt, zDe, zIt, zId, zPr, zSi, zSe, zEx, ne_aIt_aId, ne_aIt_aPr, ne_aIt_aSi, ne_aIt_aSe, ne_aIt_aEx, ne_aId_aPr, ne_aId_aSi, ne_aId_aSe, ne_aId_aEx, ne_aPr_aSi, ne_aPr_aSe, ne_aPr_aEx, ne_aSi_aSe, ne_aSi_aEx, ne_aSe_aEx, ne_aId_aAt, ne_aId_aLo, ne_aAt_aLo, ne_aId_aOl, ne_aIt_aIw, ne_aId_aIw, ne_aPr_aIw, ne_aSi_aIw, ne_aSe_aIw, ne_aIw_aEx, ne_aEx_aOl, ne_aOl_aAt, ne_aOl_aLo, hn40, hn⟩ := hM
  refine lv_aload_n hx hb d_Mo_spoil_0 rfl (lv_at hl 0 rfl) ?_
  refine lv_iconst (v := 0) hx hb d_Mo_spoil_1 (by decide) ?_
  refine hm_put (ci := 9) (v := .int 0) (ty := .int) (C := R_Mo) (T := F_Mo) (N := 41) hx hb hts ig_Mo t_Mo tk_Mo nm_Mo hown hK hH hLo f_m rfl 0 (by decide) (hts _ mw_432) (fun _ h9 => h9) rfl (by decide +kernel) rfl rfl (Nat.le_of_ble_eq_true rfl) d_Mo_spoil_2 (fun H1 locs hH z2 hLo => ?_)
  have hz : s.heap.size ≤ H1.size := by rw [z2]; exact hz
  obtain ⟨h3, e4⟩ : ∃ z, z = hu h mo (.inr (9, [.int 0, .int (nI n), .int 0, .ref aBy, .ref aSt, .ref aDe, .int 0, .int (-1), .int 0, .ref aPa, .int 1, .ref aIt, .ref aId, .ref aPr, .ref aNa, .ref aSi, .ref aSe, .ref aIw, .ref aEx, .ref aOl, .int 0, .ref aPl, .int 0, .int 0, .ref aTa, .ref aAt, .ref aLo, .int 0, .int 0, .ref aS1, .ref aS2, .ref aS3, .ref aS4, .ref aS5, .ref aS6, .int 0, .ref aO1, .ref aO2, .ref aO3, .ref aO4, .ref aO5])) := ⟨_, rfl⟩
  have hH : hm D vwCl G h3 H1 := by rw [e4]; exact hH
  have f_aSt : h3 aSt = some (.inl ((t 0), 400, .inl gSt)) := by rw [e4, hu_n (h_neA f_aSt f_m)]; exact f_aSt
  have f_m : h3 mo = some (.inr (9, [.int 0, .int (nI n), .int 0, .ref aBy, .ref aSt, .ref aDe, .int 0, .int (-1), .int 0, .ref aPa, .int 1, .ref aIt, .ref aId, .ref aPr, .ref aNa, .ref aSi, .ref aSe, .ref aIw, .ref aEx, .ref aOl, .int 0, .ref aPl, .int 0, .int 0, .ref aTa, .ref aAt, .ref aLo, .int 0, .int 0, .ref aS1, .ref aS2, .ref aS3, .ref aS4, .ref aS5, .ref aS6, .int 0, .ref aO1, .ref aO2, .ref aO3, .ref aO4, .ref aO5])) := by rw [e4]; exact hu_s _ _ _
  refine lv_iload_n hx hb d_Mo_spoil_5 rfl (lv_at hl 1 rfl) ?_
  refine lv_iconst (v := 0) hx hb d_Mo_spoil_6 (by decide) ?_
  refine lv_sipush (v := 2048) hx hb d_Mo_spoil_7 (by decide) ?_
  refine lv_aload_n hx hb d_Mo_spoil_10 rfl (lv_at hl 0 rfl) ?_
  refine hm_get (ci := 9) (v := .int (nI n)) (C := R_Mo) (T := F_Mo) (N := 41) hx hb hts ig_Mo hown hK hH f_m rfl 1 (by decide) (hts _ mw_425) (fun _ h9 => h9) rfl d_Mo_spoil_11 ?_
  refine lv_imul hx hb d_Mo_spoil_14 ?_
  refine lv_iconst (v := 1) hx hb d_Mo_spoil_15 (by decide) ?_
  refine lv_isub hx hb d_Mo_spoil_16 ?_
  refine hm_calli (va_runS (As := [.int a9, .int 0, .int ((2048 * (nI n)) - 1)]) (rest := []) ⟨hx, hb, hml, hown, hts⟩ (c_m_in l D t G ak av h3 a9 0 (2048 * nI n - 1)) ⟨cw9B 3 hts mw_437 mw_438 mw_428 rfl rfl (by decide +kernel) ⟨Nat.le_of_ble_eq_true rfl, Nat.le_of_ble_eq_true rfl⟩, hts _ mw_439⟩ (hP_S kE_ok hE hH) rfl rfl hl.1 rfl (lv_room (Nat.le_of_ble_eq_true rfl)) d_Mo_spoil_17 ⟨Nat.le_of_ble_eq_true rfl, Nat.le_of_ble_eq_true rfl⟩) hLo (fun r5 h6 H7 locs hp9 hH z8 hLo => ?_)
  have hz : s.heap.size ≤ H7.size := Nat.le_trans hz z8
  obtain ⟨rfl, rfl⟩ := hp9
  refine lv_if_eq (tgt := 42) hx hb d_Mo_spoil_20 (by decide) (fun hc10 => ?_) (fun hc10 => ?_)
  · skip
    refine lv_iconst (v := -1) hx hb d_Mo_spoil_42 (by decide) ?_
    exact W.iret (v := (-1)) hx hb hr (fun t9 ht hW => ⟨(-1), h3, rfl, rfl, by rw [ht]; exact hH, by rw [ht]; exact hz⟩) hLo d_Mo_spoil_43
  · skip
    obtain ⟨hb9, q9, hq9, rfl⟩ := by_1 hn hn40 hc10
    refine lv_aload_n hx hb d_Mo_spoil_23 rfl (lv_at hl 0 rfl) ?_
    refine hm_get (ci := 9) (v := .ref aSt) (C := R_Mo) (T := F_Mo) (N := 41) hx hb hts ig_Mo hown hK hH f_m rfl 4 (by decide) (hts _ mw_401) (fun _ h9 => h9) rfl d_Mo_spoil_24 ?_
    refine lv_aload_n hx hb d_Mo_spoil_27 rfl (lv_at hl 0 rfl) ?_
    refine hm_get (ci := 9) (v := .int 0) (C := R_Mo) (T := F_Mo) (N := 41) hx hb hts ig_Mo hown hK hH f_m rfl 2 (by decide) (hts _ mw_467) (fun _ h9 => h9) rfl d_Mo_spoil_28 ?_
    refine lv_iload_n hx hb d_Mo_spoil_31 rfl (lv_at hl 1 rfl) ?_
    refine lv_sipush (v := 2048) hx hb d_Mo_spoil_32 (by decide) ?_
    refine lv_idiv hx hb d_Mo_spoil_35 (by decide) ?_
    refine lv_iadd hx hb d_Mo_spoil_36 ?_
    refine hj_bald hx hb hK hH 0 f_aSt rfl (q9 / 2048) (by rw [Int32.zero_add]; exact pk_div (by omega) (by decide) (by decide)) (by omega) (by decide) d_Mo_spoil_37 ?_
    refine lv_iconst (v := 1) hx hb d_Mo_spoil_38 (by decide) ?_
    refine lv_icmp_eq (tgt := 44) hx hb d_Mo_spoil_39 (by decide) (fun hc11 => absurd hc11 (by rw [zSt]; decide)) (fun hc11 => ?_)
    refine lv_iconst (v := -1) hx hb d_Mo_spoil_42 (by decide) ?_
    exact W.iret (v := (-1)) hx hb hr (fun t9 ht hW => ⟨(-1), h3, rfl, rfl, by rw [ht]; exact hH, by rw [ht]; exact hz⟩) hLo d_Mo_spoil_43

set_option maxHeartbeats 4000000 in
set_option maxRecDepth 100000 in
theorem c_m_isWr (l : Launch) (D : va_G) (t : Nat → ClassId) (G : hG) (ak av : Nat → Nat) (h : hM) (mo n aBy aSt aDe aPa aIt aId aPr aNa aSi aSe aIw aEx aOl aPl aTa aAt aLo aS1 aS2 aS3 aS4 aS5 aS6 aO1 aO2 aO3 aO4 aO5 : Nat) (gSt : Nat → Int32) (sx : Int32) (f_m : h mo = some (.inr (9, [.int 0, .int (nI n), .int 0, .ref aBy, .ref aSt, .ref aDe, .int 0, .int (-1), .int 0, .ref aPa, .int 1, .ref aIt, .ref aId, .ref aPr, .ref aNa, .ref aSi, .ref aSe, .ref aIw, .ref aEx, .ref aOl, .int 0, .ref aPl, .int 0, .int 0, .ref aTa, .ref aAt, .ref aLo, .int 0, .int 0, .ref aS1, .ref aS2, .ref aS3, .ref aS4, .ref aS5, .ref aS6, .int 0, .ref aO1, .ref aO2, .ref aO3, .ref aO4, .ref aO5]))) (f_aSt : h aSt = some (.inl ((t 0), 400, .inl gSt))) (zSt : ∀ j, gSt j = 0) (hn40 : 40 ≤ n) (hn : n ≤ 200) : Met l y_Mo_isWrittenSector (.code y_Mo_isWrittenSector b_Mo_isWrittenSector 2 (some .boolean) :: lw_g) { frames := 1, cells := 0, slots := 0, locals := 22 } (hP (kE D t G ak av) D vwCl G h [.ref mo, .int sx]) (hQi D vwCl G (fun r h' => r = 0 ∧ h = h')) 0 0 G.P := by
  refine Met.ofW (cc := b_Mo_isWrittenSector) (maxL := 2) (ret := (some .boolean)) (by decide) rfl ?_
  intro p e s m args below meth c s₁ Bd hml hv
  obtain ⟨ha, hE, hH⟩ := hv
  have hx := Bd.exec
  have hb := Bd.bytes
  have hr := Bd.returns
  have hts : ∀ w ∈ lw_g, w.before args s = true := fun w hw => atoms_spec (ws := (.code y_Mo_isWrittenSector b_Mo_isWrittenSector 2 (some .boolean) :: lw_g)) Bd.pre w (List.mem_cons_of_mem _ hw)
  have hown : s.vm.findClass R_Mo = some m.cls := findClass_of_methodNamed Bd.named
  have hlocks := Bd.notSynchronized
  have hK := hE.1
  have hH0 := hH
  have hLo : hLc G.P [] := hLc_nil
  have hz : s.heap.size ≤ s.heap.size := Nat.le_refl _
  have hkp : kp [] h h := kp_rf
  have hl := lv_entry [.ref mo, .int sx] (n := 2) (Nat.le_of_ble_eq_true rfl)
  rw [show entryFrame m args 2 = F0 m 0 ((lg_sl [.ref mo, .int sx] ++ List.replicate (2 - (lg_sl [.ref mo, .int sx]).length) Slot.unset).toArray) [] from (by rw [ha]; exact lg_entry_eq m [.ref mo, .int sx] 2)]
  generalize (lg_sl [.ref mo, .int sx] ++ List.replicate (2 - (lg_sl [.ref mo, .int sx]).length) Slot.unset).toArray = ls at hl ⊢
  have hl : lv_has ls 2 [(0, .ref mo), (1, .int sx)] := hl
  refine lv_iload_n hx hb d_Mo_isWrittenSector_0 rfl (lv_at hl 1 rfl) ?_
  refine lv_iconst (v := 0) hx hb d_Mo_isWrittenSector_1 (by decide) ?_
  refine lv_aload_n hx hb d_Mo_isWrittenSector_2 rfl (lv_at hl 0 rfl) ?_
  refine hm_get (ci := 9) (v := .int (nI n)) (C := R_Mo) (T := F_Mo) (N := 41) hx hb hts ig_Mo hown hK hH f_m rfl 1 (by decide) (hts _ mw_425) (fun _ h9 => h9) rfl d_Mo_isWrittenSector_3 ?_
  refine lv_iconst (v := 1) hx hb d_Mo_isWrittenSector_6 (by decide) ?_
  refine lv_isub hx hb d_Mo_isWrittenSector_7 ?_
  refine hm_calli (va_runS (As := [.int sx, .int 0, .int ((nI n) - 1)]) (rest := []) ⟨hx, hb, hml, hown, hts⟩ (c_m_in l D t G ak av h sx 0 (nI n - 1)) ⟨cw9B 3 hts mw_437 mw_438 mw_428 rfl rfl (by decide +kernel) ⟨Nat.le_of_ble_eq_true rfl, Nat.le_of_ble_eq_true rfl⟩, hts _ mw_439⟩ (hP_S kE_ok hE hH) rfl rfl hl.1 rfl (lv_room (Nat.le_of_ble_eq_true rfl)) d_Mo_isWrittenSector_8 ⟨Nat.le_of_ble_eq_true rfl, Nat.le_of_ble_eq_true rfl⟩) hLo (fun r1 h2 H3 locs hp5 hH z4 hLo => ?_)
  have hz : s.heap.size ≤ H3.size := Nat.le_trans hz z4
  obtain ⟨hr9, rfl⟩ := hp5
  rcases in9 (sx := sx) hn (by omega) with ⟨hi9, j, hj, hsx⟩ | ⟨hi9, ho⟩
  · skip
    rw [hi9] at hr9
    subst hr9
    subst hsx
    refine lv_if_eq (tgt := 33) hx hb d_Mo_isWrittenSector_11 (by decide) (fun hc6 => absurd hc6 (by decide)) (fun hc6 => ?_)
    refine lv_aload_n hx hb d_Mo_isWrittenSector_14 rfl (lv_at hl 0 rfl) ?_
    refine hm_get (ci := 9) (v := .ref aSt) (C := R_Mo) (T := F_Mo) (N := 41) hx hb hts ig_Mo hown hK hH f_m rfl 4 (by decide) (hts _ mw_401) (fun _ h9 => h9) rfl d_Mo_isWrittenSector_15 ?_
    refine lv_aload_n hx hb d_Mo_isWrittenSector_18 rfl (lv_at hl 0 rfl) ?_
    refine hm_get (ci := 9) (v := .int 0) (C := R_Mo) (T := F_Mo) (N := 41) hx hb hts ig_Mo hown hK hH f_m rfl 2 (by decide) (hts _ mw_467) (fun _ h9 => h9) rfl d_Mo_isWrittenSector_19 ?_
    refine lv_iload_n hx hb d_Mo_isWrittenSector_22 rfl (lv_at hl 1 rfl) ?_
    refine lv_iadd hx hb d_Mo_isWrittenSector_23 ?_
    refine hj_bald hx hb hK hH 0 f_aSt rfl j (Int32.zero_add _) (by omega) (by decide) d_Mo_isWrittenSector_24 ?_
    refine lv_iconst (v := 1) hx hb d_Mo_isWrittenSector_25 (by decide) ?_
    refine lv_icmp_ne (tgt := 33) hx hb d_Mo_isWrittenSector_26 (by decide) (fun hc7 => ?_) (fun hc7 => absurd hc7 (by rw [zSt]; decide))
    refine lv_iconst (v := 0) hx hb d_Mo_isWrittenSector_33 (by decide) ?_
    exact W.zret (v := 0) hx hb hr (by decide) (fun t9 ht hW => ⟨0, h, rfl, ⟨rfl, rfl⟩, by rw [ht]; exact hH, by rw [ht]; exact hz⟩) hLo d_Mo_isWrittenSector_34
  · skip
    rw [hi9] at hr9
    subst hr9
    refine lv_if_eq (tgt := 33) hx hb d_Mo_isWrittenSector_11 (by decide) (fun hc8 => ?_) (fun hc8 => absurd rfl hc8)
    refine lv_iconst (v := 0) hx hb d_Mo_isWrittenSector_33 (by decide) ?_
    exact W.zret (v := 0) hx hb hr (by decide) (fun t9 ht hW => ⟨0, h, rfl, ⟨rfl, rfl⟩, by rw [ht]; exact hH, by rw [ht]; exact hz⟩) hLo d_Mo_isWrittenSector_34

set_option maxHeartbeats 4000000 in
set_option maxRecDepth 100000 in
theorem c_m_isMark (l : Launch) (D : va_G) (t : Nat → ClassId) (G : hG) (ak av : Nat → Nat) (h : hM) (mo n aBy aSt aDe aPa aIt aId aPr aNa aSi aSe aIw aEx aOl aPl aTa aAt aLo aS1 aS2 aS3 aS4 aS5 aS6 aO1 aO2 aO3 aO4 aO5 : Nat) (gSt : Nat → Int32) (sx : Int32) (f_m : h mo = some (.inr (9, [.int 0, .int (nI n), .int 0, .ref aBy, .ref aSt, .ref aDe, .int 0, .int (-1), .int 0, .ref aPa, .int 1, .ref aIt, .ref aId, .ref aPr, .ref aNa, .ref aSi, .ref aSe, .ref aIw, .ref aEx, .ref aOl, .int 0, .ref aPl, .int 0, .int 0, .ref aTa, .ref aAt, .ref aLo, .int 0, .int 0, .ref aS1, .ref aS2, .ref aS3, .ref aS4, .ref aS5, .ref aS6, .int 0, .ref aO1, .ref aO2, .ref aO3, .ref aO4, .ref aO5]))) (f_aSt : h aSt = some (.inl ((t 0), 400, .inl gSt))) (zSt : ∀ j, gSt j = 0) (hn40 : 40 ≤ n) (hn : n ≤ 200) : Met l y_Mo_isMark (.code y_Mo_isMark b_Mo_isMark 4 (some .boolean) :: lw_g) { frames := 2, cells := 0, slots := 0, locals := 43 } (hP (kE D t G ak av) D vwCl G h [.ref mo, .int sx]) (hQi D vwCl G (fun r h' => r = 0 ∧ h = h')) 0 0 G.P := by
  refine Met.ofW (cc := b_Mo_isMark) (maxL := 4) (ret := (some .boolean)) (by decide) rfl ?_
  intro p e s m args below meth c s₁ Bd hml hv
  obtain ⟨ha, hE, hH⟩ := hv
  have hx := Bd.exec
  have hb := Bd.bytes
  have hr := Bd.returns
  have hts : ∀ w ∈ lw_g, w.before args s = true := fun w hw => atoms_spec (ws := (.code y_Mo_isMark b_Mo_isMark 4 (some .boolean) :: lw_g)) Bd.pre w (List.mem_cons_of_mem _ hw)
  have hown : s.vm.findClass R_Mo = some m.cls := findClass_of_methodNamed Bd.named
  have hlocks := Bd.notSynchronized
  have hK := hE.1
  have hH0 := hH
  have hLo : hLc G.P [] := hLc_nil
  have hz : s.heap.size ≤ s.heap.size := Nat.le_refl _
  have hkp : kp [] h h := kp_rf
  have hl := lv_entry [.ref mo, .int sx] (n := 4) (Nat.le_of_ble_eq_true rfl)
  rw [show entryFrame m args 4 = F0 m 0 ((lg_sl [.ref mo, .int sx] ++ List.replicate (4 - (lg_sl [.ref mo, .int sx]).length) Slot.unset).toArray) [] from (by rw [ha]; exact lg_entry_eq m [.ref mo, .int sx] 4)]
  generalize (lg_sl [.ref mo, .int sx] ++ List.replicate (4 - (lg_sl [.ref mo, .int sx]).length) Slot.unset).toArray = ls at hl ⊢
  have hl : lv_has ls 4 [(0, .ref mo), (1, .int sx)] := hl
  refine lv_sipush (v := 2048) hx hb d_Mo_isMark_0 (by decide) ?_
  refine lv_iload_n hx hb d_Mo_isMark_3 rfl (lv_at hl 1 rfl) ?_
  refine lv_imul hx hb d_Mo_isMark_4 ?_
  refine lv_istore_n (lv' := [(2, .int (2048 * sx)), (0, .ref mo), (1, .int sx)]) hx hb d_Mo_isMark_5 rfl hl (by decide) rfl (fun ls hl => ?_)
  refine lv_aload_n hx hb d_Mo_isMark_6 rfl (lv_at hl 1 rfl) ?_
  refine lv_iload_n hx hb d_Mo_isMark_7 rfl (lv_at hl 2 rfl) ?_
  refine hm_calli (va_runV (As := [.int sx]) (b := mo) (rest := []) ⟨hx, hb, hml, hown, hts⟩ (c_m_isWr l D t G ak av h mo n aBy aSt aDe aPa aIt aId aPr aNa aSi aSe aIw aEx aOl aPl aTa aAt aLo aS1 aS2 aS3 aS4 aS5 aS6 aO1 aO2 aO3 aO4 aO5 gSt sx f_m f_aSt zSt hn40 hn) ⟨cw9B 1 hts mw_473 mw_474 mw_428 rfl rfl (by decide +kernel) ⟨Nat.le_of_ble_eq_true rfl, Nat.le_of_ble_eq_true rfl⟩, hts _ mw_475, hts _ mw_476⟩ (hP_V (q := (R_Mo, F_Mo, 41)) kE_ok hE hK hH f_m rfl) rfl rfl hl.1 rfl (lv_room (Nat.le_of_ble_eq_true rfl)) d_Mo_isMark_8 ⟨Nat.le_of_ble_eq_true rfl, Nat.le_of_ble_eq_true rfl⟩) hLo (fun r1 h2 H3 locs hp5 hH z4 hLo => ?_)
  have hz : s.heap.size ≤ H3.size := Nat.le_trans hz z4
  obtain ⟨rfl, rfl⟩ := hp5
  refine lv_if_eq (tgt := 60) hx hb d_Mo_isMark_11 (by decide) (fun hc6 => ?_) (fun hc6 => absurd rfl hc6)
  refine lv_iconst (v := 0) hx hb d_Mo_isMark_60 (by decide) ?_
  exact W.zret (v := 0) hx hb hr (by decide) (fun t9 ht hW => ⟨0, h, rfl, ⟨rfl, rfl⟩, by rw [ht]; exact hH, by rw [ht]; exact hz⟩) hLo d_Mo_isMark_61

set_option maxHeartbeats 4000000 in
set_option maxRecDepth 100000 in
theorem c_m_markAt (l : Launch) (D : va_G) (t : Nat → ClassId) (G : hG) (ak av : Nat → Nat) (h : hM) (mo n aBy aSt aDe aPa aIt aId aPr aNa aSi aSe aIw aEx aOl aPl aTa aAt aLo aS1 aS2 aS3 aS4 aS5 aS6 aO1 aO2 aO3 aO4 aO5 : Nat) (gSt : Nat → Int32) (i9 : Int32) (f_m : h mo = some (.inr (9, [.int 0, .int (nI n), .int 0, .ref aBy, .ref aSt, .ref aDe, .int 0, .int (-1), .int 0, .ref aPa, .int 1, .ref aIt, .ref aId, .ref aPr, .ref aNa, .ref aSi, .ref aSe, .ref aIw, .ref aEx, .ref aOl, .int 0, .ref aPl, .int 0, .int 0, .ref aTa, .ref aAt, .ref aLo, .int 0, .int 0, .ref aS1, .ref aS2, .ref aS3, .ref aS4, .ref aS5, .ref aS6, .int 0, .ref aO1, .ref aO2, .ref aO3, .ref aO4, .ref aO5]))) (f_aSt : h aSt = some (.inl ((t 0), 400, .inl gSt))) (zSt : ∀ j, gSt j = 0) (hn40 : 40 ≤ n) (hn : n ≤ 200) : Met l y_Mo_markAt (.code y_Mo_markAt b_Mo_markAt 4 (some .int) :: lw_g) { frames := 3, cells := 0, slots := 0, locals := 66 } (hP (kE D t G ak av) D vwCl G h [.ref mo, .int i9]) (hQi D vwCl G (fun r h' => r = -1 ∧ h = h')) 0 0 G.P := by
  refine Met.ofW (cc := b_Mo_markAt) (maxL := 4) (ret := (some .int)) (by decide) rfl ?_
  intro p e s m args below meth c s₁ Bd hml hv
  obtain ⟨ha, hE, hH⟩ := hv
  have hx := Bd.exec
  have hb := Bd.bytes
  have hr := Bd.returns
  have hts : ∀ w ∈ lw_g, w.before args s = true := fun w hw => atoms_spec (ws := (.code y_Mo_markAt b_Mo_markAt 4 (some .int) :: lw_g)) Bd.pre w (List.mem_cons_of_mem _ hw)
  have hown : s.vm.findClass R_Mo = some m.cls := findClass_of_methodNamed Bd.named
  have hlocks := Bd.notSynchronized
  have hK := hE.1
  have hH0 := hH
  have hLo : hLc G.P [] := hLc_nil
  have hz : s.heap.size ≤ s.heap.size := Nat.le_refl _
  have hkp : kp [] h h := kp_rf
  have hl := lv_entry [.ref mo, .int i9] (n := 4) (Nat.le_of_ble_eq_true rfl)
  rw [show entryFrame m args 4 = F0 m 0 ((lg_sl [.ref mo, .int i9] ++ List.replicate (4 - (lg_sl [.ref mo, .int i9]).length) Slot.unset).toArray) [] from (by rw [ha]; exact lg_entry_eq m [.ref mo, .int i9] 4)]
  generalize (lg_sl [.ref mo, .int i9] ++ List.replicate (4 - (lg_sl [.ref mo, .int i9]).length) Slot.unset).toArray = ls at hl ⊢
  have hl : lv_has ls 4 [(0, .ref mo), (1, .int i9)] := hl
  refine lv_iload_n hx hb d_Mo_markAt_0 rfl (lv_at hl 1 rfl) ?_
  refine lv_istore_n (lv' := [(2, .int i9), (0, .ref mo), (1, .int i9)]) hx hb d_Mo_markAt_1 rfl hl (by decide) rfl (fun ls hl => ?_)
  refine lv_iconst (v := 0) hx hb d_Mo_markAt_2 (by decide) ?_
  refine lv_topi (fun v1 e2 => ?_)
  obtain rfl : v1 = nI 0 := e2.trans (by decide)
  refine lv_istore_n (lv' := [(3, .int (nI 0)), (2, .int i9), (0, .ref mo), (1, .int i9)]) hx hb d_Mo_markAt_3 rfl hl (by decide) rfl (fun ls hl => ?_)
  refine hm_loop (fun k ls H locs hh => ∃ (k9 : Nat), k = n - k9 ∧ lv_has ls 4 [(3, .int (nI k9)), (0, .ref mo), (1, .int i9), (2, .int i9)] ∧ hm D vwCl G hh H ∧ s.heap.size ≤ H.size ∧ hLc G.P locs ∧ hh mo = some (.inr (9, [.int 0, .int (nI n), .int 0, .ref aBy, .ref aSt, .ref aDe, .int 0, .int (-1), .int 0, .ref aPa, .int 1, .ref aIt, .ref aId, .ref aPr, .ref aNa, .ref aSi, .ref aSe, .ref aIw, .ref aEx, .ref aOl, .int 0, .ref aPl, .int 0, .int 0, .ref aTa, .ref aAt, .ref aLo, .int 0, .int 0, .ref aS1, .ref aS2, .ref aS3, .ref aS4, .ref aS5, .ref aS6, .int 0, .ref aO1, .ref aO2, .ref aO3, .ref aO4, .ref aO5])) ∧ hh aSt = some (.inl ((t 0), 400, .inl gSt)) ∧ (k9 ≤ n) ∧ (h = hh)) ?_ (hh := h) ⟨0, rfl, (lv_sub hl [0, 2, 3, 1] rfl), hH, hz, hLo, f_m, f_aSt, by omega, rfl⟩
  rintro k ls H locs hh ⟨k9, hk, hl, hH, hz, hLo, f_m, f_aSt, hk9, hhh⟩ ih
  refine lv_iload_n hx hb d_Mo_markAt_4 rfl (lv_at hl 0 rfl) ?_
  refine lv_aload_n hx hb d_Mo_markAt_5 rfl (lv_at hl 1 rfl) ?_
  refine hm_get (ci := 9) (v := .int (nI n)) (C := R_Mo) (T := F_Mo) (N := 41) hx hb hts ig_Mo hown hK hH f_m rfl 1 (by decide) (hts _ mw_425) (fun _ h9 => h9) rfl d_Mo_markAt_6 ?_
  refine lv_icmp_ge (tgt := 42) hx hb d_Mo_markAt_9 (by decide) (fun hc3 => ?_) (fun hc3 => ?_)
  · skip
    refine lv_iconst (v := -1) hx hb d_Mo_markAt_42 (by decide) ?_
    exact W.iret (v := (-1)) hx hb hr (fun t9 ht hW => ⟨(-1), hh, rfl, ⟨rfl, hhh⟩, by rw [ht]; exact hH, by rw [ht]; exact hz⟩) hLo d_Mo_markAt_43
  · skip
    have hk1 : k9 < n := (nI_ltI (by omega) (by omega)).mp (Int32.not_le.mp hc3)
    refine lv_iload_n hx hb d_Mo_markAt_12 rfl (lv_at hl 2 rfl) ?_
    refine lv_if_lt (tgt := 42) hx hb d_Mo_markAt_13 (by decide) (fun hc4 => ?_) (fun hc4 => ?_)
    · skip
      refine lv_iconst (v := -1) hx hb d_Mo_markAt_42 (by decide) ?_
      exact W.iret (v := (-1)) hx hb hr (fun t9 ht hW => ⟨(-1), hh, rfl, ⟨rfl, hhh⟩, by rw [ht]; exact hH, by rw [ht]; exact hz⟩) hLo d_Mo_markAt_43
    · skip
      refine lv_aload_n hx hb d_Mo_markAt_16 rfl (lv_at hl 1 rfl) ?_
      refine lv_iload_n hx hb d_Mo_markAt_17 rfl (lv_at hl 0 rfl) ?_
      refine hm_calli (va_runV (As := [.int (nI k9)]) (b := mo) (rest := []) ⟨hx, hb, hml, hown, hts⟩ (c_m_isMark l D t G ak av hh mo n aBy aSt aDe aPa aIt aId aPr aNa aSi aSe aIw aEx aOl aPl aTa aAt aLo aS1 aS2 aS3 aS4 aS5 aS6 aO1 aO2 aO3 aO4 aO5 gSt (nI k9) f_m f_aSt zSt hn40 hn) ⟨cw9B 1 hts mw_477 mw_478 mw_428 rfl rfl (by decide +kernel) ⟨Nat.le_of_ble_eq_true rfl, Nat.le_of_ble_eq_true rfl⟩, hts _ mw_479, hts _ mw_480⟩ (hP_V (q := (R_Mo, F_Mo, 41)) kE_ok hE hK hH f_m rfl) rfl rfl hl.1 rfl (lv_room (Nat.le_of_ble_eq_true rfl)) d_Mo_markAt_18 ⟨Nat.le_of_ble_eq_true rfl, Nat.le_of_ble_eq_true rfl⟩) hLo (fun r5 h6 H7 locs hp9 hH z8 hLo => ?_)
      have hz : s.heap.size ≤ H7.size := Nat.le_trans hz z8
      obtain ⟨rfl, rfl⟩ := hp9
      refine lv_if_ne (tgt := 27) hx hb d_Mo_markAt_21 (by decide) (fun hc10 => absurd rfl hc10) (fun hc10 => ?_)
      refine lv_goto (tgt := 36) hx hb d_Mo_markAt_24 (by decide) ?_
      refine lv_iinc (v := nI (k9 + 1)) (lv' := [(3, .int (nI (k9 + 1))), (0, .ref mo), (1, .int i9), (2, .int i9)]) hx hb d_Mo_markAt_36 hl (k := 0) rfl (nI_1 k9) (by decide) rfl (fun ls hl => ?_)
      refine lv_goto (tgt := 4) hx hb d_Mo_markAt_39 (by decide) ?_
      exact ih (n - (k9 + 1)) ls _ locs _ (by rw [hk]; omega) ⟨(k9 + 1), rfl, (lv_sub hl [0, 1, 2, 3] rfl), hH, hz, hLo, f_m, f_aSt, by omega, hhh⟩

set_option maxHeartbeats 4000000 in
set_option maxRecDepth 100000 in
theorem c_m_mark (l : Launch) (D : va_G) (t : Nat → ClassId) (G : hG) (ak av : Nat → Nat) (h : hM) (mo n : Nat) (i9 w9 : Int32) (hM : FrM t h mo n) : Met l y_Mo_mark (.code y_Mo_mark b_Mo_mark 4 (some .int) :: lw_g) { frames := 4, cells := 0, slots := 0, locals := 89 } (hP (kE D t G ak av) D vwCl G h [.ref mo, .int i9, .int w9]) (hQi D vwCl G (fun r h' => r = 0 ∧ ThM h' mo n 1)) 0 0 G.P := by
  refine Met.ofW (cc := b_Mo_mark) (maxL := 4) (ret := (some .int)) (by decide) rfl ?_
  intro p e s m args below meth c s₁ Bd hml hv
  obtain ⟨ha, hE, hH⟩ := hv
  have hx := Bd.exec
  have hb := Bd.bytes
  have hr := Bd.returns
  have hts : ∀ w ∈ lw_g, w.before args s = true := fun w hw => atoms_spec (ws := (.code y_Mo_mark b_Mo_mark 4 (some .int) :: lw_g)) Bd.pre w (List.mem_cons_of_mem _ hw)
  have hown : s.vm.findClass R_Mo = some m.cls := findClass_of_methodNamed Bd.named
  have hlocks := Bd.notSynchronized
  have hK := hE.1
  have hH0 := hH
  have hLo : hLc G.P [] := hLc_nil
  have hz : s.heap.size ≤ s.heap.size := Nat.le_refl _
  have hkp : kp [] h h := kp_rf
  have hl := lv_entry [.ref mo, .int i9, .int w9] (n := 4) (Nat.le_of_ble_eq_true rfl)
  rw [show entryFrame m args 4 = F0 m 0 ((lg_sl [.ref mo, .int i9, .int w9] ++ List.replicate (4 - (lg_sl [.ref mo, .int i9, .int w9]).length) Slot.unset).toArray) [] from (by rw [ha]; exact lg_entry_eq m [.ref mo, .int i9, .int w9] 4)]
  generalize (lg_sl [.ref mo, .int i9, .int w9] ++ List.replicate (4 - (lg_sl [.ref mo, .int i9, .int w9]).length) Slot.unset).toArray = ls at hl ⊢
  have hl : lv_has ls 4 [(0, .ref mo), (1, .int i9), (2, .int w9)] := hl
  obtain ⟨aBy, aSt, aDe, aPa, aIt, aId, aPr, aNa, aSi, aSe, aIw, aEx, aOl, aPl, aTa, aAt, aLo, aS1, aS2, aS3, aS4, aS5, aS6, aO1, aO2, aO3, aO4, aO5, gBy, gSt, gDe, gPa, gIt, gId, gPr, gSi, gSe, gIw, gEx, gOl, gPl, gTa, gAt, gLo, gNa, f_m, f_aBy, f_aSt, f_aDe, f_aPa, f_aIt, f_aId, f_aPr, f_aNa, f_aSi, f_aSe, f_aIw, f_aEx, f_aOl, f_aPl, f_aTa, f_aAt, f_aLo, zBy, zSt, zDe, zIt, zId, zPr, zSi, zSe, zEx, ne_aIt_aId, ne_aIt_aPr, ne_aIt_aSi, ne_aIt_aSe, ne_aIt_aEx, ne_aId_aPr, ne_aId_aSi, ne_aId_aSe, ne_aId_aEx, ne_aPr_aSi, ne_aPr_aSe, ne_aPr_aEx, ne_aSi_aSe, ne_aSi_aEx, ne_aSe_aEx, ne_aId_aAt, ne_aId_aLo, ne_aAt_aLo, ne_aId_aOl, ne_aIt_aIw, ne_aId_aIw, ne_aPr_aIw, ne_aSi_aIw, ne_aSe_aIw, ne_aIw_aEx, ne_aEx_aOl, ne_aOl_aAt, ne_aOl_aLo, hn40, hn⟩ := hM
  refine lv_aload_n hx hb d_Mo_mark_0 rfl (lv_at hl 0 rfl) ?_
  refine lv_iload_n hx hb d_Mo_mark_1 rfl (lv_at hl 1 rfl) ?_
  refine hm_calli (va_runV (As := [.int i9]) (b := mo) (rest := []) ⟨hx, hb, hml, hown, hts⟩ (c_m_markAt l D t G ak av h mo n aBy aSt aDe aPa aIt aId aPr aNa aSi aSe aIw aEx aOl aPl aTa aAt aLo aS1 aS2 aS3 aS4 aS5 aS6 aO1 aO2 aO3 aO4 aO5 gSt i9 f_m f_aSt zSt hn40 hn) ⟨cw9B 1 hts mw_481 mw_482 mw_428 rfl rfl (by decide +kernel) ⟨Nat.le_of_ble_eq_true rfl, Nat.le_of_ble_eq_true rfl⟩, hts _ mw_483, hts _ mw_484⟩ (hP_V (q := (R_Mo, F_Mo, 41)) kE_ok hE hK hH f_m rfl) rfl rfl hl.1 rfl (lv_room (Nat.le_of_ble_eq_true rfl)) d_Mo_mark_2 ⟨Nat.le_of_ble_eq_true rfl, Nat.le_of_ble_eq_true rfl⟩) hLo (fun r1 h2 H3 locs hp5 hH z4 hLo => ?_)
  have hz : s.heap.size ≤ H3.size := Nat.le_trans hz z4
  obtain ⟨rfl, rfl⟩ := hp5
  refine lv_istore_n (lv' := [(3, .int (-1)), (0, .ref mo), (1, .int i9), (2, .int w9)]) hx hb d_Mo_mark_5 rfl hl (by decide) rfl (fun ls hl => ?_)
  refine lv_aload_n hx hb d_Mo_mark_6 rfl (lv_at hl 1 rfl) ?_
  refine lv_iload_n hx hb d_Mo_mark_7 rfl (lv_at hl 0 rfl) ?_
  refine lv_if_lt (tgt := 24) hx hb d_Mo_mark_8 (by decide) (fun hc6 => ?_) (fun hc6 => absurd (by decide) hc6)
  refine lv_iconst (v := 1) hx hb d_Mo_mark_24 (by decide) ?_
  refine hm_put (ci := 9) (v := .int 1) (ty := .int) (C := R_Mo) (T := F_Mo) (N := 41) hx hb hts ig_Mo t_Mo tk_Mo nm_Mo hown hK hH hLo f_m rfl 0 (by decide) (hts _ mw_432) (fun _ h9 => h9) rfl (by decide +kernel) rfl rfl (Nat.le_of_ble_eq_true rfl) d_Mo_mark_25 (fun H7 locs hH z8 hLo => ?_)
  have hz : s.heap.size ≤ H7.size := by rw [z8]; exact hz
  obtain ⟨h9, e10⟩ : ∃ z, z = hu h mo (.inr (9, [.int 1, .int (nI n), .int 0, .ref aBy, .ref aSt, .ref aDe, .int 0, .int (-1), .int 0, .ref aPa, .int 1, .ref aIt, .ref aId, .ref aPr, .ref aNa, .ref aSi, .ref aSe, .ref aIw, .ref aEx, .ref aOl, .int 0, .ref aPl, .int 0, .int 0, .ref aTa, .ref aAt, .ref aLo, .int 0, .int 0, .ref aS1, .ref aS2, .ref aS3, .ref aS4, .ref aS5, .ref aS6, .int 0, .ref aO1, .ref aO2, .ref aO3, .ref aO4, .ref aO5])) := ⟨_, rfl⟩
  have hH : hm D vwCl G h9 H7 := by rw [e10]; exact hH
  have f_aSt : h9 aSt = some (.inl ((t 0), 400, .inl gSt)) := by rw [e10, hu_n (h_neA f_aSt f_m)]; exact f_aSt
  have f_m : h9 mo = some (.inr (9, [.int 1, .int (nI n), .int 0, .ref aBy, .ref aSt, .ref aDe, .int 0, .int (-1), .int 0, .ref aPa, .int 1, .ref aIt, .ref aId, .ref aPr, .ref aNa, .ref aSi, .ref aSe, .ref aIw, .ref aEx, .ref aOl, .int 0, .ref aPl, .int 0, .int 0, .ref aTa, .ref aAt, .ref aLo, .int 0, .int 0, .ref aS1, .ref aS2, .ref aS3, .ref aS4, .ref aS5, .ref aS6, .int 0, .ref aO1, .ref aO2, .ref aO3, .ref aO4, .ref aO5])) := by rw [e10]; exact hu_s _ _ _
  refine lv_aload_n hx hb d_Mo_mark_28 rfl (lv_at hl 1 rfl) ?_
  refine hm_get (ci := 9) (v := .int 1) (C := R_Mo) (T := F_Mo) (N := 41) hx hb hts ig_Mo hown hK hH f_m rfl 0 (by decide) (hts _ mw_432) (fun _ h9 => h9) rfl d_Mo_mark_29 ?_
  refine lv_iconst (v := 1) hx hb d_Mo_mark_32 (by decide) ?_
  refine lv_icmp_ne (tgt := 38) hx hb d_Mo_mark_33 (by decide) (fun hc11 => absurd rfl hc11) (fun hc11 => ?_)
  refine lv_iconst (v := 0) hx hb d_Mo_mark_36 (by decide) ?_
  exact W.iret (v := 0) hx hb hr (fun t9 ht hW => ⟨0, h9, rfl, ⟨rfl, aBy, aSt, aDe, aPa, aIt, aId, aPr, aNa, aSi, aSe, aIw, aEx, aOl, aPl, aTa, aAt, aLo, aS1, aS2, aS3, aS4, aS5, aS6, aO1, aO2, aO3, aO4, aO5, f_m⟩, by rw [ht]; exact hH, by rw [ht]; exact hz⟩) hLo d_Mo_mark_37

set_option maxHeartbeats 4000000 in
set_option maxRecDepth 100000 in
theorem c_m_open (l : Launch) (D : va_G) (t : Nat → ClassId) (G : hG) (ak av : Nat → Nat) (h : hM) (mo n : Nat) (i9 : Int32) (hM : FrM t h mo n) : Met l y_Mo_open (.code y_Mo_open b_Mo_open 5 (some .int) :: lw_g) { frames := 4, cells := 0, slots := 0, locals := 89 } (hP (kE D t G ak av) D vwCl G h [.ref mo, .int i9]) (hQi D vwCl G (fun r h' => r = -1000000)) 0 0 G.P := by
  refine Met.ofW (cc := b_Mo_open) (maxL := 5) (ret := (some .int)) (by decide) rfl ?_
  intro p e s m args below meth c s₁ Bd hml hv
  obtain ⟨ha, hE, hH⟩ := hv
  have hx := Bd.exec
  have hb := Bd.bytes
  have hr := Bd.returns
  have hts : ∀ w ∈ lw_g, w.before args s = true := fun w hw => atoms_spec (ws := (.code y_Mo_open b_Mo_open 5 (some .int) :: lw_g)) Bd.pre w (List.mem_cons_of_mem _ hw)
  have hown : s.vm.findClass R_Mo = some m.cls := findClass_of_methodNamed Bd.named
  have hlocks := Bd.notSynchronized
  have hK := hE.1
  have hH0 := hH
  have hLo : hLc G.P [] := hLc_nil
  have hz : s.heap.size ≤ s.heap.size := Nat.le_refl _
  have hkp : kp [] h h := kp_rf
  have hl := lv_entry [.ref mo, .int i9] (n := 5) (Nat.le_of_ble_eq_true rfl)
  rw [show entryFrame m args 5 = F0 m 0 ((lg_sl [.ref mo, .int i9] ++ List.replicate (5 - (lg_sl [.ref mo, .int i9]).length) Slot.unset).toArray) [] from (by rw [ha]; exact lg_entry_eq m [.ref mo, .int i9] 5)]
  generalize (lg_sl [.ref mo, .int i9] ++ List.replicate (5 - (lg_sl [.ref mo, .int i9]).length) Slot.unset).toArray = ls at hl ⊢
  have hl : lv_has ls 5 [(0, .ref mo), (1, .int i9)] := hl
  obtain ⟨aBy, aSt, aDe, aPa, aIt, aId, aPr, aNa, aSi, aSe, aIw, aEx, aOl, aPl, aTa, aAt, aLo, aS1, aS2, aS3, aS4, aS5, aS6, aO1, aO2, aO3, aO4, aO5, gBy, gSt, gDe, gPa, gIt, gId, gPr, gSi, gSe, gIw, gEx, gOl, gPl, gTa, gAt, gLo, gNa, f_m, f_aBy, f_aSt, f_aDe, f_aPa, f_aIt, f_aId, f_aPr, f_aNa, f_aSi, f_aSe, f_aIw, f_aEx, f_aOl, f_aPl, f_aTa, f_aAt, f_aLo, zBy, zSt, zDe, zIt, zId, zPr, zSi, zSe, zEx, ne_aIt_aId, ne_aIt_aPr, ne_aIt_aSi, ne_aIt_aSe, ne_aIt_aEx, ne_aId_aPr, ne_aId_aSi, ne_aId_aSe, ne_aId_aEx, ne_aPr_aSi, ne_aPr_aSe, ne_aPr_aEx, ne_aSi_aSe, ne_aSi_aEx, ne_aSe_aEx, ne_aId_aAt, ne_aId_aLo, ne_aAt_aLo, ne_aId_aOl, ne_aIt_aIw, ne_aId_aIw, ne_aPr_aIw, ne_aSi_aIw, ne_aSe_aIw, ne_aIw_aEx, ne_aEx_aOl, ne_aOl_aAt, ne_aOl_aLo, hn40, hn⟩ := hM
  refine lv_aload_n hx hb d_Mo_open_0 rfl (lv_at hl 0 rfl) ?_
  refine lv_iconst (v := 0) hx hb d_Mo_open_1 (by decide) ?_
  refine hm_put (ci := 9) (v := .int 0) (ty := .int) (C := R_Mo) (T := F_Mo) (N := 41) hx hb hts ig_Mo t_Mo tk_Mo nm_Mo hown hK hH hLo f_m rfl 0 (by decide) (hts _ mw_432) (fun _ h9 => h9) rfl (by decide +kernel) rfl rfl (Nat.le_of_ble_eq_true rfl) d_Mo_open_2 (fun H1 locs hH z2 hLo => ?_)
  have hz : s.heap.size ≤ H1.size := by rw [z2]; exact hz
  obtain ⟨h3, e4⟩ : ∃ z, z = hu h mo (.inr (9, [.int 0, .int (nI n), .int 0, .ref aBy, .ref aSt, .ref aDe, .int 0, .int (-1), .int 0, .ref aPa, .int 1, .ref aIt, .ref aId, .ref aPr, .ref aNa, .ref aSi, .ref aSe, .ref aIw, .ref aEx, .ref aOl, .int 0, .ref aPl, .int 0, .int 0, .ref aTa, .ref aAt, .ref aLo, .int 0, .int 0, .ref aS1, .ref aS2, .ref aS3, .ref aS4, .ref aS5, .ref aS6, .int 0, .ref aO1, .ref aO2, .ref aO3, .ref aO4, .ref aO5])) := ⟨_, rfl⟩
  have hH : hm D vwCl G h3 H1 := by rw [e4]; exact hH
  have f_aSt : h3 aSt = some (.inl ((t 0), 400, .inl gSt)) := by rw [e4, hu_n (h_neA f_aSt f_m)]; exact f_aSt
  have f_m : h3 mo = some (.inr (9, [.int 0, .int (nI n), .int 0, .ref aBy, .ref aSt, .ref aDe, .int 0, .int (-1), .int 0, .ref aPa, .int 1, .ref aIt, .ref aId, .ref aPr, .ref aNa, .ref aSi, .ref aSe, .ref aIw, .ref aEx, .ref aOl, .int 0, .ref aPl, .int 0, .int 0, .ref aTa, .ref aAt, .ref aLo, .int 0, .int 0, .ref aS1, .ref aS2, .ref aS3, .ref aS4, .ref aS5, .ref aS6, .int 0, .ref aO1, .ref aO2, .ref aO3, .ref aO4, .ref aO5])) := by rw [e4]; exact hu_s _ _ _
  refine lv_aload_n hx hb d_Mo_open_5 rfl (lv_at hl 0 rfl) ?_
  refine lv_iload_n hx hb d_Mo_open_6 rfl (lv_at hl 1 rfl) ?_
  refine hm_calli (va_runV (As := [.int i9]) (b := mo) (rest := []) ⟨hx, hb, hml, hown, hts⟩ (c_m_markAt l D t G ak av h3 mo n aBy aSt aDe aPa aIt aId aPr aNa aSi aSe aIw aEx aOl aPl aTa aAt aLo aS1 aS2 aS3 aS4 aS5 aS6 aO1 aO2 aO3 aO4 aO5 gSt i9 f_m f_aSt zSt hn40 hn) ⟨cw9B 1 hts mw_481 mw_482 mw_428 rfl rfl (by decide +kernel) ⟨Nat.le_of_ble_eq_true rfl, Nat.le_of_ble_eq_true rfl⟩, hts _ mw_483, hts _ mw_484⟩ (hP_V (q := (R_Mo, F_Mo, 41)) kE_ok hE hK hH f_m rfl) rfl rfl hl.1 rfl (lv_room (Nat.le_of_ble_eq_true rfl)) d_Mo_open_7 ⟨Nat.le_of_ble_eq_true rfl, Nat.le_of_ble_eq_true rfl⟩) hLo (fun r5 h6 H7 locs hp9 hH z8 hLo => ?_)
  have hz : s.heap.size ≤ H7.size := Nat.le_trans hz z8
  obtain ⟨rfl, rfl⟩ := hp9
  refine lv_istore_n (lv' := [(2, .int (-1)), (0, .ref mo), (1, .int i9)]) hx hb d_Mo_open_10 rfl hl (by decide) rfl (fun ls hl => ?_)
  refine lv_iload_n hx hb d_Mo_open_11 rfl (lv_at hl 0 rfl) ?_
  refine lv_if_ge (tgt := 19) hx hb d_Mo_open_12 (by decide) (fun hc10 => absurd hc10 (by decide)) (fun hc10 => ?_)
  refine lv_ldcw (v := -1000000) hx hb hown (hts _ mw_485) d_Mo_open_15 ?_
  exact W.iret (v := (-1000000)) hx hb hr (fun t9 ht hW => ⟨(-1000000), h3, rfl, rfl, by rw [ht]; exact hH, by rw [ht]; exact hz⟩) hLo d_Mo_open_18

set_option maxHeartbeats 4000000 in
set_option maxRecDepth 100000 in
theorem c_m_node (l : Launch) (D : va_G) (t : Nat → ClassId) (G : hG) (ak av : Nat → Nat) (h : hM) (mo n : Nat) (k9 w9 : Int32) (hM : FrM t h mo n) : Met l y_Mo_node (.code y_Mo_node b_Mo_node 3 (some .int) :: lw_g) { frames := 1, cells := 0, slots := 0, locals := 22 } (hP (kE D t G ak av) D vwCl G h [.ref mo, .int k9, .int w9]) (hQi D vwCl G (fun r h' => r = 0 ∧ ThM h' mo n 1)) 0 0 G.P := by
  refine Met.ofW (cc := b_Mo_node) (maxL := 3) (ret := (some .int)) (by decide) rfl ?_
  intro p e s m args below meth c s₁ Bd hml hv
  obtain ⟨ha, hE, hH⟩ := hv
  have hx := Bd.exec
  have hb := Bd.bytes
  have hr := Bd.returns
  have hts : ∀ w ∈ lw_g, w.before args s = true := fun w hw => atoms_spec (ws := (.code y_Mo_node b_Mo_node 3 (some .int) :: lw_g)) Bd.pre w (List.mem_cons_of_mem _ hw)
  have hown : s.vm.findClass R_Mo = some m.cls := findClass_of_methodNamed Bd.named
  have hlocks := Bd.notSynchronized
  have hK := hE.1
  have hH0 := hH
  have hLo : hLc G.P [] := hLc_nil
  have hz : s.heap.size ≤ s.heap.size := Nat.le_refl _
  have hkp : kp [] h h := kp_rf
  have hl := lv_entry [.ref mo, .int k9, .int w9] (n := 3) (Nat.le_of_ble_eq_true rfl)
  rw [show entryFrame m args 3 = F0 m 0 ((lg_sl [.ref mo, .int k9, .int w9] ++ List.replicate (3 - (lg_sl [.ref mo, .int k9, .int w9]).length) Slot.unset).toArray) [] from (by rw [ha]; exact lg_entry_eq m [.ref mo, .int k9, .int w9] 3)]
  generalize (lg_sl [.ref mo, .int k9, .int w9] ++ List.replicate (3 - (lg_sl [.ref mo, .int k9, .int w9]).length) Slot.unset).toArray = ls at hl ⊢
  have hl : lv_has ls 3 [(0, .ref mo), (1, .int k9), (2, .int w9)] := hl
  obtain ⟨aBy, aSt, aDe, aPa, aIt, aId, aPr, aNa, aSi, aSe, aIw, aEx, aOl, aPl, aTa, aAt, aLo, aS1, aS2, aS3, aS4, aS5, aS6, aO1, aO2, aO3, aO4, aO5, gBy, gSt, gDe, gPa, gIt, gId, gPr, gSi, gSe, gIw, gEx, gOl, gPl, gTa, gAt, gLo, gNa, f_m, f_aBy, f_aSt, f_aDe, f_aPa, f_aIt, f_aId, f_aPr, f_aNa, f_aSi, f_aSe, f_aIw, f_aEx, f_aOl, f_aPl, f_aTa, f_aAt, f_aLo, zBy, zSt, zDe, zIt, zId, zPr, zSi, zSe, zEx, ne_aIt_aId, ne_aIt_aPr, ne_aIt_aSi, ne_aIt_aSe, ne_aIt_aEx, ne_aId_aPr, ne_aId_aSi, ne_aId_aSe, ne_aId_aEx, ne_aPr_aSi, ne_aPr_aSe, ne_aPr_aEx, ne_aSi_aSe, ne_aSi_aEx, ne_aSe_aEx, ne_aId_aAt, ne_aId_aLo, ne_aAt_aLo, ne_aId_aOl, ne_aIt_aIw, ne_aId_aIw, ne_aPr_aIw, ne_aSi_aIw, ne_aSe_aIw, ne_aIw_aEx, ne_aEx_aOl, ne_aOl_aAt, ne_aOl_aLo, hn40, hn⟩ := hM
  refine lv_aload_n hx hb d_Mo_node_0 rfl (lv_at hl 0 rfl) ?_
  refine lv_iload_n hx hb d_Mo_node_1 rfl (lv_at hl 1 rfl) ?_
  refine lv_iconst (v := 0) hx hb d_Mo_node_2 (by decide) ?_
  refine lv_aload_n hx hb d_Mo_node_3 rfl (lv_at hl 0 rfl) ?_
  refine hm_get (ci := 9) (v := .int 0) (C := R_Mo) (T := F_Mo) (N := 41) hx hb hts ig_Mo hown hK hH f_m rfl 35 (by decide) (hts _ mw_486) (fun _ h9 => h9) rfl d_Mo_node_4 ?_
  refine lv_iconst (v := 1) hx hb d_Mo_node_7 (by decide) ?_
  refine lv_isub hx hb d_Mo_node_8 ?_
  refine hm_calli (va_runS (As := [.int k9, .int 0, .int (0 - 1)]) (rest := [.ref mo]) ⟨hx, hb, hml, hown, hts⟩ (c_m_in l D t G ak av h k9 0 (0 - 1)) ⟨cw9B 3 hts mw_437 mw_438 mw_428 rfl rfl (by decide +kernel) ⟨Nat.le_of_ble_eq_true rfl, Nat.le_of_ble_eq_true rfl⟩, hts _ mw_439⟩ (hP_S kE_ok hE hH) rfl rfl hl.1 rfl (lv_room (Nat.le_of_ble_eq_true rfl)) d_Mo_node_9 ⟨Nat.le_of_ble_eq_true rfl, Nat.le_of_ble_eq_true rfl⟩) hLo (fun r1 h2 H3 locs hp5 hH z4 hLo => ?_)
  have hz : s.heap.size ≤ H3.size := Nat.le_trans hz z4
  obtain ⟨hr9, rfl⟩ := hp5
  rw [inN] at hr9
  subst hr9
  refine lv_if_eq (tgt := 28) hx hb d_Mo_node_12 (by decide) (fun hc6 => ?_) (fun hc6 => absurd rfl hc6)
  refine lv_iconst (v := 1) hx hb d_Mo_node_28 (by decide) ?_
  refine hm_put (ci := 9) (v := .int 1) (ty := .int) (C := R_Mo) (T := F_Mo) (N := 41) hx hb hts ig_Mo t_Mo tk_Mo nm_Mo hown hK hH hLo f_m rfl 0 (by decide) (hts _ mw_432) (fun _ h9 => h9) rfl (by decide +kernel) rfl rfl (Nat.le_of_ble_eq_true rfl) d_Mo_node_29 (fun H7 locs hH z8 hLo => ?_)
  have hz : s.heap.size ≤ H7.size := by rw [z8]; exact hz
  obtain ⟨h9, e10⟩ : ∃ z, z = hu h mo (.inr (9, [.int 1, .int (nI n), .int 0, .ref aBy, .ref aSt, .ref aDe, .int 0, .int (-1), .int 0, .ref aPa, .int 1, .ref aIt, .ref aId, .ref aPr, .ref aNa, .ref aSi, .ref aSe, .ref aIw, .ref aEx, .ref aOl, .int 0, .ref aPl, .int 0, .int 0, .ref aTa, .ref aAt, .ref aLo, .int 0, .int 0, .ref aS1, .ref aS2, .ref aS3, .ref aS4, .ref aS5, .ref aS6, .int 0, .ref aO1, .ref aO2, .ref aO3, .ref aO4, .ref aO5])) := ⟨_, rfl⟩
  have hH : hm D vwCl G h9 H7 := by rw [e10]; exact hH
  have f_m : h9 mo = some (.inr (9, [.int 1, .int (nI n), .int 0, .ref aBy, .ref aSt, .ref aDe, .int 0, .int (-1), .int 0, .ref aPa, .int 1, .ref aIt, .ref aId, .ref aPr, .ref aNa, .ref aSi, .ref aSe, .ref aIw, .ref aEx, .ref aOl, .int 0, .ref aPl, .int 0, .int 0, .ref aTa, .ref aAt, .ref aLo, .int 0, .int 0, .ref aS1, .ref aS2, .ref aS3, .ref aS4, .ref aS5, .ref aS6, .int 0, .ref aO1, .ref aO2, .ref aO3, .ref aO4, .ref aO5])) := by rw [e10]; exact hu_s _ _ _
  refine lv_aload_n hx hb d_Mo_node_32 rfl (lv_at hl 0 rfl) ?_
  refine hm_get (ci := 9) (v := .int 1) (C := R_Mo) (T := F_Mo) (N := 41) hx hb hts ig_Mo hown hK hH f_m rfl 0 (by decide) (hts _ mw_432) (fun _ h9 => h9) rfl d_Mo_node_33 ?_
  refine lv_iconst (v := 1) hx hb d_Mo_node_36 (by decide) ?_
  refine lv_icmp_ne (tgt := 42) hx hb d_Mo_node_37 (by decide) (fun hc11 => absurd rfl hc11) (fun hc11 => ?_)
  refine lv_iconst (v := 0) hx hb d_Mo_node_40 (by decide) ?_
  exact W.iret (v := 0) hx hb hr (fun t9 ht hW => ⟨0, h9, rfl, ⟨rfl, aBy, aSt, aDe, aPa, aIt, aId, aPr, aNa, aSi, aSe, aIw, aEx, aOl, aPl, aTa, aAt, aLo, aS1, aS2, aS3, aS4, aS5, aS6, aO1, aO2, aO3, aO4, aO5, f_m⟩, by rw [ht]; exact hH, by rw [ht]; exact hz⟩) hLo d_Mo_node_41

set_option maxHeartbeats 4000000 in
set_option maxRecDepth 100000 in
theorem c_m_name (l : Launch) (D : va_G) (t : Nat → ClassId) (G : hG) (ak av : Nat → Nat) (h : hM) (mo n : Nat) (k9 : Int32) (hM : FrM t h mo n) : Met l y_Mo_name (.code y_Mo_name b_Mo_name 2 (some .long) :: lw_g) { frames := 1, cells := 0, slots := 0, locals := 22 } (hP (kE D t G ak av) D vwCl G h [.ref mo, .int k9]) (hQl D vwCl G (fun r h' => r = 0 ∧ ThM h' mo n 1)) 0 0 G.P := by
  refine Met.ofW (cc := b_Mo_name) (maxL := 2) (ret := (some .long)) (by decide) rfl ?_
  intro p e s m args below meth c s₁ Bd hml hv
  obtain ⟨ha, hE, hH⟩ := hv
  have hx := Bd.exec
  have hb := Bd.bytes
  have hr := Bd.returns
  have hts : ∀ w ∈ lw_g, w.before args s = true := fun w hw => atoms_spec (ws := (.code y_Mo_name b_Mo_name 2 (some .long) :: lw_g)) Bd.pre w (List.mem_cons_of_mem _ hw)
  have hown : s.vm.findClass R_Mo = some m.cls := findClass_of_methodNamed Bd.named
  have hlocks := Bd.notSynchronized
  have hK := hE.1
  have hH0 := hH
  have hLo : hLc G.P [] := hLc_nil
  have hz : s.heap.size ≤ s.heap.size := Nat.le_refl _
  have hkp : kp [] h h := kp_rf
  have hl := lv_entry [.ref mo, .int k9] (n := 2) (Nat.le_of_ble_eq_true rfl)
  rw [show entryFrame m args 2 = F0 m 0 ((lg_sl [.ref mo, .int k9] ++ List.replicate (2 - (lg_sl [.ref mo, .int k9]).length) Slot.unset).toArray) [] from (by rw [ha]; exact lg_entry_eq m [.ref mo, .int k9] 2)]
  generalize (lg_sl [.ref mo, .int k9] ++ List.replicate (2 - (lg_sl [.ref mo, .int k9]).length) Slot.unset).toArray = ls at hl ⊢
  have hl : lv_has ls 2 [(0, .ref mo), (1, .int k9)] := hl
  obtain ⟨aBy, aSt, aDe, aPa, aIt, aId, aPr, aNa, aSi, aSe, aIw, aEx, aOl, aPl, aTa, aAt, aLo, aS1, aS2, aS3, aS4, aS5, aS6, aO1, aO2, aO3, aO4, aO5, gBy, gSt, gDe, gPa, gIt, gId, gPr, gSi, gSe, gIw, gEx, gOl, gPl, gTa, gAt, gLo, gNa, f_m, f_aBy, f_aSt, f_aDe, f_aPa, f_aIt, f_aId, f_aPr, f_aNa, f_aSi, f_aSe, f_aIw, f_aEx, f_aOl, f_aPl, f_aTa, f_aAt, f_aLo, zBy, zSt, zDe, zIt, zId, zPr, zSi, zSe, zEx, ne_aIt_aId, ne_aIt_aPr, ne_aIt_aSi, ne_aIt_aSe, ne_aIt_aEx, ne_aId_aPr, ne_aId_aSi, ne_aId_aSe, ne_aId_aEx, ne_aPr_aSi, ne_aPr_aSe, ne_aPr_aEx, ne_aSi_aSe, ne_aSi_aEx, ne_aSe_aEx, ne_aId_aAt, ne_aId_aLo, ne_aAt_aLo, ne_aId_aOl, ne_aIt_aIw, ne_aId_aIw, ne_aPr_aIw, ne_aSi_aIw, ne_aSe_aIw, ne_aIw_aEx, ne_aEx_aOl, ne_aOl_aAt, ne_aOl_aLo, hn40, hn⟩ := hM
  refine lv_aload_n hx hb d_Mo_name_0 rfl (lv_at hl 0 rfl) ?_
  refine lv_iload_n hx hb d_Mo_name_1 rfl (lv_at hl 1 rfl) ?_
  refine lv_iconst (v := 0) hx hb d_Mo_name_2 (by decide) ?_
  refine lv_aload_n hx hb d_Mo_name_3 rfl (lv_at hl 0 rfl) ?_
  refine hm_get (ci := 9) (v := .int 0) (C := R_Mo) (T := F_Mo) (N := 41) hx hb hts ig_Mo hown hK hH f_m rfl 35 (by decide) (hts _ mw_486) (fun _ h9 => h9) rfl d_Mo_name_4 ?_
  refine lv_iconst (v := 1) hx hb d_Mo_name_7 (by decide) ?_
  refine lv_isub hx hb d_Mo_name_8 ?_
  refine hm_calli (va_runS (As := [.int k9, .int 0, .int (0 - 1)]) (rest := [.ref mo]) ⟨hx, hb, hml, hown, hts⟩ (c_m_in l D t G ak av h k9 0 (0 - 1)) ⟨cw9B 3 hts mw_437 mw_438 mw_428 rfl rfl (by decide +kernel) ⟨Nat.le_of_ble_eq_true rfl, Nat.le_of_ble_eq_true rfl⟩, hts _ mw_439⟩ (hP_S kE_ok hE hH) rfl rfl hl.1 rfl (lv_room (Nat.le_of_ble_eq_true rfl)) d_Mo_name_9 ⟨Nat.le_of_ble_eq_true rfl, Nat.le_of_ble_eq_true rfl⟩) hLo (fun r1 h2 H3 locs hp5 hH z4 hLo => ?_)
  have hz : s.heap.size ≤ H3.size := Nat.le_trans hz z4
  obtain ⟨hr9, rfl⟩ := hp5
  rw [inN] at hr9
  subst hr9
  refine lv_if_eq (tgt := 19) hx hb d_Mo_name_12 (by decide) (fun hc6 => ?_) (fun hc6 => absurd rfl hc6)
  refine lv_iconst (v := 1) hx hb d_Mo_name_19 (by decide) ?_
  refine hm_put (ci := 9) (v := .int 1) (ty := .int) (C := R_Mo) (T := F_Mo) (N := 41) hx hb hts ig_Mo t_Mo tk_Mo nm_Mo hown hK hH hLo f_m rfl 0 (by decide) (hts _ mw_432) (fun _ h9 => h9) rfl (by decide +kernel) rfl rfl (Nat.le_of_ble_eq_true rfl) d_Mo_name_20 (fun H7 locs hH z8 hLo => ?_)
  have hz : s.heap.size ≤ H7.size := by rw [z8]; exact hz
  obtain ⟨h9, e10⟩ : ∃ z, z = hu h mo (.inr (9, [.int 1, .int (nI n), .int 0, .ref aBy, .ref aSt, .ref aDe, .int 0, .int (-1), .int 0, .ref aPa, .int 1, .ref aIt, .ref aId, .ref aPr, .ref aNa, .ref aSi, .ref aSe, .ref aIw, .ref aEx, .ref aOl, .int 0, .ref aPl, .int 0, .int 0, .ref aTa, .ref aAt, .ref aLo, .int 0, .int 0, .ref aS1, .ref aS2, .ref aS3, .ref aS4, .ref aS5, .ref aS6, .int 0, .ref aO1, .ref aO2, .ref aO3, .ref aO4, .ref aO5])) := ⟨_, rfl⟩
  have hH : hm D vwCl G h9 H7 := by rw [e10]; exact hH
  have f_m : h9 mo = some (.inr (9, [.int 1, .int (nI n), .int 0, .ref aBy, .ref aSt, .ref aDe, .int 0, .int (-1), .int 0, .ref aPa, .int 1, .ref aIt, .ref aId, .ref aPr, .ref aNa, .ref aSi, .ref aSe, .ref aIw, .ref aEx, .ref aOl, .int 0, .ref aPl, .int 0, .int 0, .ref aTa, .ref aAt, .ref aLo, .int 0, .int 0, .ref aS1, .ref aS2, .ref aS3, .ref aS4, .ref aS5, .ref aS6, .int 0, .ref aO1, .ref aO2, .ref aO3, .ref aO4, .ref aO5])) := by rw [e10]; exact hu_s _ _ _
  refine lv_aload_n hx hb d_Mo_name_23 rfl (lv_at hl 0 rfl) ?_
  refine hm_get (ci := 9) (v := .int 1) (C := R_Mo) (T := F_Mo) (N := 41) hx hb hts ig_Mo hown hK hH f_m rfl 0 (by decide) (hts _ mw_432) (fun _ h9 => h9) rfl d_Mo_name_24 ?_
  refine lv_iconst (v := 1) hx hb d_Mo_name_27 (by decide) ?_
  refine lv_icmp_ne (tgt := 35) hx hb d_Mo_name_28 (by decide) (fun hc11 => absurd rfl hc11) (fun hc11 => ?_)
  refine lv_lconst (v := 0) hx hb d_Mo_name_31 (by decide) ?_
  refine lv_goto (tgt := 41) hx hb d_Mo_name_32 (by decide) ?_
  exact W.lret (v := 0) hx hb hr (fun t9 ht hW => ⟨0, h9, rfl, ⟨rfl, aBy, aSt, aDe, aPa, aIt, aId, aPr, aNa, aSi, aSe, aIw, aEx, aOl, aPl, aTa, aAt, aLo, aS1, aS2, aS3, aS4, aS5, aS6, aO1, aO2, aO3, aO4, aO5, f_m⟩, by rw [ht]; exact hH, by rw [ht]; exact hz⟩) hLo d_Mo_name_41

set_option maxHeartbeats 4000000 in
set_option maxRecDepth 100000 in
theorem c_m_read (l : Launch) (D : va_G) (t : Nat → ClassId) (G : hG) (ak av : Nat → Nat) (h : hM) (mo n : Nat) (k9 w9 : Int32) (hM : FrM t h mo n) : Met l y_Mo_read (.code y_Mo_read b_Mo_read 3 (some .int) :: lw_g) { frames := 1, cells := 0, slots := 0, locals := 22 } (hP (kE D t G ak av) D vwCl G h [.ref mo, .int k9, .int w9]) (hQi D vwCl G (fun r h' => r = 0 ∧ ThM h' mo n 1)) 0 0 G.P := by
  refine Met.ofW (cc := b_Mo_read) (maxL := 3) (ret := (some .int)) (by decide) rfl ?_
  intro p e s m args below meth c s₁ Bd hml hv
  obtain ⟨ha, hE, hH⟩ := hv
  have hx := Bd.exec
  have hb := Bd.bytes
  have hr := Bd.returns
  have hts : ∀ w ∈ lw_g, w.before args s = true := fun w hw => atoms_spec (ws := (.code y_Mo_read b_Mo_read 3 (some .int) :: lw_g)) Bd.pre w (List.mem_cons_of_mem _ hw)
  have hown : s.vm.findClass R_Mo = some m.cls := findClass_of_methodNamed Bd.named
  have hlocks := Bd.notSynchronized
  have hK := hE.1
  have hH0 := hH
  have hLo : hLc G.P [] := hLc_nil
  have hz : s.heap.size ≤ s.heap.size := Nat.le_refl _
  have hkp : kp [] h h := kp_rf
  have hl := lv_entry [.ref mo, .int k9, .int w9] (n := 3) (Nat.le_of_ble_eq_true rfl)
  rw [show entryFrame m args 3 = F0 m 0 ((lg_sl [.ref mo, .int k9, .int w9] ++ List.replicate (3 - (lg_sl [.ref mo, .int k9, .int w9]).length) Slot.unset).toArray) [] from (by rw [ha]; exact lg_entry_eq m [.ref mo, .int k9, .int w9] 3)]
  generalize (lg_sl [.ref mo, .int k9, .int w9] ++ List.replicate (3 - (lg_sl [.ref mo, .int k9, .int w9]).length) Slot.unset).toArray = ls at hl ⊢
  have hl : lv_has ls 3 [(0, .ref mo), (1, .int k9), (2, .int w9)] := hl
  obtain ⟨aBy, aSt, aDe, aPa, aIt, aId, aPr, aNa, aSi, aSe, aIw, aEx, aOl, aPl, aTa, aAt, aLo, aS1, aS2, aS3, aS4, aS5, aS6, aO1, aO2, aO3, aO4, aO5, gBy, gSt, gDe, gPa, gIt, gId, gPr, gSi, gSe, gIw, gEx, gOl, gPl, gTa, gAt, gLo, gNa, f_m, f_aBy, f_aSt, f_aDe, f_aPa, f_aIt, f_aId, f_aPr, f_aNa, f_aSi, f_aSe, f_aIw, f_aEx, f_aOl, f_aPl, f_aTa, f_aAt, f_aLo, zBy, zSt, zDe, zIt, zId, zPr, zSi, zSe, zEx, ne_aIt_aId, ne_aIt_aPr, ne_aIt_aSi, ne_aIt_aSe, ne_aIt_aEx, ne_aId_aPr, ne_aId_aSi, ne_aId_aSe, ne_aId_aEx, ne_aPr_aSi, ne_aPr_aSe, ne_aPr_aEx, ne_aSi_aSe, ne_aSi_aEx, ne_aSe_aEx, ne_aId_aAt, ne_aId_aLo, ne_aAt_aLo, ne_aId_aOl, ne_aIt_aIw, ne_aId_aIw, ne_aPr_aIw, ne_aSi_aIw, ne_aSe_aIw, ne_aIw_aEx, ne_aEx_aOl, ne_aOl_aAt, ne_aOl_aLo, hn40, hn⟩ := hM
  refine lv_aload_n hx hb d_Mo_read_0 rfl (lv_at hl 0 rfl) ?_
  refine lv_iload_n hx hb d_Mo_read_1 rfl (lv_at hl 1 rfl) ?_
  refine lv_iconst (v := 0) hx hb d_Mo_read_2 (by decide) ?_
  refine lv_aload_n hx hb d_Mo_read_3 rfl (lv_at hl 0 rfl) ?_
  refine hm_get (ci := 9) (v := .int 0) (C := R_Mo) (T := F_Mo) (N := 41) hx hb hts ig_Mo hown hK hH f_m rfl 35 (by decide) (hts _ mw_486) (fun _ h9 => h9) rfl d_Mo_read_4 ?_
  refine lv_iconst (v := 1) hx hb d_Mo_read_7 (by decide) ?_
  refine lv_isub hx hb d_Mo_read_8 ?_
  refine hm_calli (va_runS (As := [.int k9, .int 0, .int (0 - 1)]) (rest := [.ref mo]) ⟨hx, hb, hml, hown, hts⟩ (c_m_in l D t G ak av h k9 0 (0 - 1)) ⟨cw9B 3 hts mw_437 mw_438 mw_428 rfl rfl (by decide +kernel) ⟨Nat.le_of_ble_eq_true rfl, Nat.le_of_ble_eq_true rfl⟩, hts _ mw_439⟩ (hP_S kE_ok hE hH) rfl rfl hl.1 rfl (lv_room (Nat.le_of_ble_eq_true rfl)) d_Mo_read_9 ⟨Nat.le_of_ble_eq_true rfl, Nat.le_of_ble_eq_true rfl⟩) hLo (fun r1 h2 H3 locs hp5 hH z4 hLo => ?_)
  have hz : s.heap.size ≤ H3.size := Nat.le_trans hz z4
  obtain ⟨hr9, rfl⟩ := hp5
  rw [inN] at hr9
  subst hr9
  refine lv_if_eq (tgt := 44) hx hb d_Mo_read_12 (by decide) (fun hc6 => ?_) (fun hc6 => absurd rfl hc6)
  refine lv_iconst (v := 1) hx hb d_Mo_read_44 (by decide) ?_
  refine hm_put (ci := 9) (v := .int 1) (ty := .int) (C := R_Mo) (T := F_Mo) (N := 41) hx hb hts ig_Mo t_Mo tk_Mo nm_Mo hown hK hH hLo f_m rfl 0 (by decide) (hts _ mw_432) (fun _ h9 => h9) rfl (by decide +kernel) rfl rfl (Nat.le_of_ble_eq_true rfl) d_Mo_read_45 (fun H7 locs hH z8 hLo => ?_)
  have hz : s.heap.size ≤ H7.size := by rw [z8]; exact hz
  obtain ⟨h9, e10⟩ : ∃ z, z = hu h mo (.inr (9, [.int 1, .int (nI n), .int 0, .ref aBy, .ref aSt, .ref aDe, .int 0, .int (-1), .int 0, .ref aPa, .int 1, .ref aIt, .ref aId, .ref aPr, .ref aNa, .ref aSi, .ref aSe, .ref aIw, .ref aEx, .ref aOl, .int 0, .ref aPl, .int 0, .int 0, .ref aTa, .ref aAt, .ref aLo, .int 0, .int 0, .ref aS1, .ref aS2, .ref aS3, .ref aS4, .ref aS5, .ref aS6, .int 0, .ref aO1, .ref aO2, .ref aO3, .ref aO4, .ref aO5])) := ⟨_, rfl⟩
  have hH : hm D vwCl G h9 H7 := by rw [e10]; exact hH
  have f_m : h9 mo = some (.inr (9, [.int 1, .int (nI n), .int 0, .ref aBy, .ref aSt, .ref aDe, .int 0, .int (-1), .int 0, .ref aPa, .int 1, .ref aIt, .ref aId, .ref aPr, .ref aNa, .ref aSi, .ref aSe, .ref aIw, .ref aEx, .ref aOl, .int 0, .ref aPl, .int 0, .int 0, .ref aTa, .ref aAt, .ref aLo, .int 0, .int 0, .ref aS1, .ref aS2, .ref aS3, .ref aS4, .ref aS5, .ref aS6, .int 0, .ref aO1, .ref aO2, .ref aO3, .ref aO4, .ref aO5])) := by rw [e10]; exact hu_s _ _ _
  refine lv_aload_n hx hb d_Mo_read_48 rfl (lv_at hl 0 rfl) ?_
  refine hm_get (ci := 9) (v := .int 1) (C := R_Mo) (T := F_Mo) (N := 41) hx hb hts ig_Mo hown hK hH f_m rfl 0 (by decide) (hts _ mw_432) (fun _ h9 => h9) rfl d_Mo_read_49 ?_
  refine lv_iconst (v := 1) hx hb d_Mo_read_52 (by decide) ?_
  refine lv_icmp_ne (tgt := 60) hx hb d_Mo_read_53 (by decide) (fun hc11 => absurd rfl hc11) (fun hc11 => ?_)
  refine lv_iconst (v := 0) hx hb d_Mo_read_56 (by decide) ?_
  refine lv_goto (tgt := 76) hx hb d_Mo_read_57 (by decide) ?_
  exact W.iret (v := 0) hx hb hr (fun t9 ht hW => ⟨0, h9, rfl, ⟨rfl, aBy, aSt, aDe, aPa, aIt, aId, aPr, aNa, aSi, aSe, aIw, aEx, aOl, aPl, aTa, aAt, aLo, aS1, aS2, aS3, aS4, aS5, aS6, aO1, aO2, aO3, aO4, aO5, f_m⟩, by rw [ht]; exact hH, by rw [ht]; exact hz⟩) hLo d_Mo_read_76

set_option maxHeartbeats 4000000 in
set_option maxRecDepth 100000 in
theorem c_m_tree (l : Launch) (D : va_G) (t : Nat → ClassId) (G : hG) (ak av : Nat → Nat) (h : hM) (mo n : Nat) (k9 w9 : Int32) (hM : FrM t h mo n) : Met l y_Mo_tree (.code y_Mo_tree b_Mo_tree 3 (some .int) :: lw_g) { frames := 1, cells := 0, slots := 0, locals := 22 } (hP (kE D t G ak av) D vwCl G h [.ref mo, .int k9, .int w9]) (hQi D vwCl G (fun r h' => (treeT k9 w9 = 1 → r = 0) ∧ (treeT k9 w9 = 0 → r = treeC k9 w9) ∧ ThM h' mo n (treeT k9 w9))) 0 0 G.P := by
  refine Met.ofW (cc := b_Mo_tree) (maxL := 3) (ret := (some .int)) (by decide) rfl ?_
  intro p e s m args below meth c s₁ Bd hml hv
  obtain ⟨ha, hE, hH⟩ := hv
  have hx := Bd.exec
  have hb := Bd.bytes
  have hr := Bd.returns
  have hts : ∀ w ∈ lw_g, w.before args s = true := fun w hw => atoms_spec (ws := (.code y_Mo_tree b_Mo_tree 3 (some .int) :: lw_g)) Bd.pre w (List.mem_cons_of_mem _ hw)
  have hown : s.vm.findClass R_Mo = some m.cls := findClass_of_methodNamed Bd.named
  have hlocks := Bd.notSynchronized
  have hK := hE.1
  have hH0 := hH
  have hLo : hLc G.P [] := hLc_nil
  have hz : s.heap.size ≤ s.heap.size := Nat.le_refl _
  have hkp : kp [] h h := kp_rf
  have hl := lv_entry [.ref mo, .int k9, .int w9] (n := 3) (Nat.le_of_ble_eq_true rfl)
  rw [show entryFrame m args 3 = F0 m 0 ((lg_sl [.ref mo, .int k9, .int w9] ++ List.replicate (3 - (lg_sl [.ref mo, .int k9, .int w9]).length) Slot.unset).toArray) [] from (by rw [ha]; exact lg_entry_eq m [.ref mo, .int k9, .int w9] 3)]
  generalize (lg_sl [.ref mo, .int k9, .int w9] ++ List.replicate (3 - (lg_sl [.ref mo, .int k9, .int w9]).length) Slot.unset).toArray = ls at hl ⊢
  have hl : lv_has ls 3 [(0, .ref mo), (1, .int k9), (2, .int w9)] := hl
  obtain ⟨aBy, aSt, aDe, aPa, aIt, aId, aPr, aNa, aSi, aSe, aIw, aEx, aOl, aPl, aTa, aAt, aLo, aS1, aS2, aS3, aS4, aS5, aS6, aO1, aO2, aO3, aO4, aO5, gBy, gSt, gDe, gPa, gIt, gId, gPr, gSi, gSe, gIw, gEx, gOl, gPl, gTa, gAt, gLo, gNa, f_m, f_aBy, f_aSt, f_aDe, f_aPa, f_aIt, f_aId, f_aPr, f_aNa, f_aSi, f_aSe, f_aIw, f_aEx, f_aOl, f_aPl, f_aTa, f_aAt, f_aLo, zBy, zSt, zDe, zIt, zId, zPr, zSi, zSe, zEx, ne_aIt_aId, ne_aIt_aPr, ne_aIt_aSi, ne_aIt_aSe, ne_aIt_aEx, ne_aId_aPr, ne_aId_aSi, ne_aId_aSe, ne_aId_aEx, ne_aPr_aSi, ne_aPr_aSe, ne_aPr_aEx, ne_aSi_aSe, ne_aSi_aEx, ne_aSe_aEx, ne_aId_aAt, ne_aId_aLo, ne_aAt_aLo, ne_aId_aOl, ne_aIt_aIw, ne_aId_aIw, ne_aPr_aIw, ne_aSi_aIw, ne_aSe_aIw, ne_aIw_aEx, ne_aEx_aOl, ne_aOl_aAt, ne_aOl_aLo, hn40, hn⟩ := hM
  refine lv_aload_n hx hb d_Mo_tree_0 rfl (lv_at hl 0 rfl) ?_
  refine lv_aload_n hx hb d_Mo_tree_1 rfl (lv_at hl 0 rfl) ?_
  refine lv_iload_n hx hb d_Mo_tree_2 rfl (lv_at hl 1 rfl) ?_
  by_cases hin : k9 = 0
  · skip
    refine hm_calli (va_runV (As := [.int k9]) (b := mo) (rest := [.ref mo]) ⟨hx, hb, hml, hown, hts⟩ (c_m_isNode l D t G ak av h mo n aBy aSt aDe aPa aIt aId aPr aNa aSi aSe aIw aEx aOl aPl aTa aAt aLo aS1 aS2 aS3 aS4 aS5 aS6 aO1 aO2 aO3 aO4 aO5 gIt k9 f_m f_aIt zIt) ⟨cw9B 1 hts mw_444 mw_445 mw_428 rfl rfl (by decide +kernel) ⟨Nat.le_of_ble_eq_true rfl, Nat.le_of_ble_eq_true rfl⟩, hts _ mw_446, hts _ mw_447⟩ (hP_V (q := (R_Mo, F_Mo, 41)) kE_ok hE hK hH f_m rfl) rfl rfl hl.1 rfl (lv_room (Nat.le_of_ble_eq_true rfl)) d_Mo_tree_3 ⟨Nat.le_of_ble_eq_true rfl, Nat.le_of_ble_eq_true rfl⟩) hLo (fun r1 h2 H3 locs hp5 hH z4 hLo => ?_)
    have hz : s.heap.size ≤ H3.size := Nat.le_trans hz z4
    obtain ⟨hr9, rfl⟩ := hp5
    rw [if_pos hin] at hr9
    subst hr9
    have hink := hin
    subst hin
    refine lv_if_eq (tgt := 22) hx hb d_Mo_tree_6 (by decide) (fun hc6 => absurd hc6 (by decide)) (fun hc6 => ?_)
    refine lv_iload_n hx hb d_Mo_tree_9 rfl (lv_at hl 2 rfl) ?_
    refine lv_iconst (v := 0) hx hb d_Mo_tree_10 (by decide) ?_
    refine lv_iconst (v := 4) hx hb d_Mo_tree_11 (by decide) ?_
    refine hm_calli (va_runS (As := [.int w9, .int 0, .int 4]) (rest := [.ref mo]) ⟨hx, hb, hml, hown, hts⟩ (c_m_in l D t G ak av h w9 0 4) ⟨cw9B 3 hts mw_437 mw_438 mw_428 rfl rfl (by decide +kernel) ⟨Nat.le_of_ble_eq_true rfl, Nat.le_of_ble_eq_true rfl⟩, hts _ mw_439⟩ (hP_S kE_ok hE hH) rfl rfl hl.1 rfl (lv_room (Nat.le_of_ble_eq_true rfl)) d_Mo_tree_12 ⟨Nat.le_of_ble_eq_true rfl, Nat.le_of_ble_eq_true rfl⟩) hLo (fun r7 h8 H9 locs hp11 hH z10 hLo => ?_)
    have hz : s.heap.size ≤ H9.size := Nat.le_trans hz z10
    obtain ⟨rfl, rfl⟩ := hp11
    refine lv_if_eq (tgt := 22) hx hb d_Mo_tree_15 (by decide) (fun hc12 => ?_) (fun hc12 => ?_)
    · skip
      refine lv_iconst (v := 1) hx hb d_Mo_tree_22 (by decide) ?_
      refine hm_put (ci := 9) (v := .int 1) (ty := .int) (C := R_Mo) (T := F_Mo) (N := 41) hx hb hts ig_Mo t_Mo tk_Mo nm_Mo hown hK hH hLo f_m rfl 0 (by decide) (hts _ mw_432) (fun _ h9 => h9) rfl (by decide +kernel) rfl rfl (Nat.le_of_ble_eq_true rfl) d_Mo_tree_23 (fun H13 locs hH z14 hLo => ?_)
      have hz : s.heap.size ≤ H13.size := by rw [z14]; exact hz
      obtain ⟨h15, e16⟩ : ∃ z, z = hu h mo (.inr (9, [.int 1, .int (nI n), .int 0, .ref aBy, .ref aSt, .ref aDe, .int 0, .int (-1), .int 0, .ref aPa, .int 1, .ref aIt, .ref aId, .ref aPr, .ref aNa, .ref aSi, .ref aSe, .ref aIw, .ref aEx, .ref aOl, .int 0, .ref aPl, .int 0, .int 0, .ref aTa, .ref aAt, .ref aLo, .int 0, .int 0, .ref aS1, .ref aS2, .ref aS3, .ref aS4, .ref aS5, .ref aS6, .int 0, .ref aO1, .ref aO2, .ref aO3, .ref aO4, .ref aO5])) := ⟨_, rfl⟩
      have hH : hm D vwCl G h15 H13 := by rw [e16]; exact hH
      have f_aIt : h15 aIt = some (.inl ((t 1), 700, .inl gIt)) := by rw [e16, hu_n (h_neA f_aIt f_m)]; exact f_aIt
      have f_aPr : h15 aPr = some (.inl ((t 2), 700, .inl gPr)) := by rw [e16, hu_n (h_neA f_aPr f_m)]; exact f_aPr
      have f_aId : h15 aId = some (.inl ((t 1), 700, .inl gId)) := by rw [e16, hu_n (h_neA f_aId f_m)]; exact f_aId
      have f_aSi : h15 aSi = some (.inl ((t 2), 700, .inl gSi)) := by rw [e16, hu_n (h_neA f_aSi f_m)]; exact f_aSi
      have f_aSe : h15 aSe = some (.inl ((t 2), 700, .inl gSe)) := by rw [e16, hu_n (h_neA f_aSe f_m)]; exact f_aSe
      have f_aEx : h15 aEx = some (.inl ((t 2), 700, .inl gEx)) := by rw [e16, hu_n (h_neA f_aEx f_m)]; exact f_aEx
      have f_m : h15 mo = some (.inr (9, [.int 1, .int (nI n), .int 0, .ref aBy, .ref aSt, .ref aDe, .int 0, .int (-1), .int 0, .ref aPa, .int 1, .ref aIt, .ref aId, .ref aPr, .ref aNa, .ref aSi, .ref aSe, .ref aIw, .ref aEx, .ref aOl, .int 0, .ref aPl, .int 0, .int 0, .ref aTa, .ref aAt, .ref aLo, .int 0, .int 0, .ref aS1, .ref aS2, .ref aS3, .ref aS4, .ref aS5, .ref aS6, .int 0, .ref aO1, .ref aO2, .ref aO3, .ref aO4, .ref aO5])) := by rw [e16]; exact hu_s _ _ _
      refine lv_aload_n hx hb d_Mo_tree_26 rfl (lv_at hl 0 rfl) ?_
      refine hm_get (ci := 9) (v := .int 1) (C := R_Mo) (T := F_Mo) (N := 41) hx hb hts ig_Mo hown hK hH f_m rfl 0 (by decide) (hts _ mw_432) (fun _ h9 => h9) rfl d_Mo_tree_27 ?_
      refine lv_iconst (v := 1) hx hb d_Mo_tree_30 (by decide) ?_
      refine lv_icmp_ne (tgt := 36) hx hb d_Mo_tree_31 (by decide) (fun hc17 => absurd rfl hc17) (fun hc17 => ?_)
      refine lv_iconst (v := 0) hx hb d_Mo_tree_34 (by decide) ?_
      exact W.iret (v := 0) hx hb hr (fun t9 ht hW => ⟨0, h15, rfl, ⟨fun _ => rfl, fun q => absurd (q.symm.trans ((show treeT 0 w9 = 1 by rw [treeT, if_pos rfl, if_pos hc12]))) (by decide), aBy, aSt, aDe, aPa, aIt, aId, aPr, aNa, aSi, aSe, aIw, aEx, aOl, aPl, aTa, aAt, aLo, aS1, aS2, aS3, aS4, aS5, aS6, aO1, aO2, aO3, aO4, aO5, by rw [(show treeT 0 w9 = 1 by rw [treeT, if_pos rfl, if_pos hc12])]; exact f_m⟩, by rw [ht]; exact hH, by rw [ht]; exact hz⟩) hLo d_Mo_tree_35
    · skip
      have hT : treeT 0 w9 = 0 := by rw [treeT, if_pos rfl, if_neg hc12]
      refine lv_iconst (v := 0) hx hb d_Mo_tree_18 (by decide) ?_
      refine lv_goto (tgt := 23) hx hb d_Mo_tree_19 (by decide) ?_
      refine hm_put (ci := 9) (v := .int 0) (ty := .int) (C := R_Mo) (T := F_Mo) (N := 41) hx hb hts ig_Mo t_Mo tk_Mo nm_Mo hown hK hH hLo f_m rfl 0 (by decide) (hts _ mw_432) (fun _ h9 => h9) rfl (by decide +kernel) rfl rfl (Nat.le_of_ble_eq_true rfl) d_Mo_tree_23 (fun H18 locs hH z19 hLo => ?_)
      have hz : s.heap.size ≤ H18.size := by rw [z19]; exact hz
      obtain ⟨h20, e21⟩ : ∃ z, z = hu h mo (.inr (9, [.int 0, .int (nI n), .int 0, .ref aBy, .ref aSt, .ref aDe, .int 0, .int (-1), .int 0, .ref aPa, .int 1, .ref aIt, .ref aId, .ref aPr, .ref aNa, .ref aSi, .ref aSe, .ref aIw, .ref aEx, .ref aOl, .int 0, .ref aPl, .int 0, .int 0, .ref aTa, .ref aAt, .ref aLo, .int 0, .int 0, .ref aS1, .ref aS2, .ref aS3, .ref aS4, .ref aS5, .ref aS6, .int 0, .ref aO1, .ref aO2, .ref aO3, .ref aO4, .ref aO5])) := ⟨_, rfl⟩
      have hH : hm D vwCl G h20 H18 := by rw [e21]; exact hH
      have f_aIt : h20 aIt = some (.inl ((t 1), 700, .inl gIt)) := by rw [e21, hu_n (h_neA f_aIt f_m)]; exact f_aIt
      have f_aPr : h20 aPr = some (.inl ((t 2), 700, .inl gPr)) := by rw [e21, hu_n (h_neA f_aPr f_m)]; exact f_aPr
      have f_aId : h20 aId = some (.inl ((t 1), 700, .inl gId)) := by rw [e21, hu_n (h_neA f_aId f_m)]; exact f_aId
      have f_aSi : h20 aSi = some (.inl ((t 2), 700, .inl gSi)) := by rw [e21, hu_n (h_neA f_aSi f_m)]; exact f_aSi
      have f_aSe : h20 aSe = some (.inl ((t 2), 700, .inl gSe)) := by rw [e21, hu_n (h_neA f_aSe f_m)]; exact f_aSe
      have f_aEx : h20 aEx = some (.inl ((t 2), 700, .inl gEx)) := by rw [e21, hu_n (h_neA f_aEx f_m)]; exact f_aEx
      have f_m : h20 mo = some (.inr (9, [.int 0, .int (nI n), .int 0, .ref aBy, .ref aSt, .ref aDe, .int 0, .int (-1), .int 0, .ref aPa, .int 1, .ref aIt, .ref aId, .ref aPr, .ref aNa, .ref aSi, .ref aSe, .ref aIw, .ref aEx, .ref aOl, .int 0, .ref aPl, .int 0, .int 0, .ref aTa, .ref aAt, .ref aLo, .int 0, .int 0, .ref aS1, .ref aS2, .ref aS3, .ref aS4, .ref aS5, .ref aS6, .int 0, .ref aO1, .ref aO2, .ref aO3, .ref aO4, .ref aO5])) := by rw [e21]; exact hu_s _ _ _
      refine lv_aload_n hx hb d_Mo_tree_26 rfl (lv_at hl 0 rfl) ?_
      refine hm_get (ci := 9) (v := .int 0) (C := R_Mo) (T := F_Mo) (N := 41) hx hb hts ig_Mo hown hK hH f_m rfl 0 (by decide) (hts _ mw_432) (fun _ h9 => h9) rfl d_Mo_tree_27 ?_
      refine lv_iconst (v := 1) hx hb d_Mo_tree_30 (by decide) ?_
      refine lv_icmp_ne (tgt := 36) hx hb d_Mo_tree_31 (by decide) (fun hc22 => ?_) (fun hc22 => absurd hc22 (by decide))
      refine lv_iload_n hx hb d_Mo_tree_36 rfl (lv_at hl 2 rfl) ?_
      refine lv_if_ne (tgt := 49) hx hb d_Mo_tree_37 (by decide) (fun hc23 => ?_) (fun hc23 => ?_)
      · skip
        refine lv_iload_n hx hb d_Mo_tree_49 rfl (lv_at hl 2 rfl) ?_
        refine lv_iconst (v := 1) hx hb d_Mo_tree_50 (by decide) ?_
        refine lv_icmp_ne (tgt := 71) hx hb d_Mo_tree_51 (by decide) (fun hc24 => ?_) (fun hc24 => ?_)
        · skip
          refine lv_iload_n hx hb d_Mo_tree_71 rfl (lv_at hl 2 rfl) ?_
          refine lv_iconst (v := 2) hx hb d_Mo_tree_72 (by decide) ?_
          refine lv_icmp_ne (tgt := 85) hx hb d_Mo_tree_73 (by decide) (fun hc25 => ?_) (fun hc25 => ?_)
          · skip
            refine lv_iload_n hx hb d_Mo_tree_85 rfl (lv_at hl 2 rfl) ?_
            refine lv_iconst (v := 3) hx hb d_Mo_tree_86 (by decide) ?_
            refine lv_icmp_ne (tgt := 99) hx hb d_Mo_tree_87 (by decide) (fun hc26 => ?_) (fun hc26 => ?_)
            · skip
              refine lv_aload_n hx hb d_Mo_tree_99 rfl (lv_at hl 0 rfl) ?_
              refine hm_get (ci := 9) (v := .ref aEx) (C := R_Mo) (T := F_Mo) (N := 41) hx hb hts ig_Mo hown hK hH f_m rfl 18 (by decide) (hts _ mw_397) (fun _ h9 => h9) rfl d_Mo_tree_100 ?_
              refine lv_iload_n hx hb d_Mo_tree_103 rfl (lv_at hl 1 rfl) ?_
              refine hj_iald hx hb hK hH 2 f_aEx rfl 0 (by decide) (by decide) (by decide) d_Mo_tree_104 ?_
              exact W.iret (v := gEx 0) hx hb hr (fun t9 ht hW => ⟨gEx 0, h20, rfl, ⟨fun q => absurd (q.symm.trans hT) (by decide), fun _ => by rw [zEx, treeC, if_neg hc23], aBy, aSt, aDe, aPa, aIt, aId, aPr, aNa, aSi, aSe, aIw, aEx, aOl, aPl, aTa, aAt, aLo, aS1, aS2, aS3, aS4, aS5, aS6, aO1, aO2, aO3, aO4, aO5, by rw [hT]; exact f_m⟩, by rw [ht]; exact hH, by rw [ht]; exact hz⟩) hLo d_Mo_tree_105
            · skip
              refine lv_aload_n hx hb d_Mo_tree_90 rfl (lv_at hl 0 rfl) ?_
              refine hm_get (ci := 9) (v := .ref aSe) (C := R_Mo) (T := F_Mo) (N := 41) hx hb hts ig_Mo hown hK hH f_m rfl 16 (by decide) (hts _ mw_396) (fun _ h9 => h9) rfl d_Mo_tree_91 ?_
              refine lv_iload_n hx hb d_Mo_tree_94 rfl (lv_at hl 1 rfl) ?_
              refine hj_iald hx hb hK hH 2 f_aSe rfl 0 (by decide) (by decide) (by decide) d_Mo_tree_95 ?_
              refine lv_goto (tgt := 105) hx hb d_Mo_tree_96 (by decide) ?_
              exact W.iret (v := gSe 0) hx hb hr (fun t9 ht hW => ⟨gSe 0, h20, rfl, ⟨fun q => absurd (q.symm.trans hT) (by decide), fun _ => by rw [zSe, treeC, if_neg hc23], aBy, aSt, aDe, aPa, aIt, aId, aPr, aNa, aSi, aSe, aIw, aEx, aOl, aPl, aTa, aAt, aLo, aS1, aS2, aS3, aS4, aS5, aS6, aO1, aO2, aO3, aO4, aO5, by rw [hT]; exact f_m⟩, by rw [ht]; exact hH, by rw [ht]; exact hz⟩) hLo d_Mo_tree_105
          · skip
            refine lv_aload_n hx hb d_Mo_tree_76 rfl (lv_at hl 0 rfl) ?_
            refine hm_get (ci := 9) (v := .ref aSi) (C := R_Mo) (T := F_Mo) (N := 41) hx hb hts ig_Mo hown hK hH f_m rfl 15 (by decide) (hts _ mw_395) (fun _ h9 => h9) rfl d_Mo_tree_77 ?_
            refine lv_iload_n hx hb d_Mo_tree_80 rfl (lv_at hl 1 rfl) ?_
            refine hj_iald hx hb hK hH 2 f_aSi rfl 0 (by decide) (by decide) (by decide) d_Mo_tree_81 ?_
            refine lv_goto (tgt := 105) hx hb d_Mo_tree_82 (by decide) ?_
            exact W.iret (v := gSi 0) hx hb hr (fun t9 ht hW => ⟨gSi 0, h20, rfl, ⟨fun q => absurd (q.symm.trans hT) (by decide), fun _ => by rw [zSi, treeC, if_neg hc23], aBy, aSt, aDe, aPa, aIt, aId, aPr, aNa, aSi, aSe, aIw, aEx, aOl, aPl, aTa, aAt, aLo, aS1, aS2, aS3, aS4, aS5, aS6, aO1, aO2, aO3, aO4, aO5, by rw [hT]; exact f_m⟩, by rw [ht]; exact hH, by rw [ht]; exact hz⟩) hLo d_Mo_tree_105
        · skip
          refine lv_aload_n hx hb d_Mo_tree_54 rfl (lv_at hl 0 rfl) ?_
          refine hm_get (ci := 9) (v := .ref aId) (C := R_Mo) (T := F_Mo) (N := 41) hx hb hts ig_Mo hown hK hH f_m rfl 12 (by decide) (hts _ mw_392) (fun _ h9 => h9) rfl d_Mo_tree_55 ?_
          refine lv_iload_n hx hb d_Mo_tree_58 rfl (lv_at hl 1 rfl) ?_
          refine hj_zald hx hb hK hH 1 f_aId rfl 0 (by decide) (by decide) (by decide) d_Mo_tree_59 ?_
          refine lv_if_eq (tgt := 67) hx hb d_Mo_tree_60 (by decide) (fun hc27 => absurd hc27 (by rw [zId]; decide)) (fun hc27 => ?_)
          refine lv_iconst (v := 0) hx hb d_Mo_tree_63 (by decide) ?_
          refine lv_goto (tgt := 105) hx hb d_Mo_tree_64 (by decide) ?_
          exact W.iret (v := 0) hx hb hr (fun t9 ht hW => ⟨0, h20, rfl, ⟨fun q => absurd (q.symm.trans hT) (by decide), fun _ => by rw [treeC, if_neg hc23], aBy, aSt, aDe, aPa, aIt, aId, aPr, aNa, aSi, aSe, aIw, aEx, aOl, aPl, aTa, aAt, aLo, aS1, aS2, aS3, aS4, aS5, aS6, aO1, aO2, aO3, aO4, aO5, by rw [hT]; exact f_m⟩, by rw [ht]; exact hH, by rw [ht]; exact hz⟩) hLo d_Mo_tree_105
      · skip
        refine lv_aload_n hx hb d_Mo_tree_40 rfl (lv_at hl 0 rfl) ?_
        refine hm_get (ci := 9) (v := .ref aPr) (C := R_Mo) (T := F_Mo) (N := 41) hx hb hts ig_Mo hown hK hH f_m rfl 13 (by decide) (hts _ mw_393) (fun _ h9 => h9) rfl d_Mo_tree_41 ?_
        refine lv_iload_n hx hb d_Mo_tree_44 rfl (lv_at hl 1 rfl) ?_
        refine hj_iald hx hb hK hH 2 f_aPr rfl 0 (by decide) (by decide) (by decide) d_Mo_tree_45 ?_
        refine lv_goto (tgt := 105) hx hb d_Mo_tree_46 (by decide) ?_
        exact W.iret (v := gPr 0) hx hb hr (fun t9 ht hW => ⟨gPr 0, h20, rfl, ⟨fun q => absurd (q.symm.trans hT) (by decide), fun _ => by rw [zPr, treeC, if_pos hc23], aBy, aSt, aDe, aPa, aIt, aId, aPr, aNa, aSi, aSe, aIw, aEx, aOl, aPl, aTa, aAt, aLo, aS1, aS2, aS3, aS4, aS5, aS6, aO1, aO2, aO3, aO4, aO5, by rw [hT]; exact f_m⟩, by rw [ht]; exact hH, by rw [ht]; exact hz⟩) hLo d_Mo_tree_105
  · skip
    refine hm_calli (va_runV (As := [.int k9]) (b := mo) (rest := [.ref mo]) ⟨hx, hb, hml, hown, hts⟩ (c_m_isNode l D t G ak av h mo n aBy aSt aDe aPa aIt aId aPr aNa aSi aSe aIw aEx aOl aPl aTa aAt aLo aS1 aS2 aS3 aS4 aS5 aS6 aO1 aO2 aO3 aO4 aO5 gIt k9 f_m f_aIt zIt) ⟨cw9B 1 hts mw_444 mw_445 mw_428 rfl rfl (by decide +kernel) ⟨Nat.le_of_ble_eq_true rfl, Nat.le_of_ble_eq_true rfl⟩, hts _ mw_446, hts _ mw_447⟩ (hP_V (q := (R_Mo, F_Mo, 41)) kE_ok hE hK hH f_m rfl) rfl rfl hl.1 rfl (lv_room (Nat.le_of_ble_eq_true rfl)) d_Mo_tree_3 ⟨Nat.le_of_ble_eq_true rfl, Nat.le_of_ble_eq_true rfl⟩) hLo (fun r28 h29 H30 locs hp32 hH z31 hLo => ?_)
    have hz : s.heap.size ≤ H30.size := Nat.le_trans hz z31
    obtain ⟨hr9, rfl⟩ := hp32
    rw [if_neg hin] at hr9
    subst hr9
    refine lv_if_eq (tgt := 22) hx hb d_Mo_tree_6 (by decide) (fun hc33 => ?_) (fun hc33 => absurd rfl hc33)
    refine lv_iconst (v := 1) hx hb d_Mo_tree_22 (by decide) ?_
    refine hm_put (ci := 9) (v := .int 1) (ty := .int) (C := R_Mo) (T := F_Mo) (N := 41) hx hb hts ig_Mo t_Mo tk_Mo nm_Mo hown hK hH hLo f_m rfl 0 (by decide) (hts _ mw_432) (fun _ h9 => h9) rfl (by decide +kernel) rfl rfl (Nat.le_of_ble_eq_true rfl) d_Mo_tree_23 (fun H34 locs hH z35 hLo => ?_)
    have hz : s.heap.size ≤ H34.size := by rw [z35]; exact hz
    obtain ⟨h36, e37⟩ : ∃ z, z = hu h mo (.inr (9, [.int 1, .int (nI n), .int 0, .ref aBy, .ref aSt, .ref aDe, .int 0, .int (-1), .int 0, .ref aPa, .int 1, .ref aIt, .ref aId, .ref aPr, .ref aNa, .ref aSi, .ref aSe, .ref aIw, .ref aEx, .ref aOl, .int 0, .ref aPl, .int 0, .int 0, .ref aTa, .ref aAt, .ref aLo, .int 0, .int 0, .ref aS1, .ref aS2, .ref aS3, .ref aS4, .ref aS5, .ref aS6, .int 0, .ref aO1, .ref aO2, .ref aO3, .ref aO4, .ref aO5])) := ⟨_, rfl⟩
    have hH : hm D vwCl G h36 H34 := by rw [e37]; exact hH
    have f_aIt : h36 aIt = some (.inl ((t 1), 700, .inl gIt)) := by rw [e37, hu_n (h_neA f_aIt f_m)]; exact f_aIt
    have f_aPr : h36 aPr = some (.inl ((t 2), 700, .inl gPr)) := by rw [e37, hu_n (h_neA f_aPr f_m)]; exact f_aPr
    have f_aId : h36 aId = some (.inl ((t 1), 700, .inl gId)) := by rw [e37, hu_n (h_neA f_aId f_m)]; exact f_aId
    have f_aSi : h36 aSi = some (.inl ((t 2), 700, .inl gSi)) := by rw [e37, hu_n (h_neA f_aSi f_m)]; exact f_aSi
    have f_aSe : h36 aSe = some (.inl ((t 2), 700, .inl gSe)) := by rw [e37, hu_n (h_neA f_aSe f_m)]; exact f_aSe
    have f_aEx : h36 aEx = some (.inl ((t 2), 700, .inl gEx)) := by rw [e37, hu_n (h_neA f_aEx f_m)]; exact f_aEx
    have f_m : h36 mo = some (.inr (9, [.int 1, .int (nI n), .int 0, .ref aBy, .ref aSt, .ref aDe, .int 0, .int (-1), .int 0, .ref aPa, .int 1, .ref aIt, .ref aId, .ref aPr, .ref aNa, .ref aSi, .ref aSe, .ref aIw, .ref aEx, .ref aOl, .int 0, .ref aPl, .int 0, .int 0, .ref aTa, .ref aAt, .ref aLo, .int 0, .int 0, .ref aS1, .ref aS2, .ref aS3, .ref aS4, .ref aS5, .ref aS6, .int 0, .ref aO1, .ref aO2, .ref aO3, .ref aO4, .ref aO5])) := by rw [e37]; exact hu_s _ _ _
    refine lv_aload_n hx hb d_Mo_tree_26 rfl (lv_at hl 0 rfl) ?_
    refine hm_get (ci := 9) (v := .int 1) (C := R_Mo) (T := F_Mo) (N := 41) hx hb hts ig_Mo hown hK hH f_m rfl 0 (by decide) (hts _ mw_432) (fun _ h9 => h9) rfl d_Mo_tree_27 ?_
    refine lv_iconst (v := 1) hx hb d_Mo_tree_30 (by decide) ?_
    refine lv_icmp_ne (tgt := 36) hx hb d_Mo_tree_31 (by decide) (fun hc38 => absurd rfl hc38) (fun hc38 => ?_)
    refine lv_iconst (v := 0) hx hb d_Mo_tree_34 (by decide) ?_
    exact W.iret (v := 0) hx hb hr (fun t9 ht hW => ⟨0, h36, rfl, ⟨fun _ => rfl, fun q => absurd (q.symm.trans ((show treeT k9 w9 = 1 from if_neg hin))) (by decide), aBy, aSt, aDe, aPa, aIt, aId, aPr, aNa, aSi, aSe, aIw, aEx, aOl, aPl, aTa, aAt, aLo, aS1, aS2, aS3, aS4, aS5, aS6, aO1, aO2, aO3, aO4, aO5, by rw [(show treeT k9 w9 = 1 from if_neg hin)]; exact f_m⟩, by rw [ht]; exact hH, by rw [ht]; exact hz⟩) hLo d_Mo_tree_35

set_option maxHeartbeats 4000000 in
set_option maxRecDepth 100000 in
theorem c_m_discover (l : Launch) (D : va_G) (t : Nat → ClassId) (G : hG) (ak av : Nat → Nat) (h : hM) (mo n : Nat) (hM : FrM t h mo n) : Met l y_Mo_discover (.code y_Mo_discover b_Mo_discover 4 (some .int) :: lw_g) { frames := 3, cells := 0, slots := 0, locals := 66 } (hP (kE D t G ak av) D vwCl G h [.ref mo]) (hQi D vwCl G (fun r h' => r = 0)) 0 0 G.P := by
  refine Met.ofW (cc := b_Mo_discover) (maxL := 4) (ret := (some .int)) (by decide) rfl ?_
  intro p e s m args below meth c s₁ Bd hml hv
  obtain ⟨ha, hE, hH⟩ := hv
  have hx := Bd.exec
  have hb := Bd.bytes
  have hr := Bd.returns
  have hts : ∀ w ∈ lw_g, w.before args s = true := fun w hw => atoms_spec (ws := (.code y_Mo_discover b_Mo_discover 4 (some .int) :: lw_g)) Bd.pre w (List.mem_cons_of_mem _ hw)
  have hown : s.vm.findClass R_Mo = some m.cls := findClass_of_methodNamed Bd.named
  have hlocks := Bd.notSynchronized
  have hK := hE.1
  have hH0 := hH
  have hLo : hLc G.P [] := hLc_nil
  have hz : s.heap.size ≤ s.heap.size := Nat.le_refl _
  have hkp : kp [] h h := kp_rf
  have hl := lv_entry [.ref mo] (n := 4) (Nat.le_of_ble_eq_true rfl)
  rw [show entryFrame m args 4 = F0 m 0 ((lg_sl [.ref mo] ++ List.replicate (4 - (lg_sl [.ref mo]).length) Slot.unset).toArray) [] from (by rw [ha]; exact lg_entry_eq m [.ref mo] 4)]
  generalize (lg_sl [.ref mo] ++ List.replicate (4 - (lg_sl [.ref mo]).length) Slot.unset).toArray = ls at hl ⊢
  have hl : lv_has ls 4 [(0, .ref mo)] := hl
  obtain ⟨aBy, aSt, aDe, aPa, aIt, aId, aPr, aNa, aSi, aSe, aIw, aEx, aOl, aPl, aTa, aAt, aLo, aS1, aS2, aS3, aS4, aS5, aS6, aO1, aO2, aO3, aO4, aO5, gBy, gSt, gDe, gPa, gIt, gId, gPr, gSi, gSe, gIw, gEx, gOl, gPl, gTa, gAt, gLo, gNa, f_m, f_aBy, f_aSt, f_aDe, f_aPa, f_aIt, f_aId, f_aPr, f_aNa, f_aSi, f_aSe, f_aIw, f_aEx, f_aOl, f_aPl, f_aTa, f_aAt, f_aLo, zBy, zSt, zDe, zIt, zId, zPr, zSi, zSe, zEx, ne_aIt_aId, ne_aIt_aPr, ne_aIt_aSi, ne_aIt_aSe, ne_aIt_aEx, ne_aId_aPr, ne_aId_aSi, ne_aId_aSe, ne_aId_aEx, ne_aPr_aSi, ne_aPr_aSe, ne_aPr_aEx, ne_aSi_aSe, ne_aSi_aEx, ne_aSe_aEx, ne_aId_aAt, ne_aId_aLo, ne_aAt_aLo, ne_aId_aOl, ne_aIt_aIw, ne_aId_aIw, ne_aPr_aIw, ne_aSi_aIw, ne_aSe_aIw, ne_aIw_aEx, ne_aEx_aOl, ne_aOl_aAt, ne_aOl_aLo, hn40, hn⟩ := hM
  refine lv_aload_n hx hb d_Mo_discover_0 rfl (lv_at hl 0 rfl) ?_
  refine lv_iconst (v := 0) hx hb d_Mo_discover_1 (by decide) ?_
  refine hm_put (ci := 9) (v := .int 0) (ty := .int) (C := R_Mo) (T := F_Mo) (N := 41) hx hb hts ig_Mo t_Mo tk_Mo nm_Mo hown hK hH hLo f_m rfl 0 (by decide) (hts _ mw_432) (fun _ h9 => h9) rfl (by decide +kernel) rfl rfl (Nat.le_of_ble_eq_true rfl) d_Mo_discover_2 (fun H1 locs hH z2 hLo => ?_)
  have hz : s.heap.size ≤ H1.size := by rw [z2]; exact hz
  obtain ⟨h3, e4⟩ : ∃ z, z = hu h mo (.inr (9, [.int 0, .int (nI n), .int 0, .ref aBy, .ref aSt, .ref aDe, .int 0, .int (-1), .int 0, .ref aPa, .int 1, .ref aIt, .ref aId, .ref aPr, .ref aNa, .ref aSi, .ref aSe, .ref aIw, .ref aEx, .ref aOl, .int 0, .ref aPl, .int 0, .int 0, .ref aTa, .ref aAt, .ref aLo, .int 0, .int 0, .ref aS1, .ref aS2, .ref aS3, .ref aS4, .ref aS5, .ref aS6, .int 0, .ref aO1, .ref aO2, .ref aO3, .ref aO4, .ref aO5])) := ⟨_, rfl⟩
  have hH : hm D vwCl G h3 H1 := by rw [e4]; exact hH
  have f_aSt : h3 aSt = some (.inl ((t 0), 400, .inl gSt)) := by rw [e4, hu_n (h_neA f_aSt f_m)]; exact f_aSt
  have f_aIt : h3 aIt = some (.inl ((t 1), 700, .inl gIt)) := by rw [e4, hu_n (h_neA f_aIt f_m)]; exact f_aIt
  have f_aId : h3 aId = some (.inl ((t 1), 700, .inl gId)) := by rw [e4, hu_n (h_neA f_aId f_m)]; exact f_aId
  have f_aPr : h3 aPr = some (.inl ((t 2), 700, .inl gPr)) := by rw [e4, hu_n (h_neA f_aPr f_m)]; exact f_aPr
  have f_aSi : h3 aSi = some (.inl ((t 2), 700, .inl gSi)) := by rw [e4, hu_n (h_neA f_aSi f_m)]; exact f_aSi
  have f_aSe : h3 aSe = some (.inl ((t 2), 700, .inl gSe)) := by rw [e4, hu_n (h_neA f_aSe f_m)]; exact f_aSe
  have f_aEx : h3 aEx = some (.inl ((t 2), 700, .inl gEx)) := by rw [e4, hu_n (h_neA f_aEx f_m)]; exact f_aEx
  have f_aNa : h3 aNa = some (.inl ((t 3), 700, .inr (.inl gNa))) := by rw [e4, hu_n (h_neA f_aNa f_m)]; exact f_aNa
  have f_m : h3 mo = some (.inr (9, [.int 0, .int (nI n), .int 0, .ref aBy, .ref aSt, .ref aDe, .int 0, .int (-1), .int 0, .ref aPa, .int 1, .ref aIt, .ref aId, .ref aPr, .ref aNa, .ref aSi, .ref aSe, .ref aIw, .ref aEx, .ref aOl, .int 0, .ref aPl, .int 0, .int 0, .ref aTa, .ref aAt, .ref aLo, .int 0, .int 0, .ref aS1, .ref aS2, .ref aS3, .ref aS4, .ref aS5, .ref aS6, .int 0, .ref aO1, .ref aO2, .ref aO3, .ref aO4, .ref aO5])) := by rw [e4]; exact hu_s _ _ _
  refine lv_iconst (v := 0) hx hb d_Mo_discover_5 (by decide) ?_
  refine lv_istore_n (lv' := [(1, .int 0), (0, .ref mo)]) hx hb d_Mo_discover_6 rfl hl (by decide) rfl (fun ls hl => ?_)
  refine lv_iconst (v := -1) hx hb d_Mo_discover_7 (by decide) ?_
  refine lv_istore_n (lv' := [(2, .int (-1)), (1, .int 0), (0, .ref mo)]) hx hb d_Mo_discover_8 rfl hl (by decide) rfl (fun ls hl => ?_)
  refine lv_iconst (v := 0) hx hb d_Mo_discover_9 (by decide) ?_
  refine lv_topi (fun v5 e6 => ?_)
  obtain rfl : v5 = nI 0 := e6.trans (by decide)
  refine lv_istore_n (lv' := [(3, .int (nI 0)), (2, .int (-1)), (1, .int 0), (0, .ref mo)]) hx hb d_Mo_discover_10 rfl hl (by decide) rfl (fun ls hl => ?_)
  refine hm_loop (fun k ls H locs hh => ∃ (k9 : Nat), k = n - k9 ∧ lv_has ls 4 [(3, .int (nI k9)), (0, .ref mo), (1, .int 0), (2, .int (-1))] ∧ hm D vwCl G hh H ∧ s.heap.size ≤ H.size ∧ hLc G.P locs ∧ hh mo = some (.inr (9, [.int 0, .int (nI n), .int 0, .ref aBy, .ref aSt, .ref aDe, .int 0, .int (-1), .int 0, .ref aPa, .int 1, .ref aIt, .ref aId, .ref aPr, .ref aNa, .ref aSi, .ref aSe, .ref aIw, .ref aEx, .ref aOl, .int 0, .ref aPl, .int 0, .int 0, .ref aTa, .ref aAt, .ref aLo, .int 0, .int 0, .ref aS1, .ref aS2, .ref aS3, .ref aS4, .ref aS5, .ref aS6, .int 0, .ref aO1, .ref aO2, .ref aO3, .ref aO4, .ref aO5])) ∧ hh aSt = some (.inl ((t 0), 400, .inl gSt)) ∧ hh aIt = some (.inl ((t 1), 700, .inl gIt)) ∧ hh aId = some (.inl ((t 1), 700, .inl gId)) ∧ hh aPr = some (.inl ((t 2), 700, .inl gPr)) ∧ hh aSi = some (.inl ((t 2), 700, .inl gSi)) ∧ hh aSe = some (.inl ((t 2), 700, .inl gSe)) ∧ hh aEx = some (.inl ((t 2), 700, .inl gEx)) ∧ hh aNa = some (.inl ((t 3), 700, .inr (.inl gNa))) ∧ (k9 ≤ n)) ?_ (hh := h3) ⟨0, rfl, (lv_sub hl [0, 3, 2, 1] rfl), hH, hz, hLo, f_m, f_aSt, f_aIt, f_aId, f_aPr, f_aSi, f_aSe, f_aEx, f_aNa, by omega⟩
  rintro k ls H locs hh ⟨k9, hk, hl, hH, hz, hLo, f_m, f_aSt, f_aIt, f_aId, f_aPr, f_aSi, f_aSe, f_aEx, f_aNa, hk9⟩ ih
  refine lv_iload_n hx hb d_Mo_discover_11 rfl (lv_at hl 0 rfl) ?_
  refine lv_aload_n hx hb d_Mo_discover_12 rfl (lv_at hl 1 rfl) ?_
  refine hm_get (ci := 9) (v := .int (nI n)) (C := R_Mo) (T := F_Mo) (N := 41) hx hb hts ig_Mo hown hK hH f_m rfl 1 (by decide) (hts _ mw_425) (fun _ h9 => h9) rfl d_Mo_discover_13 ?_
  refine lv_icmp_ge (tgt := 60) hx hb d_Mo_discover_16 (by decide) (fun hc7 => ?_) (fun hc7 => ?_)
  · skip
    refine lv_aload_n hx hb d_Mo_discover_60 rfl (lv_at hl 1 rfl) ?_
    refine hm_get (ci := 9) (v := .int 0) (C := R_Mo) (T := F_Mo) (N := 41) hx hb hts ig_Mo hown hK hH f_m rfl 6 (by decide) (hts _ mw_440) (fun _ h9 => h9) rfl d_Mo_discover_61 ?_
    refine lv_if_eq (tgt := 72) hx hb d_Mo_discover_64 (by decide) (fun hc8 => ?_) (fun hc8 => absurd rfl hc8)
    refine lv_aload_n hx hb d_Mo_discover_72 rfl (lv_at hl 1 rfl) ?_
    refine lv_iconst (v := 0) hx hb d_Mo_discover_73 (by decide) ?_
    refine hm_put (ci := 9) (v := .int 0) (ty := .boolean) (C := R_Mo) (T := F_Mo) (N := 41) hx hb hts ig_Mo t_Mo tk_Mo nm_Mo hown hK hH hLo f_m rfl 6 (by decide) (hts _ mw_440) (fun _ h9 => h9) rfl (by decide +kernel) (by decide) (by decide) (Nat.le_of_ble_eq_true rfl) d_Mo_discover_74 (fun H9 locs hH z10 hLo => ?_)
    have hz : s.heap.size ≤ H9.size := by rw [z10]; exact hz
    obtain ⟨h11, e12⟩ : ∃ z, z = hu hh mo (.inr (9, [.int 0, .int (nI n), .int 0, .ref aBy, .ref aSt, .ref aDe, .int 0, .int (-1), .int 0, .ref aPa, .int 1, .ref aIt, .ref aId, .ref aPr, .ref aNa, .ref aSi, .ref aSe, .ref aIw, .ref aEx, .ref aOl, .int 0, .ref aPl, .int 0, .int 0, .ref aTa, .ref aAt, .ref aLo, .int 0, .int 0, .ref aS1, .ref aS2, .ref aS3, .ref aS4, .ref aS5, .ref aS6, .int 0, .ref aO1, .ref aO2, .ref aO3, .ref aO4, .ref aO5])) := ⟨_, rfl⟩
    have hH : hm D vwCl G h11 H9 := by rw [e12]; exact hH
    have f_aSt : h11 aSt = some (.inl ((t 0), 400, .inl gSt)) := by rw [e12, hu_n (h_neA f_aSt f_m)]; exact f_aSt
    have f_aIt : h11 aIt = some (.inl ((t 1), 700, .inl gIt)) := by rw [e12, hu_n (h_neA f_aIt f_m)]; exact f_aIt
    have f_aId : h11 aId = some (.inl ((t 1), 700, .inl gId)) := by rw [e12, hu_n (h_neA f_aId f_m)]; exact f_aId
    have f_aPr : h11 aPr = some (.inl ((t 2), 700, .inl gPr)) := by rw [e12, hu_n (h_neA f_aPr f_m)]; exact f_aPr
    have f_aSi : h11 aSi = some (.inl ((t 2), 700, .inl gSi)) := by rw [e12, hu_n (h_neA f_aSi f_m)]; exact f_aSi
    have f_aSe : h11 aSe = some (.inl ((t 2), 700, .inl gSe)) := by rw [e12, hu_n (h_neA f_aSe f_m)]; exact f_aSe
    have f_aEx : h11 aEx = some (.inl ((t 2), 700, .inl gEx)) := by rw [e12, hu_n (h_neA f_aEx f_m)]; exact f_aEx
    have f_aNa : h11 aNa = some (.inl ((t 3), 700, .inr (.inl gNa))) := by rw [e12, hu_n (h_neA f_aNa f_m)]; exact f_aNa
    have f_m : h11 mo = some (.inr (9, [.int 0, .int (nI n), .int 0, .ref aBy, .ref aSt, .ref aDe, .int 0, .int (-1), .int 0, .ref aPa, .int 1, .ref aIt, .ref aId, .ref aPr, .ref aNa, .ref aSi, .ref aSe, .ref aIw, .ref aEx, .ref aOl, .int 0, .ref aPl, .int 0, .int 0, .ref aTa, .ref aAt, .ref aLo, .int 0, .int 0, .ref aS1, .ref aS2, .ref aS3, .ref aS4, .ref aS5, .ref aS6, .int 0, .ref aO1, .ref aO2, .ref aO3, .ref aO4, .ref aO5])) := by rw [e12]; exact hu_s _ _ _
    refine lv_aload_n hx hb d_Mo_discover_77 rfl (lv_at hl 1 rfl) ?_
    refine lv_iconst (v := 0) hx hb d_Mo_discover_78 (by decide) ?_
    refine hm_put (ci := 9) (v := .int 0) (ty := .int) (C := R_Mo) (T := F_Mo) (N := 41) hx hb hts ig_Mo t_Mo tk_Mo nm_Mo hown hK hH hLo f_m rfl 20 (by decide) (hts _ mw_487) (fun _ h9 => h9) rfl (by decide +kernel) rfl rfl (Nat.le_of_ble_eq_true rfl) d_Mo_discover_79 (fun H13 locs hH z14 hLo => ?_)
    have hz : s.heap.size ≤ H13.size := by rw [z14]; exact hz
    obtain ⟨h15, e16⟩ : ∃ z, z = hu h11 mo (.inr (9, [.int 0, .int (nI n), .int 0, .ref aBy, .ref aSt, .ref aDe, .int 0, .int (-1), .int 0, .ref aPa, .int 1, .ref aIt, .ref aId, .ref aPr, .ref aNa, .ref aSi, .ref aSe, .ref aIw, .ref aEx, .ref aOl, .int 0, .ref aPl, .int 0, .int 0, .ref aTa, .ref aAt, .ref aLo, .int 0, .int 0, .ref aS1, .ref aS2, .ref aS3, .ref aS4, .ref aS5, .ref aS6, .int 0, .ref aO1, .ref aO2, .ref aO3, .ref aO4, .ref aO5])) := ⟨_, rfl⟩
    have hH : hm D vwCl G h15 H13 := by rw [e16]; exact hH
    have f_aSt : h15 aSt = some (.inl ((t 0), 400, .inl gSt)) := by rw [e16, hu_n (h_neA f_aSt f_m)]; exact f_aSt
    have f_aIt : h15 aIt = some (.inl ((t 1), 700, .inl gIt)) := by rw [e16, hu_n (h_neA f_aIt f_m)]; exact f_aIt
    have f_aId : h15 aId = some (.inl ((t 1), 700, .inl gId)) := by rw [e16, hu_n (h_neA f_aId f_m)]; exact f_aId
    have f_aPr : h15 aPr = some (.inl ((t 2), 700, .inl gPr)) := by rw [e16, hu_n (h_neA f_aPr f_m)]; exact f_aPr
    have f_aSi : h15 aSi = some (.inl ((t 2), 700, .inl gSi)) := by rw [e16, hu_n (h_neA f_aSi f_m)]; exact f_aSi
    have f_aSe : h15 aSe = some (.inl ((t 2), 700, .inl gSe)) := by rw [e16, hu_n (h_neA f_aSe f_m)]; exact f_aSe
    have f_aEx : h15 aEx = some (.inl ((t 2), 700, .inl gEx)) := by rw [e16, hu_n (h_neA f_aEx f_m)]; exact f_aEx
    have f_aNa : h15 aNa = some (.inl ((t 3), 700, .inr (.inl gNa))) := by rw [e16, hu_n (h_neA f_aNa f_m)]; exact f_aNa
    have f_m : h15 mo = some (.inr (9, [.int 0, .int (nI n), .int 0, .ref aBy, .ref aSt, .ref aDe, .int 0, .int (-1), .int 0, .ref aPa, .int 1, .ref aIt, .ref aId, .ref aPr, .ref aNa, .ref aSi, .ref aSe, .ref aIw, .ref aEx, .ref aOl, .int 0, .ref aPl, .int 0, .int 0, .ref aTa, .ref aAt, .ref aLo, .int 0, .int 0, .ref aS1, .ref aS2, .ref aS3, .ref aS4, .ref aS5, .ref aS6, .int 0, .ref aO1, .ref aO2, .ref aO3, .ref aO4, .ref aO5])) := by rw [e16]; exact hu_s _ _ _
    refine lv_iconst (v := 0) hx hb d_Mo_discover_82 (by decide) ?_
    refine lv_istore_n (lv' := [(3, .int 0), (0, .ref mo), (1, .int 0), (2, .int (-1))]) hx hb d_Mo_discover_83 rfl hl (by decide) rfl (fun ls hl => ?_)
    refine lv_iload_n hx hb d_Mo_discover_84 rfl (lv_at hl 0 rfl) ?_
    refine lv_aload_n hx hb d_Mo_discover_85 rfl (lv_at hl 1 rfl) ?_
    refine hm_get (ci := 9) (v := .int 1) (C := R_Mo) (T := F_Mo) (N := 41) hx hb hts ig_Mo hown hK hH f_m rfl 10 (by decide) (hts _ mw_390) (fun _ h9 => h9) rfl d_Mo_discover_86 ?_
    refine lv_icmp_ge (tgt := 105) hx hb d_Mo_discover_89 (by decide) (fun hc17 => absurd hc17 (by decide)) (fun hc17 => ?_)
    refine lv_aload_n hx hb d_Mo_discover_92 rfl (lv_at hl 1 rfl) ?_
    refine hm_get (ci := 9) (v := .ref aIt) (C := R_Mo) (T := F_Mo) (N := 41) hx hb hts ig_Mo hown hK hH f_m rfl 11 (by decide) (hts _ mw_391) (fun _ h9 => h9) rfl d_Mo_discover_93 ?_
    refine lv_iload_n hx hb d_Mo_discover_96 rfl (lv_at hl 0 rfl) ?_
    refine lv_iconst (v := 0) hx hb d_Mo_discover_97 (by decide) ?_
    refine hj_zast hx hb hK hH hLo 1 f_aIt rfl 0 (by decide) (by decide) (by decide) d_Mo_discover_98 (fun H18 locs hH z19 hLo => ?_)
    have hz : s.heap.size ≤ H18.size := by rw [z19]; exact hz
    obtain ⟨h20, e21⟩ : ∃ z, z = hu h15 aIt (.inl ((t 1), 700, .inl (upd gIt 0 (vp_nar .boolean 0)))) := ⟨_, rfl⟩
    have hH : hm D vwCl G h20 H18 := by rw [e21]; exact hH
    have f_m : h20 mo = some (.inr (9, [.int 0, .int (nI n), .int 0, .ref aBy, .ref aSt, .ref aDe, .int 0, .int (-1), .int 0, .ref aPa, .int 1, .ref aIt, .ref aId, .ref aPr, .ref aNa, .ref aSi, .ref aSe, .ref aIw, .ref aEx, .ref aOl, .int 0, .ref aPl, .int 0, .int 0, .ref aTa, .ref aAt, .ref aLo, .int 0, .int 0, .ref aS1, .ref aS2, .ref aS3, .ref aS4, .ref aS5, .ref aS6, .int 0, .ref aO1, .ref aO2, .ref aO3, .ref aO4, .ref aO5])) := by rw [e21, hu_n (Ne.symm (h_neA f_aIt f_m))]; exact f_m
    have f_aSt : h20 aSt = some (.inl ((t 0), 400, .inl gSt)) := by rw [e21, hu_n (h_neL (k1 := 400) (k2 := 700) f_aSt f_aIt rfl rfl (by omega))]; exact f_aSt
    have f_aId : h20 aId = some (.inl ((t 1), 700, .inl gId)) := by rw [e21, hu_n (Ne.symm ne_aIt_aId)]; exact f_aId
    have f_aPr : h20 aPr = some (.inl ((t 2), 700, .inl gPr)) := by rw [e21, hu_n (Ne.symm ne_aIt_aPr)]; exact f_aPr
    have f_aSi : h20 aSi = some (.inl ((t 2), 700, .inl gSi)) := by rw [e21, hu_n (Ne.symm ne_aIt_aSi)]; exact f_aSi
    have f_aSe : h20 aSe = some (.inl ((t 2), 700, .inl gSe)) := by rw [e21, hu_n (Ne.symm ne_aIt_aSe)]; exact f_aSe
    have f_aEx : h20 aEx = some (.inl ((t 2), 700, .inl gEx)) := by rw [e21, hu_n (Ne.symm ne_aIt_aEx)]; exact f_aEx
    have f_aNa : h20 aNa = some (.inl ((t 3), 700, .inr (.inl gNa))) := by rw [e21, hu_n (h_neK (k1 := 1) (k2 := 0) f_aNa f_aIt rfl rfl (by decide))]; exact f_aNa
    have f_aIt : h20 aIt = some (.inl ((t 1), 700, .inl (upd gIt 0 (vp_nar .boolean 0)))) := by rw [e21]; exact hu_s _ _ _
    refine lv_iinc (v := 0 + 1) (lv' := [(3, .int (0 + 1)), (0, .ref mo), (1, .int 0), (2, .int (-1))]) hx hb d_Mo_discover_99 hl (k := 0) rfl (by rfl) (by decide) rfl (fun ls hl => ?_)
    refine lv_goto (tgt := 84) hx hb d_Mo_discover_102 (by decide) ?_
    refine lv_iload_n hx hb d_Mo_discover_84 rfl (lv_at hl 0 rfl) ?_
    refine lv_aload_n hx hb d_Mo_discover_85 rfl (lv_at hl 1 rfl) ?_
    refine hm_get (ci := 9) (v := .int 1) (C := R_Mo) (T := F_Mo) (N := 41) hx hb hts ig_Mo hown hK hH f_m rfl 10 (by decide) (hts _ mw_390) (fun _ h9 => h9) rfl d_Mo_discover_86 ?_
    refine lv_icmp_ge (tgt := 105) hx hb d_Mo_discover_89 (by decide) (fun hc22 => ?_) (fun hc22 => absurd (by decide) hc22)
    refine lv_aload_n hx hb d_Mo_discover_105 rfl (lv_at hl 1 rfl) ?_
    refine hm_callv (va_runV (As := []) (b := mo) (rest := []) ⟨hx, hb, hml, hown, hts⟩ (c_m_rootAlone l D t G ak av h20 mo n aBy aSt aDe aPa aIt aId aPr aNa aSi aSe aIw aEx aOl aPl aTa aAt aLo aS1 aS2 aS3 aS4 aS5 aS6 aO1 aO2 aO3 aO4 aO5 1 (upd gIt 0 (vp_nar .boolean 0)) gId gPr gSi gSe gEx gNa f_m f_aIt f_aId f_aPr f_aSi f_aSe f_aEx f_aNa ne_aIt_aId ne_aIt_aPr ne_aIt_aSi ne_aIt_aSe ne_aIt_aEx ne_aId_aPr ne_aId_aSi ne_aId_aSe ne_aId_aEx ne_aPr_aSi ne_aPr_aSe ne_aPr_aEx ne_aSi_aSe ne_aSi_aEx ne_aSe_aEx) ⟨cw9B 0 hts mw_427 mw_429 mw_428 rfl rfl (by decide +kernel) ⟨Nat.le_of_ble_eq_true rfl, Nat.le_of_ble_eq_true rfl⟩, hts _ mw_430, hts _ mw_431⟩ (hP_V (q := (R_Mo, F_Mo, 41)) kE_ok hE hK hH f_m rfl) rfl rfl hl.1 rfl (lv_room (Nat.le_of_ble_eq_true rfl)) d_Mo_discover_106 ⟨Nat.le_of_ble_eq_true rfl, Nat.le_of_ble_eq_true rfl⟩) hLo (fun h23 H24 locs hp26 hH z25 hLo => ?_)
    have hz : s.heap.size ≤ H24.size := Nat.le_trans hz z25
    refine lv_iload_n hx hb d_Mo_discover_109 rfl (lv_at hl 3 rfl) ?_
    refine lv_if_ge (tgt := 115) hx hb d_Mo_discover_110 (by decide) (fun hc27 => absurd hc27 (by decide)) (fun hc27 => ?_)
    refine lv_iconst (v := 0) hx hb d_Mo_discover_113 (by decide) ?_
    exact W.iret (v := 0) hx hb hr (fun t9 ht hW => ⟨0, h23, rfl, rfl, by rw [ht]; exact hH, by rw [ht]; exact hz⟩) hLo d_Mo_discover_114
  · skip
    have hk1 : k9 < n := (nI_ltI (by omega) (by omega)).mp (Int32.not_le.mp hc7)
    refine lv_aload_n hx hb d_Mo_discover_19 rfl (lv_at hl 1 rfl) ?_
    refine lv_iload_n hx hb d_Mo_discover_20 rfl (lv_at hl 0 rfl) ?_
    refine hm_calli (va_runV (As := [.int (nI k9)]) (b := mo) (rest := []) ⟨hx, hb, hml, hown, hts⟩ (c_m_isMark l D t G ak av hh mo n aBy aSt aDe aPa aIt aId aPr aNa aSi aSe aIw aEx aOl aPl aTa aAt aLo aS1 aS2 aS3 aS4 aS5 aS6 aO1 aO2 aO3 aO4 aO5 gSt (nI k9) f_m f_aSt zSt hn40 hn) ⟨cw9B 1 hts mw_477 mw_478 mw_428 rfl rfl (by decide +kernel) ⟨Nat.le_of_ble_eq_true rfl, Nat.le_of_ble_eq_true rfl⟩, hts _ mw_479, hts _ mw_480⟩ (hP_V (q := (R_Mo, F_Mo, 41)) kE_ok hE hK hH f_m rfl) rfl rfl hl.1 rfl (lv_room (Nat.le_of_ble_eq_true rfl)) d_Mo_discover_21 ⟨Nat.le_of_ble_eq_true rfl, Nat.le_of_ble_eq_true rfl⟩) hLo (fun r28 h29 H30 locs hp32 hH z31 hLo => ?_)
    have hz : s.heap.size ≤ H30.size := Nat.le_trans hz z31
    obtain ⟨rfl, rfl⟩ := hp32
    refine lv_if_eq (tgt := 54) hx hb d_Mo_discover_24 (by decide) (fun hc33 => ?_) (fun hc33 => absurd rfl hc33)
    refine lv_iinc (v := nI (k9 + 1)) (lv' := [(3, .int (nI (k9 + 1))), (0, .ref mo), (1, .int 0), (2, .int (-1))]) hx hb d_Mo_discover_54 hl (k := 0) rfl (nI_1 k9) (by decide) rfl (fun ls hl => ?_)
    refine lv_goto (tgt := 11) hx hb d_Mo_discover_57 (by decide) ?_
    exact ih (n - (k9 + 1)) ls _ locs _ (by rw [hk]; omega) ⟨(k9 + 1), rfl, (lv_sub hl [0, 1, 2, 3] rfl), hH, hz, hLo, f_m, f_aSt, f_aIt, f_aId, f_aPr, f_aSi, f_aSe, f_aEx, f_aNa, by omega⟩
