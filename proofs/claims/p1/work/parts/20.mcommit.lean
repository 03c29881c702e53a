set_option maxRecDepth 100000 in
theorem mw_488 : Cond.code y_Mo_low b_Mo_low 5 none ∈ lw_g := lw_gin (List.mem_append_right _ (List.mem_of_getElem? (i := 1193) rfl)) (by decide +kernel)
set_option maxRecDepth 100000 in
theorem mw_489 : Cond.methodLink R_Mo 181 y_Mo_low ∈ lw_g := lw_gin (List.mem_append_right _ (List.mem_of_getElem? (i := 1190) rfl)) (by decide +kernel)
set_option maxRecDepth 100000 in
theorem mw_490 : Cond.instanceMethod y_Mo_low ∈ lw_g := lw_gin (List.mem_append_right _ (List.mem_of_getElem? (i := 1192) rfl)) (by decide +kernel)
set_option maxRecDepth 100000 in
theorem mw_491 : Cond.selects R_Mo y_Mo_low y_Mo_low ∈ lw_g := lw_gin (List.mem_append_left _ (List.mem_of_getElem? (i := 47) rfl)) (by decide +kernel)
set_option maxRecDepth 100000 in
theorem mw_492 : Cond.code y_Mo_high b_Mo_high 5 none ∈ lw_g := lw_gin (List.mem_append_right _ (List.mem_of_getElem? (i := 1197) rfl)) (by decide +kernel)
set_option maxRecDepth 100000 in
theorem mw_493 : Cond.methodLink R_Mo 185 y_Mo_high ∈ lw_g := lw_gin (List.mem_append_right _ (List.mem_of_getElem? (i := 1194) rfl)) (by decide +kernel)
set_option maxRecDepth 100000 in
theorem mw_494 : Cond.instanceMethod y_Mo_high ∈ lw_g := lw_gin (List.mem_append_right _ (List.mem_of_getElem? (i := 1196) rfl)) (by decide +kernel)
set_option maxRecDepth 100000 in
theorem mw_495 : Cond.selects R_Mo y_Mo_high y_Mo_high ∈ lw_g := lw_gin (List.mem_append_left _ (List.mem_of_getElem? (i := 48) rfl)) (by decide +kernel)
set_option maxRecDepth 100000 in
theorem mw_496 : Cond.code y_Mo_recordId b_Mo_recordId 3 (some .int) ∈ lw_g := lw_gin (List.mem_append_right _ (List.mem_of_getElem? (i := 1175) rfl)) (by decide +kernel)
set_option maxRecDepth 100000 in
theorem mw_497 : Cond.methodLink R_Mo 192 y_Mo_recordId ∈ lw_g := lw_gin (List.mem_append_right _ (List.mem_of_getElem? (i := 1172) rfl)) (by decide +kernel)
set_option maxRecDepth 100000 in
theorem mw_498 : Cond.instanceMethod y_Mo_recordId ∈ lw_g := lw_gin (List.mem_append_right _ (List.mem_of_getElem? (i := 1174) rfl)) (by decide +kernel)
set_option maxRecDepth 100000 in
theorem mw_499 : Cond.selects R_Mo y_Mo_recordId y_Mo_recordId ∈ lw_g := lw_gin (List.mem_append_left _ (List.mem_of_getElem? (i := 44) rfl)) (by decide +kernel)
set_option maxRecDepth 100000 in
theorem mw_500 : Cond.code y_Mo_even b_Mo_even 1 (some .int) ∈ lw_g := lw_gin (List.mem_append_right _ (List.mem_of_getElem? (i := 1181) rfl)) (by decide +kernel)
set_option maxRecDepth 100000 in
theorem mw_501 : Cond.methodLink R_Mo 196 y_Mo_even ∈ lw_g := lw_gin (List.mem_append_right _ (List.mem_of_getElem? (i := 1179) rfl)) (by decide +kernel)
set_option maxRecDepth 100000 in
theorem mw_502 : Cond.static y_Mo_even ∈ lw_g := lw_gin (List.mem_append_right _ (List.mem_of_getElem? (i := 1180) rfl)) (by decide +kernel)
set_option maxRecDepth 100000 in
theorem mw_503 : Cond.code y_Mo_both b_Mo_both 4 none ∈ lw_g := lw_gin (List.mem_append_right _ (List.mem_of_getElem? (i := 1189) rfl)) (by decide +kernel)
set_option maxRecDepth 100000 in
theorem mw_504 : Cond.methodLink R_Mo 199 y_Mo_both ∈ lw_g := lw_gin (List.mem_append_right _ (List.mem_of_getElem? (i := 1186) rfl)) (by decide +kernel)
set_option maxRecDepth 100000 in
theorem mw_505 : Cond.instanceMethod y_Mo_both ∈ lw_g := lw_gin (List.mem_append_right _ (List.mem_of_getElem? (i := 1188) rfl)) (by decide +kernel)
set_option maxRecDepth 100000 in
theorem mw_506 : Cond.selects R_Mo y_Mo_both y_Mo_both ∈ lw_g := lw_gin (List.mem_append_left _ (List.mem_of_getElem? (i := 46) rfl)) (by decide +kernel)
set_option maxRecDepth 100000 in
theorem mw_507 : Cond.code y_Mo_next b_Mo_next 5 (some .int) ∈ lw_g := lw_gin (List.mem_append_right _ (List.mem_of_getElem? (i := 1155) rfl)) (by decide +kernel)
set_option maxRecDepth 100000 in
theorem mw_508 : Cond.methodLink R_Mo 202 y_Mo_next ∈ lw_g := lw_gin (List.mem_append_right _ (List.mem_of_getElem? (i := 1152) rfl)) (by decide +kernel)
set_option maxRecDepth 100000 in
theorem mw_509 : Cond.instanceMethod y_Mo_next ∈ lw_g := lw_gin (List.mem_append_right _ (List.mem_of_getElem? (i := 1154) rfl)) (by decide +kernel)
set_option maxRecDepth 100000 in
theorem mw_510 : Cond.selects R_Mo y_Mo_next y_Mo_next ∈ lw_g := lw_gin (List.mem_append_left _ (List.mem_of_getElem? (i := 42) rfl)) (by decide +kernel)
set_option maxRecDepth 100000 in
theorem mw_511 : Cond.code y_Mo_record b_Mo_record 6 none ∈ lw_g := lw_gin (List.mem_append_right _ (List.mem_of_getElem? (i := 1185) rfl)) (by decide +kernel)
set_option maxRecDepth 100000 in
theorem mw_512 : Cond.methodLink R_Mo 205 y_Mo_record ∈ lw_g := lw_gin (List.mem_append_right _ (List.mem_of_getElem? (i := 1182) rfl)) (by decide +kernel)
set_option maxRecDepth 100000 in
theorem mw_513 : Cond.instanceMethod y_Mo_record ∈ lw_g := lw_gin (List.mem_append_right _ (List.mem_of_getElem? (i := 1184) rfl)) (by decide +kernel)
set_option maxRecDepth 100000 in
theorem mw_514 : Cond.selects R_Mo y_Mo_record y_Mo_record ∈ lw_g := lw_gin (List.mem_append_left _ (List.mem_of_getElem? (i := 45) rfl)) (by decide +kernel)
set_option maxRecDepth 100000 in
theorem mw_515 : Cond.fieldLink R_Mo 208 "WriteOnceDiscModel" "directories" "I" ∈ lw_g := lw_gin (List.mem_append_right _ (List.mem_of_getElem? (i := 939) rfl)) (by decide +kernel)
set_option maxRecDepth 100000 in
theorem mw_516 : Cond.code y_Mo_tables b_Mo_tables 3 none ∈ lw_g := lw_gin (List.mem_append_right _ (List.mem_of_getElem? (i := 1151) rfl)) (by decide +kernel)
set_option maxRecDepth 100000 in
theorem mw_517 : Cond.methodLink R_Mo 211 y_Mo_tables ∈ lw_g := lw_gin (List.mem_append_right _ (List.mem_of_getElem? (i := 1148) rfl)) (by decide +kernel)
set_option maxRecDepth 100000 in
theorem mw_518 : Cond.instanceMethod y_Mo_tables ∈ lw_g := lw_gin (List.mem_append_right _ (List.mem_of_getElem? (i := 1150) rfl)) (by decide +kernel)
set_option maxRecDepth 100000 in
theorem mw_519 : Cond.selects R_Mo y_Mo_tables y_Mo_tables ∈ lw_g := lw_gin (List.mem_append_left _ (List.mem_of_getElem? (i := 41) rfl)) (by decide +kernel)
set_option maxRecDepth 100000 in
theorem mw_520 : Cond.code y_Mo_along b_Mo_along 9 (some .int) ∈ lw_g := lw_gin (List.mem_append_right _ (List.mem_of_getElem? (i := 1171) rfl)) (by decide +kernel)
set_option maxRecDepth 100000 in
theorem mw_521 : Cond.methodLink R_Mo 214 y_Mo_along ∈ lw_g := lw_gin (List.mem_append_right _ (List.mem_of_getElem? (i := 1168) rfl)) (by decide +kernel)
set_option maxRecDepth 100000 in
theorem mw_522 : Cond.instanceMethod y_Mo_along ∈ lw_g := lw_gin (List.mem_append_right _ (List.mem_of_getElem? (i := 1170) rfl)) (by decide +kernel)
set_option maxRecDepth 100000 in
theorem mw_523 : Cond.selects R_Mo y_Mo_along y_Mo_along ∈ lw_g := lw_gin (List.mem_append_left _ (List.mem_of_getElem? (i := 43) rfl)) (by decide +kernel)
set_option maxRecDepth 100000 in
theorem mw_524 : Cond.code y_Mo_letters b_Mo_letters 7 none ∈ lw_g := lw_gin (List.mem_append_right _ (List.mem_of_getElem? (i := 1205) rfl)) (by decide +kernel)
set_option maxRecDepth 100000 in
theorem mw_525 : Cond.methodLink R_Mo 218 y_Mo_letters ∈ lw_g := lw_gin (List.mem_append_right _ (List.mem_of_getElem? (i := 1202) rfl)) (by decide +kernel)
set_option maxRecDepth 100000 in
theorem mw_526 : Cond.instanceMethod y_Mo_letters ∈ lw_g := lw_gin (List.mem_append_right _ (List.mem_of_getElem? (i := 1204) rfl)) (by decide +kernel)
set_option maxRecDepth 100000 in
theorem mw_527 : Cond.selects R_Mo y_Mo_letters y_Mo_letters ∈ lw_g := lw_gin (List.mem_append_left _ (List.mem_of_getElem? (i := 50) rfl)) (by decide +kernel)
set_option maxRecDepth 100000 in
theorem mw_528 : Cond.code y_Mo_frontOf b_Mo_frontOf 3 (some .int) ∈ lw_g := lw_gin (List.mem_append_right _ (List.mem_of_getElem? (i := 1127) rfl)) (by decide +kernel)
set_option maxRecDepth 100000 in
theorem mw_529 : Cond.methodLink R_Mo 228 y_Mo_frontOf ∈ lw_g := lw_gin (List.mem_append_right _ (List.mem_of_getElem? (i := 1124) rfl)) (by decide +kernel)
set_option maxRecDepth 100000 in
theorem mw_530 : Cond.instanceMethod y_Mo_frontOf ∈ lw_g := lw_gin (List.mem_append_right _ (List.mem_of_getElem? (i := 1126) rfl)) (by decide +kernel)
set_option maxRecDepth 100000 in
theorem mw_531 : Cond.selects R_Mo y_Mo_frontOf y_Mo_frontOf ∈ lw_g := lw_gin (List.mem_append_left _ (List.mem_of_getElem? (i := 35) rfl)) (by decide +kernel)
set_option maxRecDepth 100000 in
theorem mw_532 : Cond.code y_Mo_measure b_Mo_measure 5 (some .int) ∈ lw_g := lw_gin (List.mem_append_right _ (List.mem_of_getElem? (i := 1147) rfl)) (by decide +kernel)
set_option maxRecDepth 100000 in
theorem mw_533 : Cond.methodLink R_Mo 238 y_Mo_measure ∈ lw_g := lw_gin (List.mem_append_right _ (List.mem_of_getElem? (i := 1144) rfl)) (by decide +kernel)
set_option maxRecDepth 100000 in
theorem mw_534 : Cond.instanceMethod y_Mo_measure ∈ lw_g := lw_gin (List.mem_append_right _ (List.mem_of_getElem? (i := 1146) rfl)) (by decide +kernel)
set_option maxRecDepth 100000 in
theorem mw_535 : Cond.selects R_Mo y_Mo_measure y_Mo_measure ∈ lw_g := lw_gin (List.mem_append_left _ (List.mem_of_getElem? (i := 40) rfl)) (by decide +kernel)
set_option maxRecDepth 100000 in
theorem mw_536 : Cond.code y_Mo_design b_Mo_design 10 none ∈ lw_g := lw_gin (List.mem_append_right _ (List.mem_of_getElem? (i := 1201) rfl)) (by decide +kernel)
set_option maxRecDepth 100000 in
theorem mw_537 : Cond.methodLink R_Mo 241 y_Mo_design ∈ lw_g := lw_gin (List.mem_append_right _ (List.mem_of_getElem? (i := 1198) rfl)) (by decide +kernel)
set_option maxRecDepth 100000 in
theorem mw_538 : Cond.instanceMethod y_Mo_design ∈ lw_g := lw_gin (List.mem_append_right _ (List.mem_of_getElem? (i := 1200) rfl)) (by decide +kernel)
set_option maxRecDepth 100000 in
theorem mw_539 : Cond.selects R_Mo y_Mo_design y_Mo_design ∈ lw_g := lw_gin (List.mem_append_left _ (List.mem_of_getElem? (i := 49) rfl)) (by decide +kernel)
set_option maxRecDepth 100000 in
theorem mw_540 : Cond.code y_Mo_burn b_Mo_burn 4 (some .int) ∈ lw_g := lw_gin (List.mem_append_right _ (List.mem_of_getElem? (i := 1139) rfl)) (by decide +kernel)
set_option maxRecDepth 100000 in
theorem mw_541 : Cond.methodLink R_Mo 235 y_Mo_burn ∈ lw_g := lw_gin (List.mem_append_right _ (List.mem_of_getElem? (i := 1136) rfl)) (by decide +kernel)
set_option maxRecDepth 100000 in
theorem mw_542 : Cond.instanceMethod y_Mo_burn ∈ lw_g := lw_gin (List.mem_append_right _ (List.mem_of_getElem? (i := 1138) rfl)) (by decide +kernel)
set_option maxRecDepth 100000 in
theorem mw_543 : Cond.selects R_Mo y_Mo_burn y_Mo_burn ∈ lw_g := lw_gin (List.mem_append_left _ (List.mem_of_getElem? (i := 38) rfl)) (by decide +kernel)
set_option maxRecDepth 100000 in
theorem mw_544 : Cond.code y_Mo_session b_Mo_session 8 (some .int) ∈ lw_g := lw_gin (List.mem_append_right _ (List.mem_of_getElem? (i := 1143) rfl)) (by decide +kernel)
set_option maxRecDepth 100000 in
theorem mw_545 : Cond.methodLink R_Mo 250 y_Mo_session ∈ lw_g := lw_gin (List.mem_append_right _ (List.mem_of_getElem? (i := 1140) rfl)) (by decide +kernel)
set_option maxRecDepth 100000 in
theorem mw_546 : Cond.instanceMethod y_Mo_session ∈ lw_g := lw_gin (List.mem_append_right _ (List.mem_of_getElem? (i := 1142) rfl)) (by decide +kernel)
set_option maxRecDepth 100000 in
theorem mw_547 : Cond.selects R_Mo y_Mo_session y_Mo_session ∈ lw_g := lw_gin (List.mem_append_left _ (List.mem_of_getElem? (i := 39) rfl)) (by decide +kernel)
set_option maxRecDepth 100000 in
theorem mw_548 : Cond.constant R_Mo 253 (409600) ∈ lw_g := lw_gin (List.mem_append_right _ (List.mem_of_getElem? (i := 1214) rfl)) (by decide +kernel)
theorem d_Mo_low_0 : decode b_Mo_low 0 = .ok (.iconst 0, 1) := by decide +kernel
theorem d_Mo_low_1 : decode b_Mo_low 1 = .ok (.istore 4, 2) := by decide +kernel
theorem d_Mo_low_3 : decode b_Mo_low 3 = .ok (.iload 4, 2) := by decide +kernel
theorem d_Mo_low_5 : decode b_Mo_low 5 = .ok (.iload_n 2, 1) := by decide +kernel
theorem d_Mo_low_6 : decode b_Mo_low 6 = .ok (.if_icmp .ge 26, 3) := by decide +kernel
theorem d_Mo_low_32 : decode b_Mo_low 32 = .ok (.return_, 1) := by decide +kernel
theorem d_Mo_low_9 : decode b_Mo_low 9 = .ok (.aload_n 0, 1) := by decide +kernel
theorem d_Mo_low_10 : decode b_Mo_low 10 = .ok (.getfield 54, 3) := by decide +kernel
theorem d_Mo_low_13 : decode b_Mo_low 13 = .ok (.iload_n 1, 1) := by decide +kernel
theorem d_Mo_low_14 : decode b_Mo_low 14 = .ok (.iload 4, 2) := by decide +kernel
theorem d_Mo_low_16 : decode b_Mo_low 16 = .ok (.iadd, 1) := by decide +kernel
theorem d_Mo_low_17 : decode b_Mo_low 17 = .ok (.iload_n 3, 1) := by decide +kernel
theorem d_Mo_low_18 : decode b_Mo_low 18 = .ok (.bipush 8, 2) := by decide +kernel
theorem d_Mo_low_20 : decode b_Mo_low 20 = .ok (.iload 4, 2) := by decide +kernel
theorem d_Mo_low_22 : decode b_Mo_low 22 = .ok (.imul, 1) := by decide +kernel
theorem d_Mo_low_23 : decode b_Mo_low 23 = .ok (.ishr, 1) := by decide +kernel
theorem d_Mo_low_24 : decode b_Mo_low 24 = .ok (.i2b, 1) := by decide +kernel
theorem d_Mo_low_25 : decode b_Mo_low 25 = .ok (.bastore, 1) := by decide +kernel
theorem d_Mo_low_26 : decode b_Mo_low 26 = .ok (.iinc 4 1, 3) := by decide +kernel
theorem d_Mo_low_29 : decode b_Mo_low 29 = .ok (.goto (-26), 3) := by decide +kernel
theorem d_Mo_high_0 : decode b_Mo_high 0 = .ok (.iconst 0, 1) := by decide +kernel
theorem d_Mo_high_1 : decode b_Mo_high 1 = .ok (.istore 4, 2) := by decide +kernel
theorem d_Mo_high_3 : decode b_Mo_high 3 = .ok (.iload 4, 2) := by decide +kernel
theorem d_Mo_high_5 : decode b_Mo_high 5 = .ok (.iload_n 2, 1) := by decide +kernel
theorem d_Mo_high_6 : decode b_Mo_high 6 = .ok (.if_icmp .ge 30, 3) := by decide +kernel
theorem d_Mo_high_36 : decode b_Mo_high 36 = .ok (.return_, 1) := by decide +kernel
theorem d_Mo_high_9 : decode b_Mo_high 9 = .ok (.aload_n 0, 1) := by decide +kernel
theorem d_Mo_high_10 : decode b_Mo_high 10 = .ok (.getfield 54, 3) := by decide +kernel
theorem d_Mo_high_13 : decode b_Mo_high 13 = .ok (.iload_n 1, 1) := by decide +kernel
theorem d_Mo_high_14 : decode b_Mo_high 14 = .ok (.iload 4, 2) := by decide +kernel
theorem d_Mo_high_16 : decode b_Mo_high 16 = .ok (.iadd, 1) := by decide +kernel
theorem d_Mo_high_17 : decode b_Mo_high 17 = .ok (.iload_n 3, 1) := by decide +kernel
theorem d_Mo_high_18 : decode b_Mo_high 18 = .ok (.bipush 8, 2) := by decide +kernel
theorem d_Mo_high_20 : decode b_Mo_high 20 = .ok (.iload_n 2, 1) := by decide +kernel
theorem d_Mo_high_21 : decode b_Mo_high 21 = .ok (.iconst 1, 1) := by decide +kernel
theorem d_Mo_high_22 : decode b_Mo_high 22 = .ok (.isub, 1) := by decide +kernel
theorem d_Mo_high_23 : decode b_Mo_high 23 = .ok (.iload 4, 2) := by decide +kernel
theorem d_Mo_high_25 : decode b_Mo_high 25 = .ok (.isub, 1) := by decide +kernel
theorem d_Mo_high_26 : decode b_Mo_high 26 = .ok (.imul, 1) := by decide +kernel
theorem d_Mo_high_27 : decode b_Mo_high 27 = .ok (.ishr, 1) := by decide +kernel
theorem d_Mo_high_28 : decode b_Mo_high 28 = .ok (.i2b, 1) := by decide +kernel
theorem d_Mo_high_29 : decode b_Mo_high 29 = .ok (.bastore, 1) := by decide +kernel
theorem d_Mo_high_30 : decode b_Mo_high 30 = .ok (.iinc 4 1, 3) := by decide +kernel
theorem d_Mo_high_33 : decode b_Mo_high 33 = .ok (.goto (-30), 3) := by decide +kernel
theorem d_Mo_both_0 : decode b_Mo_both 0 = .ok (.aload_n 0, 1) := by decide +kernel
theorem d_Mo_both_1 : decode b_Mo_both 1 = .ok (.iload_n 1, 1) := by decide +kernel
theorem d_Mo_both_2 : decode b_Mo_both 2 = .ok (.iload_n 2, 1) := by decide +kernel
theorem d_Mo_both_3 : decode b_Mo_both 3 = .ok (.iload_n 3, 1) := by decide +kernel
theorem d_Mo_both_4 : decode b_Mo_both 4 = .ok (.invokevirtual 181, 3) := by decide +kernel
theorem d_Mo_both_7 : decode b_Mo_both 7 = .ok (.aload_n 0, 1) := by decide +kernel
theorem d_Mo_both_8 : decode b_Mo_both 8 = .ok (.iload_n 1, 1) := by decide +kernel
theorem d_Mo_both_9 : decode b_Mo_both 9 = .ok (.iload_n 2, 1) := by decide +kernel
theorem d_Mo_both_10 : decode b_Mo_both 10 = .ok (.iadd, 1) := by decide +kernel
theorem d_Mo_both_11 : decode b_Mo_both 11 = .ok (.iload_n 2, 1) := by decide +kernel
theorem d_Mo_both_12 : decode b_Mo_both 12 = .ok (.iload_n 3, 1) := by decide +kernel
theorem d_Mo_both_13 : decode b_Mo_both 13 = .ok (.invokevirtual 185, 3) := by decide +kernel
theorem d_Mo_both_16 : decode b_Mo_both 16 = .ok (.return_, 1) := by decide +kernel
theorem d_Mo_letters_0 : decode b_Mo_letters 0 = .ok (.aload_n 0, 1) := by decide +kernel
theorem d_Mo_letters_1 : decode b_Mo_letters 1 = .ok (.getfield 54, 3) := by decide +kernel
theorem d_Mo_letters_4 : decode b_Mo_letters 4 = .ok (.iload_n 1, 1) := by decide +kernel
theorem d_Mo_letters_5 : decode b_Mo_letters 5 = .ok (.iload_n 2, 1) := by decide +kernel
theorem d_Mo_letters_6 : decode b_Mo_letters 6 = .ok (.i2b, 1) := by decide +kernel
theorem d_Mo_letters_7 : decode b_Mo_letters 7 = .ok (.bastore, 1) := by decide +kernel
theorem d_Mo_letters_8 : decode b_Mo_letters 8 = .ok (.aload_n 0, 1) := by decide +kernel
theorem d_Mo_letters_9 : decode b_Mo_letters 9 = .ok (.getfield 54, 3) := by decide +kernel
theorem d_Mo_letters_12 : decode b_Mo_letters 12 = .ok (.iload_n 1, 1) := by decide +kernel
theorem d_Mo_letters_13 : decode b_Mo_letters 13 = .ok (.iconst 1, 1) := by decide +kernel
theorem d_Mo_letters_14 : decode b_Mo_letters 14 = .ok (.iadd, 1) := by decide +kernel
theorem d_Mo_letters_15 : decode b_Mo_letters 15 = .ok (.iload_n 3, 1) := by decide +kernel
theorem d_Mo_letters_16 : decode b_Mo_letters 16 = .ok (.i2b, 1) := by decide +kernel
theorem d_Mo_letters_17 : decode b_Mo_letters 17 = .ok (.bastore, 1) := by decide +kernel
theorem d_Mo_letters_18 : decode b_Mo_letters 18 = .ok (.aload_n 0, 1) := by decide +kernel
theorem d_Mo_letters_19 : decode b_Mo_letters 19 = .ok (.getfield 54, 3) := by decide +kernel
theorem d_Mo_letters_22 : decode b_Mo_letters 22 = .ok (.iload_n 1, 1) := by decide +kernel
theorem d_Mo_letters_23 : decode b_Mo_letters 23 = .ok (.iconst 2, 1) := by decide +kernel
theorem d_Mo_letters_24 : decode b_Mo_letters 24 = .ok (.iadd, 1) := by decide +kernel
theorem d_Mo_letters_25 : decode b_Mo_letters 25 = .ok (.iload 4, 2) := by decide +kernel
theorem d_Mo_letters_27 : decode b_Mo_letters 27 = .ok (.i2b, 1) := by decide +kernel
theorem d_Mo_letters_28 : decode b_Mo_letters 28 = .ok (.bastore, 1) := by decide +kernel
theorem d_Mo_letters_29 : decode b_Mo_letters 29 = .ok (.aload_n 0, 1) := by decide +kernel
theorem d_Mo_letters_30 : decode b_Mo_letters 30 = .ok (.getfield 54, 3) := by decide +kernel
theorem d_Mo_letters_33 : decode b_Mo_letters 33 = .ok (.iload_n 1, 1) := by decide +kernel
theorem d_Mo_letters_34 : decode b_Mo_letters 34 = .ok (.iconst 3, 1) := by decide +kernel
theorem d_Mo_letters_35 : decode b_Mo_letters 35 = .ok (.iadd, 1) := by decide +kernel
theorem d_Mo_letters_36 : decode b_Mo_letters 36 = .ok (.iload 5, 2) := by decide +kernel
theorem d_Mo_letters_38 : decode b_Mo_letters 38 = .ok (.i2b, 1) := by decide +kernel
theorem d_Mo_letters_39 : decode b_Mo_letters 39 = .ok (.bastore, 1) := by decide +kernel
theorem d_Mo_letters_40 : decode b_Mo_letters 40 = .ok (.aload_n 0, 1) := by decide +kernel
theorem d_Mo_letters_41 : decode b_Mo_letters 41 = .ok (.getfield 54, 3) := by decide +kernel
theorem d_Mo_letters_44 : decode b_Mo_letters 44 = .ok (.iload_n 1, 1) := by decide +kernel
theorem d_Mo_letters_45 : decode b_Mo_letters 45 = .ok (.iconst 4, 1) := by decide +kernel
theorem d_Mo_letters_46 : decode b_Mo_letters 46 = .ok (.iadd, 1) := by decide +kernel
theorem d_Mo_letters_47 : decode b_Mo_letters 47 = .ok (.iload 6, 2) := by decide +kernel
theorem d_Mo_letters_49 : decode b_Mo_letters 49 = .ok (.i2b, 1) := by decide +kernel
theorem d_Mo_letters_50 : decode b_Mo_letters 50 = .ok (.bastore, 1) := by decide +kernel
theorem d_Mo_letters_51 : decode b_Mo_letters 51 = .ok (.return_, 1) := by decide +kernel
theorem d_Mo_even_0 : decode b_Mo_even 0 = .ok (.iload_n 0, 1) := by decide +kernel
theorem d_Mo_even_1 : decode b_Mo_even 1 = .ok (.iload_n 0, 1) := by decide +kernel
theorem d_Mo_even_2 : decode b_Mo_even 2 = .ok (.iconst 2, 1) := by decide +kernel
theorem d_Mo_even_3 : decode b_Mo_even 3 = .ok (.irem, 1) := by decide +kernel
theorem d_Mo_even_4 : decode b_Mo_even 4 = .ok (.iadd, 1) := by decide +kernel
theorem d_Mo_even_5 : decode b_Mo_even 5 = .ok (.ireturn, 1) := by decide +kernel
theorem d_Mo_recordId_0 : decode b_Mo_recordId 0 = .ok (.iload_n 1, 1) := by decide +kernel
theorem d_Mo_recordId_1 : decode b_Mo_recordId 1 = .ok (.iconst 2, 1) := by decide +kernel
theorem d_Mo_recordId_2 : decode b_Mo_recordId 2 = .ok (.if_icmp .ge 7, 3) := by decide +kernel
theorem d_Mo_recordId_5 : decode b_Mo_recordId 5 = .ok (.iconst 1, 1) := by decide +kernel
theorem d_Mo_recordId_6 : decode b_Mo_recordId 6 = .ok (.goto 18, 3) := by decide +kernel
theorem d_Mo_recordId_24 : decode b_Mo_recordId 24 = .ok (.ireturn, 1) := by decide +kernel
theorem d_Mo_record_0 : decode b_Mo_record 0 = .ok (.aload_n 0, 1) := by decide +kernel
theorem d_Mo_record_1 : decode b_Mo_record 1 = .ok (.iload_n 2, 1) := by decide +kernel
theorem d_Mo_record_2 : decode b_Mo_record 2 = .ok (.iload_n 3, 1) := by decide +kernel
theorem d_Mo_record_3 : decode b_Mo_record 3 = .ok (.invokevirtual 192, 3) := by decide +kernel
theorem d_Mo_record_6 : decode b_Mo_record 6 = .ok (.istore 4, 2) := by decide +kernel
theorem d_Mo_record_8 : decode b_Mo_record 8 = .ok (.aload_n 0, 1) := by decide +kernel
theorem d_Mo_record_9 : decode b_Mo_record 9 = .ok (.getfield 54, 3) := by decide +kernel
theorem d_Mo_record_12 : decode b_Mo_record 12 = .ok (.iload_n 1, 1) := by decide +kernel
theorem d_Mo_record_13 : decode b_Mo_record 13 = .ok (.bipush 33, 2) := by decide +kernel
theorem d_Mo_record_15 : decode b_Mo_record 15 = .ok (.iload 4, 2) := by decide +kernel
theorem d_Mo_record_17 : decode b_Mo_record 17 = .ok (.iadd, 1) := by decide +kernel
theorem d_Mo_record_18 : decode b_Mo_record 18 = .ok (.invokestatic 196, 3) := by decide +kernel
theorem d_Mo_record_21 : decode b_Mo_record 21 = .ok (.i2b, 1) := by decide +kernel
theorem d_Mo_record_22 : decode b_Mo_record 22 = .ok (.bastore, 1) := by decide +kernel
theorem d_Mo_record_23 : decode b_Mo_record 23 = .ok (.aload_n 0, 1) := by decide +kernel
theorem d_Mo_record_24 : decode b_Mo_record 24 = .ok (.iload_n 1, 1) := by decide +kernel
theorem d_Mo_record_25 : decode b_Mo_record 25 = .ok (.iconst 2, 1) := by decide +kernel
theorem d_Mo_record_26 : decode b_Mo_record 26 = .ok (.iadd, 1) := by decide +kernel
theorem d_Mo_record_27 : decode b_Mo_record 27 = .ok (.iconst 4, 1) := by decide +kernel
theorem d_Mo_record_28 : decode b_Mo_record 28 = .ok (.aload_n 0, 1) := by decide +kernel
theorem d_Mo_record_29 : decode b_Mo_record 29 = .ok (.getfield 27, 3) := by decide +kernel
theorem d_Mo_record_32 : decode b_Mo_record 32 = .ok (.iload_n 3, 1) := by decide +kernel
theorem d_Mo_record_33 : decode b_Mo_record 33 = .ok (.baload, 1) := by decide +kernel
theorem d_Mo_record_34 : decode b_Mo_record 34 = .ok (.ifCond .eq 12, 3) := by decide +kernel
theorem d_Mo_record_37 : decode b_Mo_record 37 = .ok (.aload_n 0, 1) := by decide +kernel
theorem d_Mo_record_38 : decode b_Mo_record 38 = .ok (.getfield 60, 3) := by decide +kernel
theorem d_Mo_record_41 : decode b_Mo_record 41 = .ok (.iload_n 3, 1) := by decide +kernel
theorem d_Mo_record_42 : decode b_Mo_record 42 = .ok (.iaload, 1) := by decide +kernel
theorem d_Mo_record_43 : decode b_Mo_record 43 = .ok (.goto 9, 3) := by decide +kernel
theorem d_Mo_record_52 : decode b_Mo_record 52 = .ok (.invokevirtual 199, 3) := by decide +kernel
theorem d_Mo_record_55 : decode b_Mo_record 55 = .ok (.aload_n 0, 1) := by decide +kernel
theorem d_Mo_record_56 : decode b_Mo_record 56 = .ok (.iload_n 1, 1) := by decide +kernel
theorem d_Mo_record_57 : decode b_Mo_record 57 = .ok (.bipush 10, 2) := by decide +kernel
theorem d_Mo_record_59 : decode b_Mo_record 59 = .ok (.iadd, 1) := by decide +kernel
theorem d_Mo_record_60 : decode b_Mo_record 60 = .ok (.iconst 4, 1) := by decide +kernel
theorem d_Mo_record_61 : decode b_Mo_record 61 = .ok (.aload_n 0, 1) := by decide +kernel
theorem d_Mo_record_62 : decode b_Mo_record 62 = .ok (.getfield 27, 3) := by decide +kernel
theorem d_Mo_record_65 : decode b_Mo_record 65 = .ok (.iload_n 3, 1) := by decide +kernel
theorem d_Mo_record_66 : decode b_Mo_record 66 = .ok (.baload, 1) := by decide +kernel
theorem d_Mo_record_67 : decode b_Mo_record 67 = .ok (.ifCond .eq 16, 3) := by decide +kernel
theorem d_Mo_record_70 : decode b_Mo_record 70 = .ok (.sipush 2048, 3) := by decide +kernel
theorem d_Mo_record_73 : decode b_Mo_record 73 = .ok (.aload_n 0, 1) := by decide +kernel
theorem d_Mo_record_74 : decode b_Mo_record 74 = .ok (.getfield 63, 3) := by decide +kernel
theorem d_Mo_record_77 : decode b_Mo_record 77 = .ok (.iload_n 3, 1) := by decide +kernel
theorem d_Mo_record_78 : decode b_Mo_record 78 = .ok (.iaload, 1) := by decide +kernel
theorem d_Mo_record_79 : decode b_Mo_record 79 = .ok (.imul, 1) := by decide +kernel
theorem d_Mo_record_80 : decode b_Mo_record 80 = .ok (.goto 9, 3) := by decide +kernel
theorem d_Mo_record_89 : decode b_Mo_record 89 = .ok (.invokevirtual 199, 3) := by decide +kernel
theorem d_Mo_record_92 : decode b_Mo_record 92 = .ok (.aload_n 0, 1) := by decide +kernel
theorem d_Mo_record_93 : decode b_Mo_record 93 = .ok (.getfield 54, 3) := by decide +kernel
theorem d_Mo_record_96 : decode b_Mo_record 96 = .ok (.iload_n 1, 1) := by decide +kernel
theorem d_Mo_record_97 : decode b_Mo_record 97 = .ok (.bipush 25, 2) := by decide +kernel
theorem d_Mo_record_99 : decode b_Mo_record 99 = .ok (.iadd, 1) := by decide +kernel
theorem d_Mo_record_100 : decode b_Mo_record 100 = .ok (.aload_n 0, 1) := by decide +kernel
theorem d_Mo_record_101 : decode b_Mo_record 101 = .ok (.getfield 27, 3) := by decide +kernel
theorem d_Mo_record_104 : decode b_Mo_record 104 = .ok (.iload_n 3, 1) := by decide +kernel
theorem d_Mo_record_105 : decode b_Mo_record 105 = .ok (.baload, 1) := by decide +kernel
theorem d_Mo_record_106 : decode b_Mo_record 106 = .ok (.ifCond .eq 7, 3) := by decide +kernel
theorem d_Mo_record_109 : decode b_Mo_record 109 = .ok (.iconst 2, 1) := by decide +kernel
theorem d_Mo_record_110 : decode b_Mo_record 110 = .ok (.goto 4, 3) := by decide +kernel
theorem d_Mo_record_114 : decode b_Mo_record 114 = .ok (.i2b, 1) := by decide +kernel
theorem d_Mo_record_115 : decode b_Mo_record 115 = .ok (.bastore, 1) := by decide +kernel
theorem d_Mo_record_116 : decode b_Mo_record 116 = .ok (.aload_n 0, 1) := by decide +kernel
theorem d_Mo_record_117 : decode b_Mo_record 117 = .ok (.iload_n 1, 1) := by decide +kernel
theorem d_Mo_record_118 : decode b_Mo_record 118 = .ok (.bipush 28, 2) := by decide +kernel
theorem d_Mo_record_120 : decode b_Mo_record 120 = .ok (.iadd, 1) := by decide +kernel
theorem d_Mo_record_121 : decode b_Mo_record 121 = .ok (.iconst 2, 1) := by decide +kernel
theorem d_Mo_record_122 : decode b_Mo_record 122 = .ok (.iconst 1, 1) := by decide +kernel
theorem d_Mo_record_123 : decode b_Mo_record 123 = .ok (.invokevirtual 199, 3) := by decide +kernel
theorem d_Mo_record_126 : decode b_Mo_record 126 = .ok (.aload_n 0, 1) := by decide +kernel
theorem d_Mo_record_127 : decode b_Mo_record 127 = .ok (.getfield 54, 3) := by decide +kernel
theorem d_Mo_record_130 : decode b_Mo_record 130 = .ok (.iload_n 1, 1) := by decide +kernel
theorem d_Mo_record_131 : decode b_Mo_record 131 = .ok (.bipush 32, 2) := by decide +kernel
theorem d_Mo_record_133 : decode b_Mo_record 133 = .ok (.iadd, 1) := by decide +kernel
theorem d_Mo_record_134 : decode b_Mo_record 134 = .ok (.iload 4, 2) := by decide +kernel
theorem d_Mo_record_136 : decode b_Mo_record 136 = .ok (.i2b, 1) := by decide +kernel
theorem d_Mo_record_137 : decode b_Mo_record 137 = .ok (.bastore, 1) := by decide +kernel
theorem d_Mo_record_138 : decode b_Mo_record 138 = .ok (.iconst 0, 1) := by decide +kernel
theorem d_Mo_record_139 : decode b_Mo_record 139 = .ok (.istore 5, 2) := by decide +kernel
theorem d_Mo_record_141 : decode b_Mo_record 141 = .ok (.iload 5, 2) := by decide +kernel
theorem d_Mo_record_143 : decode b_Mo_record 143 = .ok (.iload 4, 2) := by decide +kernel
theorem d_Mo_record_145 : decode b_Mo_record 145 = .ok (.if_icmp .ge 48, 3) := by decide +kernel
theorem d_Mo_record_148 : decode b_Mo_record 148 = .ok (.aload_n 0, 1) := by decide +kernel
theorem d_Mo_record_149 : decode b_Mo_record 149 = .ok (.getfield 54, 3) := by decide +kernel
theorem d_Mo_record_152 : decode b_Mo_record 152 = .ok (.iload_n 1, 1) := by decide +kernel
theorem d_Mo_record_153 : decode b_Mo_record 153 = .ok (.bipush 33, 2) := by decide +kernel
theorem d_Mo_record_155 : decode b_Mo_record 155 = .ok (.iadd, 1) := by decide +kernel
theorem d_Mo_record_156 : decode b_Mo_record 156 = .ok (.iload 5, 2) := by decide +kernel
theorem d_Mo_record_158 : decode b_Mo_record 158 = .ok (.iadd, 1) := by decide +kernel
theorem d_Mo_record_159 : decode b_Mo_record 159 = .ok (.iload_n 2, 1) := by decide +kernel
theorem d_Mo_record_160 : decode b_Mo_record 160 = .ok (.iconst 2, 1) := by decide +kernel
theorem d_Mo_record_161 : decode b_Mo_record 161 = .ok (.if_icmp .ge 7, 3) := by decide +kernel
theorem d_Mo_record_164 : decode b_Mo_record 164 = .ok (.iload_n 2, 1) := by decide +kernel
theorem d_Mo_record_165 : decode b_Mo_record 165 = .ok (.goto 20, 3) := by decide +kernel
theorem d_Mo_record_185 : decode b_Mo_record 185 = .ok (.i2b, 1) := by decide +kernel
theorem d_Mo_record_186 : decode b_Mo_record 186 = .ok (.bastore, 1) := by decide +kernel
theorem d_Mo_record_187 : decode b_Mo_record 187 = .ok (.iinc 5 1, 3) := by decide +kernel
theorem d_Mo_record_190 : decode b_Mo_record 190 = .ok (.goto (-49), 3) := by decide +kernel
theorem d_Mo_record_193 : decode b_Mo_record 193 = .ok (.return_, 1) := by decide +kernel
theorem d_Mo_next_0 : decode b_Mo_next 0 = .ok (.iconst (-1), 1) := by decide +kernel
theorem d_Mo_next_1 : decode b_Mo_next 1 = .ok (.istore_n 3, 1) := by decide +kernel
theorem d_Mo_next_2 : decode b_Mo_next 2 = .ok (.iconst 1, 1) := by decide +kernel
theorem d_Mo_next_3 : decode b_Mo_next 3 = .ok (.istore 4, 2) := by decide +kernel
theorem d_Mo_next_5 : decode b_Mo_next 5 = .ok (.iload 4, 2) := by decide +kernel
theorem d_Mo_next_7 : decode b_Mo_next 7 = .ok (.aload_n 0, 1) := by decide +kernel
theorem d_Mo_next_8 : decode b_Mo_next 8 = .ok (.getfield 112, 3) := by decide +kernel
theorem d_Mo_next_11 : decode b_Mo_next 11 = .ok (.if_icmp .ge 108, 3) := by decide +kernel
theorem d_Mo_next_119 : decode b_Mo_next 119 = .ok (.iload_n 3, 1) := by decide +kernel
theorem d_Mo_next_120 : decode b_Mo_next 120 = .ok (.ireturn, 1) := by decide +kernel
theorem d_Mo_along_0 : decode b_Mo_along 0 = .ok (.iconst 0, 1) := by decide +kernel
theorem d_Mo_along_1 : decode b_Mo_along 1 = .ok (.istore 4, 2) := by decide +kernel
theorem d_Mo_along_3 : decode b_Mo_along 3 = .ok (.iconst 0, 1) := by decide +kernel
theorem d_Mo_along_4 : decode b_Mo_along 4 = .ok (.istore 5, 2) := by decide +kernel
theorem d_Mo_along_6 : decode b_Mo_along 6 = .ok (.iconst (-1), 1) := by decide +kernel
theorem d_Mo_along_7 : decode b_Mo_along 7 = .ok (.istore 6, 2) := by decide +kernel
theorem d_Mo_along_9 : decode b_Mo_along 9 = .ok (.iload 5, 2) := by decide +kernel
theorem d_Mo_along_11 : decode b_Mo_along 11 = .ok (.iconst 2, 1) := by decide +kernel
theorem d_Mo_along_12 : decode b_Mo_along 12 = .ok (.if_icmp .ne 20, 3) := by decide +kernel
theorem d_Mo_along_32 : decode b_Mo_along 32 = .ok (.iload 5, 2) := by decide +kernel
theorem d_Mo_along_34 : decode b_Mo_along 34 = .ok (.ifCond .eq 13, 3) := by decide +kernel
theorem d_Mo_along_47 : decode b_Mo_along 47 = .ok (.iload_n 1, 1) := by decide +kernel
theorem d_Mo_along_48 : decode b_Mo_along 48 = .ok (.goto 20, 3) := by decide +kernel
theorem d_Mo_along_68 : decode b_Mo_along 68 = .ok (.istore 7, 2) := by decide +kernel
theorem d_Mo_along_70 : decode b_Mo_along 70 = .ok (.bipush 33, 2) := by decide +kernel
theorem d_Mo_along_72 : decode b_Mo_along 72 = .ok (.aload_n 0, 1) := by decide +kernel
theorem d_Mo_along_73 : decode b_Mo_along 73 = .ok (.iload 5, 2) := by decide +kernel
theorem d_Mo_along_75 : decode b_Mo_along 75 = .ok (.iload 7, 2) := by decide +kernel
theorem d_Mo_along_77 : decode b_Mo_along 77 = .ok (.invokevirtual 192, 3) := by decide +kernel
theorem d_Mo_along_80 : decode b_Mo_along 80 = .ok (.iadd, 1) := by decide +kernel
theorem d_Mo_along_81 : decode b_Mo_along 81 = .ok (.invokestatic 196, 3) := by decide +kernel
theorem d_Mo_along_84 : decode b_Mo_along 84 = .ok (.istore 8, 2) := by decide +kernel
theorem d_Mo_along_86 : decode b_Mo_along 86 = .ok (.iload 4, 2) := by decide +kernel
theorem d_Mo_along_88 : decode b_Mo_along 88 = .ok (.sipush 2048, 3) := by decide +kernel
theorem d_Mo_along_91 : decode b_Mo_along 91 = .ok (.irem, 1) := by decide +kernel
theorem d_Mo_along_92 : decode b_Mo_along 92 = .ok (.iload 8, 2) := by decide +kernel
theorem d_Mo_along_94 : decode b_Mo_along 94 = .ok (.iadd, 1) := by decide +kernel
theorem d_Mo_along_95 : decode b_Mo_along 95 = .ok (.sipush 2048, 3) := by decide +kernel
theorem d_Mo_along_98 : decode b_Mo_along 98 = .ok (.if_icmp .le 18, 3) := by decide +kernel
theorem d_Mo_along_116 : decode b_Mo_along 116 = .ok (.iload_n 3, 1) := by decide +kernel
theorem d_Mo_along_117 : decode b_Mo_along 117 = .ok (.ifCond .eq 15, 3) := by decide +kernel
theorem d_Mo_along_132 : decode b_Mo_along 132 = .ok (.iload 4, 2) := by decide +kernel
theorem d_Mo_along_134 : decode b_Mo_along 134 = .ok (.iload 8, 2) := by decide +kernel
theorem d_Mo_along_136 : decode b_Mo_along 136 = .ok (.iadd, 1) := by decide +kernel
theorem d_Mo_along_137 : decode b_Mo_along 137 = .ok (.istore 4, 2) := by decide +kernel
theorem d_Mo_along_139 : decode b_Mo_along 139 = .ok (.iload 5, 2) := by decide +kernel
theorem d_Mo_along_141 : decode b_Mo_along 141 = .ok (.iconst 2, 1) := by decide +kernel
theorem d_Mo_along_142 : decode b_Mo_along 142 = .ok (.if_icmp .ge 10, 3) := by decide +kernel
theorem d_Mo_along_145 : decode b_Mo_along 145 = .ok (.iload 5, 2) := by decide +kernel
theorem d_Mo_along_147 : decode b_Mo_along 147 = .ok (.iconst 1, 1) := by decide +kernel
theorem d_Mo_along_148 : decode b_Mo_along 148 = .ok (.iadd, 1) := by decide +kernel
theorem d_Mo_along_149 : decode b_Mo_along 149 = .ok (.goto 4, 3) := by decide +kernel
theorem d_Mo_along_153 : decode b_Mo_along 153 = .ok (.istore 5, 2) := by decide +kernel
theorem d_Mo_along_155 : decode b_Mo_along 155 = .ok (.goto (-146), 3) := by decide +kernel
theorem d_Mo_along_37 : decode b_Mo_along 37 = .ok (.iload 5, 2) := by decide +kernel
theorem d_Mo_along_39 : decode b_Mo_along 39 = .ok (.iconst 1, 1) := by decide +kernel
theorem d_Mo_along_40 : decode b_Mo_along 40 = .ok (.if_icmp .ne 11, 3) := by decide +kernel
theorem d_Mo_along_43 : decode b_Mo_along 43 = .ok (.iload_n 1, 1) := by decide +kernel
theorem d_Mo_along_44 : decode b_Mo_along 44 = .ok (.ifCond .ne 7, 3) := by decide +kernel
theorem d_Mo_along_15 : decode b_Mo_along 15 = .ok (.aload_n 0, 1) := by decide +kernel
theorem d_Mo_along_16 : decode b_Mo_along 16 = .ok (.iload_n 1, 1) := by decide +kernel
theorem d_Mo_along_17 : decode b_Mo_along 17 = .ok (.iload 6, 2) := by decide +kernel
theorem d_Mo_along_19 : decode b_Mo_along 19 = .ok (.invokevirtual 202, 3) := by decide +kernel
theorem d_Mo_along_22 : decode b_Mo_along 22 = .ok (.istore 6, 2) := by decide +kernel
theorem d_Mo_along_24 : decode b_Mo_along 24 = .ok (.iload 6, 2) := by decide +kernel
theorem d_Mo_along_26 : decode b_Mo_along 26 = .ok (.ifCond .ge 6, 3) := by decide +kernel
theorem d_Mo_along_29 : decode b_Mo_along 29 = .ok (.iload 4, 2) := by decide +kernel
theorem d_Mo_along_31 : decode b_Mo_along 31 = .ok (.ireturn, 1) := by decide +kernel
theorem d_Mo_along_120 : decode b_Mo_along 120 = .ok (.aload_n 0, 1) := by decide +kernel
theorem d_Mo_along_121 : decode b_Mo_along 121 = .ok (.iload_n 2, 1) := by decide +kernel
theorem d_Mo_along_122 : decode b_Mo_along 122 = .ok (.iload 4, 2) := by decide +kernel
theorem d_Mo_along_124 : decode b_Mo_along 124 = .ok (.iadd, 1) := by decide +kernel
theorem d_Mo_along_125 : decode b_Mo_along 125 = .ok (.iload 5, 2) := by decide +kernel
theorem d_Mo_along_127 : decode b_Mo_along 127 = .ok (.iload 7, 2) := by decide +kernel
theorem d_Mo_along_129 : decode b_Mo_along 129 = .ok (.invokevirtual 205, 3) := by decide +kernel
theorem d_Mo_tables_0 : decode b_Mo_tables 0 = .ok (.aload_n 0, 1) := by decide +kernel
theorem d_Mo_tables_1 : decode b_Mo_tables 1 = .ok (.iconst 1, 1) := by decide +kernel
theorem d_Mo_tables_2 : decode b_Mo_tables 2 = .ok (.putfield 208, 3) := by decide +kernel
theorem d_Mo_tables_5 : decode b_Mo_tables 5 = .ok (.aload_n 0, 1) := by decide +kernel
theorem d_Mo_tables_6 : decode b_Mo_tables 6 = .ok (.getfield 57, 3) := by decide +kernel
theorem d_Mo_tables_9 : decode b_Mo_tables 9 = .ok (.iconst 0, 1) := by decide +kernel
theorem d_Mo_tables_10 : decode b_Mo_tables 10 = .ok (.iconst 0, 1) := by decide +kernel
theorem d_Mo_tables_11 : decode b_Mo_tables 11 = .ok (.iastore, 1) := by decide +kernel
theorem d_Mo_tables_12 : decode b_Mo_tables 12 = .ok (.iconst 0, 1) := by decide +kernel
theorem d_Mo_tables_13 : decode b_Mo_tables 13 = .ok (.istore_n 1, 1) := by decide +kernel
theorem d_Mo_tables_14 : decode b_Mo_tables 14 = .ok (.iload_n 1, 1) := by decide +kernel
theorem d_Mo_tables_15 : decode b_Mo_tables 15 = .ok (.aload_n 0, 1) := by decide +kernel
theorem d_Mo_tables_16 : decode b_Mo_tables 16 = .ok (.getfield 208, 3) := by decide +kernel
theorem d_Mo_tables_19 : decode b_Mo_tables 19 = .ok (.if_icmp .ge 72, 3) := by decide +kernel
theorem d_Mo_tables_22 : decode b_Mo_tables 22 = .ok (.aload_n 0, 1) := by decide +kernel
theorem d_Mo_tables_23 : decode b_Mo_tables 23 = .ok (.aload_n 0, 1) := by decide +kernel
theorem d_Mo_tables_24 : decode b_Mo_tables 24 = .ok (.getfield 57, 3) := by decide +kernel
theorem d_Mo_tables_27 : decode b_Mo_tables 27 = .ok (.iload_n 1, 1) := by decide +kernel
theorem d_Mo_tables_28 : decode b_Mo_tables 28 = .ok (.iaload, 1) := by decide +kernel
theorem d_Mo_tables_29 : decode b_Mo_tables 29 = .ok (.iconst (-1), 1) := by decide +kernel
theorem d_Mo_tables_30 : decode b_Mo_tables 30 = .ok (.invokevirtual 202, 3) := by decide +kernel
theorem d_Mo_tables_33 : decode b_Mo_tables 33 = .ok (.istore_n 2, 1) := by decide +kernel
theorem d_Mo_tables_34 : decode b_Mo_tables 34 = .ok (.iload_n 2, 1) := by decide +kernel
theorem d_Mo_tables_35 : decode b_Mo_tables 35 = .ok (.ifCond .lt 50, 3) := by decide +kernel
theorem d_Mo_tables_85 : decode b_Mo_tables 85 = .ok (.iinc 1 1, 3) := by decide +kernel
theorem d_Mo_tables_88 : decode b_Mo_tables 88 = .ok (.goto (-74), 3) := by decide +kernel
theorem d_Mo_tables_91 : decode b_Mo_tables 91 = .ok (.return_, 1) := by decide +kernel
theorem d_Mo_measure_0 : decode b_Mo_measure 0 = .ok (.aload_n 0, 1) := by decide +kernel
theorem d_Mo_measure_1 : decode b_Mo_measure 1 = .ok (.invokevirtual 211, 3) := by decide +kernel
theorem d_Mo_measure_4 : decode b_Mo_measure 4 = .ok (.iload_n 1, 1) := by decide +kernel
theorem d_Mo_measure_5 : decode b_Mo_measure 5 = .ok (.bipush 20, 2) := by decide +kernel
theorem d_Mo_measure_7 : decode b_Mo_measure 7 = .ok (.iadd, 1) := by decide +kernel
theorem d_Mo_measure_8 : decode b_Mo_measure 8 = .ok (.istore_n 2, 1) := by decide +kernel
theorem d_Mo_measure_9 : decode b_Mo_measure 9 = .ok (.iconst 0, 1) := by decide +kernel
theorem d_Mo_measure_10 : decode b_Mo_measure 10 = .ok (.istore_n 3, 1) := by decide +kernel
theorem d_Mo_measure_11 : decode b_Mo_measure 11 = .ok (.iload_n 3, 1) := by decide +kernel
theorem d_Mo_measure_12 : decode b_Mo_measure 12 = .ok (.aload_n 0, 1) := by decide +kernel
theorem d_Mo_measure_13 : decode b_Mo_measure 13 = .ok (.getfield 208, 3) := by decide +kernel
theorem d_Mo_measure_16 : decode b_Mo_measure 16 = .ok (.if_icmp .ge 58, 3) := by decide +kernel
theorem d_Mo_measure_19 : decode b_Mo_measure 19 = .ok (.aload_n 0, 1) := by decide +kernel
theorem d_Mo_measure_20 : decode b_Mo_measure 20 = .ok (.getfield 57, 3) := by decide +kernel
theorem d_Mo_measure_23 : decode b_Mo_measure 23 = .ok (.iload_n 3, 1) := by decide +kernel
theorem d_Mo_measure_24 : decode b_Mo_measure 24 = .ok (.iaload, 1) := by decide +kernel
theorem d_Mo_measure_25 : decode b_Mo_measure 25 = .ok (.istore 4, 2) := by decide +kernel
theorem d_Mo_measure_27 : decode b_Mo_measure 27 = .ok (.aload_n 0, 1) := by decide +kernel
theorem d_Mo_measure_28 : decode b_Mo_measure 28 = .ok (.getfield 60, 3) := by decide +kernel
theorem d_Mo_measure_31 : decode b_Mo_measure 31 = .ok (.iload 4, 2) := by decide +kernel
theorem d_Mo_measure_33 : decode b_Mo_measure 33 = .ok (.iload_n 2, 1) := by decide +kernel
theorem d_Mo_measure_34 : decode b_Mo_measure 34 = .ok (.iastore, 1) := by decide +kernel
theorem d_Mo_measure_35 : decode b_Mo_measure 35 = .ok (.aload_n 0, 1) := by decide +kernel
theorem d_Mo_measure_36 : decode b_Mo_measure 36 = .ok (.getfield 63, 3) := by decide +kernel
theorem d_Mo_measure_39 : decode b_Mo_measure 39 = .ok (.iload 4, 2) := by decide +kernel
theorem d_Mo_measure_41 : decode b_Mo_measure 41 = .ok (.aload_n 0, 1) := by decide +kernel
theorem d_Mo_measure_42 : decode b_Mo_measure 42 = .ok (.iload 4, 2) := by decide +kernel
theorem d_Mo_measure_44 : decode b_Mo_measure 44 = .ok (.iconst 0, 1) := by decide +kernel
theorem d_Mo_measure_45 : decode b_Mo_measure 45 = .ok (.iconst 0, 1) := by decide +kernel
theorem d_Mo_measure_46 : decode b_Mo_measure 46 = .ok (.invokevirtual 214, 3) := by decide +kernel
theorem d_Mo_measure_49 : decode b_Mo_measure 49 = .ok (.sipush 2047, 3) := by decide +kernel
theorem d_Mo_measure_52 : decode b_Mo_measure 52 = .ok (.iadd, 1) := by decide +kernel
theorem d_Mo_measure_53 : decode b_Mo_measure 53 = .ok (.sipush 2048, 3) := by decide +kernel
theorem d_Mo_measure_56 : decode b_Mo_measure 56 = .ok (.idiv, 1) := by decide +kernel
theorem d_Mo_measure_57 : decode b_Mo_measure 57 = .ok (.iastore, 1) := by decide +kernel
theorem d_Mo_measure_58 : decode b_Mo_measure 58 = .ok (.iload_n 2, 1) := by decide +kernel
theorem d_Mo_measure_59 : decode b_Mo_measure 59 = .ok (.aload_n 0, 1) := by decide +kernel
theorem d_Mo_measure_60 : decode b_Mo_measure 60 = .ok (.getfield 63, 3) := by decide +kernel
theorem d_Mo_measure_63 : decode b_Mo_measure 63 = .ok (.iload 4, 2) := by decide +kernel
theorem d_Mo_measure_65 : decode b_Mo_measure 65 = .ok (.iaload, 1) := by decide +kernel
theorem d_Mo_measure_66 : decode b_Mo_measure 66 = .ok (.iadd, 1) := by decide +kernel
theorem d_Mo_measure_67 : decode b_Mo_measure 67 = .ok (.istore_n 2, 1) := by decide +kernel
theorem d_Mo_measure_68 : decode b_Mo_measure 68 = .ok (.iinc 3 1, 3) := by decide +kernel
theorem d_Mo_measure_71 : decode b_Mo_measure 71 = .ok (.goto (-60), 3) := by decide +kernel
theorem d_Mo_measure_74 : decode b_Mo_measure 74 = .ok (.iload_n 2, 1) := by decide +kernel
theorem d_Mo_measure_75 : decode b_Mo_measure 75 = .ok (.iconst 1, 1) := by decide +kernel
theorem d_Mo_measure_76 : decode b_Mo_measure 76 = .ok (.iadd, 1) := by decide +kernel
theorem d_Mo_measure_77 : decode b_Mo_measure 77 = .ok (.iload_n 1, 1) := by decide +kernel
theorem d_Mo_measure_78 : decode b_Mo_measure 78 = .ok (.isub, 1) := by decide +kernel
theorem d_Mo_measure_79 : decode b_Mo_measure 79 = .ok (.ireturn, 1) := by decide +kernel
theorem d_Mo_design_0 : decode b_Mo_design 0 = .ok (.iconst 0, 1) := by decide +kernel
theorem d_Mo_design_1 : decode b_Mo_design 1 = .ok (.istore 4, 2) := by decide +kernel
theorem d_Mo_design_3 : decode b_Mo_design 3 = .ok (.iload 4, 2) := by decide +kernel
theorem d_Mo_design_5 : decode b_Mo_design 5 = .ok (.sipush 2048, 3) := by decide +kernel
theorem d_Mo_design_8 : decode b_Mo_design 8 = .ok (.iload_n 2, 1) := by decide +kernel
theorem d_Mo_design_9 : decode b_Mo_design 9 = .ok (.bipush 16, 2) := by decide +kernel
theorem d_Mo_design_11 : decode b_Mo_design 11 = .ok (.isub, 1) := by decide +kernel
theorem d_Mo_design_12 : decode b_Mo_design 12 = .ok (.imul, 1) := by decide +kernel
theorem d_Mo_design_13 : decode b_Mo_design 13 = .ok (.if_icmp .ge 17, 3) := by decide +kernel
theorem d_Mo_design_30 : decode b_Mo_design 30 = .ok (.aload_n 0, 1) := by decide +kernel
theorem d_Mo_design_31 : decode b_Mo_design 31 = .ok (.getfield 54, 3) := by decide +kernel
theorem d_Mo_design_34 : decode b_Mo_design 34 = .ok (.iconst 0, 1) := by decide +kernel
theorem d_Mo_design_35 : decode b_Mo_design 35 = .ok (.iconst 1, 1) := by decide +kernel
theorem d_Mo_design_36 : decode b_Mo_design 36 = .ok (.bastore, 1) := by decide +kernel
theorem d_Mo_design_37 : decode b_Mo_design 37 = .ok (.aload_n 0, 1) := by decide +kernel
theorem d_Mo_design_38 : decode b_Mo_design 38 = .ok (.iconst 1, 1) := by decide +kernel
theorem d_Mo_design_39 : decode b_Mo_design 39 = .ok (.bipush 67, 2) := by decide +kernel
theorem d_Mo_design_41 : decode b_Mo_design 41 = .ok (.bipush 68, 2) := by decide +kernel
theorem d_Mo_design_43 : decode b_Mo_design 43 = .ok (.bipush 48, 2) := by decide +kernel
theorem d_Mo_design_45 : decode b_Mo_design 45 = .ok (.bipush 48, 2) := by decide +kernel
theorem d_Mo_design_47 : decode b_Mo_design 47 = .ok (.bipush 49, 2) := by decide +kernel
theorem d_Mo_design_49 : decode b_Mo_design 49 = .ok (.invokevirtual 218, 3) := by decide +kernel
theorem d_Mo_design_52 : decode b_Mo_design 52 = .ok (.aload_n 0, 1) := by decide +kernel
theorem d_Mo_design_53 : decode b_Mo_design 53 = .ok (.getfield 54, 3) := by decide +kernel
theorem d_Mo_design_56 : decode b_Mo_design 56 = .ok (.bipush 6, 2) := by decide +kernel
theorem d_Mo_design_58 : decode b_Mo_design 58 = .ok (.iconst 1, 1) := by decide +kernel
theorem d_Mo_design_59 : decode b_Mo_design 59 = .ok (.bastore, 1) := by decide +kernel
theorem d_Mo_design_60 : decode b_Mo_design 60 = .ok (.aload_n 0, 1) := by decide +kernel
theorem d_Mo_design_61 : decode b_Mo_design 61 = .ok (.bipush 80, 2) := by decide +kernel
theorem d_Mo_design_63 : decode b_Mo_design 63 = .ok (.iconst 4, 1) := by decide +kernel
theorem d_Mo_design_64 : decode b_Mo_design 64 = .ok (.aload_n 0, 1) := by decide +kernel
theorem d_Mo_design_65 : decode b_Mo_design 65 = .ok (.getfield 99, 3) := by decide +kernel
theorem d_Mo_design_68 : decode b_Mo_design 68 = .ok (.invokevirtual 199, 3) := by decide +kernel
theorem d_Mo_design_71 : decode b_Mo_design 71 = .ok (.aload_n 0, 1) := by decide +kernel
theorem d_Mo_design_72 : decode b_Mo_design 72 = .ok (.sipush 128, 3) := by decide +kernel
theorem d_Mo_design_75 : decode b_Mo_design 75 = .ok (.iconst 2, 1) := by decide +kernel
theorem d_Mo_design_76 : decode b_Mo_design 76 = .ok (.sipush 2048, 3) := by decide +kernel
theorem d_Mo_design_79 : decode b_Mo_design 79 = .ok (.invokevirtual 199, 3) := by decide +kernel
theorem d_Mo_design_82 : decode b_Mo_design 82 = .ok (.aload_n 0, 1) := by decide +kernel
theorem d_Mo_design_83 : decode b_Mo_design 83 = .ok (.sipush 140, 3) := by decide +kernel
theorem d_Mo_design_86 : decode b_Mo_design 86 = .ok (.iconst 4, 1) := by decide +kernel
theorem d_Mo_design_87 : decode b_Mo_design 87 = .ok (.iload_n 1, 1) := by decide +kernel
theorem d_Mo_design_88 : decode b_Mo_design 88 = .ok (.bipush 18, 2) := by decide +kernel
theorem d_Mo_design_90 : decode b_Mo_design 90 = .ok (.iadd, 1) := by decide +kernel
theorem d_Mo_design_91 : decode b_Mo_design 91 = .ok (.invokevirtual 181, 3) := by decide +kernel
theorem d_Mo_design_94 : decode b_Mo_design 94 = .ok (.aload_n 0, 1) := by decide +kernel
theorem d_Mo_design_95 : decode b_Mo_design 95 = .ok (.sipush 148, 3) := by decide +kernel
theorem d_Mo_design_98 : decode b_Mo_design 98 = .ok (.iconst 4, 1) := by decide +kernel
theorem d_Mo_design_99 : decode b_Mo_design 99 = .ok (.iload_n 1, 1) := by decide +kernel
theorem d_Mo_design_100 : decode b_Mo_design 100 = .ok (.bipush 19, 2) := by decide +kernel
theorem d_Mo_design_102 : decode b_Mo_design 102 = .ok (.iadd, 1) := by decide +kernel
theorem d_Mo_design_103 : decode b_Mo_design 103 = .ok (.invokevirtual 185, 3) := by decide +kernel
theorem d_Mo_design_106 : decode b_Mo_design 106 = .ok (.aload_n 0, 1) := by decide +kernel
theorem d_Mo_design_107 : decode b_Mo_design 107 = .ok (.sipush 156, 3) := by decide +kernel
theorem d_Mo_design_110 : decode b_Mo_design 110 = .ok (.iconst 0, 1) := by decide +kernel
theorem d_Mo_design_111 : decode b_Mo_design 111 = .ok (.iconst 0, 1) := by decide +kernel
theorem d_Mo_design_112 : decode b_Mo_design 112 = .ok (.invokevirtual 205, 3) := by decide +kernel
theorem d_Mo_design_115 : decode b_Mo_design 115 = .ok (.aload_n 0, 1) := by decide +kernel
theorem d_Mo_design_116 : decode b_Mo_design 116 = .ok (.getfield 54, 3) := by decide +kernel
theorem d_Mo_design_119 : decode b_Mo_design 119 = .ok (.sipush 2048, 3) := by decide +kernel
theorem d_Mo_design_122 : decode b_Mo_design 122 = .ok (.iconst (-1), 1) := by decide +kernel
theorem d_Mo_design_123 : decode b_Mo_design 123 = .ok (.bastore, 1) := by decide +kernel
theorem d_Mo_design_124 : decode b_Mo_design 124 = .ok (.aload_n 0, 1) := by decide +kernel
theorem d_Mo_design_125 : decode b_Mo_design 125 = .ok (.sipush 2049, 3) := by decide +kernel
theorem d_Mo_design_128 : decode b_Mo_design 128 = .ok (.bipush 67, 2) := by decide +kernel
theorem d_Mo_design_130 : decode b_Mo_design 130 = .ok (.bipush 68, 2) := by decide +kernel
theorem d_Mo_design_132 : decode b_Mo_design 132 = .ok (.bipush 48, 2) := by decide +kernel
theorem d_Mo_design_134 : decode b_Mo_design 134 = .ok (.bipush 48, 2) := by decide +kernel
theorem d_Mo_design_136 : decode b_Mo_design 136 = .ok (.bipush 49, 2) := by decide +kernel
theorem d_Mo_design_138 : decode b_Mo_design 138 = .ok (.invokevirtual 218, 3) := by decide +kernel
theorem d_Mo_design_141 : decode b_Mo_design 141 = .ok (.aload_n 0, 1) := by decide +kernel
theorem d_Mo_design_142 : decode b_Mo_design 142 = .ok (.getfield 54, 3) := by decide +kernel
theorem d_Mo_design_145 : decode b_Mo_design 145 = .ok (.sipush 2054, 3) := by decide +kernel
theorem d_Mo_design_148 : decode b_Mo_design 148 = .ok (.iconst 1, 1) := by decide +kernel
theorem d_Mo_design_149 : decode b_Mo_design 149 = .ok (.bastore, 1) := by decide +kernel
theorem d_Mo_design_150 : decode b_Mo_design 150 = .ok (.sipush 4096, 3) := by decide +kernel
theorem d_Mo_design_153 : decode b_Mo_design 153 = .ok (.istore 4, 2) := by decide +kernel
theorem d_Mo_design_155 : decode b_Mo_design 155 = .ok (.iconst 0, 1) := by decide +kernel
theorem d_Mo_design_156 : decode b_Mo_design 156 = .ok (.istore 5, 2) := by decide +kernel
theorem d_Mo_design_158 : decode b_Mo_design 158 = .ok (.iload 5, 2) := by decide +kernel
theorem d_Mo_design_160 : decode b_Mo_design 160 = .ok (.aload_n 0, 1) := by decide +kernel
theorem d_Mo_design_161 : decode b_Mo_design 161 = .ok (.getfield 208, 3) := by decide +kernel
theorem d_Mo_design_164 : decode b_Mo_design 164 = .ok (.if_icmp .ge 252, 3) := by decide +kernel
theorem d_Mo_design_167 : decode b_Mo_design 167 = .ok (.aload_n 0, 1) := by decide +kernel
theorem d_Mo_design_168 : decode b_Mo_design 168 = .ok (.getfield 57, 3) := by decide +kernel
theorem d_Mo_design_171 : decode b_Mo_design 171 = .ok (.iload 5, 2) := by decide +kernel
theorem d_Mo_design_173 : decode b_Mo_design 173 = .ok (.iaload, 1) := by decide +kernel
theorem d_Mo_design_174 : decode b_Mo_design 174 = .ok (.istore 6, 2) := by decide +kernel
theorem d_Mo_design_176 : decode b_Mo_design 176 = .ok (.aload_n 0, 1) := by decide +kernel
theorem d_Mo_design_177 : decode b_Mo_design 177 = .ok (.iload 6, 2) := by decide +kernel
theorem d_Mo_design_179 : decode b_Mo_design 179 = .ok (.ifCond .ne 7, 3) := by decide +kernel
theorem d_Mo_design_182 : decode b_Mo_design 182 = .ok (.iconst 0, 1) := by decide +kernel
theorem d_Mo_design_183 : decode b_Mo_design 183 = .ok (.goto 4, 3) := by decide +kernel
theorem d_Mo_design_187 : decode b_Mo_design 187 = .ok (.iload 6, 2) := by decide +kernel
theorem d_Mo_design_189 : decode b_Mo_design 189 = .ok (.invokevirtual 192, 3) := by decide +kernel
theorem d_Mo_design_192 : decode b_Mo_design 192 = .ok (.istore 7, 2) := by decide +kernel
theorem d_Mo_design_194 : decode b_Mo_design 194 = .ok (.iload 6, 2) := by decide +kernel
theorem d_Mo_design_196 : decode b_Mo_design 196 = .ok (.ifCond .ne 7, 3) := by decide +kernel
theorem d_Mo_design_199 : decode b_Mo_design 199 = .ok (.iconst 1, 1) := by decide +kernel
theorem d_Mo_design_200 : decode b_Mo_design 200 = .ok (.goto 14, 3) := by decide +kernel
theorem d_Mo_design_214 : decode b_Mo_design 214 = .ok (.istore 8, 2) := by decide +kernel
theorem d_Mo_design_216 : decode b_Mo_design 216 = .ok (.aload_n 0, 1) := by decide +kernel
theorem d_Mo_design_217 : decode b_Mo_design 217 = .ok (.getfield 54, 3) := by decide +kernel
theorem d_Mo_design_220 : decode b_Mo_design 220 = .ok (.iload 4, 2) := by decide +kernel
theorem d_Mo_design_222 : decode b_Mo_design 222 = .ok (.iload 7, 2) := by decide +kernel
theorem d_Mo_design_224 : decode b_Mo_design 224 = .ok (.i2b, 1) := by decide +kernel
theorem d_Mo_design_225 : decode b_Mo_design 225 = .ok (.bastore, 1) := by decide +kernel
theorem d_Mo_design_226 : decode b_Mo_design 226 = .ok (.aload_n 0, 1) := by decide +kernel
theorem d_Mo_design_227 : decode b_Mo_design 227 = .ok (.getfield 54, 3) := by decide +kernel
theorem d_Mo_design_230 : decode b_Mo_design 230 = .ok (.iload 4, 2) := by decide +kernel
theorem d_Mo_design_232 : decode b_Mo_design 232 = .ok (.sipush 2048, 3) := by decide +kernel
theorem d_Mo_design_235 : decode b_Mo_design 235 = .ok (.iadd, 1) := by decide +kernel
theorem d_Mo_design_236 : decode b_Mo_design 236 = .ok (.iload 7, 2) := by decide +kernel
theorem d_Mo_design_238 : decode b_Mo_design 238 = .ok (.i2b, 1) := by decide +kernel
theorem d_Mo_design_239 : decode b_Mo_design 239 = .ok (.bastore, 1) := by decide +kernel
theorem d_Mo_design_240 : decode b_Mo_design 240 = .ok (.aload_n 0, 1) := by decide +kernel
theorem d_Mo_design_241 : decode b_Mo_design 241 = .ok (.iload 4, 2) := by decide +kernel
theorem d_Mo_design_243 : decode b_Mo_design 243 = .ok (.iconst 2, 1) := by decide +kernel
theorem d_Mo_design_244 : decode b_Mo_design 244 = .ok (.iadd, 1) := by decide +kernel
theorem d_Mo_design_245 : decode b_Mo_design 245 = .ok (.iconst 4, 1) := by decide +kernel
theorem d_Mo_design_246 : decode b_Mo_design 246 = .ok (.aload_n 0, 1) := by decide +kernel
theorem d_Mo_design_247 : decode b_Mo_design 247 = .ok (.getfield 60, 3) := by decide +kernel
theorem d_Mo_design_250 : decode b_Mo_design 250 = .ok (.iload 6, 2) := by decide +kernel
theorem d_Mo_design_252 : decode b_Mo_design 252 = .ok (.iaload, 1) := by decide +kernel
theorem d_Mo_design_253 : decode b_Mo_design 253 = .ok (.invokevirtual 181, 3) := by decide +kernel
theorem d_Mo_design_256 : decode b_Mo_design 256 = .ok (.aload_n 0, 1) := by decide +kernel
theorem d_Mo_design_257 : decode b_Mo_design 257 = .ok (.iload 4, 2) := by decide +kernel
theorem d_Mo_design_259 : decode b_Mo_design 259 = .ok (.sipush 2050, 3) := by decide +kernel
theorem d_Mo_design_262 : decode b_Mo_design 262 = .ok (.iadd, 1) := by decide +kernel
theorem d_Mo_design_263 : decode b_Mo_design 263 = .ok (.iconst 4, 1) := by decide +kernel
theorem d_Mo_design_264 : decode b_Mo_design 264 = .ok (.aload_n 0, 1) := by decide +kernel
theorem d_Mo_design_265 : decode b_Mo_design 265 = .ok (.getfield 60, 3) := by decide +kernel
theorem d_Mo_design_268 : decode b_Mo_design 268 = .ok (.iload 6, 2) := by decide +kernel
theorem d_Mo_design_270 : decode b_Mo_design 270 = .ok (.iaload, 1) := by decide +kernel
theorem d_Mo_design_271 : decode b_Mo_design 271 = .ok (.invokevirtual 185, 3) := by decide +kernel
theorem d_Mo_design_274 : decode b_Mo_design 274 = .ok (.aload_n 0, 1) := by decide +kernel
theorem d_Mo_design_275 : decode b_Mo_design 275 = .ok (.iload 4, 2) := by decide +kernel
theorem d_Mo_design_277 : decode b_Mo_design 277 = .ok (.bipush 6, 2) := by decide +kernel
theorem d_Mo_design_279 : decode b_Mo_design 279 = .ok (.iadd, 1) := by decide +kernel
theorem d_Mo_design_280 : decode b_Mo_design 280 = .ok (.iconst 2, 1) := by decide +kernel
theorem d_Mo_design_281 : decode b_Mo_design 281 = .ok (.iload 8, 2) := by decide +kernel
theorem d_Mo_design_283 : decode b_Mo_design 283 = .ok (.invokevirtual 181, 3) := by decide +kernel
theorem d_Mo_design_286 : decode b_Mo_design 286 = .ok (.aload_n 0, 1) := by decide +kernel
theorem d_Mo_design_287 : decode b_Mo_design 287 = .ok (.iload 4, 2) := by decide +kernel
theorem d_Mo_design_289 : decode b_Mo_design 289 = .ok (.sipush 2054, 3) := by decide +kernel
theorem d_Mo_design_292 : decode b_Mo_design 292 = .ok (.iadd, 1) := by decide +kernel
theorem d_Mo_design_293 : decode b_Mo_design 293 = .ok (.iconst 2, 1) := by decide +kernel
theorem d_Mo_design_294 : decode b_Mo_design 294 = .ok (.iload 8, 2) := by decide +kernel
theorem d_Mo_design_296 : decode b_Mo_design 296 = .ok (.invokevirtual 185, 3) := by decide +kernel
theorem d_Mo_design_299 : decode b_Mo_design 299 = .ok (.iconst 0, 1) := by decide +kernel
theorem d_Mo_design_300 : decode b_Mo_design 300 = .ok (.istore 9, 2) := by decide +kernel
theorem d_Mo_design_302 : decode b_Mo_design 302 = .ok (.iload 9, 2) := by decide +kernel
theorem d_Mo_design_304 : decode b_Mo_design 304 = .ok (.iload 7, 2) := by decide +kernel
theorem d_Mo_design_306 : decode b_Mo_design 306 = .ok (.if_icmp .ge 67, 3) := by decide +kernel
theorem d_Mo_design_309 : decode b_Mo_design 309 = .ok (.iload 6, 2) := by decide +kernel
theorem d_Mo_design_311 : decode b_Mo_design 311 = .ok (.ifCond .le 62, 3) := by decide +kernel
theorem d_Mo_design_373 : decode b_Mo_design 373 = .ok (.iload 4, 2) := by decide +kernel
theorem d_Mo_design_375 : decode b_Mo_design 375 = .ok (.bipush 8, 2) := by decide +kernel
theorem d_Mo_design_377 : decode b_Mo_design 377 = .ok (.iload 7, 2) := by decide +kernel
theorem d_Mo_design_379 : decode b_Mo_design 379 = .ok (.invokestatic 196, 3) := by decide +kernel
theorem d_Mo_design_382 : decode b_Mo_design 382 = .ok (.iadd, 1) := by decide +kernel
theorem d_Mo_design_383 : decode b_Mo_design 383 = .ok (.iadd, 1) := by decide +kernel
theorem d_Mo_design_384 : decode b_Mo_design 384 = .ok (.istore 4, 2) := by decide +kernel
theorem d_Mo_design_386 : decode b_Mo_design 386 = .ok (.aload_n 0, 1) := by decide +kernel
theorem d_Mo_design_387 : decode b_Mo_design 387 = .ok (.iload 6, 2) := by decide +kernel
theorem d_Mo_design_389 : decode b_Mo_design 389 = .ok (.sipush 2048, 3) := by decide +kernel
theorem d_Mo_design_392 : decode b_Mo_design 392 = .ok (.aload_n 0, 1) := by decide +kernel
theorem d_Mo_design_393 : decode b_Mo_design 393 = .ok (.getfield 60, 3) := by decide +kernel
theorem d_Mo_design_396 : decode b_Mo_design 396 = .ok (.iload 6, 2) := by decide +kernel
theorem d_Mo_design_398 : decode b_Mo_design 398 = .ok (.iaload, 1) := by decide +kernel
theorem d_Mo_design_399 : decode b_Mo_design 399 = .ok (.iload_n 1, 1) := by decide +kernel
theorem d_Mo_design_400 : decode b_Mo_design 400 = .ok (.isub, 1) := by decide +kernel
theorem d_Mo_design_401 : decode b_Mo_design 401 = .ok (.bipush 16, 2) := by decide +kernel
theorem d_Mo_design_403 : decode b_Mo_design 403 = .ok (.isub, 1) := by decide +kernel
theorem d_Mo_design_404 : decode b_Mo_design 404 = .ok (.imul, 1) := by decide +kernel
theorem d_Mo_design_405 : decode b_Mo_design 405 = .ok (.iconst 1, 1) := by decide +kernel
theorem d_Mo_design_406 : decode b_Mo_design 406 = .ok (.invokevirtual 214, 3) := by decide +kernel
theorem d_Mo_design_409 : decode b_Mo_design 409 = .ok (.pop, 1) := by decide +kernel
theorem d_Mo_design_410 : decode b_Mo_design 410 = .ok (.iinc 5 1, 3) := by decide +kernel
theorem d_Mo_design_413 : decode b_Mo_design 413 = .ok (.goto (-255), 3) := by decide +kernel
theorem d_Mo_design_416 : decode b_Mo_design 416 = .ok (.aload_n 0, 1) := by decide +kernel
theorem d_Mo_design_417 : decode b_Mo_design 417 = .ok (.sipush 132, 3) := by decide +kernel
theorem d_Mo_design_420 : decode b_Mo_design 420 = .ok (.iconst 4, 1) := by decide +kernel
theorem d_Mo_design_421 : decode b_Mo_design 421 = .ok (.iload 4, 2) := by decide +kernel
theorem d_Mo_design_423 : decode b_Mo_design 423 = .ok (.sipush 4096, 3) := by decide +kernel
theorem d_Mo_design_426 : decode b_Mo_design 426 = .ok (.isub, 1) := by decide +kernel
theorem d_Mo_design_427 : decode b_Mo_design 427 = .ok (.invokevirtual 199, 3) := by decide +kernel
theorem d_Mo_design_430 : decode b_Mo_design 430 = .ok (.sipush 2048, 3) := by decide +kernel
theorem d_Mo_design_433 : decode b_Mo_design 433 = .ok (.iload_n 2, 1) := by decide +kernel
theorem d_Mo_design_434 : decode b_Mo_design 434 = .ok (.bipush 17, 2) := by decide +kernel
theorem d_Mo_design_436 : decode b_Mo_design 436 = .ok (.isub, 1) := by decide +kernel
theorem d_Mo_design_437 : decode b_Mo_design 437 = .ok (.imul, 1) := by decide +kernel
theorem d_Mo_design_438 : decode b_Mo_design 438 = .ok (.istore 5, 2) := by decide +kernel
theorem d_Mo_design_440 : decode b_Mo_design 440 = .ok (.aload_n 0, 1) := by decide +kernel
theorem d_Mo_design_441 : decode b_Mo_design 441 = .ok (.iload 5, 2) := by decide +kernel
theorem d_Mo_design_443 : decode b_Mo_design 443 = .ok (.bipush 77, 2) := by decide +kernel
theorem d_Mo_design_445 : decode b_Mo_design 445 = .ok (.bipush 65, 2) := by decide +kernel
theorem d_Mo_design_447 : decode b_Mo_design 447 = .ok (.bipush 82, 2) := by decide +kernel
theorem d_Mo_design_449 : decode b_Mo_design 449 = .ok (.bipush 75, 2) := by decide +kernel
theorem d_Mo_design_451 : decode b_Mo_design 451 = .ok (.iconst 0, 1) := by decide +kernel
theorem d_Mo_design_452 : decode b_Mo_design 452 = .ok (.invokevirtual 218, 3) := by decide +kernel
theorem d_Mo_design_455 : decode b_Mo_design 455 = .ok (.aload_n 0, 1) := by decide +kernel
theorem d_Mo_design_456 : decode b_Mo_design 456 = .ok (.iload 5, 2) := by decide +kernel
theorem d_Mo_design_458 : decode b_Mo_design 458 = .ok (.iconst 4, 1) := by decide +kernel
theorem d_Mo_design_459 : decode b_Mo_design 459 = .ok (.iadd, 1) := by decide +kernel
theorem d_Mo_design_460 : decode b_Mo_design 460 = .ok (.iconst 4, 1) := by decide +kernel
theorem d_Mo_design_461 : decode b_Mo_design 461 = .ok (.iload_n 1, 1) := by decide +kernel
theorem d_Mo_design_462 : decode b_Mo_design 462 = .ok (.invokevirtual 181, 3) := by decide +kernel
theorem d_Mo_design_465 : decode b_Mo_design 465 = .ok (.aload_n 0, 1) := by decide +kernel
theorem d_Mo_design_466 : decode b_Mo_design 466 = .ok (.iload 5, 2) := by decide +kernel
theorem d_Mo_design_468 : decode b_Mo_design 468 = .ok (.bipush 8, 2) := by decide +kernel
theorem d_Mo_design_470 : decode b_Mo_design 470 = .ok (.iadd, 1) := by decide +kernel
theorem d_Mo_design_471 : decode b_Mo_design 471 = .ok (.iconst 4, 1) := by decide +kernel
theorem d_Mo_design_472 : decode b_Mo_design 472 = .ok (.iload_n 3, 1) := by decide +kernel
theorem d_Mo_design_473 : decode b_Mo_design 473 = .ok (.invokevirtual 181, 3) := by decide +kernel
theorem d_Mo_design_476 : decode b_Mo_design 476 = .ok (.return_, 1) := by decide +kernel
theorem d_Mo_design_16 : decode b_Mo_design 16 = .ok (.aload_n 0, 1) := by decide +kernel
theorem d_Mo_design_17 : decode b_Mo_design 17 = .ok (.getfield 54, 3) := by decide +kernel
theorem d_Mo_design_20 : decode b_Mo_design 20 = .ok (.iload 4, 2) := by decide +kernel
theorem d_Mo_design_22 : decode b_Mo_design 22 = .ok (.iconst 0, 1) := by decide +kernel
theorem d_Mo_design_23 : decode b_Mo_design 23 = .ok (.bastore, 1) := by decide +kernel
theorem d_Mo_design_24 : decode b_Mo_design 24 = .ok (.iinc 4 1, 3) := by decide +kernel
theorem d_Mo_design_27 : decode b_Mo_design 27 = .ok (.goto (-24), 3) := by decide +kernel
theorem d_Mo_frontOf_0 : decode b_Mo_frontOf 0 = .ok (.aload_n 0, 1) := by decide +kernel
theorem d_Mo_frontOf_1 : decode b_Mo_frontOf 1 = .ok (.getfield 99, 3) := by decide +kernel
theorem d_Mo_frontOf_4 : decode b_Mo_frontOf 4 = .ok (.istore_n 2, 1) := by decide +kernel
theorem d_Mo_frontOf_5 : decode b_Mo_frontOf 5 = .ok (.iload_n 2, 1) := by decide +kernel
theorem d_Mo_frontOf_6 : decode b_Mo_frontOf 6 = .ok (.ifCond .le 22, 3) := by decide +kernel
theorem d_Mo_frontOf_28 : decode b_Mo_frontOf 28 = .ok (.iload_n 2, 1) := by decide +kernel
theorem d_Mo_frontOf_29 : decode b_Mo_frontOf 29 = .ok (.ireturn, 1) := by decide +kernel
theorem d_Mo_frontOf_9 : decode b_Mo_frontOf 9 = .ok (.aload_n 0, 1) := by decide +kernel
theorem d_Mo_frontOf_10 : decode b_Mo_frontOf 10 = .ok (.getfield 14, 3) := by decide +kernel
theorem d_Mo_frontOf_13 : decode b_Mo_frontOf 13 = .ok (.iload_n 1, 1) := by decide +kernel
theorem d_Mo_frontOf_14 : decode b_Mo_frontOf 14 = .ok (.iload_n 2, 1) := by decide +kernel
theorem d_Mo_frontOf_15 : decode b_Mo_frontOf 15 = .ok (.iadd, 1) := by decide +kernel
theorem d_Mo_frontOf_16 : decode b_Mo_frontOf 16 = .ok (.iconst 1, 1) := by decide +kernel
theorem d_Mo_frontOf_17 : decode b_Mo_frontOf 17 = .ok (.isub, 1) := by decide +kernel
theorem d_Mo_frontOf_18 : decode b_Mo_frontOf 18 = .ok (.baload, 1) := by decide +kernel
theorem d_Mo_frontOf_19 : decode b_Mo_frontOf 19 = .ok (.ifCond .ne 9, 3) := by decide +kernel
theorem d_Mo_frontOf_22 : decode b_Mo_frontOf 22 = .ok (.iinc 2 (-1), 3) := by decide +kernel
theorem d_Mo_frontOf_25 : decode b_Mo_frontOf 25 = .ok (.goto (-20), 3) := by decide +kernel
theorem d_Mo_burn_0 : decode b_Mo_burn 0 = .ok (.aload_n 0, 1) := by decide +kernel
theorem d_Mo_burn_1 : decode b_Mo_burn 1 = .ok (.dup, 1) := by decide +kernel
theorem d_Mo_burn_2 : decode b_Mo_burn 2 = .ok (.getfield 122, 3) := by decide +kernel
theorem d_Mo_burn_5 : decode b_Mo_burn 5 = .ok (.iconst 1, 1) := by decide +kernel
theorem d_Mo_burn_6 : decode b_Mo_burn 6 = .ok (.iadd, 1) := by decide +kernel
theorem d_Mo_burn_7 : decode b_Mo_burn 7 = .ok (.putfield 122, 3) := by decide +kernel
theorem d_Mo_burn_10 : decode b_Mo_burn 10 = .ok (.aload_n 0, 1) := by decide +kernel
theorem d_Mo_burn_11 : decode b_Mo_burn 11 = .ok (.getfield 103, 3) := by decide +kernel
theorem d_Mo_burn_14 : decode b_Mo_burn 14 = .ok (.ifCond .ne 19, 3) := by decide +kernel
theorem d_Mo_burn_33 : decode b_Mo_burn 33 = .ok (.aload_n 0, 1) := by decide +kernel
theorem d_Mo_burn_34 : decode b_Mo_burn 34 = .ok (.getfield 103, 3) := by decide +kernel
theorem d_Mo_burn_37 : decode b_Mo_burn 37 = .ok (.ifCond .le 13, 3) := by decide +kernel
theorem d_Mo_burn_50 : decode b_Mo_burn 50 = .ok (.iload_n 1, 1) := by decide +kernel
theorem d_Mo_burn_51 : decode b_Mo_burn 51 = .ok (.aload_n 0, 1) := by decide +kernel
theorem d_Mo_burn_52 : decode b_Mo_burn 52 = .ok (.getfield 115, 3) := by decide +kernel
theorem d_Mo_burn_55 : decode b_Mo_burn 55 = .ok (.if_icmp .ne 23, 3) := by decide +kernel
theorem d_Mo_burn_78 : decode b_Mo_burn 78 = .ok (.aload_n 0, 1) := by decide +kernel
theorem d_Mo_burn_79 : decode b_Mo_burn 79 = .ok (.getfield 14, 3) := by decide +kernel
theorem d_Mo_burn_82 : decode b_Mo_burn 82 = .ok (.iload_n 1, 1) := by decide +kernel
theorem d_Mo_burn_83 : decode b_Mo_burn 83 = .ok (.iload_n 2, 1) := by decide +kernel
theorem d_Mo_burn_84 : decode b_Mo_burn 84 = .ok (.iadd, 1) := by decide +kernel
theorem d_Mo_burn_85 : decode b_Mo_burn 85 = .ok (.iconst 1, 1) := by decide +kernel
theorem d_Mo_burn_86 : decode b_Mo_burn 86 = .ok (.bastore, 1) := by decide +kernel
theorem d_Mo_burn_87 : decode b_Mo_burn 87 = .ok (.iconst 0, 1) := by decide +kernel
theorem d_Mo_burn_88 : decode b_Mo_burn 88 = .ok (.istore_n 3, 1) := by decide +kernel
theorem d_Mo_burn_89 : decode b_Mo_burn 89 = .ok (.iload_n 3, 1) := by decide +kernel
theorem d_Mo_burn_90 : decode b_Mo_burn 90 = .ok (.sipush 2048, 3) := by decide +kernel
theorem d_Mo_burn_93 : decode b_Mo_burn 93 = .ok (.if_icmp .ge 29, 3) := by decide +kernel
theorem d_Mo_burn_122 : decode b_Mo_burn 122 = .ok (.iconst 0, 1) := by decide +kernel
theorem d_Mo_burn_123 : decode b_Mo_burn 123 = .ok (.ireturn, 1) := by decide +kernel
theorem d_Mo_burn_96 : decode b_Mo_burn 96 = .ok (.aload_n 0, 1) := by decide +kernel
theorem d_Mo_burn_97 : decode b_Mo_burn 97 = .ok (.getfield 8, 3) := by decide +kernel
theorem d_Mo_burn_100 : decode b_Mo_burn 100 = .ok (.sipush 2048, 3) := by decide +kernel
theorem d_Mo_burn_103 : decode b_Mo_burn 103 = .ok (.iload_n 1, 1) := by decide +kernel
theorem d_Mo_burn_104 : decode b_Mo_burn 104 = .ok (.iload_n 2, 1) := by decide +kernel
theorem d_Mo_burn_105 : decode b_Mo_burn 105 = .ok (.iadd, 1) := by decide +kernel
theorem d_Mo_burn_106 : decode b_Mo_burn 106 = .ok (.imul, 1) := by decide +kernel
theorem d_Mo_burn_107 : decode b_Mo_burn 107 = .ok (.iload_n 3, 1) := by decide +kernel
theorem d_Mo_burn_108 : decode b_Mo_burn 108 = .ok (.iadd, 1) := by decide +kernel
theorem d_Mo_burn_109 : decode b_Mo_burn 109 = .ok (.aload_n 0, 1) := by decide +kernel
theorem d_Mo_burn_110 : decode b_Mo_burn 110 = .ok (.getfield 21, 3) := by decide +kernel
theorem d_Mo_burn_113 : decode b_Mo_burn 113 = .ok (.iload_n 3, 1) := by decide +kernel
theorem d_Mo_burn_114 : decode b_Mo_burn 114 = .ok (.baload, 1) := by decide +kernel
theorem d_Mo_burn_115 : decode b_Mo_burn 115 = .ok (.bastore, 1) := by decide +kernel
theorem d_Mo_burn_116 : decode b_Mo_burn 116 = .ok (.iinc 3 1, 3) := by decide +kernel
theorem d_Mo_burn_119 : decode b_Mo_burn 119 = .ok (.goto (-30), 3) := by decide +kernel
theorem d_Mo_burn_58 : decode b_Mo_burn 58 = .ok (.aload_n 0, 1) := by decide +kernel
theorem d_Mo_burn_59 : decode b_Mo_burn 59 = .ok (.getfield 17, 3) := by decide +kernel
theorem d_Mo_burn_62 : decode b_Mo_burn 62 = .ok (.iload_n 2, 1) := by decide +kernel
theorem d_Mo_burn_63 : decode b_Mo_burn 63 = .ok (.baload, 1) := by decide +kernel
theorem d_Mo_burn_64 : decode b_Mo_burn 64 = .ok (.ifCond .eq 14, 3) := by decide +kernel
theorem d_Mo_session_0 : decode b_Mo_session 0 = .ok (.aload_n 0, 1) := by decide +kernel
theorem d_Mo_session_1 : decode b_Mo_session 1 = .ok (.iload_n 1, 1) := by decide +kernel
theorem d_Mo_session_2 : decode b_Mo_session 2 = .ok (.invokevirtual 228, 3) := by decide +kernel
theorem d_Mo_session_5 : decode b_Mo_session 5 = .ok (.istore_n 3, 1) := by decide +kernel
theorem d_Mo_session_6 : decode b_Mo_session 6 = .ok (.aload_n 0, 1) := by decide +kernel
theorem d_Mo_session_7 : decode b_Mo_session 7 = .ok (.iload_n 3, 1) := by decide +kernel
theorem d_Mo_session_8 : decode b_Mo_session 8 = .ok (.invokevirtual 238, 3) := by decide +kernel
theorem d_Mo_session_11 : decode b_Mo_session 11 = .ok (.istore 4, 2) := by decide +kernel
theorem d_Mo_session_13 : decode b_Mo_session 13 = .ok (.iload_n 3, 1) := by decide +kernel
theorem d_Mo_session_14 : decode b_Mo_session 14 = .ok (.iload 4, 2) := by decide +kernel
theorem d_Mo_session_16 : decode b_Mo_session 16 = .ok (.iadd, 1) := by decide +kernel
theorem d_Mo_session_17 : decode b_Mo_session 17 = .ok (.aload_n 0, 1) := by decide +kernel
theorem d_Mo_session_18 : decode b_Mo_session 18 = .ok (.getfield 99, 3) := by decide +kernel
theorem d_Mo_session_21 : decode b_Mo_session 21 = .ok (.if_icmp .le 6, 3) := by decide +kernel
theorem d_Mo_session_27 : decode b_Mo_session 27 = .ok (.aload_n 0, 1) := by decide +kernel
theorem d_Mo_session_28 : decode b_Mo_session 28 = .ok (.iload_n 3, 1) := by decide +kernel
theorem d_Mo_session_29 : decode b_Mo_session 29 = .ok (.iload 4, 2) := by decide +kernel
theorem d_Mo_session_31 : decode b_Mo_session 31 = .ok (.iload_n 2, 1) := by decide +kernel
theorem d_Mo_session_32 : decode b_Mo_session 32 = .ok (.invokevirtual 241, 3) := by decide +kernel
theorem d_Mo_session_35 : decode b_Mo_session 35 = .ok (.iconst 0, 1) := by decide +kernel
theorem d_Mo_session_36 : decode b_Mo_session 36 = .ok (.istore 5, 2) := by decide +kernel
theorem d_Mo_session_38 : decode b_Mo_session 38 = .ok (.bipush 16, 2) := by decide +kernel
theorem d_Mo_session_40 : decode b_Mo_session 40 = .ok (.istore 6, 2) := by decide +kernel
theorem d_Mo_session_42 : decode b_Mo_session 42 = .ok (.iload 6, 2) := by decide +kernel
theorem d_Mo_session_44 : decode b_Mo_session 44 = .ok (.iload 4, 2) := by decide +kernel
theorem d_Mo_session_46 : decode b_Mo_session 46 = .ok (.if_icmp .ge 66, 3) := by decide +kernel
theorem d_Mo_session_112 : decode b_Mo_session 112 = .ok (.iload 5, 2) := by decide +kernel
theorem d_Mo_session_114 : decode b_Mo_session 114 = .ok (.iconst 2, 1) := by decide +kernel
theorem d_Mo_session_115 : decode b_Mo_session 115 = .ok (.if_icmp .ne 6, 3) := by decide +kernel
theorem d_Mo_session_121 : decode b_Mo_session 121 = .ok (.iload 5, 2) := by decide +kernel
theorem d_Mo_session_123 : decode b_Mo_session 123 = .ok (.ifCond .ne 5, 3) := by decide +kernel
theorem d_Mo_session_126 : decode b_Mo_session 126 = .ok (.iload_n 2, 1) := by decide +kernel
theorem d_Mo_session_127 : decode b_Mo_session 127 = .ok (.ireturn, 1) := by decide +kernel
theorem d_Mo_session_49 : decode b_Mo_session 49 = .ok (.iload 5, 2) := by decide +kernel
theorem d_Mo_session_51 : decode b_Mo_session 51 = .ok (.ifCond .ne 61, 3) := by decide +kernel
theorem d_Mo_session_54 : decode b_Mo_session 54 = .ok (.iconst 0, 1) := by decide +kernel
theorem d_Mo_session_55 : decode b_Mo_session 55 = .ok (.istore 7, 2) := by decide +kernel
theorem d_Mo_session_57 : decode b_Mo_session 57 = .ok (.iload 7, 2) := by decide +kernel
theorem d_Mo_session_59 : decode b_Mo_session 59 = .ok (.sipush 2048, 3) := by decide +kernel
theorem d_Mo_session_62 : decode b_Mo_session 62 = .ok (.if_icmp .ge 33, 3) := by decide +kernel
theorem d_Mo_session_95 : decode b_Mo_session 95 = .ok (.aload_n 0, 1) := by decide +kernel
theorem d_Mo_session_96 : decode b_Mo_session 96 = .ok (.iload_n 1, 1) := by decide +kernel
theorem d_Mo_session_97 : decode b_Mo_session 97 = .ok (.iload_n 3, 1) := by decide +kernel
theorem d_Mo_session_98 : decode b_Mo_session 98 = .ok (.iload 6, 2) := by decide +kernel
theorem d_Mo_session_100 : decode b_Mo_session 100 = .ok (.iadd, 1) := by decide +kernel
theorem d_Mo_session_101 : decode b_Mo_session 101 = .ok (.invokevirtual 235, 3) := by decide +kernel
theorem d_Mo_session_104 : decode b_Mo_session 104 = .ok (.istore 5, 2) := by decide +kernel
theorem d_Mo_session_106 : decode b_Mo_session 106 = .ok (.iinc 6 1, 3) := by decide +kernel
theorem d_Mo_session_109 : decode b_Mo_session 109 = .ok (.goto (-67), 3) := by decide +kernel
theorem d_Mo_session_65 : decode b_Mo_session 65 = .ok (.aload_n 0, 1) := by decide +kernel
theorem d_Mo_session_66 : decode b_Mo_session 66 = .ok (.getfield 21, 3) := by decide +kernel
theorem d_Mo_session_69 : decode b_Mo_session 69 = .ok (.iload 7, 2) := by decide +kernel
theorem d_Mo_session_71 : decode b_Mo_session 71 = .ok (.aload_n 0, 1) := by decide +kernel
theorem d_Mo_session_72 : decode b_Mo_session 72 = .ok (.getfield 54, 3) := by decide +kernel
theorem d_Mo_session_75 : decode b_Mo_session 75 = .ok (.sipush 2048, 3) := by decide +kernel
theorem d_Mo_session_78 : decode b_Mo_session 78 = .ok (.iload 6, 2) := by decide +kernel
theorem d_Mo_session_80 : decode b_Mo_session 80 = .ok (.bipush 16, 2) := by decide +kernel
theorem d_Mo_session_82 : decode b_Mo_session 82 = .ok (.isub, 1) := by decide +kernel
theorem d_Mo_session_83 : decode b_Mo_session 83 = .ok (.imul, 1) := by decide +kernel
theorem d_Mo_session_84 : decode b_Mo_session 84 = .ok (.iload 7, 2) := by decide +kernel
theorem d_Mo_session_86 : decode b_Mo_session 86 = .ok (.iadd, 1) := by decide +kernel
theorem d_Mo_session_87 : decode b_Mo_session 87 = .ok (.baload, 1) := by decide +kernel
theorem d_Mo_session_88 : decode b_Mo_session 88 = .ok (.bastore, 1) := by decide +kernel
theorem d_Mo_session_89 : decode b_Mo_session 89 = .ok (.iinc 7 1, 3) := by decide +kernel
theorem d_Mo_session_92 : decode b_Mo_session 92 = .ok (.goto (-35), 3) := by decide +kernel
theorem d_Mo_commit_0 : decode b_Mo_commit 0 = .ok (.aload_n 0, 1) := by decide +kernel
theorem d_Mo_commit_1 : decode b_Mo_commit 1 = .ok (.iconst 0, 1) := by decide +kernel
theorem d_Mo_commit_2 : decode b_Mo_commit 2 = .ok (.putfield 109, 3) := by decide +kernel
theorem d_Mo_commit_5 : decode b_Mo_commit 5 = .ok (.aload_n 0, 1) := by decide +kernel
theorem d_Mo_commit_6 : decode b_Mo_commit 6 = .ok (.getfield 125, 3) := by decide +kernel
theorem d_Mo_commit_9 : decode b_Mo_commit 9 = .ok (.ifCond .eq 6, 3) := by decide +kernel
theorem d_Mo_commit_15 : decode b_Mo_commit 15 = .ok (.iconst 1, 1) := by decide +kernel
theorem d_Mo_commit_16 : decode b_Mo_commit 16 = .ok (.istore_n 1, 1) := by decide +kernel
theorem d_Mo_commit_17 : decode b_Mo_commit 17 = .ok (.iload_n 1, 1) := by decide +kernel
theorem d_Mo_commit_18 : decode b_Mo_commit 18 = .ok (.aload_n 0, 1) := by decide +kernel
theorem d_Mo_commit_19 : decode b_Mo_commit 19 = .ok (.getfield 112, 3) := by decide +kernel
theorem d_Mo_commit_22 : decode b_Mo_commit 22 = .ok (.if_icmp .ge 72, 3) := by decide +kernel
theorem d_Mo_commit_94 : decode b_Mo_commit 94 = .ok (.aload_n 0, 1) := by decide +kernel
theorem d_Mo_commit_95 : decode b_Mo_commit 95 = .ok (.aload_n 0, 1) := by decide +kernel
theorem d_Mo_commit_96 : decode b_Mo_commit 96 = .ok (.getfield 115, 3) := by decide +kernel
theorem d_Mo_commit_99 : decode b_Mo_commit 99 = .ok (.aload_n 0, 1) := by decide +kernel
theorem d_Mo_commit_100 : decode b_Mo_commit 100 = .ok (.getfield 247, 3) := by decide +kernel
theorem d_Mo_commit_103 : decode b_Mo_commit 103 = .ok (.iconst 1, 1) := by decide +kernel
theorem d_Mo_commit_104 : decode b_Mo_commit 104 = .ok (.iadd, 1) := by decide +kernel
theorem d_Mo_commit_105 : decode b_Mo_commit 105 = .ok (.invokevirtual 250, 3) := by decide +kernel
theorem d_Mo_commit_108 : decode b_Mo_commit 108 = .ok (.istore_n 1, 1) := by decide +kernel
theorem d_Mo_commit_109 : decode b_Mo_commit 109 = .ok (.iload_n 1, 1) := by decide +kernel
theorem d_Mo_commit_110 : decode b_Mo_commit 110 = .ok (.bipush (-4), 2) := by decide +kernel
theorem d_Mo_commit_112 : decode b_Mo_commit 112 = .ok (.if_icmp .eq 9, 3) := by decide +kernel
theorem d_Mo_commit_115 : decode b_Mo_commit 115 = .ok (.iload_n 1, 1) := by decide +kernel
theorem d_Mo_commit_116 : decode b_Mo_commit 116 = .ok (.bipush (-3), 2) := by decide +kernel
theorem d_Mo_commit_118 : decode b_Mo_commit 118 = .ok (.if_icmp .ne 5, 3) := by decide +kernel
theorem d_Mo_commit_123 : decode b_Mo_commit 123 = .ok (.aload_n 0, 1) := by decide +kernel
theorem d_Mo_commit_124 : decode b_Mo_commit 124 = .ok (.dup, 1) := by decide +kernel
theorem d_Mo_commit_125 : decode b_Mo_commit 125 = .ok (.getfield 247, 3) := by decide +kernel
theorem d_Mo_commit_128 : decode b_Mo_commit 128 = .ok (.iconst 1, 1) := by decide +kernel
theorem d_Mo_commit_129 : decode b_Mo_commit 129 = .ok (.iadd, 1) := by decide +kernel
theorem d_Mo_commit_130 : decode b_Mo_commit 130 = .ok (.putfield 247, 3) := by decide +kernel
theorem d_Mo_commit_133 : decode b_Mo_commit 133 = .ok (.aload_n 0, 1) := by decide +kernel
theorem d_Mo_commit_134 : decode b_Mo_commit 134 = .ok (.getfield 247, 3) := by decide +kernel
theorem d_Mo_commit_137 : decode b_Mo_commit 137 = .ok (.ireturn, 1) := by decide +kernel
theorem d_Mo_compact_0 : decode b_Mo_compact 0 = .ok (.aload_n 0, 1) := by decide +kernel
theorem d_Mo_compact_1 : decode b_Mo_compact 1 = .ok (.iconst 0, 1) := by decide +kernel
theorem d_Mo_compact_2 : decode b_Mo_compact 2 = .ok (.putfield 109, 3) := by decide +kernel
theorem d_Mo_compact_5 : decode b_Mo_compact 5 = .ok (.aload_n 0, 1) := by decide +kernel
theorem d_Mo_compact_6 : decode b_Mo_compact 6 = .ok (.getfield 125, 3) := by decide +kernel
theorem d_Mo_compact_9 : decode b_Mo_compact 9 = .ok (.ifCond .eq 6, 3) := by decide +kernel
theorem d_Mo_compact_15 : decode b_Mo_compact 15 = .ok (.sipush 200, 3) := by decide +kernel
theorem d_Mo_compact_18 : decode b_Mo_compact 18 = .ok (.aload_n 0, 1) := by decide +kernel
theorem d_Mo_compact_19 : decode b_Mo_compact 19 = .ok (.getfield 115, 3) := by decide +kernel
theorem d_Mo_compact_22 : decode b_Mo_compact 22 = .ok (.isub, 1) := by decide +kernel
theorem d_Mo_compact_23 : decode b_Mo_compact 23 = .ok (.istore_n 1, 1) := by decide +kernel
theorem d_Mo_compact_24 : decode b_Mo_compact 24 = .ok (.iconst 0, 1) := by decide +kernel
theorem d_Mo_compact_25 : decode b_Mo_compact 25 = .ok (.istore_n 2, 1) := by decide +kernel
theorem d_Mo_compact_26 : decode b_Mo_compact 26 = .ok (.iload_n 2, 1) := by decide +kernel
theorem d_Mo_compact_27 : decode b_Mo_compact 27 = .ok (.sipush 200, 3) := by decide +kernel
theorem d_Mo_compact_30 : decode b_Mo_compact 30 = .ok (.if_icmp .ge 18, 3) := by decide +kernel
theorem d_Mo_compact_48 : decode b_Mo_compact 48 = .ok (.iconst 0, 1) := by decide +kernel
theorem d_Mo_compact_49 : decode b_Mo_compact 49 = .ok (.istore_n 2, 1) := by decide +kernel
theorem d_Mo_compact_50 : decode b_Mo_compact 50 = .ok (.iload_n 2, 1) := by decide +kernel
theorem d_Mo_compact_51 : decode b_Mo_compact 51 = .ok (.ldc 253, 2) := by decide +kernel
theorem d_Mo_compact_53 : decode b_Mo_compact 53 = .ok (.if_icmp .ge 22, 3) := by decide +kernel
theorem d_Mo_compact_75 : decode b_Mo_compact 75 = .ok (.iconst 0, 1) := by decide +kernel
theorem d_Mo_compact_76 : decode b_Mo_compact 76 = .ok (.istore_n 2, 1) := by decide +kernel
theorem d_Mo_compact_77 : decode b_Mo_compact 77 = .ok (.iload_n 2, 1) := by decide +kernel
theorem d_Mo_compact_78 : decode b_Mo_compact 78 = .ok (.aload_n 0, 1) := by decide +kernel
theorem d_Mo_compact_79 : decode b_Mo_compact 79 = .ok (.getfield 112, 3) := by decide +kernel
theorem d_Mo_compact_82 : decode b_Mo_compact 82 = .ok (.if_icmp .ge 21, 3) := by decide +kernel
theorem d_Mo_compact_85 : decode b_Mo_compact 85 = .ok (.aload_n 0, 1) := by decide +kernel
theorem d_Mo_compact_86 : decode b_Mo_compact 86 = .ok (.getfield 50, 3) := by decide +kernel
theorem d_Mo_compact_89 : decode b_Mo_compact 89 = .ok (.iload_n 2, 1) := by decide +kernel
theorem d_Mo_compact_90 : decode b_Mo_compact 90 = .ok (.aload_n 0, 1) := by decide +kernel
theorem d_Mo_compact_91 : decode b_Mo_compact 91 = .ok (.getfield 47, 3) := by decide +kernel
theorem d_Mo_compact_94 : decode b_Mo_compact 94 = .ok (.iload_n 2, 1) := by decide +kernel
theorem d_Mo_compact_95 : decode b_Mo_compact 95 = .ok (.iaload, 1) := by decide +kernel
theorem d_Mo_compact_96 : decode b_Mo_compact 96 = .ok (.iastore, 1) := by decide +kernel
theorem d_Mo_compact_97 : decode b_Mo_compact 97 = .ok (.iinc 2 1, 3) := by decide +kernel
theorem d_Mo_compact_100 : decode b_Mo_compact 100 = .ok (.goto (-23), 3) := by decide +kernel
theorem d_Mo_compact_103 : decode b_Mo_compact 103 = .ok (.iconst 0, 1) := by decide +kernel
theorem d_Mo_compact_104 : decode b_Mo_compact 104 = .ok (.istore_n 2, 1) := by decide +kernel
theorem d_Mo_compact_105 : decode b_Mo_compact 105 = .ok (.iconst 1, 1) := by decide +kernel
theorem d_Mo_compact_106 : decode b_Mo_compact 106 = .ok (.istore_n 3, 1) := by decide +kernel
theorem d_Mo_compact_107 : decode b_Mo_compact 107 = .ok (.iload_n 3, 1) := by decide +kernel
theorem d_Mo_compact_108 : decode b_Mo_compact 108 = .ok (.aload_n 0, 1) := by decide +kernel
theorem d_Mo_compact_109 : decode b_Mo_compact 109 = .ok (.getfield 112, 3) := by decide +kernel
theorem d_Mo_compact_112 : decode b_Mo_compact 112 = .ok (.if_icmp .ge 53, 3) := by decide +kernel
theorem d_Mo_compact_165 : decode b_Mo_compact 165 = .ok (.iload_n 2, 1) := by decide +kernel
theorem d_Mo_compact_166 : decode b_Mo_compact 166 = .ok (.ifCond .ne 10, 3) := by decide +kernel
theorem d_Mo_compact_169 : decode b_Mo_compact 169 = .ok (.aload_n 0, 1) := by decide +kernel
theorem d_Mo_compact_170 : decode b_Mo_compact 170 = .ok (.iload_n 1, 1) := by decide +kernel
theorem d_Mo_compact_171 : decode b_Mo_compact 171 = .ok (.iconst 1, 1) := by decide +kernel
theorem d_Mo_compact_172 : decode b_Mo_compact 172 = .ok (.invokevirtual 250, 3) := by decide +kernel
theorem d_Mo_compact_175 : decode b_Mo_compact 175 = .ok (.istore_n 2, 1) := by decide +kernel
theorem d_Mo_compact_176 : decode b_Mo_compact 176 = .ok (.iload_n 2, 1) := by decide +kernel
theorem d_Mo_compact_177 : decode b_Mo_compact 177 = .ok (.iconst 1, 1) := by decide +kernel
theorem d_Mo_compact_178 : decode b_Mo_compact 178 = .ok (.if_icmp .eq 33, 3) := by decide +kernel
theorem d_Mo_compact_211 : decode b_Mo_compact 211 = .ok (.iconst 1, 1) := by decide +kernel
theorem d_Mo_compact_212 : decode b_Mo_compact 212 = .ok (.istore_n 3, 1) := by decide +kernel
theorem d_Mo_compact_213 : decode b_Mo_compact 213 = .ok (.iload_n 3, 1) := by decide +kernel
theorem d_Mo_compact_214 : decode b_Mo_compact 214 = .ok (.aload_n 0, 1) := by decide +kernel
theorem d_Mo_compact_215 : decode b_Mo_compact 215 = .ok (.getfield 112, 3) := by decide +kernel
theorem d_Mo_compact_218 : decode b_Mo_compact 218 = .ok (.if_icmp .ge 47, 3) := by decide +kernel
theorem d_Mo_compact_265 : decode b_Mo_compact 265 = .ok (.aload_n 0, 1) := by decide +kernel
theorem d_Mo_compact_266 : decode b_Mo_compact 266 = .ok (.iload_n 1, 1) := by decide +kernel
theorem d_Mo_compact_267 : decode b_Mo_compact 267 = .ok (.putfield 115, 3) := by decide +kernel
theorem d_Mo_compact_270 : decode b_Mo_compact 270 = .ok (.iconst 0, 1) := by decide +kernel
theorem d_Mo_compact_271 : decode b_Mo_compact 271 = .ok (.istore_n 3, 1) := by decide +kernel
theorem d_Mo_compact_272 : decode b_Mo_compact 272 = .ok (.iload_n 3, 1) := by decide +kernel
theorem d_Mo_compact_273 : decode b_Mo_compact 273 = .ok (.sipush 200, 3) := by decide +kernel
theorem d_Mo_compact_276 : decode b_Mo_compact 276 = .ok (.if_icmp .ge 16, 3) := by decide +kernel
theorem d_Mo_compact_292 : decode b_Mo_compact 292 = .ok (.aload_n 0, 1) := by decide +kernel
theorem d_Mo_compact_293 : decode b_Mo_compact 293 = .ok (.iconst 1, 1) := by decide +kernel
theorem d_Mo_compact_294 : decode b_Mo_compact 294 = .ok (.putfield 247, 3) := by decide +kernel
theorem d_Mo_compact_297 : decode b_Mo_compact 297 = .ok (.aload_n 0, 1) := by decide +kernel
theorem d_Mo_compact_298 : decode b_Mo_compact 298 = .ok (.iconst 0, 1) := by decide +kernel
theorem d_Mo_compact_299 : decode b_Mo_compact 299 = .ok (.putfield 254, 3) := by decide +kernel
theorem d_Mo_compact_302 : decode b_Mo_compact 302 = .ok (.iconst 1, 1) := by decide +kernel
theorem d_Mo_compact_303 : decode b_Mo_compact 303 = .ok (.ireturn, 1) := by decide +kernel
theorem d_Mo_compact_279 : decode b_Mo_compact 279 = .ok (.aload_n 0, 1) := by decide +kernel
theorem d_Mo_compact_280 : decode b_Mo_compact 280 = .ok (.getfield 17, 3) := by decide +kernel
theorem d_Mo_compact_283 : decode b_Mo_compact 283 = .ok (.iload_n 3, 1) := by decide +kernel
theorem d_Mo_compact_284 : decode b_Mo_compact 284 = .ok (.iconst 0, 1) := by decide +kernel
theorem d_Mo_compact_285 : decode b_Mo_compact 285 = .ok (.bastore, 1) := by decide +kernel
theorem d_Mo_compact_286 : decode b_Mo_compact 286 = .ok (.iinc 3 1, 3) := by decide +kernel
theorem d_Mo_compact_289 : decode b_Mo_compact 289 = .ok (.goto (-17), 3) := by decide +kernel
theorem d_Mo_compact_56 : decode b_Mo_compact 56 = .ok (.aload_n 0, 1) := by decide +kernel
theorem d_Mo_compact_57 : decode b_Mo_compact 57 = .ok (.getfield 8, 3) := by decide +kernel
theorem d_Mo_compact_60 : decode b_Mo_compact 60 = .ok (.sipush 2048, 3) := by decide +kernel
theorem d_Mo_compact_63 : decode b_Mo_compact 63 = .ok (.iload_n 1, 1) := by decide +kernel
theorem d_Mo_compact_64 : decode b_Mo_compact 64 = .ok (.imul, 1) := by decide +kernel
theorem d_Mo_compact_65 : decode b_Mo_compact 65 = .ok (.iload_n 2, 1) := by decide +kernel
theorem d_Mo_compact_66 : decode b_Mo_compact 66 = .ok (.iadd, 1) := by decide +kernel
theorem d_Mo_compact_67 : decode b_Mo_compact 67 = .ok (.iconst 0, 1) := by decide +kernel
theorem d_Mo_compact_68 : decode b_Mo_compact 68 = .ok (.bastore, 1) := by decide +kernel
theorem d_Mo_compact_69 : decode b_Mo_compact 69 = .ok (.iinc 2 1, 3) := by decide +kernel
theorem d_Mo_compact_72 : decode b_Mo_compact 72 = .ok (.goto (-22), 3) := by decide +kernel
theorem d_Mo_compact_33 : decode b_Mo_compact 33 = .ok (.aload_n 0, 1) := by decide +kernel
theorem d_Mo_compact_34 : decode b_Mo_compact 34 = .ok (.getfield 14, 3) := by decide +kernel
theorem d_Mo_compact_37 : decode b_Mo_compact 37 = .ok (.iload_n 1, 1) := by decide +kernel
theorem d_Mo_compact_38 : decode b_Mo_compact 38 = .ok (.iload_n 2, 1) := by decide +kernel
theorem d_Mo_compact_39 : decode b_Mo_compact 39 = .ok (.iadd, 1) := by decide +kernel
theorem d_Mo_compact_40 : decode b_Mo_compact 40 = .ok (.iconst 0, 1) := by decide +kernel
theorem d_Mo_compact_41 : decode b_Mo_compact 41 = .ok (.bastore, 1) := by decide +kernel
theorem d_Mo_compact_42 : decode b_Mo_compact 42 = .ok (.iinc 2 1, 3) := by decide +kernel
theorem d_Mo_compact_45 : decode b_Mo_compact 45 = .ok (.goto (-19), 3) := by decide +kernel
theorem nI_m1 (j : Nat) : nI (j + 1) + Int32.ofInt (-1) = nI j := by
  rw [show Int32.ofInt (-1) = -1 from rfl, ← Int32.sub_eq_add_neg, nI_pred]
theorem nI_sub9 {a b : Nat} (h : b ≤ a) : nI a - nI b = nI (a - b) := by
  obtain ⟨k, rfl⟩ : ∃ k, a = k + b := ⟨a - b, by omega⟩
  rw [← nI_add, Int32.add_sub_cancel, Nat.add_sub_cancel]
theorem se_le {n : Nat} (h : 40 ≤ n) (hn : n ≤ 200) : (0 + 22 : Int32) ≤ nI n := by
  rw [show (0 + 22 : Int32) = nI 22 from by decide]
  exact nI_le (by omega) (by omega)
theorem upd_z {f : Nat → Int32} (h : ∀ j, f j = 0) (k : Nat) {x : Int32} (hx : x = 0) : ∀ j, upd f k x j = 0 := by
  intro j
  by_cases hj : j = k
  · rw [hj, pk_us, hx]
  · rw [pk_un (f := f) hj]
    exact h j
theorem ix9 (a b k : Nat) : 2048 * (nI a + nI b) + nI k = nI (2048 * (a + b) + k) := by
  rw [nI_add, show (2048 : Int32) = nI 2048 from rfl, nI_mul9, nI_add]
theorem ix8 {a : Nat} (k : Nat) (h : 16 ≤ a) : 2048 * (nI a - 16) + nI k = nI (2048 * (a - 16) + k) := by
  rw [show (16 : Int32) = nI 16 from rfl, nI_sub9 h, show (2048 : Int32) = nI 2048 from rfl, nI_mul9, nI_add]
theorem ix7 (k : Nat) : 2048 * nI 200 + nI k = nI (409600 + k) := by
  rw [show (2048 : Int32) = nI 2048 from rfl, nI_mul9, nI_add]
theorem ix6 (a b : Nat) : nI a + nI (b + 1) - 1 = nI (a + b) := by
  rw [nI_add, show a + (b + 1) = a + b + 1 from rfl, nI_pred]

set_option maxHeartbeats 4000000 in
set_option maxRecDepth 100000 in
theorem c_m_low (l : Launch) (D : va_G) (t : Nat → ClassId) (G : hG) (ak av : Nat → Nat) (h : hM) (mo n aBy aSt aDe aPa aIt aId aPr aNa aSi aSe aIw aEx aOl aPl aTa aAt aLo aS1 aS2 aS3 aS4 aS5 aS6 aO1 aO2 aO3 aO4 aO5 : Nat) (dr wt : Int32) (gPl : Nat → Int32) (P9 K9 : Nat) (p9 k0 v9 : Int32) (f_m : h mo = some (.inr (9, [.int 0, .int (nI n), .int 0, .ref aBy, .ref aSt, .ref aDe, .int 0, .int (-1), .int wt, .ref aPa, .int 1, .ref aIt, .ref aId, .ref aPr, .ref aNa, .ref aSi, .ref aSe, .ref aIw, .ref aEx, .ref aOl, .int 0, .ref aPl, .int dr, .int 0, .ref aTa, .ref aAt, .ref aLo, .int 0, .int 0, .ref aS1, .ref aS2, .ref aS3, .ref aS4, .ref aS5, .ref aS6, .int 0, .ref aO1, .ref aO2, .ref aO3, .ref aO4, .ref aO5]))) (f_aPl : h aPl = some (.inl ((t 0), 163840, .inl gPl))) (hp9 : p9 = nI P9) (hk0 : k0 = nI K9) (hle : P9 + K9 ≤ 163840) : Met l y_Mo_low (.code y_Mo_low b_Mo_low 5 none :: lw_g) { frames := 0, cells := 0, slots := 0, locals := 0 } (hP (kE D t G ak av) D vwCl G h [.ref mo, .int p9, .int k0, .int v9]) (hQv D vwCl G (fun h' => kp [aPl] h h' ∧ ∃ g : Nat → Int32, h' aPl = some (.inl ((t 0), 163840, .inl g)))) 0 0 G.P := by
  refine Met.ofW (cc := b_Mo_low) (maxL := 5) (ret := none) (by decide) rfl ?_
  intro p e s m args below meth c s₁ Bd hml hv
  obtain ⟨ha, hE, hH⟩ := hv
  have hx := Bd.exec
  have hb := Bd.bytes
  have hr := Bd.returns
  have hts : ∀ w ∈ lw_g, w.before args s = true := fun w hw => atoms_spec (ws := (.code y_Mo_low b_Mo_low 5 none :: lw_g)) Bd.pre w (List.mem_cons_of_mem _ hw)
  have hown : s.vm.findClass R_Mo = some m.cls := findClass_of_methodNamed Bd.named
  have hlocks := Bd.notSynchronized
  have hK := hE.1
  have hH0 := hH
  have hLo : hLc G.P [] := hLc_nil
  have hz : s.heap.size ≤ s.heap.size := Nat.le_refl _
  have hkp : kp [aPl] h h := kp_rf
  have hl := lv_entry [.ref mo, .int p9, .int k0, .int v9] (n := 5) (Nat.le_of_ble_eq_true rfl)
  rw [show entryFrame m args 5 = F0 m 0 ((lg_sl [.ref mo, .int p9, .int k0, .int v9] ++ List.replicate (5 - (lg_sl [.ref mo, .int p9, .int k0, .int v9]).length) Slot.unset).toArray) [] from (by rw [ha]; exact lg_entry_eq m [.ref mo, .int p9, .int k0, .int v9] 5)]
  generalize (lg_sl [.ref mo, .int p9, .int k0, .int v9] ++ List.replicate (5 - (lg_sl [.ref mo, .int p9, .int k0, .int v9]).length) Slot.unset).toArray = ls at hl ⊢
  have hl : lv_has ls 5 [(0, .ref mo), (1, .int p9), (2, .int k0), (3, .int v9)] := hl
  subst hp9
  subst hk0
  refine lv_iconst (v := 0) hx hb d_Mo_low_0 (by decide) ?_
  refine lv_topi (fun v1 e2 => ?_)
  obtain rfl : v1 = nI 0 := e2.trans (by decide)
  refine lv_istore (lv' := [(4, .int (nI 0)), (0, .ref mo), (1, .int (nI P9)), (2, .int (nI K9)), (3, .int v9)]) hx hb d_Mo_low_1 hl (by decide) rfl (fun ls hl => ?_)
  refine hm_loop (fun k ls H locs hh => ∃ (k9 : Nat) (g9 : Nat → Int32), k = K9 - k9 ∧ lv_has ls 5 [(4, .int (nI k9)), (0, .ref mo), (1, .int (nI P9)), (2, .int (nI K9)), (3, .int v9)] ∧ hm D vwCl G hh H ∧ s.heap.size ≤ H.size ∧ hLc G.P locs ∧ kp [aPl] h hh ∧ hh mo = some (.inr (9, [.int 0, .int (nI n), .int 0, .ref aBy, .ref aSt, .ref aDe, .int 0, .int (-1), .int wt, .ref aPa, .int 1, .ref aIt, .ref aId, .ref aPr, .ref aNa, .ref aSi, .ref aSe, .ref aIw, .ref aEx, .ref aOl, .int 0, .ref aPl, .int dr, .int 0, .ref aTa, .ref aAt, .ref aLo, .int 0, .int 0, .ref aS1, .ref aS2, .ref aS3, .ref aS4, .ref aS5, .ref aS6, .int 0, .ref aO1, .ref aO2, .ref aO3, .ref aO4, .ref aO5])) ∧ hh aPl = some (.inl ((t 0), 163840, .inl g9)) ∧ (k9 ≤ K9)) ?_ (hh := h) ⟨0, gPl, rfl, (lv_sub hl [0, 1, 2, 3, 4] rfl), hH, hz, hLo, hkp, f_m, f_aPl, by omega⟩
  rintro k ls H locs hh ⟨k9, g9, hk, hl, hH, hz, hLo, hkp, f_m, f_aPl, hk9⟩ ih
  refine lv_iload hx hb d_Mo_low_3 (lv_at hl 0 rfl) ?_
  refine lv_iload_n hx hb d_Mo_low_5 rfl (lv_at hl 3 rfl) ?_
  refine lv_icmp_ge (tgt := 32) hx hb d_Mo_low_6 (by decide) (fun hc3 => ?_) (fun hc3 => ?_)
  · skip
    exact W.vret hx hb hr (fun t9 ht hW => ⟨hh, rfl, ⟨hkp, _, f_aPl⟩, by rw [ht]; exact hH, by rw [ht]; exact hz⟩) hLo d_Mo_low_32
  · skip
    have hk1 : k9 < K9 := (nI_ltI (by omega) (by omega)).mp (Int32.not_le.mp hc3)
    refine lv_aload_n hx hb d_Mo_low_9 rfl (lv_at hl 1 rfl) ?_
    refine hm_get (ci := 9) (v := .ref aPl) (C := R_Mo) (T := F_Mo) (N := 41) hx hb hts ig_Mo hown hK hH f_m rfl 21 (by decide) (hts _ mw_410) (fun _ h9 => h9) rfl d_Mo_low_10 ?_
    refine lv_iload_n hx hb d_Mo_low_13 rfl (lv_at hl 2 rfl) ?_
    refine lv_iload hx hb d_Mo_low_14 (lv_at hl 0 rfl) ?_
    refine lv_iadd hx hb d_Mo_low_16 ?_
    refine lv_iload_n hx hb d_Mo_low_17 rfl (lv_at hl 4 rfl) ?_
    refine lv_bipush (v := 8) hx hb d_Mo_low_18 (by decide) ?_
    refine lv_iload hx hb d_Mo_low_20 (lv_at hl 0 rfl) ?_
    refine lv_imul hx hb d_Mo_low_22 ?_
    refine lv_ishr hx hb d_Mo_low_23 ?_
    refine lv_i2b (v := (v9 >>> ((8 * (nI k9)) &&& 31)).toInt8.toInt32) hx hb d_Mo_low_24 rfl ?_
    refine hj_bast hx hb hK hH hLo 0 f_aPl rfl (P9 + k9) (nI_add _ _) (by omega) (by decide) d_Mo_low_25 (fun H4 locs hH z5 hLo => ?_)
    have hz : s.heap.size ≤ H4.size := by rw [z5]; exact hz
    obtain ⟨h6, e7⟩ : ∃ z, z = hu hh aPl (.inl ((t 0), 163840, .inl (upd g9 (P9 + k9) (vp_nar .byte ((v9 >>> ((8 * (nI k9)) &&& 31)).toInt8.toInt32))))) := ⟨_, rfl⟩
    have hH : hm D vwCl G h6 H4 := by rw [e7]; exact hH
    have f_m : h6 mo = some (.inr (9, [.int 0, .int (nI n), .int 0, .ref aBy, .ref aSt, .ref aDe, .int 0, .int (-1), .int wt, .ref aPa, .int 1, .ref aIt, .ref aId, .ref aPr, .ref aNa, .ref aSi, .ref aSe, .ref aIw, .ref aEx, .ref aOl, .int 0, .ref aPl, .int dr, .int 0, .ref aTa, .ref aAt, .ref aLo, .int 0, .int 0, .ref aS1, .ref aS2, .ref aS3, .ref aS4, .ref aS5, .ref aS6, .int 0, .ref aO1, .ref aO2, .ref aO3, .ref aO4, .ref aO5])) := by rw [e7, hu_n (Ne.symm (h_neA f_aPl f_m))]; exact f_m
    have f_aPl : h6 aPl = some (.inl ((t 0), 163840, .inl (upd g9 (P9 + k9) (vp_nar .byte ((v9 >>> ((8 * (nI k9)) &&& 31)).toInt8.toInt32))))) := by rw [e7]; exact hu_s _ _ _
    have hkp : kp [aPl] h h6 := by rw [e7]; exact kp_put hkp (by simp)
    refine lv_iinc (v := nI (k9 + 1)) (lv' := [(4, .int (nI (k9 + 1))), (0, .ref mo), (1, .int (nI P9)), (2, .int (nI K9)), (3, .int v9)]) hx hb d_Mo_low_26 hl (k := 0) rfl (nI_1 k9) (by decide) rfl (fun ls hl => ?_)
    refine lv_goto (tgt := 3) hx hb d_Mo_low_29 (by decide) ?_
    exact ih (K9 - (k9 + 1)) ls _ locs _ (by rw [hk]; omega) ⟨(k9 + 1), _, rfl, (lv_sub hl [0, 1, 2, 3, 4] rfl), hH, hz, hLo, hkp, f_m, f_aPl, by omega⟩

set_option maxHeartbeats 4000000 in
set_option maxRecDepth 100000 in
theorem c_m_high (l : Launch) (D : va_G) (t : Nat → ClassId) (G : hG) (ak av : Nat → Nat) (h : hM) (mo n aBy aSt aDe aPa aIt aId aPr aNa aSi aSe aIw aEx aOl aPl aTa aAt aLo aS1 aS2 aS3 aS4 aS5 aS6 aO1 aO2 aO3 aO4 aO5 : Nat) (dr wt : Int32) (gPl : Nat → Int32) (P9 K9 : Nat) (p9 k0 v9 : Int32) (f_m : h mo = some (.inr (9, [.int 0, .int (nI n), .int 0, .ref aBy, .ref aSt, .ref aDe, .int 0, .int (-1), .int wt, .ref aPa, .int 1, .ref aIt, .ref aId, .ref aPr, .ref aNa, .ref aSi, .ref aSe, .ref aIw, .ref aEx, .ref aOl, .int 0, .ref aPl, .int dr, .int 0, .ref aTa, .ref aAt, .ref aLo, .int 0, .int 0, .ref aS1, .ref aS2, .ref aS3, .ref aS4, .ref aS5, .ref aS6, .int 0, .ref aO1, .ref aO2, .ref aO3, .ref aO4, .ref aO5]))) (f_aPl : h aPl = some (.inl ((t 0), 163840, .inl gPl))) (hp9 : p9 = nI P9) (hk0 : k0 = nI K9) (hle : P9 + K9 ≤ 163840) : Met l y_Mo_high (.code y_Mo_high b_Mo_high 5 none :: lw_g) { frames := 0, cells := 0, slots := 0, locals := 0 } (hP (kE D t G ak av) D vwCl G h [.ref mo, .int p9, .int k0, .int v9]) (hQv D vwCl G (fun h' => kp [aPl] h h' ∧ ∃ g : Nat → Int32, h' aPl = some (.inl ((t 0), 163840, .inl g)))) 0 0 G.P := by
  refine Met.ofW (cc := b_Mo_high) (maxL := 5) (ret := none) (by decide) rfl ?_
  intro p e s m args below meth c s₁ Bd hml hv
  obtain ⟨ha, hE, hH⟩ := hv
  have hx := Bd.exec
  have hb := Bd.bytes
  have hr := Bd.returns
  have hts : ∀ w ∈ lw_g, w.before args s = true := fun w hw => atoms_spec (ws := (.code y_Mo_high b_Mo_high 5 none :: lw_g)) Bd.pre w (List.mem_cons_of_mem _ hw)
  have hown : s.vm.findClass R_Mo = some m.cls := findClass_of_methodNamed Bd.named
  have hlocks := Bd.notSynchronized
  have hK := hE.1
  have hH0 := hH
  have hLo : hLc G.P [] := hLc_nil
  have hz : s.heap.size ≤ s.heap.size := Nat.le_refl _
  have hkp : kp [aPl] h h := kp_rf
  have hl := lv_entry [.ref mo, .int p9, .int k0, .int v9] (n := 5) (Nat.le_of_ble_eq_true rfl)
  rw [show entryFrame m args 5 = F0 m 0 ((lg_sl [.ref mo, .int p9, .int k0, .int v9] ++ List.replicate (5 - (lg_sl [.ref mo, .int p9, .int k0, .int v9]).length) Slot.unset).toArray) [] from (by rw [ha]; exact lg_entry_eq m [.ref mo, .int p9, .int k0, .int v9] 5)]
  generalize (lg_sl [.ref mo, .int p9, .int k0, .int v9] ++ List.replicate (5 - (lg_sl [.ref mo, .int p9, .int k0, .int v9]).length) Slot.unset).toArray = ls at hl ⊢
  have hl : lv_has ls 5 [(0, .ref mo), (1, .int p9), (2, .int k0), (3, .int v9)] := hl
  subst hp9
  subst hk0
  refine lv_iconst (v := 0) hx hb d_Mo_high_0 (by decide) ?_
  refine lv_topi (fun v1 e2 => ?_)
  obtain rfl : v1 = nI 0 := e2.trans (by decide)
  refine lv_istore (lv' := [(4, .int (nI 0)), (0, .ref mo), (1, .int (nI P9)), (2, .int (nI K9)), (3, .int v9)]) hx hb d_Mo_high_1 hl (by decide) rfl (fun ls hl => ?_)
  refine hm_loop (fun k ls H locs hh => ∃ (k9 : Nat) (g9 : Nat → Int32), k = K9 - k9 ∧ lv_has ls 5 [(4, .int (nI k9)), (0, .ref mo), (1, .int (nI P9)), (2, .int (nI K9)), (3, .int v9)] ∧ hm D vwCl G hh H ∧ s.heap.size ≤ H.size ∧ hLc G.P locs ∧ kp [aPl] h hh ∧ hh mo = some (.inr (9, [.int 0, .int (nI n), .int 0, .ref aBy, .ref aSt, .ref aDe, .int 0, .int (-1), .int wt, .ref aPa, .int 1, .ref aIt, .ref aId, .ref aPr, .ref aNa, .ref aSi, .ref aSe, .ref aIw, .ref aEx, .ref aOl, .int 0, .ref aPl, .int dr, .int 0, .ref aTa, .ref aAt, .ref aLo, .int 0, .int 0, .ref aS1, .ref aS2, .ref aS3, .ref aS4, .ref aS5, .ref aS6, .int 0, .ref aO1, .ref aO2, .ref aO3, .ref aO4, .ref aO5])) ∧ hh aPl = some (.inl ((t 0), 163840, .inl g9)) ∧ (k9 ≤ K9)) ?_ (hh := h) ⟨0, gPl, rfl, (lv_sub hl [0, 1, 2, 3, 4] rfl), hH, hz, hLo, hkp, f_m, f_aPl, by omega⟩
  rintro k ls H locs hh ⟨k9, g9, hk, hl, hH, hz, hLo, hkp, f_m, f_aPl, hk9⟩ ih
  refine lv_iload hx hb d_Mo_high_3 (lv_at hl 0 rfl) ?_
  refine lv_iload_n hx hb d_Mo_high_5 rfl (lv_at hl 3 rfl) ?_
  refine lv_icmp_ge (tgt := 36) hx hb d_Mo_high_6 (by decide) (fun hc3 => ?_) (fun hc3 => ?_)
  · skip
    exact W.vret hx hb hr (fun t9 ht hW => ⟨hh, rfl, ⟨hkp, _, f_aPl⟩, by rw [ht]; exact hH, by rw [ht]; exact hz⟩) hLo d_Mo_high_36
  · skip
    have hk1 : k9 < K9 := (nI_ltI (by omega) (by omega)).mp (Int32.not_le.mp hc3)
    refine lv_aload_n hx hb d_Mo_high_9 rfl (lv_at hl 1 rfl) ?_
    refine hm_get (ci := 9) (v := .ref aPl) (C := R_Mo) (T := F_Mo) (N := 41) hx hb hts ig_Mo hown hK hH f_m rfl 21 (by decide) (hts _ mw_410) (fun _ h9 => h9) rfl d_Mo_high_10 ?_
    refine lv_iload_n hx hb d_Mo_high_13 rfl (lv_at hl 2 rfl) ?_
    refine lv_iload hx hb d_Mo_high_14 (lv_at hl 0 rfl) ?_
    refine lv_iadd hx hb d_Mo_high_16 ?_
    refine lv_iload_n hx hb d_Mo_high_17 rfl (lv_at hl 4 rfl) ?_
    refine lv_bipush (v := 8) hx hb d_Mo_high_18 (by decide) ?_
    refine lv_iload_n hx hb d_Mo_high_20 rfl (lv_at hl 3 rfl) ?_
    refine lv_iconst (v := 1) hx hb d_Mo_high_21 (by decide) ?_
    refine lv_isub hx hb d_Mo_high_22 ?_
    refine lv_iload hx hb d_Mo_high_23 (lv_at hl 0 rfl) ?_
    refine lv_isub hx hb d_Mo_high_25 ?_
    refine lv_imul hx hb d_Mo_high_26 ?_
    refine lv_ishr hx hb d_Mo_high_27 ?_
    refine lv_i2b (v := (v9 >>> ((8 * (((nI K9) - 1) - (nI k9))) &&& 31)).toInt8.toInt32) hx hb d_Mo_high_28 rfl ?_
    refine hj_bast hx hb hK hH hLo 0 f_aPl rfl (P9 + k9) (nI_add _ _) (by omega) (by decide) d_Mo_high_29 (fun H4 locs hH z5 hLo => ?_)
    have hz : s.heap.size ≤ H4.size := by rw [z5]; exact hz
    obtain ⟨h6, e7⟩ : ∃ z, z = hu hh aPl (.inl ((t 0), 163840, .inl (upd g9 (P9 + k9) (vp_nar .byte ((v9 >>> ((8 * (((nI K9) - 1) - (nI k9))) &&& 31)).toInt8.toInt32))))) := ⟨_, rfl⟩
    have hH : hm D vwCl G h6 H4 := by rw [e7]; exact hH
    have f_m : h6 mo = some (.inr (9, [.int 0, .int (nI n), .int 0, .ref aBy, .ref aSt, .ref aDe, .int 0, .int (-1), .int wt, .ref aPa, .int 1, .ref aIt, .ref aId, .ref aPr, .ref aNa, .ref aSi, .ref aSe, .ref aIw, .ref aEx, .ref aOl, .int 0, .ref aPl, .int dr, .int 0, .ref aTa, .ref aAt, .ref aLo, .int 0, .int 0, .ref aS1, .ref aS2, .ref aS3, .ref aS4, .ref aS5, .ref aS6, .int 0, .ref aO1, .ref aO2, .ref aO3, .ref aO4, .ref aO5])) := by rw [e7, hu_n (Ne.symm (h_neA f_aPl f_m))]; exact f_m
    have f_aPl : h6 aPl = some (.inl ((t 0), 163840, .inl (upd g9 (P9 + k9) (vp_nar .byte ((v9 >>> ((8 * (((nI K9) - 1) - (nI k9))) &&& 31)).toInt8.toInt32))))) := by rw [e7]; exact hu_s _ _ _
    have hkp : kp [aPl] h h6 := by rw [e7]; exact kp_put hkp (by simp)
    refine lv_iinc (v := nI (k9 + 1)) (lv' := [(4, .int (nI (k9 + 1))), (0, .ref mo), (1, .int (nI P9)), (2, .int (nI K9)), (3, .int v9)]) hx hb d_Mo_high_30 hl (k := 0) rfl (nI_1 k9) (by decide) rfl (fun ls hl => ?_)
    refine lv_goto (tgt := 3) hx hb d_Mo_high_33 (by decide) ?_
    exact ih (K9 - (k9 + 1)) ls _ locs _ (by rw [hk]; omega) ⟨(k9 + 1), _, rfl, (lv_sub hl [0, 1, 2, 3, 4] rfl), hH, hz, hLo, hkp, f_m, f_aPl, by omega⟩

set_option maxHeartbeats 4000000 in
set_option maxRecDepth 100000 in
theorem c_m_both (l : Launch) (D : va_G) (t : Nat → ClassId) (G : hG) (ak av : Nat → Nat) (h : hM) (mo n aBy aSt aDe aPa aIt aId aPr aNa aSi aSe aIw aEx aOl aPl aTa aAt aLo aS1 aS2 aS3 aS4 aS5 aS6 aO1 aO2 aO3 aO4 aO5 : Nat) (dr wt : Int32) (gPl : Nat → Int32) (P9 K9 : Nat) (p9 k0 v9 : Int32) (f_m : h mo = some (.inr (9, [.int 0, .int (nI n), .int 0, .ref aBy, .ref aSt, .ref aDe, .int 0, .int (-1), .int wt, .ref aPa, .int 1, .ref aIt, .ref aId, .ref aPr, .ref aNa, .ref aSi, .ref aSe, .ref aIw, .ref aEx, .ref aOl, .int 0, .ref aPl, .int dr, .int 0, .ref aTa, .ref aAt, .ref aLo, .int 0, .int 0, .ref aS1, .ref aS2, .ref aS3, .ref aS4, .ref aS5, .ref aS6, .int 0, .ref aO1, .ref aO2, .ref aO3, .ref aO4, .ref aO5]))) (f_aPl : h aPl = some (.inl ((t 0), 163840, .inl gPl))) (hp9 : p9 = nI P9) (hk0 : k0 = nI K9) (hle : P9 + (K9 + K9) ≤ 163840) : Met l y_Mo_both (.code y_Mo_both b_Mo_both 4 none :: lw_g) { frames := 1, cells := 0, slots := 0, locals := 24 } (hP (kE D t G ak av) D vwCl G h [.ref mo, .int p9, .int k0, .int v9]) (hQv D vwCl G (fun h' => kp [aPl] h h' ∧ ∃ g : Nat → Int32, h' aPl = some (.inl ((t 0), 163840, .inl g)))) 0 0 G.P := by
  refine Met.ofW (cc := b_Mo_both) (maxL := 4) (ret := none) (by decide) rfl ?_
  intro p e s m args below meth c s₁ Bd hml hv
  obtain ⟨ha, hE, hH⟩ := hv
  have hx := Bd.exec
  have hb := Bd.bytes
  have hr := Bd.returns
  have hts : ∀ w ∈ lw_g, w.before args s = true := fun w hw => atoms_spec (ws := (.code y_Mo_both b_Mo_both 4 none :: lw_g)) Bd.pre w (List.mem_cons_of_mem _ hw)
  have hown : s.vm.findClass R_Mo = some m.cls := findClass_of_methodNamed Bd.named
  have hlocks := Bd.notSynchronized
  have hK := hE.1
  have hH0 := hH
  have hLo : hLc G.P [] := hLc_nil
  have hz : s.heap.size ≤ s.heap.size := Nat.le_refl _
  have hkp : kp [aPl] h h := kp_rf
  have hl := lv_entry [.ref mo, .int p9, .int k0, .int v9] (n := 4) (Nat.le_of_ble_eq_true rfl)
  rw [show entryFrame m args 4 = F0 m 0 ((lg_sl [.ref mo, .int p9, .int k0, .int v9] ++ List.replicate (4 - (lg_sl [.ref mo, .int p9, .int k0, .int v9]).length) Slot.unset).toArray) [] from (by rw [ha]; exact lg_entry_eq m [.ref mo, .int p9, .int k0, .int v9] 4)]
  generalize (lg_sl [.ref mo, .int p9, .int k0, .int v9] ++ List.replicate (4 - (lg_sl [.ref mo, .int p9, .int k0, .int v9]).length) Slot.unset).toArray = ls at hl ⊢
  have hl : lv_has ls 4 [(0, .ref mo), (1, .int p9), (2, .int k0), (3, .int v9)] := hl
  refine lv_aload_n hx hb d_Mo_both_0 rfl (lv_at hl 0 rfl) ?_
  refine lv_iload_n hx hb d_Mo_both_1 rfl (lv_at hl 1 rfl) ?_
  refine lv_iload_n hx hb d_Mo_both_2 rfl (lv_at hl 2 rfl) ?_
  refine lv_iload_n hx hb d_Mo_both_3 rfl (lv_at hl 3 rfl) ?_
  refine hm_callv (va_runV (As := [.int p9, .int k0, .int v9]) (b := mo) (rest := []) ⟨hx, hb, hml, hown, hts⟩ (c_m_low l D t G ak av h mo n aBy aSt aDe aPa aIt aId aPr aNa aSi aSe aIw aEx aOl aPl aTa aAt aLo aS1 aS2 aS3 aS4 aS5 aS6 aO1 aO2 aO3 aO4 aO5 dr wt gPl P9 K9 p9 k0 v9 f_m f_aPl hp9 hk0 (by omega)) ⟨cw9B 3 hts mw_488 mw_489 mw_428 rfl rfl (by decide +kernel) ⟨Nat.le_of_ble_eq_true rfl, Nat.le_of_ble_eq_true rfl⟩, hts _ mw_490, hts _ mw_491⟩ (hP_V (q := (R_Mo, F_Mo, 41)) kE_ok hE hK hH f_m rfl) rfl rfl hl.1 rfl (lv_room (Nat.le_of_ble_eq_true rfl)) d_Mo_both_4 ⟨Nat.le_of_ble_eq_true rfl, Nat.le_of_ble_eq_true rfl⟩) hLo (fun h1 H2 locs hp4 hH z3 hLo => ?_)
  have hz : s.heap.size ≤ H2.size := Nat.le_trans hz z3
  obtain ⟨hk9, g5, hg9⟩ := hp4
  have f_m : h1 mo = some (.inr (9, [.int 0, .int (nI n), .int 0, .ref aBy, .ref aSt, .ref aDe, .int 0, .int (-1), .int wt, .ref aPa, .int 1, .ref aIt, .ref aId, .ref aPr, .ref aNa, .ref aSi, .ref aSe, .ref aIw, .ref aEx, .ref aOl, .int 0, .ref aPl, .int dr, .int 0, .ref aTa, .ref aAt, .ref aLo, .int 0, .int 0, .ref aS1, .ref aS2, .ref aS3, .ref aS4, .ref aS5, .ref aS6, .int 0, .ref aO1, .ref aO2, .ref aO3, .ref aO4, .ref aO5])) := kp_at hk9 f_m (nmc (Ne.symm (h_neA f_aPl f_m)) nm0)
  have hkp : kp [aPl] h h1 := kp_tr2 hkp hk9 (List.forall_mem_cons.mpr ⟨Or.inl (by simp), List.forall_mem_nil _⟩)
  have f_aPl : h1 aPl = some (.inl ((t 0), 163840, .inl g5)) := hg9
  refine lv_aload_n hx hb d_Mo_both_7 rfl (lv_at hl 0 rfl) ?_
  refine lv_iload_n hx hb d_Mo_both_8 rfl (lv_at hl 1 rfl) ?_
  refine lv_iload_n hx hb d_Mo_both_9 rfl (lv_at hl 2 rfl) ?_
  refine lv_iadd hx hb d_Mo_both_10 ?_
  refine lv_iload_n hx hb d_Mo_both_11 rfl (lv_at hl 2 rfl) ?_
  refine lv_iload_n hx hb d_Mo_both_12 rfl (lv_at hl 3 rfl) ?_
  refine hm_callv (va_runV (As := [.int (p9 + k0), .int k0, .int v9]) (b := mo) (rest := []) ⟨hx, hb, hml, hown, hts⟩ (c_m_high l D t G ak av h1 mo n aBy aSt aDe aPa aIt aId aPr aNa aSi aSe aIw aEx aOl aPl aTa aAt aLo aS1 aS2 aS3 aS4 aS5 aS6 aO1 aO2 aO3 aO4 aO5 dr wt g5 (P9 + K9) K9 (p9 + k0) k0 v9 f_m f_aPl (by rw [hp9, hk0, nI_add]) hk0 (by omega)) ⟨cw9B 3 hts mw_492 mw_493 mw_428 rfl rfl (by decide +kernel) ⟨Nat.le_of_ble_eq_true rfl, Nat.le_of_ble_eq_true rfl⟩, hts _ mw_494, hts _ mw_495⟩ (hP_V (q := (R_Mo, F_Mo, 41)) kE_ok hE hK hH f_m rfl) rfl rfl hl.1 rfl (lv_room (Nat.le_of_ble_eq_true rfl)) d_Mo_both_13 ⟨Nat.le_of_ble_eq_true rfl, Nat.le_of_ble_eq_true rfl⟩) hLo (fun h6 H7 locs hp9 hH z8 hLo => ?_)
  have hz : s.heap.size ≤ H7.size := Nat.le_trans hz z8
  obtain ⟨hk9, g10, hg9⟩ := hp9
  have f_m : h6 mo = some (.inr (9, [.int 0, .int (nI n), .int 0, .ref aBy, .ref aSt, .ref aDe, .int 0, .int (-1), .int wt, .ref aPa, .int 1, .ref aIt, .ref aId, .ref aPr, .ref aNa, .ref aSi, .ref aSe, .ref aIw, .ref aEx, .ref aOl, .int 0, .ref aPl, .int dr, .int 0, .ref aTa, .ref aAt, .ref aLo, .int 0, .int 0, .ref aS1, .ref aS2, .ref aS3, .ref aS4, .ref aS5, .ref aS6, .int 0, .ref aO1, .ref aO2, .ref aO3, .ref aO4, .ref aO5])) := kp_at hk9 f_m (nmc (Ne.symm (h_neA f_aPl f_m)) nm0)
  have hkp : kp [aPl] h h6 := kp_tr2 hkp hk9 (List.forall_mem_cons.mpr ⟨Or.inl (by simp), List.forall_mem_nil _⟩)
  have f_aPl : h6 aPl = some (.inl ((t 0), 163840, .inl g10)) := hg9
  exact W.vret hx hb hr (fun t9 ht hW => ⟨h6, rfl, ⟨hkp, _, f_aPl⟩, by rw [ht]; exact hH, by rw [ht]; exact hz⟩) hLo d_Mo_both_16

set_option maxHeartbeats 4000000 in
set_option maxRecDepth 100000 in
theorem c_m_letters (l : Launch) (D : va_G) (t : Nat → ClassId) (G : hG) (ak av : Nat → Nat) (h : hM) (mo n aBy aSt aDe aPa aIt aId aPr aNa aSi aSe aIw aEx aOl aPl aTa aAt aLo aS1 aS2 aS3 aS4 aS5 aS6 aO1 aO2 aO3 aO4 aO5 : Nat) (dr wt : Int32) (gPl : Nat → Int32) (P9 : Nat) (p9 c1 c2 c3 c4 c5 : Int32) (f_m : h mo = some (.inr (9, [.int 0, .int (nI n), .int 0, .ref aBy, .ref aSt, .ref aDe, .int 0, .int (-1), .int wt, .ref aPa, .int 1, .ref aIt, .ref aId, .ref aPr, .ref aNa, .ref aSi, .ref aSe, .ref aIw, .ref aEx, .ref aOl, .int 0, .ref aPl, .int dr, .int 0, .ref aTa, .ref aAt, .ref aLo, .int 0, .int 0, .ref aS1, .ref aS2, .ref aS3, .ref aS4, .ref aS5, .ref aS6, .int 0, .ref aO1, .ref aO2, .ref aO3, .ref aO4, .ref aO5]))) (f_aPl : h aPl = some (.inl ((t 0), 163840, .inl gPl))) (hp9 : p9 = nI P9) (hle : P9 + 5 ≤ 163840) : Met l y_Mo_letters (.code y_Mo_letters b_Mo_letters 7 none :: lw_g) { frames := 0, cells := 0, slots := 0, locals := 0 } (hP (kE D t G ak av) D vwCl G h [.ref mo, .int p9, .int c1, .int c2, .int c3, .int c4, .int c5]) (hQv D vwCl G (fun h' => kp [aPl] h h' ∧ ∃ g : Nat → Int32, h' aPl = some (.inl ((t 0), 163840, .inl g)))) 0 0 G.P := by
  refine Met.ofW (cc := b_Mo_letters) (maxL := 7) (ret := none) (by decide) rfl ?_
  intro p e s m args below meth c s₁ Bd hml hv
  obtain ⟨ha, hE, hH⟩ := hv
  have hx := Bd.exec
  have hb := Bd.bytes
  have hr := Bd.returns
  have hts : ∀ w ∈ lw_g, w.before args s = true := fun w hw => atoms_spec (ws := (.code y_Mo_letters b_Mo_letters 7 none :: lw_g)) Bd.pre w (List.mem_cons_of_mem _ hw)
  have hown : s.vm.findClass R_Mo = some m.cls := findClass_of_methodNamed Bd.named
  have hlocks := Bd.notSynchronized
  have hK := hE.1
  have hH0 := hH
  have hLo : hLc G.P [] := hLc_nil
  have hz : s.heap.size ≤ s.heap.size := Nat.le_refl _
  have hkp : kp [aPl] h h := kp_rf
  have hl := lv_entry [.ref mo, .int p9, .int c1, .int c2, .int c3, .int c4, .int c5] (n := 7) (Nat.le_of_ble_eq_true rfl)
  rw [show entryFrame m args 7 = F0 m 0 ((lg_sl [.ref mo, .int p9, .int c1, .int c2, .int c3, .int c4, .int c5] ++ List.replicate (7 - (lg_sl [.ref mo, .int p9, .int c1, .int c2, .int c3, .int c4, .int c5]).length) Slot.unset).toArray) [] from (by rw [ha]; exact lg_entry_eq m [.ref mo, .int p9, .int c1, .int c2, .int c3, .int c4, .int c5] 7)]
  generalize (lg_sl [.ref mo, .int p9, .int c1, .int c2, .int c3, .int c4, .int c5] ++ List.replicate (7 - (lg_sl [.ref mo, .int p9, .int c1, .int c2, .int c3, .int c4, .int c5]).length) Slot.unset).toArray = ls at hl ⊢
  have hl : lv_has ls 7 [(0, .ref mo), (1, .int p9), (2, .int c1), (3, .int c2), (4, .int c3), (5, .int c4), (6, .int c5)] := hl
  subst hp9
  refine lv_aload_n hx hb d_Mo_letters_0 rfl (lv_at hl 0 rfl) ?_
  refine hm_get (ci := 9) (v := .ref aPl) (C := R_Mo) (T := F_Mo) (N := 41) hx hb hts ig_Mo hown hK hH f_m rfl 21 (by decide) (hts _ mw_410) (fun _ h9 => h9) rfl d_Mo_letters_1 ?_
  refine lv_iload_n hx hb d_Mo_letters_4 rfl (lv_at hl 1 rfl) ?_
  refine lv_iload_n hx hb d_Mo_letters_5 rfl (lv_at hl 2 rfl) ?_
  refine lv_i2b (v := c1.toInt8.toInt32) hx hb d_Mo_letters_6 rfl ?_
  refine hj_bast hx hb hK hH hLo 0 f_aPl rfl P9 rfl (by omega) (by decide) d_Mo_letters_7 (fun H1 locs hH z2 hLo => ?_)
  have hz : s.heap.size ≤ H1.size := by rw [z2]; exact hz
  obtain ⟨h3, e4⟩ : ∃ z, z = hu h aPl (.inl ((t 0), 163840, .inl (upd gPl P9 (vp_nar .byte c1.toInt8.toInt32)))) := ⟨_, rfl⟩
  have hH : hm D vwCl G h3 H1 := by rw [e4]; exact hH
  have f_m : h3 mo = some (.inr (9, [.int 0, .int (nI n), .int 0, .ref aBy, .ref aSt, .ref aDe, .int 0, .int (-1), .int wt, .ref aPa, .int 1, .ref aIt, .ref aId, .ref aPr, .ref aNa, .ref aSi, .ref aSe, .ref aIw, .ref aEx, .ref aOl, .int 0, .ref aPl, .int dr, .int 0, .ref aTa, .ref aAt, .ref aLo, .int 0, .int 0, .ref aS1, .ref aS2, .ref aS3, .ref aS4, .ref aS5, .ref aS6, .int 0, .ref aO1, .ref aO2, .ref aO3, .ref aO4, .ref aO5])) := by rw [e4, hu_n (Ne.symm (h_neA f_aPl f_m))]; exact f_m
  have f_aPl : h3 aPl = some (.inl ((t 0), 163840, .inl (upd gPl P9 (vp_nar .byte c1.toInt8.toInt32)))) := by rw [e4]; exact hu_s _ _ _
  have hkp : kp [aPl] h h3 := by rw [e4]; exact kp_put hkp (by simp)
  refine lv_aload_n hx hb d_Mo_letters_8 rfl (lv_at hl 0 rfl) ?_
  refine hm_get (ci := 9) (v := .ref aPl) (C := R_Mo) (T := F_Mo) (N := 41) hx hb hts ig_Mo hown hK hH f_m rfl 21 (by decide) (hts _ mw_410) (fun _ h9 => h9) rfl d_Mo_letters_9 ?_
  refine lv_iload_n hx hb d_Mo_letters_12 rfl (lv_at hl 1 rfl) ?_
  refine lv_iconst (v := 1) hx hb d_Mo_letters_13 (by decide) ?_
  refine lv_iadd hx hb d_Mo_letters_14 ?_
  refine lv_iload_n hx hb d_Mo_letters_15 rfl (lv_at hl 3 rfl) ?_
  refine lv_i2b (v := c2.toInt8.toInt32) hx hb d_Mo_letters_16 rfl ?_
  refine hj_bast hx hb hK hH hLo 0 f_aPl rfl (P9 + 1) (nI_add _ _) (by omega) (by decide) d_Mo_letters_17 (fun H5 locs hH z6 hLo => ?_)
  have hz : s.heap.size ≤ H5.size := by rw [z6]; exact hz
  obtain ⟨h7, e8⟩ : ∃ z, z = hu h3 aPl (.inl ((t 0), 163840, .inl (upd (upd gPl P9 (vp_nar .byte c1.toInt8.toInt32)) (P9 + 1) (vp_nar .byte c2.toInt8.toInt32)))) := ⟨_, rfl⟩
  have hH : hm D vwCl G h7 H5 := by rw [e8]; exact hH
  have f_m : h7 mo = some (.inr (9, [.int 0, .int (nI n), .int 0, .ref aBy, .ref aSt, .ref aDe, .int 0, .int (-1), .int wt, .ref aPa, .int 1, .ref aIt, .ref aId, .ref aPr, .ref aNa, .ref aSi, .ref aSe, .ref aIw, .ref aEx, .ref aOl, .int 0, .ref aPl, .int dr, .int 0, .ref aTa, .ref aAt, .ref aLo, .int 0, .int 0, .ref aS1, .ref aS2, .ref aS3, .ref aS4, .ref aS5, .ref aS6, .int 0, .ref aO1, .ref aO2, .ref aO3, .ref aO4, .ref aO5])) := by rw [e8, hu_n (Ne.symm (h_neA f_aPl f_m))]; exact f_m
  have f_aPl : h7 aPl = some (.inl ((t 0), 163840, .inl (upd (upd gPl P9 (vp_nar .byte c1.toInt8.toInt32)) (P9 + 1) (vp_nar .byte c2.toInt8.toInt32)))) := by rw [e8]; exact hu_s _ _ _
  have hkp : kp [aPl] h h7 := by rw [e8]; exact kp_put hkp (by simp)
  refine lv_aload_n hx hb d_Mo_letters_18 rfl (lv_at hl 0 rfl) ?_
  refine hm_get (ci := 9) (v := .ref aPl) (C := R_Mo) (T := F_Mo) (N := 41) hx hb hts ig_Mo hown hK hH f_m rfl 21 (by decide) (hts _ mw_410) (fun _ h9 => h9) rfl d_Mo_letters_19 ?_
  refine lv_iload_n hx hb d_Mo_letters_22 rfl (lv_at hl 1 rfl) ?_
  refine lv_iconst (v := 2) hx hb d_Mo_letters_23 (by decide) ?_
  refine lv_iadd hx hb d_Mo_letters_24 ?_
  refine lv_iload hx hb d_Mo_letters_25 (lv_at hl 4 rfl) ?_
  refine lv_i2b (v := c3.toInt8.toInt32) hx hb d_Mo_letters_27 rfl ?_
  refine hj_bast hx hb hK hH hLo 0 f_aPl rfl (P9 + 2) (nI_add _ _) (by omega) (by decide) d_Mo_letters_28 (fun H9 locs hH z10 hLo => ?_)
  have hz : s.heap.size ≤ H9.size := by rw [z10]; exact hz
  obtain ⟨h11, e12⟩ : ∃ z, z = hu h7 aPl (.inl ((t 0), 163840, .inl (upd (upd (upd gPl P9 (vp_nar .byte c1.toInt8.toInt32)) (P9 + 1) (vp_nar .byte c2.toInt8.toInt32)) (P9 + 2) (vp_nar .byte c3.toInt8.toInt32)))) := ⟨_, rfl⟩
  have hH : hm D vwCl G h11 H9 := by rw [e12]; exact hH
  have f_m : h11 mo = some (.inr (9, [.int 0, .int (nI n), .int 0, .ref aBy, .ref aSt, .ref aDe, .int 0, .int (-1), .int wt, .ref aPa, .int 1, .ref aIt, .ref aId, .ref aPr, .ref aNa, .ref aSi, .ref aSe, .ref aIw, .ref aEx, .ref aOl, .int 0, .ref aPl, .int dr, .int 0, .ref aTa, .ref aAt, .ref aLo, .int 0, .int 0, .ref aS1, .ref aS2, .ref aS3, .ref aS4, .ref aS5, .ref aS6, .int 0, .ref aO1, .ref aO2, .ref aO3, .ref aO4, .ref aO5])) := by rw [e12, hu_n (Ne.symm (h_neA f_aPl f_m))]; exact f_m
  have f_aPl : h11 aPl = some (.inl ((t 0), 163840, .inl (upd (upd (upd gPl P9 (vp_nar .byte c1.toInt8.toInt32)) (P9 + 1) (vp_nar .byte c2.toInt8.toInt32)) (P9 + 2) (vp_nar .byte c3.toInt8.toInt32)))) := by rw [e12]; exact hu_s _ _ _
  have hkp : kp [aPl] h h11 := by rw [e12]; exact kp_put hkp (by simp)
  refine lv_aload_n hx hb d_Mo_letters_29 rfl (lv_at hl 0 rfl) ?_
  refine hm_get (ci := 9) (v := .ref aPl) (C := R_Mo) (T := F_Mo) (N := 41) hx hb hts ig_Mo hown hK hH f_m rfl 21 (by decide) (hts _ mw_410) (fun _ h9 => h9) rfl d_Mo_letters_30 ?_
  refine lv_iload_n hx hb d_Mo_letters_33 rfl (lv_at hl 1 rfl) ?_
  refine lv_iconst (v := 3) hx hb d_Mo_letters_34 (by decide) ?_
  refine lv_iadd hx hb d_Mo_letters_35 ?_
  refine lv_iload hx hb d_Mo_letters_36 (lv_at hl 5 rfl) ?_
  refine lv_i2b (v := c4.toInt8.toInt32) hx hb d_Mo_letters_38 rfl ?_
  refine hj_bast hx hb hK hH hLo 0 f_aPl rfl (P9 + 3) (nI_add _ _) (by omega) (by decide) d_Mo_letters_39 (fun H13 locs hH z14 hLo => ?_)
  have hz : s.heap.size ≤ H13.size := by rw [z14]; exact hz
  obtain ⟨h15, e16⟩ : ∃ z, z = hu h11 aPl (.inl ((t 0), 163840, .inl (upd (upd (upd (upd gPl P9 (vp_nar .byte c1.toInt8.toInt32)) (P9 + 1) (vp_nar .byte c2.toInt8.toInt32)) (P9 + 2) (vp_nar .byte c3.toInt8.toInt32)) (P9 + 3) (vp_nar .byte c4.toInt8.toInt32)))) := ⟨_, rfl⟩
  have hH : hm D vwCl G h15 H13 := by rw [e16]; exact hH
  have f_m : h15 mo = some (.inr (9, [.int 0, .int (nI n), .int 0, .ref aBy, .ref aSt, .ref aDe, .int 0, .int (-1), .int wt, .ref aPa, .int 1, .ref aIt, .ref aId, .ref aPr, .ref aNa, .ref aSi, .ref aSe, .ref aIw, .ref aEx, .ref aOl, .int 0, .ref aPl, .int dr, .int 0, .ref aTa, .ref aAt, .ref aLo, .int 0, .int 0, .ref aS1, .ref aS2, .ref aS3, .ref aS4, .ref aS5, .ref aS6, .int 0, .ref aO1, .ref aO2, .ref aO3, .ref aO4, .ref aO5])) := by rw [e16, hu_n (Ne.symm (h_neA f_aPl f_m))]; exact f_m
  have f_aPl : h15 aPl = some (.inl ((t 0), 163840, .inl (upd (upd (upd (upd gPl P9 (vp_nar .byte c1.toInt8.toInt32)) (P9 + 1) (vp_nar .byte c2.toInt8.toInt32)) (P9 + 2) (vp_nar .byte c3.toInt8.toInt32)) (P9 + 3) (vp_nar .byte c4.toInt8.toInt32)))) := by rw [e16]; exact hu_s _ _ _
  have hkp : kp [aPl] h h15 := by rw [e16]; exact kp_put hkp (by simp)
  refine lv_aload_n hx hb d_Mo_letters_40 rfl (lv_at hl 0 rfl) ?_
  refine hm_get (ci := 9) (v := .ref aPl) (C := R_Mo) (T := F_Mo) (N := 41) hx hb hts ig_Mo hown hK hH f_m rfl 21 (by decide) (hts _ mw_410) (fun _ h9 => h9) rfl d_Mo_letters_41 ?_
  refine lv_iload_n hx hb d_Mo_letters_44 rfl (lv_at hl 1 rfl) ?_
  refine lv_iconst (v := 4) hx hb d_Mo_letters_45 (by decide) ?_
  refine lv_iadd hx hb d_Mo_letters_46 ?_
  refine lv_iload hx hb d_Mo_letters_47 (lv_at hl 6 rfl) ?_
  refine lv_i2b (v := c5.toInt8.toInt32) hx hb d_Mo_letters_49 rfl ?_
  refine hj_bast hx hb hK hH hLo 0 f_aPl rfl (P9 + 4) (nI_add _ _) (by omega) (by decide) d_Mo_letters_50 (fun H17 locs hH z18 hLo => ?_)
  have hz : s.heap.size ≤ H17.size := by rw [z18]; exact hz
  obtain ⟨h19, e20⟩ : ∃ z, z = hu h15 aPl (.inl ((t 0), 163840, .inl (upd (upd (upd (upd (upd gPl P9 (vp_nar .byte c1.toInt8.toInt32)) (P9 + 1) (vp_nar .byte c2.toInt8.toInt32)) (P9 + 2) (vp_nar .byte c3.toInt8.toInt32)) (P9 + 3) (vp_nar .byte c4.toInt8.toInt32)) (P9 + 4) (vp_nar .byte c5.toInt8.toInt32)))) := ⟨_, rfl⟩
  have hH : hm D vwCl G h19 H17 := by rw [e20]; exact hH
  have f_m : h19 mo = some (.inr (9, [.int 0, .int (nI n), .int 0, .ref aBy, .ref aSt, .ref aDe, .int 0, .int (-1), .int wt, .ref aPa, .int 1, .ref aIt, .ref aId, .ref aPr, .ref aNa, .ref aSi, .ref aSe, .ref aIw, .ref aEx, .ref aOl, .int 0, .ref aPl, .int dr, .int 0, .ref aTa, .ref aAt, .ref aLo, .int 0, .int 0, .ref aS1, .ref aS2, .ref aS3, .ref aS4, .ref aS5, .ref aS6, .int 0, .ref aO1, .ref aO2, .ref aO3, .ref aO4, .ref aO5])) := by rw [e20, hu_n (Ne.symm (h_neA f_aPl f_m))]; exact f_m
  have f_aPl : h19 aPl = some (.inl ((t 0), 163840, .inl (upd (upd (upd (upd (upd gPl P9 (vp_nar .byte c1.toInt8.toInt32)) (P9 + 1) (vp_nar .byte c2.toInt8.toInt32)) (P9 + 2) (vp_nar .byte c3.toInt8.toInt32)) (P9 + 3) (vp_nar .byte c4.toInt8.toInt32)) (P9 + 4) (vp_nar .byte c5.toInt8.toInt32)))) := by rw [e20]; exact hu_s _ _ _
  have hkp : kp [aPl] h h19 := by rw [e20]; exact kp_put hkp (by simp)
  exact W.vret hx hb hr (fun t9 ht hW => ⟨h19, rfl, ⟨hkp, _, f_aPl⟩, by rw [ht]; exact hH, by rw [ht]; exact hz⟩) hLo d_Mo_letters_51

set_option maxHeartbeats 4000000 in
set_option maxRecDepth 100000 in
theorem c_m_even (l : Launch) (D : va_G) (t : Nat → ClassId) (G : hG) (ak av : Nat → Nat) (h : hM) (x : Int32) : Met l y_Mo_even (.code y_Mo_even b_Mo_even 1 (some .int) :: lw_g) { frames := 0, cells := 0, slots := 0, locals := 0 } (hP (kE D t G ak av) D vwCl G h [.int x]) (hQi D vwCl G (fun r h' => r = x + (x - x / 2 * 2) ∧ h = h')) 0 0 G.P := by
  refine Met.ofW (cc := b_Mo_even) (maxL := 1) (ret := (some .int)) (by decide) rfl ?_
  intro p e s m args below meth c s₁ Bd hml hv
  obtain ⟨ha, hE, hH⟩ := hv
  have hx := Bd.exec
  have hb := Bd.bytes
  have hr := Bd.returns
  have hts : ∀ w ∈ lw_g, w.before args s = true := fun w hw => atoms_spec (ws := (.code y_Mo_even b_Mo_even 1 (some .int) :: lw_g)) Bd.pre w (List.mem_cons_of_mem _ hw)
  have hown : s.vm.findClass R_Mo = some m.cls := findClass_of_methodNamed Bd.named
  have hlocks := Bd.notSynchronized
  have hK := hE.1
  have hH0 := hH
  have hLo : hLc G.P [] := hLc_nil
  have hz : s.heap.size ≤ s.heap.size := Nat.le_refl _
  have hkp : kp [] h h := kp_rf
  have hl := lv_entry [.int x] (n := 1) (Nat.le_of_ble_eq_true rfl)
  rw [show entryFrame m args 1 = F0 m 0 ((lg_sl [.int x] ++ List.replicate (1 - (lg_sl [.int x]).length) Slot.unset).toArray) [] from (by rw [ha]; exact lg_entry_eq m [.int x] 1)]
  generalize (lg_sl [.int x] ++ List.replicate (1 - (lg_sl [.int x]).length) Slot.unset).toArray = ls at hl ⊢
  have hl : lv_has ls 1 [(0, .int x)] := hl
  refine lv_iload_n hx hb d_Mo_even_0 rfl (lv_at hl 0 rfl) ?_
  refine lv_iload_n hx hb d_Mo_even_1 rfl (lv_at hl 0 rfl) ?_
  refine lv_iconst (v := 2) hx hb d_Mo_even_2 (by decide) ?_
  refine lv_irem hx hb d_Mo_even_3 (by decide) ?_
  refine lv_iadd hx hb d_Mo_even_4 ?_
  exact W.iret (v := x + (x - x / 2 * 2)) hx hb hr (fun t9 ht hW => ⟨x + (x - x / 2 * 2), h, rfl, ⟨rfl, rfl⟩, by rw [ht]; exact hH, by rw [ht]; exact hz⟩) hLo d_Mo_even_5

set_option maxHeartbeats 4000000 in
set_option maxRecDepth 100000 in
theorem c_m_recordId (l : Launch) (D : va_G) (t : Nat → ClassId) (G : hG) (ak av : Nat → Nat) (h : hM) (mo : Nat) (so kk : Int32) (hso : ¬ (2 : Int32) ≤ so) : Met l y_Mo_recordId (.code y_Mo_recordId b_Mo_recordId 3 (some .int) :: lw_g) { frames := 0, cells := 0, slots := 0, locals := 0 } (hP (kE D t G ak av) D vwCl G h [.ref mo, .int so, .int kk]) (hQi D vwCl G (fun r h' => r = 1 ∧ h = h')) 0 0 G.P := by
  refine Met.ofW (cc := b_Mo_recordId) (maxL := 3) (ret := (some .int)) (by decide) rfl ?_
  intro p e s m args below meth c s₁ Bd hml hv
  obtain ⟨ha, hE, hH⟩ := hv
  have hx := Bd.exec
  have hb := Bd.bytes
  have hr := Bd.returns
  have hts : ∀ w ∈ lw_g, w.before args s = true := fun w hw => atoms_spec (ws := (.code y_Mo_recordId b_Mo_recordId 3 (some .int) :: lw_g)) Bd.pre w (List.mem_cons_of_mem _ hw)
  have hown : s.vm.findClass R_Mo = some m.cls := findClass_of_methodNamed Bd.named
  have hlocks := Bd.notSynchronized
  have hK := hE.1
  have hH0 := hH
  have hLo : hLc G.P [] := hLc_nil
  have hz : s.heap.size ≤ s.heap.size := Nat.le_refl _
  have hkp : kp [] h h := kp_rf
  have hl := lv_entry [.ref mo, .int so, .int kk] (n := 3) (Nat.le_of_ble_eq_true rfl)
  rw [show entryFrame m args 3 = F0 m 0 ((lg_sl [.ref mo, .int so, .int kk] ++ List.replicate (3 - (lg_sl [.ref mo, .int so, .int kk]).length) Slot.unset).toArray) [] from (by rw [ha]; exact lg_entry_eq m [.ref mo, .int so, .int kk] 3)]
  generalize (lg_sl [.ref mo, .int so, .int kk] ++ List.replicate (3 - (lg_sl [.ref mo, .int so, .int kk]).length) Slot.unset).toArray = ls at hl ⊢
  have hl : lv_has ls 3 [(0, .ref mo), (1, .int so), (2, .int kk)] := hl
  refine lv_iload_n hx hb d_Mo_recordId_0 rfl (lv_at hl 1 rfl) ?_
  refine lv_iconst (v := 2) hx hb d_Mo_recordId_1 (by decide) ?_
  refine lv_icmp_ge (tgt := 9) hx hb d_Mo_recordId_2 (by decide) (fun hc1 => absurd hc1 hso) (fun hc1 => ?_)
  refine lv_iconst (v := 1) hx hb d_Mo_recordId_5 (by decide) ?_
  refine lv_goto (tgt := 24) hx hb d_Mo_recordId_6 (by decide) ?_
  exact W.iret (v := 1) hx hb hr (fun t9 ht hW => ⟨1, h, rfl, ⟨rfl, rfl⟩, by rw [ht]; exact hH, by rw [ht]; exact hz⟩) hLo d_Mo_recordId_24

set_option maxHeartbeats 4000000 in
set_option maxRecDepth 100000 in
theorem c_m_record (l : Launch) (D : va_G) (t : Nat → ClassId) (G : hG) (ak av : Nat → Nat) (h : hM) (mo n aBy aSt aDe aPa aIt aId aPr aNa aSi aSe aIw aEx aOl aPl aTa aAt aLo aS1 aS2 aS3 aS4 aS5 aS6 aO1 aO2 aO3 aO4 aO5 : Nat) (dr wt : Int32) (gPl gId gAt gLo : Nat → Int32) (P9 : Nat) (p9 so : Int32) (f_m : h mo = some (.inr (9, [.int 0, .int (nI n), .int 0, .ref aBy, .ref aSt, .ref aDe, .int 0, .int (-1), .int wt, .ref aPa, .int 1, .ref aIt, .ref aId, .ref aPr, .ref aNa, .ref aSi, .ref aSe, .ref aIw, .ref aEx, .ref aOl, .int 0, .ref aPl, .int dr, .int 0, .ref aTa, .ref aAt, .ref aLo, .int 0, .int 0, .ref aS1, .ref aS2, .ref aS3, .ref aS4, .ref aS5, .ref aS6, .int 0, .ref aO1, .ref aO2, .ref aO3, .ref aO4, .ref aO5]))) (f_aPl : h aPl = some (.inl ((t 0), 163840, .inl gPl))) (f_aId : h aId = some (.inl ((t 1), 700, .inl gId))) (f_aAt : h aAt = some (.inl ((t 2), 700, .inl gAt))) (f_aLo : h aLo = some (.inl ((t 2), 700, .inl gLo))) (zId : gId 0 = 1) (hso : ¬ (2 : Int32) ≤ so) (hp9 : p9 = nI P9) (hle : P9 + 34 ≤ 163840) (ne_aId_aAt : aId ≠ aAt) (ne_aId_aLo : aId ≠ aLo) (ne_aAt_aLo : aAt ≠ aLo) : Met l y_Mo_record (.code y_Mo_record b_Mo_record 6 none :: lw_g) { frames := 2, cells := 0, slots := 0, locals := 47 } (hP (kE D t G ak av) D vwCl G h [.ref mo, .int p9, .int so, .int 0]) (hQv D vwCl G (fun h' => kp [aPl] h h' ∧ ∃ g : Nat → Int32, h' aPl = some (.inl ((t 0), 163840, .inl g)))) 0 0 G.P := by
  refine Met.ofW (cc := b_Mo_record) (maxL := 6) (ret := none) (by decide) rfl ?_
  intro p e s m args below meth c s₁ Bd hml hv
  obtain ⟨ha, hE, hH⟩ := hv
  have hx := Bd.exec
  have hb := Bd.bytes
  have hr := Bd.returns
  have hts : ∀ w ∈ lw_g, w.before args s = true := fun w hw => atoms_spec (ws := (.code y_Mo_record b_Mo_record 6 none :: lw_g)) Bd.pre w (List.mem_cons_of_mem _ hw)
  have hown : s.vm.findClass R_Mo = some m.cls := findClass_of_methodNamed Bd.named
  have hlocks := Bd.notSynchronized
  have hK := hE.1
  have hH0 := hH
  have hLo : hLc G.P [] := hLc_nil
  have hz : s.heap.size ≤ s.heap.size := Nat.le_refl _
  have hkp : kp [aPl] h h := kp_rf
  have hl := lv_entry [.ref mo, .int p9, .int so, .int 0] (n := 6) (Nat.le_of_ble_eq_true rfl)
  rw [show entryFrame m args 6 = F0 m 0 ((lg_sl [.ref mo, .int p9, .int so, .int 0] ++ List.replicate (6 - (lg_sl [.ref mo, .int p9, .int so, .int 0]).length) Slot.unset).toArray) [] from (by rw [ha]; exact lg_entry_eq m [.ref mo, .int p9, .int so, .int 0] 6)]
  generalize (lg_sl [.ref mo, .int p9, .int so, .int 0] ++ List.replicate (6 - (lg_sl [.ref mo, .int p9, .int so, .int 0]).length) Slot.unset).toArray = ls at hl ⊢
  have hl : lv_has ls 6 [(0, .ref mo), (1, .int p9), (2, .int so), (3, .int 0)] := hl
  subst hp9
  refine lv_aload_n hx hb d_Mo_record_0 rfl (lv_at hl 0 rfl) ?_
  refine lv_iload_n hx hb d_Mo_record_1 rfl (lv_at hl 2 rfl) ?_
  refine lv_iload_n hx hb d_Mo_record_2 rfl (lv_at hl 3 rfl) ?_
  refine hm_calli (va_runV (As := [.int so, .int 0]) (b := mo) (rest := []) ⟨hx, hb, hml, hown, hts⟩ (c_m_recordId l D t G ak av h mo so 0 hso) ⟨cw9B 2 hts mw_496 mw_497 mw_428 rfl rfl (by decide +kernel) ⟨Nat.le_of_ble_eq_true rfl, Nat.le_of_ble_eq_true rfl⟩, hts _ mw_498, hts _ mw_499⟩ (hP_V (q := (R_Mo, F_Mo, 41)) kE_ok hE hK hH f_m rfl) rfl rfl hl.1 rfl (lv_room (Nat.le_of_ble_eq_true rfl)) d_Mo_record_3 ⟨Nat.le_of_ble_eq_true rfl, Nat.le_of_ble_eq_true rfl⟩) hLo (fun r1 h2 H3 locs hp5 hH z4 hLo => ?_)
  have hz : s.heap.size ≤ H3.size := Nat.le_trans hz z4
  obtain ⟨rfl, rfl⟩ := hp5
  refine lv_istore (lv' := [(4, .int 1), (0, .ref mo), (1, .int (nI P9)), (2, .int so), (3, .int 0)]) hx hb d_Mo_record_6 hl (by decide) rfl (fun ls hl => ?_)
  refine lv_aload_n hx hb d_Mo_record_8 rfl (lv_at hl 1 rfl) ?_
  refine hm_get (ci := 9) (v := .ref aPl) (C := R_Mo) (T := F_Mo) (N := 41) hx hb hts ig_Mo hown hK hH f_m rfl 21 (by decide) (hts _ mw_410) (fun _ h9 => h9) rfl d_Mo_record_9 ?_
  refine lv_iload_n hx hb d_Mo_record_12 rfl (lv_at hl 2 rfl) ?_
  refine lv_bipush (v := 33) hx hb d_Mo_record_13 (by decide) ?_
  refine lv_iload hx hb d_Mo_record_15 (lv_at hl 0 rfl) ?_
  refine lv_iadd hx hb d_Mo_record_17 ?_
  refine hm_calli (va_runS (As := [.int (33 + 1)]) (rest := [.int (nI P9), .ref aPl]) ⟨hx, hb, hml, hown, hts⟩ (c_m_even l D t G ak av h (33 + 1)) ⟨cw9B 1 hts mw_500 mw_501 mw_428 rfl rfl (by decide +kernel) ⟨Nat.le_of_ble_eq_true rfl, Nat.le_of_ble_eq_true rfl⟩, hts _ mw_502⟩ (hP_S kE_ok hE hH) rfl rfl hl.1 rfl (lv_room (Nat.le_of_ble_eq_true rfl)) d_Mo_record_18 ⟨Nat.le_of_ble_eq_true rfl, Nat.le_of_ble_eq_true rfl⟩) hLo (fun r6 h7 H8 locs hp10 hH z9 hLo => ?_)
  have hz : s.heap.size ≤ H8.size := Nat.le_trans hz z9
  obtain ⟨rfl, rfl⟩ := hp10
  refine lv_i2b (v := (33 + 1 + (33 + 1 - (33 + 1) / 2 * 2)).toInt8.toInt32) hx hb d_Mo_record_21 rfl ?_
  refine hj_bast hx hb hK hH hLo 0 f_aPl rfl P9 rfl (by omega) (by decide) d_Mo_record_22 (fun H11 locs hH z12 hLo => ?_)
  have hz : s.heap.size ≤ H11.size := by rw [z12]; exact hz
  obtain ⟨h13, e14⟩ : ∃ z, z = hu h aPl (.inl ((t 0), 163840, .inl (upd gPl P9 (vp_nar .byte ((33 + 1 + (33 + 1 - (33 + 1) / 2 * 2)).toInt8.toInt32))))) := ⟨_, rfl⟩
  have hH : hm D vwCl G h13 H11 := by rw [e14]; exact hH
  have f_m : h13 mo = some (.inr (9, [.int 0, .int (nI n), .int 0, .ref aBy, .ref aSt, .ref aDe, .int 0, .int (-1), .int wt, .ref aPa, .int 1, .ref aIt, .ref aId, .ref aPr, .ref aNa, .ref aSi, .ref aSe, .ref aIw, .ref aEx, .ref aOl, .int 0, .ref aPl, .int dr, .int 0, .ref aTa, .ref aAt, .ref aLo, .int 0, .int 0, .ref aS1, .ref aS2, .ref aS3, .ref aS4, .ref aS5, .ref aS6, .int 0, .ref aO1, .ref aO2, .ref aO3, .ref aO4, .ref aO5])) := by rw [e14, hu_n (Ne.symm (h_neA f_aPl f_m))]; exact f_m
  have f_aId : h13 aId = some (.inl ((t 1), 700, .inl gId)) := by rw [e14, hu_n (h_neL (k1 := 700) (k2 := 163840) f_aId f_aPl rfl rfl (by omega))]; exact f_aId
  have f_aAt : h13 aAt = some (.inl ((t 2), 700, .inl gAt)) := by rw [e14, hu_n (h_neL (k1 := 700) (k2 := 163840) f_aAt f_aPl rfl rfl (by omega))]; exact f_aAt
  have f_aLo : h13 aLo = some (.inl ((t 2), 700, .inl gLo)) := by rw [e14, hu_n (h_neL (k1 := 700) (k2 := 163840) f_aLo f_aPl rfl rfl (by omega))]; exact f_aLo
  have f_aPl : h13 aPl = some (.inl ((t 0), 163840, .inl (upd gPl P9 (vp_nar .byte ((33 + 1 + (33 + 1 - (33 + 1) / 2 * 2)).toInt8.toInt32))))) := by rw [e14]; exact hu_s _ _ _
  have hkp : kp [aPl] h h13 := by rw [e14]; exact kp_put hkp (by simp)
  refine lv_aload_n hx hb d_Mo_record_23 rfl (lv_at hl 1 rfl) ?_
  refine lv_iload_n hx hb d_Mo_record_24 rfl (lv_at hl 2 rfl) ?_
  refine lv_iconst (v := 2) hx hb d_Mo_record_25 (by decide) ?_
  refine lv_iadd hx hb d_Mo_record_26 ?_
  refine lv_iconst (v := 4) hx hb d_Mo_record_27 (by decide) ?_
  refine lv_aload_n hx hb d_Mo_record_28 rfl (lv_at hl 1 rfl) ?_
  refine hm_get (ci := 9) (v := .ref aId) (C := R_Mo) (T := F_Mo) (N := 41) hx hb hts ig_Mo hown hK hH f_m rfl 12 (by decide) (hts _ mw_392) (fun _ h9 => h9) rfl d_Mo_record_29 ?_
  refine lv_iload_n hx hb d_Mo_record_32 rfl (lv_at hl 4 rfl) ?_
  refine hj_zald hx hb hK hH 1 f_aId rfl 0 (by decide) (by decide) (by decide) d_Mo_record_33 ?_
  refine lv_if_eq (tgt := 46) hx hb d_Mo_record_34 (by decide) (fun hc15 => absurd hc15 (by rw [zId]; decide)) (fun hc15 => ?_)
  refine lv_aload_n hx hb d_Mo_record_37 rfl (lv_at hl 1 rfl) ?_
  refine hm_get (ci := 9) (v := .ref aAt) (C := R_Mo) (T := F_Mo) (N := 41) hx hb hts ig_Mo hown hK hH f_m rfl 25 (by decide) (hts _ mw_412) (fun _ h9 => h9) rfl d_Mo_record_38 ?_
  refine lv_iload_n hx hb d_Mo_record_41 rfl (lv_at hl 4 rfl) ?_
  refine hj_iald hx hb hK hH 2 f_aAt rfl 0 (by decide) (by decide) (by decide) d_Mo_record_42 ?_
  refine lv_goto (tgt := 52) hx hb d_Mo_record_43 (by decide) ?_
  refine hm_callv (va_runV (As := [.int ((nI P9) + 2), .int 4, .int (gAt 0)]) (b := mo) (rest := []) ⟨hx, hb, hml, hown, hts⟩ (c_m_both l D t G ak av h13 mo n aBy aSt aDe aPa aIt aId aPr aNa aSi aSe aIw aEx aOl aPl aTa aAt aLo aS1 aS2 aS3 aS4 aS5 aS6 aO1 aO2 aO3 aO4 aO5 dr wt (upd gPl P9 (vp_nar .byte ((33 + 1 + (33 + 1 - (33 + 1) / 2 * 2)).toInt8.toInt32))) (P9 + 2) 4 (nI P9 + 2) 4 (gAt 0) f_m f_aPl (nI_add _ _) rfl (by omega)) ⟨cw9B 3 hts mw_503 mw_504 mw_428 rfl rfl (by decide +kernel) ⟨Nat.le_of_ble_eq_true rfl, Nat.le_of_ble_eq_true rfl⟩, hts _ mw_505, hts _ mw_506⟩ (hP_V (q := (R_Mo, F_Mo, 41)) kE_ok hE hK hH f_m rfl) rfl rfl hl.1 rfl (lv_room (Nat.le_of_ble_eq_true rfl)) d_Mo_record_52 ⟨Nat.le_of_ble_eq_true rfl, Nat.le_of_ble_eq_true rfl⟩) hLo (fun h16 H17 locs hp19 hH z18 hLo => ?_)
  have hz : s.heap.size ≤ H17.size := Nat.le_trans hz z18
  obtain ⟨hk9, g20, hg9⟩ := hp19
  have f_m : h16 mo = some (.inr (9, [.int 0, .int (nI n), .int 0, .ref aBy, .ref aSt, .ref aDe, .int 0, .int (-1), .int wt, .ref aPa, .int 1, .ref aIt, .ref aId, .ref aPr, .ref aNa, .ref aSi, .ref aSe, .ref aIw, .ref aEx, .ref aOl, .int 0, .ref aPl, .int dr, .int 0, .ref aTa, .ref aAt, .ref aLo, .int 0, .int 0, .ref aS1, .ref aS2, .ref aS3, .ref aS4, .ref aS5, .ref aS6, .int 0, .ref aO1, .ref aO2, .ref aO3, .ref aO4, .ref aO5])) := kp_at hk9 f_m (nmc (Ne.symm (h_neA f_aPl f_m)) nm0)
  have f_aId : h16 aId = some (.inl ((t 1), 700, .inl gId)) := kp_at hk9 f_aId (nmc (h_neL (k1 := 700) (k2 := 163840) f_aId f_aPl rfl rfl (by omega)) nm0)
  have f_aAt : h16 aAt = some (.inl ((t 2), 700, .inl gAt)) := kp_at hk9 f_aAt (nmc (h_neL (k1 := 700) (k2 := 163840) f_aAt f_aPl rfl rfl (by omega)) nm0)
  have f_aLo : h16 aLo = some (.inl ((t 2), 700, .inl gLo)) := kp_at hk9 f_aLo (nmc (h_neL (k1 := 700) (k2 := 163840) f_aLo f_aPl rfl rfl (by omega)) nm0)
  have hkp : kp [aPl] h h16 := kp_tr2 hkp hk9 (List.forall_mem_cons.mpr ⟨Or.inl (by simp), List.forall_mem_nil _⟩)
  have f_aPl : h16 aPl = some (.inl ((t 0), 163840, .inl g20)) := hg9
  refine lv_aload_n hx hb d_Mo_record_55 rfl (lv_at hl 1 rfl) ?_
  refine lv_iload_n hx hb d_Mo_record_56 rfl (lv_at hl 2 rfl) ?_
  refine lv_bipush (v := 10) hx hb d_Mo_record_57 (by decide) ?_
  refine lv_iadd hx hb d_Mo_record_59 ?_
  refine lv_iconst (v := 4) hx hb d_Mo_record_60 (by decide) ?_
  refine lv_aload_n hx hb d_Mo_record_61 rfl (lv_at hl 1 rfl) ?_
  refine hm_get (ci := 9) (v := .ref aId) (C := R_Mo) (T := F_Mo) (N := 41) hx hb hts ig_Mo hown hK hH f_m rfl 12 (by decide) (hts _ mw_392) (fun _ h9 => h9) rfl d_Mo_record_62 ?_
  refine lv_iload_n hx hb d_Mo_record_65 rfl (lv_at hl 4 rfl) ?_
  refine hj_zald hx hb hK hH 1 f_aId rfl 0 (by decide) (by decide) (by decide) d_Mo_record_66 ?_
  refine lv_if_eq (tgt := 83) hx hb d_Mo_record_67 (by decide) (fun hc21 => absurd hc21 (by rw [zId]; decide)) (fun hc21 => ?_)
  refine lv_sipush (v := 2048) hx hb d_Mo_record_70 (by decide) ?_
  refine lv_aload_n hx hb d_Mo_record_73 rfl (lv_at hl 1 rfl) ?_
  refine hm_get (ci := 9) (v := .ref aLo) (C := R_Mo) (T := F_Mo) (N := 41) hx hb hts ig_Mo hown hK hH f_m rfl 26 (by decide) (hts _ mw_413) (fun _ h9 => h9) rfl d_Mo_record_74 ?_
  refine lv_iload_n hx hb d_Mo_record_77 rfl (lv_at hl 4 rfl) ?_
  refine hj_iald hx hb hK hH 2 f_aLo rfl 0 (by decide) (by decide) (by decide) d_Mo_record_78 ?_
  refine lv_imul hx hb d_Mo_record_79 ?_
  refine lv_goto (tgt := 89) hx hb d_Mo_record_80 (by decide) ?_
  refine hm_callv (va_runV (As := [.int ((nI P9) + 10), .int 4, .int (2048 * (gLo 0))]) (b := mo) (rest := []) ⟨hx, hb, hml, hown, hts⟩ (c_m_both l D t G ak av h16 mo n aBy aSt aDe aPa aIt aId aPr aNa aSi aSe aIw aEx aOl aPl aTa aAt aLo aS1 aS2 aS3 aS4 aS5 aS6 aO1 aO2 aO3 aO4 aO5 dr wt g20 (P9 + 10) 4 (nI P9 + 10) 4 (2048 * gLo 0) f_m f_aPl (nI_add _ _) rfl (by omega)) ⟨cw9B 3 hts mw_503 mw_504 mw_428 rfl rfl (by decide +kernel) ⟨Nat.le_of_ble_eq_true rfl, Nat.le_of_ble_eq_true rfl⟩, hts _ mw_505, hts _ mw_506⟩ (hP_V (q := (R_Mo, F_Mo, 41)) kE_ok hE hK hH f_m rfl) rfl rfl hl.1 rfl (lv_room (Nat.le_of_ble_eq_true rfl)) d_Mo_record_89 ⟨Nat.le_of_ble_eq_true rfl, Nat.le_of_ble_eq_true rfl⟩) hLo (fun h22 H23 locs hp25 hH z24 hLo => ?_)
  have hz : s.heap.size ≤ H23.size := Nat.le_trans hz z24
  obtain ⟨hk9, g26, hg9⟩ := hp25
  have f_m : h22 mo = some (.inr (9, [.int 0, .int (nI n), .int 0, .ref aBy, .ref aSt, .ref aDe, .int 0, .int (-1), .int wt, .ref aPa, .int 1, .ref aIt, .ref aId, .ref aPr, .ref aNa, .ref aSi, .ref aSe, .ref aIw, .ref aEx, .ref aOl, .int 0, .ref aPl, .int dr, .int 0, .ref aTa, .ref aAt, .ref aLo, .int 0, .int 0, .ref aS1, .ref aS2, .ref aS3, .ref aS4, .ref aS5, .ref aS6, .int 0, .ref aO1, .ref aO2, .ref aO3, .ref aO4, .ref aO5])) := kp_at hk9 f_m (nmc (Ne.symm (h_neA f_aPl f_m)) nm0)
  have f_aId : h22 aId = some (.inl ((t 1), 700, .inl gId)) := kp_at hk9 f_aId (nmc (h_neL (k1 := 700) (k2 := 163840) f_aId f_aPl rfl rfl (by omega)) nm0)
  have f_aAt : h22 aAt = some (.inl ((t 2), 700, .inl gAt)) := kp_at hk9 f_aAt (nmc (h_neL (k1 := 700) (k2 := 163840) f_aAt f_aPl rfl rfl (by omega)) nm0)
  have f_aLo : h22 aLo = some (.inl ((t 2), 700, .inl gLo)) := kp_at hk9 f_aLo (nmc (h_neL (k1 := 700) (k2 := 163840) f_aLo f_aPl rfl rfl (by omega)) nm0)
  have hkp : kp [aPl] h h22 := kp_tr2 hkp hk9 (List.forall_mem_cons.mpr ⟨Or.inl (by simp), List.forall_mem_nil _⟩)
  have f_aPl : h22 aPl = some (.inl ((t 0), 163840, .inl g26)) := hg9
  refine lv_aload_n hx hb d_Mo_record_92 rfl (lv_at hl 1 rfl) ?_
  refine hm_get (ci := 9) (v := .ref aPl) (C := R_Mo) (T := F_Mo) (N := 41) hx hb hts ig_Mo hown hK hH f_m rfl 21 (by decide) (hts _ mw_410) (fun _ h9 => h9) rfl d_Mo_record_93 ?_
  refine lv_iload_n hx hb d_Mo_record_96 rfl (lv_at hl 2 rfl) ?_
  refine lv_bipush (v := 25) hx hb d_Mo_record_97 (by decide) ?_
  refine lv_iadd hx hb d_Mo_record_99 ?_
  refine lv_aload_n hx hb d_Mo_record_100 rfl (lv_at hl 1 rfl) ?_
  refine hm_get (ci := 9) (v := .ref aId) (C := R_Mo) (T := F_Mo) (N := 41) hx hb hts ig_Mo hown hK hH f_m rfl 12 (by decide) (hts _ mw_392) (fun _ h9 => h9) rfl d_Mo_record_101 ?_
  refine lv_iload_n hx hb d_Mo_record_104 rfl (lv_at hl 4 rfl) ?_
  refine hj_zald hx hb hK hH 1 f_aId rfl 0 (by decide) (by decide) (by decide) d_Mo_record_105 ?_
  refine lv_if_eq (tgt := 113) hx hb d_Mo_record_106 (by decide) (fun hc27 => absurd hc27 (by rw [zId]; decide)) (fun hc27 => ?_)
  refine lv_iconst (v := 2) hx hb d_Mo_record_109 (by decide) ?_
  refine lv_goto (tgt := 114) hx hb d_Mo_record_110 (by decide) ?_
  refine lv_i2b (v := (2 : Int32).toInt8.toInt32) hx hb d_Mo_record_114 rfl ?_
  refine hj_bast hx hb hK hH hLo 0 f_aPl rfl (P9 + 25) (nI_add _ _) (by omega) (by decide) d_Mo_record_115 (fun H28 locs hH z29 hLo => ?_)
  have hz : s.heap.size ≤ H28.size := by rw [z29]; exact hz
  obtain ⟨h30, e31⟩ : ∃ z, z = hu h22 aPl (.inl ((t 0), 163840, .inl (upd g26 (P9 + 25) (vp_nar .byte ((2 : Int32).toInt8.toInt32))))) := ⟨_, rfl⟩
  have hH : hm D vwCl G h30 H28 := by rw [e31]; exact hH
  have f_m : h30 mo = some (.inr (9, [.int 0, .int (nI n), .int 0, .ref aBy, .ref aSt, .ref aDe, .int 0, .int (-1), .int wt, .ref aPa, .int 1, .ref aIt, .ref aId, .ref aPr, .ref aNa, .ref aSi, .ref aSe, .ref aIw, .ref aEx, .ref aOl, .int 0, .ref aPl, .int dr, .int 0, .ref aTa, .ref aAt, .ref aLo, .int 0, .int 0, .ref aS1, .ref aS2, .ref aS3, .ref aS4, .ref aS5, .ref aS6, .int 0, .ref aO1, .ref aO2, .ref aO3, .ref aO4, .ref aO5])) := by rw [e31, hu_n (Ne.symm (h_neA f_aPl f_m))]; exact f_m
  have f_aId : h30 aId = some (.inl ((t 1), 700, .inl gId)) := by rw [e31, hu_n (h_neL (k1 := 700) (k2 := 163840) f_aId f_aPl rfl rfl (by omega))]; exact f_aId
  have f_aAt : h30 aAt = some (.inl ((t 2), 700, .inl gAt)) := by rw [e31, hu_n (h_neL (k1 := 700) (k2 := 163840) f_aAt f_aPl rfl rfl (by omega))]; exact f_aAt
  have f_aLo : h30 aLo = some (.inl ((t 2), 700, .inl gLo)) := by rw [e31, hu_n (h_neL (k1 := 700) (k2 := 163840) f_aLo f_aPl rfl rfl (by omega))]; exact f_aLo
  have f_aPl : h30 aPl = some (.inl ((t 0), 163840, .inl (upd g26 (P9 + 25) (vp_nar .byte ((2 : Int32).toInt8.toInt32))))) := by rw [e31]; exact hu_s _ _ _
  have hkp : kp [aPl] h h30 := by rw [e31]; exact kp_put hkp (by simp)
  refine lv_aload_n hx hb d_Mo_record_116 rfl (lv_at hl 1 rfl) ?_
  refine lv_iload_n hx hb d_Mo_record_117 rfl (lv_at hl 2 rfl) ?_
  refine lv_bipush (v := 28) hx hb d_Mo_record_118 (by decide) ?_
  refine lv_iadd hx hb d_Mo_record_120 ?_
  refine lv_iconst (v := 2) hx hb d_Mo_record_121 (by decide) ?_
  refine lv_iconst (v := 1) hx hb d_Mo_record_122 (by decide) ?_
  refine hm_callv (va_runV (As := [.int ((nI P9) + 28), .int 2, .int 1]) (b := mo) (rest := []) ⟨hx, hb, hml, hown, hts⟩ (c_m_both l D t G ak av h30 mo n aBy aSt aDe aPa aIt aId aPr aNa aSi aSe aIw aEx aOl aPl aTa aAt aLo aS1 aS2 aS3 aS4 aS5 aS6 aO1 aO2 aO3 aO4 aO5 dr wt (upd g26 (P9 + 25) (vp_nar .byte ((2 : Int32).toInt8.toInt32))) (P9 + 28) 2 (nI P9 + 28) 2 1 f_m f_aPl (nI_add _ _) rfl (by omega)) ⟨cw9B 3 hts mw_503 mw_504 mw_428 rfl rfl (by decide +kernel) ⟨Nat.le_of_ble_eq_true rfl, Nat.le_of_ble_eq_true rfl⟩, hts _ mw_505, hts _ mw_506⟩ (hP_V (q := (R_Mo, F_Mo, 41)) kE_ok hE hK hH f_m rfl) rfl rfl hl.1 rfl (lv_room (Nat.le_of_ble_eq_true rfl)) d_Mo_record_123 ⟨Nat.le_of_ble_eq_true rfl, Nat.le_of_ble_eq_true rfl⟩) hLo (fun h32 H33 locs hp35 hH z34 hLo => ?_)
  have hz : s.heap.size ≤ H33.size := Nat.le_trans hz z34
  obtain ⟨hk9, g36, hg9⟩ := hp35
  have f_m : h32 mo = some (.inr (9, [.int 0, .int (nI n), .int 0, .ref aBy, .ref aSt, .ref aDe, .int 0, .int (-1), .int wt, .ref aPa, .int 1, .ref aIt, .ref aId, .ref aPr, .ref aNa, .ref aSi, .ref aSe, .ref aIw, .ref aEx, .ref aOl, .int 0, .ref aPl, .int dr, .int 0, .ref aTa, .ref aAt, .ref aLo, .int 0, .int 0, .ref aS1, .ref aS2, .ref aS3, .ref aS4, .ref aS5, .ref aS6, .int 0, .ref aO1, .ref aO2, .ref aO3, .ref aO4, .ref aO5])) := kp_at hk9 f_m (nmc (Ne.symm (h_neA f_aPl f_m)) nm0)
  have f_aId : h32 aId = some (.inl ((t 1), 700, .inl gId)) := kp_at hk9 f_aId (nmc (h_neL (k1 := 700) (k2 := 163840) f_aId f_aPl rfl rfl (by omega)) nm0)
  have f_aAt : h32 aAt = some (.inl ((t 2), 700, .inl gAt)) := kp_at hk9 f_aAt (nmc (h_neL (k1 := 700) (k2 := 163840) f_aAt f_aPl rfl rfl (by omega)) nm0)
  have f_aLo : h32 aLo = some (.inl ((t 2), 700, .inl gLo)) := kp_at hk9 f_aLo (nmc (h_neL (k1 := 700) (k2 := 163840) f_aLo f_aPl rfl rfl (by omega)) nm0)
  have hkp : kp [aPl] h h32 := kp_tr2 hkp hk9 (List.forall_mem_cons.mpr ⟨Or.inl (by simp), List.forall_mem_nil _⟩)
  have f_aPl : h32 aPl = some (.inl ((t 0), 163840, .inl g36)) := hg9
  refine lv_aload_n hx hb d_Mo_record_126 rfl (lv_at hl 1 rfl) ?_
  refine hm_get (ci := 9) (v := .ref aPl) (C := R_Mo) (T := F_Mo) (N := 41) hx hb hts ig_Mo hown hK hH f_m rfl 21 (by decide) (hts _ mw_410) (fun _ h9 => h9) rfl d_Mo_record_127 ?_
  refine lv_iload_n hx hb d_Mo_record_130 rfl (lv_at hl 2 rfl) ?_
  refine lv_bipush (v := 32) hx hb d_Mo_record_131 (by decide) ?_
  refine lv_iadd hx hb d_Mo_record_133 ?_
  refine lv_iload hx hb d_Mo_record_134 (lv_at hl 0 rfl) ?_
  refine lv_i2b (v := (1 : Int32).toInt8.toInt32) hx hb d_Mo_record_136 rfl ?_
  refine hj_bast hx hb hK hH hLo 0 f_aPl rfl (P9 + 32) (nI_add _ _) (by omega) (by decide) d_Mo_record_137 (fun H37 locs hH z38 hLo => ?_)
  have hz : s.heap.size ≤ H37.size := by rw [z38]; exact hz
  obtain ⟨h39, e40⟩ : ∃ z, z = hu h32 aPl (.inl ((t 0), 163840, .inl (upd g36 (P9 + 32) (vp_nar .byte ((1 : Int32).toInt8.toInt32))))) := ⟨_, rfl⟩
  have hH : hm D vwCl G h39 H37 := by rw [e40]; exact hH
  have f_m : h39 mo = some (.inr (9, [.int 0, .int (nI n), .int 0, .ref aBy, .ref aSt, .ref aDe, .int 0, .int (-1), .int wt, .ref aPa, .int 1, .ref aIt, .ref aId, .ref aPr, .ref aNa, .ref aSi, .ref aSe, .ref aIw, .ref aEx, .ref aOl, .int 0, .ref aPl, .int dr, .int 0, .ref aTa, .ref aAt, .ref aLo, .int 0, .int 0, .ref aS1, .ref aS2, .ref aS3, .ref aS4, .ref aS5, .ref aS6, .int 0, .ref aO1, .ref aO2, .ref aO3, .ref aO4, .ref aO5])) := by rw [e40, hu_n (Ne.symm (h_neA f_aPl f_m))]; exact f_m
  have f_aId : h39 aId = some (.inl ((t 1), 700, .inl gId)) := by rw [e40, hu_n (h_neL (k1 := 700) (k2 := 163840) f_aId f_aPl rfl rfl (by omega))]; exact f_aId
  have f_aAt : h39 aAt = some (.inl ((t 2), 700, .inl gAt)) := by rw [e40, hu_n (h_neL (k1 := 700) (k2 := 163840) f_aAt f_aPl rfl rfl (by omega))]; exact f_aAt
  have f_aLo : h39 aLo = some (.inl ((t 2), 700, .inl gLo)) := by rw [e40, hu_n (h_neL (k1 := 700) (k2 := 163840) f_aLo f_aPl rfl rfl (by omega))]; exact f_aLo
  have f_aPl : h39 aPl = some (.inl ((t 0), 163840, .inl (upd g36 (P9 + 32) (vp_nar .byte ((1 : Int32).toInt8.toInt32))))) := by rw [e40]; exact hu_s _ _ _
  have hkp : kp [aPl] h h39 := by rw [e40]; exact kp_put hkp (by simp)
  refine lv_iconst (v := 0) hx hb d_Mo_record_138 (by decide) ?_
  refine lv_istore (lv' := [(5, .int 0), (4, .int 1), (0, .ref mo), (1, .int (nI P9)), (2, .int so), (3, .int 0)]) hx hb d_Mo_record_139 hl (by decide) rfl (fun ls hl => ?_)
  refine lv_iload hx hb d_Mo_record_141 (lv_at hl 0 rfl) ?_
  refine lv_iload hx hb d_Mo_record_143 (lv_at hl 1 rfl) ?_
  refine lv_icmp_ge (tgt := 193) hx hb d_Mo_record_145 (by decide) (fun hc41 => absurd hc41 (by decide)) (fun hc41 => ?_)
  refine lv_aload_n hx hb d_Mo_record_148 rfl (lv_at hl 2 rfl) ?_
  refine hm_get (ci := 9) (v := .ref aPl) (C := R_Mo) (T := F_Mo) (N := 41) hx hb hts ig_Mo hown hK hH f_m rfl 21 (by decide) (hts _ mw_410) (fun _ h9 => h9) rfl d_Mo_record_149 ?_
  refine lv_iload_n hx hb d_Mo_record_152 rfl (lv_at hl 3 rfl) ?_
  refine lv_bipush (v := 33) hx hb d_Mo_record_153 (by decide) ?_
  refine lv_iadd hx hb d_Mo_record_155 ?_
  refine lv_iload hx hb d_Mo_record_156 (lv_at hl 0 rfl) ?_
  refine lv_iadd hx hb d_Mo_record_158 ?_
  refine lv_iload_n hx hb d_Mo_record_159 rfl (lv_at hl 4 rfl) ?_
  refine lv_iconst (v := 2) hx hb d_Mo_record_160 (by decide) ?_
  refine lv_icmp_ge (tgt := 168) hx hb d_Mo_record_161 (by decide) (fun hc42 => absurd hc42 hso) (fun hc42 => ?_)
  refine lv_iload_n hx hb d_Mo_record_164 rfl (lv_at hl 4 rfl) ?_
  refine lv_goto (tgt := 185) hx hb d_Mo_record_165 (by decide) ?_
  refine lv_i2b (v := so.toInt8.toInt32) hx hb d_Mo_record_185 rfl ?_
  refine hj_bast hx hb hK hH hLo 0 f_aPl rfl (P9 + 33) (by rw [Int32.add_zero]; exact nI_add _ _) (by omega) (by decide) d_Mo_record_186 (fun H43 locs hH z44 hLo => ?_)
  have hz : s.heap.size ≤ H43.size := by rw [z44]; exact hz
  obtain ⟨h45, e46⟩ : ∃ z, z = hu h39 aPl (.inl ((t 0), 163840, .inl (upd (upd g36 (P9 + 32) (vp_nar .byte ((1 : Int32).toInt8.toInt32))) (P9 + 33) (vp_nar .byte so.toInt8.toInt32)))) := ⟨_, rfl⟩
  have hH : hm D vwCl G h45 H43 := by rw [e46]; exact hH
  have f_m : h45 mo = some (.inr (9, [.int 0, .int (nI n), .int 0, .ref aBy, .ref aSt, .ref aDe, .int 0, .int (-1), .int wt, .ref aPa, .int 1, .ref aIt, .ref aId, .ref aPr, .ref aNa, .ref aSi, .ref aSe, .ref aIw, .ref aEx, .ref aOl, .int 0, .ref aPl, .int dr, .int 0, .ref aTa, .ref aAt, .ref aLo, .int 0, .int 0, .ref aS1, .ref aS2, .ref aS3, .ref aS4, .ref aS5, .ref aS6, .int 0, .ref aO1, .ref aO2, .ref aO3, .ref aO4, .ref aO5])) := by rw [e46, hu_n (Ne.symm (h_neA f_aPl f_m))]; exact f_m
  have f_aId : h45 aId = some (.inl ((t 1), 700, .inl gId)) := by rw [e46, hu_n (h_neL (k1 := 700) (k2 := 163840) f_aId f_aPl rfl rfl (by omega))]; exact f_aId
  have f_aAt : h45 aAt = some (.inl ((t 2), 700, .inl gAt)) := by rw [e46, hu_n (h_neL (k1 := 700) (k2 := 163840) f_aAt f_aPl rfl rfl (by omega))]; exact f_aAt
  have f_aLo : h45 aLo = some (.inl ((t 2), 700, .inl gLo)) := by rw [e46, hu_n (h_neL (k1 := 700) (k2 := 163840) f_aLo f_aPl rfl rfl (by omega))]; exact f_aLo
  have f_aPl : h45 aPl = some (.inl ((t 0), 163840, .inl (upd (upd g36 (P9 + 32) (vp_nar .byte ((1 : Int32).toInt8.toInt32))) (P9 + 33) (vp_nar .byte so.toInt8.toInt32)))) := by rw [e46]; exact hu_s _ _ _
  have hkp : kp [aPl] h h45 := by rw [e46]; exact kp_put hkp (by simp)
  refine lv_iinc (v := 0 + 1) (lv' := [(5, .int (0 + 1)), (4, .int 1), (0, .ref mo), (1, .int (nI P9)), (2, .int so), (3, .int 0)]) hx hb d_Mo_record_187 hl (k := 0) rfl (by rfl) (by decide) rfl (fun ls hl => ?_)
  refine lv_goto (tgt := 141) hx hb d_Mo_record_190 (by decide) ?_
  refine lv_iload hx hb d_Mo_record_141 (lv_at hl 0 rfl) ?_
  refine lv_iload hx hb d_Mo_record_143 (lv_at hl 1 rfl) ?_
  refine lv_icmp_ge (tgt := 193) hx hb d_Mo_record_145 (by decide) (fun hc47 => ?_) (fun hc47 => absurd (by decide) hc47)
  exact W.vret hx hb hr (fun t9 ht hW => ⟨h45, rfl, ⟨hkp, _, f_aPl⟩, by rw [ht]; exact hH, by rw [ht]; exact hz⟩) hLo d_Mo_record_193

set_option maxHeartbeats 4000000 in
set_option maxRecDepth 100000 in
theorem c_m_next (l : Launch) (D : va_G) (t : Nat → ClassId) (G : hG) (ak av : Nat → Nat) (h : hM) (mo n aBy aSt aDe aPa aIt aId aPr aNa aSi aSe aIw aEx aOl aPl aTa aAt aLo aS1 aS2 aS3 aS4 aS5 aS6 aO1 aO2 aO3 aO4 aO5 : Nat) (dr wt : Int32) (d9 b9 : Int32) (f_m : h mo = some (.inr (9, [.int 0, .int (nI n), .int 0, .ref aBy, .ref aSt, .ref aDe, .int 0, .int (-1), .int wt, .ref aPa, .int 1, .ref aIt, .ref aId, .ref aPr, .ref aNa, .ref aSi, .ref aSe, .ref aIw, .ref aEx, .ref aOl, .int 0, .ref aPl, .int dr, .int 0, .ref aTa, .ref aAt, .ref aLo, .int 0, .int 0, .ref aS1, .ref aS2, .ref aS3, .ref aS4, .ref aS5, .ref aS6, .int 0, .ref aO1, .ref aO2, .ref aO3, .ref aO4, .ref aO5]))) : Met l y_Mo_next (.code y_Mo_next b_Mo_next 5 (some .int) :: lw_g) { frames := 0, cells := 0, slots := 0, locals := 0 } (hP (kE D t G ak av) D vwCl G h [.ref mo, .int d9, .int b9]) (hQi D vwCl G (fun r h' => r = -1 ∧ h = h')) 0 0 G.P := by
  refine Met.ofW (cc := b_Mo_next) (maxL := 5) (ret := (some .int)) (by decide) rfl ?_
  intro p e s m args below meth c s₁ Bd hml hv
  obtain ⟨ha, hE, hH⟩ := hv
  have hx := Bd.exec
  have hb := Bd.bytes
  have hr := Bd.returns
  have hts : ∀ w ∈ lw_g, w.before args s = true := fun w hw => atoms_spec (ws := (.code y_Mo_next b_Mo_next 5 (some .int) :: lw_g)) Bd.pre w (List.mem_cons_of_mem _ hw)
  have hown : s.vm.findClass R_Mo = some m.cls := findClass_of_methodNamed Bd.named
  have hlocks := Bd.notSynchronized
  have hK := hE.1
  have hH0 := hH
  have hLo : hLc G.P [] := hLc_nil
  have hz : s.heap.size ≤ s.heap.size := Nat.le_refl _
  have hkp : kp [] h h := kp_rf
  have hl := lv_entry [.ref mo, .int d9, .int b9] (n := 5) (Nat.le_of_ble_eq_true rfl)
  rw [show entryFrame m args 5 = F0 m 0 ((lg_sl [.ref mo, .int d9, .int b9] ++ List.replicate (5 - (lg_sl [.ref mo, .int d9, .int b9]).length) Slot.unset).toArray) [] from (by rw [ha]; exact lg_entry_eq m [.ref mo, .int d9, .int b9] 5)]
  generalize (lg_sl [.ref mo, .int d9, .int b9] ++ List.replicate (5 - (lg_sl [.ref mo, .int d9, .int b9]).length) Slot.unset).toArray = ls at hl ⊢
  have hl : lv_has ls 5 [(0, .ref mo), (1, .int d9), (2, .int b9)] := hl
  refine lv_iconst (v := -1) hx hb d_Mo_next_0 (by decide) ?_
  refine lv_istore_n (lv' := [(3, .int (-1)), (0, .ref mo), (1, .int d9), (2, .int b9)]) hx hb d_Mo_next_1 rfl hl (by decide) rfl (fun ls hl => ?_)
  refine lv_iconst (v := 1) hx hb d_Mo_next_2 (by decide) ?_
  refine lv_istore (lv' := [(4, .int 1), (3, .int (-1)), (0, .ref mo), (1, .int d9), (2, .int b9)]) hx hb d_Mo_next_3 hl (by decide) rfl (fun ls hl => ?_)
  refine lv_iload hx hb d_Mo_next_5 (lv_at hl 0 rfl) ?_
  refine lv_aload_n hx hb d_Mo_next_7 rfl (lv_at hl 2 rfl) ?_
  refine hm_get (ci := 9) (v := .int 1) (C := R_Mo) (T := F_Mo) (N := 41) hx hb hts ig_Mo hown hK hH f_m rfl 10 (by decide) (hts _ mw_390) (fun _ h9 => h9) rfl d_Mo_next_8 ?_
  refine lv_icmp_ge (tgt := 119) hx hb d_Mo_next_11 (by decide) (fun hc1 => ?_) (fun hc1 => absurd (by decide) hc1)
  refine lv_iload_n hx hb d_Mo_next_119 rfl (lv_at hl 1 rfl) ?_
  exact W.iret (v := (-1)) hx hb hr (fun t9 ht hW => ⟨(-1), h, rfl, ⟨rfl, rfl⟩, by rw [ht]; exact hH, by rw [ht]; exact hz⟩) hLo d_Mo_next_120

set_option maxHeartbeats 4000000 in
set_option maxRecDepth 100000 in
theorem c_m_along0 (l : Launch) (D : va_G) (t : Nat → ClassId) (G : hG) (ak av : Nat → Nat) (h : hM) (mo n aBy aSt aDe aPa aIt aId aPr aNa aSi aSe aIw aEx aOl aPl aTa aAt aLo aS1 aS2 aS3 aS4 aS5 aS6 aO1 aO2 aO3 aO4 aO5 : Nat) (dr wt : Int32) (f_m : h mo = some (.inr (9, [.int 0, .int (nI n), .int 0, .ref aBy, .ref aSt, .ref aDe, .int 0, .int (-1), .int wt, .ref aPa, .int 1, .ref aIt, .ref aId, .ref aPr, .ref aNa, .ref aSi, .ref aSe, .ref aIw, .ref aEx, .ref aOl, .int 0, .ref aPl, .int dr, .int 0, .ref aTa, .ref aAt, .ref aLo, .int 0, .int 0, .ref aS1, .ref aS2, .ref aS3, .ref aS4, .ref aS5, .ref aS6, .int 0, .ref aO1, .ref aO2, .ref aO3, .ref aO4, .ref aO5]))) : Met l y_Mo_along (.code y_Mo_along b_Mo_along 9 (some .int) :: lw_g) { frames := 1, cells := 0, slots := 0, locals := 24 } (hP (kE D t G ak av) D vwCl G h [.ref mo, .int 0, .int 0, .int 0]) (hQi D vwCl G (fun r h' => r = 68 ∧ h = h')) 0 0 G.P := by
  refine Met.ofW (cc := b_Mo_along) (maxL := 9) (ret := (some .int)) (by decide) rfl ?_
  intro p e s m args below meth c s₁ Bd hml hv
  obtain ⟨ha, hE, hH⟩ := hv
  have hx := Bd.exec
  have hb := Bd.bytes
  have hr := Bd.returns
  have hts : ∀ w ∈ lw_g, w.before args s = true := fun w hw => atoms_spec (ws := (.code y_Mo_along b_Mo_along 9 (some .int) :: lw_g)) Bd.pre w (List.mem_cons_of_mem _ hw)
  have hown : s.vm.findClass R_Mo = some m.cls := findClass_of_methodNamed Bd.named
  have hlocks := Bd.notSynchronized
  have hK := hE.1
  have hH0 := hH
  have hLo : hLc G.P [] := hLc_nil
  have hz : s.heap.size ≤ s.heap.size := Nat.le_refl _
  have hkp : kp [] h h := kp_rf
  have hl := lv_entry [.ref mo, .int 0, .int 0, .int 0] (n := 9) (Nat.le_of_ble_eq_true rfl)
  rw [show entryFrame m args 9 = F0 m 0 ((lg_sl [.ref mo, .int 0, .int 0, .int 0] ++ List.replicate (9 - (lg_sl [.ref mo, .int 0, .int 0, .int 0]).length) Slot.unset).toArray) [] from (by rw [ha]; exact lg_entry_eq m [.ref mo, .int 0, .int 0, .int 0] 9)]
  generalize (lg_sl [.ref mo, .int 0, .int 0, .int 0] ++ List.replicate (9 - (lg_sl [.ref mo, .int 0, .int 0, .int 0]).length) Slot.unset).toArray = ls at hl ⊢
  have hl : lv_has ls 9 [(0, .ref mo), (1, .int 0), (2, .int 0), (3, .int 0)] := hl
  refine lv_iconst (v := 0) hx hb d_Mo_along_0 (by decide) ?_
  refine lv_istore (lv' := [(4, .int 0), (0, .ref mo), (1, .int 0), (2, .int 0), (3, .int 0)]) hx hb d_Mo_along_1 hl (by decide) rfl (fun ls hl => ?_)
  refine lv_iconst (v := 0) hx hb d_Mo_along_3 (by decide) ?_
  refine lv_istore (lv' := [(5, .int 0), (4, .int 0), (0, .ref mo), (1, .int 0), (2, .int 0), (3, .int 0)]) hx hb d_Mo_along_4 hl (by decide) rfl (fun ls hl => ?_)
  refine lv_iconst (v := -1) hx hb d_Mo_along_6 (by decide) ?_
  refine lv_istore (lv' := [(6, .int (-1)), (5, .int 0), (4, .int 0), (0, .ref mo), (1, .int 0), (2, .int 0), (3, .int 0)]) hx hb d_Mo_along_7 hl (by decide) rfl (fun ls hl => ?_)
  refine lv_iload hx hb d_Mo_along_9 (lv_at hl 1 rfl) ?_
  refine lv_iconst (v := 2) hx hb d_Mo_along_11 (by decide) ?_
  refine lv_icmp_ne (tgt := 32) hx hb d_Mo_along_12 (by decide) (fun hc1 => ?_) (fun hc1 => absurd hc1 (by decide))
  refine lv_iload hx hb d_Mo_along_32 (lv_at hl 1 rfl) ?_
  refine lv_if_eq (tgt := 47) hx hb d_Mo_along_34 (by decide) (fun hc2 => ?_) (fun hc2 => absurd rfl hc2)
  refine lv_iload_n hx hb d_Mo_along_47 rfl (lv_at hl 4 rfl) ?_
  refine lv_goto (tgt := 68) hx hb d_Mo_along_48 (by decide) ?_
  refine lv_istore (lv' := [(7, .int 0), (6, .int (-1)), (5, .int 0), (4, .int 0), (0, .ref mo), (1, .int 0), (2, .int 0), (3, .int 0)]) hx hb d_Mo_along_68 hl (by decide) rfl (fun ls hl => ?_)
  refine lv_bipush (v := 33) hx hb d_Mo_along_70 (by decide) ?_
  refine lv_aload_n hx hb d_Mo_along_72 rfl (lv_at hl 4 rfl) ?_
  refine lv_iload hx hb d_Mo_along_73 (lv_at hl 2 rfl) ?_
  refine lv_iload hx hb d_Mo_along_75 (lv_at hl 0 rfl) ?_
  refine hm_calli (va_runV (As := [.int 0, .int 0]) (b := mo) (rest := [.int 33]) ⟨hx, hb, hml, hown, hts⟩ (c_m_recordId l D t G ak av h mo 0 0 (by decide)) ⟨cw9B 2 hts mw_496 mw_497 mw_428 rfl rfl (by decide +kernel) ⟨Nat.le_of_ble_eq_true rfl, Nat.le_of_ble_eq_true rfl⟩, hts _ mw_498, hts _ mw_499⟩ (hP_V (q := (R_Mo, F_Mo, 41)) kE_ok hE hK hH f_m rfl) rfl rfl hl.1 rfl (lv_room (Nat.le_of_ble_eq_true rfl)) d_Mo_along_77 ⟨Nat.le_of_ble_eq_true rfl, Nat.le_of_ble_eq_true rfl⟩) hLo (fun r3 h4 H5 locs hp7 hH z6 hLo => ?_)
  have hz : s.heap.size ≤ H5.size := Nat.le_trans hz z6
  obtain ⟨rfl, rfl⟩ := hp7
  refine lv_iadd hx hb d_Mo_along_80 ?_
  refine hm_calli (va_runS (As := [.int (33 + 1)]) (rest := []) ⟨hx, hb, hml, hown, hts⟩ (c_m_even l D t G ak av h (33 + 1)) ⟨cw9B 1 hts mw_500 mw_501 mw_428 rfl rfl (by decide +kernel) ⟨Nat.le_of_ble_eq_true rfl, Nat.le_of_ble_eq_true rfl⟩, hts _ mw_502⟩ (hP_S kE_ok hE hH) rfl rfl hl.1 rfl (lv_room (Nat.le_of_ble_eq_true rfl)) d_Mo_along_81 ⟨Nat.le_of_ble_eq_true rfl, Nat.le_of_ble_eq_true rfl⟩) hLo (fun r8 h9 H10 locs hp12 hH z11 hLo => ?_)
  have hz : s.heap.size ≤ H10.size := Nat.le_trans hz z11
  obtain ⟨rfl, rfl⟩ := hp12
  refine lv_topi (fun v13 e14 => ?_)
  obtain rfl : v13 = 34 := e14.trans (by decide)
  refine lv_istore (lv' := [(8, .int 34), (7, .int 0), (6, .int (-1)), (5, .int 0), (4, .int 0), (0, .ref mo), (1, .int 0), (2, .int 0), (3, .int 0)]) hx hb d_Mo_along_84 hl (by decide) rfl (fun ls hl => ?_)
  refine lv_iload hx hb d_Mo_along_86 (lv_at hl 4 rfl) ?_
  refine lv_sipush (v := 2048) hx hb d_Mo_along_88 (by decide) ?_
  refine lv_irem hx hb d_Mo_along_91 (by decide) ?_
  refine lv_iload hx hb d_Mo_along_92 (lv_at hl 0 rfl) ?_
  refine lv_iadd hx hb d_Mo_along_94 ?_
  refine lv_sipush (v := 2048) hx hb d_Mo_along_95 (by decide) ?_
  refine lv_icmp_le (tgt := 116) hx hb d_Mo_along_98 (by decide) (fun hc15 => ?_) (fun hc15 => absurd (by decide) hc15)
  refine lv_iload_n hx hb d_Mo_along_116 rfl (lv_at hl 8 rfl) ?_
  refine lv_if_eq (tgt := 132) hx hb d_Mo_along_117 (by decide) (fun hc16 => ?_) (fun hc16 => absurd rfl hc16)
  refine lv_iload hx hb d_Mo_along_132 (lv_at hl 4 rfl) ?_
  refine lv_iload hx hb d_Mo_along_134 (lv_at hl 0 rfl) ?_
  refine lv_iadd hx hb d_Mo_along_136 ?_
  refine lv_topi (fun v17 e18 => ?_)
  obtain rfl : v17 = 34 := e18.trans (by decide)
  refine lv_istore (lv' := [(4, .int 34), (8, .int 34), (7, .int 0), (6, .int (-1)), (5, .int 0), (0, .ref mo), (1, .int 0), (2, .int 0), (3, .int 0)]) hx hb d_Mo_along_137 hl (by decide) rfl (fun ls hl => ?_)
  refine lv_iload hx hb d_Mo_along_139 (lv_at hl 4 rfl) ?_
  refine lv_iconst (v := 2) hx hb d_Mo_along_141 (by decide) ?_
  refine lv_icmp_ge (tgt := 152) hx hb d_Mo_along_142 (by decide) (fun hc19 => absurd hc19 (by decide)) (fun hc19 => ?_)
  refine lv_iload hx hb d_Mo_along_145 (lv_at hl 4 rfl) ?_
  refine lv_iconst (v := 1) hx hb d_Mo_along_147 (by decide) ?_
  refine lv_iadd hx hb d_Mo_along_148 ?_
  refine lv_goto (tgt := 153) hx hb d_Mo_along_149 (by decide) ?_
  refine lv_topi (fun v20 e21 => ?_)
  obtain rfl : v20 = 1 := e21.trans (by decide)
  refine lv_istore (lv' := [(5, .int 1), (4, .int 34), (8, .int 34), (7, .int 0), (6, .int (-1)), (0, .ref mo), (1, .int 0), (2, .int 0), (3, .int 0)]) hx hb d_Mo_along_153 hl (by decide) rfl (fun ls hl => ?_)
  refine lv_goto (tgt := 9) hx hb d_Mo_along_155 (by decide) ?_
  refine lv_iload hx hb d_Mo_along_9 (lv_at hl 0 rfl) ?_
  refine lv_iconst (v := 2) hx hb d_Mo_along_11 (by decide) ?_
  refine lv_icmp_ne (tgt := 32) hx hb d_Mo_along_12 (by decide) (fun hc22 => ?_) (fun hc22 => absurd hc22 (by decide))
  refine lv_iload hx hb d_Mo_along_32 (lv_at hl 0 rfl) ?_
  refine lv_if_eq (tgt := 47) hx hb d_Mo_along_34 (by decide) (fun hc23 => absurd hc23 (by decide)) (fun hc23 => ?_)
  refine lv_iload hx hb d_Mo_along_37 (lv_at hl 0 rfl) ?_
  refine lv_iconst (v := 1) hx hb d_Mo_along_39 (by decide) ?_
  refine lv_icmp_ne (tgt := 51) hx hb d_Mo_along_40 (by decide) (fun hc24 => absurd rfl hc24) (fun hc24 => ?_)
  refine lv_iload_n hx hb d_Mo_along_43 rfl (lv_at hl 6 rfl) ?_
  refine lv_if_ne (tgt := 51) hx hb d_Mo_along_44 (by decide) (fun hc25 => absurd rfl hc25) (fun hc25 => ?_)
  refine lv_iload_n hx hb d_Mo_along_47 rfl (lv_at hl 6 rfl) ?_
  refine lv_goto (tgt := 68) hx hb d_Mo_along_48 (by decide) ?_
  refine lv_istore (lv' := [(7, .int 0), (5, .int 1), (4, .int 34), (8, .int 34), (6, .int (-1)), (0, .ref mo), (1, .int 0), (2, .int 0), (3, .int 0)]) hx hb d_Mo_along_68 hl (by decide) rfl (fun ls hl => ?_)
  refine lv_bipush (v := 33) hx hb d_Mo_along_70 (by decide) ?_
  refine lv_aload_n hx hb d_Mo_along_72 rfl (lv_at hl 5 rfl) ?_
  refine lv_iload hx hb d_Mo_along_73 (lv_at hl 1 rfl) ?_
  refine lv_iload hx hb d_Mo_along_75 (lv_at hl 0 rfl) ?_
  refine hm_calli (va_runV (As := [.int 1, .int 0]) (b := mo) (rest := [.int 33]) ⟨hx, hb, hml, hown, hts⟩ (c_m_recordId l D t G ak av h mo 1 0 (by decide)) ⟨cw9B 2 hts mw_496 mw_497 mw_428 rfl rfl (by decide +kernel) ⟨Nat.le_of_ble_eq_true rfl, Nat.le_of_ble_eq_true rfl⟩, hts _ mw_498, hts _ mw_499⟩ (hP_V (q := (R_Mo, F_Mo, 41)) kE_ok hE hK hH f_m rfl) rfl rfl hl.1 rfl (lv_room (Nat.le_of_ble_eq_true rfl)) d_Mo_along_77 ⟨Nat.le_of_ble_eq_true rfl, Nat.le_of_ble_eq_true rfl⟩) hLo (fun r26 h27 H28 locs hp30 hH z29 hLo => ?_)
  have hz : s.heap.size ≤ H28.size := Nat.le_trans hz z29
  obtain ⟨rfl, rfl⟩ := hp30
  refine lv_iadd hx hb d_Mo_along_80 ?_
  refine hm_calli (va_runS (As := [.int (33 + 1)]) (rest := []) ⟨hx, hb, hml, hown, hts⟩ (c_m_even l D t G ak av h (33 + 1)) ⟨cw9B 1 hts mw_500 mw_501 mw_428 rfl rfl (by decide +kernel) ⟨Nat.le_of_ble_eq_true rfl, Nat.le_of_ble_eq_true rfl⟩, hts _ mw_502⟩ (hP_S kE_ok hE hH) rfl rfl hl.1 rfl (lv_room (Nat.le_of_ble_eq_true rfl)) d_Mo_along_81 ⟨Nat.le_of_ble_eq_true rfl, Nat.le_of_ble_eq_true rfl⟩) hLo (fun r31 h32 H33 locs hp35 hH z34 hLo => ?_)
  have hz : s.heap.size ≤ H33.size := Nat.le_trans hz z34
  obtain ⟨rfl, rfl⟩ := hp35
  refine lv_topi (fun v36 e37 => ?_)
  obtain rfl : v36 = 34 := e37.trans (by decide)
  refine lv_istore (lv' := [(8, .int 34), (7, .int 0), (5, .int 1), (4, .int 34), (6, .int (-1)), (0, .ref mo), (1, .int 0), (2, .int 0), (3, .int 0)]) hx hb d_Mo_along_84 hl (by decide) rfl (fun ls hl => ?_)
  refine lv_iload hx hb d_Mo_along_86 (lv_at hl 3 rfl) ?_
  refine lv_sipush (v := 2048) hx hb d_Mo_along_88 (by decide) ?_
  refine lv_irem hx hb d_Mo_along_91 (by decide) ?_
  refine lv_iload hx hb d_Mo_along_92 (lv_at hl 0 rfl) ?_
  refine lv_iadd hx hb d_Mo_along_94 ?_
  refine lv_sipush (v := 2048) hx hb d_Mo_along_95 (by decide) ?_
  refine lv_icmp_le (tgt := 116) hx hb d_Mo_along_98 (by decide) (fun hc38 => ?_) (fun hc38 => absurd (by decide) hc38)
  refine lv_iload_n hx hb d_Mo_along_116 rfl (lv_at hl 8 rfl) ?_
  refine lv_if_eq (tgt := 132) hx hb d_Mo_along_117 (by decide) (fun hc39 => ?_) (fun hc39 => absurd rfl hc39)
  refine lv_iload hx hb d_Mo_along_132 (lv_at hl 3 rfl) ?_
  refine lv_iload hx hb d_Mo_along_134 (lv_at hl 0 rfl) ?_
  refine lv_iadd hx hb d_Mo_along_136 ?_
  refine lv_topi (fun v40 e41 => ?_)
  obtain rfl : v40 = 68 := e41.trans (by decide)
  refine lv_istore (lv' := [(4, .int 68), (8, .int 34), (7, .int 0), (5, .int 1), (6, .int (-1)), (0, .ref mo), (1, .int 0), (2, .int 0), (3, .int 0)]) hx hb d_Mo_along_137 hl (by decide) rfl (fun ls hl => ?_)
  refine lv_iload hx hb d_Mo_along_139 (lv_at hl 3 rfl) ?_
  refine lv_iconst (v := 2) hx hb d_Mo_along_141 (by decide) ?_
  refine lv_icmp_ge (tgt := 152) hx hb d_Mo_along_142 (by decide) (fun hc42 => absurd hc42 (by decide)) (fun hc42 => ?_)
  refine lv_iload hx hb d_Mo_along_145 (lv_at hl 3 rfl) ?_
  refine lv_iconst (v := 1) hx hb d_Mo_along_147 (by decide) ?_
  refine lv_iadd hx hb d_Mo_along_148 ?_
  refine lv_goto (tgt := 153) hx hb d_Mo_along_149 (by decide) ?_
  refine lv_topi (fun v43 e44 => ?_)
  obtain rfl : v43 = 2 := e44.trans (by decide)
  refine lv_istore (lv' := [(5, .int 2), (4, .int 68), (8, .int 34), (7, .int 0), (6, .int (-1)), (0, .ref mo), (1, .int 0), (2, .int 0), (3, .int 0)]) hx hb d_Mo_along_153 hl (by decide) rfl (fun ls hl => ?_)
  refine lv_goto (tgt := 9) hx hb d_Mo_along_155 (by decide) ?_
  refine lv_iload hx hb d_Mo_along_9 (lv_at hl 0 rfl) ?_
  refine lv_iconst (v := 2) hx hb d_Mo_along_11 (by decide) ?_
  refine lv_icmp_ne (tgt := 32) hx hb d_Mo_along_12 (by decide) (fun hc45 => absurd rfl hc45) (fun hc45 => ?_)
  refine lv_aload_n hx hb d_Mo_along_15 rfl (lv_at hl 5 rfl) ?_
  refine lv_iload_n hx hb d_Mo_along_16 rfl (lv_at hl 6 rfl) ?_
  refine lv_iload hx hb d_Mo_along_17 (lv_at hl 4 rfl) ?_
  refine hm_calli (va_runV (As := [.int 0, .int (-1)]) (b := mo) (rest := []) ⟨hx, hb, hml, hown, hts⟩ (c_m_next l D t G ak av h mo n aBy aSt aDe aPa aIt aId aPr aNa aSi aSe aIw aEx aOl aPl aTa aAt aLo aS1 aS2 aS3 aS4 aS5 aS6 aO1 aO2 aO3 aO4 aO5 dr wt 0 (-1) f_m) ⟨cw9B 2 hts mw_507 mw_508 mw_428 rfl rfl (by decide +kernel) ⟨Nat.le_of_ble_eq_true rfl, Nat.le_of_ble_eq_true rfl⟩, hts _ mw_509, hts _ mw_510⟩ (hP_V (q := (R_Mo, F_Mo, 41)) kE_ok hE hK hH f_m rfl) rfl rfl hl.1 rfl (lv_room (Nat.le_of_ble_eq_true rfl)) d_Mo_along_19 ⟨Nat.le_of_ble_eq_true rfl, Nat.le_of_ble_eq_true rfl⟩) hLo (fun r46 h47 H48 locs hp50 hH z49 hLo => ?_)
  have hz : s.heap.size ≤ H48.size := Nat.le_trans hz z49
  obtain ⟨rfl, rfl⟩ := hp50
  refine lv_istore (lv' := [(6, .int (-1)), (5, .int 2), (4, .int 68), (8, .int 34), (7, .int 0), (0, .ref mo), (1, .int 0), (2, .int 0), (3, .int 0)]) hx hb d_Mo_along_22 hl (by decide) rfl (fun ls hl => ?_)
  refine lv_iload hx hb d_Mo_along_24 (lv_at hl 0 rfl) ?_
  refine lv_if_ge (tgt := 32) hx hb d_Mo_along_26 (by decide) (fun hc51 => absurd hc51 (by decide)) (fun hc51 => ?_)
  refine lv_iload hx hb d_Mo_along_29 (lv_at hl 2 rfl) ?_
  exact W.iret (v := 68) hx hb hr (fun t9 ht hW => ⟨68, h, rfl, ⟨rfl, rfl⟩, by rw [ht]; exact hH, by rw [ht]; exact hz⟩) hLo d_Mo_along_31

set_option maxHeartbeats 4000000 in
set_option maxRecDepth 100000 in
theorem c_m_along1 (l : Launch) (D : va_G) (t : Nat → ClassId) (G : hG) (ak av : Nat → Nat) (h : hM) (mo n aBy aSt aDe aPa aIt aId aPr aNa aSi aSe aIw aEx aOl aPl aTa aAt aLo aS1 aS2 aS3 aS4 aS5 aS6 aO1 aO2 aO3 aO4 aO5 : Nat) (dr wt : Int32) (gPl gId gAt gLo : Nat → Int32) (P9 : Nat) (p9 : Int32) (f_m : h mo = some (.inr (9, [.int 0, .int (nI n), .int 0, .ref aBy, .ref aSt, .ref aDe, .int 0, .int (-1), .int wt, .ref aPa, .int 1, .ref aIt, .ref aId, .ref aPr, .ref aNa, .ref aSi, .ref aSe, .ref aIw, .ref aEx, .ref aOl, .int 0, .ref aPl, .int dr, .int 0, .ref aTa, .ref aAt, .ref aLo, .int 0, .int 0, .ref aS1, .ref aS2, .ref aS3, .ref aS4, .ref aS5, .ref aS6, .int 0, .ref aO1, .ref aO2, .ref aO3, .ref aO4, .ref aO5]))) (f_aPl : h aPl = some (.inl ((t 0), 163840, .inl gPl))) (f_aId : h aId = some (.inl ((t 1), 700, .inl gId))) (f_aAt : h aAt = some (.inl ((t 2), 700, .inl gAt))) (f_aLo : h aLo = some (.inl ((t 2), 700, .inl gLo))) (zId : gId 0 = 1) (hp9 : p9 = nI P9) (hle : P9 + 68 ≤ 163840) (ne_aId_aAt : aId ≠ aAt) (ne_aId_aLo : aId ≠ aLo) (ne_aAt_aLo : aAt ≠ aLo) : Met l y_Mo_along (.code y_Mo_along b_Mo_along 9 (some .int) :: lw_g) { frames := 3, cells := 0, slots := 0, locals := 72 } (hP (kE D t G ak av) D vwCl G h [.ref mo, .int 0, .int p9, .int 1]) (hQi D vwCl G (fun r h' => kp [aPl] h h' ∧ ∃ g : Nat → Int32, h' aPl = some (.inl ((t 0), 163840, .inl g)))) 0 0 G.P := by
  refine Met.ofW (cc := b_Mo_along) (maxL := 9) (ret := (some .int)) (by decide) rfl ?_
  intro p e s m args below meth c s₁ Bd hml hv
  obtain ⟨ha, hE, hH⟩ := hv
  have hx := Bd.exec
  have hb := Bd.bytes
  have hr := Bd.returns
  have hts : ∀ w ∈ lw_g, w.before args s = true := fun w hw => atoms_spec (ws := (.code y_Mo_along b_Mo_along 9 (some .int) :: lw_g)) Bd.pre w (List.mem_cons_of_mem _ hw)
  have hown : s.vm.findClass R_Mo = some m.cls := findClass_of_methodNamed Bd.named
  have hlocks := Bd.notSynchronized
  have hK := hE.1
  have hH0 := hH
  have hLo : hLc G.P [] := hLc_nil
  have hz : s.heap.size ≤ s.heap.size := Nat.le_refl _
  have hkp : kp [aPl] h h := kp_rf
  have hl := lv_entry [.ref mo, .int 0, .int p9, .int 1] (n := 9) (Nat.le_of_ble_eq_true rfl)
  rw [show entryFrame m args 9 = F0 m 0 ((lg_sl [.ref mo, .int 0, .int p9, .int 1] ++ List.replicate (9 - (lg_sl [.ref mo, .int 0, .int p9, .int 1]).length) Slot.unset).toArray) [] from (by rw [ha]; exact lg_entry_eq m [.ref mo, .int 0, .int p9, .int 1] 9)]
  generalize (lg_sl [.ref mo, .int 0, .int p9, .int 1] ++ List.replicate (9 - (lg_sl [.ref mo, .int 0, .int p9, .int 1]).length) Slot.unset).toArray = ls at hl ⊢
  have hl : lv_has ls 9 [(0, .ref mo), (1, .int 0), (2, .int p9), (3, .int 1)] := hl
  subst hp9
  refine lv_iconst (v := 0) hx hb d_Mo_along_0 (by decide) ?_
  refine lv_istore (lv' := [(4, .int 0), (0, .ref mo), (1, .int 0), (2, .int (nI P9)), (3, .int 1)]) hx hb d_Mo_along_1 hl (by decide) rfl (fun ls hl => ?_)
  refine lv_iconst (v := 0) hx hb d_Mo_along_3 (by decide) ?_
  refine lv_istore (lv' := [(5, .int 0), (4, .int 0), (0, .ref mo), (1, .int 0), (2, .int (nI P9)), (3, .int 1)]) hx hb d_Mo_along_4 hl (by decide) rfl (fun ls hl => ?_)
  refine lv_iconst (v := -1) hx hb d_Mo_along_6 (by decide) ?_
  refine lv_istore (lv' := [(6, .int (-1)), (5, .int 0), (4, .int 0), (0, .ref mo), (1, .int 0), (2, .int (nI P9)), (3, .int 1)]) hx hb d_Mo_along_7 hl (by decide) rfl (fun ls hl => ?_)
  refine lv_iload hx hb d_Mo_along_9 (lv_at hl 1 rfl) ?_
  refine lv_iconst (v := 2) hx hb d_Mo_along_11 (by decide) ?_
  refine lv_icmp_ne (tgt := 32) hx hb d_Mo_along_12 (by decide) (fun hc1 => ?_) (fun hc1 => absurd hc1 (by decide))
  refine lv_iload hx hb d_Mo_along_32 (lv_at hl 1 rfl) ?_
  refine lv_if_eq (tgt := 47) hx hb d_Mo_along_34 (by decide) (fun hc2 => ?_) (fun hc2 => absurd rfl hc2)
  refine lv_iload_n hx hb d_Mo_along_47 rfl (lv_at hl 4 rfl) ?_
  refine lv_goto (tgt := 68) hx hb d_Mo_along_48 (by decide) ?_
  refine lv_istore (lv' := [(7, .int 0), (6, .int (-1)), (5, .int 0), (4, .int 0), (0, .ref mo), (1, .int 0), (2, .int (nI P9)), (3, .int 1)]) hx hb d_Mo_along_68 hl (by decide) rfl (fun ls hl => ?_)
  refine lv_bipush (v := 33) hx hb d_Mo_along_70 (by decide) ?_
  refine lv_aload_n hx hb d_Mo_along_72 rfl (lv_at hl 4 rfl) ?_
  refine lv_iload hx hb d_Mo_along_73 (lv_at hl 2 rfl) ?_
  refine lv_iload hx hb d_Mo_along_75 (lv_at hl 0 rfl) ?_
  refine hm_calli (va_runV (As := [.int 0, .int 0]) (b := mo) (rest := [.int 33]) ⟨hx, hb, hml, hown, hts⟩ (c_m_recordId l D t G ak av h mo 0 0 (by decide)) ⟨cw9B 2 hts mw_496 mw_497 mw_428 rfl rfl (by decide +kernel) ⟨Nat.le_of_ble_eq_true rfl, Nat.le_of_ble_eq_true rfl⟩, hts _ mw_498, hts _ mw_499⟩ (hP_V (q := (R_Mo, F_Mo, 41)) kE_ok hE hK hH f_m rfl) rfl rfl hl.1 rfl (lv_room (Nat.le_of_ble_eq_true rfl)) d_Mo_along_77 ⟨Nat.le_of_ble_eq_true rfl, Nat.le_of_ble_eq_true rfl⟩) hLo (fun r3 h4 H5 locs hp7 hH z6 hLo => ?_)
  have hz : s.heap.size ≤ H5.size := Nat.le_trans hz z6
  obtain ⟨rfl, rfl⟩ := hp7
  refine lv_iadd hx hb d_Mo_along_80 ?_
  refine hm_calli (va_runS (As := [.int (33 + 1)]) (rest := []) ⟨hx, hb, hml, hown, hts⟩ (c_m_even l D t G ak av h (33 + 1)) ⟨cw9B 1 hts mw_500 mw_501 mw_428 rfl rfl (by decide +kernel) ⟨Nat.le_of_ble_eq_true rfl, Nat.le_of_ble_eq_true rfl⟩, hts _ mw_502⟩ (hP_S kE_ok hE hH) rfl rfl hl.1 rfl (lv_room (Nat.le_of_ble_eq_true rfl)) d_Mo_along_81 ⟨Nat.le_of_ble_eq_true rfl, Nat.le_of_ble_eq_true rfl⟩) hLo (fun r8 h9 H10 locs hp12 hH z11 hLo => ?_)
  have hz : s.heap.size ≤ H10.size := Nat.le_trans hz z11
  obtain ⟨rfl, rfl⟩ := hp12
  refine lv_topi (fun v13 e14 => ?_)
  obtain rfl : v13 = 34 := e14.trans (by decide)
  refine lv_istore (lv' := [(8, .int 34), (7, .int 0), (6, .int (-1)), (5, .int 0), (4, .int 0), (0, .ref mo), (1, .int 0), (2, .int (nI P9)), (3, .int 1)]) hx hb d_Mo_along_84 hl (by decide) rfl (fun ls hl => ?_)
  refine lv_iload hx hb d_Mo_along_86 (lv_at hl 4 rfl) ?_
  refine lv_sipush (v := 2048) hx hb d_Mo_along_88 (by decide) ?_
  refine lv_irem hx hb d_Mo_along_91 (by decide) ?_
  refine lv_iload hx hb d_Mo_along_92 (lv_at hl 0 rfl) ?_
  refine lv_iadd hx hb d_Mo_along_94 ?_
  refine lv_sipush (v := 2048) hx hb d_Mo_along_95 (by decide) ?_
  refine lv_icmp_le (tgt := 116) hx hb d_Mo_along_98 (by decide) (fun hc15 => ?_) (fun hc15 => absurd (by decide) hc15)
  refine lv_iload_n hx hb d_Mo_along_116 rfl (lv_at hl 8 rfl) ?_
  refine lv_if_eq (tgt := 132) hx hb d_Mo_along_117 (by decide) (fun hc16 => absurd hc16 (by decide)) (fun hc16 => ?_)
  refine lv_aload_n hx hb d_Mo_along_120 rfl (lv_at hl 5 rfl) ?_
  refine lv_iload_n hx hb d_Mo_along_121 rfl (lv_at hl 7 rfl) ?_
  refine lv_iload hx hb d_Mo_along_122 (lv_at hl 4 rfl) ?_
  refine lv_iadd hx hb d_Mo_along_124 ?_
  refine lv_iload hx hb d_Mo_along_125 (lv_at hl 3 rfl) ?_
  refine lv_iload hx hb d_Mo_along_127 (lv_at hl 1 rfl) ?_
  refine hm_callv (va_runV (As := [.int ((nI P9) + 0), .int 0, .int 0]) (b := mo) (rest := []) ⟨hx, hb, hml, hown, hts⟩ (c_m_record l D t G ak av h mo n aBy aSt aDe aPa aIt aId aPr aNa aSi aSe aIw aEx aOl aPl aTa aAt aLo aS1 aS2 aS3 aS4 aS5 aS6 aO1 aO2 aO3 aO4 aO5 dr wt gPl gId gAt gLo P9 (nI P9 + 0) 0 f_m f_aPl f_aId f_aAt f_aLo zId (by decide) (Int32.add_zero _) (by omega) ne_aId_aAt ne_aId_aLo ne_aAt_aLo) ⟨cw9B 3 hts mw_511 mw_512 mw_428 rfl rfl (by decide +kernel) ⟨Nat.le_of_ble_eq_true rfl, Nat.le_of_ble_eq_true rfl⟩, hts _ mw_513, hts _ mw_514⟩ (hP_V (q := (R_Mo, F_Mo, 41)) kE_ok hE hK hH f_m rfl) rfl rfl hl.1 rfl (lv_room (Nat.le_of_ble_eq_true rfl)) d_Mo_along_129 ⟨Nat.le_of_ble_eq_true rfl, Nat.le_of_ble_eq_true rfl⟩) hLo (fun h17 H18 locs hp20 hH z19 hLo => ?_)
  have hz : s.heap.size ≤ H18.size := Nat.le_trans hz z19
  obtain ⟨hk9, g21, hg9⟩ := hp20
  have f_m : h17 mo = some (.inr (9, [.int 0, .int (nI n), .int 0, .ref aBy, .ref aSt, .ref aDe, .int 0, .int (-1), .int wt, .ref aPa, .int 1, .ref aIt, .ref aId, .ref aPr, .ref aNa, .ref aSi, .ref aSe, .ref aIw, .ref aEx, .ref aOl, .int 0, .ref aPl, .int dr, .int 0, .ref aTa, .ref aAt, .ref aLo, .int 0, .int 0, .ref aS1, .ref aS2, .ref aS3, .ref aS4, .ref aS5, .ref aS6, .int 0, .ref aO1, .ref aO2, .ref aO3, .ref aO4, .ref aO5])) := kp_at hk9 f_m (nmc (Ne.symm (h_neA f_aPl f_m)) nm0)
  have f_aId : h17 aId = some (.inl ((t 1), 700, .inl gId)) := kp_at hk9 f_aId (nmc (h_neL (k1 := 700) (k2 := 163840) f_aId f_aPl rfl rfl (by omega)) nm0)
  have f_aAt : h17 aAt = some (.inl ((t 2), 700, .inl gAt)) := kp_at hk9 f_aAt (nmc (h_neL (k1 := 700) (k2 := 163840) f_aAt f_aPl rfl rfl (by omega)) nm0)
  have f_aLo : h17 aLo = some (.inl ((t 2), 700, .inl gLo)) := kp_at hk9 f_aLo (nmc (h_neL (k1 := 700) (k2 := 163840) f_aLo f_aPl rfl rfl (by omega)) nm0)
  have hkp : kp [aPl] h h17 := kp_tr2 hkp hk9 (List.forall_mem_cons.mpr ⟨Or.inl (by simp), List.forall_mem_nil _⟩)
  have f_aPl : h17 aPl = some (.inl ((t 0), 163840, .inl g21)) := hg9
  refine lv_iload hx hb d_Mo_along_132 (lv_at hl 4 rfl) ?_
  refine lv_iload hx hb d_Mo_along_134 (lv_at hl 0 rfl) ?_
  refine lv_iadd hx hb d_Mo_along_136 ?_
  refine lv_topi (fun v22 e23 => ?_)
  obtain rfl : v22 = 34 := e23.trans (by decide)
  refine lv_istore (lv' := [(4, .int 34), (8, .int 34), (7, .int 0), (6, .int (-1)), (5, .int 0), (0, .ref mo), (1, .int 0), (2, .int (nI P9)), (3, .int 1)]) hx hb d_Mo_along_137 hl (by decide) rfl (fun ls hl => ?_)
  refine lv_iload hx hb d_Mo_along_139 (lv_at hl 4 rfl) ?_
  refine lv_iconst (v := 2) hx hb d_Mo_along_141 (by decide) ?_
  refine lv_icmp_ge (tgt := 152) hx hb d_Mo_along_142 (by decide) (fun hc24 => absurd hc24 (by decide)) (fun hc24 => ?_)
  refine lv_iload hx hb d_Mo_along_145 (lv_at hl 4 rfl) ?_
  refine lv_iconst (v := 1) hx hb d_Mo_along_147 (by decide) ?_
  refine lv_iadd hx hb d_Mo_along_148 ?_
  refine lv_goto (tgt := 153) hx hb d_Mo_along_149 (by decide) ?_
  refine lv_topi (fun v25 e26 => ?_)
  obtain rfl : v25 = 1 := e26.trans (by decide)
  refine lv_istore (lv' := [(5, .int 1), (4, .int 34), (8, .int 34), (7, .int 0), (6, .int (-1)), (0, .ref mo), (1, .int 0), (2, .int (nI P9)), (3, .int 1)]) hx hb d_Mo_along_153 hl (by decide) rfl (fun ls hl => ?_)
  refine lv_goto (tgt := 9) hx hb d_Mo_along_155 (by decide) ?_
  refine lv_iload hx hb d_Mo_along_9 (lv_at hl 0 rfl) ?_
  refine lv_iconst (v := 2) hx hb d_Mo_along_11 (by decide) ?_
  refine lv_icmp_ne (tgt := 32) hx hb d_Mo_along_12 (by decide) (fun hc27 => ?_) (fun hc27 => absurd hc27 (by decide))
  refine lv_iload hx hb d_Mo_along_32 (lv_at hl 0 rfl) ?_
  refine lv_if_eq (tgt := 47) hx hb d_Mo_along_34 (by decide) (fun hc28 => absurd hc28 (by decide)) (fun hc28 => ?_)
  refine lv_iload hx hb d_Mo_along_37 (lv_at hl 0 rfl) ?_
  refine lv_iconst (v := 1) hx hb d_Mo_along_39 (by decide) ?_
  refine lv_icmp_ne (tgt := 51) hx hb d_Mo_along_40 (by decide) (fun hc29 => absurd rfl hc29) (fun hc29 => ?_)
  refine lv_iload_n hx hb d_Mo_along_43 rfl (lv_at hl 6 rfl) ?_
  refine lv_if_ne (tgt := 51) hx hb d_Mo_along_44 (by decide) (fun hc30 => absurd rfl hc30) (fun hc30 => ?_)
  refine lv_iload_n hx hb d_Mo_along_47 rfl (lv_at hl 6 rfl) ?_
  refine lv_goto (tgt := 68) hx hb d_Mo_along_48 (by decide) ?_
  refine lv_istore (lv' := [(7, .int 0), (5, .int 1), (4, .int 34), (8, .int 34), (6, .int (-1)), (0, .ref mo), (1, .int 0), (2, .int (nI P9)), (3, .int 1)]) hx hb d_Mo_along_68 hl (by decide) rfl (fun ls hl => ?_)
  refine lv_bipush (v := 33) hx hb d_Mo_along_70 (by decide) ?_
  refine lv_aload_n hx hb d_Mo_along_72 rfl (lv_at hl 5 rfl) ?_
  refine lv_iload hx hb d_Mo_along_73 (lv_at hl 1 rfl) ?_
  refine lv_iload hx hb d_Mo_along_75 (lv_at hl 0 rfl) ?_
  refine hm_calli (va_runV (As := [.int 1, .int 0]) (b := mo) (rest := [.int 33]) ⟨hx, hb, hml, hown, hts⟩ (c_m_recordId l D t G ak av h17 mo 1 0 (by decide)) ⟨cw9B 2 hts mw_496 mw_497 mw_428 rfl rfl (by decide +kernel) ⟨Nat.le_of_ble_eq_true rfl, Nat.le_of_ble_eq_true rfl⟩, hts _ mw_498, hts _ mw_499⟩ (hP_V (q := (R_Mo, F_Mo, 41)) kE_ok hE hK hH f_m rfl) rfl rfl hl.1 rfl (lv_room (Nat.le_of_ble_eq_true rfl)) d_Mo_along_77 ⟨Nat.le_of_ble_eq_true rfl, Nat.le_of_ble_eq_true rfl⟩) hLo (fun r31 h32 H33 locs hp35 hH z34 hLo => ?_)
  have hz : s.heap.size ≤ H33.size := Nat.le_trans hz z34
  obtain ⟨rfl, rfl⟩ := hp35
  refine lv_iadd hx hb d_Mo_along_80 ?_
  refine hm_calli (va_runS (As := [.int (33 + 1)]) (rest := []) ⟨hx, hb, hml, hown, hts⟩ (c_m_even l D t G ak av h17 (33 + 1)) ⟨cw9B 1 hts mw_500 mw_501 mw_428 rfl rfl (by decide +kernel) ⟨Nat.le_of_ble_eq_true rfl, Nat.le_of_ble_eq_true rfl⟩, hts _ mw_502⟩ (hP_S kE_ok hE hH) rfl rfl hl.1 rfl (lv_room (Nat.le_of_ble_eq_true rfl)) d_Mo_along_81 ⟨Nat.le_of_ble_eq_true rfl, Nat.le_of_ble_eq_true rfl⟩) hLo (fun r36 h37 H38 locs hp40 hH z39 hLo => ?_)
  have hz : s.heap.size ≤ H38.size := Nat.le_trans hz z39
  obtain ⟨rfl, rfl⟩ := hp40
  refine lv_topi (fun v41 e42 => ?_)
  obtain rfl : v41 = 34 := e42.trans (by decide)
  refine lv_istore (lv' := [(8, .int 34), (7, .int 0), (5, .int 1), (4, .int 34), (6, .int (-1)), (0, .ref mo), (1, .int 0), (2, .int (nI P9)), (3, .int 1)]) hx hb d_Mo_along_84 hl (by decide) rfl (fun ls hl => ?_)
  refine lv_iload hx hb d_Mo_along_86 (lv_at hl 3 rfl) ?_
  refine lv_sipush (v := 2048) hx hb d_Mo_along_88 (by decide) ?_
  refine lv_irem hx hb d_Mo_along_91 (by decide) ?_
  refine lv_iload hx hb d_Mo_along_92 (lv_at hl 0 rfl) ?_
  refine lv_iadd hx hb d_Mo_along_94 ?_
  refine lv_sipush (v := 2048) hx hb d_Mo_along_95 (by decide) ?_
  refine lv_icmp_le (tgt := 116) hx hb d_Mo_along_98 (by decide) (fun hc43 => ?_) (fun hc43 => absurd (by decide) hc43)
  refine lv_iload_n hx hb d_Mo_along_116 rfl (lv_at hl 8 rfl) ?_
  refine lv_if_eq (tgt := 132) hx hb d_Mo_along_117 (by decide) (fun hc44 => absurd hc44 (by decide)) (fun hc44 => ?_)
  refine lv_aload_n hx hb d_Mo_along_120 rfl (lv_at hl 5 rfl) ?_
  refine lv_iload_n hx hb d_Mo_along_121 rfl (lv_at hl 7 rfl) ?_
  refine lv_iload hx hb d_Mo_along_122 (lv_at hl 3 rfl) ?_
  refine lv_iadd hx hb d_Mo_along_124 ?_
  refine lv_iload hx hb d_Mo_along_125 (lv_at hl 2 rfl) ?_
  refine lv_iload hx hb d_Mo_along_127 (lv_at hl 1 rfl) ?_
  refine hm_callv (va_runV (As := [.int ((nI P9) + 34), .int 1, .int 0]) (b := mo) (rest := []) ⟨hx, hb, hml, hown, hts⟩ (c_m_record l D t G ak av h17 mo n aBy aSt aDe aPa aIt aId aPr aNa aSi aSe aIw aEx aOl aPl aTa aAt aLo aS1 aS2 aS3 aS4 aS5 aS6 aO1 aO2 aO3 aO4 aO5 dr wt g21 gId gAt gLo (P9 + 34) (nI P9 + 34) 1 f_m f_aPl f_aId f_aAt f_aLo zId (by decide) (nI_add _ _) (by omega) ne_aId_aAt ne_aId_aLo ne_aAt_aLo) ⟨cw9B 3 hts mw_511 mw_512 mw_428 rfl rfl (by decide +kernel) ⟨Nat.le_of_ble_eq_true rfl, Nat.le_of_ble_eq_true rfl⟩, hts _ mw_513, hts _ mw_514⟩ (hP_V (q := (R_Mo, F_Mo, 41)) kE_ok hE hK hH f_m rfl) rfl rfl hl.1 rfl (lv_room (Nat.le_of_ble_eq_true rfl)) d_Mo_along_129 ⟨Nat.le_of_ble_eq_true rfl, Nat.le_of_ble_eq_true rfl⟩) hLo (fun h45 H46 locs hp48 hH z47 hLo => ?_)
  have hz : s.heap.size ≤ H46.size := Nat.le_trans hz z47
  obtain ⟨hk9, g49, hg9⟩ := hp48
  have f_m : h45 mo = some (.inr (9, [.int 0, .int (nI n), .int 0, .ref aBy, .ref aSt, .ref aDe, .int 0, .int (-1), .int wt, .ref aPa, .int 1, .ref aIt, .ref aId, .ref aPr, .ref aNa, .ref aSi, .ref aSe, .ref aIw, .ref aEx, .ref aOl, .int 0, .ref aPl, .int dr, .int 0, .ref aTa, .ref aAt, .ref aLo, .int 0, .int 0, .ref aS1, .ref aS2, .ref aS3, .ref aS4, .ref aS5, .ref aS6, .int 0, .ref aO1, .ref aO2, .ref aO3, .ref aO4, .ref aO5])) := kp_at hk9 f_m (nmc (Ne.symm (h_neA f_aPl f_m)) nm0)
  have f_aId : h45 aId = some (.inl ((t 1), 700, .inl gId)) := kp_at hk9 f_aId (nmc (h_neL (k1 := 700) (k2 := 163840) f_aId f_aPl rfl rfl (by omega)) nm0)
  have f_aAt : h45 aAt = some (.inl ((t 2), 700, .inl gAt)) := kp_at hk9 f_aAt (nmc (h_neL (k1 := 700) (k2 := 163840) f_aAt f_aPl rfl rfl (by omega)) nm0)
  have f_aLo : h45 aLo = some (.inl ((t 2), 700, .inl gLo)) := kp_at hk9 f_aLo (nmc (h_neL (k1 := 700) (k2 := 163840) f_aLo f_aPl rfl rfl (by omega)) nm0)
  have hkp : kp [aPl] h h45 := kp_tr2 hkp hk9 (List.forall_mem_cons.mpr ⟨Or.inl (by simp), List.forall_mem_nil _⟩)
  have f_aPl : h45 aPl = some (.inl ((t 0), 163840, .inl g49)) := hg9
  refine lv_iload hx hb d_Mo_along_132 (lv_at hl 3 rfl) ?_
  refine lv_iload hx hb d_Mo_along_134 (lv_at hl 0 rfl) ?_
  refine lv_iadd hx hb d_Mo_along_136 ?_
  refine lv_topi (fun v50 e51 => ?_)
  obtain rfl : v50 = 68 := e51.trans (by decide)
  refine lv_istore (lv' := [(4, .int 68), (8, .int 34), (7, .int 0), (5, .int 1), (6, .int (-1)), (0, .ref mo), (1, .int 0), (2, .int (nI P9)), (3, .int 1)]) hx hb d_Mo_along_137 hl (by decide) rfl (fun ls hl => ?_)
  refine lv_iload hx hb d_Mo_along_139 (lv_at hl 3 rfl) ?_
  refine lv_iconst (v := 2) hx hb d_Mo_along_141 (by decide) ?_
  refine lv_icmp_ge (tgt := 152) hx hb d_Mo_along_142 (by decide) (fun hc52 => absurd hc52 (by decide)) (fun hc52 => ?_)
  refine lv_iload hx hb d_Mo_along_145 (lv_at hl 3 rfl) ?_
  refine lv_iconst (v := 1) hx hb d_Mo_along_147 (by decide) ?_
  refine lv_iadd hx hb d_Mo_along_148 ?_
  refine lv_goto (tgt := 153) hx hb d_Mo_along_149 (by decide) ?_
  refine lv_topi (fun v53 e54 => ?_)
  obtain rfl : v53 = 2 := e54.trans (by decide)
  refine lv_istore (lv' := [(5, .int 2), (4, .int 68), (8, .int 34), (7, .int 0), (6, .int (-1)), (0, .ref mo), (1, .int 0), (2, .int (nI P9)), (3, .int 1)]) hx hb d_Mo_along_153 hl (by decide) rfl (fun ls hl => ?_)
  refine lv_goto (tgt := 9) hx hb d_Mo_along_155 (by decide) ?_
  refine lv_iload hx hb d_Mo_along_9 (lv_at hl 0 rfl) ?_
  refine lv_iconst (v := 2) hx hb d_Mo_along_11 (by decide) ?_
  refine lv_icmp_ne (tgt := 32) hx hb d_Mo_along_12 (by decide) (fun hc55 => absurd rfl hc55) (fun hc55 => ?_)
  refine lv_aload_n hx hb d_Mo_along_15 rfl (lv_at hl 5 rfl) ?_
  refine lv_iload_n hx hb d_Mo_along_16 rfl (lv_at hl 6 rfl) ?_
  refine lv_iload hx hb d_Mo_along_17 (lv_at hl 4 rfl) ?_
  refine hm_calli (va_runV (As := [.int 0, .int (-1)]) (b := mo) (rest := []) ⟨hx, hb, hml, hown, hts⟩ (c_m_next l D t G ak av h45 mo n aBy aSt aDe aPa aIt aId aPr aNa aSi aSe aIw aEx aOl aPl aTa aAt aLo aS1 aS2 aS3 aS4 aS5 aS6 aO1 aO2 aO3 aO4 aO5 dr wt 0 (-1) f_m) ⟨cw9B 2 hts mw_507 mw_508 mw_428 rfl rfl (by decide +kernel) ⟨Nat.le_of_ble_eq_true rfl, Nat.le_of_ble_eq_true rfl⟩, hts _ mw_509, hts _ mw_510⟩ (hP_V (q := (R_Mo, F_Mo, 41)) kE_ok hE hK hH f_m rfl) rfl rfl hl.1 rfl (lv_room (Nat.le_of_ble_eq_true rfl)) d_Mo_along_19 ⟨Nat.le_of_ble_eq_true rfl, Nat.le_of_ble_eq_true rfl⟩) hLo (fun r56 h57 H58 locs hp60 hH z59 hLo => ?_)
  have hz : s.heap.size ≤ H58.size := Nat.le_trans hz z59
  obtain ⟨rfl, rfl⟩ := hp60
  refine lv_istore (lv' := [(6, .int (-1)), (5, .int 2), (4, .int 68), (8, .int 34), (7, .int 0), (0, .ref mo), (1, .int 0), (2, .int (nI P9)), (3, .int 1)]) hx hb d_Mo_along_22 hl (by decide) rfl (fun ls hl => ?_)
  refine lv_iload hx hb d_Mo_along_24 (lv_at hl 0 rfl) ?_
  refine lv_if_ge (tgt := 32) hx hb d_Mo_along_26 (by decide) (fun hc61 => absurd hc61 (by decide)) (fun hc61 => ?_)
  refine lv_iload hx hb d_Mo_along_29 (lv_at hl 2 rfl) ?_
  exact W.iret (v := 68) hx hb hr (fun t9 ht hW => ⟨68, h45, rfl, ⟨hkp, _, f_aPl⟩, by rw [ht]; exact hH, by rw [ht]; exact hz⟩) hLo d_Mo_along_31

set_option maxHeartbeats 4000000 in
set_option maxRecDepth 100000 in
theorem c_m_tables (l : Launch) (D : va_G) (t : Nat → ClassId) (G : hG) (ak av : Nat → Nat) (h : hM) (mo n aBy aSt aDe aPa aIt aId aPr aNa aSi aSe aIw aEx aOl aPl aTa aAt aLo aS1 aS2 aS3 aS4 aS5 aS6 aO1 aO2 aO3 aO4 aO5 : Nat) (dr wt : Int32) (gTa : Nat → Int32) (f_m : h mo = some (.inr (9, [.int 0, .int (nI n), .int 0, .ref aBy, .ref aSt, .ref aDe, .int 0, .int (-1), .int wt, .ref aPa, .int 1, .ref aIt, .ref aId, .ref aPr, .ref aNa, .ref aSi, .ref aSe, .ref aIw, .ref aEx, .ref aOl, .int 0, .ref aPl, .int dr, .int 0, .ref aTa, .ref aAt, .ref aLo, .int 0, .int 0, .ref aS1, .ref aS2, .ref aS3, .ref aS4, .ref aS5, .ref aS6, .int 0, .ref aO1, .ref aO2, .ref aO3, .ref aO4, .ref aO5]))) (f_aTa : h aTa = some (.inl ((t 2), 30, .inl gTa))) : Met l y_Mo_tables (.code y_Mo_tables b_Mo_tables 3 none :: lw_g) { frames := 1, cells := 0, slots := 0, locals := 24 } (hP (kE D t G ak av) D vwCl G h [.ref mo]) (hQv D vwCl G (fun h' => kp [mo, aTa] h h' ∧ h' mo = some (.inr (9, [.int 0, .int (nI n), .int 0, .ref aBy, .ref aSt, .ref aDe, .int 0, .int (-1), .int wt, .ref aPa, .int 1, .ref aIt, .ref aId, .ref aPr, .ref aNa, .ref aSi, .ref aSe, .ref aIw, .ref aEx, .ref aOl, .int 0, .ref aPl, .int 1, .int 0, .ref aTa, .ref aAt, .ref aLo, .int 0, .int 0, .ref aS1, .ref aS2, .ref aS3, .ref aS4, .ref aS5, .ref aS6, .int 0, .ref aO1, .ref aO2, .ref aO3, .ref aO4, .ref aO5])) ∧ ∃ g : Nat → Int32, h' aTa = some (.inl ((t 2), 30, .inl g)) ∧ g 0 = 0)) 0 0 G.P := by
  refine Met.ofW (cc := b_Mo_tables) (maxL := 3) (ret := none) (by decide) rfl ?_
  intro p e s m args below meth c s₁ Bd hml hv
  obtain ⟨ha, hE, hH⟩ := hv
  have hx := Bd.exec
  have hb := Bd.bytes
  have hr := Bd.returns
  have hts : ∀ w ∈ lw_g, w.before args s = true := fun w hw => atoms_spec (ws := (.code y_Mo_tables b_Mo_tables 3 none :: lw_g)) Bd.pre w (List.mem_cons_of_mem _ hw)
  have hown : s.vm.findClass R_Mo = some m.cls := findClass_of_methodNamed Bd.named
  have hlocks := Bd.notSynchronized
  have hK := hE.1
  have hH0 := hH
  have hLo : hLc G.P [] := hLc_nil
  have hz : s.heap.size ≤ s.heap.size := Nat.le_refl _
  have hkp : kp [mo, aTa] h h := kp_rf
  have hl := lv_entry [.ref mo] (n := 3) (Nat.le_of_ble_eq_true rfl)
  rw [show entryFrame m args 3 = F0 m 0 ((lg_sl [.ref mo] ++ List.replicate (3 - (lg_sl [.ref mo]).length) Slot.unset).toArray) [] from (by rw [ha]; exact lg_entry_eq m [.ref mo] 3)]
  generalize (lg_sl [.ref mo] ++ List.replicate (3 - (lg_sl [.ref mo]).length) Slot.unset).toArray = ls at hl ⊢
  have hl : lv_has ls 3 [(0, .ref mo)] := hl
  refine lv_aload_n hx hb d_Mo_tables_0 rfl (lv_at hl 0 rfl) ?_
  refine lv_iconst (v := 1) hx hb d_Mo_tables_1 (by decide) ?_
  refine hm_put (ci := 9) (v := .int 1) (ty := .int) (C := R_Mo) (T := F_Mo) (N := 41) hx hb hts ig_Mo t_Mo tk_Mo nm_Mo hown hK hH hLo f_m rfl 22 (by decide) (hts _ mw_515) (fun _ h9 => h9) rfl (by decide +kernel) rfl rfl (Nat.le_of_ble_eq_true rfl) d_Mo_tables_2 (fun H1 locs hH z2 hLo => ?_)
  have hz : s.heap.size ≤ H1.size := by rw [z2]; exact hz
  obtain ⟨h3, e4⟩ : ∃ z, z = hu h mo (.inr (9, [.int 0, .int (nI n), .int 0, .ref aBy, .ref aSt, .ref aDe, .int 0, .int (-1), .int wt, .ref aPa, .int 1, .ref aIt, .ref aId, .ref aPr, .ref aNa, .ref aSi, .ref aSe, .ref aIw, .ref aEx, .ref aOl, .int 0, .ref aPl, .int 1, .int 0, .ref aTa, .ref aAt, .ref aLo, .int 0, .int 0, .ref aS1, .ref aS2, .ref aS3, .ref aS4, .ref aS5, .ref aS6, .int 0, .ref aO1, .ref aO2, .ref aO3, .ref aO4, .ref aO5])) := ⟨_, rfl⟩
  have hH : hm D vwCl G h3 H1 := by rw [e4]; exact hH
  have f_aTa : h3 aTa = some (.inl ((t 2), 30, .inl gTa)) := by rw [e4, hu_n (h_neA f_aTa f_m)]; exact f_aTa
  have f_m : h3 mo = some (.inr (9, [.int 0, .int (nI n), .int 0, .ref aBy, .ref aSt, .ref aDe, .int 0, .int (-1), .int wt, .ref aPa, .int 1, .ref aIt, .ref aId, .ref aPr, .ref aNa, .ref aSi, .ref aSe, .ref aIw, .ref aEx, .ref aOl, .int 0, .ref aPl, .int 1, .int 0, .ref aTa, .ref aAt, .ref aLo, .int 0, .int 0, .ref aS1, .ref aS2, .ref aS3, .ref aS4, .ref aS5, .ref aS6, .int 0, .ref aO1, .ref aO2, .ref aO3, .ref aO4, .ref aO5])) := by rw [e4]; exact hu_s _ _ _
  have hkp : kp [mo, aTa] h h3 := by rw [e4]; exact kp_put hkp (by simp)
  refine lv_aload_n hx hb d_Mo_tables_5 rfl (lv_at hl 0 rfl) ?_
  refine hm_get (ci := 9) (v := .ref aTa) (C := R_Mo) (T := F_Mo) (N := 41) hx hb hts ig_Mo hown hK hH f_m rfl 24 (by decide) (hts _ mw_411) (fun _ h9 => h9) rfl d_Mo_tables_6 ?_
  refine lv_iconst (v := 0) hx hb d_Mo_tables_9 (by decide) ?_
  refine lv_iconst (v := 0) hx hb d_Mo_tables_10 (by decide) ?_
  refine hj_iast hx hb hK hH hLo 2 f_aTa rfl 0 (by decide) (by decide) (by decide) d_Mo_tables_11 (fun H5 locs hH z6 hLo => ?_)
  have hz : s.heap.size ≤ H5.size := by rw [z6]; exact hz
  obtain ⟨h7, e8⟩ : ∃ z, z = hu h3 aTa (.inl ((t 2), 30, .inl (upd gTa 0 0))) := ⟨_, rfl⟩
  have hH : hm D vwCl G h7 H5 := by rw [e8]; exact hH
  have f_m : h7 mo = some (.inr (9, [.int 0, .int (nI n), .int 0, .ref aBy, .ref aSt, .ref aDe, .int 0, .int (-1), .int wt, .ref aPa, .int 1, .ref aIt, .ref aId, .ref aPr, .ref aNa, .ref aSi, .ref aSe, .ref aIw, .ref aEx, .ref aOl, .int 0, .ref aPl, .int 1, .int 0, .ref aTa, .ref aAt, .ref aLo, .int 0, .int 0, .ref aS1, .ref aS2, .ref aS3, .ref aS4, .ref aS5, .ref aS6, .int 0, .ref aO1, .ref aO2, .ref aO3, .ref aO4, .ref aO5])) := by rw [e8, hu_n (Ne.symm (h_neA f_aTa f_m))]; exact f_m
  have f_aTa : h7 aTa = some (.inl ((t 2), 30, .inl (upd gTa 0 0))) := by rw [e8]; exact hu_s _ _ _
  have hkp : kp [mo, aTa] h h7 := by rw [e8]; exact kp_put hkp (by simp)
  refine lv_iconst (v := 0) hx hb d_Mo_tables_12 (by decide) ?_
  refine lv_istore_n (lv' := [(1, .int 0), (0, .ref mo)]) hx hb d_Mo_tables_13 rfl hl (by decide) rfl (fun ls hl => ?_)
  refine lv_iload_n hx hb d_Mo_tables_14 rfl (lv_at hl 0 rfl) ?_
  refine lv_aload_n hx hb d_Mo_tables_15 rfl (lv_at hl 1 rfl) ?_
  refine hm_get (ci := 9) (v := .int 1) (C := R_Mo) (T := F_Mo) (N := 41) hx hb hts ig_Mo hown hK hH f_m rfl 22 (by decide) (hts _ mw_515) (fun _ h9 => h9) rfl d_Mo_tables_16 ?_
  refine lv_icmp_ge (tgt := 91) hx hb d_Mo_tables_19 (by decide) (fun hc9 => absurd hc9 (by decide)) (fun hc9 => ?_)
  refine lv_aload_n hx hb d_Mo_tables_22 rfl (lv_at hl 1 rfl) ?_
  refine lv_aload_n hx hb d_Mo_tables_23 rfl (lv_at hl 1 rfl) ?_
  refine hm_get (ci := 9) (v := .ref aTa) (C := R_Mo) (T := F_Mo) (N := 41) hx hb hts ig_Mo hown hK hH f_m rfl 24 (by decide) (hts _ mw_411) (fun _ h9 => h9) rfl d_Mo_tables_24 ?_
  refine lv_iload_n hx hb d_Mo_tables_27 rfl (lv_at hl 0 rfl) ?_
  refine hj_iald hx hb hK hH 2 f_aTa rfl 0 (by decide) (by decide) (by decide) d_Mo_tables_28 ?_
  refine lv_iconst (v := -1) hx hb d_Mo_tables_29 (by decide) ?_
  refine hm_calli (va_runV (As := [.int ((upd gTa 0 0) 0), .int (-1)]) (b := mo) (rest := []) ⟨hx, hb, hml, hown, hts⟩ (c_m_next l D t G ak av h7 mo n aBy aSt aDe aPa aIt aId aPr aNa aSi aSe aIw aEx aOl aPl aTa aAt aLo aS1 aS2 aS3 aS4 aS5 aS6 aO1 aO2 aO3 aO4 aO5 1 wt ((upd gTa 0 0) 0) (-1) f_m) ⟨cw9B 2 hts mw_507 mw_508 mw_428 rfl rfl (by decide +kernel) ⟨Nat.le_of_ble_eq_true rfl, Nat.le_of_ble_eq_true rfl⟩, hts _ mw_509, hts _ mw_510⟩ (hP_V (q := (R_Mo, F_Mo, 41)) kE_ok hE hK hH f_m rfl) rfl rfl hl.1 rfl (lv_room (Nat.le_of_ble_eq_true rfl)) d_Mo_tables_30 ⟨Nat.le_of_ble_eq_true rfl, Nat.le_of_ble_eq_true rfl⟩) hLo (fun r10 h11 H12 locs hp14 hH z13 hLo => ?_)
  have hz : s.heap.size ≤ H12.size := Nat.le_trans hz z13
  obtain ⟨rfl, rfl⟩ := hp14
  refine lv_istore_n (lv' := [(2, .int (-1)), (1, .int 0), (0, .ref mo)]) hx hb d_Mo_tables_33 rfl hl (by decide) rfl (fun ls hl => ?_)
  refine lv_iload_n hx hb d_Mo_tables_34 rfl (lv_at hl 0 rfl) ?_
  refine lv_if_lt (tgt := 85) hx hb d_Mo_tables_35 (by decide) (fun hc15 => ?_) (fun hc15 => absurd (by decide) hc15)
  refine lv_iinc (v := 0 + 1) (lv' := [(1, .int (0 + 1)), (2, .int (-1)), (0, .ref mo)]) hx hb d_Mo_tables_85 hl (k := 1) rfl (by rfl) (by decide) rfl (fun ls hl => ?_)
  refine lv_goto (tgt := 14) hx hb d_Mo_tables_88 (by decide) ?_
  refine lv_iload_n hx hb d_Mo_tables_14 rfl (lv_at hl 0 rfl) ?_
  refine lv_aload_n hx hb d_Mo_tables_15 rfl (lv_at hl 2 rfl) ?_
  refine hm_get (ci := 9) (v := .int 1) (C := R_Mo) (T := F_Mo) (N := 41) hx hb hts ig_Mo hown hK hH f_m rfl 22 (by decide) (hts _ mw_515) (fun _ h9 => h9) rfl d_Mo_tables_16 ?_
  refine lv_icmp_ge (tgt := 91) hx hb d_Mo_tables_19 (by decide) (fun hc16 => ?_) (fun hc16 => absurd (by decide) hc16)
  exact W.vret hx hb hr (fun t9 ht hW => ⟨h7, rfl, ⟨hkp, f_m, _, f_aTa, upd0 _ _ rfl⟩, by rw [ht]; exact hH, by rw [ht]; exact hz⟩) hLo d_Mo_tables_91

set_option maxHeartbeats 4000000 in
set_option maxRecDepth 100000 in
theorem c_m_measure (l : Launch) (D : va_G) (t : Nat → ClassId) (G : hG) (ak av : Nat → Nat) (h : hM) (mo n aBy aSt aDe aPa aIt aId aPr aNa aSi aSe aIw aEx aOl aPl aTa aAt aLo aS1 aS2 aS3 aS4 aS5 aS6 aO1 aO2 aO3 aO4 aO5 : Nat) (dr wt : Int32) (gTa gAt gLo : Nat → Int32) (f_m : h mo = some (.inr (9, [.int 0, .int (nI n), .int 0, .ref aBy, .ref aSt, .ref aDe, .int 0, .int (-1), .int wt, .ref aPa, .int 1, .ref aIt, .ref aId, .ref aPr, .ref aNa, .ref aSi, .ref aSe, .ref aIw, .ref aEx, .ref aOl, .int 0, .ref aPl, .int dr, .int 0, .ref aTa, .ref aAt, .ref aLo, .int 0, .int 0, .ref aS1, .ref aS2, .ref aS3, .ref aS4, .ref aS5, .ref aS6, .int 0, .ref aO1, .ref aO2, .ref aO3, .ref aO4, .ref aO5]))) (f_aTa : h aTa = some (.inl ((t 2), 30, .inl gTa))) (f_aAt : h aAt = some (.inl ((t 2), 700, .inl gAt))) (f_aLo : h aLo = some (.inl ((t 2), 700, .inl gLo))) (ne_aAt_aLo : aAt ≠ aLo) : Met l y_Mo_measure (.code y_Mo_measure b_Mo_measure 5 (some .int) :: lw_g) { frames := 2, cells := 0, slots := 0, locals := 52 } (hP (kE D t G ak av) D vwCl G h [.ref mo, .int 0]) (hQi D vwCl G (fun r h' => r = 22 ∧ kp [mo, aTa, aAt, aLo] h h' ∧ h' mo = some (.inr (9, [.int 0, .int (nI n), .int 0, .ref aBy, .ref aSt, .ref aDe, .int 0, .int (-1), .int wt, .ref aPa, .int 1, .ref aIt, .ref aId, .ref aPr, .ref aNa, .ref aSi, .ref aSe, .ref aIw, .ref aEx, .ref aOl, .int 0, .ref aPl, .int 1, .int 0, .ref aTa, .ref aAt, .ref aLo, .int 0, .int 0, .ref aS1, .ref aS2, .ref aS3, .ref aS4, .ref aS5, .ref aS6, .int 0, .ref aO1, .ref aO2, .ref aO3, .ref aO4, .ref aO5])) ∧ ∃ gTa gAt gLo : Nat → Int32, h' aTa = some (.inl ((t 2), 30, .inl gTa)) ∧ h' aAt = some (.inl ((t 2), 700, .inl gAt)) ∧ h' aLo = some (.inl ((t 2), 700, .inl gLo)) ∧ gTa 0 = 0 ∧ gAt 0 = 20)) 0 0 G.P := by
  refine Met.ofW (cc := b_Mo_measure) (maxL := 5) (ret := (some .int)) (by decide) rfl ?_
  intro p e s m args below meth c s₁ Bd hml hv
  obtain ⟨ha, hE, hH⟩ := hv
  have hx := Bd.exec
  have hb := Bd.bytes
  have hr := Bd.returns
  have hts : ∀ w ∈ lw_g, w.before args s = true := fun w hw => atoms_spec (ws := (.code y_Mo_measure b_Mo_measure 5 (some .int) :: lw_g)) Bd.pre w (List.mem_cons_of_mem _ hw)
  have hown : s.vm.findClass R_Mo = some m.cls := findClass_of_methodNamed Bd.named
  have hlocks := Bd.notSynchronized
  have hK := hE.1
  have hH0 := hH
  have hLo : hLc G.P [] := hLc_nil
  have hz : s.heap.size ≤ s.heap.size := Nat.le_refl _
  have hkp : kp [mo, aTa, aAt, aLo] h h := kp_rf
  have hl := lv_entry [.ref mo, .int 0] (n := 5) (Nat.le_of_ble_eq_true rfl)
  rw [show entryFrame m args 5 = F0 m 0 ((lg_sl [.ref mo, .int 0] ++ List.replicate (5 - (lg_sl [.ref mo, .int 0]).length) Slot.unset).toArray) [] from (by rw [ha]; exact lg_entry_eq m [.ref mo, .int 0] 5)]
  generalize (lg_sl [.ref mo, .int 0] ++ List.replicate (5 - (lg_sl [.ref mo, .int 0]).length) Slot.unset).toArray = ls at hl ⊢
  have hl : lv_has ls 5 [(0, .ref mo), (1, .int 0)] := hl
  refine lv_aload_n hx hb d_Mo_measure_0 rfl (lv_at hl 0 rfl) ?_
  refine hm_callv (va_runV (As := []) (b := mo) (rest := []) ⟨hx, hb, hml, hown, hts⟩ (c_m_tables l D t G ak av h mo n aBy aSt aDe aPa aIt aId aPr aNa aSi aSe aIw aEx aOl aPl aTa aAt aLo aS1 aS2 aS3 aS4 aS5 aS6 aO1 aO2 aO3 aO4 aO5 dr wt gTa f_m f_aTa) ⟨cw9B 0 hts mw_516 mw_517 mw_428 rfl rfl (by decide +kernel) ⟨Nat.le_of_ble_eq_true rfl, Nat.le_of_ble_eq_true rfl⟩, hts _ mw_518, hts _ mw_519⟩ (hP_V (q := (R_Mo, F_Mo, 41)) kE_ok hE hK hH f_m rfl) rfl rfl hl.1 rfl (lv_room (Nat.le_of_ble_eq_true rfl)) d_Mo_measure_1 ⟨Nat.le_of_ble_eq_true rfl, Nat.le_of_ble_eq_true rfl⟩) hLo (fun h1 H2 locs hp4 hH z3 hLo => ?_)
  have hz : s.heap.size ≤ H2.size := Nat.le_trans hz z3
  obtain ⟨hk9, hm9, gT, hg9, hta⟩ := hp4
  have f_aAt : h1 aAt = some (.inl ((t 2), 700, .inl gAt)) := kp_at hk9 f_aAt (nmc (h_neA f_aAt f_m) (nmc (h_neL (k1 := 700) (k2 := 30) f_aAt f_aTa rfl rfl (by omega)) nm0))
  have f_aLo : h1 aLo = some (.inl ((t 2), 700, .inl gLo)) := kp_at hk9 f_aLo (nmc (h_neA f_aLo f_m) (nmc (h_neL (k1 := 700) (k2 := 30) f_aLo f_aTa rfl rfl (by omega)) nm0))
  have hkp : kp [mo, aTa, aAt, aLo] h h1 := kp_tr2 hkp hk9 (List.forall_mem_cons.mpr ⟨Or.inl (by simp), List.forall_mem_cons.mpr ⟨Or.inl (by simp), List.forall_mem_nil _⟩⟩)
  have f_m : h1 mo = some (.inr (9, [.int 0, .int (nI n), .int 0, .ref aBy, .ref aSt, .ref aDe, .int 0, .int (-1), .int wt, .ref aPa, .int 1, .ref aIt, .ref aId, .ref aPr, .ref aNa, .ref aSi, .ref aSe, .ref aIw, .ref aEx, .ref aOl, .int 0, .ref aPl, .int 1, .int 0, .ref aTa, .ref aAt, .ref aLo, .int 0, .int 0, .ref aS1, .ref aS2, .ref aS3, .ref aS4, .ref aS5, .ref aS6, .int 0, .ref aO1, .ref aO2, .ref aO3, .ref aO4, .ref aO5])) := hm9
  have f_aTa : h1 aTa = some (.inl ((t 2), 30, .inl gT)) := hg9
  refine lv_iload_n hx hb d_Mo_measure_4 rfl (lv_at hl 1 rfl) ?_
  refine lv_bipush (v := 20) hx hb d_Mo_measure_5 (by decide) ?_
  refine lv_iadd hx hb d_Mo_measure_7 ?_
  refine lv_topi (fun v5 e6 => ?_)
  obtain rfl : v5 = 20 := e6.trans (by decide)
  refine lv_istore_n (lv' := [(2, .int 20), (0, .ref mo), (1, .int 0)]) hx hb d_Mo_measure_8 rfl hl (by decide) rfl (fun ls hl => ?_)
  refine lv_iconst (v := 0) hx hb d_Mo_measure_9 (by decide) ?_
  refine lv_istore_n (lv' := [(3, .int 0), (2, .int 20), (0, .ref mo), (1, .int 0)]) hx hb d_Mo_measure_10 rfl hl (by decide) rfl (fun ls hl => ?_)
  refine lv_iload_n hx hb d_Mo_measure_11 rfl (lv_at hl 0 rfl) ?_
  refine lv_aload_n hx hb d_Mo_measure_12 rfl (lv_at hl 2 rfl) ?_
  refine hm_get (ci := 9) (v := .int 1) (C := R_Mo) (T := F_Mo) (N := 41) hx hb hts ig_Mo hown hK hH f_m rfl 22 (by decide) (hts _ mw_515) (fun _ h9 => h9) rfl d_Mo_measure_13 ?_
  refine lv_icmp_ge (tgt := 74) hx hb d_Mo_measure_16 (by decide) (fun hc7 => absurd hc7 (by decide)) (fun hc7 => ?_)
  refine lv_aload_n hx hb d_Mo_measure_19 rfl (lv_at hl 2 rfl) ?_
  refine hm_get (ci := 9) (v := .ref aTa) (C := R_Mo) (T := F_Mo) (N := 41) hx hb hts ig_Mo hown hK hH f_m rfl 24 (by decide) (hts _ mw_411) (fun _ h9 => h9) rfl d_Mo_measure_20 ?_
  refine lv_iload_n hx hb d_Mo_measure_23 rfl (lv_at hl 0 rfl) ?_
  refine hj_iald hx hb hK hH 2 f_aTa rfl 0 (by decide) (by decide) (by decide) d_Mo_measure_24 ?_
  refine lv_topi (fun v8 e9 => ?_)
  obtain rfl : v8 = 0 := e9.trans (hta)
  refine lv_istore (lv' := [(4, .int 0), (3, .int 0), (2, .int 20), (0, .ref mo), (1, .int 0)]) hx hb d_Mo_measure_25 hl (by decide) rfl (fun ls hl => ?_)
  refine lv_aload_n hx hb d_Mo_measure_27 rfl (lv_at hl 3 rfl) ?_
  refine hm_get (ci := 9) (v := .ref aAt) (C := R_Mo) (T := F_Mo) (N := 41) hx hb hts ig_Mo hown hK hH f_m rfl 25 (by decide) (hts _ mw_412) (fun _ h9 => h9) rfl d_Mo_measure_28 ?_
  refine lv_iload hx hb d_Mo_measure_31 (lv_at hl 0 rfl) ?_
  refine lv_iload_n hx hb d_Mo_measure_33 rfl (lv_at hl 2 rfl) ?_
  refine hj_iast hx hb hK hH hLo 2 f_aAt rfl 0 (by decide) (by decide) (by decide) d_Mo_measure_34 (fun H10 locs hH z11 hLo => ?_)
  have hz : s.heap.size ≤ H10.size := by rw [z11]; exact hz
  obtain ⟨h12, e13⟩ : ∃ z, z = hu h1 aAt (.inl ((t 2), 700, .inl (upd gAt 0 20))) := ⟨_, rfl⟩
  have hH : hm D vwCl G h12 H10 := by rw [e13]; exact hH
  have f_m : h12 mo = some (.inr (9, [.int 0, .int (nI n), .int 0, .ref aBy, .ref aSt, .ref aDe, .int 0, .int (-1), .int wt, .ref aPa, .int 1, .ref aIt, .ref aId, .ref aPr, .ref aNa, .ref aSi, .ref aSe, .ref aIw, .ref aEx, .ref aOl, .int 0, .ref aPl, .int 1, .int 0, .ref aTa, .ref aAt, .ref aLo, .int 0, .int 0, .ref aS1, .ref aS2, .ref aS3, .ref aS4, .ref aS5, .ref aS6, .int 0, .ref aO1, .ref aO2, .ref aO3, .ref aO4, .ref aO5])) := by rw [e13, hu_n (Ne.symm (h_neA f_aAt f_m))]; exact f_m
  have f_aTa : h12 aTa = some (.inl ((t 2), 30, .inl gT)) := by rw [e13, hu_n (h_neL (k1 := 30) (k2 := 700) f_aTa f_aAt rfl rfl (by omega))]; exact f_aTa
  have f_aLo : h12 aLo = some (.inl ((t 2), 700, .inl gLo)) := by rw [e13, hu_n (Ne.symm ne_aAt_aLo)]; exact f_aLo
  have f_aAt : h12 aAt = some (.inl ((t 2), 700, .inl (upd gAt 0 20))) := by rw [e13]; exact hu_s _ _ _
  have hkp : kp [mo, aTa, aAt, aLo] h h12 := by rw [e13]; exact kp_put hkp (by simp)
  refine lv_aload_n hx hb d_Mo_measure_35 rfl (lv_at hl 3 rfl) ?_
  refine hm_get (ci := 9) (v := .ref aLo) (C := R_Mo) (T := F_Mo) (N := 41) hx hb hts ig_Mo hown hK hH f_m rfl 26 (by decide) (hts _ mw_413) (fun _ h9 => h9) rfl d_Mo_measure_36 ?_
  refine lv_iload hx hb d_Mo_measure_39 (lv_at hl 0 rfl) ?_
  refine lv_aload_n hx hb d_Mo_measure_41 rfl (lv_at hl 3 rfl) ?_
  refine lv_iload hx hb d_Mo_measure_42 (lv_at hl 0 rfl) ?_
  refine lv_iconst (v := 0) hx hb d_Mo_measure_44 (by decide) ?_
  refine lv_iconst (v := 0) hx hb d_Mo_measure_45 (by decide) ?_
  refine hm_calli (va_runV (As := [.int 0, .int 0, .int 0]) (b := mo) (rest := [.int 0, .ref aLo]) ⟨hx, hb, hml, hown, hts⟩ (c_m_along0 l D t G ak av h12 mo n aBy aSt aDe aPa aIt aId aPr aNa aSi aSe aIw aEx aOl aPl aTa aAt aLo aS1 aS2 aS3 aS4 aS5 aS6 aO1 aO2 aO3 aO4 aO5 1 wt f_m) ⟨cw9B 3 hts mw_520 mw_521 mw_428 rfl rfl (by decide +kernel) ⟨Nat.le_of_ble_eq_true rfl, Nat.le_of_ble_eq_true rfl⟩, hts _ mw_522, hts _ mw_523⟩ (hP_V (q := (R_Mo, F_Mo, 41)) kE_ok hE hK hH f_m rfl) rfl rfl hl.1 rfl (lv_room (Nat.le_of_ble_eq_true rfl)) d_Mo_measure_46 ⟨Nat.le_of_ble_eq_true rfl, Nat.le_of_ble_eq_true rfl⟩) hLo (fun r14 h15 H16 locs hp18 hH z17 hLo => ?_)
  have hz : s.heap.size ≤ H16.size := Nat.le_trans hz z17
  obtain ⟨rfl, rfl⟩ := hp18
  refine lv_sipush (v := 2047) hx hb d_Mo_measure_49 (by decide) ?_
  refine lv_iadd hx hb d_Mo_measure_52 ?_
  refine lv_sipush (v := 2048) hx hb d_Mo_measure_53 (by decide) ?_
  refine lv_idiv hx hb d_Mo_measure_56 (by decide) ?_
  refine lv_topi (fun v19 e20 => ?_)
  obtain rfl : v19 = 1 := e20.trans (by decide)
  refine hj_iast hx hb hK hH hLo 2 f_aLo rfl 0 (by decide) (by decide) (by decide) d_Mo_measure_57 (fun H21 locs hH z22 hLo => ?_)
  have hz : s.heap.size ≤ H21.size := by rw [z22]; exact hz
  obtain ⟨h23, e24⟩ : ∃ z, z = hu h12 aLo (.inl ((t 2), 700, .inl (upd gLo 0 1))) := ⟨_, rfl⟩
  have hH : hm D vwCl G h23 H21 := by rw [e24]; exact hH
  have f_m : h23 mo = some (.inr (9, [.int 0, .int (nI n), .int 0, .ref aBy, .ref aSt, .ref aDe, .int 0, .int (-1), .int wt, .ref aPa, .int 1, .ref aIt, .ref aId, .ref aPr, .ref aNa, .ref aSi, .ref aSe, .ref aIw, .ref aEx, .ref aOl, .int 0, .ref aPl, .int 1, .int 0, .ref aTa, .ref aAt, .ref aLo, .int 0, .int 0, .ref aS1, .ref aS2, .ref aS3, .ref aS4, .ref aS5, .ref aS6, .int 0, .ref aO1, .ref aO2, .ref aO3, .ref aO4, .ref aO5])) := by rw [e24, hu_n (Ne.symm (h_neA f_aLo f_m))]; exact f_m
  have f_aTa : h23 aTa = some (.inl ((t 2), 30, .inl gT)) := by rw [e24, hu_n (h_neL (k1 := 30) (k2 := 700) f_aTa f_aLo rfl rfl (by omega))]; exact f_aTa
  have f_aAt : h23 aAt = some (.inl ((t 2), 700, .inl (upd gAt 0 20))) := by rw [e24, hu_n ne_aAt_aLo]; exact f_aAt
  have f_aLo : h23 aLo = some (.inl ((t 2), 700, .inl (upd gLo 0 1))) := by rw [e24]; exact hu_s _ _ _
  have hkp : kp [mo, aTa, aAt, aLo] h h23 := by rw [e24]; exact kp_put hkp (by simp)
  refine lv_iload_n hx hb d_Mo_measure_58 rfl (lv_at hl 2 rfl) ?_
  refine lv_aload_n hx hb d_Mo_measure_59 rfl (lv_at hl 3 rfl) ?_
  refine hm_get (ci := 9) (v := .ref aLo) (C := R_Mo) (T := F_Mo) (N := 41) hx hb hts ig_Mo hown hK hH f_m rfl 26 (by decide) (hts _ mw_413) (fun _ h9 => h9) rfl d_Mo_measure_60 ?_
  refine lv_iload hx hb d_Mo_measure_63 (lv_at hl 0 rfl) ?_
  refine hj_iald hx hb hK hH 2 f_aLo rfl 0 (by decide) (by decide) (by decide) d_Mo_measure_65 ?_
  refine lv_topi (fun v25 e26 => ?_)
  obtain rfl : v25 = 1 := e26.trans (upd0 _ _ rfl)
  refine lv_iadd hx hb d_Mo_measure_66 ?_
  refine lv_topi (fun v27 e28 => ?_)
  obtain rfl : v27 = 21 := e28.trans (by decide)
  refine lv_istore_n (lv' := [(2, .int 21), (4, .int 0), (3, .int 0), (0, .ref mo), (1, .int 0)]) hx hb d_Mo_measure_67 rfl hl (by decide) rfl (fun ls hl => ?_)
  refine lv_iinc (v := 0 + 1) (lv' := [(3, .int (0 + 1)), (2, .int 21), (4, .int 0), (0, .ref mo), (1, .int 0)]) hx hb d_Mo_measure_68 hl (k := 2) rfl (by rfl) (by decide) rfl (fun ls hl => ?_)
  refine lv_goto (tgt := 11) hx hb d_Mo_measure_71 (by decide) ?_
  refine lv_iload_n hx hb d_Mo_measure_11 rfl (lv_at hl 0 rfl) ?_
  refine lv_aload_n hx hb d_Mo_measure_12 rfl (lv_at hl 3 rfl) ?_
  refine hm_get (ci := 9) (v := .int 1) (C := R_Mo) (T := F_Mo) (N := 41) hx hb hts ig_Mo hown hK hH f_m rfl 22 (by decide) (hts _ mw_515) (fun _ h9 => h9) rfl d_Mo_measure_13 ?_
  refine lv_icmp_ge (tgt := 74) hx hb d_Mo_measure_16 (by decide) (fun hc29 => ?_) (fun hc29 => absurd (by decide) hc29)
  refine lv_iload_n hx hb d_Mo_measure_74 rfl (lv_at hl 1 rfl) ?_
  refine lv_iconst (v := 1) hx hb d_Mo_measure_75 (by decide) ?_
  refine lv_iadd hx hb d_Mo_measure_76 ?_
  refine lv_iload_n hx hb d_Mo_measure_77 rfl (lv_at hl 4 rfl) ?_
  refine lv_isub hx hb d_Mo_measure_78 ?_
  exact W.iret (v := (21 + 1) - 0) hx hb hr (fun t9 ht hW => ⟨(21 + 1) - 0, h23, rfl, ⟨by decide, hkp, f_m, _, _, _, f_aTa, f_aAt, f_aLo, hta, upd0 _ _ rfl⟩, by rw [ht]; exact hH, by rw [ht]; exact hz⟩) hLo d_Mo_measure_79

set_option maxHeartbeats 4000000 in
set_option maxRecDepth 100000 in
theorem c_m_design (l : Launch) (D : va_G) (t : Nat → ClassId) (G : hG) (ak av : Nat → Nat) (h : hM) (mo n aBy aSt aDe aPa aIt aId aPr aNa aSi aSe aIw aEx aOl aPl aTa aAt aLo aS1 aS2 aS3 aS4 aS5 aS6 aO1 aO2 aO3 aO4 aO5 : Nat) (wt : Int32) (gPl gId gTa gAt gLo : Nat → Int32) (nu : Int32) (f_m : h mo = some (.inr (9, [.int 0, .int (nI n), .int 0, .ref aBy, .ref aSt, .ref aDe, .int 0, .int (-1), .int wt, .ref aPa, .int 1, .ref aIt, .ref aId, .ref aPr, .ref aNa, .ref aSi, .ref aSe, .ref aIw, .ref aEx, .ref aOl, .int 0, .ref aPl, .int 1, .int 0, .ref aTa, .ref aAt, .ref aLo, .int 0, .int 0, .ref aS1, .ref aS2, .ref aS3, .ref aS4, .ref aS5, .ref aS6, .int 0, .ref aO1, .ref aO2, .ref aO3, .ref aO4, .ref aO5]))) (f_aPl : h aPl = some (.inl ((t 0), 163840, .inl gPl))) (f_aId : h aId = some (.inl ((t 1), 700, .inl gId))) (f_aTa : h aTa = some (.inl ((t 2), 30, .inl gTa))) (f_aAt : h aAt = some (.inl ((t 2), 700, .inl gAt))) (f_aLo : h aLo = some (.inl ((t 2), 700, .inl gLo))) (zId : gId 0 = 1) (hta : gTa 0 = 0) (hat : gAt 0 = 20) (ne_aId_aAt : aId ≠ aAt) (ne_aId_aLo : aId ≠ aLo) (ne_aAt_aLo : aAt ≠ aLo) : Met l y_Mo_design (.code y_Mo_design b_Mo_design 10 none :: lw_g) { frames := 4, cells := 0, slots := 0, locals := 100 } (hP (kE D t G ak av) D vwCl G h [.ref mo, .int 0, .int 22, .int nu]) (hQv D vwCl G (fun h' => kp [aPl] h h' ∧ ∃ g : Nat → Int32, h' aPl = some (.inl ((t 0), 163840, .inl g)))) 0 0 G.P := by
  refine Met.ofW (cc := b_Mo_design) (maxL := 10) (ret := none) (by decide) rfl ?_
  intro p e s m args below meth c s₁ Bd hml hv
  obtain ⟨ha, hE, hH⟩ := hv
  have hx := Bd.exec
  have hb := Bd.bytes
  have hr := Bd.returns
  have hts : ∀ w ∈ lw_g, w.before args s = true := fun w hw => atoms_spec (ws := (.code y_Mo_design b_Mo_design 10 none :: lw_g)) Bd.pre w (List.mem_cons_of_mem _ hw)
  have hown : s.vm.findClass R_Mo = some m.cls := findClass_of_methodNamed Bd.named
  have hlocks := Bd.notSynchronized
  have hK := hE.1
  have hH0 := hH
  have hLo : hLc G.P [] := hLc_nil
  have hz : s.heap.size ≤ s.heap.size := Nat.le_refl _
  have hkp : kp [aPl] h h := kp_rf
  have hl := lv_entry [.ref mo, .int 0, .int 22, .int nu] (n := 10) (Nat.le_of_ble_eq_true rfl)
  rw [show entryFrame m args 10 = F0 m 0 ((lg_sl [.ref mo, .int 0, .int 22, .int nu] ++ List.replicate (10 - (lg_sl [.ref mo, .int 0, .int 22, .int nu]).length) Slot.unset).toArray) [] from (by rw [ha]; exact lg_entry_eq m [.ref mo, .int 0, .int 22, .int nu] 10)]
  generalize (lg_sl [.ref mo, .int 0, .int 22, .int nu] ++ List.replicate (10 - (lg_sl [.ref mo, .int 0, .int 22, .int nu]).length) Slot.unset).toArray = ls at hl ⊢
  have hl : lv_has ls 10 [(0, .ref mo), (1, .int 0), (2, .int 22), (3, .int nu)] := hl
  refine lv_iconst (v := 0) hx hb d_Mo_design_0 (by decide) ?_
  refine lv_topi (fun v1 e2 => ?_)
  obtain rfl : v1 = nI 0 := e2.trans (by decide)
  refine lv_istore (lv' := [(4, .int (nI 0)), (0, .ref mo), (1, .int 0), (2, .int 22), (3, .int nu)]) hx hb d_Mo_design_1 hl (by decide) rfl (fun ls hl => ?_)
  refine hm_loop (fun k ls H locs hh => ∃ (k9 : Nat) (g9 : Nat → Int32), k = 12288 - k9 ∧ lv_has ls 10 [(4, .int (nI k9)), (0, .ref mo), (1, .int 0), (2, .int 22), (3, .int nu)] ∧ hm D vwCl G hh H ∧ s.heap.size ≤ H.size ∧ hLc G.P locs ∧ kp [aPl] h hh ∧ hh mo = some (.inr (9, [.int 0, .int (nI n), .int 0, .ref aBy, .ref aSt, .ref aDe, .int 0, .int (-1), .int wt, .ref aPa, .int 1, .ref aIt, .ref aId, .ref aPr, .ref aNa, .ref aSi, .ref aSe, .ref aIw, .ref aEx, .ref aOl, .int 0, .ref aPl, .int 1, .int 0, .ref aTa, .ref aAt, .ref aLo, .int 0, .int 0, .ref aS1, .ref aS2, .ref aS3, .ref aS4, .ref aS5, .ref aS6, .int 0, .ref aO1, .ref aO2, .ref aO3, .ref aO4, .ref aO5])) ∧ hh aPl = some (.inl ((t 0), 163840, .inl g9)) ∧ hh aId = some (.inl ((t 1), 700, .inl gId)) ∧ hh aTa = some (.inl ((t 2), 30, .inl gTa)) ∧ hh aAt = some (.inl ((t 2), 700, .inl gAt)) ∧ hh aLo = some (.inl ((t 2), 700, .inl gLo)) ∧ (k9 ≤ 12288)) ?_ (hh := h) ⟨0, gPl, rfl, (lv_sub hl [0, 1, 2, 3, 4] rfl), hH, hz, hLo, hkp, f_m, f_aPl, f_aId, f_aTa, f_aAt, f_aLo, by omega⟩
  rintro k ls H locs hh ⟨k9, g9, hk, hl, hH, hz, hLo, hkp, f_m, f_aPl, f_aId, f_aTa, f_aAt, f_aLo, hk9⟩ ih
  refine lv_iload hx hb d_Mo_design_3 (lv_at hl 0 rfl) ?_
  refine lv_sipush (v := 2048) hx hb d_Mo_design_5 (by decide) ?_
  refine lv_iload_n hx hb d_Mo_design_8 rfl (lv_at hl 3 rfl) ?_
  refine lv_bipush (v := 16) hx hb d_Mo_design_9 (by decide) ?_
  refine lv_isub hx hb d_Mo_design_11 ?_
  refine lv_imul hx hb d_Mo_design_12 ?_
  refine lv_topi (fun v3 e4 => ?_)
  obtain rfl : v3 = nI 12288 := e4.trans (by decide)
  refine lv_icmp_ge (tgt := 30) hx hb d_Mo_design_13 (by decide) (fun hc5 => ?_) (fun hc5 => ?_)
  · skip
    refine lv_aload_n hx hb d_Mo_design_30 rfl (lv_at hl 1 rfl) ?_
    refine hm_get (ci := 9) (v := .ref aPl) (C := R_Mo) (T := F_Mo) (N := 41) hx hb hts ig_Mo hown hK hH f_m rfl 21 (by decide) (hts _ mw_410) (fun _ h9 => h9) rfl d_Mo_design_31 ?_
    refine lv_iconst (v := 0) hx hb d_Mo_design_34 (by decide) ?_
    refine lv_iconst (v := 1) hx hb d_Mo_design_35 (by decide) ?_
    refine hj_bast hx hb hK hH hLo 0 f_aPl rfl 0 (by decide) (by decide) (by decide) d_Mo_design_36 (fun H6 locs hH z7 hLo => ?_)
    have hz : s.heap.size ≤ H6.size := by rw [z7]; exact hz
    obtain ⟨h8, e9⟩ : ∃ z, z = hu hh aPl (.inl ((t 0), 163840, .inl (upd g9 0 (vp_nar .byte 1)))) := ⟨_, rfl⟩
    have hH : hm D vwCl G h8 H6 := by rw [e9]; exact hH
    have f_m : h8 mo = some (.inr (9, [.int 0, .int (nI n), .int 0, .ref aBy, .ref aSt, .ref aDe, .int 0, .int (-1), .int wt, .ref aPa, .int 1, .ref aIt, .ref aId, .ref aPr, .ref aNa, .ref aSi, .ref aSe, .ref aIw, .ref aEx, .ref aOl, .int 0, .ref aPl, .int 1, .int 0, .ref aTa, .ref aAt, .ref aLo, .int 0, .int 0, .ref aS1, .ref aS2, .ref aS3, .ref aS4, .ref aS5, .ref aS6, .int 0, .ref aO1, .ref aO2, .ref aO3, .ref aO4, .ref aO5])) := by rw [e9, hu_n (Ne.symm (h_neA f_aPl f_m))]; exact f_m
    have f_aId : h8 aId = some (.inl ((t 1), 700, .inl gId)) := by rw [e9, hu_n (h_neL (k1 := 700) (k2 := 163840) f_aId f_aPl rfl rfl (by omega))]; exact f_aId
    have f_aTa : h8 aTa = some (.inl ((t 2), 30, .inl gTa)) := by rw [e9, hu_n (h_neL (k1 := 30) (k2 := 163840) f_aTa f_aPl rfl rfl (by omega))]; exact f_aTa
    have f_aAt : h8 aAt = some (.inl ((t 2), 700, .inl gAt)) := by rw [e9, hu_n (h_neL (k1 := 700) (k2 := 163840) f_aAt f_aPl rfl rfl (by omega))]; exact f_aAt
    have f_aLo : h8 aLo = some (.inl ((t 2), 700, .inl gLo)) := by rw [e9, hu_n (h_neL (k1 := 700) (k2 := 163840) f_aLo f_aPl rfl rfl (by omega))]; exact f_aLo
    have f_aPl : h8 aPl = some (.inl ((t 0), 163840, .inl (upd g9 0 (vp_nar .byte 1)))) := by rw [e9]; exact hu_s _ _ _
    have hkp : kp [aPl] h h8 := by rw [e9]; exact kp_put hkp (by simp)
    refine lv_aload_n hx hb d_Mo_design_37 rfl (lv_at hl 1 rfl) ?_
    refine lv_iconst (v := 1) hx hb d_Mo_design_38 (by decide) ?_
    refine lv_bipush (v := 67) hx hb d_Mo_design_39 (by decide) ?_
    refine lv_bipush (v := 68) hx hb d_Mo_design_41 (by decide) ?_
    refine lv_bipush (v := 48) hx hb d_Mo_design_43 (by decide) ?_
    refine lv_bipush (v := 48) hx hb d_Mo_design_45 (by decide) ?_
    refine lv_bipush (v := 49) hx hb d_Mo_design_47 (by decide) ?_
    refine hm_callv (va_runV (As := [.int 1, .int 67, .int 68, .int 48, .int 48, .int 49]) (b := mo) (rest := []) ⟨hx, hb, hml, hown, hts⟩ (c_m_letters l D t G ak av h8 mo n aBy aSt aDe aPa aIt aId aPr aNa aSi aSe aIw aEx aOl aPl aTa aAt aLo aS1 aS2 aS3 aS4 aS5 aS6 aO1 aO2 aO3 aO4 aO5 1 wt (upd g9 0 (vp_nar .byte 1)) 1 1 67 68 48 48 49 f_m f_aPl (by decide) (by omega)) ⟨cw9B 6 hts mw_524 mw_525 mw_428 rfl rfl (by decide +kernel) ⟨Nat.le_of_ble_eq_true rfl, Nat.le_of_ble_eq_true rfl⟩, hts _ mw_526, hts _ mw_527⟩ (hP_V (q := (R_Mo, F_Mo, 41)) kE_ok hE hK hH f_m rfl) rfl rfl hl.1 rfl (lv_room (Nat.le_of_ble_eq_true rfl)) d_Mo_design_49 ⟨Nat.le_of_ble_eq_true rfl, Nat.le_of_ble_eq_true rfl⟩) hLo (fun h10 H11 locs hp13 hH z12 hLo => ?_)
    have hz : s.heap.size ≤ H11.size := Nat.le_trans hz z12
    obtain ⟨hk9, g14, hg9⟩ := hp13
    have f_m : h10 mo = some (.inr (9, [.int 0, .int (nI n), .int 0, .ref aBy, .ref aSt, .ref aDe, .int 0, .int (-1), .int wt, .ref aPa, .int 1, .ref aIt, .ref aId, .ref aPr, .ref aNa, .ref aSi, .ref aSe, .ref aIw, .ref aEx, .ref aOl, .int 0, .ref aPl, .int 1, .int 0, .ref aTa, .ref aAt, .ref aLo, .int 0, .int 0, .ref aS1, .ref aS2, .ref aS3, .ref aS4, .ref aS5, .ref aS6, .int 0, .ref aO1, .ref aO2, .ref aO3, .ref aO4, .ref aO5])) := kp_at hk9 f_m (nmc (Ne.symm (h_neA f_aPl f_m)) nm0)
    have f_aId : h10 aId = some (.inl ((t 1), 700, .inl gId)) := kp_at hk9 f_aId (nmc (h_neL (k1 := 700) (k2 := 163840) f_aId f_aPl rfl rfl (by omega)) nm0)
    have f_aTa : h10 aTa = some (.inl ((t 2), 30, .inl gTa)) := kp_at hk9 f_aTa (nmc (h_neL (k1 := 30) (k2 := 163840) f_aTa f_aPl rfl rfl (by omega)) nm0)
    have f_aAt : h10 aAt = some (.inl ((t 2), 700, .inl gAt)) := kp_at hk9 f_aAt (nmc (h_neL (k1 := 700) (k2 := 163840) f_aAt f_aPl rfl rfl (by omega)) nm0)
    have f_aLo : h10 aLo = some (.inl ((t 2), 700, .inl gLo)) := kp_at hk9 f_aLo (nmc (h_neL (k1 := 700) (k2 := 163840) f_aLo f_aPl rfl rfl (by omega)) nm0)
    have hkp : kp [aPl] h h10 := kp_tr2 hkp hk9 (List.forall_mem_cons.mpr ⟨Or.inl (by simp), List.forall_mem_nil _⟩)
    have f_aPl : h10 aPl = some (.inl ((t 0), 163840, .inl g14)) := hg9
    refine lv_aload_n hx hb d_Mo_design_52 rfl (lv_at hl 1 rfl) ?_
    refine hm_get (ci := 9) (v := .ref aPl) (C := R_Mo) (T := F_Mo) (N := 41) hx hb hts ig_Mo hown hK hH f_m rfl 21 (by decide) (hts _ mw_410) (fun _ h9 => h9) rfl d_Mo_design_53 ?_
    refine lv_bipush (v := 6) hx hb d_Mo_design_56 (by decide) ?_
    refine lv_iconst (v := 1) hx hb d_Mo_design_58 (by decide) ?_
    refine hj_bast hx hb hK hH hLo 0 f_aPl rfl 6 (by decide) (by decide) (by decide) d_Mo_design_59 (fun H15 locs hH z16 hLo => ?_)
    have hz : s.heap.size ≤ H15.size := by rw [z16]; exact hz
    obtain ⟨h17, e18⟩ : ∃ z, z = hu h10 aPl (.inl ((t 0), 163840, .inl (upd g14 6 (vp_nar .byte 1)))) := ⟨_, rfl⟩
    have hH : hm D vwCl G h17 H15 := by rw [e18]; exact hH
    have f_m : h17 mo = some (.inr (9, [.int 0, .int (nI n), .int 0, .ref aBy, .ref aSt, .ref aDe, .int 0, .int (-1), .int wt, .ref aPa, .int 1, .ref aIt, .ref aId, .ref aPr, .ref aNa, .ref aSi, .ref aSe, .ref aIw, .ref aEx, .ref aOl, .int 0, .ref aPl, .int 1, .int 0, .ref aTa, .ref aAt, .ref aLo, .int 0, .int 0, .ref aS1, .ref aS2, .ref aS3, .ref aS4, .ref aS5, .ref aS6, .int 0, .ref aO1, .ref aO2, .ref aO3, .ref aO4, .ref aO5])) := by rw [e18, hu_n (Ne.symm (h_neA f_aPl f_m))]; exact f_m
    have f_aId : h17 aId = some (.inl ((t 1), 700, .inl gId)) := by rw [e18, hu_n (h_neL (k1 := 700) (k2 := 163840) f_aId f_aPl rfl rfl (by omega))]; exact f_aId
    have f_aTa : h17 aTa = some (.inl ((t 2), 30, .inl gTa)) := by rw [e18, hu_n (h_neL (k1 := 30) (k2 := 163840) f_aTa f_aPl rfl rfl (by omega))]; exact f_aTa
    have f_aAt : h17 aAt = some (.inl ((t 2), 700, .inl gAt)) := by rw [e18, hu_n (h_neL (k1 := 700) (k2 := 163840) f_aAt f_aPl rfl rfl (by omega))]; exact f_aAt
    have f_aLo : h17 aLo = some (.inl ((t 2), 700, .inl gLo)) := by rw [e18, hu_n (h_neL (k1 := 700) (k2 := 163840) f_aLo f_aPl rfl rfl (by omega))]; exact f_aLo
    have f_aPl : h17 aPl = some (.inl ((t 0), 163840, .inl (upd g14 6 (vp_nar .byte 1)))) := by rw [e18]; exact hu_s _ _ _
    have hkp : kp [aPl] h h17 := by rw [e18]; exact kp_put hkp (by simp)
    refine lv_aload_n hx hb d_Mo_design_60 rfl (lv_at hl 1 rfl) ?_
    refine lv_bipush (v := 80) hx hb d_Mo_design_61 (by decide) ?_
    refine lv_iconst (v := 4) hx hb d_Mo_design_63 (by decide) ?_
    refine lv_aload_n hx hb d_Mo_design_64 rfl (lv_at hl 1 rfl) ?_
    refine hm_get (ci := 9) (v := .int (nI n)) (C := R_Mo) (T := F_Mo) (N := 41) hx hb hts ig_Mo hown hK hH f_m rfl 1 (by decide) (hts _ mw_425) (fun _ h9 => h9) rfl d_Mo_design_65 ?_
    refine hm_callv (va_runV (As := [.int 80, .int 4, .int (nI n)]) (b := mo) (rest := []) ⟨hx, hb, hml, hown, hts⟩ (c_m_both l D t G ak av h17 mo n aBy aSt aDe aPa aIt aId aPr aNa aSi aSe aIw aEx aOl aPl aTa aAt aLo aS1 aS2 aS3 aS4 aS5 aS6 aO1 aO2 aO3 aO4 aO5 1 wt (upd g14 6 (vp_nar .byte 1)) 80 4 80 4 (nI n) f_m f_aPl (by decide) rfl (by omega)) ⟨cw9B 3 hts mw_503 mw_504 mw_428 rfl rfl (by decide +kernel) ⟨Nat.le_of_ble_eq_true rfl, Nat.le_of_ble_eq_true rfl⟩, hts _ mw_505, hts _ mw_506⟩ (hP_V (q := (R_Mo, F_Mo, 41)) kE_ok hE hK hH f_m rfl) rfl rfl hl.1 rfl (lv_room (Nat.le_of_ble_eq_true rfl)) d_Mo_design_68 ⟨Nat.le_of_ble_eq_true rfl, Nat.le_of_ble_eq_true rfl⟩) hLo (fun h19 H20 locs hp22 hH z21 hLo => ?_)
    have hz : s.heap.size ≤ H20.size := Nat.le_trans hz z21
    obtain ⟨hk9, g23, hg9⟩ := hp22
    have f_m : h19 mo = some (.inr (9, [.int 0, .int (nI n), .int 0, .ref aBy, .ref aSt, .ref aDe, .int 0, .int (-1), .int wt, .ref aPa, .int 1, .ref aIt, .ref aId, .ref aPr, .ref aNa, .ref aSi, .ref aSe, .ref aIw, .ref aEx, .ref aOl, .int 0, .ref aPl, .int 1, .int 0, .ref aTa, .ref aAt, .ref aLo, .int 0, .int 0, .ref aS1, .ref aS2, .ref aS3, .ref aS4, .ref aS5, .ref aS6, .int 0, .ref aO1, .ref aO2, .ref aO3, .ref aO4, .ref aO5])) := kp_at hk9 f_m (nmc (Ne.symm (h_neA f_aPl f_m)) nm0)
    have f_aId : h19 aId = some (.inl ((t 1), 700, .inl gId)) := kp_at hk9 f_aId (nmc (h_neL (k1 := 700) (k2 := 163840) f_aId f_aPl rfl rfl (by omega)) nm0)
    have f_aTa : h19 aTa = some (.inl ((t 2), 30, .inl gTa)) := kp_at hk9 f_aTa (nmc (h_neL (k1 := 30) (k2 := 163840) f_aTa f_aPl rfl rfl (by omega)) nm0)
    have f_aAt : h19 aAt = some (.inl ((t 2), 700, .inl gAt)) := kp_at hk9 f_aAt (nmc (h_neL (k1 := 700) (k2 := 163840) f_aAt f_aPl rfl rfl (by omega)) nm0)
    have f_aLo : h19 aLo = some (.inl ((t 2), 700, .inl gLo)) := kp_at hk9 f_aLo (nmc (h_neL (k1 := 700) (k2 := 163840) f_aLo f_aPl rfl rfl (by omega)) nm0)
    have hkp : kp [aPl] h h19 := kp_tr2 hkp hk9 (List.forall_mem_cons.mpr ⟨Or.inl (by simp), List.forall_mem_nil _⟩)
    have f_aPl : h19 aPl = some (.inl ((t 0), 163840, .inl g23)) := hg9
    refine lv_aload_n hx hb d_Mo_design_71 rfl (lv_at hl 1 rfl) ?_
    refine lv_sipush (v := 128) hx hb d_Mo_design_72 (by decide) ?_
    refine lv_iconst (v := 2) hx hb d_Mo_design_75 (by decide) ?_
    refine lv_sipush (v := 2048) hx hb d_Mo_design_76 (by decide) ?_
    refine hm_callv (va_runV (As := [.int 128, .int 2, .int 2048]) (b := mo) (rest := []) ⟨hx, hb, hml, hown, hts⟩ (c_m_both l D t G ak av h19 mo n aBy aSt aDe aPa aIt aId aPr aNa aSi aSe aIw aEx aOl aPl aTa aAt aLo aS1 aS2 aS3 aS4 aS5 aS6 aO1 aO2 aO3 aO4 aO5 1 wt g23 128 2 128 2 2048 f_m f_aPl (by decide) rfl (by omega)) ⟨cw9B 3 hts mw_503 mw_504 mw_428 rfl rfl (by decide +kernel) ⟨Nat.le_of_ble_eq_true rfl, Nat.le_of_ble_eq_true rfl⟩, hts _ mw_505, hts _ mw_506⟩ (hP_V (q := (R_Mo, F_Mo, 41)) kE_ok hE hK hH f_m rfl) rfl rfl hl.1 rfl (lv_room (Nat.le_of_ble_eq_true rfl)) d_Mo_design_79 ⟨Nat.le_of_ble_eq_true rfl, Nat.le_of_ble_eq_true rfl⟩) hLo (fun h24 H25 locs hp27 hH z26 hLo => ?_)
    have hz : s.heap.size ≤ H25.size := Nat.le_trans hz z26
    obtain ⟨hk9, g28, hg9⟩ := hp27
    have f_m : h24 mo = some (.inr (9, [.int 0, .int (nI n), .int 0, .ref aBy, .ref aSt, .ref aDe, .int 0, .int (-1), .int wt, .ref aPa, .int 1, .ref aIt, .ref aId, .ref aPr, .ref aNa, .ref aSi, .ref aSe, .ref aIw, .ref aEx, .ref aOl, .int 0, .ref aPl, .int 1, .int 0, .ref aTa, .ref aAt, .ref aLo, .int 0, .int 0, .ref aS1, .ref aS2, .ref aS3, .ref aS4, .ref aS5, .ref aS6, .int 0, .ref aO1, .ref aO2, .ref aO3, .ref aO4, .ref aO5])) := kp_at hk9 f_m (nmc (Ne.symm (h_neA f_aPl f_m)) nm0)
    have f_aId : h24 aId = some (.inl ((t 1), 700, .inl gId)) := kp_at hk9 f_aId (nmc (h_neL (k1 := 700) (k2 := 163840) f_aId f_aPl rfl rfl (by omega)) nm0)
    have f_aTa : h24 aTa = some (.inl ((t 2), 30, .inl gTa)) := kp_at hk9 f_aTa (nmc (h_neL (k1 := 30) (k2 := 163840) f_aTa f_aPl rfl rfl (by omega)) nm0)
    have f_aAt : h24 aAt = some (.inl ((t 2), 700, .inl gAt)) := kp_at hk9 f_aAt (nmc (h_neL (k1 := 700) (k2 := 163840) f_aAt f_aPl rfl rfl (by omega)) nm0)
    have f_aLo : h24 aLo = some (.inl ((t 2), 700, .inl gLo)) := kp_at hk9 f_aLo (nmc (h_neL (k1 := 700) (k2 := 163840) f_aLo f_aPl rfl rfl (by omega)) nm0)
    have hkp : kp [aPl] h h24 := kp_tr2 hkp hk9 (List.forall_mem_cons.mpr ⟨Or.inl (by simp), List.forall_mem_nil _⟩)
    have f_aPl : h24 aPl = some (.inl ((t 0), 163840, .inl g28)) := hg9
    refine lv_aload_n hx hb d_Mo_design_82 rfl (lv_at hl 1 rfl) ?_
    refine lv_sipush (v := 140) hx hb d_Mo_design_83 (by decide) ?_
    refine lv_iconst (v := 4) hx hb d_Mo_design_86 (by decide) ?_
    refine lv_iload_n hx hb d_Mo_design_87 rfl (lv_at hl 2 rfl) ?_
    refine lv_bipush (v := 18) hx hb d_Mo_design_88 (by decide) ?_
    refine lv_iadd hx hb d_Mo_design_90 ?_
    refine hm_callv (va_runV (As := [.int 140, .int 4, .int (0 + 18)]) (b := mo) (rest := []) ⟨hx, hb, hml, hown, hts⟩ (c_m_low l D t G ak av h24 mo n aBy aSt aDe aPa aIt aId aPr aNa aSi aSe aIw aEx aOl aPl aTa aAt aLo aS1 aS2 aS3 aS4 aS5 aS6 aO1 aO2 aO3 aO4 aO5 1 wt g28 140 4 140 4 (0 + 18) f_m f_aPl (by decide) rfl (by omega)) ⟨cw9B 3 hts mw_488 mw_489 mw_428 rfl rfl (by decide +kernel) ⟨Nat.le_of_ble_eq_true rfl, Nat.le_of_ble_eq_true rfl⟩, hts _ mw_490, hts _ mw_491⟩ (hP_V (q := (R_Mo, F_Mo, 41)) kE_ok hE hK hH f_m rfl) rfl rfl hl.1 rfl (lv_room (Nat.le_of_ble_eq_true rfl)) d_Mo_design_91 ⟨Nat.le_of_ble_eq_true rfl, Nat.le_of_ble_eq_true rfl⟩) hLo (fun h29 H30 locs hp32 hH z31 hLo => ?_)
    have hz : s.heap.size ≤ H30.size := Nat.le_trans hz z31
    obtain ⟨hk9, g33, hg9⟩ := hp32
    have f_m : h29 mo = some (.inr (9, [.int 0, .int (nI n), .int 0, .ref aBy, .ref aSt, .ref aDe, .int 0, .int (-1), .int wt, .ref aPa, .int 1, .ref aIt, .ref aId, .ref aPr, .ref aNa, .ref aSi, .ref aSe, .ref aIw, .ref aEx, .ref aOl, .int 0, .ref aPl, .int 1, .int 0, .ref aTa, .ref aAt, .ref aLo, .int 0, .int 0, .ref aS1, .ref aS2, .ref aS3, .ref aS4, .ref aS5, .ref aS6, .int 0, .ref aO1, .ref aO2, .ref aO3, .ref aO4, .ref aO5])) := kp_at hk9 f_m (nmc (Ne.symm (h_neA f_aPl f_m)) nm0)
    have f_aId : h29 aId = some (.inl ((t 1), 700, .inl gId)) := kp_at hk9 f_aId (nmc (h_neL (k1 := 700) (k2 := 163840) f_aId f_aPl rfl rfl (by omega)) nm0)
    have f_aTa : h29 aTa = some (.inl ((t 2), 30, .inl gTa)) := kp_at hk9 f_aTa (nmc (h_neL (k1 := 30) (k2 := 163840) f_aTa f_aPl rfl rfl (by omega)) nm0)
    have f_aAt : h29 aAt = some (.inl ((t 2), 700, .inl gAt)) := kp_at hk9 f_aAt (nmc (h_neL (k1 := 700) (k2 := 163840) f_aAt f_aPl rfl rfl (by omega)) nm0)
    have f_aLo : h29 aLo = some (.inl ((t 2), 700, .inl gLo)) := kp_at hk9 f_aLo (nmc (h_neL (k1 := 700) (k2 := 163840) f_aLo f_aPl rfl rfl (by omega)) nm0)
    have hkp : kp [aPl] h h29 := kp_tr2 hkp hk9 (List.forall_mem_cons.mpr ⟨Or.inl (by simp), List.forall_mem_nil _⟩)
    have f_aPl : h29 aPl = some (.inl ((t 0), 163840, .inl g33)) := hg9
    refine lv_aload_n hx hb d_Mo_design_94 rfl (lv_at hl 1 rfl) ?_
    refine lv_sipush (v := 148) hx hb d_Mo_design_95 (by decide) ?_
    refine lv_iconst (v := 4) hx hb d_Mo_design_98 (by decide) ?_
    refine lv_iload_n hx hb d_Mo_design_99 rfl (lv_at hl 2 rfl) ?_
    refine lv_bipush (v := 19) hx hb d_Mo_design_100 (by decide) ?_
    refine lv_iadd hx hb d_Mo_design_102 ?_
    refine hm_callv (va_runV (As := [.int 148, .int 4, .int (0 + 19)]) (b := mo) (rest := []) ⟨hx, hb, hml, hown, hts⟩ (c_m_high l D t G ak av h29 mo n aBy aSt aDe aPa aIt aId aPr aNa aSi aSe aIw aEx aOl aPl aTa aAt aLo aS1 aS2 aS3 aS4 aS5 aS6 aO1 aO2 aO3 aO4 aO5 1 wt g33 148 4 148 4 (0 + 19) f_m f_aPl (by decide) rfl (by omega)) ⟨cw9B 3 hts mw_492 mw_493 mw_428 rfl rfl (by decide +kernel) ⟨Nat.le_of_ble_eq_true rfl, Nat.le_of_ble_eq_true rfl⟩, hts _ mw_494, hts _ mw_495⟩ (hP_V (q := (R_Mo, F_Mo, 41)) kE_ok hE hK hH f_m rfl) rfl rfl hl.1 rfl (lv_room (Nat.le_of_ble_eq_true rfl)) d_Mo_design_103 ⟨Nat.le_of_ble_eq_true rfl, Nat.le_of_ble_eq_true rfl⟩) hLo (fun h34 H35 locs hp37 hH z36 hLo => ?_)
    have hz : s.heap.size ≤ H35.size := Nat.le_trans hz z36
    obtain ⟨hk9, g38, hg9⟩ := hp37
    have f_m : h34 mo = some (.inr (9, [.int 0, .int (nI n), .int 0, .ref aBy, .ref aSt, .ref aDe, .int 0, .int (-1), .int wt, .ref aPa, .int 1, .ref aIt, .ref aId, .ref aPr, .ref aNa, .ref aSi, .ref aSe, .ref aIw, .ref aEx, .ref aOl, .int 0, .ref aPl, .int 1, .int 0, .ref aTa, .ref aAt, .ref aLo, .int 0, .int 0, .ref aS1, .ref aS2, .ref aS3, .ref aS4, .ref aS5, .ref aS6, .int 0, .ref aO1, .ref aO2, .ref aO3, .ref aO4, .ref aO5])) := kp_at hk9 f_m (nmc (Ne.symm (h_neA f_aPl f_m)) nm0)
    have f_aId : h34 aId = some (.inl ((t 1), 700, .inl gId)) := kp_at hk9 f_aId (nmc (h_neL (k1 := 700) (k2 := 163840) f_aId f_aPl rfl rfl (by omega)) nm0)
    have f_aTa : h34 aTa = some (.inl ((t 2), 30, .inl gTa)) := kp_at hk9 f_aTa (nmc (h_neL (k1 := 30) (k2 := 163840) f_aTa f_aPl rfl rfl (by omega)) nm0)
    have f_aAt : h34 aAt = some (.inl ((t 2), 700, .inl gAt)) := kp_at hk9 f_aAt (nmc (h_neL (k1 := 700) (k2 := 163840) f_aAt f_aPl rfl rfl (by omega)) nm0)
    have f_aLo : h34 aLo = some (.inl ((t 2), 700, .inl gLo)) := kp_at hk9 f_aLo (nmc (h_neL (k1 := 700) (k2 := 163840) f_aLo f_aPl rfl rfl (by omega)) nm0)
    have hkp : kp [aPl] h h34 := kp_tr2 hkp hk9 (List.forall_mem_cons.mpr ⟨Or.inl (by simp), List.forall_mem_nil _⟩)
    have f_aPl : h34 aPl = some (.inl ((t 0), 163840, .inl g38)) := hg9
    refine lv_aload_n hx hb d_Mo_design_106 rfl (lv_at hl 1 rfl) ?_
    refine lv_sipush (v := 156) hx hb d_Mo_design_107 (by decide) ?_
    refine lv_iconst (v := 0) hx hb d_Mo_design_110 (by decide) ?_
    refine lv_iconst (v := 0) hx hb d_Mo_design_111 (by decide) ?_
    refine hm_callv (va_runV (As := [.int 156, .int 0, .int 0]) (b := mo) (rest := []) ⟨hx, hb, hml, hown, hts⟩ (c_m_record l D t G ak av h34 mo n aBy aSt aDe aPa aIt aId aPr aNa aSi aSe aIw aEx aOl aPl aTa aAt aLo aS1 aS2 aS3 aS4 aS5 aS6 aO1 aO2 aO3 aO4 aO5 1 wt g38 gId gAt gLo 156 156 0 f_m f_aPl f_aId f_aAt f_aLo zId (by decide) (by decide) (by omega) ne_aId_aAt ne_aId_aLo ne_aAt_aLo) ⟨cw9B 3 hts mw_511 mw_512 mw_428 rfl rfl (by decide +kernel) ⟨Nat.le_of_ble_eq_true rfl, Nat.le_of_ble_eq_true rfl⟩, hts _ mw_513, hts _ mw_514⟩ (hP_V (q := (R_Mo, F_Mo, 41)) kE_ok hE hK hH f_m rfl) rfl rfl hl.1 rfl (lv_room (Nat.le_of_ble_eq_true rfl)) d_Mo_design_112 ⟨Nat.le_of_ble_eq_true rfl, Nat.le_of_ble_eq_true rfl⟩) hLo (fun h39 H40 locs hp42 hH z41 hLo => ?_)
    have hz : s.heap.size ≤ H40.size := Nat.le_trans hz z41
    obtain ⟨hk9, g43, hg9⟩ := hp42
    have f_m : h39 mo = some (.inr (9, [.int 0, .int (nI n), .int 0, .ref aBy, .ref aSt, .ref aDe, .int 0, .int (-1), .int wt, .ref aPa, .int 1, .ref aIt, .ref aId, .ref aPr, .ref aNa, .ref aSi, .ref aSe, .ref aIw, .ref aEx, .ref aOl, .int 0, .ref aPl, .int 1, .int 0, .ref aTa, .ref aAt, .ref aLo, .int 0, .int 0, .ref aS1, .ref aS2, .ref aS3, .ref aS4, .ref aS5, .ref aS6, .int 0, .ref aO1, .ref aO2, .ref aO3, .ref aO4, .ref aO5])) := kp_at hk9 f_m (nmc (Ne.symm (h_neA f_aPl f_m)) nm0)
    have f_aId : h39 aId = some (.inl ((t 1), 700, .inl gId)) := kp_at hk9 f_aId (nmc (h_neL (k1 := 700) (k2 := 163840) f_aId f_aPl rfl rfl (by omega)) nm0)
    have f_aTa : h39 aTa = some (.inl ((t 2), 30, .inl gTa)) := kp_at hk9 f_aTa (nmc (h_neL (k1 := 30) (k2 := 163840) f_aTa f_aPl rfl rfl (by omega)) nm0)
    have f_aAt : h39 aAt = some (.inl ((t 2), 700, .inl gAt)) := kp_at hk9 f_aAt (nmc (h_neL (k1 := 700) (k2 := 163840) f_aAt f_aPl rfl rfl (by omega)) nm0)
    have f_aLo : h39 aLo = some (.inl ((t 2), 700, .inl gLo)) := kp_at hk9 f_aLo (nmc (h_neL (k1 := 700) (k2 := 163840) f_aLo f_aPl rfl rfl (by omega)) nm0)
    have hkp : kp [aPl] h h39 := kp_tr2 hkp hk9 (List.forall_mem_cons.mpr ⟨Or.inl (by simp), List.forall_mem_nil _⟩)
    have f_aPl : h39 aPl = some (.inl ((t 0), 163840, .inl g43)) := hg9
    refine lv_aload_n hx hb d_Mo_design_115 rfl (lv_at hl 1 rfl) ?_
    refine hm_get (ci := 9) (v := .ref aPl) (C := R_Mo) (T := F_Mo) (N := 41) hx hb hts ig_Mo hown hK hH f_m rfl 21 (by decide) (hts _ mw_410) (fun _ h9 => h9) rfl d_Mo_design_116 ?_
    refine lv_sipush (v := 2048) hx hb d_Mo_design_119 (by decide) ?_
    refine lv_iconst (v := -1) hx hb d_Mo_design_122 (by decide) ?_
    refine hj_bast hx hb hK hH hLo 0 f_aPl rfl 2048 (by decide) (by decide) (by decide) d_Mo_design_123 (fun H44 locs hH z45 hLo => ?_)
    have hz : s.heap.size ≤ H44.size := by rw [z45]; exact hz
    obtain ⟨h46, e47⟩ : ∃ z, z = hu h39 aPl (.inl ((t 0), 163840, .inl (upd g43 2048 (vp_nar .byte (-1))))) := ⟨_, rfl⟩
    have hH : hm D vwCl G h46 H44 := by rw [e47]; exact hH
    have f_m : h46 mo = some (.inr (9, [.int 0, .int (nI n), .int 0, .ref aBy, .ref aSt, .ref aDe, .int 0, .int (-1), .int wt, .ref aPa, .int 1, .ref aIt, .ref aId, .ref aPr, .ref aNa, .ref aSi, .ref aSe, .ref aIw, .ref aEx, .ref aOl, .int 0, .ref aPl, .int 1, .int 0, .ref aTa, .ref aAt, .ref aLo, .int 0, .int 0, .ref aS1, .ref aS2, .ref aS3, .ref aS4, .ref aS5, .ref aS6, .int 0, .ref aO1, .ref aO2, .ref aO3, .ref aO4, .ref aO5])) := by rw [e47, hu_n (Ne.symm (h_neA f_aPl f_m))]; exact f_m
    have f_aId : h46 aId = some (.inl ((t 1), 700, .inl gId)) := by rw [e47, hu_n (h_neL (k1 := 700) (k2 := 163840) f_aId f_aPl rfl rfl (by omega))]; exact f_aId
    have f_aTa : h46 aTa = some (.inl ((t 2), 30, .inl gTa)) := by rw [e47, hu_n (h_neL (k1 := 30) (k2 := 163840) f_aTa f_aPl rfl rfl (by omega))]; exact f_aTa
    have f_aAt : h46 aAt = some (.inl ((t 2), 700, .inl gAt)) := by rw [e47, hu_n (h_neL (k1 := 700) (k2 := 163840) f_aAt f_aPl rfl rfl (by omega))]; exact f_aAt
    have f_aLo : h46 aLo = some (.inl ((t 2), 700, .inl gLo)) := by rw [e47, hu_n (h_neL (k1 := 700) (k2 := 163840) f_aLo f_aPl rfl rfl (by omega))]; exact f_aLo
    have f_aPl : h46 aPl = some (.inl ((t 0), 163840, .inl (upd g43 2048 (vp_nar .byte (-1))))) := by rw [e47]; exact hu_s _ _ _
    have hkp : kp [aPl] h h46 := by rw [e47]; exact kp_put hkp (by simp)
    refine lv_aload_n hx hb d_Mo_design_124 rfl (lv_at hl 1 rfl) ?_
    refine lv_sipush (v := 2049) hx hb d_Mo_design_125 (by decide) ?_
    refine lv_bipush (v := 67) hx hb d_Mo_design_128 (by decide) ?_
    refine lv_bipush (v := 68) hx hb d_Mo_design_130 (by decide) ?_
    refine lv_bipush (v := 48) hx hb d_Mo_design_132 (by decide) ?_
    refine lv_bipush (v := 48) hx hb d_Mo_design_134 (by decide) ?_
    refine lv_bipush (v := 49) hx hb d_Mo_design_136 (by decide) ?_
    refine hm_callv (va_runV (As := [.int 2049, .int 67, .int 68, .int 48, .int 48, .int 49]) (b := mo) (rest := []) ⟨hx, hb, hml, hown, hts⟩ (c_m_letters l D t G ak av h46 mo n aBy aSt aDe aPa aIt aId aPr aNa aSi aSe aIw aEx aOl aPl aTa aAt aLo aS1 aS2 aS3 aS4 aS5 aS6 aO1 aO2 aO3 aO4 aO5 1 wt (upd g43 2048 (vp_nar .byte (-1))) 2049 2049 67 68 48 48 49 f_m f_aPl (by decide) (by omega)) ⟨cw9B 6 hts mw_524 mw_525 mw_428 rfl rfl (by decide +kernel) ⟨Nat.le_of_ble_eq_true rfl, Nat.le_of_ble_eq_true rfl⟩, hts _ mw_526, hts _ mw_527⟩ (hP_V (q := (R_Mo, F_Mo, 41)) kE_ok hE hK hH f_m rfl) rfl rfl hl.1 rfl (lv_room (Nat.le_of_ble_eq_true rfl)) d_Mo_design_138 ⟨Nat.le_of_ble_eq_true rfl, Nat.le_of_ble_eq_true rfl⟩) hLo (fun h48 H49 locs hp51 hH z50 hLo => ?_)
    have hz : s.heap.size ≤ H49.size := Nat.le_trans hz z50
    obtain ⟨hk9, g52, hg9⟩ := hp51
    have f_m : h48 mo = some (.inr (9, [.int 0, .int (nI n), .int 0, .ref aBy, .ref aSt, .ref aDe, .int 0, .int (-1), .int wt, .ref aPa, .int 1, .ref aIt, .ref aId, .ref aPr, .ref aNa, .ref aSi, .ref aSe, .ref aIw, .ref aEx, .ref aOl, .int 0, .ref aPl, .int 1, .int 0, .ref aTa, .ref aAt, .ref aLo, .int 0, .int 0, .ref aS1, .ref aS2, .ref aS3, .ref aS4, .ref aS5, .ref aS6, .int 0, .ref aO1, .ref aO2, .ref aO3, .ref aO4, .ref aO5])) := kp_at hk9 f_m (nmc (Ne.symm (h_neA f_aPl f_m)) nm0)
    have f_aId : h48 aId = some (.inl ((t 1), 700, .inl gId)) := kp_at hk9 f_aId (nmc (h_neL (k1 := 700) (k2 := 163840) f_aId f_aPl rfl rfl (by omega)) nm0)
    have f_aTa : h48 aTa = some (.inl ((t 2), 30, .inl gTa)) := kp_at hk9 f_aTa (nmc (h_neL (k1 := 30) (k2 := 163840) f_aTa f_aPl rfl rfl (by omega)) nm0)
    have f_aAt : h48 aAt = some (.inl ((t 2), 700, .inl gAt)) := kp_at hk9 f_aAt (nmc (h_neL (k1 := 700) (k2 := 163840) f_aAt f_aPl rfl rfl (by omega)) nm0)
    have f_aLo : h48 aLo = some (.inl ((t 2), 700, .inl gLo)) := kp_at hk9 f_aLo (nmc (h_neL (k1 := 700) (k2 := 163840) f_aLo f_aPl rfl rfl (by omega)) nm0)
    have hkp : kp [aPl] h h48 := kp_tr2 hkp hk9 (List.forall_mem_cons.mpr ⟨Or.inl (by simp), List.forall_mem_nil _⟩)
    have f_aPl : h48 aPl = some (.inl ((t 0), 163840, .inl g52)) := hg9
    refine lv_aload_n hx hb d_Mo_design_141 rfl (lv_at hl 1 rfl) ?_
    refine hm_get (ci := 9) (v := .ref aPl) (C := R_Mo) (T := F_Mo) (N := 41) hx hb hts ig_Mo hown hK hH f_m rfl 21 (by decide) (hts _ mw_410) (fun _ h9 => h9) rfl d_Mo_design_142 ?_
    refine lv_sipush (v := 2054) hx hb d_Mo_design_145 (by decide) ?_
    refine lv_iconst (v := 1) hx hb d_Mo_design_148 (by decide) ?_
    refine hj_bast hx hb hK hH hLo 0 f_aPl rfl 2054 (by decide) (by decide) (by decide) d_Mo_design_149 (fun H53 locs hH z54 hLo => ?_)
    have hz : s.heap.size ≤ H53.size := by rw [z54]; exact hz
    obtain ⟨h55, e56⟩ : ∃ z, z = hu h48 aPl (.inl ((t 0), 163840, .inl (upd g52 2054 (vp_nar .byte 1)))) := ⟨_, rfl⟩
    have hH : hm D vwCl G h55 H53 := by rw [e56]; exact hH
    have f_m : h55 mo = some (.inr (9, [.int 0, .int (nI n), .int 0, .ref aBy, .ref aSt, .ref aDe, .int 0, .int (-1), .int wt, .ref aPa, .int 1, .ref aIt, .ref aId, .ref aPr, .ref aNa, .ref aSi, .ref aSe, .ref aIw, .ref aEx, .ref aOl, .int 0, .ref aPl, .int 1, .int 0, .ref aTa, .ref aAt, .ref aLo, .int 0, .int 0, .ref aS1, .ref aS2, .ref aS3, .ref aS4, .ref aS5, .ref aS6, .int 0, .ref aO1, .ref aO2, .ref aO3, .ref aO4, .ref aO5])) := by rw [e56, hu_n (Ne.symm (h_neA f_aPl f_m))]; exact f_m
    have f_aId : h55 aId = some (.inl ((t 1), 700, .inl gId)) := by rw [e56, hu_n (h_neL (k1 := 700) (k2 := 163840) f_aId f_aPl rfl rfl (by omega))]; exact f_aId
    have f_aTa : h55 aTa = some (.inl ((t 2), 30, .inl gTa)) := by rw [e56, hu_n (h_neL (k1 := 30) (k2 := 163840) f_aTa f_aPl rfl rfl (by omega))]; exact f_aTa
    have f_aAt : h55 aAt = some (.inl ((t 2), 700, .inl gAt)) := by rw [e56, hu_n (h_neL (k1 := 700) (k2 := 163840) f_aAt f_aPl rfl rfl (by omega))]; exact f_aAt
    have f_aLo : h55 aLo = some (.inl ((t 2), 700, .inl gLo)) := by rw [e56, hu_n (h_neL (k1 := 700) (k2 := 163840) f_aLo f_aPl rfl rfl (by omega))]; exact f_aLo
    have f_aPl : h55 aPl = some (.inl ((t 0), 163840, .inl (upd g52 2054 (vp_nar .byte 1)))) := by rw [e56]; exact hu_s _ _ _
    have hkp : kp [aPl] h h55 := by rw [e56]; exact kp_put hkp (by simp)
    refine lv_sipush (v := 4096) hx hb d_Mo_design_150 (by decide) ?_
    refine lv_istore (lv' := [(4, .int 4096), (0, .ref mo), (1, .int 0), (2, .int 22), (3, .int nu)]) hx hb d_Mo_design_153 hl (by decide) rfl (fun ls hl => ?_)
    refine lv_iconst (v := 0) hx hb d_Mo_design_155 (by decide) ?_
    refine lv_istore (lv' := [(5, .int 0), (4, .int 4096), (0, .ref mo), (1, .int 0), (2, .int 22), (3, .int nu)]) hx hb d_Mo_design_156 hl (by decide) rfl (fun ls hl => ?_)
    refine lv_iload hx hb d_Mo_design_158 (lv_at hl 0 rfl) ?_
    refine lv_aload_n hx hb d_Mo_design_160 rfl (lv_at hl 2 rfl) ?_
    refine hm_get (ci := 9) (v := .int 1) (C := R_Mo) (T := F_Mo) (N := 41) hx hb hts ig_Mo hown hK hH f_m rfl 22 (by decide) (hts _ mw_515) (fun _ h9 => h9) rfl d_Mo_design_161 ?_
    refine lv_icmp_ge (tgt := 416) hx hb d_Mo_design_164 (by decide) (fun hc57 => absurd hc57 (by decide)) (fun hc57 => ?_)
    refine lv_aload_n hx hb d_Mo_design_167 rfl (lv_at hl 2 rfl) ?_
    refine hm_get (ci := 9) (v := .ref aTa) (C := R_Mo) (T := F_Mo) (N := 41) hx hb hts ig_Mo hown hK hH f_m rfl 24 (by decide) (hts _ mw_411) (fun _ h9 => h9) rfl d_Mo_design_168 ?_
    refine lv_iload hx hb d_Mo_design_171 (lv_at hl 0 rfl) ?_
    refine hj_iald hx hb hK hH 2 f_aTa rfl 0 (by decide) (by decide) (by decide) d_Mo_design_173 ?_
    refine lv_topi (fun v58 e59 => ?_)
    obtain rfl : v58 = 0 := e59.trans (hta)
    refine lv_istore (lv' := [(6, .int 0), (5, .int 0), (4, .int 4096), (0, .ref mo), (1, .int 0), (2, .int 22), (3, .int nu)]) hx hb d_Mo_design_174 hl (by decide) rfl (fun ls hl => ?_)
    refine lv_aload_n hx hb d_Mo_design_176 rfl (lv_at hl 3 rfl) ?_
    refine lv_iload hx hb d_Mo_design_177 (lv_at hl 0 rfl) ?_
    refine lv_if_ne (tgt := 186) hx hb d_Mo_design_179 (by decide) (fun hc60 => absurd rfl hc60) (fun hc60 => ?_)
    refine lv_iconst (v := 0) hx hb d_Mo_design_182 (by decide) ?_
    refine lv_goto (tgt := 187) hx hb d_Mo_design_183 (by decide) ?_
    refine lv_iload hx hb d_Mo_design_187 (lv_at hl 0 rfl) ?_
    refine hm_calli (va_runV (As := [.int 0, .int 0]) (b := mo) (rest := []) ⟨hx, hb, hml, hown, hts⟩ (c_m_recordId l D t G ak av h55 mo 0 0 (by decide)) ⟨cw9B 2 hts mw_496 mw_497 mw_428 rfl rfl (by decide +kernel) ⟨Nat.le_of_ble_eq_true rfl, Nat.le_of_ble_eq_true rfl⟩, hts _ mw_498, hts _ mw_499⟩ (hP_V (q := (R_Mo, F_Mo, 41)) kE_ok hE hK hH f_m rfl) rfl rfl hl.1 rfl (lv_room (Nat.le_of_ble_eq_true rfl)) d_Mo_design_189 ⟨Nat.le_of_ble_eq_true rfl, Nat.le_of_ble_eq_true rfl⟩) hLo (fun r61 h62 H63 locs hp65 hH z64 hLo => ?_)
    have hz : s.heap.size ≤ H63.size := Nat.le_trans hz z64
    obtain ⟨rfl, rfl⟩ := hp65
    refine lv_istore (lv' := [(7, .int 1), (6, .int 0), (5, .int 0), (4, .int 4096), (0, .ref mo), (1, .int 0), (2, .int 22), (3, .int nu)]) hx hb d_Mo_design_192 hl (by decide) rfl (fun ls hl => ?_)
    refine lv_iload hx hb d_Mo_design_194 (lv_at hl 1 rfl) ?_
    refine lv_if_ne (tgt := 203) hx hb d_Mo_design_196 (by decide) (fun hc66 => absurd rfl hc66) (fun hc66 => ?_)
    refine lv_iconst (v := 1) hx hb d_Mo_design_199 (by decide) ?_
    refine lv_goto (tgt := 214) hx hb d_Mo_design_200 (by decide) ?_
    refine lv_istore (lv' := [(8, .int 1), (7, .int 1), (6, .int 0), (5, .int 0), (4, .int 4096), (0, .ref mo), (1, .int 0), (2, .int 22), (3, .int nu)]) hx hb d_Mo_design_214 hl (by decide) rfl (fun ls hl => ?_)
    refine lv_aload_n hx hb d_Mo_design_216 rfl (lv_at hl 5 rfl) ?_
    refine hm_get (ci := 9) (v := .ref aPl) (C := R_Mo) (T := F_Mo) (N := 41) hx hb hts ig_Mo hown hK hH f_m rfl 21 (by decide) (hts _ mw_410) (fun _ h9 => h9) rfl d_Mo_design_217 ?_
    refine lv_iload hx hb d_Mo_design_220 (lv_at hl 4 rfl) ?_
    refine lv_iload hx hb d_Mo_design_222 (lv_at hl 1 rfl) ?_
    refine lv_i2b (v := (1 : Int32).toInt8.toInt32) hx hb d_Mo_design_224 rfl ?_
    refine hj_bast hx hb hK hH hLo 0 f_aPl rfl 4096 (by decide) (by decide) (by decide) d_Mo_design_225 (fun H67 locs hH z68 hLo => ?_)
    have hz : s.heap.size ≤ H67.size := by rw [z68]; exact hz
    obtain ⟨h69, e70⟩ : ∃ z, z = hu h55 aPl (.inl ((t 0), 163840, .inl (upd (upd g52 2054 (vp_nar .byte 1)) 4096 (vp_nar .byte ((1 : Int32).toInt8.toInt32))))) := ⟨_, rfl⟩
    have hH : hm D vwCl G h69 H67 := by rw [e70]; exact hH
    have f_m : h69 mo = some (.inr (9, [.int 0, .int (nI n), .int 0, .ref aBy, .ref aSt, .ref aDe, .int 0, .int (-1), .int wt, .ref aPa, .int 1, .ref aIt, .ref aId, .ref aPr, .ref aNa, .ref aSi, .ref aSe, .ref aIw, .ref aEx, .ref aOl, .int 0, .ref aPl, .int 1, .int 0, .ref aTa, .ref aAt, .ref aLo, .int 0, .int 0, .ref aS1, .ref aS2, .ref aS3, .ref aS4, .ref aS5, .ref aS6, .int 0, .ref aO1, .ref aO2, .ref aO3, .ref aO4, .ref aO5])) := by rw [e70, hu_n (Ne.symm (h_neA f_aPl f_m))]; exact f_m
    have f_aId : h69 aId = some (.inl ((t 1), 700, .inl gId)) := by rw [e70, hu_n (h_neL (k1 := 700) (k2 := 163840) f_aId f_aPl rfl rfl (by omega))]; exact f_aId
    have f_aTa : h69 aTa = some (.inl ((t 2), 30, .inl gTa)) := by rw [e70, hu_n (h_neL (k1 := 30) (k2 := 163840) f_aTa f_aPl rfl rfl (by omega))]; exact f_aTa
    have f_aAt : h69 aAt = some (.inl ((t 2), 700, .inl gAt)) := by rw [e70, hu_n (h_neL (k1 := 700) (k2 := 163840) f_aAt f_aPl rfl rfl (by omega))]; exact f_aAt
    have f_aLo : h69 aLo = some (.inl ((t 2), 700, .inl gLo)) := by rw [e70, hu_n (h_neL (k1 := 700) (k2 := 163840) f_aLo f_aPl rfl rfl (by omega))]; exact f_aLo
    have f_aPl : h69 aPl = some (.inl ((t 0), 163840, .inl (upd (upd g52 2054 (vp_nar .byte 1)) 4096 (vp_nar .byte ((1 : Int32).toInt8.toInt32))))) := by rw [e70]; exact hu_s _ _ _
    have hkp : kp [aPl] h h69 := by rw [e70]; exact kp_put hkp (by simp)
    refine lv_aload_n hx hb d_Mo_design_226 rfl (lv_at hl 5 rfl) ?_
    refine hm_get (ci := 9) (v := .ref aPl) (C := R_Mo) (T := F_Mo) (N := 41) hx hb hts ig_Mo hown hK hH f_m rfl 21 (by decide) (hts _ mw_410) (fun _ h9 => h9) rfl d_Mo_design_227 ?_
    refine lv_iload hx hb d_Mo_design_230 (lv_at hl 4 rfl) ?_
    refine lv_sipush (v := 2048) hx hb d_Mo_design_232 (by decide) ?_
    refine lv_iadd hx hb d_Mo_design_235 ?_
    refine lv_iload hx hb d_Mo_design_236 (lv_at hl 1 rfl) ?_
    refine lv_i2b (v := (1 : Int32).toInt8.toInt32) hx hb d_Mo_design_238 rfl ?_
    refine hj_bast hx hb hK hH hLo 0 f_aPl rfl 6144 (by decide) (by decide) (by decide) d_Mo_design_239 (fun H71 locs hH z72 hLo => ?_)
    have hz : s.heap.size ≤ H71.size := by rw [z72]; exact hz
    obtain ⟨h73, e74⟩ : ∃ z, z = hu h69 aPl (.inl ((t 0), 163840, .inl (upd (upd (upd g52 2054 (vp_nar .byte 1)) 4096 (vp_nar .byte ((1 : Int32).toInt8.toInt32))) 6144 (vp_nar .byte ((1 : Int32).toInt8.toInt32))))) := ⟨_, rfl⟩
    have hH : hm D vwCl G h73 H71 := by rw [e74]; exact hH
    have f_m : h73 mo = some (.inr (9, [.int 0, .int (nI n), .int 0, .ref aBy, .ref aSt, .ref aDe, .int 0, .int (-1), .int wt, .ref aPa, .int 1, .ref aIt, .ref aId, .ref aPr, .ref aNa, .ref aSi, .ref aSe, .ref aIw, .ref aEx, .ref aOl, .int 0, .ref aPl, .int 1, .int 0, .ref aTa, .ref aAt, .ref aLo, .int 0, .int 0, .ref aS1, .ref aS2, .ref aS3, .ref aS4, .ref aS5, .ref aS6, .int 0, .ref aO1, .ref aO2, .ref aO3, .ref aO4, .ref aO5])) := by rw [e74, hu_n (Ne.symm (h_neA f_aPl f_m))]; exact f_m
    have f_aId : h73 aId = some (.inl ((t 1), 700, .inl gId)) := by rw [e74, hu_n (h_neL (k1 := 700) (k2 := 163840) f_aId f_aPl rfl rfl (by omega))]; exact f_aId
    have f_aTa : h73 aTa = some (.inl ((t 2), 30, .inl gTa)) := by rw [e74, hu_n (h_neL (k1 := 30) (k2 := 163840) f_aTa f_aPl rfl rfl (by omega))]; exact f_aTa
    have f_aAt : h73 aAt = some (.inl ((t 2), 700, .inl gAt)) := by rw [e74, hu_n (h_neL (k1 := 700) (k2 := 163840) f_aAt f_aPl rfl rfl (by omega))]; exact f_aAt
    have f_aLo : h73 aLo = some (.inl ((t 2), 700, .inl gLo)) := by rw [e74, hu_n (h_neL (k1 := 700) (k2 := 163840) f_aLo f_aPl rfl rfl (by omega))]; exact f_aLo
    have f_aPl : h73 aPl = some (.inl ((t 0), 163840, .inl (upd (upd (upd g52 2054 (vp_nar .byte 1)) 4096 (vp_nar .byte ((1 : Int32).toInt8.toInt32))) 6144 (vp_nar .byte ((1 : Int32).toInt8.toInt32))))) := by rw [e74]; exact hu_s _ _ _
    have hkp : kp [aPl] h h73 := by rw [e74]; exact kp_put hkp (by simp)
    refine lv_aload_n hx hb d_Mo_design_240 rfl (lv_at hl 5 rfl) ?_
    refine lv_iload hx hb d_Mo_design_241 (lv_at hl 4 rfl) ?_
    refine lv_iconst (v := 2) hx hb d_Mo_design_243 (by decide) ?_
    refine lv_iadd hx hb d_Mo_design_244 ?_
    refine lv_iconst (v := 4) hx hb d_Mo_design_245 (by decide) ?_
    refine lv_aload_n hx hb d_Mo_design_246 rfl (lv_at hl 5 rfl) ?_
    refine hm_get (ci := 9) (v := .ref aAt) (C := R_Mo) (T := F_Mo) (N := 41) hx hb hts ig_Mo hown hK hH f_m rfl 25 (by decide) (hts _ mw_412) (fun _ h9 => h9) rfl d_Mo_design_247 ?_
    refine lv_iload hx hb d_Mo_design_250 (lv_at hl 2 rfl) ?_
    refine hj_iald hx hb hK hH 2 f_aAt rfl 0 (by decide) (by decide) (by decide) d_Mo_design_252 ?_
    refine hm_callv (va_runV (As := [.int (4096 + 2), .int 4, .int (gAt 0)]) (b := mo) (rest := []) ⟨hx, hb, hml, hown, hts⟩ (c_m_low l D t G ak av h73 mo n aBy aSt aDe aPa aIt aId aPr aNa aSi aSe aIw aEx aOl aPl aTa aAt aLo aS1 aS2 aS3 aS4 aS5 aS6 aO1 aO2 aO3 aO4 aO5 1 wt (upd (upd (upd g52 2054 (vp_nar .byte 1)) 4096 (vp_nar .byte ((1 : Int32).toInt8.toInt32))) 6144 (vp_nar .byte ((1 : Int32).toInt8.toInt32))) 4098 4 (4096 + 2) 4 (gAt 0) f_m f_aPl (by decide) rfl (by omega)) ⟨cw9B 3 hts mw_488 mw_489 mw_428 rfl rfl (by decide +kernel) ⟨Nat.le_of_ble_eq_true rfl, Nat.le_of_ble_eq_true rfl⟩, hts _ mw_490, hts _ mw_491⟩ (hP_V (q := (R_Mo, F_Mo, 41)) kE_ok hE hK hH f_m rfl) rfl rfl hl.1 rfl (lv_room (Nat.le_of_ble_eq_true rfl)) d_Mo_design_253 ⟨Nat.le_of_ble_eq_true rfl, Nat.le_of_ble_eq_true rfl⟩) hLo (fun h75 H76 locs hp78 hH z77 hLo => ?_)
    have hz : s.heap.size ≤ H76.size := Nat.le_trans hz z77
    obtain ⟨hk9, g79, hg9⟩ := hp78
    have f_m : h75 mo = some (.inr (9, [.int 0, .int (nI n), .int 0, .ref aBy, .ref aSt, .ref aDe, .int 0, .int (-1), .int wt, .ref aPa, .int 1, .ref aIt, .ref aId, .ref aPr, .ref aNa, .ref aSi, .ref aSe, .ref aIw, .ref aEx, .ref aOl, .int 0, .ref aPl, .int 1, .int 0, .ref aTa, .ref aAt, .ref aLo, .int 0, .int 0, .ref aS1, .ref aS2, .ref aS3, .ref aS4, .ref aS5, .ref aS6, .int 0, .ref aO1, .ref aO2, .ref aO3, .ref aO4, .ref aO5])) := kp_at hk9 f_m (nmc (Ne.symm (h_neA f_aPl f_m)) nm0)
    have f_aId : h75 aId = some (.inl ((t 1), 700, .inl gId)) := kp_at hk9 f_aId (nmc (h_neL (k1 := 700) (k2 := 163840) f_aId f_aPl rfl rfl (by omega)) nm0)
    have f_aTa : h75 aTa = some (.inl ((t 2), 30, .inl gTa)) := kp_at hk9 f_aTa (nmc (h_neL (k1 := 30) (k2 := 163840) f_aTa f_aPl rfl rfl (by omega)) nm0)
    have f_aAt : h75 aAt = some (.inl ((t 2), 700, .inl gAt)) := kp_at hk9 f_aAt (nmc (h_neL (k1 := 700) (k2 := 163840) f_aAt f_aPl rfl rfl (by omega)) nm0)
    have f_aLo : h75 aLo = some (.inl ((t 2), 700, .inl gLo)) := kp_at hk9 f_aLo (nmc (h_neL (k1 := 700) (k2 := 163840) f_aLo f_aPl rfl rfl (by omega)) nm0)
    have hkp : kp [aPl] h h75 := kp_tr2 hkp hk9 (List.forall_mem_cons.mpr ⟨Or.inl (by simp), List.forall_mem_nil _⟩)
    have f_aPl : h75 aPl = some (.inl ((t 0), 163840, .inl g79)) := hg9
    refine lv_aload_n hx hb d_Mo_design_256 rfl (lv_at hl 5 rfl) ?_
    refine lv_iload hx hb d_Mo_design_257 (lv_at hl 4 rfl) ?_
    refine lv_sipush (v := 2050) hx hb d_Mo_design_259 (by decide) ?_
    refine lv_iadd hx hb d_Mo_design_262 ?_
    refine lv_iconst (v := 4) hx hb d_Mo_design_263 (by decide) ?_
    refine lv_aload_n hx hb d_Mo_design_264 rfl (lv_at hl 5 rfl) ?_
    refine hm_get (ci := 9) (v := .ref aAt) (C := R_Mo) (T := F_Mo) (N := 41) hx hb hts ig_Mo hown hK hH f_m rfl 25 (by decide) (hts _ mw_412) (fun _ h9 => h9) rfl d_Mo_design_265 ?_
    refine lv_iload hx hb d_Mo_design_268 (lv_at hl 2 rfl) ?_
    refine hj_iald hx hb hK hH 2 f_aAt rfl 0 (by decide) (by decide) (by decide) d_Mo_design_270 ?_
    refine hm_callv (va_runV (As := [.int (4096 + 2050), .int 4, .int (gAt 0)]) (b := mo) (rest := []) ⟨hx, hb, hml, hown, hts⟩ (c_m_high l D t G ak av h75 mo n aBy aSt aDe aPa aIt aId aPr aNa aSi aSe aIw aEx aOl aPl aTa aAt aLo aS1 aS2 aS3 aS4 aS5 aS6 aO1 aO2 aO3 aO4 aO5 1 wt g79 6146 4 (4096 + 2050) 4 (gAt 0) f_m f_aPl (by decide) rfl (by omega)) ⟨cw9B 3 hts mw_492 mw_493 mw_428 rfl rfl (by decide +kernel) ⟨Nat.le_of_ble_eq_true rfl, Nat.le_of_ble_eq_true rfl⟩, hts _ mw_494, hts _ mw_495⟩ (hP_V (q := (R_Mo, F_Mo, 41)) kE_ok hE hK hH f_m rfl) rfl rfl hl.1 rfl (lv_room (Nat.le_of_ble_eq_true rfl)) d_Mo_design_271 ⟨Nat.le_of_ble_eq_true rfl, Nat.le_of_ble_eq_true rfl⟩) hLo (fun h80 H81 locs hp83 hH z82 hLo => ?_)
    have hz : s.heap.size ≤ H81.size := Nat.le_trans hz z82
    obtain ⟨hk9, g84, hg9⟩ := hp83
    have f_m : h80 mo = some (.inr (9, [.int 0, .int (nI n), .int 0, .ref aBy, .ref aSt, .ref aDe, .int 0, .int (-1), .int wt, .ref aPa, .int 1, .ref aIt, .ref aId, .ref aPr, .ref aNa, .ref aSi, .ref aSe, .ref aIw, .ref aEx, .ref aOl, .int 0, .ref aPl, .int 1, .int 0, .ref aTa, .ref aAt, .ref aLo, .int 0, .int 0, .ref aS1, .ref aS2, .ref aS3, .ref aS4, .ref aS5, .ref aS6, .int 0, .ref aO1, .ref aO2, .ref aO3, .ref aO4, .ref aO5])) := kp_at hk9 f_m (nmc (Ne.symm (h_neA f_aPl f_m)) nm0)
    have f_aId : h80 aId = some (.inl ((t 1), 700, .inl gId)) := kp_at hk9 f_aId (nmc (h_neL (k1 := 700) (k2 := 163840) f_aId f_aPl rfl rfl (by omega)) nm0)
    have f_aTa : h80 aTa = some (.inl ((t 2), 30, .inl gTa)) := kp_at hk9 f_aTa (nmc (h_neL (k1 := 30) (k2 := 163840) f_aTa f_aPl rfl rfl (by omega)) nm0)
    have f_aAt : h80 aAt = some (.inl ((t 2), 700, .inl gAt)) := kp_at hk9 f_aAt (nmc (h_neL (k1 := 700) (k2 := 163840) f_aAt f_aPl rfl rfl (by omega)) nm0)
    have f_aLo : h80 aLo = some (.inl ((t 2), 700, .inl gLo)) := kp_at hk9 f_aLo (nmc (h_neL (k1 := 700) (k2 := 163840) f_aLo f_aPl rfl rfl (by omega)) nm0)
    have hkp : kp [aPl] h h80 := kp_tr2 hkp hk9 (List.forall_mem_cons.mpr ⟨Or.inl (by simp), List.forall_mem_nil _⟩)
    have f_aPl : h80 aPl = some (.inl ((t 0), 163840, .inl g84)) := hg9
    refine lv_aload_n hx hb d_Mo_design_274 rfl (lv_at hl 5 rfl) ?_
    refine lv_iload hx hb d_Mo_design_275 (lv_at hl 4 rfl) ?_
    refine lv_bipush (v := 6) hx hb d_Mo_design_277 (by decide) ?_
    refine lv_iadd hx hb d_Mo_design_279 ?_
    refine lv_iconst (v := 2) hx hb d_Mo_design_280 (by decide) ?_
    refine lv_iload hx hb d_Mo_design_281 (lv_at hl 0 rfl) ?_
    refine hm_callv (va_runV (As := [.int (4096 + 6), .int 2, .int 1]) (b := mo) (rest := []) ⟨hx, hb, hml, hown, hts⟩ (c_m_low l D t G ak av h80 mo n aBy aSt aDe aPa aIt aId aPr aNa aSi aSe aIw aEx aOl aPl aTa aAt aLo aS1 aS2 aS3 aS4 aS5 aS6 aO1 aO2 aO3 aO4 aO5 1 wt g84 4102 2 (4096 + 6) 2 1 f_m f_aPl (by decide) rfl (by omega)) ⟨cw9B 3 hts mw_488 mw_489 mw_428 rfl rfl (by decide +kernel) ⟨Nat.le_of_ble_eq_true rfl, Nat.le_of_ble_eq_true rfl⟩, hts _ mw_490, hts _ mw_491⟩ (hP_V (q := (R_Mo, F_Mo, 41)) kE_ok hE hK hH f_m rfl) rfl rfl hl.1 rfl (lv_room (Nat.le_of_ble_eq_true rfl)) d_Mo_design_283 ⟨Nat.le_of_ble_eq_true rfl, Nat.le_of_ble_eq_true rfl⟩) hLo (fun h85 H86 locs hp88 hH z87 hLo => ?_)
    have hz : s.heap.size ≤ H86.size := Nat.le_trans hz z87
    obtain ⟨hk9, g89, hg9⟩ := hp88
    have f_m : h85 mo = some (.inr (9, [.int 0, .int (nI n), .int 0, .ref aBy, .ref aSt, .ref aDe, .int 0, .int (-1), .int wt, .ref aPa, .int 1, .ref aIt, .ref aId, .ref aPr, .ref aNa, .ref aSi, .ref aSe, .ref aIw, .ref aEx, .ref aOl, .int 0, .ref aPl, .int 1, .int 0, .ref aTa, .ref aAt, .ref aLo, .int 0, .int 0, .ref aS1, .ref aS2, .ref aS3, .ref aS4, .ref aS5, .ref aS6, .int 0, .ref aO1, .ref aO2, .ref aO3, .ref aO4, .ref aO5])) := kp_at hk9 f_m (nmc (Ne.symm (h_neA f_aPl f_m)) nm0)
    have f_aId : h85 aId = some (.inl ((t 1), 700, .inl gId)) := kp_at hk9 f_aId (nmc (h_neL (k1 := 700) (k2 := 163840) f_aId f_aPl rfl rfl (by omega)) nm0)
    have f_aTa : h85 aTa = some (.inl ((t 2), 30, .inl gTa)) := kp_at hk9 f_aTa (nmc (h_neL (k1 := 30) (k2 := 163840) f_aTa f_aPl rfl rfl (by omega)) nm0)
    have f_aAt : h85 aAt = some (.inl ((t 2), 700, .inl gAt)) := kp_at hk9 f_aAt (nmc (h_neL (k1 := 700) (k2 := 163840) f_aAt f_aPl rfl rfl (by omega)) nm0)
    have f_aLo : h85 aLo = some (.inl ((t 2), 700, .inl gLo)) := kp_at hk9 f_aLo (nmc (h_neL (k1 := 700) (k2 := 163840) f_aLo f_aPl rfl rfl (by omega)) nm0)
    have hkp : kp [aPl] h h85 := kp_tr2 hkp hk9 (List.forall_mem_cons.mpr ⟨Or.inl (by simp), List.forall_mem_nil _⟩)
    have f_aPl : h85 aPl = some (.inl ((t 0), 163840, .inl g89)) := hg9
    refine lv_aload_n hx hb d_Mo_design_286 rfl (lv_at hl 5 rfl) ?_
    refine lv_iload hx hb d_Mo_design_287 (lv_at hl 4 rfl) ?_
    refine lv_sipush (v := 2054) hx hb d_Mo_design_289 (by decide) ?_
    refine lv_iadd hx hb d_Mo_design_292 ?_
    refine lv_iconst (v := 2) hx hb d_Mo_design_293 (by decide) ?_
    refine lv_iload hx hb d_Mo_design_294 (lv_at hl 0 rfl) ?_
    refine hm_callv (va_runV (As := [.int (4096 + 2054), .int 2, .int 1]) (b := mo) (rest := []) ⟨hx, hb, hml, hown, hts⟩ (c_m_high l D t G ak av h85 mo n aBy aSt aDe aPa aIt aId aPr aNa aSi aSe aIw aEx aOl aPl aTa aAt aLo aS1 aS2 aS3 aS4 aS5 aS6 aO1 aO2 aO3 aO4 aO5 1 wt g89 6150 2 (4096 + 2054) 2 1 f_m f_aPl (by decide) rfl (by omega)) ⟨cw9B 3 hts mw_492 mw_493 mw_428 rfl rfl (by decide +kernel) ⟨Nat.le_of_ble_eq_true rfl, Nat.le_of_ble_eq_true rfl⟩, hts _ mw_494, hts _ mw_495⟩ (hP_V (q := (R_Mo, F_Mo, 41)) kE_ok hE hK hH f_m rfl) rfl rfl hl.1 rfl (lv_room (Nat.le_of_ble_eq_true rfl)) d_Mo_design_296 ⟨Nat.le_of_ble_eq_true rfl, Nat.le_of_ble_eq_true rfl⟩) hLo (fun h90 H91 locs hp93 hH z92 hLo => ?_)
    have hz : s.heap.size ≤ H91.size := Nat.le_trans hz z92
    obtain ⟨hk9, g94, hg9⟩ := hp93
    have f_m : h90 mo = some (.inr (9, [.int 0, .int (nI n), .int 0, .ref aBy, .ref aSt, .ref aDe, .int 0, .int (-1), .int wt, .ref aPa, .int 1, .ref aIt, .ref aId, .ref aPr, .ref aNa, .ref aSi, .ref aSe, .ref aIw, .ref aEx, .ref aOl, .int 0, .ref aPl, .int 1, .int 0, .ref aTa, .ref aAt, .ref aLo, .int 0, .int 0, .ref aS1, .ref aS2, .ref aS3, .ref aS4, .ref aS5, .ref aS6, .int 0, .ref aO1, .ref aO2, .ref aO3, .ref aO4, .ref aO5])) := kp_at hk9 f_m (nmc (Ne.symm (h_neA f_aPl f_m)) nm0)
    have f_aId : h90 aId = some (.inl ((t 1), 700, .inl gId)) := kp_at hk9 f_aId (nmc (h_neL (k1 := 700) (k2 := 163840) f_aId f_aPl rfl rfl (by omega)) nm0)
    have f_aTa : h90 aTa = some (.inl ((t 2), 30, .inl gTa)) := kp_at hk9 f_aTa (nmc (h_neL (k1 := 30) (k2 := 163840) f_aTa f_aPl rfl rfl (by omega)) nm0)
    have f_aAt : h90 aAt = some (.inl ((t 2), 700, .inl gAt)) := kp_at hk9 f_aAt (nmc (h_neL (k1 := 700) (k2 := 163840) f_aAt f_aPl rfl rfl (by omega)) nm0)
    have f_aLo : h90 aLo = some (.inl ((t 2), 700, .inl gLo)) := kp_at hk9 f_aLo (nmc (h_neL (k1 := 700) (k2 := 163840) f_aLo f_aPl rfl rfl (by omega)) nm0)
    have hkp : kp [aPl] h h90 := kp_tr2 hkp hk9 (List.forall_mem_cons.mpr ⟨Or.inl (by simp), List.forall_mem_nil _⟩)
    have f_aPl : h90 aPl = some (.inl ((t 0), 163840, .inl g94)) := hg9
    refine lv_iconst (v := 0) hx hb d_Mo_design_299 (by decide) ?_
    refine lv_istore (lv' := [(9, .int 0), (8, .int 1), (7, .int 1), (6, .int 0), (5, .int 0), (4, .int 4096), (0, .ref mo), (1, .int 0), (2, .int 22), (3, .int nu)]) hx hb d_Mo_design_300 hl (by decide) rfl (fun ls hl => ?_)
    refine lv_iload hx hb d_Mo_design_302 (lv_at hl 0 rfl) ?_
    refine lv_iload hx hb d_Mo_design_304 (lv_at hl 2 rfl) ?_
    refine lv_icmp_ge (tgt := 373) hx hb d_Mo_design_306 (by decide) (fun hc95 => absurd hc95 (by decide)) (fun hc95 => ?_)
    refine lv_iload hx hb d_Mo_design_309 (lv_at hl 3 rfl) ?_
    refine lv_if_le (tgt := 373) hx hb d_Mo_design_311 (by decide) (fun hc96 => ?_) (fun hc96 => absurd (by decide) hc96)
    refine lv_iload hx hb d_Mo_design_373 (lv_at hl 5 rfl) ?_
    refine lv_bipush (v := 8) hx hb d_Mo_design_375 (by decide) ?_
    refine lv_iload hx hb d_Mo_design_377 (lv_at hl 2 rfl) ?_
    refine hm_calli (va_runS (As := [.int 1]) (rest := [.int 8, .int 4096]) ⟨hx, hb, hml, hown, hts⟩ (c_m_even l D t G ak av h90 1) ⟨cw9B 1 hts mw_500 mw_501 mw_428 rfl rfl (by decide +kernel) ⟨Nat.le_of_ble_eq_true rfl, Nat.le_of_ble_eq_true rfl⟩, hts _ mw_502⟩ (hP_S kE_ok hE hH) rfl rfl hl.1 rfl (lv_room (Nat.le_of_ble_eq_true rfl)) d_Mo_design_379 ⟨Nat.le_of_ble_eq_true rfl, Nat.le_of_ble_eq_true rfl⟩) hLo (fun r97 h98 H99 locs hp101 hH z100 hLo => ?_)
    have hz : s.heap.size ≤ H99.size := Nat.le_trans hz z100
    obtain ⟨rfl, rfl⟩ := hp101
    refine lv_iadd hx hb d_Mo_design_382 ?_
    refine lv_iadd hx hb d_Mo_design_383 ?_
    refine lv_topi (fun v102 e103 => ?_)
    obtain rfl : v102 = 4106 := e103.trans (by decide)
    refine lv_istore (lv' := [(4, .int 4106), (9, .int 0), (8, .int 1), (7, .int 1), (6, .int 0), (5, .int 0), (0, .ref mo), (1, .int 0), (2, .int 22), (3, .int nu)]) hx hb d_Mo_design_384 hl (by decide) rfl (fun ls hl => ?_)
    refine lv_aload_n hx hb d_Mo_design_386 rfl (lv_at hl 6 rfl) ?_
    refine lv_iload hx hb d_Mo_design_387 (lv_at hl 4 rfl) ?_
    refine lv_sipush (v := 2048) hx hb d_Mo_design_389 (by decide) ?_
    refine lv_aload_n hx hb d_Mo_design_392 rfl (lv_at hl 6 rfl) ?_
    refine hm_get (ci := 9) (v := .ref aAt) (C := R_Mo) (T := F_Mo) (N := 41) hx hb hts ig_Mo hown hK hH f_m rfl 25 (by decide) (hts _ mw_412) (fun _ h9 => h9) rfl d_Mo_design_393 ?_
    refine lv_iload hx hb d_Mo_design_396 (lv_at hl 4 rfl) ?_
    refine hj_iald hx hb hK hH 2 f_aAt rfl 0 (by decide) (by decide) (by decide) d_Mo_design_398 ?_
    refine lv_topi (fun v104 e105 => ?_)
    obtain rfl : v104 = 20 := e105.trans (hat)
    refine lv_iload_n hx hb d_Mo_design_399 rfl (lv_at hl 7 rfl) ?_
    refine lv_isub hx hb d_Mo_design_400 ?_
    refine lv_bipush (v := 16) hx hb d_Mo_design_401 (by decide) ?_
    refine lv_isub hx hb d_Mo_design_403 ?_
    refine lv_imul hx hb d_Mo_design_404 ?_
    refine lv_iconst (v := 1) hx hb d_Mo_design_405 (by decide) ?_
    refine hm_calli (va_runV (As := [.int 0, .int (2048 * ((20 - 0) - 16)), .int 1]) (b := mo) (rest := []) ⟨hx, hb, hml, hown, hts⟩ (c_m_along1 l D t G ak av h90 mo n aBy aSt aDe aPa aIt aId aPr aNa aSi aSe aIw aEx aOl aPl aTa aAt aLo aS1 aS2 aS3 aS4 aS5 aS6 aO1 aO2 aO3 aO4 aO5 1 wt g94 gId gAt gLo 8192 (2048 * (20 - 0 - 16)) f_m f_aPl f_aId f_aAt f_aLo zId (by decide) (by omega) ne_aId_aAt ne_aId_aLo ne_aAt_aLo) ⟨cw9B 3 hts mw_520 mw_521 mw_428 rfl rfl (by decide +kernel) ⟨Nat.le_of_ble_eq_true rfl, Nat.le_of_ble_eq_true rfl⟩, hts _ mw_522, hts _ mw_523⟩ (hP_V (q := (R_Mo, F_Mo, 41)) kE_ok hE hK hH f_m rfl) rfl rfl hl.1 rfl (lv_room (Nat.le_of_ble_eq_true rfl)) d_Mo_design_406 ⟨Nat.le_of_ble_eq_true rfl, Nat.le_of_ble_eq_true rfl⟩) hLo (fun r106 h107 H108 locs hp110 hH z109 hLo => ?_)
    have hz : s.heap.size ≤ H108.size := Nat.le_trans hz z109
    obtain ⟨hk9, g111, hg9⟩ := hp110
    have f_m : h107 mo = some (.inr (9, [.int 0, .int (nI n), .int 0, .ref aBy, .ref aSt, .ref aDe, .int 0, .int (-1), .int wt, .ref aPa, .int 1, .ref aIt, .ref aId, .ref aPr, .ref aNa, .ref aSi, .ref aSe, .ref aIw, .ref aEx, .ref aOl, .int 0, .ref aPl, .int 1, .int 0, .ref aTa, .ref aAt, .ref aLo, .int 0, .int 0, .ref aS1, .ref aS2, .ref aS3, .ref aS4, .ref aS5, .ref aS6, .int 0, .ref aO1, .ref aO2, .ref aO3, .ref aO4, .ref aO5])) := kp_at hk9 f_m (nmc (Ne.symm (h_neA f_aPl f_m)) nm0)
    have f_aId : h107 aId = some (.inl ((t 1), 700, .inl gId)) := kp_at hk9 f_aId (nmc (h_neL (k1 := 700) (k2 := 163840) f_aId f_aPl rfl rfl (by omega)) nm0)
    have f_aTa : h107 aTa = some (.inl ((t 2), 30, .inl gTa)) := kp_at hk9 f_aTa (nmc (h_neL (k1 := 30) (k2 := 163840) f_aTa f_aPl rfl rfl (by omega)) nm0)
    have f_aAt : h107 aAt = some (.inl ((t 2), 700, .inl gAt)) := kp_at hk9 f_aAt (nmc (h_neL (k1 := 700) (k2 := 163840) f_aAt f_aPl rfl rfl (by omega)) nm0)
    have f_aLo : h107 aLo = some (.inl ((t 2), 700, .inl gLo)) := kp_at hk9 f_aLo (nmc (h_neL (k1 := 700) (k2 := 163840) f_aLo f_aPl rfl rfl (by omega)) nm0)
    have hkp : kp [aPl] h h107 := kp_tr2 hkp hk9 (List.forall_mem_cons.mpr ⟨Or.inl (by simp), List.forall_mem_nil _⟩)
    have f_aPl : h107 aPl = some (.inl ((t 0), 163840, .inl g111)) := hg9
    refine lv_pop hx hb d_Mo_design_409 rfl ?_
    refine lv_iinc (v := 0 + 1) (lv' := [(5, .int (0 + 1)), (4, .int 4106), (9, .int 0), (8, .int 1), (7, .int 1), (6, .int 0), (0, .ref mo), (1, .int 0), (2, .int 22), (3, .int nu)]) hx hb d_Mo_design_410 hl (k := 5) rfl (by rfl) (by decide) rfl (fun ls hl => ?_)
    refine lv_goto (tgt := 158) hx hb d_Mo_design_413 (by decide) ?_
    refine lv_iload hx hb d_Mo_design_158 (lv_at hl 0 rfl) ?_
    refine lv_aload_n hx hb d_Mo_design_160 rfl (lv_at hl 6 rfl) ?_
    refine hm_get (ci := 9) (v := .int 1) (C := R_Mo) (T := F_Mo) (N := 41) hx hb hts ig_Mo hown hK hH f_m rfl 22 (by decide) (hts _ mw_515) (fun _ h9 => h9) rfl d_Mo_design_161 ?_
    refine lv_icmp_ge (tgt := 416) hx hb d_Mo_design_164 (by decide) (fun hc112 => ?_) (fun hc112 => absurd (by decide) hc112)
    refine lv_aload_n hx hb d_Mo_design_416 rfl (lv_at hl 6 rfl) ?_
    refine lv_sipush (v := 132) hx hb d_Mo_design_417 (by decide) ?_
    refine lv_iconst (v := 4) hx hb d_Mo_design_420 (by decide) ?_
    refine lv_iload hx hb d_Mo_design_421 (lv_at hl 1 rfl) ?_
    refine lv_sipush (v := 4096) hx hb d_Mo_design_423 (by decide) ?_
    refine lv_isub hx hb d_Mo_design_426 ?_
    refine hm_callv (va_runV (As := [.int 132, .int 4, .int (4106 - 4096)]) (b := mo) (rest := []) ⟨hx, hb, hml, hown, hts⟩ (c_m_both l D t G ak av h107 mo n aBy aSt aDe aPa aIt aId aPr aNa aSi aSe aIw aEx aOl aPl aTa aAt aLo aS1 aS2 aS3 aS4 aS5 aS6 aO1 aO2 aO3 aO4 aO5 1 wt g111 132 4 132 4 (4106 - 4096) f_m f_aPl (by decide) rfl (by omega)) ⟨cw9B 3 hts mw_503 mw_504 mw_428 rfl rfl (by decide +kernel) ⟨Nat.le_of_ble_eq_true rfl, Nat.le_of_ble_eq_true rfl⟩, hts _ mw_505, hts _ mw_506⟩ (hP_V (q := (R_Mo, F_Mo, 41)) kE_ok hE hK hH f_m rfl) rfl rfl hl.1 rfl (lv_room (Nat.le_of_ble_eq_true rfl)) d_Mo_design_427 ⟨Nat.le_of_ble_eq_true rfl, Nat.le_of_ble_eq_true rfl⟩) hLo (fun h113 H114 locs hp116 hH z115 hLo => ?_)
    have hz : s.heap.size ≤ H114.size := Nat.le_trans hz z115
    obtain ⟨hk9, g117, hg9⟩ := hp116
    have f_m : h113 mo = some (.inr (9, [.int 0, .int (nI n), .int 0, .ref aBy, .ref aSt, .ref aDe, .int 0, .int (-1), .int wt, .ref aPa, .int 1, .ref aIt, .ref aId, .ref aPr, .ref aNa, .ref aSi, .ref aSe, .ref aIw, .ref aEx, .ref aOl, .int 0, .ref aPl, .int 1, .int 0, .ref aTa, .ref aAt, .ref aLo, .int 0, .int 0, .ref aS1, .ref aS2, .ref aS3, .ref aS4, .ref aS5, .ref aS6, .int 0, .ref aO1, .ref aO2, .ref aO3, .ref aO4, .ref aO5])) := kp_at hk9 f_m (nmc (Ne.symm (h_neA f_aPl f_m)) nm0)
    have f_aId : h113 aId = some (.inl ((t 1), 700, .inl gId)) := kp_at hk9 f_aId (nmc (h_neL (k1 := 700) (k2 := 163840) f_aId f_aPl rfl rfl (by omega)) nm0)
    have f_aTa : h113 aTa = some (.inl ((t 2), 30, .inl gTa)) := kp_at hk9 f_aTa (nmc (h_neL (k1 := 30) (k2 := 163840) f_aTa f_aPl rfl rfl (by omega)) nm0)
    have f_aAt : h113 aAt = some (.inl ((t 2), 700, .inl gAt)) := kp_at hk9 f_aAt (nmc (h_neL (k1 := 700) (k2 := 163840) f_aAt f_aPl rfl rfl (by omega)) nm0)
    have f_aLo : h113 aLo = some (.inl ((t 2), 700, .inl gLo)) := kp_at hk9 f_aLo (nmc (h_neL (k1 := 700) (k2 := 163840) f_aLo f_aPl rfl rfl (by omega)) nm0)
    have hkp : kp [aPl] h h113 := kp_tr2 hkp hk9 (List.forall_mem_cons.mpr ⟨Or.inl (by simp), List.forall_mem_nil _⟩)
    have f_aPl : h113 aPl = some (.inl ((t 0), 163840, .inl g117)) := hg9
    refine lv_sipush (v := 2048) hx hb d_Mo_design_430 (by decide) ?_
    refine lv_iload_n hx hb d_Mo_design_433 rfl (lv_at hl 8 rfl) ?_
    refine lv_bipush (v := 17) hx hb d_Mo_design_434 (by decide) ?_
    refine lv_isub hx hb d_Mo_design_436 ?_
    refine lv_imul hx hb d_Mo_design_437 ?_
    refine lv_topi (fun v118 e119 => ?_)
    obtain rfl : v118 = 10240 := e119.trans (by decide)
    refine lv_istore (lv' := [(5, .int 10240), (4, .int 4106), (9, .int 0), (8, .int 1), (7, .int 1), (6, .int 0), (0, .ref mo), (1, .int 0), (2, .int 22), (3, .int nu)]) hx hb d_Mo_design_438 hl (by decide) rfl (fun ls hl => ?_)
    refine lv_aload_n hx hb d_Mo_design_440 rfl (lv_at hl 6 rfl) ?_
    refine lv_iload hx hb d_Mo_design_441 (lv_at hl 0 rfl) ?_
    refine lv_bipush (v := 77) hx hb d_Mo_design_443 (by decide) ?_
    refine lv_bipush (v := 65) hx hb d_Mo_design_445 (by decide) ?_
    refine lv_bipush (v := 82) hx hb d_Mo_design_447 (by decide) ?_
    refine lv_bipush (v := 75) hx hb d_Mo_design_449 (by decide) ?_
    refine lv_iconst (v := 0) hx hb d_Mo_design_451 (by decide) ?_
    refine hm_callv (va_runV (As := [.int 10240, .int 77, .int 65, .int 82, .int 75, .int 0]) (b := mo) (rest := []) ⟨hx, hb, hml, hown, hts⟩ (c_m_letters l D t G ak av h113 mo n aBy aSt aDe aPa aIt aId aPr aNa aSi aSe aIw aEx aOl aPl aTa aAt aLo aS1 aS2 aS3 aS4 aS5 aS6 aO1 aO2 aO3 aO4 aO5 1 wt g117 10240 10240 77 65 82 75 0 f_m f_aPl (by decide) (by omega)) ⟨cw9B 6 hts mw_524 mw_525 mw_428 rfl rfl (by decide +kernel) ⟨Nat.le_of_ble_eq_true rfl, Nat.le_of_ble_eq_true rfl⟩, hts _ mw_526, hts _ mw_527⟩ (hP_V (q := (R_Mo, F_Mo, 41)) kE_ok hE hK hH f_m rfl) rfl rfl hl.1 rfl (lv_room (Nat.le_of_ble_eq_true rfl)) d_Mo_design_452 ⟨Nat.le_of_ble_eq_true rfl, Nat.le_of_ble_eq_true rfl⟩) hLo (fun h120 H121 locs hp123 hH z122 hLo => ?_)
    have hz : s.heap.size ≤ H121.size := Nat.le_trans hz z122
    obtain ⟨hk9, g124, hg9⟩ := hp123
    have f_m : h120 mo = some (.inr (9, [.int 0, .int (nI n), .int 0, .ref aBy, .ref aSt, .ref aDe, .int 0, .int (-1), .int wt, .ref aPa, .int 1, .ref aIt, .ref aId, .ref aPr, .ref aNa, .ref aSi, .ref aSe, .ref aIw, .ref aEx, .ref aOl, .int 0, .ref aPl, .int 1, .int 0, .ref aTa, .ref aAt, .ref aLo, .int 0, .int 0, .ref aS1, .ref aS2, .ref aS3, .ref aS4, .ref aS5, .ref aS6, .int 0, .ref aO1, .ref aO2, .ref aO3, .ref aO4, .ref aO5])) := kp_at hk9 f_m (nmc (Ne.symm (h_neA f_aPl f_m)) nm0)
    have f_aId : h120 aId = some (.inl ((t 1), 700, .inl gId)) := kp_at hk9 f_aId (nmc (h_neL (k1 := 700) (k2 := 163840) f_aId f_aPl rfl rfl (by omega)) nm0)
    have f_aTa : h120 aTa = some (.inl ((t 2), 30, .inl gTa)) := kp_at hk9 f_aTa (nmc (h_neL (k1 := 30) (k2 := 163840) f_aTa f_aPl rfl rfl (by omega)) nm0)
    have f_aAt : h120 aAt = some (.inl ((t 2), 700, .inl gAt)) := kp_at hk9 f_aAt (nmc (h_neL (k1 := 700) (k2 := 163840) f_aAt f_aPl rfl rfl (by omega)) nm0)
    have f_aLo : h120 aLo = some (.inl ((t 2), 700, .inl gLo)) := kp_at hk9 f_aLo (nmc (h_neL (k1 := 700) (k2 := 163840) f_aLo f_aPl rfl rfl (by omega)) nm0)
    have hkp : kp [aPl] h h120 := kp_tr2 hkp hk9 (List.forall_mem_cons.mpr ⟨Or.inl (by simp), List.forall_mem_nil _⟩)
    have f_aPl : h120 aPl = some (.inl ((t 0), 163840, .inl g124)) := hg9
    refine lv_aload_n hx hb d_Mo_design_455 rfl (lv_at hl 6 rfl) ?_
    refine lv_iload hx hb d_Mo_design_456 (lv_at hl 0 rfl) ?_
    refine lv_iconst (v := 4) hx hb d_Mo_design_458 (by decide) ?_
    refine lv_iadd hx hb d_Mo_design_459 ?_
    refine lv_iconst (v := 4) hx hb d_Mo_design_460 (by decide) ?_
    refine lv_iload_n hx hb d_Mo_design_461 rfl (lv_at hl 7 rfl) ?_
    refine hm_callv (va_runV (As := [.int (10240 + 4), .int 4, .int 0]) (b := mo) (rest := []) ⟨hx, hb, hml, hown, hts⟩ (c_m_low l D t G ak av h120 mo n aBy aSt aDe aPa aIt aId aPr aNa aSi aSe aIw aEx aOl aPl aTa aAt aLo aS1 aS2 aS3 aS4 aS5 aS6 aO1 aO2 aO3 aO4 aO5 1 wt g124 10244 4 (10240 + 4) 4 0 f_m f_aPl (by decide) rfl (by omega)) ⟨cw9B 3 hts mw_488 mw_489 mw_428 rfl rfl (by decide +kernel) ⟨Nat.le_of_ble_eq_true rfl, Nat.le_of_ble_eq_true rfl⟩, hts _ mw_490, hts _ mw_491⟩ (hP_V (q := (R_Mo, F_Mo, 41)) kE_ok hE hK hH f_m rfl) rfl rfl hl.1 rfl (lv_room (Nat.le_of_ble_eq_true rfl)) d_Mo_design_462 ⟨Nat.le_of_ble_eq_true rfl, Nat.le_of_ble_eq_true rfl⟩) hLo (fun h125 H126 locs hp128 hH z127 hLo => ?_)
    have hz : s.heap.size ≤ H126.size := Nat.le_trans hz z127
    obtain ⟨hk9, g129, hg9⟩ := hp128
    have f_m : h125 mo = some (.inr (9, [.int 0, .int (nI n), .int 0, .ref aBy, .ref aSt, .ref aDe, .int 0, .int (-1), .int wt, .ref aPa, .int 1, .ref aIt, .ref aId, .ref aPr, .ref aNa, .ref aSi, .ref aSe, .ref aIw, .ref aEx, .ref aOl, .int 0, .ref aPl, .int 1, .int 0, .ref aTa, .ref aAt, .ref aLo, .int 0, .int 0, .ref aS1, .ref aS2, .ref aS3, .ref aS4, .ref aS5, .ref aS6, .int 0, .ref aO1, .ref aO2, .ref aO3, .ref aO4, .ref aO5])) := kp_at hk9 f_m (nmc (Ne.symm (h_neA f_aPl f_m)) nm0)
    have f_aId : h125 aId = some (.inl ((t 1), 700, .inl gId)) := kp_at hk9 f_aId (nmc (h_neL (k1 := 700) (k2 := 163840) f_aId f_aPl rfl rfl (by omega)) nm0)
    have f_aTa : h125 aTa = some (.inl ((t 2), 30, .inl gTa)) := kp_at hk9 f_aTa (nmc (h_neL (k1 := 30) (k2 := 163840) f_aTa f_aPl rfl rfl (by omega)) nm0)
    have f_aAt : h125 aAt = some (.inl ((t 2), 700, .inl gAt)) := kp_at hk9 f_aAt (nmc (h_neL (k1 := 700) (k2 := 163840) f_aAt f_aPl rfl rfl (by omega)) nm0)
    have f_aLo : h125 aLo = some (.inl ((t 2), 700, .inl gLo)) := kp_at hk9 f_aLo (nmc (h_neL (k1 := 700) (k2 := 163840) f_aLo f_aPl rfl rfl (by omega)) nm0)
    have hkp : kp [aPl] h h125 := kp_tr2 hkp hk9 (List.forall_mem_cons.mpr ⟨Or.inl (by simp), List.forall_mem_nil _⟩)
    have f_aPl : h125 aPl = some (.inl ((t 0), 163840, .inl g129)) := hg9
    refine lv_aload_n hx hb d_Mo_design_465 rfl (lv_at hl 6 rfl) ?_
    refine lv_iload hx hb d_Mo_design_466 (lv_at hl 0 rfl) ?_
    refine lv_bipush (v := 8) hx hb d_Mo_design_468 (by decide) ?_
    refine lv_iadd hx hb d_Mo_design_470 ?_
    refine lv_iconst (v := 4) hx hb d_Mo_design_471 (by decide) ?_
    refine lv_iload_n hx hb d_Mo_design_472 rfl (lv_at hl 9 rfl) ?_
    refine hm_callv (va_runV (As := [.int (10240 + 8), .int 4, .int nu]) (b := mo) (rest := []) ⟨hx, hb, hml, hown, hts⟩ (c_m_low l D t G ak av h125 mo n aBy aSt aDe aPa aIt aId aPr aNa aSi aSe aIw aEx aOl aPl aTa aAt aLo aS1 aS2 aS3 aS4 aS5 aS6 aO1 aO2 aO3 aO4 aO5 1 wt g129 10248 4 (10240 + 8) 4 nu f_m f_aPl (by decide) rfl (by omega)) ⟨cw9B 3 hts mw_488 mw_489 mw_428 rfl rfl (by decide +kernel) ⟨Nat.le_of_ble_eq_true rfl, Nat.le_of_ble_eq_true rfl⟩, hts _ mw_490, hts _ mw_491⟩ (hP_V (q := (R_Mo, F_Mo, 41)) kE_ok hE hK hH f_m rfl) rfl rfl hl.1 rfl (lv_room (Nat.le_of_ble_eq_true rfl)) d_Mo_design_473 ⟨Nat.le_of_ble_eq_true rfl, Nat.le_of_ble_eq_true rfl⟩) hLo (fun h130 H131 locs hp133 hH z132 hLo => ?_)
    have hz : s.heap.size ≤ H131.size := Nat.le_trans hz z132
    obtain ⟨hk9, g134, hg9⟩ := hp133
    have f_m : h130 mo = some (.inr (9, [.int 0, .int (nI n), .int 0, .ref aBy, .ref aSt, .ref aDe, .int 0, .int (-1), .int wt, .ref aPa, .int 1, .ref aIt, .ref aId, .ref aPr, .ref aNa, .ref aSi, .ref aSe, .ref aIw, .ref aEx, .ref aOl, .int 0, .ref aPl, .int 1, .int 0, .ref aTa, .ref aAt, .ref aLo, .int 0, .int 0, .ref aS1, .ref aS2, .ref aS3, .ref aS4, .ref aS5, .ref aS6, .int 0, .ref aO1, .ref aO2, .ref aO3, .ref aO4, .ref aO5])) := kp_at hk9 f_m (nmc (Ne.symm (h_neA f_aPl f_m)) nm0)
    have f_aId : h130 aId = some (.inl ((t 1), 700, .inl gId)) := kp_at hk9 f_aId (nmc (h_neL (k1 := 700) (k2 := 163840) f_aId f_aPl rfl rfl (by omega)) nm0)
    have f_aTa : h130 aTa = some (.inl ((t 2), 30, .inl gTa)) := kp_at hk9 f_aTa (nmc (h_neL (k1 := 30) (k2 := 163840) f_aTa f_aPl rfl rfl (by omega)) nm0)
    have f_aAt : h130 aAt = some (.inl ((t 2), 700, .inl gAt)) := kp_at hk9 f_aAt (nmc (h_neL (k1 := 700) (k2 := 163840) f_aAt f_aPl rfl rfl (by omega)) nm0)
    have f_aLo : h130 aLo = some (.inl ((t 2), 700, .inl gLo)) := kp_at hk9 f_aLo (nmc (h_neL (k1 := 700) (k2 := 163840) f_aLo f_aPl rfl rfl (by omega)) nm0)
    have hkp : kp [aPl] h h130 := kp_tr2 hkp hk9 (List.forall_mem_cons.mpr ⟨Or.inl (by simp), List.forall_mem_nil _⟩)
    have f_aPl : h130 aPl = some (.inl ((t 0), 163840, .inl g134)) := hg9
    exact W.vret hx hb hr (fun t9 ht hW => ⟨h130, rfl, ⟨hkp, _, f_aPl⟩, by rw [ht]; exact hH, by rw [ht]; exact hz⟩) hLo d_Mo_design_476
  · skip
    have hk1 : k9 < 12288 := (nI_ltI (by omega) (by omega)).mp (Int32.not_le.mp hc5)
    refine lv_aload_n hx hb d_Mo_design_16 rfl (lv_at hl 1 rfl) ?_
    refine hm_get (ci := 9) (v := .ref aPl) (C := R_Mo) (T := F_Mo) (N := 41) hx hb hts ig_Mo hown hK hH f_m rfl 21 (by decide) (hts _ mw_410) (fun _ h9 => h9) rfl d_Mo_design_17 ?_
    refine lv_iload hx hb d_Mo_design_20 (lv_at hl 0 rfl) ?_
    refine lv_iconst (v := 0) hx hb d_Mo_design_22 (by decide) ?_
    refine hj_bast hx hb hK hH hLo 0 f_aPl rfl k9 rfl (by omega) (by decide) d_Mo_design_23 (fun H135 locs hH z136 hLo => ?_)
    have hz : s.heap.size ≤ H135.size := by rw [z136]; exact hz
    obtain ⟨h137, e138⟩ : ∃ z, z = hu hh aPl (.inl ((t 0), 163840, .inl (upd g9 k9 (vp_nar .byte 0)))) := ⟨_, rfl⟩
    have hH : hm D vwCl G h137 H135 := by rw [e138]; exact hH
    have f_m : h137 mo = some (.inr (9, [.int 0, .int (nI n), .int 0, .ref aBy, .ref aSt, .ref aDe, .int 0, .int (-1), .int wt, .ref aPa, .int 1, .ref aIt, .ref aId, .ref aPr, .ref aNa, .ref aSi, .ref aSe, .ref aIw, .ref aEx, .ref aOl, .int 0, .ref aPl, .int 1, .int 0, .ref aTa, .ref aAt, .ref aLo, .int 0, .int 0, .ref aS1, .ref aS2, .ref aS3, .ref aS4, .ref aS5, .ref aS6, .int 0, .ref aO1, .ref aO2, .ref aO3, .ref aO4, .ref aO5])) := by rw [e138, hu_n (Ne.symm (h_neA f_aPl f_m))]; exact f_m
    have f_aId : h137 aId = some (.inl ((t 1), 700, .inl gId)) := by rw [e138, hu_n (h_neL (k1 := 700) (k2 := 163840) f_aId f_aPl rfl rfl (by omega))]; exact f_aId
    have f_aTa : h137 aTa = some (.inl ((t 2), 30, .inl gTa)) := by rw [e138, hu_n (h_neL (k1 := 30) (k2 := 163840) f_aTa f_aPl rfl rfl (by omega))]; exact f_aTa
    have f_aAt : h137 aAt = some (.inl ((t 2), 700, .inl gAt)) := by rw [e138, hu_n (h_neL (k1 := 700) (k2 := 163840) f_aAt f_aPl rfl rfl (by omega))]; exact f_aAt
    have f_aLo : h137 aLo = some (.inl ((t 2), 700, .inl gLo)) := by rw [e138, hu_n (h_neL (k1 := 700) (k2 := 163840) f_aLo f_aPl rfl rfl (by omega))]; exact f_aLo
    have f_aPl : h137 aPl = some (.inl ((t 0), 163840, .inl (upd g9 k9 (vp_nar .byte 0)))) := by rw [e138]; exact hu_s _ _ _
    have hkp : kp [aPl] h h137 := by rw [e138]; exact kp_put hkp (by simp)
    refine lv_iinc (v := nI (k9 + 1)) (lv' := [(4, .int (nI (k9 + 1))), (0, .ref mo), (1, .int 0), (2, .int 22), (3, .int nu)]) hx hb d_Mo_design_24 hl (k := 0) rfl (nI_1 k9) (by decide) rfl (fun ls hl => ?_)
    refine lv_goto (tgt := 3) hx hb d_Mo_design_27 (by decide) ?_
    exact ih (12288 - (k9 + 1)) ls _ locs _ (by rw [hk]; omega) ⟨(k9 + 1), _, rfl, (lv_sub hl [0, 1, 2, 3, 4] rfl), hH, hz, hLo, hkp, f_m, f_aPl, f_aId, f_aTa, f_aAt, f_aLo, by omega⟩

set_option maxHeartbeats 4000000 in
set_option maxRecDepth 100000 in
theorem c_m_frontOf (l : Launch) (D : va_G) (t : Nat → ClassId) (G : hG) (ak av : Nat → Nat) (h : hM) (mo n aBy aSt aDe aPa aIt aId aPr aNa aSi aSe aIw aEx aOl aPl aTa aAt aLo aS1 aS2 aS3 aS4 aS5 aS6 aO1 aO2 aO3 aO4 aO5 : Nat) (dr wt : Int32) (gSt : Nat → Int32) (fi : Nat) (fv : Int32) (f_m : h mo = some (.inr (9, [.int 0, .int (nI n), .int 0, .ref aBy, .ref aSt, .ref aDe, .int 0, .int (-1), .int wt, .ref aPa, .int 1, .ref aIt, .ref aId, .ref aPr, .ref aNa, .ref aSi, .ref aSe, .ref aIw, .ref aEx, .ref aOl, .int 0, .ref aPl, .int dr, .int 0, .ref aTa, .ref aAt, .ref aLo, .int 0, .int 0, .ref aS1, .ref aS2, .ref aS3, .ref aS4, .ref aS5, .ref aS6, .int 0, .ref aO1, .ref aO2, .ref aO3, .ref aO4, .ref aO5]))) (f_aSt : h aSt = some (.inl ((t 0), 400, .inl gSt))) (hfi : fv = nI fi) (hfi2 : fi ≤ 200) (hz9 : ∀ j, j < n → gSt (fi + j) = 0) (hn : n ≤ 200) : Met l y_Mo_frontOf (.code y_Mo_frontOf b_Mo_frontOf 3 (some .int) :: lw_g) { frames := 0, cells := 0, slots := 0, locals := 0 } (hP (kE D t G ak av) D vwCl G h [.ref mo, .int fv]) (hQi D vwCl G (fun r h' => r = 0 ∧ h = h')) 0 0 G.P := by
  refine Met.ofW (cc := b_Mo_frontOf) (maxL := 3) (ret := (some .int)) (by decide) rfl ?_
  intro p e s m args below meth c s₁ Bd hml hv
  obtain ⟨ha, hE, hH⟩ := hv
  have hx := Bd.exec
  have hb := Bd.bytes
  have hr := Bd.returns
  have hts : ∀ w ∈ lw_g, w.before args s = true := fun w hw => atoms_spec (ws := (.code y_Mo_frontOf b_Mo_frontOf 3 (some .int) :: lw_g)) Bd.pre w (List.mem_cons_of_mem _ hw)
  have hown : s.vm.findClass R_Mo = some m.cls := findClass_of_methodNamed Bd.named
  have hlocks := Bd.notSynchronized
  have hK := hE.1
  have hH0 := hH
  have hLo : hLc G.P [] := hLc_nil
  have hz : s.heap.size ≤ s.heap.size := Nat.le_refl _
  have hkp : kp [] h h := kp_rf
  have hl := lv_entry [.ref mo, .int fv] (n := 3) (Nat.le_of_ble_eq_true rfl)
  rw [show entryFrame m args 3 = F0 m 0 ((lg_sl [.ref mo, .int fv] ++ List.replicate (3 - (lg_sl [.ref mo, .int fv]).length) Slot.unset).toArray) [] from (by rw [ha]; exact lg_entry_eq m [.ref mo, .int fv] 3)]
  generalize (lg_sl [.ref mo, .int fv] ++ List.replicate (3 - (lg_sl [.ref mo, .int fv]).length) Slot.unset).toArray = ls at hl ⊢
  have hl : lv_has ls 3 [(0, .ref mo), (1, .int fv)] := hl
  subst hfi
  refine lv_aload_n hx hb d_Mo_frontOf_0 rfl (lv_at hl 0 rfl) ?_
  refine hm_get (ci := 9) (v := .int (nI n)) (C := R_Mo) (T := F_Mo) (N := 41) hx hb hts ig_Mo hown hK hH f_m rfl 1 (by decide) (hts _ mw_425) (fun _ h9 => h9) rfl d_Mo_frontOf_1 ?_
  refine lv_istore_n (lv' := [(2, .int (nI n)), (0, .ref mo), (1, .int (nI fi))]) hx hb d_Mo_frontOf_4 rfl hl (by decide) rfl (fun ls hl => ?_)
  refine hm_loop (fun k ls H locs hh => ∃ (k9 : Nat), k = k9 ∧ lv_has ls 3 [(2, .int (nI k9)), (0, .ref mo), (1, .int (nI fi))] ∧ hm D vwCl G hh H ∧ s.heap.size ≤ H.size ∧ hLc G.P locs ∧ hh mo = some (.inr (9, [.int 0, .int (nI n), .int 0, .ref aBy, .ref aSt, .ref aDe, .int 0, .int (-1), .int wt, .ref aPa, .int 1, .ref aIt, .ref aId, .ref aPr, .ref aNa, .ref aSi, .ref aSe, .ref aIw, .ref aEx, .ref aOl, .int 0, .ref aPl, .int dr, .int 0, .ref aTa, .ref aAt, .ref aLo, .int 0, .int 0, .ref aS1, .ref aS2, .ref aS3, .ref aS4, .ref aS5, .ref aS6, .int 0, .ref aO1, .ref aO2, .ref aO3, .ref aO4, .ref aO5])) ∧ hh aSt = some (.inl ((t 0), 400, .inl gSt)) ∧ (k9 ≤ n) ∧ (h = hh)) ?_ (hh := h) ⟨n, rfl, (lv_sub hl [0, 1, 2] rfl), hH, hz, hLo, f_m, f_aSt, by omega, rfl⟩
  rintro k ls H locs hh ⟨k9, hk, hl, hH, hz, hLo, f_m, f_aSt, hk9, hhh⟩ ih
  rcases Nat.eq_zero_or_pos k9 with rfl | hpos
  · skip
    refine lv_iload_n hx hb d_Mo_frontOf_5 rfl (lv_at hl 0 rfl) ?_
    refine lv_if_le (tgt := 28) hx hb d_Mo_frontOf_6 (by decide) (fun hc1 => ?_) (fun hc1 => absurd (by decide) hc1)
    refine lv_iload_n hx hb d_Mo_frontOf_28 rfl (lv_at hl 0 rfl) ?_
    exact W.iret (v := nI k9) hx hb hr (fun t9 ht hW => ⟨nI k9, hh, rfl, ⟨nI_0, hhh⟩, by rw [ht]; exact hH, by rw [ht]; exact hz⟩) hLo d_Mo_frontOf_29
  · skip
    obtain ⟨j, rfl⟩ : ∃ j, k9 = j + 1 := ⟨k9 - 1, by omega⟩
    refine lv_iload_n hx hb d_Mo_frontOf_5 rfl (lv_at hl 0 rfl) ?_
    refine lv_if_le (tgt := 28) hx hb d_Mo_frontOf_6 (by decide) (fun hc2 => absurd hc2 (nI_nle (by omega) (by omega))) (fun hc2 => ?_)
    refine lv_aload_n hx hb d_Mo_frontOf_9 rfl (lv_at hl 1 rfl) ?_
    refine hm_get (ci := 9) (v := .ref aSt) (C := R_Mo) (T := F_Mo) (N := 41) hx hb hts ig_Mo hown hK hH f_m rfl 4 (by decide) (hts _ mw_401) (fun _ h9 => h9) rfl d_Mo_frontOf_10 ?_
    refine lv_iload_n hx hb d_Mo_frontOf_13 rfl (lv_at hl 2 rfl) ?_
    refine lv_iload_n hx hb d_Mo_frontOf_14 rfl (lv_at hl 0 rfl) ?_
    refine lv_iadd hx hb d_Mo_frontOf_15 ?_
    refine lv_iconst (v := 1) hx hb d_Mo_frontOf_16 (by decide) ?_
    refine lv_isub hx hb d_Mo_frontOf_17 ?_
    refine hj_bald hx hb hK hH 0 f_aSt rfl (fi + j) (ix6 _ _) (by omega) (by decide) d_Mo_frontOf_18 ?_
    refine lv_if_ne (tgt := 28) hx hb d_Mo_frontOf_19 (by decide) (fun hc3 => absurd (hz9 j (by omega)) hc3) (fun hc3 => ?_)
    refine lv_iinc (v := nI j) (lv' := [(2, .int (nI j)), (0, .ref mo), (1, .int (nI fi))]) hx hb d_Mo_frontOf_22 hl (k := 0) rfl (nI_m1 j) (by decide) rfl (fun ls hl => ?_)
    refine lv_goto (tgt := 5) hx hb d_Mo_frontOf_25 (by decide) ?_
    exact ih (j) ls _ locs _ (by rw [hk]; omega) ⟨j, rfl, (lv_sub hl [0, 1, 2] rfl), hH, hz, hLo, f_m, f_aSt, by omega, hhh⟩

set_option maxHeartbeats 4000000 in
set_option maxRecDepth 100000 in
theorem c_m_burn (l : Launch) (D : va_G) (t : Nat → ClassId) (G : hG) (ak av : Nat → Nat) (h : hM) (mo n aBy aSt aDe aPa aIt aId aPr aNa aSi aSe aIw aEx aOl aPl aTa aAt aLo aS1 aS2 aS3 aS4 aS5 aS6 aO1 aO2 aO3 aO4 aO5 : Nat) (wt : Int32) (gSt gBy gPa gDe : Nat → Int32) (fi S9 : Nat) (fv sv : Int32) (f_m : h mo = some (.inr (9, [.int 0, .int (nI n), .int 0, .ref aBy, .ref aSt, .ref aDe, .int 0, .int (-1), .int wt, .ref aPa, .int 1, .ref aIt, .ref aId, .ref aPr, .ref aNa, .ref aSi, .ref aSe, .ref aIw, .ref aEx, .ref aOl, .int 0, .ref aPl, .int 1, .int 0, .ref aTa, .ref aAt, .ref aLo, .int 0, .int 0, .ref aS1, .ref aS2, .ref aS3, .ref aS4, .ref aS5, .ref aS6, .int 0, .ref aO1, .ref aO2, .ref aO3, .ref aO4, .ref aO5]))) (f_aSt : h aSt = some (.inl ((t 0), 400, .inl gSt))) (f_aBy : h aBy = some (.inl ((t 0), 819200, .inl gBy))) (f_aPa : h aPa = some (.inl ((t 0), 2048, .inl gPa))) (f_aDe : h aDe = some (.inl ((t 1), 200, .inl gDe))) (zDe : ∀ j, gDe j = 0) (hfi : fv = nI fi) (hfi2 : fi ≤ 200) (hs9 : sv = nI S9) (hs92 : S9 < 200) : Met l y_Mo_burn (.code y_Mo_burn b_Mo_burn 4 (some .int) :: lw_g) { frames := 0, cells := 0, slots := 0, locals := 0 } (hP (kE D t G ak av) D vwCl G h [.ref mo, .int fv, .int sv]) (hQi D vwCl G (fun r h' => r = 0 ∧ kp [mo, aSt, aBy] h h' ∧ h' mo = some (.inr (9, [.int 0, .int (nI n), .int 0, .ref aBy, .ref aSt, .ref aDe, .int 0, .int (-1), .int (wt + 1), .ref aPa, .int 1, .ref aIt, .ref aId, .ref aPr, .ref aNa, .ref aSi, .ref aSe, .ref aIw, .ref aEx, .ref aOl, .int 0, .ref aPl, .int 1, .int 0, .ref aTa, .ref aAt, .ref aLo, .int 0, .int 0, .ref aS1, .ref aS2, .ref aS3, .ref aS4, .ref aS5, .ref aS6, .int 0, .ref aO1, .ref aO2, .ref aO3, .ref aO4, .ref aO5])) ∧ ∃ gSt gBy : Nat → Int32, h' aSt = some (.inl ((t 0), 400, .inl gSt)) ∧ h' aBy = some (.inl ((t 0), 819200, .inl gBy)))) 0 0 G.P := by
  refine Met.ofW (cc := b_Mo_burn) (maxL := 4) (ret := (some .int)) (by decide) rfl ?_
  intro p e s m args below meth c s₁ Bd hml hv
  obtain ⟨ha, hE, hH⟩ := hv
  have hx := Bd.exec
  have hb := Bd.bytes
  have hr := Bd.returns
  have hts : ∀ w ∈ lw_g, w.before args s = true := fun w hw => atoms_spec (ws := (.code y_Mo_burn b_Mo_burn 4 (some .int) :: lw_g)) Bd.pre w (List.mem_cons_of_mem _ hw)
  have hown : s.vm.findClass R_Mo = some m.cls := findClass_of_methodNamed Bd.named
  have hlocks := Bd.notSynchronized
  have hK := hE.1
  have hH0 := hH
  have hLo : hLc G.P [] := hLc_nil
  have hz : s.heap.size ≤ s.heap.size := Nat.le_refl _
  have hkp : kp [mo, aSt, aBy] h h := kp_rf
  have hl := lv_entry [.ref mo, .int fv, .int sv] (n := 4) (Nat.le_of_ble_eq_true rfl)
  rw [show entryFrame m args 4 = F0 m 0 ((lg_sl [.ref mo, .int fv, .int sv] ++ List.replicate (4 - (lg_sl [.ref mo, .int fv, .int sv]).length) Slot.unset).toArray) [] from (by rw [ha]; exact lg_entry_eq m [.ref mo, .int fv, .int sv] 4)]
  generalize (lg_sl [.ref mo, .int fv, .int sv] ++ List.replicate (4 - (lg_sl [.ref mo, .int fv, .int sv]).length) Slot.unset).toArray = ls at hl ⊢
  have hl : lv_has ls 4 [(0, .ref mo), (1, .int fv), (2, .int sv)] := hl
  subst hfi
  subst hs9
  refine lv_aload_n hx hb d_Mo_burn_0 rfl (lv_at hl 0 rfl) ?_
  refine lv_dup hx hb d_Mo_burn_1 rfl ?_
  refine hm_get (ci := 9) (v := .int wt) (C := R_Mo) (T := F_Mo) (N := 41) hx hb hts ig_Mo hown hK hH f_m rfl 8 (by decide) (hts _ mw_468) (fun _ h9 => h9) rfl d_Mo_burn_2 ?_
  refine lv_iconst (v := 1) hx hb d_Mo_burn_5 (by decide) ?_
  refine lv_iadd hx hb d_Mo_burn_6 ?_
  refine hm_put (ci := 9) (v := .int (wt + 1)) (ty := .int) (C := R_Mo) (T := F_Mo) (N := 41) hx hb hts ig_Mo t_Mo tk_Mo nm_Mo hown hK hH hLo f_m rfl 8 (by decide) (hts _ mw_468) (fun _ h9 => h9) rfl (by decide +kernel) rfl rfl (Nat.le_of_ble_eq_true rfl) d_Mo_burn_7 (fun H1 locs hH z2 hLo => ?_)
  have hz : s.heap.size ≤ H1.size := by rw [z2]; exact hz
  obtain ⟨h3, e4⟩ : ∃ z, z = hu h mo (.inr (9, [.int 0, .int (nI n), .int 0, .ref aBy, .ref aSt, .ref aDe, .int 0, .int (-1), .int (wt + 1), .ref aPa, .int 1, .ref aIt, .ref aId, .ref aPr, .ref aNa, .ref aSi, .ref aSe, .ref aIw, .ref aEx, .ref aOl, .int 0, .ref aPl, .int 1, .int 0, .ref aTa, .ref aAt, .ref aLo, .int 0, .int 0, .ref aS1, .ref aS2, .ref aS3, .ref aS4, .ref aS5, .ref aS6, .int 0, .ref aO1, .ref aO2, .ref aO3, .ref aO4, .ref aO5])) := ⟨_, rfl⟩
  have hH : hm D vwCl G h3 H1 := by rw [e4]; exact hH
  have f_aSt : h3 aSt = some (.inl ((t 0), 400, .inl gSt)) := by rw [e4, hu_n (h_neA f_aSt f_m)]; exact f_aSt
  have f_aBy : h3 aBy = some (.inl ((t 0), 819200, .inl gBy)) := by rw [e4, hu_n (h_neA f_aBy f_m)]; exact f_aBy
  have f_aPa : h3 aPa = some (.inl ((t 0), 2048, .inl gPa)) := by rw [e4, hu_n (h_neA f_aPa f_m)]; exact f_aPa
  have f_aDe : h3 aDe = some (.inl ((t 1), 200, .inl gDe)) := by rw [e4, hu_n (h_neA f_aDe f_m)]; exact f_aDe
  have f_m : h3 mo = some (.inr (9, [.int 0, .int (nI n), .int 0, .ref aBy, .ref aSt, .ref aDe, .int 0, .int (-1), .int (wt + 1), .ref aPa, .int 1, .ref aIt, .ref aId, .ref aPr, .ref aNa, .ref aSi, .ref aSe, .ref aIw, .ref aEx, .ref aOl, .int 0, .ref aPl, .int 1, .int 0, .ref aTa, .ref aAt, .ref aLo, .int 0, .int 0, .ref aS1, .ref aS2, .ref aS3, .ref aS4, .ref aS5, .ref aS6, .int 0, .ref aO1, .ref aO2, .ref aO3, .ref aO4, .ref aO5])) := by rw [e4]; exact hu_s _ _ _
  have hkp : kp [mo, aSt, aBy] h h3 := by rw [e4]; exact kp_put hkp (by simp)
  refine lv_aload_n hx hb d_Mo_burn_10 rfl (lv_at hl 0 rfl) ?_
  refine hm_get (ci := 9) (v := .int (-1)) (C := R_Mo) (T := F_Mo) (N := 41) hx hb hts ig_Mo hown hK hH f_m rfl 7 (by decide) (hts _ mw_426) (fun _ h9 => h9) rfl d_Mo_burn_11 ?_
  refine lv_if_ne (tgt := 33) hx hb d_Mo_burn_14 (by decide) (fun hc5 => ?_) (fun hc5 => absurd hc5 (by decide))
  refine lv_aload_n hx hb d_Mo_burn_33 rfl (lv_at hl 0 rfl) ?_
  refine hm_get (ci := 9) (v := .int (-1)) (C := R_Mo) (T := F_Mo) (N := 41) hx hb hts ig_Mo hown hK hH f_m rfl 7 (by decide) (hts _ mw_426) (fun _ h9 => h9) rfl d_Mo_burn_34 ?_
  refine lv_if_le (tgt := 50) hx hb d_Mo_burn_37 (by decide) (fun hc6 => ?_) (fun hc6 => absurd (by decide) hc6)
  refine lv_iload_n hx hb d_Mo_burn_50 rfl (lv_at hl 1 rfl) ?_
  refine lv_aload_n hx hb d_Mo_burn_51 rfl (lv_at hl 0 rfl) ?_
  refine hm_get (ci := 9) (v := .int 0) (C := R_Mo) (T := F_Mo) (N := 41) hx hb hts ig_Mo hown hK hH f_m rfl 2 (by decide) (hts _ mw_467) (fun _ h9 => h9) rfl d_Mo_burn_52 ?_
  refine lv_icmp_ne (tgt := 78) hx hb d_Mo_burn_55 (by decide) (fun hc7 => ?_) (fun hc7 => ?_)
  · skip
    refine lv_aload_n hx hb d_Mo_burn_78 rfl (lv_at hl 0 rfl) ?_
    refine hm_get (ci := 9) (v := .ref aSt) (C := R_Mo) (T := F_Mo) (N := 41) hx hb hts ig_Mo hown hK hH f_m rfl 4 (by decide) (hts _ mw_401) (fun _ h9 => h9) rfl d_Mo_burn_79 ?_
    refine lv_iload_n hx hb d_Mo_burn_82 rfl (lv_at hl 1 rfl) ?_
    refine lv_iload_n hx hb d_Mo_burn_83 rfl (lv_at hl 2 rfl) ?_
    refine lv_iadd hx hb d_Mo_burn_84 ?_
    refine lv_iconst (v := 1) hx hb d_Mo_burn_85 (by decide) ?_
    refine hj_bast hx hb hK hH hLo 0 f_aSt rfl (fi + S9) (nI_add _ _) (by omega) (by decide) d_Mo_burn_86 (fun H8 locs hH z9 hLo => ?_)
    have hz : s.heap.size ≤ H8.size := by rw [z9]; exact hz
    obtain ⟨h10, e11⟩ : ∃ z, z = hu h3 aSt (.inl ((t 0), 400, .inl (upd gSt (fi + S9) (vp_nar .byte 1)))) := ⟨_, rfl⟩
    have hH : hm D vwCl G h10 H8 := by rw [e11]; exact hH
    have f_m : h10 mo = some (.inr (9, [.int 0, .int (nI n), .int 0, .ref aBy, .ref aSt, .ref aDe, .int 0, .int (-1), .int (wt + 1), .ref aPa, .int 1, .ref aIt, .ref aId, .ref aPr, .ref aNa, .ref aSi, .ref aSe, .ref aIw, .ref aEx, .ref aOl, .int 0, .ref aPl, .int 1, .int 0, .ref aTa, .ref aAt, .ref aLo, .int 0, .int 0, .ref aS1, .ref aS2, .ref aS3, .ref aS4, .ref aS5, .ref aS6, .int 0, .ref aO1, .ref aO2, .ref aO3, .ref aO4, .ref aO5])) := by rw [e11, hu_n (Ne.symm (h_neA f_aSt f_m))]; exact f_m
    have f_aBy : h10 aBy = some (.inl ((t 0), 819200, .inl gBy)) := by rw [e11, hu_n (h_neL (k1 := 819200) (k2 := 400) f_aBy f_aSt rfl rfl (by omega))]; exact f_aBy
    have f_aPa : h10 aPa = some (.inl ((t 0), 2048, .inl gPa)) := by rw [e11, hu_n (h_neL (k1 := 2048) (k2 := 400) f_aPa f_aSt rfl rfl (by omega))]; exact f_aPa
    have f_aDe : h10 aDe = some (.inl ((t 1), 200, .inl gDe)) := by rw [e11, hu_n (h_neL (k1 := 200) (k2 := 400) f_aDe f_aSt rfl rfl (by omega))]; exact f_aDe
    have f_aSt : h10 aSt = some (.inl ((t 0), 400, .inl (upd gSt (fi + S9) (vp_nar .byte 1)))) := by rw [e11]; exact hu_s _ _ _
    have hkp : kp [mo, aSt, aBy] h h10 := by rw [e11]; exact kp_put hkp (by simp)
    refine lv_iconst (v := 0) hx hb d_Mo_burn_87 (by decide) ?_
    refine lv_topi (fun v12 e13 => ?_)
    obtain rfl : v12 = nI 0 := e13.trans (by decide)
    refine lv_istore_n (lv' := [(3, .int (nI 0)), (0, .ref mo), (1, .int (nI fi)), (2, .int (nI S9))]) hx hb d_Mo_burn_88 rfl hl (by decide) rfl (fun ls hl => ?_)
    refine hm_loop (fun k ls H locs hh => ∃ (k9 : Nat) (g8 : Nat → Int32) (g9 : Nat → Int32), k = 2048 - k9 ∧ lv_has ls 4 [(3, .int (nI k9)), (0, .ref mo), (1, .int (nI fi)), (2, .int (nI S9))] ∧ hm D vwCl G hh H ∧ s.heap.size ≤ H.size ∧ hLc G.P locs ∧ kp [mo, aSt, aBy] h hh ∧ hh mo = some (.inr (9, [.int 0, .int (nI n), .int 0, .ref aBy, .ref aSt, .ref aDe, .int 0, .int (-1), .int (wt + 1), .ref aPa, .int 1, .ref aIt, .ref aId, .ref aPr, .ref aNa, .ref aSi, .ref aSe, .ref aIw, .ref aEx, .ref aOl, .int 0, .ref aPl, .int 1, .int 0, .ref aTa, .ref aAt, .ref aLo, .int 0, .int 0, .ref aS1, .ref aS2, .ref aS3, .ref aS4, .ref aS5, .ref aS6, .int 0, .ref aO1, .ref aO2, .ref aO3, .ref aO4, .ref aO5])) ∧ hh aSt = some (.inl ((t 0), 400, .inl g8)) ∧ hh aBy = some (.inl ((t 0), 819200, .inl g9)) ∧ hh aPa = some (.inl ((t 0), 2048, .inl gPa)) ∧ (k9 ≤ 2048)) ?_ (hh := h10) ⟨0, (upd gSt (fi + S9) (vp_nar .byte 1)), gBy, rfl, (lv_sub hl [0, 1, 2, 3] rfl), hH, hz, hLo, hkp, f_m, f_aSt, f_aBy, f_aPa, by omega⟩
    rintro k ls H locs hh ⟨k9, g8, g9, hk, hl, hH, hz, hLo, hkp, f_m, f_aSt, f_aBy, f_aPa, hk9⟩ ih
    refine lv_iload_n hx hb d_Mo_burn_89 rfl (lv_at hl 0 rfl) ?_
    refine lv_sipush (v := 2048) hx hb d_Mo_burn_90 (by decide) ?_
    refine lv_icmp_ge (tgt := 122) hx hb d_Mo_burn_93 (by decide) (fun hc14 => ?_) (fun hc14 => ?_)
    · skip
      refine lv_iconst (v := 0) hx hb d_Mo_burn_122 (by decide) ?_
      exact W.iret (v := 0) hx hb hr (fun t9 ht hW => ⟨0, hh, rfl, ⟨rfl, hkp, f_m, _, _, f_aSt, f_aBy⟩, by rw [ht]; exact hH, by rw [ht]; exact hz⟩) hLo d_Mo_burn_123
    · skip
      have hk1 : k9 < 2048 := (nI_ltI (by omega) (by omega)).mp (Int32.not_le.mp hc14)
      refine lv_aload_n hx hb d_Mo_burn_96 rfl (lv_at hl 1 rfl) ?_
      refine hm_get (ci := 9) (v := .ref aBy) (C := R_Mo) (T := F_Mo) (N := 41) hx hb hts ig_Mo hown hK hH f_m rfl 3 (by decide) (hts _ mw_400) (fun _ h9 => h9) rfl d_Mo_burn_97 ?_
      refine lv_sipush (v := 2048) hx hb d_Mo_burn_100 (by decide) ?_
      refine lv_iload_n hx hb d_Mo_burn_103 rfl (lv_at hl 2 rfl) ?_
      refine lv_iload_n hx hb d_Mo_burn_104 rfl (lv_at hl 3 rfl) ?_
      refine lv_iadd hx hb d_Mo_burn_105 ?_
      refine lv_imul hx hb d_Mo_burn_106 ?_
      refine lv_iload_n hx hb d_Mo_burn_107 rfl (lv_at hl 0 rfl) ?_
      refine lv_iadd hx hb d_Mo_burn_108 ?_
      refine lv_aload_n hx hb d_Mo_burn_109 rfl (lv_at hl 1 rfl) ?_
      refine hm_get (ci := 9) (v := .ref aPa) (C := R_Mo) (T := F_Mo) (N := 41) hx hb hts ig_Mo hown hK hH f_m rfl 9 (by decide) (hts _ mw_404) (fun _ h9 => h9) rfl d_Mo_burn_110 ?_
      refine lv_iload_n hx hb d_Mo_burn_113 rfl (lv_at hl 0 rfl) ?_
      refine hj_bald hx hb hK hH 0 f_aPa rfl k9 rfl (by omega) (by decide) d_Mo_burn_114 ?_
      refine hj_bast hx hb hK hH hLo 0 f_aBy rfl (2048 * (fi + S9) + k9) (ix9 _ _ _) (by omega) (by decide) d_Mo_burn_115 (fun H15 locs hH z16 hLo => ?_)
      have hz : s.heap.size ≤ H15.size := by rw [z16]; exact hz
      obtain ⟨h17, e18⟩ : ∃ z, z = hu hh aBy (.inl ((t 0), 819200, .inl (upd g9 (2048 * (fi + S9) + k9) (vp_nar .byte (gPa k9))))) := ⟨_, rfl⟩
      have hH : hm D vwCl G h17 H15 := by rw [e18]; exact hH
      have f_m : h17 mo = some (.inr (9, [.int 0, .int (nI n), .int 0, .ref aBy, .ref aSt, .ref aDe, .int 0, .int (-1), .int (wt + 1), .ref aPa, .int 1, .ref aIt, .ref aId, .ref aPr, .ref aNa, .ref aSi, .ref aSe, .ref aIw, .ref aEx, .ref aOl, .int 0, .ref aPl, .int 1, .int 0, .ref aTa, .ref aAt, .ref aLo, .int 0, .int 0, .ref aS1, .ref aS2, .ref aS3, .ref aS4, .ref aS5, .ref aS6, .int 0, .ref aO1, .ref aO2, .ref aO3, .ref aO4, .ref aO5])) := by rw [e18, hu_n (Ne.symm (h_neA f_aBy f_m))]; exact f_m
      have f_aSt : h17 aSt = some (.inl ((t 0), 400, .inl g8)) := by rw [e18, hu_n (h_neL (k1 := 400) (k2 := 819200) f_aSt f_aBy rfl rfl (by omega))]; exact f_aSt
      have f_aPa : h17 aPa = some (.inl ((t 0), 2048, .inl gPa)) := by rw [e18, hu_n (h_neL (k1 := 2048) (k2 := 819200) f_aPa f_aBy rfl rfl (by omega))]; exact f_aPa
      have f_aBy : h17 aBy = some (.inl ((t 0), 819200, .inl (upd g9 (2048 * (fi + S9) + k9) (vp_nar .byte (gPa k9))))) := by rw [e18]; exact hu_s _ _ _
      have hkp : kp [mo, aSt, aBy] h h17 := by rw [e18]; exact kp_put hkp (by simp)
      refine lv_iinc (v := nI (k9 + 1)) (lv' := [(3, .int (nI (k9 + 1))), (0, .ref mo), (1, .int (nI fi)), (2, .int (nI S9))]) hx hb d_Mo_burn_116 hl (k := 0) rfl (nI_1 k9) (by decide) rfl (fun ls hl => ?_)
      refine lv_goto (tgt := 89) hx hb d_Mo_burn_119 (by decide) ?_
      exact ih (2048 - (k9 + 1)) ls _ locs _ (by rw [hk]; omega) ⟨(k9 + 1), _, _, rfl, (lv_sub hl [0, 1, 2, 3] rfl), hH, hz, hLo, hkp, f_m, f_aSt, f_aBy, f_aPa, by omega⟩
  · skip
    refine lv_aload_n hx hb d_Mo_burn_58 rfl (lv_at hl 0 rfl) ?_
    refine hm_get (ci := 9) (v := .ref aDe) (C := R_Mo) (T := F_Mo) (N := 41) hx hb hts ig_Mo hown hK hH f_m rfl 5 (by decide) (hts _ mw_403) (fun _ h9 => h9) rfl d_Mo_burn_59 ?_
    refine lv_iload_n hx hb d_Mo_burn_62 rfl (lv_at hl 2 rfl) ?_
    refine hj_zald hx hb hK hH 1 f_aDe rfl S9 rfl (by omega) (by decide) d_Mo_burn_63 ?_
    refine lv_if_eq (tgt := 78) hx hb d_Mo_burn_64 (by decide) (fun hc19 => ?_) (fun hc19 => absurd (zDe S9) hc19)
    refine lv_aload_n hx hb d_Mo_burn_78 rfl (lv_at hl 0 rfl) ?_
    refine hm_get (ci := 9) (v := .ref aSt) (C := R_Mo) (T := F_Mo) (N := 41) hx hb hts ig_Mo hown hK hH f_m rfl 4 (by decide) (hts _ mw_401) (fun _ h9 => h9) rfl d_Mo_burn_79 ?_
    refine lv_iload_n hx hb d_Mo_burn_82 rfl (lv_at hl 1 rfl) ?_
    refine lv_iload_n hx hb d_Mo_burn_83 rfl (lv_at hl 2 rfl) ?_
    refine lv_iadd hx hb d_Mo_burn_84 ?_
    refine lv_iconst (v := 1) hx hb d_Mo_burn_85 (by decide) ?_
    refine hj_bast hx hb hK hH hLo 0 f_aSt rfl (fi + S9) (nI_add _ _) (by omega) (by decide) d_Mo_burn_86 (fun H20 locs hH z21 hLo => ?_)
    have hz : s.heap.size ≤ H20.size := by rw [z21]; exact hz
    obtain ⟨h22, e23⟩ : ∃ z, z = hu h3 aSt (.inl ((t 0), 400, .inl (upd gSt (fi + S9) (vp_nar .byte 1)))) := ⟨_, rfl⟩
    have hH : hm D vwCl G h22 H20 := by rw [e23]; exact hH
    have f_m : h22 mo = some (.inr (9, [.int 0, .int (nI n), .int 0, .ref aBy, .ref aSt, .ref aDe, .int 0, .int (-1), .int (wt + 1), .ref aPa, .int 1, .ref aIt, .ref aId, .ref aPr, .ref aNa, .ref aSi, .ref aSe, .ref aIw, .ref aEx, .ref aOl, .int 0, .ref aPl, .int 1, .int 0, .ref aTa, .ref aAt, .ref aLo, .int 0, .int 0, .ref aS1, .ref aS2, .ref aS3, .ref aS4, .ref aS5, .ref aS6, .int 0, .ref aO1, .ref aO2, .ref aO3, .ref aO4, .ref aO5])) := by rw [e23, hu_n (Ne.symm (h_neA f_aSt f_m))]; exact f_m
    have f_aBy : h22 aBy = some (.inl ((t 0), 819200, .inl gBy)) := by rw [e23, hu_n (h_neL (k1 := 819200) (k2 := 400) f_aBy f_aSt rfl rfl (by omega))]; exact f_aBy
    have f_aPa : h22 aPa = some (.inl ((t 0), 2048, .inl gPa)) := by rw [e23, hu_n (h_neL (k1 := 2048) (k2 := 400) f_aPa f_aSt rfl rfl (by omega))]; exact f_aPa
    have f_aDe : h22 aDe = some (.inl ((t 1), 200, .inl gDe)) := by rw [e23, hu_n (h_neL (k1 := 200) (k2 := 400) f_aDe f_aSt rfl rfl (by omega))]; exact f_aDe
    have f_aSt : h22 aSt = some (.inl ((t 0), 400, .inl (upd gSt (fi + S9) (vp_nar .byte 1)))) := by rw [e23]; exact hu_s _ _ _
    have hkp : kp [mo, aSt, aBy] h h22 := by rw [e23]; exact kp_put hkp (by simp)
    refine lv_iconst (v := 0) hx hb d_Mo_burn_87 (by decide) ?_
    refine lv_topi (fun v24 e25 => ?_)
    obtain rfl : v24 = nI 0 := e25.trans (by decide)
    refine lv_istore_n (lv' := [(3, .int (nI 0)), (0, .ref mo), (1, .int (nI fi)), (2, .int (nI S9))]) hx hb d_Mo_burn_88 rfl hl (by decide) rfl (fun ls hl => ?_)
    refine hm_loop (fun k ls H locs hh => ∃ (k9 : Nat) (g8 : Nat → Int32) (g9 : Nat → Int32), k = 2048 - k9 ∧ lv_has ls 4 [(3, .int (nI k9)), (0, .ref mo), (1, .int (nI fi)), (2, .int (nI S9))] ∧ hm D vwCl G hh H ∧ s.heap.size ≤ H.size ∧ hLc G.P locs ∧ kp [mo, aSt, aBy] h hh ∧ hh mo = some (.inr (9, [.int 0, .int (nI n), .int 0, .ref aBy, .ref aSt, .ref aDe, .int 0, .int (-1), .int (wt + 1), .ref aPa, .int 1, .ref aIt, .ref aId, .ref aPr, .ref aNa, .ref aSi, .ref aSe, .ref aIw, .ref aEx, .ref aOl, .int 0, .ref aPl, .int 1, .int 0, .ref aTa, .ref aAt, .ref aLo, .int 0, .int 0, .ref aS1, .ref aS2, .ref aS3, .ref aS4, .ref aS5, .ref aS6, .int 0, .ref aO1, .ref aO2, .ref aO3, .ref aO4, .ref aO5])) ∧ hh aSt = some (.inl ((t 0), 400, .inl g8)) ∧ hh aBy = some (.inl ((t 0), 819200, .inl g9)) ∧ hh aPa = some (.inl ((t 0), 2048, .inl gPa)) ∧ (k9 ≤ 2048)) ?_ (hh := h22) ⟨0, (upd gSt (fi + S9) (vp_nar .byte 1)), gBy, rfl, (lv_sub hl [0, 1, 2, 3] rfl), hH, hz, hLo, hkp, f_m, f_aSt, f_aBy, f_aPa, by omega⟩
    rintro k ls H locs hh ⟨k9, g8, g9, hk, hl, hH, hz, hLo, hkp, f_m, f_aSt, f_aBy, f_aPa, hk9⟩ ih
    refine lv_iload_n hx hb d_Mo_burn_89 rfl (lv_at hl 0 rfl) ?_
    refine lv_sipush (v := 2048) hx hb d_Mo_burn_90 (by decide) ?_
    refine lv_icmp_ge (tgt := 122) hx hb d_Mo_burn_93 (by decide) (fun hc26 => ?_) (fun hc26 => ?_)
    · skip
      refine lv_iconst (v := 0) hx hb d_Mo_burn_122 (by decide) ?_
      exact W.iret (v := 0) hx hb hr (fun t9 ht hW => ⟨0, hh, rfl, ⟨rfl, hkp, f_m, _, _, f_aSt, f_aBy⟩, by rw [ht]; exact hH, by rw [ht]; exact hz⟩) hLo d_Mo_burn_123
    · skip
      have hk1 : k9 < 2048 := (nI_ltI (by omega) (by omega)).mp (Int32.not_le.mp hc26)
      refine lv_aload_n hx hb d_Mo_burn_96 rfl (lv_at hl 1 rfl) ?_
      refine hm_get (ci := 9) (v := .ref aBy) (C := R_Mo) (T := F_Mo) (N := 41) hx hb hts ig_Mo hown hK hH f_m rfl 3 (by decide) (hts _ mw_400) (fun _ h9 => h9) rfl d_Mo_burn_97 ?_
      refine lv_sipush (v := 2048) hx hb d_Mo_burn_100 (by decide) ?_
      refine lv_iload_n hx hb d_Mo_burn_103 rfl (lv_at hl 2 rfl) ?_
      refine lv_iload_n hx hb d_Mo_burn_104 rfl (lv_at hl 3 rfl) ?_
      refine lv_iadd hx hb d_Mo_burn_105 ?_
      refine lv_imul hx hb d_Mo_burn_106 ?_
      refine lv_iload_n hx hb d_Mo_burn_107 rfl (lv_at hl 0 rfl) ?_
      refine lv_iadd hx hb d_Mo_burn_108 ?_
      refine lv_aload_n hx hb d_Mo_burn_109 rfl (lv_at hl 1 rfl) ?_
      refine hm_get (ci := 9) (v := .ref aPa) (C := R_Mo) (T := F_Mo) (N := 41) hx hb hts ig_Mo hown hK hH f_m rfl 9 (by decide) (hts _ mw_404) (fun _ h9 => h9) rfl d_Mo_burn_110 ?_
      refine lv_iload_n hx hb d_Mo_burn_113 rfl (lv_at hl 0 rfl) ?_
      refine hj_bald hx hb hK hH 0 f_aPa rfl k9 rfl (by omega) (by decide) d_Mo_burn_114 ?_
      refine hj_bast hx hb hK hH hLo 0 f_aBy rfl (2048 * (fi + S9) + k9) (ix9 _ _ _) (by omega) (by decide) d_Mo_burn_115 (fun H27 locs hH z28 hLo => ?_)
      have hz : s.heap.size ≤ H27.size := by rw [z28]; exact hz
      obtain ⟨h29, e30⟩ : ∃ z, z = hu hh aBy (.inl ((t 0), 819200, .inl (upd g9 (2048 * (fi + S9) + k9) (vp_nar .byte (gPa k9))))) := ⟨_, rfl⟩
      have hH : hm D vwCl G h29 H27 := by rw [e30]; exact hH
      have f_m : h29 mo = some (.inr (9, [.int 0, .int (nI n), .int 0, .ref aBy, .ref aSt, .ref aDe, .int 0, .int (-1), .int (wt + 1), .ref aPa, .int 1, .ref aIt, .ref aId, .ref aPr, .ref aNa, .ref aSi, .ref aSe, .ref aIw, .ref aEx, .ref aOl, .int 0, .ref aPl, .int 1, .int 0, .ref aTa, .ref aAt, .ref aLo, .int 0, .int 0, .ref aS1, .ref aS2, .ref aS3, .ref aS4, .ref aS5, .ref aS6, .int 0, .ref aO1, .ref aO2, .ref aO3, .ref aO4, .ref aO5])) := by rw [e30, hu_n (Ne.symm (h_neA f_aBy f_m))]; exact f_m
      have f_aSt : h29 aSt = some (.inl ((t 0), 400, .inl g8)) := by rw [e30, hu_n (h_neL (k1 := 400) (k2 := 819200) f_aSt f_aBy rfl rfl (by omega))]; exact f_aSt
      have f_aPa : h29 aPa = some (.inl ((t 0), 2048, .inl gPa)) := by rw [e30, hu_n (h_neL (k1 := 2048) (k2 := 819200) f_aPa f_aBy rfl rfl (by omega))]; exact f_aPa
      have f_aBy : h29 aBy = some (.inl ((t 0), 819200, .inl (upd g9 (2048 * (fi + S9) + k9) (vp_nar .byte (gPa k9))))) := by rw [e30]; exact hu_s _ _ _
      have hkp : kp [mo, aSt, aBy] h h29 := by rw [e30]; exact kp_put hkp (by simp)
      refine lv_iinc (v := nI (k9 + 1)) (lv' := [(3, .int (nI (k9 + 1))), (0, .ref mo), (1, .int (nI fi)), (2, .int (nI S9))]) hx hb d_Mo_burn_116 hl (k := 0) rfl (nI_1 k9) (by decide) rfl (fun ls hl => ?_)
      refine lv_goto (tgt := 89) hx hb d_Mo_burn_119 (by decide) ?_
      exact ih (2048 - (k9 + 1)) ls _ locs _ (by rw [hk]; omega) ⟨(k9 + 1), _, _, rfl, (lv_sub hl [0, 1, 2, 3] rfl), hH, hz, hLo, hkp, f_m, f_aSt, f_aBy, f_aPa, by omega⟩

set_option maxHeartbeats 4000000 in
set_option maxRecDepth 100000 in
theorem c_m_session (l : Launch) (D : va_G) (t : Nat → ClassId) (G : hG) (ak av : Nat → Nat) (h : hM) (mo n aBy aSt aDe aPa aIt aId aPr aNa aSi aSe aIw aEx aOl aPl aTa aAt aLo aS1 aS2 aS3 aS4 aS5 aS6 aO1 aO2 aO3 aO4 aO5 : Nat) (gSt gBy gPa gDe gPl gId gTa gAt gLo : Nat → Int32) (fi : Nat) (fv nu : Int32) (f_m : h mo = some (.inr (9, [.int 0, .int (nI n), .int 0, .ref aBy, .ref aSt, .ref aDe, .int 0, .int (-1), .int 0, .ref aPa, .int 1, .ref aIt, .ref aId, .ref aPr, .ref aNa, .ref aSi, .ref aSe, .ref aIw, .ref aEx, .ref aOl, .int 0, .ref aPl, .int 0, .int 0, .ref aTa, .ref aAt, .ref aLo, .int 0, .int 0, .ref aS1, .ref aS2, .ref aS3, .ref aS4, .ref aS5, .ref aS6, .int 0, .ref aO1, .ref aO2, .ref aO3, .ref aO4, .ref aO5]))) (f_aSt : h aSt = some (.inl ((t 0), 400, .inl gSt))) (f_aBy : h aBy = some (.inl ((t 0), 819200, .inl gBy))) (f_aPa : h aPa = some (.inl ((t 0), 2048, .inl gPa))) (f_aDe : h aDe = some (.inl ((t 1), 200, .inl gDe))) (f_aPl : h aPl = some (.inl ((t 0), 163840, .inl gPl))) (f_aId : h aId = some (.inl ((t 1), 700, .inl gId))) (f_aTa : h aTa = some (.inl ((t 2), 30, .inl gTa))) (f_aAt : h aAt = some (.inl ((t 2), 700, .inl gAt))) (f_aLo : h aLo = some (.inl ((t 2), 700, .inl gLo))) (zDe : ∀ j, gDe j = 0) (zId : gId 0 = 1) (hfi : fv = nI fi) (hfi2 : fi ≤ 200) (hz9 : ∀ j, j < n → gSt (fi + j) = 0) (hn40 : 40 ≤ n) (hn : n ≤ 200) (ne_aId_aAt : aId ≠ aAt) (ne_aId_aLo : aId ≠ aLo) (ne_aAt_aLo : aAt ≠ aLo) : Met l y_Mo_session (.code y_Mo_session b_Mo_session 8 (some .int) :: lw_g) { frames := 5, cells := 0, slots := 0, locals := 129 } (hP (kE D t G ak av) D vwCl G h [.ref mo, .int fv, .int nu]) (hQi D vwCl G (fun r h' => r = nu ∧ kp [mo, aTa, aAt, aLo, aPl, aPa, aSt, aBy] h h' ∧ ∃ wt9 : Int32, h' mo = some (.inr (9, [.int 0, .int (nI n), .int 0, .ref aBy, .ref aSt, .ref aDe, .int 0, .int (-1), .int wt9, .ref aPa, .int 1, .ref aIt, .ref aId, .ref aPr, .ref aNa, .ref aSi, .ref aSe, .ref aIw, .ref aEx, .ref aOl, .int 0, .ref aPl, .int 1, .int 0, .ref aTa, .ref aAt, .ref aLo, .int 0, .int 0, .ref aS1, .ref aS2, .ref aS3, .ref aS4, .ref aS5, .ref aS6, .int 0, .ref aO1, .ref aO2, .ref aO3, .ref aO4, .ref aO5])))) 0 0 G.P := by
  refine Met.ofW (cc := b_Mo_session) (maxL := 8) (ret := (some .int)) (by decide) rfl ?_
  intro p e s m args below meth c s₁ Bd hml hv
  obtain ⟨ha, hE, hH⟩ := hv
  have hx := Bd.exec
  have hb := Bd.bytes
  have hr := Bd.returns
  have hts : ∀ w ∈ lw_g, w.before args s = true := fun w hw => atoms_spec (ws := (.code y_Mo_session b_Mo_session 8 (some .int) :: lw_g)) Bd.pre w (List.mem_cons_of_mem _ hw)
  have hown : s.vm.findClass R_Mo = some m.cls := findClass_of_methodNamed Bd.named
  have hlocks := Bd.notSynchronized
  have hK := hE.1
  have hH0 := hH
  have hLo : hLc G.P [] := hLc_nil
  have hz : s.heap.size ≤ s.heap.size := Nat.le_refl _
  have hkp : kp [mo, aTa, aAt, aLo, aPl, aPa, aSt, aBy] h h := kp_rf
  have hl := lv_entry [.ref mo, .int fv, .int nu] (n := 8) (Nat.le_of_ble_eq_true rfl)
  rw [show entryFrame m args 8 = F0 m 0 ((lg_sl [.ref mo, .int fv, .int nu] ++ List.replicate (8 - (lg_sl [.ref mo, .int fv, .int nu]).length) Slot.unset).toArray) [] from (by rw [ha]; exact lg_entry_eq m [.ref mo, .int fv, .int nu] 8)]
  generalize (lg_sl [.ref mo, .int fv, .int nu] ++ List.replicate (8 - (lg_sl [.ref mo, .int fv, .int nu]).length) Slot.unset).toArray = ls at hl ⊢
  have hl : lv_has ls 8 [(0, .ref mo), (1, .int fv), (2, .int nu)] := hl
  subst hfi
  refine lv_aload_n hx hb d_Mo_session_0 rfl (lv_at hl 0 rfl) ?_
  refine lv_iload_n hx hb d_Mo_session_1 rfl (lv_at hl 1 rfl) ?_
  refine hm_calli (va_runV (As := [.int (nI fi)]) (b := mo) (rest := []) ⟨hx, hb, hml, hown, hts⟩ (c_m_frontOf l D t G ak av h mo n aBy aSt aDe aPa aIt aId aPr aNa aSi aSe aIw aEx aOl aPl aTa aAt aLo aS1 aS2 aS3 aS4 aS5 aS6 aO1 aO2 aO3 aO4 aO5 0 0 gSt fi (nI fi) f_m f_aSt rfl hfi2 hz9 hn) ⟨cw9B 1 hts mw_528 mw_529 mw_428 rfl rfl (by decide +kernel) ⟨Nat.le_of_ble_eq_true rfl, Nat.le_of_ble_eq_true rfl⟩, hts _ mw_530, hts _ mw_531⟩ (hP_V (q := (R_Mo, F_Mo, 41)) kE_ok hE hK hH f_m rfl) rfl rfl hl.1 rfl (lv_room (Nat.le_of_ble_eq_true rfl)) d_Mo_session_2 ⟨Nat.le_of_ble_eq_true rfl, Nat.le_of_ble_eq_true rfl⟩) hLo (fun r1 h2 H3 locs hp5 hH z4 hLo => ?_)
  have hz : s.heap.size ≤ H3.size := Nat.le_trans hz z4
  obtain ⟨rfl, rfl⟩ := hp5
  refine lv_istore_n (lv' := [(3, .int 0), (0, .ref mo), (1, .int (nI fi)), (2, .int nu)]) hx hb d_Mo_session_5 rfl hl (by decide) rfl (fun ls hl => ?_)
  refine lv_aload_n hx hb d_Mo_session_6 rfl (lv_at hl 1 rfl) ?_
  refine lv_iload_n hx hb d_Mo_session_7 rfl (lv_at hl 0 rfl) ?_
  refine hm_calli (va_runV (As := [.int 0]) (b := mo) (rest := []) ⟨hx, hb, hml, hown, hts⟩ (c_m_measure l D t G ak av h mo n aBy aSt aDe aPa aIt aId aPr aNa aSi aSe aIw aEx aOl aPl aTa aAt aLo aS1 aS2 aS3 aS4 aS5 aS6 aO1 aO2 aO3 aO4 aO5 0 0 gTa gAt gLo f_m f_aTa f_aAt f_aLo ne_aAt_aLo) ⟨cw9B 1 hts mw_532 mw_533 mw_428 rfl rfl (by decide +kernel) ⟨Nat.le_of_ble_eq_true rfl, Nat.le_of_ble_eq_true rfl⟩, hts _ mw_534, hts _ mw_535⟩ (hP_V (q := (R_Mo, F_Mo, 41)) kE_ok hE hK hH f_m rfl) rfl rfl hl.1 rfl (lv_room (Nat.le_of_ble_eq_true rfl)) d_Mo_session_8 ⟨Nat.le_of_ble_eq_true rfl, Nat.le_of_ble_eq_true rfl⟩) hLo (fun r6 h7 H8 locs hp10 hH z9 hLo => ?_)
  have hz : s.heap.size ≤ H8.size := Nat.le_trans hz z9
  obtain ⟨rfl, hk9, hm9, gT, gA, gL, hg1, hg2, hg3, hta, hat⟩ := hp10
  have f_aSt : h7 aSt = some (.inl ((t 0), 400, .inl gSt)) := kp_at hk9 f_aSt (nmc (h_neA f_aSt f_m) (nmc (h_neL (k1 := 400) (k2 := 30) f_aSt f_aTa rfl rfl (by omega)) (nmc (h_neL (k1 := 400) (k2 := 700) f_aSt f_aAt rfl rfl (by omega)) (nmc (h_neL (k1 := 400) (k2 := 700) f_aSt f_aLo rfl rfl (by omega)) nm0))))
  have f_aBy : h7 aBy = some (.inl ((t 0), 819200, .inl gBy)) := kp_at hk9 f_aBy (nmc (h_neA f_aBy f_m) (nmc (h_neL (k1 := 819200) (k2 := 30) f_aBy f_aTa rfl rfl (by omega)) (nmc (h_neL (k1 := 819200) (k2 := 700) f_aBy f_aAt rfl rfl (by omega)) (nmc (h_neL (k1 := 819200) (k2 := 700) f_aBy f_aLo rfl rfl (by omega)) nm0))))
  have f_aPa : h7 aPa = some (.inl ((t 0), 2048, .inl gPa)) := kp_at hk9 f_aPa (nmc (h_neA f_aPa f_m) (nmc (h_neL (k1 := 2048) (k2 := 30) f_aPa f_aTa rfl rfl (by omega)) (nmc (h_neL (k1 := 2048) (k2 := 700) f_aPa f_aAt rfl rfl (by omega)) (nmc (h_neL (k1 := 2048) (k2 := 700) f_aPa f_aLo rfl rfl (by omega)) nm0))))
  have f_aDe : h7 aDe = some (.inl ((t 1), 200, .inl gDe)) := kp_at hk9 f_aDe (nmc (h_neA f_aDe f_m) (nmc (h_neL (k1 := 200) (k2 := 30) f_aDe f_aTa rfl rfl (by omega)) (nmc (h_neL (k1 := 200) (k2 := 700) f_aDe f_aAt rfl rfl (by omega)) (nmc (h_neL (k1 := 200) (k2 := 700) f_aDe f_aLo rfl rfl (by omega)) nm0))))
  have f_aPl : h7 aPl = some (.inl ((t 0), 163840, .inl gPl)) := kp_at hk9 f_aPl (nmc (h_neA f_aPl f_m) (nmc (h_neL (k1 := 163840) (k2 := 30) f_aPl f_aTa rfl rfl (by omega)) (nmc (h_neL (k1 := 163840) (k2 := 700) f_aPl f_aAt rfl rfl (by omega)) (nmc (h_neL (k1 := 163840) (k2 := 700) f_aPl f_aLo rfl rfl (by omega)) nm0))))
  have f_aId : h7 aId = some (.inl ((t 1), 700, .inl gId)) := kp_at hk9 f_aId (nmc (h_neA f_aId f_m) (nmc (h_neL (k1 := 700) (k2 := 30) f_aId f_aTa rfl rfl (by omega)) (nmc ne_aId_aAt (nmc ne_aId_aLo nm0))))
  have hkp : kp [mo, aTa, aAt, aLo, aPl, aPa, aSt, aBy] h h7 := kp_tr2 hkp hk9 (List.forall_mem_cons.mpr ⟨Or.inl (by simp), List.forall_mem_cons.mpr ⟨Or.inl (by simp), List.forall_mem_cons.mpr ⟨Or.inl (by simp), List.forall_mem_cons.mpr ⟨Or.inl (by simp), List.forall_mem_nil _⟩⟩⟩⟩)
  have f_m : h7 mo = some (.inr (9, [.int 0, .int (nI n), .int 0, .ref aBy, .ref aSt, .ref aDe, .int 0, .int (-1), .int 0, .ref aPa, .int 1, .ref aIt, .ref aId, .ref aPr, .ref aNa, .ref aSi, .ref aSe, .ref aIw, .ref aEx, .ref aOl, .int 0, .ref aPl, .int 1, .int 0, .ref aTa, .ref aAt, .ref aLo, .int 0, .int 0, .ref aS1, .ref aS2, .ref aS3, .ref aS4, .ref aS5, .ref aS6, .int 0, .ref aO1, .ref aO2, .ref aO3, .ref aO4, .ref aO5])) := hm9
  have f_aTa : h7 aTa = some (.inl ((t 2), 30, .inl gT)) := hg1
  have f_aAt : h7 aAt = some (.inl ((t 2), 700, .inl gA)) := hg2
  have f_aLo : h7 aLo = some (.inl ((t 2), 700, .inl gL)) := hg3
  refine lv_istore (lv' := [(4, .int 22), (3, .int 0), (0, .ref mo), (1, .int (nI fi)), (2, .int nu)]) hx hb d_Mo_session_11 hl (by decide) rfl (fun ls hl => ?_)
  refine lv_iload_n hx hb d_Mo_session_13 rfl (lv_at hl 1 rfl) ?_
  refine lv_iload hx hb d_Mo_session_14 (lv_at hl 0 rfl) ?_
  refine lv_iadd hx hb d_Mo_session_16 ?_
  refine lv_aload_n hx hb d_Mo_session_17 rfl (lv_at hl 2 rfl) ?_
  refine hm_get (ci := 9) (v := .int (nI n)) (C := R_Mo) (T := F_Mo) (N := 41) hx hb hts ig_Mo hown hK hH f_m rfl 1 (by decide) (hts _ mw_425) (fun _ h9 => h9) rfl d_Mo_session_18 ?_
  refine lv_icmp_le (tgt := 27) hx hb d_Mo_session_21 (by decide) (fun hc11 => ?_) (fun hc11 => absurd (se_le hn40 hn) hc11)
  refine lv_aload_n hx hb d_Mo_session_27 rfl (lv_at hl 2 rfl) ?_
  refine lv_iload_n hx hb d_Mo_session_28 rfl (lv_at hl 1 rfl) ?_
  refine lv_iload hx hb d_Mo_session_29 (lv_at hl 0 rfl) ?_
  refine lv_iload_n hx hb d_Mo_session_31 rfl (lv_at hl 4 rfl) ?_
  refine hm_callv (va_runV (As := [.int 0, .int 22, .int nu]) (b := mo) (rest := []) ⟨hx, hb, hml, hown, hts⟩ (c_m_design l D t G ak av h7 mo n aBy aSt aDe aPa aIt aId aPr aNa aSi aSe aIw aEx aOl aPl aTa aAt aLo aS1 aS2 aS3 aS4 aS5 aS6 aO1 aO2 aO3 aO4 aO5 0 gPl gId gT gA gL nu f_m f_aPl f_aId f_aTa f_aAt f_aLo zId hta hat ne_aId_aAt ne_aId_aLo ne_aAt_aLo) ⟨cw9B 3 hts mw_536 mw_537 mw_428 rfl rfl (by decide +kernel) ⟨Nat.le_of_ble_eq_true rfl, Nat.le_of_ble_eq_true rfl⟩, hts _ mw_538, hts _ mw_539⟩ (hP_V (q := (R_Mo, F_Mo, 41)) kE_ok hE hK hH f_m rfl) rfl rfl hl.1 rfl (lv_room (Nat.le_of_ble_eq_true rfl)) d_Mo_session_32 ⟨Nat.le_of_ble_eq_true rfl, Nat.le_of_ble_eq_true rfl⟩) hLo (fun h12 H13 locs hp15 hH z14 hLo => ?_)
  have hz : s.heap.size ≤ H13.size := Nat.le_trans hz z14
  obtain ⟨hk9, g16, hg9⟩ := hp15
  have f_m : h12 mo = some (.inr (9, [.int 0, .int (nI n), .int 0, .ref aBy, .ref aSt, .ref aDe, .int 0, .int (-1), .int 0, .ref aPa, .int 1, .ref aIt, .ref aId, .ref aPr, .ref aNa, .ref aSi, .ref aSe, .ref aIw, .ref aEx, .ref aOl, .int 0, .ref aPl, .int 1, .int 0, .ref aTa, .ref aAt, .ref aLo, .int 0, .int 0, .ref aS1, .ref aS2, .ref aS3, .ref aS4, .ref aS5, .ref aS6, .int 0, .ref aO1, .ref aO2, .ref aO3, .ref aO4, .ref aO5])) := kp_at hk9 f_m (nmc (Ne.symm (h_neA f_aPl f_m)) nm0)
  have f_aSt : h12 aSt = some (.inl ((t 0), 400, .inl gSt)) := kp_at hk9 f_aSt (nmc (h_neL (k1 := 400) (k2 := 163840) f_aSt f_aPl rfl rfl (by omega)) nm0)
  have f_aBy : h12 aBy = some (.inl ((t 0), 819200, .inl gBy)) := kp_at hk9 f_aBy (nmc (h_neL (k1 := 819200) (k2 := 163840) f_aBy f_aPl rfl rfl (by omega)) nm0)
  have f_aPa : h12 aPa = some (.inl ((t 0), 2048, .inl gPa)) := kp_at hk9 f_aPa (nmc (h_neL (k1 := 2048) (k2 := 163840) f_aPa f_aPl rfl rfl (by omega)) nm0)
  have f_aDe : h12 aDe = some (.inl ((t 1), 200, .inl gDe)) := kp_at hk9 f_aDe (nmc (h_neL (k1 := 200) (k2 := 163840) f_aDe f_aPl rfl rfl (by omega)) nm0)
  have f_aId : h12 aId = some (.inl ((t 1), 700, .inl gId)) := kp_at hk9 f_aId (nmc (h_neL (k1 := 700) (k2 := 163840) f_aId f_aPl rfl rfl (by omega)) nm0)
  have f_aTa : h12 aTa = some (.inl ((t 2), 30, .inl gT)) := kp_at hk9 f_aTa (nmc (h_neL (k1 := 30) (k2 := 163840) f_aTa f_aPl rfl rfl (by omega)) nm0)
  have f_aAt : h12 aAt = some (.inl ((t 2), 700, .inl gA)) := kp_at hk9 f_aAt (nmc (h_neL (k1 := 700) (k2 := 163840) f_aAt f_aPl rfl rfl (by omega)) nm0)
  have f_aLo : h12 aLo = some (.inl ((t 2), 700, .inl gL)) := kp_at hk9 f_aLo (nmc (h_neL (k1 := 700) (k2 := 163840) f_aLo f_aPl rfl rfl (by omega)) nm0)
  have hkp : kp [mo, aTa, aAt, aLo, aPl, aPa, aSt, aBy] h h12 := kp_tr2 hkp hk9 (List.forall_mem_cons.mpr ⟨Or.inl (by simp), List.forall_mem_nil _⟩)
  have f_aPl : h12 aPl = some (.inl ((t 0), 163840, .inl g16)) := hg9
  refine lv_iconst (v := 0) hx hb d_Mo_session_35 (by decide) ?_
  refine lv_istore (lv' := [(5, .int 0), (4, .int 22), (3, .int 0), (0, .ref mo), (1, .int (nI fi)), (2, .int nu)]) hx hb d_Mo_session_36 hl (by decide) rfl (fun ls hl => ?_)
  refine lv_bipush (v := 16) hx hb d_Mo_session_38 (by decide) ?_
  refine lv_topi (fun v17 e18 => ?_)
  obtain rfl : v17 = nI 16 := e18.trans (by decide)
  refine lv_istore (lv' := [(6, .int (nI 16)), (5, .int 0), (4, .int 22), (3, .int 0), (0, .ref mo), (1, .int (nI fi)), (2, .int nu)]) hx hb d_Mo_session_40 hl (by decide) rfl (fun ls hl => ?_)
  refine hm_loop (fun k ls H locs hh => ∃ (k9 : Nat) (wt9 : Int32) (g7 : Nat → Int32) (g8 : Nat → Int32) (g5 : Nat → Int32), k = 22 - k9 ∧ lv_has ls 8 [(6, .int (nI k9)), (5, .int 0), (4, .int 22), (3, .int 0), (0, .ref mo), (1, .int (nI fi)), (2, .int nu)] ∧ hm D vwCl G hh H ∧ s.heap.size ≤ H.size ∧ hLc G.P locs ∧ kp [mo, aTa, aAt, aLo, aPl, aPa, aSt, aBy] h hh ∧ hh mo = some (.inr (9, [.int 0, .int (nI n), .int 0, .ref aBy, .ref aSt, .ref aDe, .int 0, .int (-1), .int wt9, .ref aPa, .int 1, .ref aIt, .ref aId, .ref aPr, .ref aNa, .ref aSi, .ref aSe, .ref aIw, .ref aEx, .ref aOl, .int 0, .ref aPl, .int 1, .int 0, .ref aTa, .ref aAt, .ref aLo, .int 0, .int 0, .ref aS1, .ref aS2, .ref aS3, .ref aS4, .ref aS5, .ref aS6, .int 0, .ref aO1, .ref aO2, .ref aO3, .ref aO4, .ref aO5])) ∧ hh aSt = some (.inl ((t 0), 400, .inl g7)) ∧ hh aBy = some (.inl ((t 0), 819200, .inl g8)) ∧ hh aPa = some (.inl ((t 0), 2048, .inl g5)) ∧ hh aDe = some (.inl ((t 1), 200, .inl gDe)) ∧ hh aPl = some (.inl ((t 0), 163840, .inl g16)) ∧ (16 ≤ k9) ∧ (k9 ≤ 22)) ?_ (hh := h12) ⟨16, 0, gSt, gBy, gPa, rfl, (lv_sub hl [0, 1, 2, 3, 4, 5, 6] rfl), hH, hz, hLo, hkp, f_m, f_aSt, f_aBy, f_aPa, f_aDe, f_aPl, by omega, by omega⟩
  rintro k ls H locs hh ⟨k9, wt9, g7, g8, g5, hk, hl, hH, hz, hLo, hkp, f_m, f_aSt, f_aBy, f_aPa, f_aDe, f_aPl, hk9, hk8⟩ ih
  refine lv_iload hx hb d_Mo_session_42 (lv_at hl 0 rfl) ?_
  refine lv_iload hx hb d_Mo_session_44 (lv_at hl 2 rfl) ?_
  refine lv_icmp_ge (tgt := 112) hx hb d_Mo_session_46 (by decide) (fun hc19 => ?_) (fun hc19 => ?_)
  · skip
    refine lv_iload hx hb d_Mo_session_112 (lv_at hl 1 rfl) ?_
    refine lv_iconst (v := 2) hx hb d_Mo_session_114 (by decide) ?_
    refine lv_icmp_ne (tgt := 121) hx hb d_Mo_session_115 (by decide) (fun hc20 => ?_) (fun hc20 => absurd hc20 (by decide))
    refine lv_iload hx hb d_Mo_session_121 (lv_at hl 1 rfl) ?_
    refine lv_if_ne (tgt := 128) hx hb d_Mo_session_123 (by decide) (fun hc21 => absurd rfl hc21) (fun hc21 => ?_)
    refine lv_iload_n hx hb d_Mo_session_126 rfl (lv_at hl 6 rfl) ?_
    exact W.iret (v := nu) hx hb hr (fun t9 ht hW => ⟨nu, hh, rfl, ⟨rfl, hkp, wt9, f_m⟩, by rw [ht]; exact hH, by rw [ht]; exact hz⟩) hLo d_Mo_session_127
  · skip
    have hk1 : k9 < 22 := (nI_ltI (by omega) (by decide)).mp (Int32.not_le.mp hc19)
    refine lv_iload hx hb d_Mo_session_49 (lv_at hl 1 rfl) ?_
    refine lv_if_ne (tgt := 112) hx hb d_Mo_session_51 (by decide) (fun hc22 => absurd rfl hc22) (fun hc22 => ?_)
    refine lv_iconst (v := 0) hx hb d_Mo_session_54 (by decide) ?_
    refine lv_topi (fun v23 e24 => ?_)
    obtain rfl : v23 = nI 0 := e24.trans (by decide)
    refine lv_istore (lv' := [(7, .int (nI 0)), (6, .int (nI k9)), (5, .int 0), (4, .int 22), (3, .int 0), (0, .ref mo), (1, .int (nI fi)), (2, .int nu)]) hx hb d_Mo_session_55 hl (by decide) rfl (fun ls hl => ?_)
    refine hm_loop (fun k2 ls H locs hh2 => ∃ (j9 : Nat) (g6 : Nat → Int32), k2 = 2048 - j9 ∧ lv_has ls 8 [(7, .int (nI j9)), (6, .int (nI k9)), (5, .int 0), (4, .int 22), (3, .int 0), (0, .ref mo), (1, .int (nI fi)), (2, .int nu)] ∧ hm D vwCl G hh2 H ∧ s.heap.size ≤ H.size ∧ hLc G.P locs ∧ kp [mo, aTa, aAt, aLo, aPl, aPa, aSt, aBy] h hh2 ∧ hh2 mo = some (.inr (9, [.int 0, .int (nI n), .int 0, .ref aBy, .ref aSt, .ref aDe, .int 0, .int (-1), .int wt9, .ref aPa, .int 1, .ref aIt, .ref aId, .ref aPr, .ref aNa, .ref aSi, .ref aSe, .ref aIw, .ref aEx, .ref aOl, .int 0, .ref aPl, .int 1, .int 0, .ref aTa, .ref aAt, .ref aLo, .int 0, .int 0, .ref aS1, .ref aS2, .ref aS3, .ref aS4, .ref aS5, .ref aS6, .int 0, .ref aO1, .ref aO2, .ref aO3, .ref aO4, .ref aO5])) ∧ hh2 aSt = some (.inl ((t 0), 400, .inl g7)) ∧ hh2 aBy = some (.inl ((t 0), 819200, .inl g8)) ∧ hh2 aPa = some (.inl ((t 0), 2048, .inl g6)) ∧ hh2 aDe = some (.inl ((t 1), 200, .inl gDe)) ∧ hh2 aPl = some (.inl ((t 0), 163840, .inl g16)) ∧ (j9 ≤ 2048)) ?_ (hh := hh) ⟨0, g5, rfl, (lv_sub hl [0, 1, 2, 3, 4, 5, 6, 7] rfl), hH, hz, hLo, hkp, f_m, f_aSt, f_aBy, f_aPa, f_aDe, f_aPl, by omega⟩
    rintro k2 ls H locs hh2 ⟨j9, g6, hk2, hl, hH, hz, hLo, hkp, f_m, f_aSt, f_aBy, f_aPa, f_aDe, f_aPl, hj9⟩ ih2
    refine lv_iload hx hb d_Mo_session_57 (lv_at hl 0 rfl) ?_
    refine lv_sipush (v := 2048) hx hb d_Mo_session_59 (by decide) ?_
    refine lv_icmp_ge (tgt := 95) hx hb d_Mo_session_62 (by decide) (fun hc25 => ?_) (fun hc25 => ?_)
    · skip
      refine lv_aload_n hx hb d_Mo_session_95 rfl (lv_at hl 5 rfl) ?_
      refine lv_iload_n hx hb d_Mo_session_96 rfl (lv_at hl 6 rfl) ?_
      refine lv_iload_n hx hb d_Mo_session_97 rfl (lv_at hl 4 rfl) ?_
      refine lv_iload hx hb d_Mo_session_98 (lv_at hl 1 rfl) ?_
      refine lv_iadd hx hb d_Mo_session_100 ?_
      refine hm_calli (va_runV (As := [.int (nI fi), .int (0 + (nI k9))]) (b := mo) (rest := []) ⟨hx, hb, hml, hown, hts⟩ (c_m_burn l D t G ak av hh2 mo n aBy aSt aDe aPa aIt aId aPr aNa aSi aSe aIw aEx aOl aPl aTa aAt aLo aS1 aS2 aS3 aS4 aS5 aS6 aO1 aO2 aO3 aO4 aO5 wt9 g7 g8 g6 gDe fi k9 (nI fi) (0 + nI k9) f_m f_aSt f_aBy f_aPa f_aDe zDe rfl hfi2 (Int32.zero_add _) (by omega)) ⟨cw9B 2 hts mw_540 mw_541 mw_428 rfl rfl (by decide +kernel) ⟨Nat.le_of_ble_eq_true rfl, Nat.le_of_ble_eq_true rfl⟩, hts _ mw_542, hts _ mw_543⟩ (hP_V (q := (R_Mo, F_Mo, 41)) kE_ok hE hK hH f_m rfl) rfl rfl hl.1 rfl (lv_room (Nat.le_of_ble_eq_true rfl)) d_Mo_session_101 ⟨Nat.le_of_ble_eq_true rfl, Nat.le_of_ble_eq_true rfl⟩) hLo (fun r26 h27 H28 locs hp30 hH z29 hLo => ?_)
      have hz : s.heap.size ≤ H28.size := Nat.le_trans hz z29
      obtain ⟨rfl, hk9_, hm9, gS1, gB1, hg1, hg2⟩ := hp30
      have f_aPa : h27 aPa = some (.inl ((t 0), 2048, .inl g6)) := kp_at hk9_ f_aPa (nmc (h_neA f_aPa f_m) (nmc (h_neL (k1 := 2048) (k2 := 400) f_aPa f_aSt rfl rfl (by omega)) (nmc (h_neL (k1 := 2048) (k2 := 819200) f_aPa f_aBy rfl rfl (by omega)) nm0)))
      have f_aDe : h27 aDe = some (.inl ((t 1), 200, .inl gDe)) := kp_at hk9_ f_aDe (nmc (h_neA f_aDe f_m) (nmc (h_neL (k1 := 200) (k2 := 400) f_aDe f_aSt rfl rfl (by omega)) (nmc (h_neL (k1 := 200) (k2 := 819200) f_aDe f_aBy rfl rfl (by omega)) nm0)))
      have f_aPl : h27 aPl = some (.inl ((t 0), 163840, .inl g16)) := kp_at hk9_ f_aPl (nmc (h_neA f_aPl f_m) (nmc (h_neL (k1 := 163840) (k2 := 400) f_aPl f_aSt rfl rfl (by omega)) (nmc (h_neL (k1 := 163840) (k2 := 819200) f_aPl f_aBy rfl rfl (by omega)) nm0)))
      have hkp : kp [mo, aTa, aAt, aLo, aPl, aPa, aSt, aBy] h h27 := kp_tr2 hkp hk9_ (List.forall_mem_cons.mpr ⟨Or.inl (by simp), List.forall_mem_cons.mpr ⟨Or.inl (by simp), List.forall_mem_cons.mpr ⟨Or.inl (by simp), List.forall_mem_nil _⟩⟩⟩)
      have f_m : h27 mo = some (.inr (9, [.int 0, .int (nI n), .int 0, .ref aBy, .ref aSt, .ref aDe, .int 0, .int (-1), .int (wt9 + 1), .ref aPa, .int 1, .ref aIt, .ref aId, .ref aPr, .ref aNa, .ref aSi, .ref aSe, .ref aIw, .ref aEx, .ref aOl, .int 0, .ref aPl, .int 1, .int 0, .ref aTa, .ref aAt, .ref aLo, .int 0, .int 0, .ref aS1, .ref aS2, .ref aS3, .ref aS4, .ref aS5, .ref aS6, .int 0, .ref aO1, .ref aO2, .ref aO3, .ref aO4, .ref aO5])) := hm9
      have f_aSt : h27 aSt = some (.inl ((t 0), 400, .inl gS1)) := hg1
      have f_aBy : h27 aBy = some (.inl ((t 0), 819200, .inl gB1)) := hg2
      refine lv_istore (lv' := [(5, .int 0), (7, .int (nI j9)), (6, .int (nI k9)), (4, .int 22), (3, .int 0), (0, .ref mo), (1, .int (nI fi)), (2, .int nu)]) hx hb d_Mo_session_104 hl (by decide) rfl (fun ls hl => ?_)
      refine lv_iinc (v := nI (k9 + 1)) (lv' := [(6, .int (nI (k9 + 1))), (5, .int 0), (7, .int (nI j9)), (4, .int 22), (3, .int 0), (0, .ref mo), (1, .int (nI fi)), (2, .int nu)]) hx hb d_Mo_session_106 hl (k := 2) rfl (nI_1 k9) (by decide) rfl (fun ls hl => ?_)
      refine lv_goto (tgt := 42) hx hb d_Mo_session_109 (by decide) ?_
      exact ih (22 - (k9 + 1)) ls _ locs _ (by rw [hk]; omega) ⟨(k9 + 1), _, _, _, _, rfl, (lv_sub hl [0, 1, 3, 4, 5, 6, 7] rfl), hH, hz, hLo, hkp, f_m, f_aSt, f_aBy, f_aPa, f_aDe, f_aPl, by omega, by omega⟩
    · skip
      have hj1 : j9 < 2048 := (nI_ltI (by omega) (by omega)).mp (Int32.not_le.mp hc25)
      refine lv_aload_n hx hb d_Mo_session_65 rfl (lv_at hl 5 rfl) ?_
      refine hm_get (ci := 9) (v := .ref aPa) (C := R_Mo) (T := F_Mo) (N := 41) hx hb hts ig_Mo hown hK hH f_m rfl 9 (by decide) (hts _ mw_404) (fun _ h9 => h9) rfl d_Mo_session_66 ?_
      refine lv_iload hx hb d_Mo_session_69 (lv_at hl 0 rfl) ?_
      refine lv_aload_n hx hb d_Mo_session_71 rfl (lv_at hl 5 rfl) ?_
      refine hm_get (ci := 9) (v := .ref aPl) (C := R_Mo) (T := F_Mo) (N := 41) hx hb hts ig_Mo hown hK hH f_m rfl 21 (by decide) (hts _ mw_410) (fun _ h9 => h9) rfl d_Mo_session_72 ?_
      refine lv_sipush (v := 2048) hx hb d_Mo_session_75 (by decide) ?_
      refine lv_iload hx hb d_Mo_session_78 (lv_at hl 1 rfl) ?_
      refine lv_bipush (v := 16) hx hb d_Mo_session_80 (by decide) ?_
      refine lv_isub hx hb d_Mo_session_82 ?_
      refine lv_imul hx hb d_Mo_session_83 ?_
      refine lv_iload hx hb d_Mo_session_84 (lv_at hl 0 rfl) ?_
      refine lv_iadd hx hb d_Mo_session_86 ?_
      refine hj_bald hx hb hK hH 0 f_aPl rfl (2048 * (k9 - 16) + j9) (ix8 _ hk9) (by omega) (by decide) d_Mo_session_87 ?_
      refine hj_bast hx hb hK hH hLo 0 f_aPa rfl j9 rfl (by omega) (by decide) d_Mo_session_88 (fun H31 locs hH z32 hLo => ?_)
      have hz : s.heap.size ≤ H31.size := by rw [z32]; exact hz
      obtain ⟨h33, e34⟩ : ∃ z, z = hu hh2 aPa (.inl ((t 0), 2048, .inl (upd g6 j9 (vp_nar .byte (g16 (2048 * (k9 - 16) + j9)))))) := ⟨_, rfl⟩
      have hH : hm D vwCl G h33 H31 := by rw [e34]; exact hH
      have f_m : h33 mo = some (.inr (9, [.int 0, .int (nI n), .int 0, .ref aBy, .ref aSt, .ref aDe, .int 0, .int (-1), .int wt9, .ref aPa, .int 1, .ref aIt, .ref aId, .ref aPr, .ref aNa, .ref aSi, .ref aSe, .ref aIw, .ref aEx, .ref aOl, .int 0, .ref aPl, .int 1, .int 0, .ref aTa, .ref aAt, .ref aLo, .int 0, .int 0, .ref aS1, .ref aS2, .ref aS3, .ref aS4, .ref aS5, .ref aS6, .int 0, .ref aO1, .ref aO2, .ref aO3, .ref aO4, .ref aO5])) := by rw [e34, hu_n (Ne.symm (h_neA f_aPa f_m))]; exact f_m
      have f_aSt : h33 aSt = some (.inl ((t 0), 400, .inl g7)) := by rw [e34, hu_n (h_neL (k1 := 400) (k2 := 2048) f_aSt f_aPa rfl rfl (by omega))]; exact f_aSt
      have f_aBy : h33 aBy = some (.inl ((t 0), 819200, .inl g8)) := by rw [e34, hu_n (h_neL (k1 := 819200) (k2 := 2048) f_aBy f_aPa rfl rfl (by omega))]; exact f_aBy
      have f_aDe : h33 aDe = some (.inl ((t 1), 200, .inl gDe)) := by rw [e34, hu_n (h_neL (k1 := 200) (k2 := 2048) f_aDe f_aPa rfl rfl (by omega))]; exact f_aDe
      have f_aPl : h33 aPl = some (.inl ((t 0), 163840, .inl g16)) := by rw [e34, hu_n (h_neL (k1 := 163840) (k2 := 2048) f_aPl f_aPa rfl rfl (by omega))]; exact f_aPl
      have f_aPa : h33 aPa = some (.inl ((t 0), 2048, .inl (upd g6 j9 (vp_nar .byte (g16 (2048 * (k9 - 16) + j9)))))) := by rw [e34]; exact hu_s _ _ _
      have hkp : kp [mo, aTa, aAt, aLo, aPl, aPa, aSt, aBy] h h33 := by rw [e34]; exact kp_put hkp (by simp)
      refine lv_iinc (v := nI (j9 + 1)) (lv' := [(7, .int (nI (j9 + 1))), (6, .int (nI k9)), (5, .int 0), (4, .int 22), (3, .int 0), (0, .ref mo), (1, .int (nI fi)), (2, .int nu)]) hx hb d_Mo_session_89 hl (k := 0) rfl (nI_1 j9) (by decide) rfl (fun ls hl => ?_)
      refine lv_goto (tgt := 57) hx hb d_Mo_session_92 (by decide) ?_
      exact ih2 (2048 - (j9 + 1)) ls _ locs _ (by rw [hk2]; omega) ⟨(j9 + 1), _, rfl, (lv_sub hl [0, 1, 2, 3, 4, 5, 6, 7] rfl), hH, hz, hLo, hkp, f_m, f_aSt, f_aBy, f_aPa, f_aDe, f_aPl, by omega⟩

set_option maxHeartbeats 4000000 in
set_option maxRecDepth 100000 in
theorem c_m_commit (l : Launch) (D : va_G) (t : Nat → ClassId) (G : hG) (ak av : Nat → Nat) (h : hM) (mo n : Nat) (hM : FrM t h mo n) : Met l y_Mo_commit (.code y_Mo_commit b_Mo_commit 3 (some .int) :: lw_g) { frames := 6, cells := 0, slots := 0, locals := 156 } (hP (kE D t G ak av) D vwCl G h [.ref mo]) (hQi D vwCl G (fun r h' => r = 1)) 0 0 G.P := by
  refine Met.ofW (cc := b_Mo_commit) (maxL := 3) (ret := (some .int)) (by decide) rfl ?_
  intro p e s m args below meth c s₁ Bd hml hv
  obtain ⟨ha, hE, hH⟩ := hv
  have hx := Bd.exec
  have hb := Bd.bytes
  have hr := Bd.returns
  have hts : ∀ w ∈ lw_g, w.before args s = true := fun w hw => atoms_spec (ws := (.code y_Mo_commit b_Mo_commit 3 (some .int) :: lw_g)) Bd.pre w (List.mem_cons_of_mem _ hw)
  have hown : s.vm.findClass R_Mo = some m.cls := findClass_of_methodNamed Bd.named
  have hlocks := Bd.notSynchronized
  have hK := hE.1
  have hH0 := hH
  have hLo : hLc G.P [] := hLc_nil
  have hz : s.heap.size ≤ s.heap.size := Nat.le_refl _
  have hkp : kp [] h h := kp_rf
  have hl := lv_entry [.ref mo] (n := 3) (Nat.le_of_ble_eq_true rfl)
  rw [show entryFrame m args 3 = F0 m 0 ((lg_sl [.ref mo] ++ List.replicate (3 - (lg_sl [.ref mo]).length) Slot.unset).toArray) [] from (by rw [ha]; exact lg_entry_eq m [.ref mo] 3)]
  generalize (lg_sl [.ref mo] ++ List.replicate (3 - (lg_sl [.ref mo]).length) Slot.unset).toArray = ls at hl ⊢
  have hl : lv_has ls 3 [(0, .ref mo)] := hl
  obtain ⟨aBy, aSt, aDe, aPa, aIt, aId, aPr, aNa, aSi, aSe, aIw, aEx, aOl, aPl, aTa, aAt, aLo, aS1, aS2, aS3, aS4, aS5, aS6, aO1, aO2, aO3, aO4, aO5, gBy, gSt, gDe, gPa, gIt, gId, gPr, gSi, gSe, gIw, gEx, gOl, gPl, gTa, gAt, gLo, gNa, f_m, f_aBy, f_aSt, f_aDe, f_aPa, f_aIt, f_aId, f_aPr, f_aNa, f_aSi, f_aSe, f_aIw, f_aEx, f_aOl, f_aPl, f_aTa, f_aAt, f_aLo, zBy, zSt, zDe, zIt, zId, zPr, zSi, zSe, zEx, ne_aIt_aId, ne_aIt_aPr, ne_aIt_aSi, ne_aIt_aSe, ne_aIt_aEx, ne_aId_aPr, ne_aId_aSi, ne_aId_aSe, ne_aId_aEx, ne_aPr_aSi, ne_aPr_aSe, ne_aPr_aEx, ne_aSi_aSe, ne_aSi_aEx, ne_aSe_aEx, ne_aId_aAt, ne_aId_aLo, ne_aAt_aLo, ne_aId_aOl, ne_aIt_aIw, ne_aId_aIw, ne_aPr_aIw, ne_aSi_aIw, ne_aSe_aIw, ne_aIw_aEx, ne_aEx_aOl, ne_aOl_aAt, ne_aOl_aLo, hn40, hn⟩ := hM
  refine lv_aload_n hx hb d_Mo_commit_0 rfl (lv_at hl 0 rfl) ?_
  refine lv_iconst (v := 0) hx hb d_Mo_commit_1 (by decide) ?_
  refine hm_put (ci := 9) (v := .int 0) (ty := .int) (C := R_Mo) (T := F_Mo) (N := 41) hx hb hts ig_Mo t_Mo tk_Mo nm_Mo hown hK hH hLo f_m rfl 0 (by decide) (hts _ mw_432) (fun _ h9 => h9) rfl (by decide +kernel) rfl rfl (Nat.le_of_ble_eq_true rfl) d_Mo_commit_2 (fun H1 locs hH z2 hLo => ?_)
  have hz : s.heap.size ≤ H1.size := by rw [z2]; exact hz
  obtain ⟨h3, e4⟩ : ∃ z, z = hu h mo (.inr (9, [.int 0, .int (nI n), .int 0, .ref aBy, .ref aSt, .ref aDe, .int 0, .int (-1), .int 0, .ref aPa, .int 1, .ref aIt, .ref aId, .ref aPr, .ref aNa, .ref aSi, .ref aSe, .ref aIw, .ref aEx, .ref aOl, .int 0, .ref aPl, .int 0, .int 0, .ref aTa, .ref aAt, .ref aLo, .int 0, .int 0, .ref aS1, .ref aS2, .ref aS3, .ref aS4, .ref aS5, .ref aS6, .int 0, .ref aO1, .ref aO2, .ref aO3, .ref aO4, .ref aO5])) := ⟨_, rfl⟩
  have hH : hm D vwCl G h3 H1 := by rw [e4]; exact hH
  have f_aSt : h3 aSt = some (.inl ((t 0), 400, .inl gSt)) := by rw [e4, hu_n (h_neA f_aSt f_m)]; exact f_aSt
  have f_aBy : h3 aBy = some (.inl ((t 0), 819200, .inl gBy)) := by rw [e4, hu_n (h_neA f_aBy f_m)]; exact f_aBy
  have f_aPa : h3 aPa = some (.inl ((t 0), 2048, .inl gPa)) := by rw [e4, hu_n (h_neA f_aPa f_m)]; exact f_aPa
  have f_aDe : h3 aDe = some (.inl ((t 1), 200, .inl gDe)) := by rw [e4, hu_n (h_neA f_aDe f_m)]; exact f_aDe
  have f_aPl : h3 aPl = some (.inl ((t 0), 163840, .inl gPl)) := by rw [e4, hu_n (h_neA f_aPl f_m)]; exact f_aPl
  have f_aId : h3 aId = some (.inl ((t 1), 700, .inl gId)) := by rw [e4, hu_n (h_neA f_aId f_m)]; exact f_aId
  have f_aTa : h3 aTa = some (.inl ((t 2), 30, .inl gTa)) := by rw [e4, hu_n (h_neA f_aTa f_m)]; exact f_aTa
  have f_aAt : h3 aAt = some (.inl ((t 2), 700, .inl gAt)) := by rw [e4, hu_n (h_neA f_aAt f_m)]; exact f_aAt
  have f_aLo : h3 aLo = some (.inl ((t 2), 700, .inl gLo)) := by rw [e4, hu_n (h_neA f_aLo f_m)]; exact f_aLo
  have f_m : h3 mo = some (.inr (9, [.int 0, .int (nI n), .int 0, .ref aBy, .ref aSt, .ref aDe, .int 0, .int (-1), .int 0, .ref aPa, .int 1, .ref aIt, .ref aId, .ref aPr, .ref aNa, .ref aSi, .ref aSe, .ref aIw, .ref aEx, .ref aOl, .int 0, .ref aPl, .int 0, .int 0, .ref aTa, .ref aAt, .ref aLo, .int 0, .int 0, .ref aS1, .ref aS2, .ref aS3, .ref aS4, .ref aS5, .ref aS6, .int 0, .ref aO1, .ref aO2, .ref aO3, .ref aO4, .ref aO5])) := by rw [e4]; exact hu_s _ _ _
  refine lv_aload_n hx hb d_Mo_commit_5 rfl (lv_at hl 0 rfl) ?_
  refine hm_get (ci := 9) (v := .int 0) (C := R_Mo) (T := F_Mo) (N := 41) hx hb hts ig_Mo hown hK hH f_m rfl 6 (by decide) (hts _ mw_440) (fun _ h9 => h9) rfl d_Mo_commit_6 ?_
  refine lv_if_eq (tgt := 15) hx hb d_Mo_commit_9 (by decide) (fun hc5 => ?_) (fun hc5 => absurd rfl hc5)
  refine lv_iconst (v := 1) hx hb d_Mo_commit_15 (by decide) ?_
  refine lv_istore_n (lv' := [(1, .int 1), (0, .ref mo)]) hx hb d_Mo_commit_16 rfl hl (by decide) rfl (fun ls hl => ?_)
  refine lv_iload_n hx hb d_Mo_commit_17 rfl (lv_at hl 0 rfl) ?_
  refine lv_aload_n hx hb d_Mo_commit_18 rfl (lv_at hl 1 rfl) ?_
  refine hm_get (ci := 9) (v := .int 1) (C := R_Mo) (T := F_Mo) (N := 41) hx hb hts ig_Mo hown hK hH f_m rfl 10 (by decide) (hts _ mw_390) (fun _ h9 => h9) rfl d_Mo_commit_19 ?_
  refine lv_icmp_ge (tgt := 94) hx hb d_Mo_commit_22 (by decide) (fun hc6 => ?_) (fun hc6 => absurd (by decide) hc6)
  refine lv_aload_n hx hb d_Mo_commit_94 rfl (lv_at hl 1 rfl) ?_
  refine lv_aload_n hx hb d_Mo_commit_95 rfl (lv_at hl 1 rfl) ?_
  refine hm_get (ci := 9) (v := .int 0) (C := R_Mo) (T := F_Mo) (N := 41) hx hb hts ig_Mo hown hK hH f_m rfl 2 (by decide) (hts _ mw_467) (fun _ h9 => h9) rfl d_Mo_commit_96 ?_
  refine lv_aload_n hx hb d_Mo_commit_99 rfl (lv_at hl 1 rfl) ?_
  refine hm_get (ci := 9) (v := .int 0) (C := R_Mo) (T := F_Mo) (N := 41) hx hb hts ig_Mo hown hK hH f_m rfl 20 (by decide) (hts _ mw_487) (fun _ h9 => h9) rfl d_Mo_commit_100 ?_
  refine lv_iconst (v := 1) hx hb d_Mo_commit_103 (by decide) ?_
  refine lv_iadd hx hb d_Mo_commit_104 ?_
  refine hm_calli (va_runV (As := [.int 0, .int (0 + 1)]) (b := mo) (rest := []) ⟨hx, hb, hml, hown, hts⟩ (c_m_session l D t G ak av h3 mo n aBy aSt aDe aPa aIt aId aPr aNa aSi aSe aIw aEx aOl aPl aTa aAt aLo aS1 aS2 aS3 aS4 aS5 aS6 aO1 aO2 aO3 aO4 aO5 gSt gBy gPa gDe gPl gId gTa gAt gLo 0 0 (0 + 1) f_m f_aSt f_aBy f_aPa f_aDe f_aPl f_aId f_aTa f_aAt f_aLo zDe zId (by decide) (by decide) (fun j _ => zSt _) hn40 hn ne_aId_aAt ne_aId_aLo ne_aAt_aLo) ⟨cw9B 2 hts mw_544 mw_545 mw_428 rfl rfl (by decide +kernel) ⟨Nat.le_of_ble_eq_true rfl, Nat.le_of_ble_eq_true rfl⟩, hts _ mw_546, hts _ mw_547⟩ (hP_V (q := (R_Mo, F_Mo, 41)) kE_ok hE hK hH f_m rfl) rfl rfl hl.1 rfl (lv_room (Nat.le_of_ble_eq_true rfl)) d_Mo_commit_105 ⟨Nat.le_of_ble_eq_true rfl, Nat.le_of_ble_eq_true rfl⟩) hLo (fun r7 h8 H9 locs hp11 hH z10 hLo => ?_)
  have hz : s.heap.size ≤ H9.size := Nat.le_trans hz z10
  obtain ⟨rfl, hk9, wt9, hm9⟩ := hp11
  have f_m : h8 mo = some (.inr (9, [.int 0, .int (nI n), .int 0, .ref aBy, .ref aSt, .ref aDe, .int 0, .int (-1), .int wt9, .ref aPa, .int 1, .ref aIt, .ref aId, .ref aPr, .ref aNa, .ref aSi, .ref aSe, .ref aIw, .ref aEx, .ref aOl, .int 0, .ref aPl, .int 1, .int 0, .ref aTa, .ref aAt, .ref aLo, .int 0, .int 0, .ref aS1, .ref aS2, .ref aS3, .ref aS4, .ref aS5, .ref aS6, .int 0, .ref aO1, .ref aO2, .ref aO3, .ref aO4, .ref aO5])) := hm9
  refine lv_istore_n (lv' := [(1, .int (0 + 1)), (0, .ref mo)]) hx hb d_Mo_commit_108 rfl hl (by decide) rfl (fun ls hl => ?_)
  refine lv_iload_n hx hb d_Mo_commit_109 rfl (lv_at hl 0 rfl) ?_
  refine lv_bipush (v := -4) hx hb d_Mo_commit_110 (by decide) ?_
  refine lv_icmp_eq (tgt := 121) hx hb d_Mo_commit_112 (by decide) (fun hc12 => absurd hc12 (by decide)) (fun hc12 => ?_)
  refine lv_iload_n hx hb d_Mo_commit_115 rfl (lv_at hl 0 rfl) ?_
  refine lv_bipush (v := -3) hx hb d_Mo_commit_116 (by decide) ?_
  refine lv_icmp_ne (tgt := 123) hx hb d_Mo_commit_118 (by decide) (fun hc13 => ?_) (fun hc13 => absurd hc13 (by decide))
  refine lv_aload_n hx hb d_Mo_commit_123 rfl (lv_at hl 1 rfl) ?_
  refine lv_dup hx hb d_Mo_commit_124 rfl ?_
  refine hm_get (ci := 9) (v := .int 0) (C := R_Mo) (T := F_Mo) (N := 41) hx hb hts ig_Mo hown hK hH f_m rfl 20 (by decide) (hts _ mw_487) (fun _ h9 => h9) rfl d_Mo_commit_125 ?_
  refine lv_iconst (v := 1) hx hb d_Mo_commit_128 (by decide) ?_
  refine lv_iadd hx hb d_Mo_commit_129 ?_
  refine hm_put (ci := 9) (v := .int (0 + 1)) (ty := .int) (C := R_Mo) (T := F_Mo) (N := 41) hx hb hts ig_Mo t_Mo tk_Mo nm_Mo hown hK hH hLo f_m rfl 20 (by decide) (hts _ mw_487) (fun _ h9 => h9) rfl (by decide +kernel) rfl rfl (Nat.le_of_ble_eq_true rfl) d_Mo_commit_130 (fun H14 locs hH z15 hLo => ?_)
  have hz : s.heap.size ≤ H14.size := by rw [z15]; exact hz
  obtain ⟨h16, e17⟩ : ∃ z, z = hu h8 mo (.inr (9, [.int 0, .int (nI n), .int 0, .ref aBy, .ref aSt, .ref aDe, .int 0, .int (-1), .int wt9, .ref aPa, .int 1, .ref aIt, .ref aId, .ref aPr, .ref aNa, .ref aSi, .ref aSe, .ref aIw, .ref aEx, .ref aOl, .int (0 + 1), .ref aPl, .int 1, .int 0, .ref aTa, .ref aAt, .ref aLo, .int 0, .int 0, .ref aS1, .ref aS2, .ref aS3, .ref aS4, .ref aS5, .ref aS6, .int 0, .ref aO1, .ref aO2, .ref aO3, .ref aO4, .ref aO5])) := ⟨_, rfl⟩
  have hH : hm D vwCl G h16 H14 := by rw [e17]; exact hH
  have f_m : h16 mo = some (.inr (9, [.int 0, .int (nI n), .int 0, .ref aBy, .ref aSt, .ref aDe, .int 0, .int (-1), .int wt9, .ref aPa, .int 1, .ref aIt, .ref aId, .ref aPr, .ref aNa, .ref aSi, .ref aSe, .ref aIw, .ref aEx, .ref aOl, .int (0 + 1), .ref aPl, .int 1, .int 0, .ref aTa, .ref aAt, .ref aLo, .int 0, .int 0, .ref aS1, .ref aS2, .ref aS3, .ref aS4, .ref aS5, .ref aS6, .int 0, .ref aO1, .ref aO2, .ref aO3, .ref aO4, .ref aO5])) := by rw [e17]; exact hu_s _ _ _
  refine lv_aload_n hx hb d_Mo_commit_133 rfl (lv_at hl 1 rfl) ?_
  refine hm_get (ci := 9) (v := .int (0 + 1)) (C := R_Mo) (T := F_Mo) (N := 41) hx hb hts ig_Mo hown hK hH f_m rfl 20 (by decide) (hts _ mw_487) (fun _ h9 => h9) rfl d_Mo_commit_134 ?_
  exact W.iret (v := 0 + 1) hx hb hr (fun t9 ht hW => ⟨0 + 1, h16, rfl, by decide, by rw [ht]; exact hH, by rw [ht]; exact hz⟩) hLo d_Mo_commit_137

set_option maxHeartbeats 4000000 in
set_option maxRecDepth 100000 in
theorem c_m_compact (l : Launch) (D : va_G) (t : Nat → ClassId) (G : hG) (ak av : Nat → Nat) (h : hM) (mo n : Nat) (hM : FrM t h mo n) : Met l y_Mo_compact (.code y_Mo_compact b_Mo_compact 4 (some .int) :: lw_g) { frames := 6, cells := 0, slots := 0, locals := 156 } (hP (kE D t G ak av) D vwCl G h [.ref mo]) (hQi D vwCl G (fun r h' => r = 1)) 0 0 G.P := by
  refine Met.ofW (cc := b_Mo_compact) (maxL := 4) (ret := (some .int)) (by decide) rfl ?_
  intro p e s m args below meth c s₁ Bd hml hv
  obtain ⟨ha, hE, hH⟩ := hv
  have hx := Bd.exec
  have hb := Bd.bytes
  have hr := Bd.returns
  have hts : ∀ w ∈ lw_g, w.before args s = true := fun w hw => atoms_spec (ws := (.code y_Mo_compact b_Mo_compact 4 (some .int) :: lw_g)) Bd.pre w (List.mem_cons_of_mem _ hw)
  have hown : s.vm.findClass R_Mo = some m.cls := findClass_of_methodNamed Bd.named
  have hlocks := Bd.notSynchronized
  have hK := hE.1
  have hH0 := hH
  have hLo : hLc G.P [] := hLc_nil
  have hz : s.heap.size ≤ s.heap.size := Nat.le_refl _
  have hkp : kp [] h h := kp_rf
  have hl := lv_entry [.ref mo] (n := 4) (Nat.le_of_ble_eq_true rfl)
  rw [show entryFrame m args 4 = F0 m 0 ((lg_sl [.ref mo] ++ List.replicate (4 - (lg_sl [.ref mo]).length) Slot.unset).toArray) [] from (by rw [ha]; exact lg_entry_eq m [.ref mo] 4)]
  generalize (lg_sl [.ref mo] ++ List.replicate (4 - (lg_sl [.ref mo]).length) Slot.unset).toArray = ls at hl ⊢
  have hl : lv_has ls 4 [(0, .ref mo)] := hl
  obtain ⟨aBy, aSt, aDe, aPa, aIt, aId, aPr, aNa, aSi, aSe, aIw, aEx, aOl, aPl, aTa, aAt, aLo, aS1, aS2, aS3, aS4, aS5, aS6, aO1, aO2, aO3, aO4, aO5, gBy, gSt, gDe, gPa, gIt, gId, gPr, gSi, gSe, gIw, gEx, gOl, gPl, gTa, gAt, gLo, gNa, f_m, f_aBy, f_aSt, f_aDe, f_aPa, f_aIt, f_aId, f_aPr, f_aNa, f_aSi, f_aSe, f_aIw, f_aEx, f_aOl, f_aPl, f_aTa, f_aAt, f_aLo, zBy, zSt, zDe, zIt, zId, zPr, zSi, zSe, zEx, ne_aIt_aId, ne_aIt_aPr, ne_aIt_aSi, ne_aIt_aSe, ne_aIt_aEx, ne_aId_aPr, ne_aId_aSi, ne_aId_aSe, ne_aId_aEx, ne_aPr_aSi, ne_aPr_aSe, ne_aPr_aEx, ne_aSi_aSe, ne_aSi_aEx, ne_aSe_aEx, ne_aId_aAt, ne_aId_aLo, ne_aAt_aLo, ne_aId_aOl, ne_aIt_aIw, ne_aId_aIw, ne_aPr_aIw, ne_aSi_aIw, ne_aSe_aIw, ne_aIw_aEx, ne_aEx_aOl, ne_aOl_aAt, ne_aOl_aLo, hn40, hn⟩ := hM
  refine lv_aload_n hx hb d_Mo_compact_0 rfl (lv_at hl 0 rfl) ?_
  refine lv_iconst (v := 0) hx hb d_Mo_compact_1 (by decide) ?_
  refine hm_put (ci := 9) (v := .int 0) (ty := .int) (C := R_Mo) (T := F_Mo) (N := 41) hx hb hts ig_Mo t_Mo tk_Mo nm_Mo hown hK hH hLo f_m rfl 0 (by decide) (hts _ mw_432) (fun _ h9 => h9) rfl (by decide +kernel) rfl rfl (Nat.le_of_ble_eq_true rfl) d_Mo_compact_2 (fun H1 locs hH z2 hLo => ?_)
  have hz : s.heap.size ≤ H1.size := by rw [z2]; exact hz
  obtain ⟨h3, e4⟩ : ∃ z, z = hu h mo (.inr (9, [.int 0, .int (nI n), .int 0, .ref aBy, .ref aSt, .ref aDe, .int 0, .int (-1), .int 0, .ref aPa, .int 1, .ref aIt, .ref aId, .ref aPr, .ref aNa, .ref aSi, .ref aSe, .ref aIw, .ref aEx, .ref aOl, .int 0, .ref aPl, .int 0, .int 0, .ref aTa, .ref aAt, .ref aLo, .int 0, .int 0, .ref aS1, .ref aS2, .ref aS3, .ref aS4, .ref aS5, .ref aS6, .int 0, .ref aO1, .ref aO2, .ref aO3, .ref aO4, .ref aO5])) := ⟨_, rfl⟩
  have hH : hm D vwCl G h3 H1 := by rw [e4]; exact hH
  have f_aSt : h3 aSt = some (.inl ((t 0), 400, .inl gSt)) := by rw [e4, hu_n (h_neA f_aSt f_m)]; exact f_aSt
  have f_aBy : h3 aBy = some (.inl ((t 0), 819200, .inl gBy)) := by rw [e4, hu_n (h_neA f_aBy f_m)]; exact f_aBy
  have f_aPa : h3 aPa = some (.inl ((t 0), 2048, .inl gPa)) := by rw [e4, hu_n (h_neA f_aPa f_m)]; exact f_aPa
  have f_aDe : h3 aDe = some (.inl ((t 1), 200, .inl gDe)) := by rw [e4, hu_n (h_neA f_aDe f_m)]; exact f_aDe
  have f_aPl : h3 aPl = some (.inl ((t 0), 163840, .inl gPl)) := by rw [e4, hu_n (h_neA f_aPl f_m)]; exact f_aPl
  have f_aId : h3 aId = some (.inl ((t 1), 700, .inl gId)) := by rw [e4, hu_n (h_neA f_aId f_m)]; exact f_aId
  have f_aTa : h3 aTa = some (.inl ((t 2), 30, .inl gTa)) := by rw [e4, hu_n (h_neA f_aTa f_m)]; exact f_aTa
  have f_aAt : h3 aAt = some (.inl ((t 2), 700, .inl gAt)) := by rw [e4, hu_n (h_neA f_aAt f_m)]; exact f_aAt
  have f_aLo : h3 aLo = some (.inl ((t 2), 700, .inl gLo)) := by rw [e4, hu_n (h_neA f_aLo f_m)]; exact f_aLo
  have f_aEx : h3 aEx = some (.inl ((t 2), 700, .inl gEx)) := by rw [e4, hu_n (h_neA f_aEx f_m)]; exact f_aEx
  have f_aOl : h3 aOl = some (.inl ((t 2), 700, .inl gOl)) := by rw [e4, hu_n (h_neA f_aOl f_m)]; exact f_aOl
  have f_m : h3 mo = some (.inr (9, [.int 0, .int (nI n), .int 0, .ref aBy, .ref aSt, .ref aDe, .int 0, .int (-1), .int 0, .ref aPa, .int 1, .ref aIt, .ref aId, .ref aPr, .ref aNa, .ref aSi, .ref aSe, .ref aIw, .ref aEx, .ref aOl, .int 0, .ref aPl, .int 0, .int 0, .ref aTa, .ref aAt, .ref aLo, .int 0, .int 0, .ref aS1, .ref aS2, .ref aS3, .ref aS4, .ref aS5, .ref aS6, .int 0, .ref aO1, .ref aO2, .ref aO3, .ref aO4, .ref aO5])) := by rw [e4]; exact hu_s _ _ _
  refine lv_aload_n hx hb d_Mo_compact_5 rfl (lv_at hl 0 rfl) ?_
  refine hm_get (ci := 9) (v := .int 0) (C := R_Mo) (T := F_Mo) (N := 41) hx hb hts ig_Mo hown hK hH f_m rfl 6 (by decide) (hts _ mw_440) (fun _ h9 => h9) rfl d_Mo_compact_6 ?_
  refine lv_if_eq (tgt := 15) hx hb d_Mo_compact_9 (by decide) (fun hc5 => ?_) (fun hc5 => absurd rfl hc5)
  refine lv_sipush (v := 200) hx hb d_Mo_compact_15 (by decide) ?_
  refine lv_aload_n hx hb d_Mo_compact_18 rfl (lv_at hl 0 rfl) ?_
  refine hm_get (ci := 9) (v := .int 0) (C := R_Mo) (T := F_Mo) (N := 41) hx hb hts ig_Mo hown hK hH f_m rfl 2 (by decide) (hts _ mw_467) (fun _ h9 => h9) rfl d_Mo_compact_19 ?_
  refine lv_isub hx hb d_Mo_compact_22 ?_
  refine lv_topi (fun v6 e7 => ?_)
  obtain rfl : v6 = nI 200 := e7.trans (by decide)
  refine lv_istore_n (lv' := [(1, .int (nI 200)), (0, .ref mo)]) hx hb d_Mo_compact_23 rfl hl (by decide) rfl (fun ls hl => ?_)
  refine lv_iconst (v := 0) hx hb d_Mo_compact_24 (by decide) ?_
  refine lv_topi (fun v8 e9 => ?_)
  obtain rfl : v8 = nI 0 := e9.trans (by decide)
  refine lv_istore_n (lv' := [(2, .int (nI 0)), (1, .int (nI 200)), (0, .ref mo)]) hx hb d_Mo_compact_25 rfl hl (by decide) rfl (fun ls hl => ?_)
  refine hm_loop (fun k ls H locs hh => ∃ (k9 : Nat) (g7 : Nat → Int32), k = 200 - k9 ∧ lv_has ls 4 [(2, .int (nI k9)), (0, .ref mo), (1, .int (nI 200))] ∧ hm D vwCl G hh H ∧ s.heap.size ≤ H.size ∧ hLc G.P locs ∧ hh mo = some (.inr (9, [.int 0, .int (nI n), .int 0, .ref aBy, .ref aSt, .ref aDe, .int 0, .int (-1), .int 0, .ref aPa, .int 1, .ref aIt, .ref aId, .ref aPr, .ref aNa, .ref aSi, .ref aSe, .ref aIw, .ref aEx, .ref aOl, .int 0, .ref aPl, .int 0, .int 0, .ref aTa, .ref aAt, .ref aLo, .int 0, .int 0, .ref aS1, .ref aS2, .ref aS3, .ref aS4, .ref aS5, .ref aS6, .int 0, .ref aO1, .ref aO2, .ref aO3, .ref aO4, .ref aO5])) ∧ hh aSt = some (.inl ((t 0), 400, .inl g7)) ∧ hh aBy = some (.inl ((t 0), 819200, .inl gBy)) ∧ hh aPa = some (.inl ((t 0), 2048, .inl gPa)) ∧ hh aDe = some (.inl ((t 1), 200, .inl gDe)) ∧ hh aPl = some (.inl ((t 0), 163840, .inl gPl)) ∧ hh aId = some (.inl ((t 1), 700, .inl gId)) ∧ hh aTa = some (.inl ((t 2), 30, .inl gTa)) ∧ hh aAt = some (.inl ((t 2), 700, .inl gAt)) ∧ hh aLo = some (.inl ((t 2), 700, .inl gLo)) ∧ hh aEx = some (.inl ((t 2), 700, .inl gEx)) ∧ hh aOl = some (.inl ((t 2), 700, .inl gOl)) ∧ (k9 ≤ 200) ∧ (∀ j, g7 j = 0)) ?_ (hh := h3) ⟨0, gSt, rfl, (lv_sub hl [0, 2, 1] rfl), hH, hz, hLo, f_m, f_aSt, f_aBy, f_aPa, f_aDe, f_aPl, f_aId, f_aTa, f_aAt, f_aLo, f_aEx, f_aOl, by omega, zSt⟩
  rintro k ls H locs hh ⟨k9, g7, hk, hl, hH, hz, hLo, f_m, f_aSt, f_aBy, f_aPa, f_aDe, f_aPl, f_aId, f_aTa, f_aAt, f_aLo, f_aEx, f_aOl, hk9, hz9⟩ ih
  refine lv_iload_n hx hb d_Mo_compact_26 rfl (lv_at hl 0 rfl) ?_
  refine lv_sipush (v := 200) hx hb d_Mo_compact_27 (by decide) ?_
  refine lv_icmp_ge (tgt := 48) hx hb d_Mo_compact_30 (by decide) (fun hc10 => ?_) (fun hc10 => ?_)
  · skip
    refine lv_iconst (v := 0) hx hb d_Mo_compact_48 (by decide) ?_
    refine lv_topi (fun v11 e12 => ?_)
    obtain rfl : v11 = nI 0 := e12.trans (by decide)
    refine lv_istore_n (lv' := [(2, .int (nI 0)), (0, .ref mo), (1, .int (nI 200))]) hx hb d_Mo_compact_49 rfl hl (by decide) rfl (fun ls hl => ?_)
    refine hm_loop (fun k ls H locs hh => ∃ (k8 : Nat) (g8 : Nat → Int32), k = 409600 - k8 ∧ lv_has ls 4 [(2, .int (nI k8)), (0, .ref mo), (1, .int (nI 200))] ∧ hm D vwCl G hh H ∧ s.heap.size ≤ H.size ∧ hLc G.P locs ∧ hh mo = some (.inr (9, [.int 0, .int (nI n), .int 0, .ref aBy, .ref aSt, .ref aDe, .int 0, .int (-1), .int 0, .ref aPa, .int 1, .ref aIt, .ref aId, .ref aPr, .ref aNa, .ref aSi, .ref aSe, .ref aIw, .ref aEx, .ref aOl, .int 0, .ref aPl, .int 0, .int 0, .ref aTa, .ref aAt, .ref aLo, .int 0, .int 0, .ref aS1, .ref aS2, .ref aS3, .ref aS4, .ref aS5, .ref aS6, .int 0, .ref aO1, .ref aO2, .ref aO3, .ref aO4, .ref aO5])) ∧ hh aSt = some (.inl ((t 0), 400, .inl g7)) ∧ hh aBy = some (.inl ((t 0), 819200, .inl g8)) ∧ hh aPa = some (.inl ((t 0), 2048, .inl gPa)) ∧ hh aDe = some (.inl ((t 1), 200, .inl gDe)) ∧ hh aPl = some (.inl ((t 0), 163840, .inl gPl)) ∧ hh aId = some (.inl ((t 1), 700, .inl gId)) ∧ hh aTa = some (.inl ((t 2), 30, .inl gTa)) ∧ hh aAt = some (.inl ((t 2), 700, .inl gAt)) ∧ hh aLo = some (.inl ((t 2), 700, .inl gLo)) ∧ hh aEx = some (.inl ((t 2), 700, .inl gEx)) ∧ hh aOl = some (.inl ((t 2), 700, .inl gOl)) ∧ (k8 ≤ 409600)) ?_ (hh := hh) ⟨0, gBy, rfl, (lv_sub hl [0, 1, 2] rfl), hH, hz, hLo, f_m, f_aSt, f_aBy, f_aPa, f_aDe, f_aPl, f_aId, f_aTa, f_aAt, f_aLo, f_aEx, f_aOl, by omega⟩
    rintro k ls H locs hh ⟨k8, g8, hk, hl, hH, hz, hLo, f_m, f_aSt, f_aBy, f_aPa, f_aDe, f_aPl, f_aId, f_aTa, f_aAt, f_aLo, f_aEx, f_aOl, hk8⟩ ih
    refine lv_iload_n hx hb d_Mo_compact_50 rfl (lv_at hl 0 rfl) ?_
    refine lv_ldc (v := 409600) hx hb hown (hts _ mw_548) d_Mo_compact_51 ?_
    refine lv_topi (fun v13 e14 => ?_)
    obtain rfl : v13 = nI 409600 := e14.trans (by decide)
    refine lv_icmp_ge (tgt := 75) hx hb d_Mo_compact_53 (by decide) (fun hc15 => ?_) (fun hc15 => ?_)
    · skip
      refine lv_iconst (v := 0) hx hb d_Mo_compact_75 (by decide) ?_
      refine lv_istore_n (lv' := [(2, .int 0), (0, .ref mo), (1, .int (nI 200))]) hx hb d_Mo_compact_76 rfl hl (by decide) rfl (fun ls hl => ?_)
      refine lv_iload_n hx hb d_Mo_compact_77 rfl (lv_at hl 0 rfl) ?_
      refine lv_aload_n hx hb d_Mo_compact_78 rfl (lv_at hl 1 rfl) ?_
      refine hm_get (ci := 9) (v := .int 1) (C := R_Mo) (T := F_Mo) (N := 41) hx hb hts ig_Mo hown hK hH f_m rfl 10 (by decide) (hts _ mw_390) (fun _ h9 => h9) rfl d_Mo_compact_79 ?_
      refine lv_icmp_ge (tgt := 103) hx hb d_Mo_compact_82 (by decide) (fun hc16 => absurd hc16 (by decide)) (fun hc16 => ?_)
      refine lv_aload_n hx hb d_Mo_compact_85 rfl (lv_at hl 1 rfl) ?_
      refine hm_get (ci := 9) (v := .ref aOl) (C := R_Mo) (T := F_Mo) (N := 41) hx hb hts ig_Mo hown hK hH f_m rfl 19 (by decide) (hts _ mw_408) (fun _ h9 => h9) rfl d_Mo_compact_86 ?_
      refine lv_iload_n hx hb d_Mo_compact_89 rfl (lv_at hl 0 rfl) ?_
      refine lv_aload_n hx hb d_Mo_compact_90 rfl (lv_at hl 1 rfl) ?_
      refine hm_get (ci := 9) (v := .ref aEx) (C := R_Mo) (T := F_Mo) (N := 41) hx hb hts ig_Mo hown hK hH f_m rfl 18 (by decide) (hts _ mw_397) (fun _ h9 => h9) rfl d_Mo_compact_91 ?_
      refine lv_iload_n hx hb d_Mo_compact_94 rfl (lv_at hl 0 rfl) ?_
      refine hj_iald hx hb hK hH 2 f_aEx rfl 0 (by decide) (by decide) (by decide) d_Mo_compact_95 ?_
      refine hj_iast hx hb hK hH hLo 2 f_aOl rfl 0 (by decide) (by decide) (by decide) d_Mo_compact_96 (fun H17 locs hH z18 hLo => ?_)
      have hz : s.heap.size ≤ H17.size := by rw [z18]; exact hz
      obtain ⟨h19, e20⟩ : ∃ z, z = hu hh aOl (.inl ((t 2), 700, .inl (upd gOl 0 (gEx 0)))) := ⟨_, rfl⟩
      have hH : hm D vwCl G h19 H17 := by rw [e20]; exact hH
      have f_m : h19 mo = some (.inr (9, [.int 0, .int (nI n), .int 0, .ref aBy, .ref aSt, .ref aDe, .int 0, .int (-1), .int 0, .ref aPa, .int 1, .ref aIt, .ref aId, .ref aPr, .ref aNa, .ref aSi, .ref aSe, .ref aIw, .ref aEx, .ref aOl, .int 0, .ref aPl, .int 0, .int 0, .ref aTa, .ref aAt, .ref aLo, .int 0, .int 0, .ref aS1, .ref aS2, .ref aS3, .ref aS4, .ref aS5, .ref aS6, .int 0, .ref aO1, .ref aO2, .ref aO3, .ref aO4, .ref aO5])) := by rw [e20, hu_n (Ne.symm (h_neA f_aOl f_m))]; exact f_m
      have f_aSt : h19 aSt = some (.inl ((t 0), 400, .inl g7)) := by rw [e20, hu_n (h_neL (k1 := 400) (k2 := 700) f_aSt f_aOl rfl rfl (by omega))]; exact f_aSt
      have f_aBy : h19 aBy = some (.inl ((t 0), 819200, .inl g8)) := by rw [e20, hu_n (h_neL (k1 := 819200) (k2 := 700) f_aBy f_aOl rfl rfl (by omega))]; exact f_aBy
      have f_aPa : h19 aPa = some (.inl ((t 0), 2048, .inl gPa)) := by rw [e20, hu_n (h_neL (k1 := 2048) (k2 := 700) f_aPa f_aOl rfl rfl (by omega))]; exact f_aPa
      have f_aDe : h19 aDe = some (.inl ((t 1), 200, .inl gDe)) := by rw [e20, hu_n (h_neL (k1 := 200) (k2 := 700) f_aDe f_aOl rfl rfl (by omega))]; exact f_aDe
      have f_aPl : h19 aPl = some (.inl ((t 0), 163840, .inl gPl)) := by rw [e20, hu_n (h_neL (k1 := 163840) (k2 := 700) f_aPl f_aOl rfl rfl (by omega))]; exact f_aPl
      have f_aId : h19 aId = some (.inl ((t 1), 700, .inl gId)) := by rw [e20, hu_n ne_aId_aOl]; exact f_aId
      have f_aTa : h19 aTa = some (.inl ((t 2), 30, .inl gTa)) := by rw [e20, hu_n (h_neL (k1 := 30) (k2 := 700) f_aTa f_aOl rfl rfl (by omega))]; exact f_aTa
      have f_aAt : h19 aAt = some (.inl ((t 2), 700, .inl gAt)) := by rw [e20, hu_n (Ne.symm ne_aOl_aAt)]; exact f_aAt
      have f_aLo : h19 aLo = some (.inl ((t 2), 700, .inl gLo)) := by rw [e20, hu_n (Ne.symm ne_aOl_aLo)]; exact f_aLo
      have f_aEx : h19 aEx = some (.inl ((t 2), 700, .inl gEx)) := by rw [e20, hu_n ne_aEx_aOl]; exact f_aEx
      have f_aOl : h19 aOl = some (.inl ((t 2), 700, .inl (upd gOl 0 (gEx 0)))) := by rw [e20]; exact hu_s _ _ _
      refine lv_iinc (v := 0 + 1) (lv' := [(2, .int (0 + 1)), (0, .ref mo), (1, .int (nI 200))]) hx hb d_Mo_compact_97 hl (k := 0) rfl (by rfl) (by decide) rfl (fun ls hl => ?_)
      refine lv_goto (tgt := 77) hx hb d_Mo_compact_100 (by decide) ?_
      refine lv_iload_n hx hb d_Mo_compact_77 rfl (lv_at hl 0 rfl) ?_
      refine lv_aload_n hx hb d_Mo_compact_78 rfl (lv_at hl 1 rfl) ?_
      refine hm_get (ci := 9) (v := .int 1) (C := R_Mo) (T := F_Mo) (N := 41) hx hb hts ig_Mo hown hK hH f_m rfl 10 (by decide) (hts _ mw_390) (fun _ h9 => h9) rfl d_Mo_compact_79 ?_
      refine lv_icmp_ge (tgt := 103) hx hb d_Mo_compact_82 (by decide) (fun hc21 => ?_) (fun hc21 => absurd (by decide) hc21)
      refine lv_iconst (v := 0) hx hb d_Mo_compact_103 (by decide) ?_
      refine lv_istore_n (lv' := [(2, .int 0), (0, .ref mo), (1, .int (nI 200))]) hx hb d_Mo_compact_104 rfl hl (by decide) rfl (fun ls hl => ?_)
      refine lv_iconst (v := 1) hx hb d_Mo_compact_105 (by decide) ?_
      refine lv_istore_n (lv' := [(3, .int 1), (2, .int 0), (0, .ref mo), (1, .int (nI 200))]) hx hb d_Mo_compact_106 rfl hl (by decide) rfl (fun ls hl => ?_)
      refine lv_iload_n hx hb d_Mo_compact_107 rfl (lv_at hl 0 rfl) ?_
      refine lv_aload_n hx hb d_Mo_compact_108 rfl (lv_at hl 2 rfl) ?_
      refine hm_get (ci := 9) (v := .int 1) (C := R_Mo) (T := F_Mo) (N := 41) hx hb hts ig_Mo hown hK hH f_m rfl 10 (by decide) (hts _ mw_390) (fun _ h9 => h9) rfl d_Mo_compact_109 ?_
      refine lv_icmp_ge (tgt := 165) hx hb d_Mo_compact_112 (by decide) (fun hc22 => ?_) (fun hc22 => absurd (by decide) hc22)
      refine lv_iload_n hx hb d_Mo_compact_165 rfl (lv_at hl 1 rfl) ?_
      refine lv_if_ne (tgt := 176) hx hb d_Mo_compact_166 (by decide) (fun hc23 => absurd rfl hc23) (fun hc23 => ?_)
      refine lv_aload_n hx hb d_Mo_compact_169 rfl (lv_at hl 2 rfl) ?_
      refine lv_iload_n hx hb d_Mo_compact_170 rfl (lv_at hl 3 rfl) ?_
      refine lv_iconst (v := 1) hx hb d_Mo_compact_171 (by decide) ?_
      refine hm_calli (va_runV (As := [.int (nI 200), .int 1]) (b := mo) (rest := []) ⟨hx, hb, hml, hown, hts⟩ (c_m_session l D t G ak av h19 mo n aBy aSt aDe aPa aIt aId aPr aNa aSi aSe aIw aEx aOl aPl aTa aAt aLo aS1 aS2 aS3 aS4 aS5 aS6 aO1 aO2 aO3 aO4 aO5 g7 g8 gPa gDe gPl gId gTa gAt gLo 200 (nI 200) 1 f_m f_aSt f_aBy f_aPa f_aDe f_aPl f_aId f_aTa f_aAt f_aLo zDe zId (by decide) (by decide) (fun j _ => hz9 _) hn40 hn ne_aId_aAt ne_aId_aLo ne_aAt_aLo) ⟨cw9B 2 hts mw_544 mw_545 mw_428 rfl rfl (by decide +kernel) ⟨Nat.le_of_ble_eq_true rfl, Nat.le_of_ble_eq_true rfl⟩, hts _ mw_546, hts _ mw_547⟩ (hP_V (q := (R_Mo, F_Mo, 41)) kE_ok hE hK hH f_m rfl) rfl rfl hl.1 rfl (lv_room (Nat.le_of_ble_eq_true rfl)) d_Mo_compact_172 ⟨Nat.le_of_ble_eq_true rfl, Nat.le_of_ble_eq_true rfl⟩) hLo (fun r24 h25 H26 locs hp28 hH z27 hLo => ?_)
      have hz : s.heap.size ≤ H26.size := Nat.le_trans hz z27
      obtain ⟨rfl, hk9, wt9, hm9⟩ := hp28
      have f_aDe : h25 aDe = some (.inl ((t 1), 200, .inl gDe)) := kp_at hk9 f_aDe (nmc (h_neA f_aDe f_m) (nmc (h_neL (k1 := 200) (k2 := 30) f_aDe f_aTa rfl rfl (by omega)) (nmc (h_neL (k1 := 200) (k2 := 700) f_aDe f_aAt rfl rfl (by omega)) (nmc (h_neL (k1 := 200) (k2 := 700) f_aDe f_aLo rfl rfl (by omega)) (nmc (h_neL (k1 := 200) (k2 := 163840) f_aDe f_aPl rfl rfl (by omega)) (nmc (h_neL (k1 := 200) (k2 := 2048) f_aDe f_aPa rfl rfl (by omega)) (nmc (h_neL (k1 := 200) (k2 := 400) f_aDe f_aSt rfl rfl (by omega)) (nmc (h_neL (k1 := 200) (k2 := 819200) f_aDe f_aBy rfl rfl (by omega)) nm0))))))))
      have f_m : h25 mo = some (.inr (9, [.int 0, .int (nI n), .int 0, .ref aBy, .ref aSt, .ref aDe, .int 0, .int (-1), .int wt9, .ref aPa, .int 1, .ref aIt, .ref aId, .ref aPr, .ref aNa, .ref aSi, .ref aSe, .ref aIw, .ref aEx, .ref aOl, .int 0, .ref aPl, .int 1, .int 0, .ref aTa, .ref aAt, .ref aLo, .int 0, .int 0, .ref aS1, .ref aS2, .ref aS3, .ref aS4, .ref aS5, .ref aS6, .int 0, .ref aO1, .ref aO2, .ref aO3, .ref aO4, .ref aO5])) := hm9
      refine lv_istore_n (lv' := [(2, .int 1), (3, .int 1), (0, .ref mo), (1, .int (nI 200))]) hx hb d_Mo_compact_175 rfl hl (by decide) rfl (fun ls hl => ?_)
      refine lv_iload_n hx hb d_Mo_compact_176 rfl (lv_at hl 0 rfl) ?_
      refine lv_iconst (v := 1) hx hb d_Mo_compact_177 (by decide) ?_
      refine lv_icmp_eq (tgt := 211) hx hb d_Mo_compact_178 (by decide) (fun hc29 => ?_) (fun hc29 => absurd rfl hc29)
      refine lv_iconst (v := 1) hx hb d_Mo_compact_211 (by decide) ?_
      refine lv_istore_n (lv' := [(3, .int 1), (2, .int 1), (0, .ref mo), (1, .int (nI 200))]) hx hb d_Mo_compact_212 rfl hl (by decide) rfl (fun ls hl => ?_)
      refine lv_iload_n hx hb d_Mo_compact_213 rfl (lv_at hl 0 rfl) ?_
      refine lv_aload_n hx hb d_Mo_compact_214 rfl (lv_at hl 2 rfl) ?_
      refine hm_get (ci := 9) (v := .int 1) (C := R_Mo) (T := F_Mo) (N := 41) hx hb hts ig_Mo hown hK hH f_m rfl 10 (by decide) (hts _ mw_390) (fun _ h9 => h9) rfl d_Mo_compact_215 ?_
      refine lv_icmp_ge (tgt := 265) hx hb d_Mo_compact_218 (by decide) (fun hc30 => ?_) (fun hc30 => absurd (by decide) hc30)
      refine lv_aload_n hx hb d_Mo_compact_265 rfl (lv_at hl 2 rfl) ?_
      refine lv_iload_n hx hb d_Mo_compact_266 rfl (lv_at hl 3 rfl) ?_
      refine hm_put (ci := 9) (v := .int (nI 200)) (ty := .int) (C := R_Mo) (T := F_Mo) (N := 41) hx hb hts ig_Mo t_Mo tk_Mo nm_Mo hown hK hH hLo f_m rfl 2 (by decide) (hts _ mw_467) (fun _ h9 => h9) rfl (by decide +kernel) rfl rfl (Nat.le_of_ble_eq_true rfl) d_Mo_compact_267 (fun H31 locs hH z32 hLo => ?_)
      have hz : s.heap.size ≤ H31.size := by rw [z32]; exact hz
      obtain ⟨h33, e34⟩ : ∃ z, z = hu h25 mo (.inr (9, [.int 0, .int (nI n), .int (nI 200), .ref aBy, .ref aSt, .ref aDe, .int 0, .int (-1), .int wt9, .ref aPa, .int 1, .ref aIt, .ref aId, .ref aPr, .ref aNa, .ref aSi, .ref aSe, .ref aIw, .ref aEx, .ref aOl, .int 0, .ref aPl, .int 1, .int 0, .ref aTa, .ref aAt, .ref aLo, .int 0, .int 0, .ref aS1, .ref aS2, .ref aS3, .ref aS4, .ref aS5, .ref aS6, .int 0, .ref aO1, .ref aO2, .ref aO3, .ref aO4, .ref aO5])) := ⟨_, rfl⟩
      have hH : hm D vwCl G h33 H31 := by rw [e34]; exact hH
      have f_aDe : h33 aDe = some (.inl ((t 1), 200, .inl gDe)) := by rw [e34, hu_n (h_neA f_aDe f_m)]; exact f_aDe
      have f_m : h33 mo = some (.inr (9, [.int 0, .int (nI n), .int (nI 200), .ref aBy, .ref aSt, .ref aDe, .int 0, .int (-1), .int wt9, .ref aPa, .int 1, .ref aIt, .ref aId, .ref aPr, .ref aNa, .ref aSi, .ref aSe, .ref aIw, .ref aEx, .ref aOl, .int 0, .ref aPl, .int 1, .int 0, .ref aTa, .ref aAt, .ref aLo, .int 0, .int 0, .ref aS1, .ref aS2, .ref aS3, .ref aS4, .ref aS5, .ref aS6, .int 0, .ref aO1, .ref aO2, .ref aO3, .ref aO4, .ref aO5])) := by rw [e34]; exact hu_s _ _ _
      refine lv_iconst (v := 0) hx hb d_Mo_compact_270 (by decide) ?_
      refine lv_topi (fun v35 e36 => ?_)
      obtain rfl : v35 = nI 0 := e36.trans (by decide)
      refine lv_istore_n (lv' := [(3, .int (nI 0)), (2, .int 1), (0, .ref mo), (1, .int (nI 200))]) hx hb d_Mo_compact_271 rfl hl (by decide) rfl (fun ls hl => ?_)
      refine hm_loop (fun k ls H locs hh => ∃ (k7 : Nat) (g4 : Nat → Int32), k = 200 - k7 ∧ lv_has ls 4 [(3, .int (nI k7)), (0, .ref mo)] ∧ hm D vwCl G hh H ∧ s.heap.size ≤ H.size ∧ hLc G.P locs ∧ hh mo = some (.inr (9, [.int 0, .int (nI n), .int (nI 200), .ref aBy, .ref aSt, .ref aDe, .int 0, .int (-1), .int wt9, .ref aPa, .int 1, .ref aIt, .ref aId, .ref aPr, .ref aNa, .ref aSi, .ref aSe, .ref aIw, .ref aEx, .ref aOl, .int 0, .ref aPl, .int 1, .int 0, .ref aTa, .ref aAt, .ref aLo, .int 0, .int 0, .ref aS1, .ref aS2, .ref aS3, .ref aS4, .ref aS5, .ref aS6, .int 0, .ref aO1, .ref aO2, .ref aO3, .ref aO4, .ref aO5])) ∧ hh aDe = some (.inl ((t 1), 200, .inl g4)) ∧ (k7 ≤ 200)) ?_ (hh := h33) ⟨0, gDe, rfl, (lv_sub hl [0, 2] rfl), hH, hz, hLo, f_m, f_aDe, by omega⟩
      rintro k ls H locs hh ⟨k7, g4, hk, hl, hH, hz, hLo, f_m, f_aDe, hk7⟩ ih
      refine lv_iload_n hx hb d_Mo_compact_272 rfl (lv_at hl 0 rfl) ?_
      refine lv_sipush (v := 200) hx hb d_Mo_compact_273 (by decide) ?_
      refine lv_icmp_ge (tgt := 292) hx hb d_Mo_compact_276 (by decide) (fun hc37 => ?_) (fun hc37 => ?_)
      · skip
        refine lv_aload_n hx hb d_Mo_compact_292 rfl (lv_at hl 1 rfl) ?_
        refine lv_iconst (v := 1) hx hb d_Mo_compact_293 (by decide) ?_
        refine hm_put (ci := 9) (v := .int 1) (ty := .int) (C := R_Mo) (T := F_Mo) (N := 41) hx hb hts ig_Mo t_Mo tk_Mo nm_Mo hown hK hH hLo f_m rfl 20 (by decide) (hts _ mw_487) (fun _ h9 => h9) rfl (by decide +kernel) rfl rfl (Nat.le_of_ble_eq_true rfl) d_Mo_compact_294 (fun H38 locs hH z39 hLo => ?_)
        have hz : s.heap.size ≤ H38.size := by rw [z39]; exact hz
        obtain ⟨h40, e41⟩ : ∃ z, z = hu hh mo (.inr (9, [.int 0, .int (nI n), .int (nI 200), .ref aBy, .ref aSt, .ref aDe, .int 0, .int (-1), .int wt9, .ref aPa, .int 1, .ref aIt, .ref aId, .ref aPr, .ref aNa, .ref aSi, .ref aSe, .ref aIw, .ref aEx, .ref aOl, .int 1, .ref aPl, .int 1, .int 0, .ref aTa, .ref aAt, .ref aLo, .int 0, .int 0, .ref aS1, .ref aS2, .ref aS3, .ref aS4, .ref aS5, .ref aS6, .int 0, .ref aO1, .ref aO2, .ref aO3, .ref aO4, .ref aO5])) := ⟨_, rfl⟩
        have hH : hm D vwCl G h40 H38 := by rw [e41]; exact hH
        have f_aDe : h40 aDe = some (.inl ((t 1), 200, .inl g4)) := by rw [e41, hu_n (h_neA f_aDe f_m)]; exact f_aDe
        have f_m : h40 mo = some (.inr (9, [.int 0, .int (nI n), .int (nI 200), .ref aBy, .ref aSt, .ref aDe, .int 0, .int (-1), .int wt9, .ref aPa, .int 1, .ref aIt, .ref aId, .ref aPr, .ref aNa, .ref aSi, .ref aSe, .ref aIw, .ref aEx, .ref aOl, .int 1, .ref aPl, .int 1, .int 0, .ref aTa, .ref aAt, .ref aLo, .int 0, .int 0, .ref aS1, .ref aS2, .ref aS3, .ref aS4, .ref aS5, .ref aS6, .int 0, .ref aO1, .ref aO2, .ref aO3, .ref aO4, .ref aO5])) := by rw [e41]; exact hu_s _ _ _
        refine lv_aload_n hx hb d_Mo_compact_297 rfl (lv_at hl 1 rfl) ?_
        refine lv_iconst (v := 0) hx hb d_Mo_compact_298 (by decide) ?_
        refine hm_put (ci := 9) (v := .int 0) (ty := .int) (C := R_Mo) (T := F_Mo) (N := 41) hx hb hts ig_Mo t_Mo tk_Mo nm_Mo hown hK hH hLo f_m rfl 35 (by decide) (hts _ mw_486) (fun _ h9 => h9) rfl (by decide +kernel) rfl rfl (Nat.le_of_ble_eq_true rfl) d_Mo_compact_299 (fun H42 locs hH z43 hLo => ?_)
        have hz : s.heap.size ≤ H42.size := by rw [z43]; exact hz
        obtain ⟨h44, e45⟩ : ∃ z, z = hu h40 mo (.inr (9, [.int 0, .int (nI n), .int (nI 200), .ref aBy, .ref aSt, .ref aDe, .int 0, .int (-1), .int wt9, .ref aPa, .int 1, .ref aIt, .ref aId, .ref aPr, .ref aNa, .ref aSi, .ref aSe, .ref aIw, .ref aEx, .ref aOl, .int 1, .ref aPl, .int 1, .int 0, .ref aTa, .ref aAt, .ref aLo, .int 0, .int 0, .ref aS1, .ref aS2, .ref aS3, .ref aS4, .ref aS5, .ref aS6, .int 0, .ref aO1, .ref aO2, .ref aO3, .ref aO4, .ref aO5])) := ⟨_, rfl⟩
        have hH : hm D vwCl G h44 H42 := by rw [e45]; exact hH
        have f_aDe : h44 aDe = some (.inl ((t 1), 200, .inl g4)) := by rw [e45, hu_n (h_neA f_aDe f_m)]; exact f_aDe
        have f_m : h44 mo = some (.inr (9, [.int 0, .int (nI n), .int (nI 200), .ref aBy, .ref aSt, .ref aDe, .int 0, .int (-1), .int wt9, .ref aPa, .int 1, .ref aIt, .ref aId, .ref aPr, .ref aNa, .ref aSi, .ref aSe, .ref aIw, .ref aEx, .ref aOl, .int 1, .ref aPl, .int 1, .int 0, .ref aTa, .ref aAt, .ref aLo, .int 0, .int 0, .ref aS1, .ref aS2, .ref aS3, .ref aS4, .ref aS5, .ref aS6, .int 0, .ref aO1, .ref aO2, .ref aO3, .ref aO4, .ref aO5])) := by rw [e45]; exact hu_s _ _ _
        refine lv_iconst (v := 1) hx hb d_Mo_compact_302 (by decide) ?_
        exact W.iret (v := 1) hx hb hr (fun t9 ht hW => ⟨1, h44, rfl, rfl, by rw [ht]; exact hH, by rw [ht]; exact hz⟩) hLo d_Mo_compact_303
      · skip
        have hk1 : k7 < 200 := (nI_ltI (by omega) (by omega)).mp (Int32.not_le.mp hc37)
        refine lv_aload_n hx hb d_Mo_compact_279 rfl (lv_at hl 1 rfl) ?_
        refine hm_get (ci := 9) (v := .ref aDe) (C := R_Mo) (T := F_Mo) (N := 41) hx hb hts ig_Mo hown hK hH f_m rfl 5 (by decide) (hts _ mw_403) (fun _ h9 => h9) rfl d_Mo_compact_280 ?_
        refine lv_iload_n hx hb d_Mo_compact_283 rfl (lv_at hl 0 rfl) ?_
        refine lv_iconst (v := 0) hx hb d_Mo_compact_284 (by decide) ?_
        refine hj_zast hx hb hK hH hLo 1 f_aDe rfl k7 rfl (by omega) (by decide) d_Mo_compact_285 (fun H46 locs hH z47 hLo => ?_)
        have hz : s.heap.size ≤ H46.size := by rw [z47]; exact hz
        obtain ⟨h48, e49⟩ : ∃ z, z = hu hh aDe (.inl ((t 1), 200, .inl (upd g4 k7 (vp_nar .boolean 0)))) := ⟨_, rfl⟩
        have hH : hm D vwCl G h48 H46 := by rw [e49]; exact hH
        have f_m : h48 mo = some (.inr (9, [.int 0, .int (nI n), .int (nI 200), .ref aBy, .ref aSt, .ref aDe, .int 0, .int (-1), .int wt9, .ref aPa, .int 1, .ref aIt, .ref aId, .ref aPr, .ref aNa, .ref aSi, .ref aSe, .ref aIw, .ref aEx, .ref aOl, .int 0, .ref aPl, .int 1, .int 0, .ref aTa, .ref aAt, .ref aLo, .int 0, .int 0, .ref aS1, .ref aS2, .ref aS3, .ref aS4, .ref aS5, .ref aS6, .int 0, .ref aO1, .ref aO2, .ref aO3, .ref aO4, .ref aO5])) := by rw [e49, hu_n (Ne.symm (h_neA f_aDe f_m))]; exact f_m
        have f_aDe : h48 aDe = some (.inl ((t 1), 200, .inl (upd g4 k7 (vp_nar .boolean 0)))) := by rw [e49]; exact hu_s _ _ _
        refine lv_iinc (v := nI (k7 + 1)) (lv' := [(3, .int (nI (k7 + 1))), (0, .ref mo)]) hx hb d_Mo_compact_286 hl (k := 0) rfl (nI_1 k7) (by decide) rfl (fun ls hl => ?_)
        refine lv_goto (tgt := 272) hx hb d_Mo_compact_289 (by decide) ?_
        exact ih (200 - (k7 + 1)) ls _ locs _ (by rw [hk]; omega) ⟨(k7 + 1), _, rfl, (lv_sub hl [0, 1] rfl), hH, hz, hLo, f_m, f_aDe, by omega⟩
    · skip
      have hk1 : k8 < 409600 := (nI_ltI (by omega) (by omega)).mp (Int32.not_le.mp hc15)
      refine lv_aload_n hx hb d_Mo_compact_56 rfl (lv_at hl 1 rfl) ?_
      refine hm_get (ci := 9) (v := .ref aBy) (C := R_Mo) (T := F_Mo) (N := 41) hx hb hts ig_Mo hown hK hH f_m rfl 3 (by decide) (hts _ mw_400) (fun _ h9 => h9) rfl d_Mo_compact_57 ?_
      refine lv_sipush (v := 2048) hx hb d_Mo_compact_60 (by decide) ?_
      refine lv_iload_n hx hb d_Mo_compact_63 rfl (lv_at hl 2 rfl) ?_
      refine lv_imul hx hb d_Mo_compact_64 ?_
      refine lv_iload_n hx hb d_Mo_compact_65 rfl (lv_at hl 0 rfl) ?_
      refine lv_iadd hx hb d_Mo_compact_66 ?_
      refine lv_iconst (v := 0) hx hb d_Mo_compact_67 (by decide) ?_
      refine hj_bast hx hb hK hH hLo 0 f_aBy rfl (409600 + k8) (ix7 _) (by omega) (by decide) d_Mo_compact_68 (fun H50 locs hH z51 hLo => ?_)
      have hz : s.heap.size ≤ H50.size := by rw [z51]; exact hz
      obtain ⟨h52, e53⟩ : ∃ z, z = hu hh aBy (.inl ((t 0), 819200, .inl (upd g8 (409600 + k8) (vp_nar .byte 0)))) := ⟨_, rfl⟩
      have hH : hm D vwCl G h52 H50 := by rw [e53]; exact hH
      have f_m : h52 mo = some (.inr (9, [.int 0, .int (nI n), .int 0, .ref aBy, .ref aSt, .ref aDe, .int 0, .int (-1), .int 0, .ref aPa, .int 1, .ref aIt, .ref aId, .ref aPr, .ref aNa, .ref aSi, .ref aSe, .ref aIw, .ref aEx, .ref aOl, .int 0, .ref aPl, .int 0, .int 0, .ref aTa, .ref aAt, .ref aLo, .int 0, .int 0, .ref aS1, .ref aS2, .ref aS3, .ref aS4, .ref aS5, .ref aS6, .int 0, .ref aO1, .ref aO2, .ref aO3, .ref aO4, .ref aO5])) := by rw [e53, hu_n (Ne.symm (h_neA f_aBy f_m))]; exact f_m
      have f_aSt : h52 aSt = some (.inl ((t 0), 400, .inl g7)) := by rw [e53, hu_n (h_neL (k1 := 400) (k2 := 819200) f_aSt f_aBy rfl rfl (by omega))]; exact f_aSt
      have f_aPa : h52 aPa = some (.inl ((t 0), 2048, .inl gPa)) := by rw [e53, hu_n (h_neL (k1 := 2048) (k2 := 819200) f_aPa f_aBy rfl rfl (by omega))]; exact f_aPa
      have f_aDe : h52 aDe = some (.inl ((t 1), 200, .inl gDe)) := by rw [e53, hu_n (h_neL (k1 := 200) (k2 := 819200) f_aDe f_aBy rfl rfl (by omega))]; exact f_aDe
      have f_aPl : h52 aPl = some (.inl ((t 0), 163840, .inl gPl)) := by rw [e53, hu_n (h_neL (k1 := 163840) (k2 := 819200) f_aPl f_aBy rfl rfl (by omega))]; exact f_aPl
      have f_aId : h52 aId = some (.inl ((t 1), 700, .inl gId)) := by rw [e53, hu_n (h_neL (k1 := 700) (k2 := 819200) f_aId f_aBy rfl rfl (by omega))]; exact f_aId
      have f_aTa : h52 aTa = some (.inl ((t 2), 30, .inl gTa)) := by rw [e53, hu_n (h_neL (k1 := 30) (k2 := 819200) f_aTa f_aBy rfl rfl (by omega))]; exact f_aTa
      have f_aAt : h52 aAt = some (.inl ((t 2), 700, .inl gAt)) := by rw [e53, hu_n (h_neL (k1 := 700) (k2 := 819200) f_aAt f_aBy rfl rfl (by omega))]; exact f_aAt
      have f_aLo : h52 aLo = some (.inl ((t 2), 700, .inl gLo)) := by rw [e53, hu_n (h_neL (k1 := 700) (k2 := 819200) f_aLo f_aBy rfl rfl (by omega))]; exact f_aLo
      have f_aEx : h52 aEx = some (.inl ((t 2), 700, .inl gEx)) := by rw [e53, hu_n (h_neL (k1 := 700) (k2 := 819200) f_aEx f_aBy rfl rfl (by omega))]; exact f_aEx
      have f_aOl : h52 aOl = some (.inl ((t 2), 700, .inl gOl)) := by rw [e53, hu_n (h_neL (k1 := 700) (k2 := 819200) f_aOl f_aBy rfl rfl (by omega))]; exact f_aOl
      have f_aBy : h52 aBy = some (.inl ((t 0), 819200, .inl (upd g8 (409600 + k8) (vp_nar .byte 0)))) := by rw [e53]; exact hu_s _ _ _
      refine lv_iinc (v := nI (k8 + 1)) (lv' := [(2, .int (nI (k8 + 1))), (0, .ref mo), (1, .int (nI 200))]) hx hb d_Mo_compact_69 hl (k := 0) rfl (nI_1 k8) (by decide) rfl (fun ls hl => ?_)
      refine lv_goto (tgt := 50) hx hb d_Mo_compact_72 (by decide) ?_
      exact ih (409600 - (k8 + 1)) ls _ locs _ (by rw [hk]; omega) ⟨(k8 + 1), _, rfl, (lv_sub hl [0, 1, 2] rfl), hH, hz, hLo, f_m, f_aSt, f_aBy, f_aPa, f_aDe, f_aPl, f_aId, f_aTa, f_aAt, f_aLo, f_aEx, f_aOl, by omega⟩
  · skip
    have hk1 : k9 < 200 := (nI_ltI (by omega) (by omega)).mp (Int32.not_le.mp hc10)
    refine lv_aload_n hx hb d_Mo_compact_33 rfl (lv_at hl 1 rfl) ?_
    refine hm_get (ci := 9) (v := .ref aSt) (C := R_Mo) (T := F_Mo) (N := 41) hx hb hts ig_Mo hown hK hH f_m rfl 4 (by decide) (hts _ mw_401) (fun _ h9 => h9) rfl d_Mo_compact_34 ?_
    refine lv_iload_n hx hb d_Mo_compact_37 rfl (lv_at hl 2 rfl) ?_
    refine lv_iload_n hx hb d_Mo_compact_38 rfl (lv_at hl 0 rfl) ?_
    refine lv_iadd hx hb d_Mo_compact_39 ?_
    refine lv_iconst (v := 0) hx hb d_Mo_compact_40 (by decide) ?_
    refine hj_bast hx hb hK hH hLo 0 f_aSt rfl (200 + k9) (nI_add _ _) (by omega) (by decide) d_Mo_compact_41 (fun H54 locs hH z55 hLo => ?_)
    have hz : s.heap.size ≤ H54.size := by rw [z55]; exact hz
    obtain ⟨h56, e57⟩ : ∃ z, z = hu hh aSt (.inl ((t 0), 400, .inl (upd g7 (200 + k9) (vp_nar .byte 0)))) := ⟨_, rfl⟩
    have hH : hm D vwCl G h56 H54 := by rw [e57]; exact hH
    have f_m : h56 mo = some (.inr (9, [.int 0, .int (nI n), .int 0, .ref aBy, .ref aSt, .ref aDe, .int 0, .int (-1), .int 0, .ref aPa, .int 1, .ref aIt, .ref aId, .ref aPr, .ref aNa, .ref aSi, .ref aSe, .ref aIw, .ref aEx, .ref aOl, .int 0, .ref aPl, .int 0, .int 0, .ref aTa, .ref aAt, .ref aLo, .int 0, .int 0, .ref aS1, .ref aS2, .ref aS3, .ref aS4, .ref aS5, .ref aS6, .int 0, .ref aO1, .ref aO2, .ref aO3, .ref aO4, .ref aO5])) := by rw [e57, hu_n (Ne.symm (h_neA f_aSt f_m))]; exact f_m
    have f_aBy : h56 aBy = some (.inl ((t 0), 819200, .inl gBy)) := by rw [e57, hu_n (h_neL (k1 := 819200) (k2 := 400) f_aBy f_aSt rfl rfl (by omega))]; exact f_aBy
    have f_aPa : h56 aPa = some (.inl ((t 0), 2048, .inl gPa)) := by rw [e57, hu_n (h_neL (k1 := 2048) (k2 := 400) f_aPa f_aSt rfl rfl (by omega))]; exact f_aPa
    have f_aDe : h56 aDe = some (.inl ((t 1), 200, .inl gDe)) := by rw [e57, hu_n (h_neL (k1 := 200) (k2 := 400) f_aDe f_aSt rfl rfl (by omega))]; exact f_aDe
    have f_aPl : h56 aPl = some (.inl ((t 0), 163840, .inl gPl)) := by rw [e57, hu_n (h_neL (k1 := 163840) (k2 := 400) f_aPl f_aSt rfl rfl (by omega))]; exact f_aPl
    have f_aId : h56 aId = some (.inl ((t 1), 700, .inl gId)) := by rw [e57, hu_n (h_neL (k1 := 700) (k2 := 400) f_aId f_aSt rfl rfl (by omega))]; exact f_aId
    have f_aTa : h56 aTa = some (.inl ((t 2), 30, .inl gTa)) := by rw [e57, hu_n (h_neL (k1 := 30) (k2 := 400) f_aTa f_aSt rfl rfl (by omega))]; exact f_aTa
    have f_aAt : h56 aAt = some (.inl ((t 2), 700, .inl gAt)) := by rw [e57, hu_n (h_neL (k1 := 700) (k2 := 400) f_aAt f_aSt rfl rfl (by omega))]; exact f_aAt
    have f_aLo : h56 aLo = some (.inl ((t 2), 700, .inl gLo)) := by rw [e57, hu_n (h_neL (k1 := 700) (k2 := 400) f_aLo f_aSt rfl rfl (by omega))]; exact f_aLo
    have f_aEx : h56 aEx = some (.inl ((t 2), 700, .inl gEx)) := by rw [e57, hu_n (h_neL (k1 := 700) (k2 := 400) f_aEx f_aSt rfl rfl (by omega))]; exact f_aEx
    have f_aOl : h56 aOl = some (.inl ((t 2), 700, .inl gOl)) := by rw [e57, hu_n (h_neL (k1 := 700) (k2 := 400) f_aOl f_aSt rfl rfl (by omega))]; exact f_aOl
    have f_aSt : h56 aSt = some (.inl ((t 0), 400, .inl (upd g7 (200 + k9) (vp_nar .byte 0)))) := by rw [e57]; exact hu_s _ _ _
    refine lv_iinc (v := nI (k9 + 1)) (lv' := [(2, .int (nI (k9 + 1))), (0, .ref mo), (1, .int (nI 200))]) hx hb d_Mo_compact_42 hl (k := 0) rfl (nI_1 k9) (by decide) rfl (fun ls hl => ?_)
    refine lv_goto (tgt := 26) hx hb d_Mo_compact_45 (by decide) ?_
    exact ih (200 - (k9 + 1)) ls _ locs _ (by rw [hk]; omega) ⟨(k9 + 1), _, rfl, (lv_sub hl [0, 1, 2] rfl), hH, hz, hLo, f_m, f_aSt, f_aBy, f_aPa, f_aDe, f_aPl, f_aId, f_aTa, f_aAt, f_aLo, f_aEx, f_aOl, by omega, upd_z hz9 _ (by decide)⟩
