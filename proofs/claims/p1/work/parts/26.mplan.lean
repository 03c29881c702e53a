set_option maxRecDepth 100000 in
theorem mw_488 : Cond.code y_Mo_low b_Mo_low 5 none ∈ lw_g := lw_gin (List.mem_append_right _ (List.mem_of_getElem? (i := 1193) rfl)) (by decide +kernel)
set_option maxRecDepth 100000 in
theorem mw_489 : Cond.methodLink R_Mo 181 y_Mo_low ∈ lw_g := lw_gin (List.mem_append_right _ (List.mem_of_getElem? (i := 1190) rfl)) (by decide +kernel)
set_option maxRecDepth 100000 in
theorem mw_490 : Cond.instanceMethod y_Mo_low ∈ lw_g := lw_gin (List.mem_append_right _ (List.mem_of_getElem? (i := 1192) rfl)) (by decide +kernel)
set_option maxRecDepth 100000 in
theorem mw_491 : Cond.selects R_Mo y_Mo_low y_Mo_low ∈ lw_g := lw_gin (List.mem_append_left _ (List.mem_of_getElem? (i := 47) rfl)) (by decide +kernel)
set_option maxRecDepth 100000 in
theorem mw_492 : Cond.code y_Mo_high b_Mo_high 5 none ∈ lw_g := lw_gin (List.mem_append_right _ (List.mem_of_getElem? (i := 1197) rfl)) (by decide +kernel)
set_option maxRecDepth 100000 in
theorem mw_493 : Cond.methodLink R_Mo 185 y_Mo_high ∈ lw_g := lw_gin (List.mem_append_right _ (List.mem_of_getElem? (i := 1194) rfl)) (by decide +kernel)
set_option maxRecDepth 100000 in
theorem mw_494 : Cond.instanceMethod y_Mo_high ∈ lw_g := lw_gin (List.mem_append_right _ (List.mem_of_getElem? (i := 1196) rfl)) (by decide +kernel)
set_option maxRecDepth 100000 in
theorem mw_495 : Cond.selects R_Mo y_Mo_high y_Mo_high ∈ lw_g := lw_gin (List.mem_append_left _ (List.mem_of_getElem? (i := 48) rfl)) (by decide +kernel)
set_option maxRecDepth 100000 in
theorem mw_496 : Cond.code y_Mo_recordId b_Mo_recordId 3 (some .int) ∈ lw_g := lw_gin (List.mem_append_right _ (List.mem_of_getElem? (i := 1175) rfl)) (by decide +kernel)
set_option maxRecDepth 100000 in
theorem mw_497 : Cond.methodLink R_Mo 192 y_Mo_recordId ∈ lw_g := lw_gin (List.mem_append_right _ (List.mem_of_getElem? (i := 1172) rfl)) (by decide +kernel)
set_option maxRecDepth 100000 in
theorem mw_498 : Cond.instanceMethod y_Mo_recordId ∈ lw_g := lw_gin (List.mem_append_right _ (List.mem_of_getElem? (i := 1174) rfl)) (by decide +kernel)
set_option maxRecDepth 100000 in
theorem mw_499 : Cond.selects R_Mo y_Mo_recordId y_Mo_recordId ∈ lw_g := lw_gin (List.mem_append_left _ (List.mem_of_getElem? (i := 44) rfl)) (by decide +kernel)
set_option maxRecDepth 100000 in
theorem mw_500 : Cond.code y_Mo_even b_Mo_even 1 (some .int) ∈ lw_g := lw_gin (List.mem_append_right _ (List.mem_of_getElem? (i := 1181) rfl)) (by decide +kernel)
set_option maxRecDepth 100000 in
theorem mw_501 : Cond.methodLink R_Mo 196 y_Mo_even ∈ lw_g := lw_gin (List.mem_append_right _ (List.mem_of_getElem? (i := 1179) rfl)) (by decide +kernel)
set_option maxRecDepth 100000 in
theorem mw_502 : Cond.static y_Mo_even ∈ lw_g := lw_gin (List.mem_append_right _ (List.mem_of_getElem? (i := 1180) rfl)) (by decide +kernel)
set_option maxRecDepth 100000 in
theorem mw_503 : Cond.code y_Mo_both b_Mo_both 4 none ∈ lw_g := lw_gin (List.mem_append_right _ (List.mem_of_getElem? (i := 1189) rfl)) (by decide +kernel)
set_option maxRecDepth 100000 in
theorem mw_504 : Cond.methodLink R_Mo 199 y_Mo_both ∈ lw_g := lw_gin (List.mem_append_right _ (List.mem_of_getElem? (i := 1186) rfl)) (by decide +kernel)
set_option maxRecDepth 100000 in
theorem mw_505 : Cond.instanceMethod y_Mo_both ∈ lw_g := lw_gin (List.mem_append_right _ (List.mem_of_getElem? (i := 1188) rfl)) (by decide +kernel)
set_option maxRecDepth 100000 in
theorem mw_506 : Cond.selects R_Mo y_Mo_both y_Mo_both ∈ lw_g := lw_gin (List.mem_append_left _ (List.mem_of_getElem? (i := 46) rfl)) (by decide +kernel)
set_option maxRecDepth 100000 in
theorem mw_507 : Cond.code y_Mo_next b_Mo_next 5 (some .int) ∈ lw_g := lw_gin (List.mem_append_right _ (List.mem_of_getElem? (i := 1155) rfl)) (by decide +kernel)
set_option maxRecDepth 100000 in
theorem mw_508 : Cond.methodLink R_Mo 202 y_Mo_next ∈ lw_g := lw_gin (List.mem_append_right _ (List.mem_of_getElem? (i := 1152) rfl)) (by decide +kernel)
set_option maxRecDepth 100000 in
theorem mw_509 : Cond.instanceMethod y_Mo_next ∈ lw_g := lw_gin (List.mem_append_right _ (List.mem_of_getElem? (i := 1154) rfl)) (by decide +kernel)
set_option maxRecDepth 100000 in
theorem mw_510 : Cond.selects R_Mo y_Mo_next y_Mo_next ∈ lw_g := lw_gin (List.mem_append_left _ (List.mem_of_getElem? (i := 42) rfl)) (by decide +kernel)
set_option maxRecDepth 100000 in
theorem mw_511 : Cond.code y_Mo_record b_Mo_record 6 none ∈ lw_g := lw_gin (List.mem_append_right _ (List.mem_of_getElem? (i := 1185) rfl)) (by decide +kernel)
set_option maxRecDepth 100000 in
theorem mw_512 : Cond.methodLink R_Mo 205 y_Mo_record ∈ lw_g := lw_gin (List.mem_append_right _ (List.mem_of_getElem? (i := 1182) rfl)) (by decide +kernel)
set_option maxRecDepth 100000 in
theorem mw_513 : Cond.instanceMethod y_Mo_record ∈ lw_g := lw_gin (List.mem_append_right _ (List.mem_of_getElem? (i := 1184) rfl)) (by decide +kernel)
set_option maxRecDepth 100000 in
theorem mw_514 : Cond.selects R_Mo y_Mo_record y_Mo_record ∈ lw_g := lw_gin (List.mem_append_left _ (List.mem_of_getElem? (i := 45) rfl)) (by decide +kernel)
set_option maxRecDepth 100000 in
theorem mw_515 : Cond.fieldLink R_Mo 208 "WriteOnceDiscModel" "directories" "I" ∈ lw_g := lw_gin (List.mem_append_right _ (List.mem_of_getElem? (i := 939) rfl)) (by decide +kernel)
set_option maxRecDepth 100000 in
theorem mw_516 : Cond.code y_Mo_tables b_Mo_tables 3 none ∈ lw_g := lw_gin (List.mem_append_right _ (List.mem_of_getElem? (i := 1151) rfl)) (by decide +kernel)
set_option maxRecDepth 100000 in
theorem mw_517 : Cond.methodLink R_Mo 211 y_Mo_tables ∈ lw_g := lw_gin (List.mem_append_right _ (List.mem_of_getElem? (i := 1148) rfl)) (by decide +kernel)
set_option maxRecDepth 100000 in
theorem mw_518 : Cond.instanceMethod y_Mo_tables ∈ lw_g := lw_gin (List.mem_append_right _ (List.mem_of_getElem? (i := 1150) rfl)) (by decide +kernel)
set_option maxRecDepth 100000 in
theorem mw_519 : Cond.selects R_Mo y_Mo_tables y_Mo_tables ∈ lw_g := lw_gin (List.mem_append_left _ (List.mem_of_getElem? (i := 41) rfl)) (by decide +kernel)
set_option maxRecDepth 100000 in
theorem mw_520 : Cond.code y_Mo_along b_Mo_along 9 (some .int) ∈ lw_g := lw_gin (List.mem_append_right _ (List.mem_of_getElem? (i := 1171) rfl)) (by decide +kernel)
set_option maxRecDepth 100000 in
theorem mw_521 : Cond.methodLink R_Mo 214 y_Mo_along ∈ lw_g := lw_gin (List.mem_append_right _ (List.mem_of_getElem? (i := 1168) rfl)) (by decide +kernel)
set_option maxRecDepth 100000 in
theorem mw_522 : Cond.instanceMethod y_Mo_along ∈ lw_g := lw_gin (List.mem_append_right _ (List.mem_of_getElem? (i := 1170) rfl)) (by decide +kernel)
set_option maxRecDepth 100000 in
theorem mw_523 : Cond.selects R_Mo y_Mo_along y_Mo_along ∈ lw_g := lw_gin (List.mem_append_left _ (List.mem_of_getElem? (i := 43) rfl)) (by decide +kernel)
theorem d_Mo_low_0 : decode b_Mo_low 0 = .ok (.iconst 0, 1) := by decide +kernel
theorem d_Mo_low_1 : decode b_Mo_low 1 = .ok (.istore 4, 2) := by decide +kernel
theorem d_Mo_low_3 : decode b_Mo_low 3 = .ok (.iload 4, 2) := by decide +kernel
theorem d_Mo_low_5 : decode b_Mo_low 5 = .ok (.iload_n 2, 1) := by decide +kernel
theorem d_Mo_low_6 : decode b_Mo_low 6 = .ok (.if_icmp .ge 26, 3) := by decide +kernel
theorem d_Mo_low_32 : decode b_Mo_low 32 = .ok (.return_, 1) := by decide +kernel
theorem d_Mo_low_9 : decode b_Mo_low 9 = .ok (.aload_n 0, 1) := by decide +kernel
theorem d_Mo_low_10 : decode b_Mo_low 10 = .ok (.getfield 54, 3) := by decide +kernel
theorem d_Mo_low_13 : decode b_Mo_low 13 = .ok (.iload_n 1, 1) := by decide +kernel
theorem d_Mo_low_14 : decode b_Mo_low 14 = .ok (.iload 4, 2) := by decide +kernel
theorem d_Mo_low_16 : decode b_Mo_low 16 = .ok (.iadd, 1) := by decide +kernel
theorem d_Mo_low_17 : decode b_Mo_low 17 = .ok (.iload_n 3, 1) := by decide +kernel
theorem d_Mo_low_18 : decode b_Mo_low 18 = .ok (.bipush 8, 2) := by decide +kernel
theorem d_Mo_low_20 : decode b_Mo_low 20 = .ok (.iload 4, 2) := by decide +kernel
theorem d_Mo_low_22 : decode b_Mo_low 22 = .ok (.imul, 1) := by decide +kernel
theorem d_Mo_low_23 : decode b_Mo_low 23 = .ok (.ishr, 1) := by decide +kernel
theorem d_Mo_low_24 : decode b_Mo_low 24 = .ok (.i2b, 1) := by decide +kernel
theorem d_Mo_low_25 : decode b_Mo_low 25 = .ok (.bastore, 1) := by decide +kernel
theorem d_Mo_low_26 : decode b_Mo_low 26 = .ok (.iinc 4 1, 3) := by decide +kernel
theorem d_Mo_low_29 : decode b_Mo_low 29 = .ok (.goto (-26), 3) := by decide +kernel
theorem d_Mo_high_0 : decode b_Mo_high 0 = .ok (.iconst 0, 1) := by decide +kernel
theorem d_Mo_high_1 : decode b_Mo_high 1 = .ok (.istore 4, 2) := by decide +kernel
theorem d_Mo_high_3 : decode b_Mo_high 3 = .ok (.iload 4, 2) := by decide +kernel
theorem d_Mo_high_5 : decode b_Mo_high 5 = .ok (.iload_n 2, 1) := by decide +kernel
theorem d_Mo_high_6 : decode b_Mo_high 6 = .ok (.if_icmp .ge 30, 3) := by decide +kernel
theorem d_Mo_high_36 : decode b_Mo_high 36 = .ok (.return_, 1) := by decide +kernel
theorem d_Mo_high_9 : decode b_Mo_high 9 = .ok (.aload_n 0, 1) := by decide +kernel
theorem d_Mo_high_10 : decode b_Mo_high 10 = .ok (.getfield 54, 3) := by decide +kernel
theorem d_Mo_high_13 : decode b_Mo_high 13 = .ok (.iload_n 1, 1) := by decide +kernel
theorem d_Mo_high_14 : decode b_Mo_high 14 = .ok (.iload 4, 2) := by decide +kernel
theorem d_Mo_high_16 : decode b_Mo_high 16 = .ok (.iadd, 1) := by decide +kernel
theorem d_Mo_high_17 : decode b_Mo_high 17 = .ok (.iload_n 3, 1) := by decide +kernel
theorem d_Mo_high_18 : decode b_Mo_high 18 = .ok (.bipush 8, 2) := by decide +kernel
theorem d_Mo_high_20 : decode b_Mo_high 20 = .ok (.iload_n 2, 1) := by decide +kernel
theorem d_Mo_high_21 : decode b_Mo_high 21 = .ok (.iconst 1, 1) := by decide +kernel
theorem d_Mo_high_22 : decode b_Mo_high 22 = .ok (.isub, 1) := by decide +kernel
theorem d_Mo_high_23 : decode b_Mo_high 23 = .ok (.iload 4, 2) := by decide +kernel
theorem d_Mo_high_25 : decode b_Mo_high 25 = .ok (.isub, 1) := by decide +kernel
theorem d_Mo_high_26 : decode b_Mo_high 26 = .ok (.imul, 1) := by decide +kernel
theorem d_Mo_high_27 : decode b_Mo_high 27 = .ok (.ishr, 1) := by decide +kernel
theorem d_Mo_high_28 : decode b_Mo_high 28 = .ok (.i2b, 1) := by decide +kernel
theorem d_Mo_high_29 : decode b_Mo_high 29 = .ok (.bastore, 1) := by decide +kernel
theorem d_Mo_high_30 : decode b_Mo_high 30 = .ok (.iinc 4 1, 3) := by decide +kernel
theorem d_Mo_high_33 : decode b_Mo_high 33 = .ok (.goto (-30), 3) := by decide +kernel
theorem d_Mo_both_0 : decode b_Mo_both 0 = .ok (.aload_n 0, 1) := by decide +kernel
theorem d_Mo_both_1 : decode b_Mo_both 1 = .ok (.iload_n 1, 1) := by decide +kernel
theorem d_Mo_both_2 : decode b_Mo_both 2 = .ok (.iload_n 2, 1) := by decide +kernel
theorem d_Mo_both_3 : decode b_Mo_both 3 = .ok (.iload_n 3, 1) := by decide +kernel
theorem d_Mo_both_4 : decode b_Mo_both 4 = .ok (.invokevirtual 181, 3) := by decide +kernel
theorem d_Mo_both_7 : decode b_Mo_both 7 = .ok (.aload_n 0, 1) := by decide +kernel
theorem d_Mo_both_8 : decode b_Mo_both 8 = .ok (.iload_n 1, 1) := by decide +kernel
theorem d_Mo_both_9 : decode b_Mo_both 9 = .ok (.iload_n 2, 1) := by decide +kernel
theorem d_Mo_both_10 : decode b_Mo_both 10 = .ok (.iadd, 1) := by decide +kernel
theorem d_Mo_both_11 : decode b_Mo_both 11 = .ok (.iload_n 2, 1) := by decide +kernel
theorem d_Mo_both_12 : decode b_Mo_both 12 = .ok (.iload_n 3, 1) := by decide +kernel
theorem d_Mo_both_13 : decode b_Mo_both 13 = .ok (.invokevirtual 185, 3) := by decide +kernel
theorem d_Mo_both_16 : decode b_Mo_both 16 = .ok (.return_, 1) := by decide +kernel
theorem d_Mo_letters_0 : decode b_Mo_letters 0 = .ok (.aload_n 0, 1) := by decide +kernel
theorem d_Mo_letters_1 : decode b_Mo_letters 1 = .ok (.getfield 54, 3) := by decide +kernel
theorem d_Mo_letters_4 : decode b_Mo_letters 4 = .ok (.iload_n 1, 1) := by decide +kernel
theorem d_Mo_letters_5 : decode b_Mo_letters 5 = .ok (.iload_n 2, 1) := by decide +kernel
theorem d_Mo_letters_6 : decode b_Mo_letters 6 = .ok (.i2b, 1) := by decide +kernel
theorem d_Mo_letters_7 : decode b_Mo_letters 7 = .ok (.bastore, 1) := by decide +kernel
theorem d_Mo_letters_8 : decode b_Mo_letters 8 = .ok (.aload_n 0, 1) := by decide +kernel
theorem d_Mo_letters_9 : decode b_Mo_letters 9 = .ok (.getfield 54, 3) := by decide +kernel
theorem d_Mo_letters_12 : decode b_Mo_letters 12 = .ok (.iload_n 1, 1) := by decide +kernel
theorem d_Mo_letters_13 : decode b_Mo_letters 13 = .ok (.iconst 1, 1) := by decide +kernel
theorem d_Mo_letters_14 : decode b_Mo_letters 14 = .ok (.iadd, 1) := by decide +kernel
theorem d_Mo_letters_15 : decode b_Mo_letters 15 = .ok (.iload_n 3, 1) := by decide +kernel
theorem d_Mo_letters_16 : decode b_Mo_letters 16 = .ok (.i2b, 1) := by decide +kernel
theorem d_Mo_letters_17 : decode b_Mo_letters 17 = .ok (.bastore, 1) := by decide +kernel
theorem d_Mo_letters_18 : decode b_Mo_letters 18 = .ok (.aload_n 0, 1) := by decide +kernel
theorem d_Mo_letters_19 : decode b_Mo_letters 19 = .ok (.getfield 54, 3) := by decide +kernel
theorem d_Mo_letters_22 : decode b_Mo_letters 22 = .ok (.iload_n 1, 1) := by decide +kernel
theorem d_Mo_letters_23 : decode b_Mo_letters 23 = .ok (.iconst 2, 1) := by decide +kernel
theorem d_Mo_letters_24 : decode b_Mo_letters 24 = .ok (.iadd, 1) := by decide +kernel
theorem d_Mo_letters_25 : decode b_Mo_letters 25 = .ok (.iload 4, 2) := by decide +kernel
theorem d_Mo_letters_27 : decode b_Mo_letters 27 = .ok (.i2b, 1) := by decide +kernel
theorem d_Mo_letters_28 : decode b_Mo_letters 28 = .ok (.bastore, 1) := by decide +kernel
theorem d_Mo_letters_29 : decode b_Mo_letters 29 = .ok (.aload_n 0, 1) := by decide +kernel
theorem d_Mo_letters_30 : decode b_Mo_letters 30 = .ok (.getfield 54, 3) := by decide +kernel
theorem d_Mo_letters_33 : decode b_Mo_letters 33 = .ok (.iload_n 1, 1) := by decide +kernel
theorem d_Mo_letters_34 : decode b_Mo_letters 34 = .ok (.iconst 3, 1) := by decide +kernel
theorem d_Mo_letters_35 : decode b_Mo_letters 35 = .ok (.iadd, 1) := by decide +kernel
theorem d_Mo_letters_36 : decode b_Mo_letters 36 = .ok (.iload 5, 2) := by decide +kernel
theorem d_Mo_letters_38 : decode b_Mo_letters 38 = .ok (.i2b, 1) := by decide +kernel
theorem d_Mo_letters_39 : decode b_Mo_letters 39 = .ok (.bastore, 1) := by decide +kernel
theorem d_Mo_letters_40 : decode b_Mo_letters 40 = .ok (.aload_n 0, 1) := by decide +kernel
theorem d_Mo_letters_41 : decode b_Mo_letters 41 = .ok (.getfield 54, 3) := by decide +kernel
theorem d_Mo_letters_44 : decode b_Mo_letters 44 = .ok (.iload_n 1, 1) := by decide +kernel
theorem d_Mo_letters_45 : decode b_Mo_letters 45 = .ok (.iconst 4, 1) := by decide +kernel
theorem d_Mo_letters_46 : decode b_Mo_letters 46 = .ok (.iadd, 1) := by decide +kernel
theorem d_Mo_letters_47 : decode b_Mo_letters 47 = .ok (.iload 6, 2) := by decide +kernel
theorem d_Mo_letters_49 : decode b_Mo_letters 49 = .ok (.i2b, 1) := by decide +kernel
theorem d_Mo_letters_50 : decode b_Mo_letters 50 = .ok (.bastore, 1) := by decide +kernel
theorem d_Mo_letters_51 : decode b_Mo_letters 51 = .ok (.return_, 1) := by decide +kernel
theorem d_Mo_even_0 : decode b_Mo_even 0 = .ok (.iload_n 0, 1) := by decide +kernel
theorem d_Mo_even_1 : decode b_Mo_even 1 = .ok (.iload_n 0, 1) := by decide +kernel
theorem d_Mo_even_2 : decode b_Mo_even 2 = .ok (.iconst 2, 1) := by decide +kernel
theorem d_Mo_even_3 : decode b_Mo_even 3 = .ok (.irem, 1) := by decide +kernel
theorem d_Mo_even_4 : decode b_Mo_even 4 = .ok (.iadd, 1) := by decide +kernel
theorem d_Mo_even_5 : decode b_Mo_even 5 = .ok (.ireturn, 1) := by decide +kernel
theorem d_Mo_recordId_0 : decode b_Mo_recordId 0 = .ok (.iload_n 1, 1) := by decide +kernel
theorem d_Mo_recordId_1 : decode b_Mo_recordId 1 = .ok (.iconst 2, 1) := by decide +kernel
theorem d_Mo_recordId_2 : decode b_Mo_recordId 2 = .ok (.if_icmp .ge 7, 3) := by decide +kernel
theorem d_Mo_recordId_5 : decode b_Mo_recordId 5 = .ok (.iconst 1, 1) := by decide +kernel
theorem d_Mo_recordId_6 : decode b_Mo_recordId 6 = .ok (.goto 18, 3) := by decide +kernel
theorem d_Mo_recordId_24 : decode b_Mo_recordId 24 = .ok (.ireturn, 1) := by decide +kernel
theorem d_Mo_record_0 : decode b_Mo_record 0 = .ok (.aload_n 0, 1) := by decide +kernel
theorem d_Mo_record_1 : decode b_Mo_record 1 = .ok (.iload_n 2, 1) := by decide +kernel
theorem d_Mo_record_2 : decode b_Mo_record 2 = .ok (.iload_n 3, 1) := by decide +kernel
theorem d_Mo_record_3 : decode b_Mo_record 3 = .ok (.invokevirtual 192, 3) := by decide +kernel
theorem d_Mo_record_6 : decode b_Mo_record 6 = .ok (.istore 4, 2) := by decide +kernel
theorem d_Mo_record_8 : decode b_Mo_record 8 = .ok (.aload_n 0, 1) := by decide +kernel
theorem d_Mo_record_9 : decode b_Mo_record 9 = .ok (.getfield 54, 3) := by decide +kernel
theorem d_Mo_record_12 : decode b_Mo_record 12 = .ok (.iload_n 1, 1) := by decide +kernel
theorem d_Mo_record_13 : decode b_Mo_record 13 = .ok (.bipush 33, 2) := by decide +kernel
theorem d_Mo_record_15 : decode b_Mo_record 15 = .ok (.iload 4, 2) := by decide +kernel
theorem d_Mo_record_17 : decode b_Mo_record 17 = .ok (.iadd, 1) := by decide +kernel
theorem d_Mo_record_18 : decode b_Mo_record 18 = .ok (.invokestatic 196, 3) := by decide +kernel
theorem d_Mo_record_21 : decode b_Mo_record 21 = .ok (.i2b, 1) := by decide +kernel
theorem d_Mo_record_22 : decode b_Mo_record 22 = .ok (.bastore, 1) := by decide +kernel
theorem d_Mo_record_23 : decode b_Mo_record 23 = .ok (.aload_n 0, 1) := by decide +kernel
theorem d_Mo_record_24 : decode b_Mo_record 24 = .ok (.iload_n 1, 1) := by decide +kernel
theorem d_Mo_record_25 : decode b_Mo_record 25 = .ok (.iconst 2, 1) := by decide +kernel
theorem d_Mo_record_26 : decode b_Mo_record 26 = .ok (.iadd, 1) := by decide +kernel
theorem d_Mo_record_27 : decode b_Mo_record 27 = .ok (.iconst 4, 1) := by decide +kernel
theorem d_Mo_record_28 : decode b_Mo_record 28 = .ok (.aload_n 0, 1) := by decide +kernel
theorem d_Mo_record_29 : decode b_Mo_record 29 = .ok (.getfield 27, 3) := by decide +kernel
theorem d_Mo_record_32 : decode b_Mo_record 32 = .ok (.iload_n 3, 1) := by decide +kernel
theorem d_Mo_record_33 : decode b_Mo_record 33 = .ok (.baload, 1) := by decide +kernel
theorem d_Mo_record_34 : decode b_Mo_record 34 = .ok (.ifCond .eq 12, 3) := by decide +kernel
theorem d_Mo_record_37 : decode b_Mo_record 37 = .ok (.aload_n 0, 1) := by decide +kernel
theorem d_Mo_record_38 : decode b_Mo_record 38 = .ok (.getfield 60, 3) := by decide +kernel
theorem d_Mo_record_41 : decode b_Mo_record 41 = .ok (.iload_n 3, 1) := by decide +kernel
theorem d_Mo_record_42 : decode b_Mo_record 42 = .ok (.iaload, 1) := by decide +kernel
theorem d_Mo_record_43 : decode b_Mo_record 43 = .ok (.goto 9, 3) := by decide +kernel
theorem d_Mo_record_52 : decode b_Mo_record 52 = .ok (.invokevirtual 199, 3) := by decide +kernel
theorem d_Mo_record_55 : decode b_Mo_record 55 = .ok (.aload_n 0, 1) := by decide +kernel
theorem d_Mo_record_56 : decode b_Mo_record 56 = .ok (.iload_n 1, 1) := by decide +kernel
theorem d_Mo_record_57 : decode b_Mo_record 57 = .ok (.bipush 10, 2) := by decide +kernel
theorem d_Mo_record_59 : decode b_Mo_record 59 = .ok (.iadd, 1) := by decide +kernel
theorem d_Mo_record_60 : decode b_Mo_record 60 = .ok (.iconst 4, 1) := by decide +kernel
theorem d_Mo_record_61 : decode b_Mo_record 61 = .ok (.aload_n 0, 1) := by decide +kernel
theorem d_Mo_record_62 : decode b_Mo_record 62 = .ok (.getfield 27, 3) := by decide +kernel
theorem d_Mo_record_65 : decode b_Mo_record 65 = .ok (.iload_n 3, 1) := by decide +kernel
theorem d_Mo_record_66 : decode b_Mo_record 66 = .ok (.baload, 1) := by decide +kernel
theorem d_Mo_record_67 : decode b_Mo_record 67 = .ok (.ifCond .eq 16, 3) := by decide +kernel
theorem d_Mo_record_70 : decode b_Mo_record 70 = .ok (.sipush 2048, 3) := by decide +kernel
theorem d_Mo_record_73 : decode b_Mo_record 73 = .ok (.aload_n 0, 1) := by decide +kernel
theorem d_Mo_record_74 : decode b_Mo_record 74 = .ok (.getfield 63, 3) := by decide +kernel
theorem d_Mo_record_77 : decode b_Mo_record 77 = .ok (.iload_n 3, 1) := by decide +kernel
theorem d_Mo_record_78 : decode b_Mo_record 78 = .ok (.iaload, 1) := by decide +kernel
theorem d_Mo_record_79 : decode b_Mo_record 79 = .ok (.imul, 1) := by decide +kernel
theorem d_Mo_record_80 : decode b_Mo_record 80 = .ok (.goto 9, 3) := by decide +kernel
theorem d_Mo_record_89 : decode b_Mo_record 89 = .ok (.invokevirtual 199, 3) := by decide +kernel
theorem d_Mo_record_92 : decode b_Mo_record 92 = .ok (.aload_n 0, 1) := by decide +kernel
theorem d_Mo_record_93 : decode b_Mo_record 93 = .ok (.getfield 54, 3) := by decide +kernel
theorem d_Mo_record_96 : decode b_Mo_record 96 = .ok (.iload_n 1, 1) := by decide +kernel
theorem d_Mo_record_97 : decode b_Mo_record 97 = .ok (.bipush 25, 2) := by decide +kernel
theorem d_Mo_record_99 : decode b_Mo_record 99 = .ok (.iadd, 1) := by decide +kernel
theorem d_Mo_record_100 : decode b_Mo_record 100 = .ok (.aload_n 0, 1) := by decide +kernel
theorem d_Mo_record_101 : decode b_Mo_record 101 = .ok (.getfield 27, 3) := by decide +kernel
theorem d_Mo_record_104 : decode b_Mo_record 104 = .ok (.iload_n 3, 1) := by decide +kernel
theorem d_Mo_record_105 : decode b_Mo_record 105 = .ok (.baload, 1) := by decide +kernel
theorem d_Mo_record_106 : decode b_Mo_record 106 = .ok (.ifCond .eq 7, 3) := by decide +kernel
theorem d_Mo_record_109 : decode b_Mo_record 109 = .ok (.iconst 2, 1) := by decide +kernel
theorem d_Mo_record_110 : decode b_Mo_record 110 = .ok (.goto 4, 3) := by decide +kernel
theorem d_Mo_record_114 : decode b_Mo_record 114 = .ok (.i2b, 1) := by decide +kernel
theorem d_Mo_record_115 : decode b_Mo_record 115 = .ok (.bastore, 1) := by decide +kernel
theorem d_Mo_record_116 : decode b_Mo_record 116 = .ok (.aload_n 0, 1) := by decide +kernel
theorem d_Mo_record_117 : decode b_Mo_record 117 = .ok (.iload_n 1, 1) := by decide +kernel
theorem d_Mo_record_118 : decode b_Mo_record 118 = .ok (.bipush 28, 2) := by decide +kernel
theorem d_Mo_record_120 : decode b_Mo_record 120 = .ok (.iadd, 1) := by decide +kernel
theorem d_Mo_record_121 : decode b_Mo_record 121 = .ok (.iconst 2, 1) := by decide +kernel
theorem d_Mo_record_122 : decode b_Mo_record 122 = .ok (.iconst 1, 1) := by decide +kernel
theorem d_Mo_record_123 : decode b_Mo_record 123 = .ok (.invokevirtual 199, 3) := by decide +kernel
theorem d_Mo_record_126 : decode b_Mo_record 126 = .ok (.aload_n 0, 1) := by decide +kernel
theorem d_Mo_record_127 : decode b_Mo_record 127 = .ok (.getfield 54, 3) := by decide +kernel
theorem d_Mo_record_130 : decode b_Mo_record 130 = .ok (.iload_n 1, 1) := by decide +kernel
theorem d_Mo_record_131 : decode b_Mo_record 131 = .ok (.bipush 32, 2) := by decide +kernel
theorem d_Mo_record_133 : decode b_Mo_record 133 = .ok (.iadd, 1) := by decide +kernel
theorem d_Mo_record_134 : decode b_Mo_record 134 = .ok (.iload 4, 2) := by decide +kernel
theorem d_Mo_record_136 : decode b_Mo_record 136 = .ok (.i2b, 1) := by decide +kernel
theorem d_Mo_record_137 : decode b_Mo_record 137 = .ok (.bastore, 1) := by decide +kernel
theorem d_Mo_record_138 : decode b_Mo_record 138 = .ok (.iconst 0, 1) := by decide +kernel
theorem d_Mo_record_139 : decode b_Mo_record 139 = .ok (.istore 5, 2) := by decide +kernel
theorem d_Mo_record_141 : decode b_Mo_record 141 = .ok (.iload 5, 2) := by decide +kernel
theorem d_Mo_record_143 : decode b_Mo_record 143 = .ok (.iload 4, 2) := by decide +kernel
theorem d_Mo_record_145 : decode b_Mo_record 145 = .ok (.if_icmp .ge 48, 3) := by decide +kernel
theorem d_Mo_record_148 : decode b_Mo_record 148 = .ok (.aload_n 0, 1) := by decide +kernel
theorem d_Mo_record_149 : decode b_Mo_record 149 = .ok (.getfield 54, 3) := by decide +kernel
theorem d_Mo_record_152 : decode b_Mo_record 152 = .ok (.iload_n 1, 1) := by decide +kernel
theorem d_Mo_record_153 : decode b_Mo_record 153 = .ok (.bipush 33, 2) := by decide +kernel
theorem d_Mo_record_155 : decode b_Mo_record 155 = .ok (.iadd, 1) := by decide +kernel
theorem d_Mo_record_156 : decode b_Mo_record 156 = .ok (.iload 5, 2) := by decide +kernel
theorem d_Mo_record_158 : decode b_Mo_record 158 = .ok (.iadd, 1) := by decide +kernel
theorem d_Mo_record_159 : decode b_Mo_record 159 = .ok (.iload_n 2, 1) := by decide +kernel
theorem d_Mo_record_160 : decode b_Mo_record 160 = .ok (.iconst 2, 1) := by decide +kernel
theorem d_Mo_record_161 : decode b_Mo_record 161 = .ok (.if_icmp .ge 7, 3) := by decide +kernel
theorem d_Mo_record_164 : decode b_Mo_record 164 = .ok (.iload_n 2, 1) := by decide +kernel
theorem d_Mo_record_165 : decode b_Mo_record 165 = .ok (.goto 20, 3) := by decide +kernel
theorem d_Mo_record_185 : decode b_Mo_record 185 = .ok (.i2b, 1) := by decide +kernel
theorem d_Mo_record_186 : decode b_Mo_record 186 = .ok (.bastore, 1) := by decide +kernel
theorem d_Mo_record_187 : decode b_Mo_record 187 = .ok (.iinc 5 1, 3) := by decide +kernel
theorem d_Mo_record_190 : decode b_Mo_record 190 = .ok (.goto (-49), 3) := by decide +kernel
theorem d_Mo_record_193 : decode b_Mo_record 193 = .ok (.return_, 1) := by decide +kernel
theorem d_Mo_next_0 : decode b_Mo_next 0 = .ok (.iconst (-1), 1) := by decide +kernel
theorem d_Mo_next_1 : decode b_Mo_next 1 = .ok (.istore_n 3, 1) := by decide +kernel
theorem d_Mo_next_2 : decode b_Mo_next 2 = .ok (.iconst 1, 1) := by decide +kernel
theorem d_Mo_next_3 : decode b_Mo_next 3 = .ok (.istore 4, 2) := by decide +kernel
theorem d_Mo_next_5 : decode b_Mo_next 5 = .ok (.iload 4, 2) := by decide +kernel
theorem d_Mo_next_7 : decode b_Mo_next 7 = .ok (.aload_n 0, 1) := by decide +kernel
theorem d_Mo_next_8 : decode b_Mo_next 8 = .ok (.getfield 112, 3) := by decide +kernel
theorem d_Mo_next_11 : decode b_Mo_next 11 = .ok (.if_icmp .ge 108, 3) := by decide +kernel
theorem d_Mo_next_119 : decode b_Mo_next 119 = .ok (.iload_n 3, 1) := by decide +kernel
theorem d_Mo_next_120 : decode b_Mo_next 120 = .ok (.ireturn, 1) := by decide +kernel
theorem d_Mo_along_0 : decode b_Mo_along 0 = .ok (.iconst 0, 1) := by decide +kernel
theorem d_Mo_along_1 : decode b_Mo_along 1 = .ok (.istore 4, 2) := by decide +kernel
theorem d_Mo_along_3 : decode b_Mo_along 3 = .ok (.iconst 0, 1) := by decide +kernel
theorem d_Mo_along_4 : decode b_Mo_along 4 = .ok (.istore 5, 2) := by decide +kernel
theorem d_Mo_along_6 : decode b_Mo_along 6 = .ok (.iconst (-1), 1) := by decide +kernel
theorem d_Mo_along_7 : decode b_Mo_along 7 = .ok (.istore 6, 2) := by decide +kernel
theorem d_Mo_along_9 : decode b_Mo_along 9 = .ok (.iload 5, 2) := by decide +kernel
theorem d_Mo_along_11 : decode b_Mo_along 11 = .ok (.iconst 2, 1) := by decide +kernel
theorem d_Mo_along_12 : decode b_Mo_along 12 = .ok (.if_icmp .ne 20, 3) := by decide +kernel
theorem d_Mo_along_32 : decode b_Mo_along 32 = .ok (.iload 5, 2) := by decide +kernel
theorem d_Mo_along_34 : decode b_Mo_along 34 = .ok (.ifCond .eq 13, 3) := by decide +kernel
theorem d_Mo_along_47 : decode b_Mo_along 47 = .ok (.iload_n 1, 1) := by decide +kernel
theorem d_Mo_along_48 : decode b_Mo_along 48 = .ok (.goto 20, 3) := by decide +kernel
theorem d_Mo_along_68 : decode b_Mo_along 68 = .ok (.istore 7, 2) := by decide +kernel
theorem d_Mo_along_70 : decode b_Mo_along 70 = .ok (.bipush 33, 2) := by decide +kernel
theorem d_Mo_along_72 : decode b_Mo_along 72 = .ok (.aload_n 0, 1) := by decide +kernel
theorem d_Mo_along_73 : decode b_Mo_along 73 = .ok (.iload 5, 2) := by decide +kernel
theorem d_Mo_along_75 : decode b_Mo_along 75 = .ok (.iload 7, 2) := by decide +kernel
theorem d_Mo_along_77 : decode b_Mo_along 77 = .ok (.invokevirtual 192, 3) := by decide +kernel
theorem d_Mo_along_80 : decode b_Mo_along 80 = .ok (.iadd, 1) := by decide +kernel
theorem d_Mo_along_81 : decode b_Mo_along 81 = .ok (.invokestatic 196, 3) := by decide +kernel
theorem d_Mo_along_84 : decode b_Mo_along 84 = .ok (.istore 8, 2) := by decide +kernel
theorem d_Mo_along_86 : decode b_Mo_along 86 = .ok (.iload 4, 2) := by decide +kernel
theorem d_Mo_along_88 : decode b_Mo_along 88 = .ok (.sipush 2048, 3) := by decide +kernel
theorem d_Mo_along_91 : decode b_Mo_along 91 = .ok (.irem, 1) := by decide +kernel
theorem d_Mo_along_92 : decode b_Mo_along 92 = .ok (.iload 8, 2) := by decide +kernel
theorem d_Mo_along_94 : decode b_Mo_along 94 = .ok (.iadd, 1) := by decide +kernel
theorem d_Mo_along_95 : decode b_Mo_along 95 = .ok (.sipush 2048, 3) := by decide +kernel
theorem d_Mo_along_98 : decode b_Mo_along 98 = .ok (.if_icmp .le 18, 3) := by decide +kernel
theorem d_Mo_along_116 : decode b_Mo_along 116 = .ok (.iload_n 3, 1) := by decide +kernel
theorem d_Mo_along_117 : decode b_Mo_along 117 = .ok (.ifCond .eq 15, 3) := by decide +kernel
theorem d_Mo_along_132 : decode b_Mo_along 132 = .ok (.iload 4, 2) := by decide +kernel
theorem d_Mo_along_134 : decode b_Mo_along 134 = .ok (.iload 8, 2) := by decide +kernel
theorem d_Mo_along_136 : decode b_Mo_along 136 = .ok (.iadd, 1) := by decide +kernel
theorem d_Mo_along_137 : decode b_Mo_along 137 = .ok (.istore 4, 2) := by decide +kernel
theorem d_Mo_along_139 : decode b_Mo_along 139 = .ok (.iload 5, 2) := by decide +kernel
theorem d_Mo_along_141 : decode b_Mo_along 141 = .ok (.iconst 2, 1) := by decide +kernel
theorem d_Mo_along_142 : decode b_Mo_along 142 = .ok (.if_icmp .ge 10, 3) := by decide +kernel
theorem d_Mo_along_145 : decode b_Mo_along 145 = .ok (.iload 5, 2) := by decide +kernel
theorem d_Mo_along_147 : decode b_Mo_along 147 = .ok (.iconst 1, 1) := by decide +kernel
theorem d_Mo_along_148 : decode b_Mo_along 148 = .ok (.iadd, 1) := by decide +kernel
theorem d_Mo_along_149 : decode b_Mo_along 149 = .ok (.goto 4, 3) := by decide +kernel
theorem d_Mo_along_153 : decode b_Mo_along 153 = .ok (.istore 5, 2) := by decide +kernel
theorem d_Mo_along_155 : decode b_Mo_along 155 = .ok (.goto (-146), 3) := by decide +kernel
theorem d_Mo_along_37 : decode b_Mo_along 37 = .ok (.iload 5, 2) := by decide +kernel
theorem d_Mo_along_39 : decode b_Mo_along 39 = .ok (.iconst 1, 1) := by decide +kernel
theorem d_Mo_along_40 : decode b_Mo_along 40 = .ok (.if_icmp .ne 11, 3) := by decide +kernel
theorem d_Mo_along_43 : decode b_Mo_along 43 = .ok (.iload_n 1, 1) := by decide +kernel
theorem d_Mo_along_44 : decode b_Mo_along 44 = .ok (.ifCond .ne 7, 3) := by decide +kernel
theorem d_Mo_along_15 : decode b_Mo_along 15 = .ok (.aload_n 0, 1) := by decide +kernel
theorem d_Mo_along_16 : decode b_Mo_along 16 = .ok (.iload_n 1, 1) := by decide +kernel
theorem d_Mo_along_17 : decode b_Mo_along 17 = .ok (.iload 6, 2) := by decide +kernel
theorem d_Mo_along_19 : decode b_Mo_along 19 = .ok (.invokevirtual 202, 3) := by decide +kernel
theorem d_Mo_along_22 : decode b_Mo_along 22 = .ok (.istore 6, 2) := by decide +kernel
theorem d_Mo_along_24 : decode b_Mo_along 24 = .ok (.iload 6, 2) := by decide +kernel
theorem d_Mo_along_26 : decode b_Mo_along 26 = .ok (.ifCond .ge 6, 3) := by decide +kernel
theorem d_Mo_along_29 : decode b_Mo_along 29 = .ok (.iload 4, 2) := by decide +kernel
theorem d_Mo_along_31 : decode b_Mo_along 31 = .ok (.ireturn, 1) := by decide +kernel
theorem d_Mo_along_120 : decode b_Mo_along 120 = .ok (.aload_n 0, 1) := by decide +kernel
theorem d_Mo_along_121 : decode b_Mo_along 121 = .ok (.iload_n 2, 1) := by decide +kernel
theorem d_Mo_along_122 : decode b_Mo_along 122 = .ok (.iload 4, 2) := by decide +kernel
theorem d_Mo_along_124 : decode b_Mo_along 124 = .ok (.iadd, 1) := by decide +kernel
theorem d_Mo_along_125 : decode b_Mo_along 125 = .ok (.iload 5, 2) := by decide +kernel
theorem d_Mo_along_127 : decode b_Mo_along 127 = .ok (.iload 7, 2) := by decide +kernel
theorem d_Mo_along_129 : decode b_Mo_along 129 = .ok (.invokevirtual 205, 3) := by decide +kernel
theorem d_Mo_tables_0 : decode b_Mo_tables 0 = .ok (.aload_n 0, 1) := by decide +kernel
theorem d_Mo_tables_1 : decode b_Mo_tables 1 = .ok (.iconst 1, 1) := by decide +kernel
theorem d_Mo_tables_2 : decode b_Mo_tables 2 = .ok (.putfield 208, 3) := by decide +kernel
theorem d_Mo_tables_5 : decode b_Mo_tables 5 = .ok (.aload_n 0, 1) := by decide +kernel
theorem d_Mo_tables_6 : decode b_Mo_tables 6 = .ok (.getfield 57, 3) := by decide +kernel
theorem d_Mo_tables_9 : decode b_Mo_tables 9 = .ok (.iconst 0, 1) := by decide +kernel
theorem d_Mo_tables_10 : decode b_Mo_tables 10 = .ok (.iconst 0, 1) := by decide +kernel
theorem d_Mo_tables_11 : decode b_Mo_tables 11 = .ok (.iastore, 1) := by decide +kernel
theorem d_Mo_tables_12 : decode b_Mo_tables 12 = .ok (.iconst 0, 1) := by decide +kernel
theorem d_Mo_tables_13 : decode b_Mo_tables 13 = .ok (.istore_n 1, 1) := by decide +kernel
theorem d_Mo_tables_14 : decode b_Mo_tables 14 = .ok (.iload_n 1, 1) := by decide +kernel
theorem d_Mo_tables_15 : decode b_Mo_tables 15 = .ok (.aload_n 0, 1) := by decide +kernel
theorem d_Mo_tables_16 : decode b_Mo_tables 16 = .ok (.getfield 208, 3) := by decide +kernel
theorem d_Mo_tables_19 : decode b_Mo_tables 19 = .ok (.if_icmp .ge 72, 3) := by decide +kernel
theorem d_Mo_tables_22 : decode b_Mo_tables 22 = .ok (.aload_n 0, 1) := by decide +kernel
theorem d_Mo_tables_23 : decode b_Mo_tables 23 = .ok (.aload_n 0, 1) := by decide +kernel
theorem d_Mo_tables_24 : decode b_Mo_tables 24 = .ok (.getfield 57, 3) := by decide +kernel
theorem d_Mo_tables_27 : decode b_Mo_tables 27 = .ok (.iload_n 1, 1) := by decide +kernel
theorem d_Mo_tables_28 : decode b_Mo_tables 28 = .ok (.iaload, 1) := by decide +kernel
theorem d_Mo_tables_29 : decode b_Mo_tables 29 = .ok (.iconst (-1), 1) := by decide +kernel
theorem d_Mo_tables_30 : decode b_Mo_tables 30 = .ok (.invokevirtual 202, 3) := by decide +kernel
theorem d_Mo_tables_33 : decode b_Mo_tables 33 = .ok (.istore_n 2, 1) := by decide +kernel
theorem d_Mo_tables_34 : decode b_Mo_tables 34 = .ok (.iload_n 2, 1) := by decide +kernel
theorem d_Mo_tables_35 : decode b_Mo_tables 35 = .ok (.ifCond .lt 50, 3) := by decide +kernel
theorem d_Mo_tables_85 : decode b_Mo_tables 85 = .ok (.iinc 1 1, 3) := by decide +kernel
theorem d_Mo_tables_88 : decode b_Mo_tables 88 = .ok (.goto (-74), 3) := by decide +kernel
theorem d_Mo_tables_91 : decode b_Mo_tables 91 = .ok (.return_, 1) := by decide +kernel
theorem d_Mo_measure_0 : decode b_Mo_measure 0 = .ok (.aload_n 0, 1) := by decide +kernel
theorem d_Mo_measure_1 : decode b_Mo_measure 1 = .ok (.invokevirtual 211, 3) := by decide +kernel
theorem d_Mo_measure_4 : decode b_Mo_measure 4 = .ok (.iload_n 1, 1) := by decide +kernel
theorem d_Mo_measure_5 : decode b_Mo_measure 5 = .ok (.bipush 20, 2) := by decide +kernel
theorem d_Mo_measure_7 : decode b_Mo_measure 7 = .ok (.iadd, 1) := by decide +kernel
theorem d_Mo_measure_8 : decode b_Mo_measure 8 = .ok (.istore_n 2, 1) := by decide +kernel
theorem d_Mo_measure_9 : decode b_Mo_measure 9 = .ok (.iconst 0, 1) := by decide +kernel
theorem d_Mo_measure_10 : decode b_Mo_measure 10 = .ok (.istore_n 3, 1) := by decide +kernel
theorem d_Mo_measure_11 : decode b_Mo_measure 11 = .ok (.iload_n 3, 1) := by decide +kernel
theorem d_Mo_measure_12 : decode b_Mo_measure 12 = .ok (.aload_n 0, 1) := by decide +kernel
theorem d_Mo_measure_13 : decode b_Mo_measure 13 = .ok (.getfield 208, 3) := by decide +kernel
theorem d_Mo_measure_16 : decode b_Mo_measure 16 = .ok (.if_icmp .ge 58, 3) := by decide +kernel
theorem d_Mo_measure_19 : decode b_Mo_measure 19 = .ok (.aload_n 0, 1) := by decide +kernel
theorem d_Mo_measure_20 : decode b_Mo_measure 20 = .ok (.getfield 57, 3) := by decide +kernel
theorem d_Mo_measure_23 : decode b_Mo_measure 23 = .ok (.iload_n 3, 1) := by decide +kernel
theorem d_Mo_measure_24 : decode b_Mo_measure 24 = .ok (.iaload, 1) := by decide +kernel
theorem d_Mo_measure_25 : decode b_Mo_measure 25 = .ok (.istore 4, 2) := by decide +kernel
theorem d_Mo_measure_27 : decode b_Mo_measure 27 = .ok (.aload_n 0, 1) := by decide +kernel
theorem d_Mo_measure_28 : decode b_Mo_measure 28 = .ok (.getfield 60, 3) := by decide +kernel
theorem d_Mo_measure_31 : decode b_Mo_measure 31 = .ok (.iload 4, 2) := by decide +kernel
theorem d_Mo_measure_33 : decode b_Mo_measure 33 = .ok (.iload_n 2, 1) := by decide +kernel
theorem d_Mo_measure_34 : decode b_Mo_measure 34 = .ok (.iastore, 1) := by decide +kernel
theorem d_Mo_measure_35 : decode b_Mo_measure 35 = .ok (.aload_n 0, 1) := by decide +kernel
theorem d_Mo_measure_36 : decode b_Mo_measure 36 = .ok (.getfield 63, 3) := by decide +kernel
theorem d_Mo_measure_39 : decode b_Mo_measure 39 = .ok (.iload 4, 2) := by decide +kernel
theorem d_Mo_measure_41 : decode b_Mo_measure 41 = .ok (.aload_n 0, 1) := by decide +kernel
theorem d_Mo_measure_42 : decode b_Mo_measure 42 = .ok (.iload 4, 2) := by decide +kernel
theorem d_Mo_measure_44 : decode b_Mo_measure 44 = .ok (.iconst 0, 1) := by decide +kernel
theorem d_Mo_measure_45 : decode b_Mo_measure 45 = .ok (.iconst 0, 1) := by decide +kernel
theorem d_Mo_measure_46 : decode b_Mo_measure 46 = .ok (.invokevirtual 214, 3) := by decide +kernel
theorem d_Mo_measure_49 : decode b_Mo_measure 49 = .ok (.sipush 2047, 3) := by decide +kernel
theorem d_Mo_measure_52 : decode b_Mo_measure 52 = .ok (.iadd, 1) := by decide +kernel
theorem d_Mo_measure_53 : decode b_Mo_measure 53 = .ok (.sipush 2048, 3) := by decide +kernel
theorem d_Mo_measure_56 : decode b_Mo_measure 56 = .ok (.idiv, 1) := by decide +kernel
theorem d_Mo_measure_57 : decode b_Mo_measure 57 = .ok (.iastore, 1) := by decide +kernel
theorem d_Mo_measure_58 : decode b_Mo_measure 58 = .ok (.iload_n 2, 1) := by decide +kernel
theorem d_Mo_measure_59 : decode b_Mo_measure 59 = .ok (.aload_n 0, 1) := by decide +kernel
theorem d_Mo_measure_60 : decode b_Mo_measure 60 = .ok (.getfield 63, 3) := by decide +kernel
theorem d_Mo_measure_63 : decode b_Mo_measure 63 = .ok (.iload 4, 2) := by decide +kernel
theorem d_Mo_measure_65 : decode b_Mo_measure 65 = .ok (.iaload, 1) := by decide +kernel
theorem d_Mo_measure_66 : decode b_Mo_measure 66 = .ok (.iadd, 1) := by decide +kernel
theorem d_Mo_measure_67 : decode b_Mo_measure 67 = .ok (.istore_n 2, 1) := by decide +kernel
theorem d_Mo_measure_68 : decode b_Mo_measure 68 = .ok (.iinc 3 1, 3) := by decide +kernel
theorem d_Mo_measure_71 : decode b_Mo_measure 71 = .ok (.goto (-60), 3) := by decide +kernel
theorem d_Mo_measure_74 : decode b_Mo_measure 74 = .ok (.iload_n 2, 1) := by decide +kernel
theorem d_Mo_measure_75 : decode b_Mo_measure 75 = .ok (.iconst 1, 1) := by decide +kernel
theorem d_Mo_measure_76 : decode b_Mo_measure 76 = .ok (.iadd, 1) := by decide +kernel
theorem d_Mo_measure_77 : decode b_Mo_measure 77 = .ok (.iload_n 1, 1) := by decide +kernel
theorem d_Mo_measure_78 : decode b_Mo_measure 78 = .ok (.isub, 1) := by decide +kernel
theorem d_Mo_measure_79 : decode b_Mo_measure 79 = .ok (.ireturn, 1) := by decide +kernel
theorem nI_m1 (j : Nat) : nI (j + 1) + Int32.ofInt (-1) = nI j := by
  rw [show Int32.ofInt (-1) = -1 from rfl, ← Int32.sub_eq_add_neg, nI_pred]
theorem nI_sub9 {a b : Nat} (h : b ≤ a) : nI a - nI b = nI (a - b) := by
  obtain ⟨k, rfl⟩ : ∃ k, a = k + b := ⟨a - b, by omega⟩
  rw [← nI_add, Int32.add_sub_cancel, Nat.add_sub_cancel]
theorem se_le {n : Nat} (h : 40 ≤ n) (hn : n ≤ 200) : (0 + 22 : Int32) ≤ nI n := by
  rw [show (0 + 22 : Int32) = nI 22 from by decide]
  exact nI_le (by omega) (by omega)
theorem upd_z {f : Nat → Int32} (h : ∀ j, f j = 0) (k : Nat) {x : Int32} (hx : x = 0) : ∀ j, upd f k x j = 0 := by
  intro j
  by_cases hj : j = k
  · rw [hj, pk_us, hx]
  · rw [pk_un (f := f) hj]
    exact h j
theorem ix9 (a b k : Nat) : 2048 * (nI a + nI b) + nI k = nI (2048 * (a + b) + k) := by
  rw [nI_add, show (2048 : Int32) = nI 2048 from rfl, nI_mul9, nI_add]
theorem ix8 {a : Nat} (k : Nat) (h : 16 ≤ a) : 2048 * (nI a - 16) + nI k = nI (2048 * (a - 16) + k) := by
  rw [show (16 : Int32) = nI 16 from rfl, nI_sub9 h, show (2048 : Int32) = nI 2048 from rfl, nI_mul9, nI_add]
theorem ix7 (k : Nat) : 2048 * nI 200 + nI k = nI (409600 + k) := by
  rw [show (2048 : Int32) = nI 2048 from rfl, nI_mul9, nI_add]
theorem ix6 (a b : Nat) : nI a + nI (b + 1) - 1 = nI (a + b) := by
  rw [nI_add, show a + (b + 1) = a + b + 1 from rfl, nI_pred]

set_option maxHeartbeats 4000000 in
set_option maxRecDepth 100000 in
theorem c_m_low (l : Launch) (D : va_G) (t : Nat → ClassId) (G : hG) (ak av : Nat → Nat) (h : hM) (mo n aBy aSt aDe aPa aIt aId aPr aNa aSi aSe aIw aEx aOl aPl aTa aAt aLo aS1 aS2 aS3 aS4 aS5 aS6 aO1 aO2 aO3 aO4 aO5 : Nat) (dr wt : Int32) (gPl : Nat → Int32) (P9 K9 : Nat) (p9 k0 v9 : Int32) (f_m : h mo = some (.inr (9, [.int 0, .int (nI n), .int 0, .ref aBy, .ref aSt, .ref aDe, .int 0, .int (-1), .int wt, .ref aPa, .int 1, .ref aIt, .ref aId, .ref aPr, .ref aNa, .ref aSi, .ref aSe, .ref aIw, .ref aEx, .ref aOl, .int 0, .ref aPl, .int dr, .int 0, .ref aTa, .ref aAt, .ref aLo, .int 0, .int 0, .ref aS1, .ref aS2, .ref aS3, .ref aS4, .ref aS5, .ref aS6, .int 0, .ref aO1, .ref aO2, .ref aO3, .ref aO4, .ref aO5]))) (f_aPl : h aPl = some (.inl ((t 0), 163840, .inl gPl))) (hp9 : p9 = nI P9) (hk0 : k0 = nI K9) (hle : P9 + K9 ≤ 163840) : Met l y_Mo_low (.code y_Mo_low b_Mo_low 5 none :: lw_g) { frames := 0, cells := 0, slots := 0, locals := 0 } (hP (kE D t G ak av) D vwCl G h [.ref mo, .int p9, .int k0, .int v9]) (hQv D vwCl G (fun h' => kp [aPl] h h' ∧ ∃ g : Nat → Int32, h' aPl = some (.inl ((t 0), 163840, .inl g)))) 0 0 G.P := by
  refine Met.ofW (cc := b_Mo_low) (maxL := 5) (ret := none) (by decide) rfl ?_
  intro p e s m args below meth c s₁ Bd hml hv
  obtain ⟨ha, hE, hH⟩ := hv
  have hx := Bd.exec
  have hb := Bd.bytes
  have hr := Bd.returns
  have hts : ∀ w ∈ lw_g, w.before args s = true := fun w hw => atoms_spec (ws := (.code y_Mo_low b_Mo_low 5 none :: lw_g)) Bd.pre w (List.mem_cons_of_mem _ hw)
  have hown : s.vm.findClass R_Mo = some m.cls := findClass_of_methodNamed Bd.named
  have hlocks := Bd.notSynchronized
  have hK := hE.1
  have hH0 := hH
  have hLo : hLc G.P [] := hLc_nil
  have hz : s.heap.size ≤ s.heap.size := Nat.le_refl _
  have hkp : kp [aPl] h h := kp_rf
  have hl := lv_entry [.ref mo, .int p9, .int k0, .int v9] (n := 5) (Nat.le_of_ble_eq_true rfl)
  rw [show entryFrame m args 5 = F0 m 0 ((lg_sl [.ref mo, .int p9, .int k0, .int v9] ++ List.replicate (5 - (lg_sl [.ref mo, .int p9, .int k0, .int v9]).length) Slot.unset).toArray) [] from (by rw [ha]; exact lg_entry_eq m [.ref mo, .int p9, .int k0, .int v9] 5)]
  generalize (lg_sl [.ref mo, .int p9, .int k0, .int v9] ++ List.replicate (5 - (lg_sl [.ref mo, .int p9, .int k0, .int v9]).length) Slot.unset).toArray = ls at hl ⊢
  have hl : lv_has ls 5 [(0, .ref mo), (1, .int p9), (2, .int k0), (3, .int v9)] := hl
  subst hp9
  subst hk0
  refine lv_iconst (v := 0) hx hb d_Mo_low_0 (by decide) ?_
  refine lv_topi (fun v1 e2 => ?_)
  obtain rfl : v1 = nI 0 := e2.trans (by decide)
  refine lv_istore (lv' := [(4, .int (nI 0)), (0, .ref mo), (1, .int (nI P9)), (2, .int (nI K9)), (3, .int v9)]) hx hb d_Mo_low_1 hl (by decide) rfl (fun ls hl => ?_)
  refine hm_loop (fun k ls H locs hh => ∃ (k9 : Nat) (g9 : Nat → Int32), k = K9 - k9 ∧ lv_has ls 5 [(4, .int (nI k9)), (0, .ref mo), (1, .int (nI P9)), (2, .int (nI K9)), (3, .int v9)] ∧ hm D vwCl G hh H ∧ s.heap.size ≤ H.size ∧ hLc G.P locs ∧ kp [aPl] h hh ∧ hh mo = some (.inr (9, [.int 0, .int (nI n), .int 0, .ref aBy, .ref aSt, .ref aDe, .int 0, .int (-1), .int wt, .ref aPa, .int 1, .ref aIt, .ref aId, .ref aPr, .ref aNa, .ref aSi, .ref aSe, .ref aIw, .ref aEx, .ref aOl, .int 0, .ref aPl, .int dr, .int 0, .ref aTa, .ref aAt, .ref aLo, .int 0, .int 0, .ref aS1, .ref aS2, .ref aS3, .ref aS4, .ref aS5, .ref aS6, .int 0, .ref aO1, .ref aO2, .ref aO3, .ref aO4, .ref aO5])) ∧ hh aPl = some (.inl ((t 0), 163840, .inl g9)) ∧ (k9 ≤ K9)) ?_ (hh := h) ⟨0, gPl, rfl, (lv_sub hl [0, 1, 2, 3, 4] rfl), hH, hz, hLo, hkp, f_m, f_aPl, by omega⟩
  rintro k ls H locs hh ⟨k9, g9, hk, hl, hH, hz, hLo, hkp, f_m, f_aPl, hk9⟩ ih
  refine lv_iload hx hb d_Mo_low_3 (lv_at hl 0 rfl) ?_
  refine lv_iload_n hx hb d_Mo_low_5 rfl (lv_at hl 3 rfl) ?_
  refine lv_icmp_ge (tgt := 32) hx hb d_Mo_low_6 (by decide) (fun hc3 => ?_) (fun hc3 => ?_)
  · skip
    exact W.vret hx hb hr (fun t9 ht hW => ⟨hh, rfl, ⟨hkp, _, f_aPl⟩, by rw [ht]; exact hH, by rw [ht]; exact hz⟩) hLo d_Mo_low_32
  · skip
    have hk1 : k9 < K9 := (nI_ltI (by omega) (by omega)).mp (Int32.not_le.mp hc3)
    refine lv_aload_n hx hb d_Mo_low_9 rfl (lv_at hl 1 rfl) ?_
    refine hm_get (ci := 9) (v := .ref aPl) (C := R_Mo) (T := F_Mo) (N := 41) hx hb hts ig_Mo hown hK hH f_m rfl 21 (by decide) (hts _ mw_410) (fun _ h9 => h9) rfl d_Mo_low_10 ?_
    refine lv_iload_n hx hb d_Mo_low_13 rfl (lv_at hl 2 rfl) ?_
    refine lv_iload hx hb d_Mo_low_14 (lv_at hl 0 rfl) ?_
    refine lv_iadd hx hb d_Mo_low_16 ?_
    refine lv_iload_n hx hb d_Mo_low_17 rfl (lv_at hl 4 rfl) ?_
    refine lv_bipush (v := 8) hx hb d_Mo_low_18 (by decide) ?_
    refine lv_iload hx hb d_Mo_low_20 (lv_at hl 0 rfl) ?_
    refine lv_imul hx hb d_Mo_low_22 ?_
    refine lv_ishr hx hb d_Mo_low_23 ?_
    refine lv_i2b (v := (v9 >>> ((8 * (nI k9)) &&& 31)).toInt8.toInt32) hx hb d_Mo_low_24 rfl ?_
    refine hj_bast hx hb hK hH hLo 0 f_aPl rfl (P9 + k9) (nI_add _ _) (by omega) (by decide) d_Mo_low_25 (fun H4 locs hH z5 hLo => ?_)
    have hz : s.heap.size ≤ H4.size := by rw [z5]; exact hz
    obtain ⟨h6, e7⟩ : ∃ z, z = hu hh aPl (.inl ((t 0), 163840, .inl (upd g9 (P9 + k9) (vp_nar .byte ((v9 >>> ((8 * (nI k9)) &&& 31)).toInt8.toInt32))))) := ⟨_, rfl⟩
    have hH : hm D vwCl G h6 H4 := by rw [e7]; exact hH
    have f_m : h6 mo = some (.inr (9, [.int 0, .int (nI n), .int 0, .ref aBy, .ref aSt, .ref aDe, .int 0, .int (-1), .int wt, .ref aPa, .int 1, .ref aIt, .ref aId, .ref aPr, .ref aNa, .ref aSi, .ref aSe, .ref aIw, .ref aEx, .ref aOl, .int 0, .ref aPl, .int dr, .int 0, .ref aTa, .ref aAt, .ref aLo, .int 0, .int 0, .ref aS1, .ref aS2, .ref aS3, .ref aS4, .ref aS5, .ref aS6, .int 0, .ref aO1, .ref aO2, .ref aO3, .ref aO4, .ref aO5])) := by rw [e7, hu_n (Ne.symm (h_neA f_aPl f_m))]; exact f_m
    have f_aPl : h6 aPl = some (.inl ((t 0), 163840, .inl (upd g9 (P9 + k9) (vp_nar .byte ((v9 >>> ((8 * (nI k9)) &&& 31)).toInt8.toInt32))))) := by rw [e7]; exact hu_s _ _ _
    have hkp : kp [aPl] h h6 := by rw [e7]; exact kp_put hkp (by simp)
    refine lv_iinc (v := nI (k9 + 1)) (lv' := [(4, .int (nI (k9 + 1))), (0, .ref mo), (1, .int (nI P9)), (2, .int (nI K9)), (3, .int v9)]) hx hb d_Mo_low_26 hl (k := 0) rfl (nI_1 k9) (by decide) rfl (fun ls hl => ?_)
    refine lv_goto (tgt := 3) hx hb d_Mo_low_29 (by decide) ?_
    exact ih (K9 - (k9 + 1)) ls _ locs _ (by rw [hk]; omega) ⟨(k9 + 1), _, rfl, (lv_sub hl [0, 1, 2, 3, 4] rfl), hH, hz, hLo, hkp, f_m, f_aPl, by omega⟩

set_option maxHeartbeats 4000000 in
set_option maxRecDepth 100000 in
theorem c_m_high (l : Launch) (D : va_G) (t : Nat → ClassId) (G : hG) (ak av : Nat → Nat) (h : hM) (mo n aBy aSt aDe aPa aIt aId aPr aNa aSi aSe aIw aEx aOl aPl aTa aAt aLo aS1 aS2 aS3 aS4 aS5 aS6 aO1 aO2 aO3 aO4 aO5 : Nat) (dr wt : Int32) (gPl : Nat → Int32) (P9 K9 : Nat) (p9 k0 v9 : Int32) (f_m : h mo = some (.inr (9, [.int 0, .int (nI n), .int 0, .ref aBy, .ref aSt, .ref aDe, .int 0, .int (-1), .int wt, .ref aPa, .int 1, .ref aIt, .ref aId, .ref aPr, .ref aNa, .ref aSi, .ref aSe, .ref aIw, .ref aEx, .ref aOl, .int 0, .ref aPl, .int dr, .int 0, .ref aTa, .ref aAt, .ref aLo, .int 0, .int 0, .ref aS1, .ref aS2, .ref aS3, .ref aS4, .ref aS5, .ref aS6, .int 0, .ref aO1, .ref aO2, .ref aO3, .ref aO4, .ref aO5]))) (f_aPl : h aPl = some (.inl ((t 0), 163840, .inl gPl))) (hp9 : p9 = nI P9) (hk0 : k0 = nI K9) (hle : P9 + K9 ≤ 163840) : Met l y_Mo_high (.code y_Mo_high b_Mo_high 5 none :: lw_g) { frames := 0, cells := 0, slots := 0, locals := 0 } (hP (kE D t G ak av) D vwCl G h [.ref mo, .int p9, .int k0, .int v9]) (hQv D vwCl G (fun h' => kp [aPl] h h' ∧ ∃ g : Nat → Int32, h' aPl = some (.inl ((t 0), 163840, .inl g)))) 0 0 G.P := by
  refine Met.ofW (cc := b_Mo_high) (maxL := 5) (ret := none) (by decide) rfl ?_
  intro p e s m args below meth c s₁ Bd hml hv
  obtain ⟨ha, hE, hH⟩ := hv
  have hx := Bd.exec
  have hb := Bd.bytes
  have hr := Bd.returns
  have hts : ∀ w ∈ lw_g, w.before args s = true := fun w hw => atoms_spec (ws := (.code y_Mo_high b_Mo_high 5 none :: lw_g)) Bd.pre w (List.mem_cons_of_mem _ hw)
  have hown : s.vm.findClass R_Mo = some m.cls := findClass_of_methodNamed Bd.named
  have hlocks := Bd.notSynchronized
  have hK := hE.1
  have hH0 := hH
  have hLo : hLc G.P [] := hLc_nil
  have hz : s.heap.size ≤ s.heap.size := Nat.le_refl _
  have hkp : kp [aPl] h h := kp_rf
  have hl := lv_entry [.ref mo, .int p9, .int k0, .int v9] (n := 5) (Nat.le_of_ble_eq_true rfl)
  rw [show entryFrame m args 5 = F0 m 0 ((lg_sl [.ref mo, .int p9, .int k0, .int v9] ++ List.replicate (5 - (lg_sl [.ref mo, .int p9, .int k0, .int v9]).length) Slot.unset).toArray) [] from (by rw [ha]; exact lg_entry_eq m [.ref mo, .int p9, .int k0, .int v9] 5)]
  generalize (lg_sl [.ref mo, .int p9, .int k0, .int v9] ++ List.replicate (5 - (lg_sl [.ref mo, .int p9, .int k0, .int v9]).length) Slot.unset).toArray = ls at hl ⊢
  have hl : lv_has ls 5 [(0, .ref mo), (1, .int p9), (2, .int k0), (3, .int v9)] := hl
  subst hp9
  subst hk0
  refine lv_iconst (v := 0) hx hb d_Mo_high_0 (by decide) ?_
  refine lv_topi (fun v1 e2 => ?_)
  obtain rfl : v1 = nI 0 := e2.trans (by decide)
  refine lv_istore (lv' := [(4, .int (nI 0)), (0, .ref mo), (1, .int (nI P9)), (2, .int (nI K9)), (3, .int v9)]) hx hb d_Mo_high_1 hl (by decide) rfl (fun ls hl => ?_)
  refine hm_loop (fun k ls H locs hh => ∃ (k9 : Nat) (g9 : Nat → Int32), k = K9 - k9 ∧ lv_has ls 5 [(4, .int (nI k9)), (0, .ref mo), (1, .int (nI P9)), (2, .int (nI K9)), (3, .int v9)] ∧ hm D vwCl G hh H ∧ s.heap.size ≤ H.size ∧ hLc G.P locs ∧ kp [aPl] h hh ∧ hh mo = some (.inr (9, [.int 0, .int (nI n), .int 0, .ref aBy, .ref aSt, .ref aDe, .int 0, .int (-1), .int wt, .ref aPa, .int 1, .ref aIt, .ref aId, .ref aPr, .ref aNa, .ref aSi, .ref aSe, .ref aIw, .ref aEx, .ref aOl, .int 0, .ref aPl, .int dr, .int 0, .ref aTa, .ref aAt, .ref aLo, .int 0, .int 0, .ref aS1, .ref aS2, .ref aS3, .ref aS4, .ref aS5, .ref aS6, .int 0, .ref aO1, .ref aO2, .ref aO3, .ref aO4, .ref aO5])) ∧ hh aPl = some (.inl ((t 0), 163840, .inl g9)) ∧ (k9 ≤ K9)) ?_ (hh := h) ⟨0, gPl, rfl, (lv_sub hl [0, 1, 2, 3, 4] rfl), hH, hz, hLo, hkp, f_m, f_aPl, by omega⟩
  rintro k ls H locs hh ⟨k9, g9, hk, hl, hH, hz, hLo, hkp, f_m, f_aPl, hk9⟩ ih
  refine lv_iload hx hb d_Mo_high_3 (lv_at hl 0 rfl) ?_
  refine lv_iload_n hx hb d_Mo_high_5 rfl (lv_at hl 3 rfl) ?_
  refine lv_icmp_ge (tgt := 36) hx hb d_Mo_high_6 (by decide) (fun hc3 => ?_) (fun hc3 => ?_)
  · skip
    exact W.vret hx hb hr (fun t9 ht hW => ⟨hh, rfl, ⟨hkp, _, f_aPl⟩, by rw [ht]; exact hH, by rw [ht]; exact hz⟩) hLo d_Mo_high_36
  · skip
    have hk1 : k9 < K9 := (nI_ltI (by omega) (by omega)).mp (Int32.not_le.mp hc3)
    refine lv_aload_n hx hb d_Mo_high_9 rfl (lv_at hl 1 rfl) ?_
    refine hm_get (ci := 9) (v := .ref aPl) (C := R_Mo) (T := F_Mo) (N := 41) hx hb hts ig_Mo hown hK hH f_m rfl 21 (by decide) (hts _ mw_410) (fun _ h9 => h9) rfl d_Mo_high_10 ?_
    refine lv_iload_n hx hb d_Mo_high_13 rfl (lv_at hl 2 rfl) ?_
    refine lv_iload hx hb d_Mo_high_14 (lv_at hl 0 rfl) ?_
    refine lv_iadd hx hb d_Mo_high_16 ?_
    refine lv_iload_n hx hb d_Mo_high_17 rfl (lv_at hl 4 rfl) ?_
    refine lv_bipush (v := 8) hx hb d_Mo_high_18 (by decide) ?_
    refine lv_iload_n hx hb d_Mo_high_20 rfl (lv_at hl 3 rfl) ?_
    refine lv_iconst (v := 1) hx hb d_Mo_high_21 (by decide) ?_
    refine lv_isub hx hb d_Mo_high_22 ?_
    refine lv_iload hx hb d_Mo_high_23 (lv_at hl 0 rfl) ?_
    refine lv_isub hx hb d_Mo_high_25 ?_
    refine lv_imul hx hb d_Mo_high_26 ?_
    refine lv_ishr hx hb d_Mo_high_27 ?_
    refine lv_i2b (v := (v9 >>> ((8 * (((nI K9) - 1) - (nI k9))) &&& 31)).toInt8.toInt32) hx hb d_Mo_high_28 rfl ?_
    refine hj_bast hx hb hK hH hLo 0 f_aPl rfl (P9 + k9) (nI_add _ _) (by omega) (by decide) d_Mo_high_29 (fun H4 locs hH z5 hLo => ?_)
    have hz : s.heap.size ≤ H4.size := by rw [z5]; exact hz
    obtain ⟨h6, e7⟩ : ∃ z, z = hu hh aPl (.inl ((t 0), 163840, .inl (upd g9 (P9 + k9) (vp_nar .byte ((v9 >>> ((8 * (((nI K9) - 1) - (nI k9))) &&& 31)).toInt8.toInt32))))) := ⟨_, rfl⟩
    have hH : hm D vwCl G h6 H4 := by rw [e7]; exact hH
    have f_m : h6 mo = some (.inr (9, [.int 0, .int (nI n), .int 0, .ref aBy, .ref aSt, .ref aDe, .int 0, .int (-1), .int wt, .ref aPa, .int 1, .ref aIt, .ref aId, .ref aPr, .ref aNa, .ref aSi, .ref aSe, .ref aIw, .ref aEx, .ref aOl, .int 0, .ref aPl, .int dr, .int 0, .ref aTa, .ref aAt, .ref aLo, .int 0, .int 0, .ref aS1, .ref aS2, .ref aS3, .ref aS4, .ref aS5, .ref aS6, .int 0, .ref aO1, .ref aO2, .ref aO3, .ref aO4, .ref aO5])) := by rw [e7, hu_n (Ne.symm (h_neA f_aPl f_m))]; exact f_m
    have f_aPl : h6 aPl = some (.inl ((t 0), 163840, .inl (upd g9 (P9 + k9) (vp_nar .byte ((v9 >>> ((8 * (((nI K9) - 1) - (nI k9))) &&& 31)).toInt8.toInt32))))) := by rw [e7]; exact hu_s _ _ _
    have hkp : kp [aPl] h h6 := by rw [e7]; exact kp_put hkp (by simp)
    refine lv_iinc (v := nI (k9 + 1)) (lv' := [(4, .int (nI (k9 + 1))), (0, .ref mo), (1, .int (nI P9)), (2, .int (nI K9)), (3, .int v9)]) hx hb d_Mo_high_30 hl (k := 0) rfl (nI_1 k9) (by decide) rfl (fun ls hl => ?_)
    refine lv_goto (tgt := 3) hx hb d_Mo_high_33 (by decide) ?_
    exact ih (K9 - (k9 + 1)) ls _ locs _ (by rw [hk]; omega) ⟨(k9 + 1), _, rfl, (lv_sub hl [0, 1, 2, 3, 4] rfl), hH, hz, hLo, hkp, f_m, f_aPl, by omega⟩

set_option maxHeartbeats 4000000 in
set_option maxRecDepth 100000 in
theorem c_m_both (l : Launch) (D : va_G) (t : Nat → ClassId) (G : hG) (ak av : Nat → Nat) (h : hM) (mo n aBy aSt aDe aPa aIt aId aPr aNa aSi aSe aIw aEx aOl aPl aTa aAt aLo aS1 aS2 aS3 aS4 aS5 aS6 aO1 aO2 aO3 aO4 aO5 : Nat) (dr wt : Int32) (gPl : Nat → Int32) (P9 K9 : Nat) (p9 k0 v9 : Int32) (f_m : h mo = some (.inr (9, [.int 0, .int (nI n), .int 0, .ref aBy, .ref aSt, .ref aDe, .int 0, .int (-1), .int wt, .ref aPa, .int 1, .ref aIt, .ref aId, .ref aPr, .ref aNa, .ref aSi, .ref aSe, .ref aIw, .ref aEx, .ref aOl, .int 0, .ref aPl, .int dr, .int 0, .ref aTa, .ref aAt, .ref aLo, .int 0, .int 0, .ref aS1, .ref aS2, .ref aS3, .ref aS4, .ref aS5, .ref aS6, .int 0, .ref aO1, .ref aO2, .ref aO3, .ref aO4, .ref aO5]))) (f_aPl : h aPl = some (.inl ((t 0), 163840, .inl gPl))) (hp9 : p9 = nI P9) (hk0 : k0 = nI K9) (hle : P9 + (K9 + K9) ≤ 163840) : Met l y_Mo_both (.code y_Mo_both b_Mo_both 4 none :: lw_g) { frames := 1, cells := 0, slots := 0, locals := 24 } (hP (kE D t G ak av) D vwCl G h [.ref mo, .int p9, .int k0, .int v9]) (hQv D vwCl G (fun h' => kp [aPl] h h' ∧ ∃ g : Nat → Int32, h' aPl = some (.inl ((t 0), 163840, .inl g)))) 0 0 G.P := by
  refine Met.ofW (cc := b_Mo_both) (maxL := 4) (ret := none) (by decide) rfl ?_
  intro p e s m args below meth c s₁ Bd hml hv
  obtain ⟨ha, hE, hH⟩ := hv
  have hx := Bd.exec
  have hb := Bd.bytes
  have hr := Bd.returns
  have hts : ∀ w ∈ lw_g, w.before args s = true := fun w hw => atoms_spec (ws := (.code y_Mo_both b_Mo_both 4 none :: lw_g)) Bd.pre w (List.mem_cons_of_mem _ hw)
  have hown : s.vm.findClass R_Mo = some m.cls := findClass_of_methodNamed Bd.named
  have hlocks := Bd.notSynchronized
  have hK := hE.1
  have hH0 := hH
  have hLo : hLc G.P [] := hLc_nil
  have hz : s.heap.size ≤ s.heap.size := Nat.le_refl _
  have hkp : kp [aPl] h h := kp_rf
  have hl := lv_entry [.ref mo, .int p9, .int k0, .int v9] (n := 4) (Nat.le_of_ble_eq_true rfl)
  rw [show entryFrame m args 4 = F0 m 0 ((lg_sl [.ref mo, .int p9, .int k0, .int v9] ++ List.replicate (4 - (lg_sl [.ref mo, .int p9, .int k0, .int v9]).length) Slot.unset).toArray) [] from (by rw [ha]; exact lg_entry_eq m [.ref mo, .int p9, .int k0, .int v9] 4)]
  generalize (lg_sl [.ref mo, .int p9, .int k0, .int v9] ++ List.replicate (4 - (lg_sl [.ref mo, .int p9, .int k0, .int v9]).length) Slot.unset).toArray = ls at hl ⊢
  have hl : lv_has ls 4 [(0, .ref mo), (1, .int p9), (2, .int k0), (3, .int v9)] := hl
  refine lv_aload_n hx hb d_Mo_both_0 rfl (lv_at hl 0 rfl) ?_
  refine lv_iload_n hx hb d_Mo_both_1 rfl (lv_at hl 1 rfl) ?_
  refine lv_iload_n hx hb d_Mo_both_2 rfl (lv_at hl 2 rfl) ?_
  refine lv_iload_n hx hb d_Mo_both_3 rfl (lv_at hl 3 rfl) ?_
  refine hm_callv (va_runV (As := [.int p9, .int k0, .int v9]) (b := mo) (rest := []) ⟨hx, hb, hml, hown, hts⟩ (c_m_low l D t G ak av h mo n aBy aSt aDe aPa aIt aId aPr aNa aSi aSe aIw aEx aOl aPl aTa aAt aLo aS1 aS2 aS3 aS4 aS5 aS6 aO1 aO2 aO3 aO4 aO5 dr wt gPl P9 K9 p9 k0 v9 f_m f_aPl hp9 hk0 (by omega)) ⟨cw9B 3 hts mw_488 mw_489 mw_428 rfl rfl (by decide +kernel) ⟨Nat.le_of_ble_eq_true rfl, Nat.le_of_ble_eq_true rfl⟩, hts _ mw_490, hts _ mw_491⟩ (hP_V (q := (R_Mo, F_Mo, 41)) kE_ok hE hK hH f_m rfl) rfl rfl hl.1 rfl (lv_room (Nat.le_of_ble_eq_true rfl)) d_Mo_both_4 ⟨Nat.le_of_ble_eq_true rfl, Nat.le_of_ble_eq_true rfl⟩) hLo (fun h1 H2 locs hp4 hH z3 hLo => ?_)
  have hz : s.heap.size ≤ H2.size := Nat.le_trans hz z3
  obtain ⟨hk9, g5, hg9⟩ := hp4
  have f_m : h1 mo = some (.inr (9, [.int 0, .int (nI n), .int 0, .ref aBy, .ref aSt, .ref aDe, .int 0, .int (-1), .int wt, .ref aPa, .int 1, .ref aIt, .ref aId, .ref aPr, .ref aNa, .ref aSi, .ref aSe, .ref aIw, .ref aEx, .ref aOl, .int 0, .ref aPl, .int dr, .int 0, .ref aTa, .ref aAt, .ref aLo, .int 0, .int 0, .ref aS1, .ref aS2, .ref aS3, .ref aS4, .ref aS5, .ref aS6, .int 0, .ref aO1, .ref aO2, .ref aO3, .ref aO4, .ref aO5])) := kp_at hk9 f_m (nmc (Ne.symm (h_neA f_aPl f_m)) nm0)
  have hkp : kp [aPl] h h1 := kp_tr2 hkp hk9 (List.forall_mem_cons.mpr ⟨Or.inl (by simp), List.forall_mem_nil _⟩)
  have f_aPl : h1 aPl = some (.inl ((t 0), 163840, .inl g5)) := hg9
  refine lv_aload_n hx hb d_Mo_both_7 rfl (lv_at hl 0 rfl) ?_
  refine lv_iload_n hx hb d_Mo_both_8 rfl (lv_at hl 1 rfl) ?_
  refine lv_iload_n hx hb d_Mo_both_9 rfl (lv_at hl 2 rfl) ?_
  refine lv_iadd hx hb d_Mo_both_10 ?_
  refine lv_iload_n hx hb d_Mo_both_11 rfl (lv_at hl 2 rfl) ?_
  refine lv_iload_n hx hb d_Mo_both_12 rfl (lv_at hl 3 rfl) ?_
  refine hm_callv (va_runV (As := [.int (p9 + k0), .int k0, .int v9]) (b := mo) (rest := []) ⟨hx, hb, hml, hown, hts⟩ (c_m_high l D t G ak av h1 mo n aBy aSt aDe aPa aIt aId aPr aNa aSi aSe aIw aEx aOl aPl aTa aAt aLo aS1 aS2 aS3 aS4 aS5 aS6 aO1 aO2 aO3 aO4 aO5 dr wt g5 (P9 + K9) K9 (p9 + k0) k0 v9 f_m f_aPl (by rw [hp9, hk0, nI_add]) hk0 (by omega)) ⟨cw9B 3 hts mw_492 mw_493 mw_428 rfl rfl (by decide +kernel) ⟨Nat.le_of_ble_eq_true rfl, Nat.le_of_ble_eq_true rfl⟩, hts _ mw_494, hts _ mw_495⟩ (hP_V (q := (R_Mo, F_Mo, 41)) kE_ok hE hK hH f_m rfl) rfl rfl hl.1 rfl (lv_room (Nat.le_of_ble_eq_true rfl)) d_Mo_both_13 ⟨Nat.le_of_ble_eq_true rfl, Nat.le_of_ble_eq_true rfl⟩) hLo (fun h6 H7 locs hp9 hH z8 hLo => ?_)
  have hz : s.heap.size ≤ H7.size := Nat.le_trans hz z8
  obtain ⟨hk9, g10, hg9⟩ := hp9
  have f_m : h6 mo = some (.inr (9, [.int 0, .int (nI n), .int 0, .ref aBy, .ref aSt, .ref aDe, .int 0, .int (-1), .int wt, .ref aPa, .int 1, .ref aIt, .ref aId, .ref aPr, .ref aNa, .ref aSi, .ref aSe, .ref aIw, .ref aEx, .ref aOl, .int 0, .ref aPl, .int dr, .int 0, .ref aTa, .ref aAt, .ref aLo, .int 0, .int 0, .ref aS1, .ref aS2, .ref aS3, .ref aS4, .ref aS5, .ref aS6, .int 0, .ref aO1, .ref aO2, .ref aO3, .ref aO4, .ref aO5])) := kp_at hk9 f_m (nmc (Ne.symm (h_neA f_aPl f_m)) nm0)
  have hkp : kp [aPl] h h6 := kp_tr2 hkp hk9 (List.forall_mem_cons.mpr ⟨Or.inl (by simp), List.forall_mem_nil _⟩)
  have f_aPl : h6 aPl = some (.inl ((t 0), 163840, .inl g10)) := hg9
  exact W.vret hx hb hr (fun t9 ht hW => ⟨h6, rfl, ⟨hkp, _, f_aPl⟩, by rw [ht]; exact hH, by rw [ht]; exact hz⟩) hLo d_Mo_both_16

set_option maxHeartbeats 4000000 in
set_option maxRecDepth 100000 in
theorem c_m_letters (l : Launch) (D : va_G) (t : Nat → ClassId) (G : hG) (ak av : Nat → Nat) (h : hM) (mo n aBy aSt aDe aPa aIt aId aPr aNa aSi aSe aIw aEx aOl aPl aTa aAt aLo aS1 aS2 aS3 aS4 aS5 aS6 aO1 aO2 aO3 aO4 aO5 : Nat) (dr wt : Int32) (gPl : Nat → Int32) (P9 : Nat) (p9 c1 c2 c3 c4 c5 : Int32) (f_m : h mo = some (.inr (9, [.int 0, .int (nI n), .int 0, .ref aBy, .ref aSt, .ref aDe, .int 0, .int (-1), .int wt, .ref aPa, .int 1, .ref aIt, .ref aId, .ref aPr, .ref aNa, .ref aSi, .ref aSe, .ref aIw, .ref aEx, .ref aOl, .int 0, .ref aPl, .int dr, .int 0, .ref aTa, .ref aAt, .ref aLo, .int 0, .int 0, .ref aS1, .ref aS2, .ref aS3, .ref aS4, .ref aS5, .ref aS6, .int 0, .ref aO1, .ref aO2, .ref aO3, .ref aO4, .ref aO5]))) (f_aPl : h aPl = some (.inl ((t 0), 163840, .inl gPl))) (hp9 : p9 = nI P9) (hle : P9 + 5 ≤ 163840) : Met l y_Mo_letters (.code y_Mo_letters b_Mo_letters 7 none :: lw_g) { frames := 0, cells := 0, slots := 0, locals := 0 } (hP (kE D t G ak av) D vwCl G h [.ref mo, .int p9, .int c1, .int c2, .int c3, .int c4, .int c5]) (hQv D vwCl G (fun h' => kp [aPl] h h' ∧ ∃ g : Nat → Int32, h' aPl = some (.inl ((t 0), 163840, .inl g)))) 0 0 G.P := by
  refine Met.ofW (cc := b_Mo_letters) (maxL := 7) (ret := none) (by decide) rfl ?_
  intro p e s m args below meth c s₁ Bd hml hv
  obtain ⟨ha, hE, hH⟩ := hv
  have hx := Bd.exec
  have hb := Bd.bytes
  have hr := Bd.returns
  have hts : ∀ w ∈ lw_g, w.before args s = true := fun w hw => atoms_spec (ws := (.code y_Mo_letters b_Mo_letters 7 none :: lw_g)) Bd.pre w (List.mem_cons_of_mem _ hw)
  have hown : s.vm.findClass R_Mo = some m.cls := findClass_of_methodNamed Bd.named
  have hlocks := Bd.notSynchronized
  have hK := hE.1
  have hH0 := hH
  have hLo : hLc G.P [] := hLc_nil
  have hz : s.heap.size ≤ s.heap.size := Nat.le_refl _
  have hkp : kp [aPl] h h := kp_rf
  have hl := lv_entry [.ref mo, .int p9, .int c1, .int c2, .int c3, .int c4, .int c5] (n := 7) (Nat.le_of_ble_eq_true rfl)
  rw [show entryFrame m args 7 = F0 m 0 ((lg_sl [.ref mo, .int p9, .int c1, .int c2, .int c3, .int c4, .int c5] ++ List.replicate (7 - (lg_sl [.ref mo, .int p9, .int c1, .int c2, .int c3, .int c4, .int c5]).length) Slot.unset).toArray) [] from (by rw [ha]; exact lg_entry_eq m [.ref mo, .int p9, .int c1, .int c2, .int c3, .int c4, .int c5] 7)]
  generalize (lg_sl [.ref mo, .int p9, .int c1, .int c2, .int c3, .int c4, .int c5] ++ List.replicate (7 - (lg_sl [.ref mo, .int p9, .int c1, .int c2, .int c3, .int c4, .int c5]).length) Slot.unset).toArray = ls at hl ⊢
  have hl : lv_has ls 7 [(0, .ref mo), (1, .int p9), (2, .int c1), (3, .int c2), (4, .int c3), (5, .int c4), (6, .int c5)] := hl
  subst hp9
  refine lv_aload_n hx hb d_Mo_letters_0 rfl (lv_at hl 0 rfl) ?_
  refine hm_get (ci := 9) (v := .ref aPl) (C := R_Mo) (T := F_Mo) (N := 41) hx hb hts ig_Mo hown hK hH f_m rfl 21 (by decide) (hts _ mw_410) (fun _ h9 => h9) rfl d_Mo_letters_1 ?_
  refine lv_iload_n hx hb d_Mo_letters_4 rfl (lv_at hl 1 rfl) ?_
  refine lv_iload_n hx hb d_Mo_letters_5 rfl (lv_at hl 2 rfl) ?_
  refine lv_i2b (v := c1.toInt8.toInt32) hx hb d_Mo_letters_6 rfl ?_
  refine hj_bast hx hb hK hH hLo 0 f_aPl rfl P9 rfl (by omega) (by decide) d_Mo_letters_7 (fun H1 locs hH z2 hLo => ?_)
  have hz : s.heap.size ≤ H1.size := by rw [z2]; exact hz
  obtain ⟨h3, e4⟩ : ∃ z, z = hu h aPl (.inl ((t 0), 163840, .inl (upd gPl P9 (vp_nar .byte c1.toInt8.toInt32)))) := ⟨_, rfl⟩
  have hH : hm D vwCl G h3 H1 := by rw [e4]; exact hH
  have f_m : h3 mo = some (.inr (9, [.int 0, .int (nI n), .int 0, .ref aBy, .ref aSt, .ref aDe, .int 0, .int (-1), .int wt, .ref aPa, .int 1, .ref aIt, .ref aId, .ref aPr, .ref aNa, .ref aSi, .ref aSe, .ref aIw, .ref aEx, .ref aOl, .int 0, .ref aPl, .int dr, .int 0, .ref aTa, .ref aAt, .ref aLo, .int 0, .int 0, .ref aS1, .ref aS2, .ref aS3, .ref aS4, .ref aS5, .ref aS6, .int 0, .ref aO1, .ref aO2, .ref aO3, .ref aO4, .ref aO5])) := by rw [e4, hu_n (Ne.symm (h_neA f_aPl f_m))]; exact f_m
  have f_aPl : h3 aPl = some (.inl ((t 0), 163840, .inl (upd gPl P9 (vp_nar .byte c1.toInt8.toInt32)))) := by rw [e4]; exact hu_s _ _ _
  have hkp : kp [aPl] h h3 := by rw [e4]; exact kp_put hkp (by simp)
  refine lv_aload_n hx hb d_Mo_letters_8 rfl (lv_at hl 0 rfl) ?_
  refine hm_get (ci := 9) (v := .ref aPl) (C := R_Mo) (T := F_Mo) (N := 41) hx hb hts ig_Mo hown hK hH f_m rfl 21 (by decide) (hts _ mw_410) (fun _ h9 => h9) rfl d_Mo_letters_9 ?_
  refine lv_iload_n hx hb d_Mo_letters_12 rfl (lv_at hl 1 rfl) ?_
  refine lv_iconst (v := 1) hx hb d_Mo_letters_13 (by decide) ?_
  refine lv_iadd hx hb d_Mo_letters_14 ?_
  refine lv_iload_n hx hb d_Mo_letters_15 rfl (lv_at hl 3 rfl) ?_
  refine lv_i2b (v := c2.toInt8.toInt32) hx hb d_Mo_letters_16 rfl ?_
  refine hj_bast hx hb hK hH hLo 0 f_aPl rfl (P9 + 1) (nI_add _ _) (by omega) (by decide) d_Mo_letters_17 (fun H5 locs hH z6 hLo => ?_)
  have hz : s.heap.size ≤ H5.size := by rw [z6]; exact hz
  obtain ⟨h7, e8⟩ : ∃ z, z = hu h3 aPl (.inl ((t 0), 163840, .inl (upd (upd gPl P9 (vp_nar .byte c1.toInt8.toInt32)) (P9 + 1) (vp_nar .byte c2.toInt8.toInt32)))) := ⟨_, rfl⟩
  have hH : hm D vwCl G h7 H5 := by rw [e8]; exact hH
  have f_m : h7 mo = some (.inr (9, [.int 0, .int (nI n), .int 0, .ref aBy, .ref aSt, .ref aDe, .int 0, .int (-1), .int wt, .ref aPa, .int 1, .ref aIt, .ref aId, .ref aPr, .ref aNa, .ref aSi, .ref aSe, .ref aIw, .ref aEx, .ref aOl, .int 0, .ref aPl, .int dr, .int 0, .ref aTa, .ref aAt, .ref aLo, .int 0, .int 0, .ref aS1, .ref aS2, .ref aS3, .ref aS4, .ref aS5, .ref aS6, .int 0, .ref aO1, .ref aO2, .ref aO3, .ref aO4, .ref aO5])) := by rw [e8, hu_n (Ne.symm (h_neA f_aPl f_m))]; exact f_m
  have f_aPl : h7 aPl = some (.inl ((t 0), 163840, .inl (upd (upd gPl P9 (vp_nar .byte c1.toInt8.toInt32)) (P9 + 1) (vp_nar .byte c2.toInt8.toInt32)))) := by rw [e8]; exact hu_s _ _ _
  have hkp : kp [aPl] h h7 := by rw [e8]; exact kp_put hkp (by simp)
  refine lv_aload_n hx hb d_Mo_letters_18 rfl (lv_at hl 0 rfl) ?_
  refine hm_get (ci := 9) (v := .ref aPl) (C := R_Mo) (T := F_Mo) (N := 41) hx hb hts ig_Mo hown hK hH f_m rfl 21 (by decide) (hts _ mw_410) (fun _ h9 => h9) rfl d_Mo_letters_19 ?_
  refine lv_iload_n hx hb d_Mo_letters_22 rfl (lv_at hl 1 rfl) ?_
  refine lv_iconst (v := 2) hx hb d_Mo_letters_23 (by decide) ?_
  refine lv_iadd hx hb d_Mo_letters_24 ?_
  refine lv_iload hx hb d_Mo_letters_25 (lv_at hl 4 rfl) ?_
  refine lv_i2b (v := c3.toInt8.toInt32) hx hb d_Mo_letters_27 rfl ?_
  refine hj_bast hx hb hK hH hLo 0 f_aPl rfl (P9 + 2) (nI_add _ _) (by omega) (by decide) d_Mo_letters_28 (fun H9 locs hH z10 hLo => ?_)
  have hz : s.heap.size ≤ H9.size := by rw [z10]; exact hz
  obtain ⟨h11, e12⟩ : ∃ z, z = hu h7 aPl (.inl ((t 0), 163840, .inl (upd (upd (upd gPl P9 (vp_nar .byte c1.toInt8.toInt32)) (P9 + 1) (vp_nar .byte c2.toInt8.toInt32)) (P9 + 2) (vp_nar .byte c3.toInt8.toInt32)))) := ⟨_, rfl⟩
  have hH : hm D vwCl G h11 H9 := by rw [e12]; exact hH
  have f_m : h11 mo = some (.inr (9, [.int 0, .int (nI n), .int 0, .ref aBy, .ref aSt, .ref aDe, .int 0, .int (-1), .int wt, .ref aPa, .int 1, .ref aIt, .ref aId, .ref aPr, .ref aNa, .ref aSi, .ref aSe, .ref aIw, .ref aEx, .ref aOl, .int 0, .ref aPl, .int dr, .int 0, .ref aTa, .ref aAt, .ref aLo, .int 0, .int 0, .ref aS1, .ref aS2, .ref aS3, .ref aS4, .ref aS5, .ref aS6, .int 0, .ref aO1, .ref aO2, .ref aO3, .ref aO4, .ref aO5])) := by rw [e12, hu_n (Ne.symm (h_neA f_aPl f_m))]; exact f_m
  have f_aPl : h11 aPl = some (.inl ((t 0), 163840, .inl (upd (upd (upd gPl P9 (vp_nar .byte c1.toInt8.toInt32)) (P9 + 1) (vp_nar .byte c2.toInt8.toInt32)) (P9 + 2) (vp_nar .byte c3.toInt8.toInt32)))) := by rw [e12]; exact hu_s _ _ _
  have hkp : kp [aPl] h h11 := by rw [e12]; exact kp_put hkp (by simp)
  refine lv_aload_n hx hb d_Mo_letters_29 rfl (lv_at hl 0 rfl) ?_
  refine hm_get (ci := 9) (v := .ref aPl) (C := R_Mo) (T := F_Mo) (N := 41) hx hb hts ig_Mo hown hK hH f_m rfl 21 (by decide) (hts _ mw_410) (fun _ h9 => h9) rfl d_Mo_letters_30 ?_
  refine lv_iload_n hx hb d_Mo_letters_33 rfl (lv_at hl 1 rfl) ?_
  refine lv_iconst (v := 3) hx hb d_Mo_letters_34 (by decide) ?_
  refine lv_iadd hx hb d_Mo_letters_35 ?_
  refine lv_iload hx hb d_Mo_letters_36 (lv_at hl 5 rfl) ?_
  refine lv_i2b (v := c4.toInt8.toInt32) hx hb d_Mo_letters_38 rfl ?_
  refine hj_bast hx hb hK hH hLo 0 f_aPl rfl (P9 + 3) (nI_add _ _) (by omega) (by decide) d_Mo_letters_39 (fun H13 locs hH z14 hLo => ?_)
  have hz : s.heap.size ≤ H13.size := by rw [z14]; exact hz
  obtain ⟨h15, e16⟩ : ∃ z, z = hu h11 aPl (.inl ((t 0), 163840, .inl (upd (upd (upd (upd gPl P9 (vp_nar .byte c1.toInt8.toInt32)) (P9 + 1) (vp_nar .byte c2.toInt8.toInt32)) (P9 + 2) (vp_nar .byte c3.toInt8.toInt32)) (P9 + 3) (vp_nar .byte c4.toInt8.toInt32)))) := ⟨_, rfl⟩
  have hH : hm D vwCl G h15 H13 := by rw [e16]; exact hH
  have f_m : h15 mo = some (.inr (9, [.int 0, .int (nI n), .int 0, .ref aBy, .ref aSt, .ref aDe, .int 0, .int (-1), .int wt, .ref aPa, .int 1, .ref aIt, .ref aId, .ref aPr, .ref aNa, .ref aSi, .ref aSe, .ref aIw, .ref aEx, .ref aOl, .int 0, .ref aPl, .int dr, .int 0, .ref aTa, .ref aAt, .ref aLo, .int 0, .int 0, .ref aS1, .ref aS2, .ref aS3, .ref aS4, .ref aS5, .ref aS6, .int 0, .ref aO1, .ref aO2, .ref aO3, .ref aO4, .ref aO5])) := by rw [e16, hu_n (Ne.symm (h_neA f_aPl f_m))]; exact f_m
  have f_aPl : h15 aPl = some (.inl ((t 0), 163840, .inl (upd (upd (upd (upd gPl P9 (vp_nar .byte c1.toInt8.toInt32)) (P9 + 1) (vp_nar .byte c2.toInt8.toInt32)) (P9 + 2) (vp_nar .byte c3.toInt8.toInt32)) (P9 + 3) (vp_nar .byte c4.toInt8.toInt32)))) := by rw [e16]; exact hu_s _ _ _
  have hkp : kp [aPl] h h15 := by rw [e16]; exact kp_put hkp (by simp)
  refine lv_aload_n hx hb d_Mo_letters_40 rfl (lv_at hl 0 rfl) ?_
  refine hm_get (ci := 9) (v := .ref aPl) (C := R_Mo) (T := F_Mo) (N := 41) hx hb hts ig_Mo hown hK hH f_m rfl 21 (by decide) (hts _ mw_410) (fun _ h9 => h9) rfl d_Mo_letters_41 ?_
  refine lv_iload_n hx hb d_Mo_letters_44 rfl (lv_at hl 1 rfl) ?_
  refine lv_iconst (v := 4) hx hb d_Mo_letters_45 (by decide) ?_
  refine lv_iadd hx hb d_Mo_letters_46 ?_
  refine lv_iload hx hb d_Mo_letters_47 (lv_at hl 6 rfl) ?_
  refine lv_i2b (v := c5.toInt8.toInt32) hx hb d_Mo_letters_49 rfl ?_
  refine hj_bast hx hb hK hH hLo 0 f_aPl rfl (P9 + 4) (nI_add _ _) (by omega) (by decide) d_Mo_letters_50 (fun H17 locs hH z18 hLo => ?_)
  have hz : s.heap.size ≤ H17.size := by rw [z18]; exact hz
  obtain ⟨h19, e20⟩ : ∃ z, z = hu h15 aPl (.inl ((t 0), 163840, .inl (upd (upd (upd (upd (upd gPl P9 (vp_nar .byte c1.toInt8.toInt32)) (P9 + 1) (vp_nar .byte c2.toInt8.toInt32)) (P9 + 2) (vp_nar .byte c3.toInt8.toInt32)) (P9 + 3) (vp_nar .byte c4.toInt8.toInt32)) (P9 + 4) (vp_nar .byte c5.toInt8.toInt32)))) := ⟨_, rfl⟩
  have hH : hm D vwCl G h19 H17 := by rw [e20]; exact hH
  have f_m : h19 mo = some (.inr (9, [.int 0, .int (nI n), .int 0, .ref aBy, .ref aSt, .ref aDe, .int 0, .int (-1), .int wt, .ref aPa, .int 1, .ref aIt, .ref aId, .ref aPr, .ref aNa, .ref aSi, .ref aSe, .ref aIw, .ref aEx, .ref aOl, .int 0, .ref aPl, .int dr, .int 0, .ref aTa, .ref aAt, .ref aLo, .int 0, .int 0, .ref aS1, .ref aS2, .ref aS3, .ref aS4, .ref aS5, .ref aS6, .int 0, .ref aO1, .ref aO2, .ref aO3, .ref aO4, .ref aO5])) := by rw [e20, hu_n (Ne.symm (h_neA f_aPl f_m))]; exact f_m
  have f_aPl : h19 aPl = some (.inl ((t 0), 163840, .inl (upd (upd (upd (upd (upd gPl P9 (vp_nar .byte c1.toInt8.toInt32)) (P9 + 1) (vp_nar .byte c2.toInt8.toInt32)) (P9 + 2) (vp_nar .byte c3.toInt8.toInt32)) (P9 + 3) (vp_nar .byte c4.toInt8.toInt32)) (P9 + 4) (vp_nar .byte c5.toInt8.toInt32)))) := by rw [e20]; exact hu_s _ _ _
  have hkp : kp [aPl] h h19 := by rw [e20]; exact kp_put hkp (by simp)
  exact W.vret hx hb hr (fun t9 ht hW => ⟨h19, rfl, ⟨hkp, _, f_aPl⟩, by rw [ht]; exact hH, by rw [ht]; exact hz⟩) hLo d_Mo_letters_51

set_option maxHeartbeats 4000000 in
set_option maxRecDepth 100000 in
theorem c_m_even (l : Launch) (D : va_G) (t : Nat → ClassId) (G : hG) (ak av : Nat → Nat) (h : hM) (x : Int32) : Met l y_Mo_even (.code y_Mo_even b_Mo_even 1 (some .int) :: lw_g) { frames := 0, cells := 0, slots := 0, locals := 0 } (hP (kE D t G ak av) D vwCl G h [.int x]) (hQi D vwCl G (fun r h' => r = x + (x - x / 2 * 2) ∧ h = h')) 0 0 G.P := by
  refine Met.ofW (cc := b_Mo_even) (maxL := 1) (ret := (some .int)) (by decide) rfl ?_
  intro p e s m args below meth c s₁ Bd hml hv
  obtain ⟨ha, hE, hH⟩ := hv
  have hx := Bd.exec
  have hb := Bd.bytes
  have hr := Bd.returns
  have hts : ∀ w ∈ lw_g, w.before args s = true := fun w hw => atoms_spec (ws := (.code y_Mo_even b_Mo_even 1 (some .int) :: lw_g)) Bd.pre w (List.mem_cons_of_mem _ hw)
  have hown : s.vm.findClass R_Mo = some m.cls := findClass_of_methodNamed Bd.named
  have hlocks := Bd.notSynchronized
  have hK := hE.1
  have hH0 := hH
  have hLo : hLc G.P [] := hLc_nil
  have hz : s.heap.size ≤ s.heap.size := Nat.le_refl _
  have hkp : kp [] h h := kp_rf
  have hl := lv_entry [.int x] (n := 1) (Nat.le_of_ble_eq_true rfl)
  rw [show entryFrame m args 1 = F0 m 0 ((lg_sl [.int x] ++ List.replicate (1 - (lg_sl [.int x]).length) Slot.unset).toArray) [] from (by rw [ha]; exact lg_entry_eq m [.int x] 1)]
  generalize (lg_sl [.int x] ++ List.replicate (1 - (lg_sl [.int x]).length) Slot.unset).toArray = ls at hl ⊢
  have hl : lv_has ls 1 [(0, .int x)] := hl
  refine lv_iload_n hx hb d_Mo_even_0 rfl (lv_at hl 0 rfl) ?_
  refine lv_iload_n hx hb d_Mo_even_1 rfl (lv_at hl 0 rfl) ?_
  refine lv_iconst (v := 2) hx hb d_Mo_even_2 (by decide) ?_
  refine lv_irem hx hb d_Mo_even_3 (by decide) ?_
  refine lv_iadd hx hb d_Mo_even_4 ?_
  exact W.iret (v := x + (x - x / 2 * 2)) hx hb hr (fun t9 ht hW => ⟨x + (x - x / 2 * 2), h, rfl, ⟨rfl, rfl⟩, by rw [ht]; exact hH, by rw [ht]; exact hz⟩) hLo d_Mo_even_5

set_option maxHeartbeats 4000000 in
set_option maxRecDepth 100000 in
theorem c_m_recordId (l : Launch) (D : va_G) (t : Nat → ClassId) (G : hG) (ak av : Nat → Nat) (h : hM) (mo : Nat) (so kk : Int32) (hso : ¬ (2 : Int32) ≤ so) : Met l y_Mo_recordId (.code y_Mo_recordId b_Mo_recordId 3 (some .int) :: lw_g) { frames := 0, cells := 0, slots := 0, locals := 0 } (hP (kE D t G ak av) D vwCl G h [.ref mo, .int so, .int kk]) (hQi D vwCl G (fun r h' => r = 1 ∧ h = h')) 0 0 G.P := by
  refine Met.ofW (cc := b_Mo_recordId) (maxL := 3) (ret := (some .int)) (by decide) rfl ?_
  intro p e s m args below meth c s₁ Bd hml hv
  obtain ⟨ha, hE, hH⟩ := hv
  have hx := Bd.exec
  have hb := Bd.bytes
  have hr := Bd.returns
  have hts : ∀ w ∈ lw_g, w.before args s = true := fun w hw => atoms_spec (ws := (.code y_Mo_recordId b_Mo_recordId 3 (some .int) :: lw_g)) Bd.pre w (List.mem_cons_of_mem _ hw)
  have hown : s.vm.findClass R_Mo = some m.cls := findClass_of_methodNamed Bd.named
  have hlocks := Bd.notSynchronized
  have hK := hE.1
  have hH0 := hH
  have hLo : hLc G.P [] := hLc_nil
  have hz : s.heap.size ≤ s.heap.size := Nat.le_refl _
  have hkp : kp [] h h := kp_rf
  have hl := lv_entry [.ref mo, .int so, .int kk] (n := 3) (Nat.le_of_ble_eq_true rfl)
  rw [show entryFrame m args 3 = F0 m 0 ((lg_sl [.ref mo, .int so, .int kk] ++ List.replicate (3 - (lg_sl [.ref mo, .int so, .int kk]).length) Slot.unset).toArray) [] from (by rw [ha]; exact lg_entry_eq m [.ref mo, .int so, .int kk] 3)]
  generalize (lg_sl [.ref mo, .int so, .int kk] ++ List.replicate (3 - (lg_sl [.ref mo, .int so, .int kk]).length) Slot.unset).toArray = ls at hl ⊢
  have hl : lv_has ls 3 [(0, .ref mo), (1, .int so), (2, .int kk)] := hl
  refine lv_iload_n hx hb d_Mo_recordId_0 rfl (lv_at hl 1 rfl) ?_
  refine lv_iconst (v := 2) hx hb d_Mo_recordId_1 (by decide) ?_
  refine lv_icmp_ge (tgt := 9) hx hb d_Mo_recordId_2 (by decide) (fun hc1 => absurd hc1 hso) (fun hc1 => ?_)
  refine lv_iconst (v := 1) hx hb d_Mo_recordId_5 (by decide) ?_
  refine lv_goto (tgt := 24) hx hb d_Mo_recordId_6 (by decide) ?_
  exact W.iret (v := 1) hx hb hr (fun t9 ht hW => ⟨1, h, rfl, ⟨rfl, rfl⟩, by rw [ht]; exact hH, by rw [ht]; exact hz⟩) hLo d_Mo_recordId_24

set_option maxHeartbeats 4000000 in
set_option maxRecDepth 100000 in
theorem c_m_record (l : Launch) (D : va_G) (t : Nat → ClassId) (G : hG) (ak av : Nat → Nat) (h : hM) (mo n aBy aSt aDe aPa aIt aId aPr aNa aSi aSe aIw aEx aOl aPl aTa aAt aLo aS1 aS2 aS3 aS4 aS5 aS6 aO1 aO2 aO3 aO4 aO5 : Nat) (dr wt : Int32) (gPl gId gAt gLo : Nat → Int32) (P9 : Nat) (p9 so : Int32) (f_m : h mo = some (.inr (9, [.int 0, .int (nI n), .int 0, .ref aBy, .ref aSt, .ref aDe, .int 0, .int (-1), .int wt, .ref aPa, .int 1, .ref aIt, .ref aId, .ref aPr, .ref aNa, .ref aSi, .ref aSe, .ref aIw, .ref aEx, .ref aOl, .int 0, .ref aPl, .int dr, .int 0, .ref aTa, .ref aAt, .ref aLo, .int 0, .int 0, .ref aS1, .ref aS2, .ref aS3, .ref aS4, .ref aS5, .ref aS6, .int 0, .ref aO1, .ref aO2, .ref aO3, .ref aO4, .ref aO5]))) (f_aPl : h aPl = some (.inl ((t 0), 163840, .inl gPl))) (f_aId : h aId = some (.inl ((t 1), 700, .inl gId))) (f_aAt : h aAt = some (.inl ((t 2), 700, .inl gAt))) (f_aLo : h aLo = some (.inl ((t 2), 700, .inl gLo))) (zId : gId 0 = 1) (hso : ¬ (2 : Int32) ≤ so) (hp9 : p9 = nI P9) (hle : P9 + 34 ≤ 163840) (ne_aId_aAt : aId ≠ aAt) (ne_aId_aLo : aId ≠ aLo) (ne_aAt_aLo : aAt ≠ aLo) : Met l y_Mo_record (.code y_Mo_record b_Mo_record 6 none :: lw_g) { frames := 2, cells := 0, slots := 0, locals := 47 } (hP (kE D t G ak av) D vwCl G h [.ref mo, .int p9, .int so, .int 0]) (hQv D vwCl G (fun h' => kp [aPl] h h' ∧ ∃ g : Nat → Int32, h' aPl = some (.inl ((t 0), 163840, .inl g)))) 0 0 G.P := by
  refine Met.ofW (cc := b_Mo_record) (maxL := 6) (ret := none) (by decide) rfl ?_
  intro p e s m args below meth c s₁ Bd hml hv
  obtain ⟨ha, hE, hH⟩ := hv
  have hx := Bd.exec
  have hb := Bd.bytes
  have hr := Bd.returns
  have hts : ∀ w ∈ lw_g, w.before args s = true := fun w hw => atoms_spec (ws := (.code y_Mo_record b_Mo_record 6 none :: lw_g)) Bd.pre w (List.mem_cons_of_mem _ hw)
  have hown : s.vm.findClass R_Mo = some m.cls := findClass_of_methodNamed Bd.named
  have hlocks := Bd.notSynchronized
  have hK := hE.1
  have hH0 := hH
  have hLo : hLc G.P [] := hLc_nil
  have hz : s.heap.size ≤ s.heap.size := Nat.le_refl _
  have hkp : kp [aPl] h h := kp_rf
  have hl := lv_entry [.ref mo, .int p9, .int so, .int 0] (n := 6) (Nat.le_of_ble_eq_true rfl)
  rw [show entryFrame m args 6 = F0 m 0 ((lg_sl [.ref mo, .int p9, .int so, .int 0] ++ List.replicate (6 - (lg_sl [.ref mo, .int p9, .int so, .int 0]).length) Slot.unset).toArray) [] from (by rw [ha]; exact lg_entry_eq m [.ref mo, .int p9, .int so, .int 0] 6)]
  generalize (lg_sl [.ref mo, .int p9, .int so, .int 0] ++ List.replicate (6 - (lg_sl [.ref mo, .int p9, .int so, .int 0]).length) Slot.unset).toArray = ls at hl ⊢
  have hl : lv_has ls 6 [(0, .ref mo), (1, .int p9), (2, .int so), (3, .int 0)] := hl
  subst hp9
  refine lv_aload_n hx hb d_Mo_record_0 rfl (lv_at hl 0 rfl) ?_
  refine lv_iload_n hx hb d_Mo_record_1 rfl (lv_at hl 2 rfl) ?_
  refine lv_iload_n hx hb d_Mo_record_2 rfl (lv_at hl 3 rfl) ?_
  refine hm_calli (va_runV (As := [.int so, .int 0]) (b := mo) (rest := []) ⟨hx, hb, hml, hown, hts⟩ (c_m_recordId l D t G ak av h mo so 0 hso) ⟨cw9B 2 hts mw_496 mw_497 mw_428 rfl rfl (by decide +kernel) ⟨Nat.le_of_ble_eq_true rfl, Nat.le_of_ble_eq_true rfl⟩, hts _ mw_498, hts _ mw_499⟩ (hP_V (q := (R_Mo, F_Mo, 41)) kE_ok hE hK hH f_m rfl) rfl rfl hl.1 rfl (lv_room (Nat.le_of_ble_eq_true rfl)) d_Mo_record_3 ⟨Nat.le_of_ble_eq_true rfl, Nat.le_of_ble_eq_true rfl⟩) hLo (fun r1 h2 H3 locs hp5 hH z4 hLo => ?_)
  have hz : s.heap.size ≤ H3.size := Nat.le_trans hz z4
  obtain ⟨rfl, rfl⟩ := hp5
  refine lv_istore (lv' := [(4, .int 1), (0, .ref mo), (1, .int (nI P9)), (2, .int so), (3, .int 0)]) hx hb d_Mo_record_6 hl (by decide) rfl (fun ls hl => ?_)
  refine lv_aload_n hx hb d_Mo_record_8 rfl (lv_at hl 1 rfl) ?_
  refine hm_get (ci := 9) (v := .ref aPl) (C := R_Mo) (T := F_Mo) (N := 41) hx hb hts ig_Mo hown hK hH f_m rfl 21 (by decide) (hts _ mw_410) (fun _ h9 => h9) rfl d_Mo_record_9 ?_
  refine lv_iload_n hx hb d_Mo_record_12 rfl (lv_at hl 2 rfl) ?_
  refine lv_bipush (v := 33) hx hb d_Mo_record_13 (by decide) ?_
  refine lv_iload hx hb d_Mo_record_15 (lv_at hl 0 rfl) ?_
  refine lv_iadd hx hb d_Mo_record_17 ?_
  refine hm_calli (va_runS (As := [.int (33 + 1)]) (rest := [.int (nI P9), .ref aPl]) ⟨hx, hb, hml, hown, hts⟩ (c_m_even l D t G ak av h (33 + 1)) ⟨cw9B 1 hts mw_500 mw_501 mw_428 rfl rfl (by decide +kernel) ⟨Nat.le_of_ble_eq_true rfl, Nat.le_of_ble_eq_true rfl⟩, hts _ mw_502⟩ (hP_S kE_ok hE hH) rfl rfl hl.1 rfl (lv_room (Nat.le_of_ble_eq_true rfl)) d_Mo_record_18 ⟨Nat.le_of_ble_eq_true rfl, Nat.le_of_ble_eq_true rfl⟩) hLo (fun r6 h7 H8 locs hp10 hH z9 hLo => ?_)
  have hz : s.heap.size ≤ H8.size := Nat.le_trans hz z9
  obtain ⟨rfl, rfl⟩ := hp10
  refine lv_i2b (v := (33 + 1 + (33 + 1 - (33 + 1) / 2 * 2)).toInt8.toInt32) hx hb d_Mo_record_21 rfl ?_
  refine hj_bast hx hb hK hH hLo 0 f_aPl rfl P9 rfl (by omega) (by decide) d_Mo_record_22 (fun H11 locs hH z12 hLo => ?_)
  have hz : s.heap.size ≤ H11.size := by rw [z12]; exact hz
  obtain ⟨h13, e14⟩ : ∃ z, z = hu h aPl (.inl ((t 0), 163840, .inl (upd gPl P9 (vp_nar .byte ((33 + 1 + (33 + 1 - (33 + 1) / 2 * 2)).toInt8.toInt32))))) := ⟨_, rfl⟩
  have hH : hm D vwCl G h13 H11 := by rw [e14]; exact hH
  have f_m : h13 mo = some (.inr (9, [.int 0, .int (nI n), .int 0, .ref aBy, .ref aSt, .ref aDe, .int 0, .int (-1), .int wt, .ref aPa, .int 1, .ref aIt, .ref aId, .ref aPr, .ref aNa, .ref aSi, .ref aSe, .ref aIw, .ref aEx, .ref aOl, .int 0, .ref aPl, .int dr, .int 0, .ref aTa, .ref aAt, .ref aLo, .int 0, .int 0, .ref aS1, .ref aS2, .ref aS3, .ref aS4, .ref aS5, .ref aS6, .int 0, .ref aO1, .ref aO2, .ref aO3, .ref aO4, .ref aO5])) := by rw [e14, hu_n (Ne.symm (h_neA f_aPl f_m))]; exact f_m
  have f_aId : h13 aId = some (.inl ((t 1), 700, .inl gId)) := by rw [e14, hu_n (h_neL (k1 := 700) (k2 := 163840) f_aId f_aPl rfl rfl (by omega))]; exact f_aId
  have f_aAt : h13 aAt = some (.inl ((t 2), 700, .inl gAt)) := by rw [e14, hu_n (h_neL (k1 := 700) (k2 := 163840) f_aAt f_aPl rfl rfl (by omega))]; exact f_aAt
  have f_aLo : h13 aLo = some (.inl ((t 2), 700, .inl gLo)) := by rw [e14, hu_n (h_neL (k1 := 700) (k2 := 163840) f_aLo f_aPl rfl rfl (by omega))]; exact f_aLo
  have f_aPl : h13 aPl = some (.inl ((t 0), 163840, .inl (upd gPl P9 (vp_nar .byte ((33 + 1 + (33 + 1 - (33 + 1) / 2 * 2)).toInt8.toInt32))))) := by rw [e14]; exact hu_s _ _ _
  have hkp : kp [aPl] h h13 := by rw [e14]; exact kp_put hkp (by simp)
  refine lv_aload_n hx hb d_Mo_record_23 rfl (lv_at hl 1 rfl) ?_
  refine lv_iload_n hx hb d_Mo_record_24 rfl (lv_at hl 2 rfl) ?_
  refine lv_iconst (v := 2) hx hb d_Mo_record_25 (by decide) ?_
  refine lv_iadd hx hb d_Mo_record_26 ?_
  refine lv_iconst (v := 4) hx hb d_Mo_record_27 (by decide) ?_
  refine lv_aload_n hx hb d_Mo_record_28 rfl (lv_at hl 1 rfl) ?_
  refine hm_get (ci := 9) (v := .ref aId) (C := R_Mo) (T := F_Mo) (N := 41) hx hb hts ig_Mo hown hK hH f_m rfl 12 (by decide) (hts _ mw_392) (fun _ h9 => h9) rfl d_Mo_record_29 ?_
  refine lv_iload_n hx hb d_Mo_record_32 rfl (lv_at hl 4 rfl) ?_
  refine hj_zald hx hb hK hH 1 f_aId rfl 0 (by decide) (by decide) (by decide) d_Mo_record_33 ?_
  refine lv_if_eq (tgt := 46) hx hb d_Mo_record_34 (by decide) (fun hc15 => absurd hc15 (by rw [zId]; decide)) (fun hc15 => ?_)
  refine lv_aload_n hx hb d_Mo_record_37 rfl (lv_at hl 1 rfl) ?_
  refine hm_get (ci := 9) (v := .ref aAt) (C := R_Mo) (T := F_Mo) (N := 41) hx hb hts ig_Mo hown hK hH f_m rfl 25 (by decide) (hts _ mw_412) (fun _ h9 => h9) rfl d_Mo_record_38 ?_
  refine lv_iload_n hx hb d_Mo_record_41 rfl (lv_at hl 4 rfl) ?_
  refine hj_iald hx hb hK hH 2 f_aAt rfl 0 (by decide) (by decide) (by decide) d_Mo_record_42 ?_
  refine lv_goto (tgt := 52) hx hb d_Mo_record_43 (by decide) ?_
  refine hm_callv (va_runV (As := [.int ((nI P9) + 2), .int 4, .int (gAt 0)]) (b := mo) (rest := []) ⟨hx, hb, hml, hown, hts⟩ (c_m_both l D t G ak av h13 mo n aBy aSt aDe aPa aIt aId aPr aNa aSi aSe aIw aEx aOl aPl aTa aAt aLo aS1 aS2 aS3 aS4 aS5 aS6 aO1 aO2 aO3 aO4 aO5 dr wt (upd gPl P9 (vp_nar .byte ((33 + 1 + (33 + 1 - (33 + 1) / 2 * 2)).toInt8.toInt32))) (P9 + 2) 4 (nI P9 + 2) 4 (gAt 0) f_m f_aPl (nI_add _ _) rfl (by omega)) ⟨cw9B 3 hts mw_503 mw_504 mw_428 rfl rfl (by decide +kernel) ⟨Nat.le_of_ble_eq_true rfl, Nat.le_of_ble_eq_true rfl⟩, hts _ mw_505, hts _ mw_506⟩ (hP_V (q := (R_Mo, F_Mo, 41)) kE_ok hE hK hH f_m rfl) rfl rfl hl.1 rfl (lv_room (Nat.le_of_ble_eq_true rfl)) d_Mo_record_52 ⟨Nat.le_of_ble_eq_true rfl, Nat.le_of_ble_eq_true rfl⟩) hLo (fun h16 H17 locs hp19 hH z18 hLo => ?_)
  have hz : s.heap.size ≤ H17.size := Nat.le_trans hz z18
  obtain ⟨hk9, g20, hg9⟩ := hp19
  have f_m : h16 mo = some (.inr (9, [.int 0, .int (nI n), .int 0, .ref aBy, .ref aSt, .ref aDe, .int 0, .int (-1), .int wt, .ref aPa, .int 1, .ref aIt, .ref aId, .ref aPr, .ref aNa, .ref aSi, .ref aSe, .ref aIw, .ref aEx, .ref aOl, .int 0, .ref aPl, .int dr, .int 0, .ref aTa, .ref aAt, .ref aLo, .int 0, .int 0, .ref aS1, .ref aS2, .ref aS3, .ref aS4, .ref aS5, .ref aS6, .int 0, .ref aO1, .ref aO2, .ref aO3, .ref aO4, .ref aO5])) := kp_at hk9 f_m (nmc (Ne.symm (h_neA f_aPl f_m)) nm0)
  have f_aId : h16 aId = some (.inl ((t 1), 700, .inl gId)) := kp_at hk9 f_aId (nmc (h_neL (k1 := 700) (k2 := 163840) f_aId f_aPl rfl rfl (by omega)) nm0)
  have f_aAt : h16 aAt = some (.inl ((t 2), 700, .inl gAt)) := kp_at hk9 f_aAt (nmc (h_neL (k1 := 700) (k2 := 163840) f_aAt f_aPl rfl rfl (by omega)) nm0)
  have f_aLo : h16 aLo = some (.inl ((t 2), 700, .inl gLo)) := kp_at hk9 f_aLo (nmc (h_neL (k1 := 700) (k2 := 163840) f_aLo f_aPl rfl rfl (by omega)) nm0)
  have hkp : kp [aPl] h h16 := kp_tr2 hkp hk9 (List.forall_mem_cons.mpr ⟨Or.inl (by simp), List.forall_mem_nil _⟩)
  have f_aPl : h16 aPl = some (.inl ((t 0), 163840, .inl g20)) := hg9
  refine lv_aload_n hx hb d_Mo_record_55 rfl (lv_at hl 1 rfl) ?_
  refine lv_iload_n hx hb d_Mo_record_56 rfl (lv_at hl 2 rfl) ?_
  refine lv_bipush (v := 10) hx hb d_Mo_record_57 (by decide) ?_
  refine lv_iadd hx hb d_Mo_record_59 ?_
  refine lv_iconst (v := 4) hx hb d_Mo_record_60 (by decide) ?_
  refine lv_aload_n hx hb d_Mo_record_61 rfl (lv_at hl 1 rfl) ?_
  refine hm_get (ci := 9) (v := .ref aId) (C := R_Mo) (T := F_Mo) (N := 41) hx hb hts ig_Mo hown hK hH f_m rfl 12 (by decide) (hts _ mw_392) (fun _ h9 => h9) rfl d_Mo_record_62 ?_
  refine lv_iload_n hx hb d_Mo_record_65 rfl (lv_at hl 4 rfl) ?_
  refine hj_zald hx hb hK hH 1 f_aId rfl 0 (by decide) (by decide) (by decide) d_Mo_record_66 ?_
  refine lv_if_eq (tgt := 83) hx hb d_Mo_record_67 (by decide) (fun hc21 => absurd hc21 (by rw [zId]; decide)) (fun hc21 => ?_)
  refine lv_sipush (v := 2048) hx hb d_Mo_record_70 (by decide) ?_
  refine lv_aload_n hx hb d_Mo_record_73 rfl (lv_at hl 1 rfl) ?_
  refine hm_get (ci := 9) (v := .ref aLo) (C := R_Mo) (T := F_Mo) (N := 41) hx hb hts ig_Mo hown hK hH f_m rfl 26 (by decide) (hts _ mw_413) (fun _ h9 => h9) rfl d_Mo_record_74 ?_
  refine lv_iload_n hx hb d_Mo_record_77 rfl (lv_at hl 4 rfl) ?_
  refine hj_iald hx hb hK hH 2 f_aLo rfl 0 (by decide) (by decide) (by decide) d_Mo_record_78 ?_
  refine lv_imul hx hb d_Mo_record_79 ?_
  refine lv_goto (tgt := 89) hx hb d_Mo_record_80 (by decide) ?_
  refine hm_callv (va_runV (As := [.int ((nI P9) + 10), .int 4, .int (2048 * (gLo 0))]) (b := mo) (rest := []) ⟨hx, hb, hml, hown, hts⟩ (c_m_both l D t G ak av h16 mo n aBy aSt aDe aPa aIt aId aPr aNa aSi aSe aIw aEx aOl aPl aTa aAt aLo aS1 aS2 aS3 aS4 aS5 aS6 aO1 aO2 aO3 aO4 aO5 dr wt g20 (P9 + 10) 4 (nI P9 + 10) 4 (2048 * gLo 0) f_m f_aPl (nI_add _ _) rfl (by omega)) ⟨cw9B 3 hts mw_503 mw_504 mw_428 rfl rfl (by decide +kernel) ⟨Nat.le_of_ble_eq_true rfl, Nat.le_of_ble_eq_true rfl⟩, hts _ mw_505, hts _ mw_506⟩ (hP_V (q := (R_Mo, F_Mo, 41)) kE_ok hE hK hH f_m rfl) rfl rfl hl.1 rfl (lv_room (Nat.le_of_ble_eq_true rfl)) d_Mo_record_89 ⟨Nat.le_of_ble_eq_true rfl, Nat.le_of_ble_eq_true rfl⟩) hLo (fun h22 H23 locs hp25 hH z24 hLo => ?_)
  have hz : s.heap.size ≤ H23.size := Nat.le_trans hz z24
  obtain ⟨hk9, g26, hg9⟩ := hp25
  have f_m : h22 mo = some (.inr (9, [.int 0, .int (nI n), .int 0, .ref aBy, .ref aSt, .ref aDe, .int 0, .int (-1), .int wt, .ref aPa, .int 1, .ref aIt, .ref aId, .ref aPr, .ref aNa, .ref aSi, .ref aSe, .ref aIw, .ref aEx, .ref aOl, .int 0, .ref aPl, .int dr, .int 0, .ref aTa, .ref aAt, .ref aLo, .int 0, .int 0, .ref aS1, .ref aS2, .ref aS3, .ref aS4, .ref aS5, .ref aS6, .int 0, .ref aO1, .ref aO2, .ref aO3, .ref aO4, .ref aO5])) := kp_at hk9 f_m (nmc (Ne.symm (h_neA f_aPl f_m)) nm0)
  have f_aId : h22 aId = some (.inl ((t 1), 700, .inl gId)) := kp_at hk9 f_aId (nmc (h_neL (k1 := 700) (k2 := 163840) f_aId f_aPl rfl rfl (by omega)) nm0)
  have f_aAt : h22 aAt = some (.inl ((t 2), 700, .inl gAt)) := kp_at hk9 f_aAt (nmc (h_neL (k1 := 700) (k2 := 163840) f_aAt f_aPl rfl rfl (by omega)) nm0)
  have f_aLo : h22 aLo = some (.inl ((t 2), 700, .inl gLo)) := kp_at hk9 f_aLo (nmc (h_neL (k1 := 700) (k2 := 163840) f_aLo f_aPl rfl rfl (by omega)) nm0)
  have hkp : kp [aPl] h h22 := kp_tr2 hkp hk9 (List.forall_mem_cons.mpr ⟨Or.inl (by simp), List.forall_mem_nil _⟩)
  have f_aPl : h22 aPl = some (.inl ((t 0), 163840, .inl g26)) := hg9
  refine lv_aload_n hx hb d_Mo_record_92 rfl (lv_at hl 1 rfl) ?_
  refine hm_get (ci := 9) (v := .ref aPl) (C := R_Mo) (T := F_Mo) (N := 41) hx hb hts ig_Mo hown hK hH f_m rfl 21 (by decide) (hts _ mw_410) (fun _ h9 => h9) rfl d_Mo_record_93 ?_
  refine lv_iload_n hx hb d_Mo_record_96 rfl (lv_at hl 2 rfl) ?_
  refine lv_bipush (v := 25) hx hb d_Mo_record_97 (by decide) ?_
  refine lv_iadd hx hb d_Mo_record_99 ?_
  refine lv_aload_n hx hb d_Mo_record_100 rfl (lv_at hl 1 rfl) ?_
  refine hm_get (ci := 9) (v := .ref aId) (C := R_Mo) (T := F_Mo) (N := 41) hx hb hts ig_Mo hown hK hH f_m rfl 12 (by decide) (hts _ mw_392) (fun _ h9 => h9) rfl d_Mo_record_101 ?_
  refine lv_iload_n hx hb d_Mo_record_104 rfl (lv_at hl 4 rfl) ?_
  refine hj_zald hx hb hK hH 1 f_aId rfl 0 (by decide) (by decide) (by decide) d_Mo_record_105 ?_
  refine lv_if_eq (tgt := 113) hx hb d_Mo_record_106 (by decide) (fun hc27 => absurd hc27 (by rw [zId]; decide)) (fun hc27 => ?_)
  refine lv_iconst (v := 2) hx hb d_Mo_record_109 (by decide) ?_
  refine lv_goto (tgt := 114) hx hb d_Mo_record_110 (by decide) ?_
  refine lv_i2b (v := (2 : Int32).toInt8.toInt32) hx hb d_Mo_record_114 rfl ?_
  refine hj_bast hx hb hK hH hLo 0 f_aPl rfl (P9 + 25) (nI_add _ _) (by omega) (by decide) d_Mo_record_115 (fun H28 locs hH z29 hLo => ?_)
  have hz : s.heap.size ≤ H28.size := by rw [z29]; exact hz
  obtain ⟨h30, e31⟩ : ∃ z, z = hu h22 aPl (.inl ((t 0), 163840, .inl (upd g26 (P9 + 25) (vp_nar .byte ((2 : Int32).toInt8.toInt32))))) := ⟨_, rfl⟩
  have hH : hm D vwCl G h30 H28 := by rw [e31]; exact hH
  have f_m : h30 mo = some (.inr (9, [.int 0, .int (nI n), .int 0, .ref aBy, .ref aSt, .ref aDe, .int 0, .int (-1), .int wt, .ref aPa, .int 1, .ref aIt, .ref aId, .ref aPr, .ref aNa, .ref aSi, .ref aSe, .ref aIw, .ref aEx, .ref aOl, .int 0, .ref aPl, .int dr, .int 0, .ref aTa, .ref aAt, .ref aLo, .int 0, .int 0, .ref aS1, .ref aS2, .ref aS3, .ref aS4, .ref aS5, .ref aS6, .int 0, .ref aO1, .ref aO2, .ref aO3, .ref aO4, .ref aO5])) := by rw [e31, hu_n (Ne.symm (h_neA f_aPl f_m))]; exact f_m
  have f_aId : h30 aId = some (.inl ((t 1), 700, .inl gId)) := by rw [e31, hu_n (h_neL (k1 := 700) (k2 := 163840) f_aId f_aPl rfl rfl (by omega))]; exact f_aId
  have f_aAt : h30 aAt = some (.inl ((t 2), 700, .inl gAt)) := by rw [e31, hu_n (h_neL (k1 := 700) (k2 := 163840) f_aAt f_aPl rfl rfl (by omega))]; exact f_aAt
  have f_aLo : h30 aLo = some (.inl ((t 2), 700, .inl gLo)) := by rw [e31, hu_n (h_neL (k1 := 700) (k2 := 163840) f_aLo f_aPl rfl rfl (by omega))]; exact f_aLo
  have f_aPl : h30 aPl = some (.inl ((t 0), 163840, .inl (upd g26 (P9 + 25) (vp_nar .byte ((2 : Int32).toInt8.toInt32))))) := by rw [e31]; exact hu_s _ _ _
  have hkp : kp [aPl] h h30 := by rw [e31]; exact kp_put hkp (by simp)
  refine lv_aload_n hx hb d_Mo_record_116 rfl (lv_at hl 1 rfl) ?_
  refine lv_iload_n hx hb d_Mo_record_117 rfl (lv_at hl 2 rfl) ?_
  refine lv_bipush (v := 28) hx hb d_Mo_record_118 (by decide) ?_
  refine lv_iadd hx hb d_Mo_record_120 ?_
  refine lv_iconst (v := 2) hx hb d_Mo_record_121 (by decide) ?_
  refine lv_iconst (v := 1) hx hb d_Mo_record_122 (by decide) ?_
  refine hm_callv (va_runV (As := [.int ((nI P9) + 28), .int 2, .int 1]) (b := mo) (rest := []) ⟨hx, hb, hml, hown, hts⟩ (c_m_both l D t G ak av h30 mo n aBy aSt aDe aPa aIt aId aPr aNa aSi aSe aIw aEx aOl aPl aTa aAt aLo aS1 aS2 aS3 aS4 aS5 aS6 aO1 aO2 aO3 aO4 aO5 dr wt (upd g26 (P9 + 25) (vp_nar .byte ((2 : Int32).toInt8.toInt32))) (P9 + 28) 2 (nI P9 + 28) 2 1 f_m f_aPl (nI_add _ _) rfl (by omega)) ⟨cw9B 3 hts mw_503 mw_504 mw_428 rfl rfl (by decide +kernel) ⟨Nat.le_of_ble_eq_true rfl, Nat.le_of_ble_eq_true rfl⟩, hts _ mw_505, hts _ mw_506⟩ (hP_V (q := (R_Mo, F_Mo, 41)) kE_ok hE hK hH f_m rfl) rfl rfl hl.1 rfl (lv_room (Nat.le_of_ble_eq_true rfl)) d_Mo_record_123 ⟨Nat.le_of_ble_eq_true rfl, Nat.le_of_ble_eq_true rfl⟩) hLo (fun h32 H33 locs hp35 hH z34 hLo => ?_)
  have hz : s.heap.size ≤ H33.size := Nat.le_trans hz z34
  obtain ⟨hk9, g36, hg9⟩ := hp35
  have f_m : h32 mo = some (.inr (9, [.int 0, .int (nI n), .int 0, .ref aBy, .ref aSt, .ref aDe, .int 0, .int (-1), .int wt, .ref aPa, .int 1, .ref aIt, .ref aId, .ref aPr, .ref aNa, .ref aSi, .ref aSe, .ref aIw, .ref aEx, .ref aOl, .int 0, .ref aPl, .int dr, .int 0, .ref aTa, .ref aAt, .ref aLo, .int 0, .int 0, .ref aS1, .ref aS2, .ref aS3, .ref aS4, .ref aS5, .ref aS6, .int 0, .ref aO1, .ref aO2, .ref aO3, .ref aO4, .ref aO5])) := kp_at hk9 f_m (nmc (Ne.symm (h_neA f_aPl f_m)) nm0)
  have f_aId : h32 aId = some (.inl ((t 1), 700, .inl gId)) := kp_at hk9 f_aId (nmc (h_neL (k1 := 700) (k2 := 163840) f_aId f_aPl rfl rfl (by omega)) nm0)
  have f_aAt : h32 aAt = some (.inl ((t 2), 700, .inl gAt)) := kp_at hk9 f_aAt (nmc (h_neL (k1 := 700) (k2 := 163840) f_aAt f_aPl rfl rfl (by omega)) nm0)
  have f_aLo : h32 aLo = some (.inl ((t 2), 700, .inl gLo)) := kp_at hk9 f_aLo (nmc (h_neL (k1 := 700) (k2 := 163840) f_aLo f_aPl rfl rfl (by omega)) nm0)
  have hkp : kp [aPl] h h32 := kp_tr2 hkp hk9 (List.forall_mem_cons.mpr ⟨Or.inl (by simp), List.forall_mem_nil _⟩)
  have f_aPl : h32 aPl = some (.inl ((t 0), 163840, .inl g36)) := hg9
  refine lv_aload_n hx hb d_Mo_record_126 rfl (lv_at hl 1 rfl) ?_
  refine hm_get (ci := 9) (v := .ref aPl) (C := R_Mo) (T := F_Mo) (N := 41) hx hb hts ig_Mo hown hK hH f_m rfl 21 (by decide) (hts _ mw_410) (fun _ h9 => h9) rfl d_Mo_record_127 ?_
  refine lv_iload_n hx hb d_Mo_record_130 rfl (lv_at hl 2 rfl) ?_
  refine lv_bipush (v := 32) hx hb d_Mo_record_131 (by decide) ?_
  refine lv_iadd hx hb d_Mo_record_133 ?_
  refine lv_iload hx hb d_Mo_record_134 (lv_at hl 0 rfl) ?_
  refine lv_i2b (v := (1 : Int32).toInt8.toInt32) hx hb d_Mo_record_136 rfl ?_
  refine hj_bast hx hb hK hH hLo 0 f_aPl rfl (P9 + 32) (nI_add _ _) (by omega) (by decide) d_Mo_record_137 (fun H37 locs hH z38 hLo => ?_)
  have hz : s.heap.size ≤ H37.size := by rw [z38]; exact hz
  obtain ⟨h39, e40⟩ : ∃ z, z = hu h32 aPl (.inl ((t 0), 163840, .inl (upd g36 (P9 + 32) (vp_nar .byte ((1 : Int32).toInt8.toInt32))))) := ⟨_, rfl⟩
  have hH : hm D vwCl G h39 H37 := by rw [e40]; exact hH
  have f_m : h39 mo = some (.inr (9, [.int 0, .int (nI n), .int 0, .ref aBy, .ref aSt, .ref aDe, .int 0, .int (-1), .int wt, .ref aPa, .int 1, .ref aIt, .ref aId, .ref aPr, .ref aNa, .ref aSi, .ref aSe, .ref aIw, .ref aEx, .ref aOl, .int 0, .ref aPl, .int dr, .int 0, .ref aTa, .ref aAt, .ref aLo, .int 0, .int 0, .ref aS1, .ref aS2, .ref aS3, .ref aS4, .ref aS5, .ref aS6, .int 0, .ref aO1, .ref aO2, .ref aO3, .ref aO4, .ref aO5])) := by rw [e40, hu_n (Ne.symm (h_neA f_aPl f_m))]; exact f_m
  have f_aId : h39 aId = some (.inl ((t 1), 700, .inl gId)) := by rw [e40, hu_n (h_neL (k1 := 700) (k2 := 163840) f_aId f_aPl rfl rfl (by omega))]; exact f_aId
  have f_aAt : h39 aAt = some (.inl ((t 2), 700, .inl gAt)) := by rw [e40, hu_n (h_neL (k1 := 700) (k2 := 163840) f_aAt f_aPl rfl rfl (by omega))]; exact f_aAt
  have f_aLo : h39 aLo = some (.inl ((t 2), 700, .inl gLo)) := by rw [e40, hu_n (h_neL (k1 := 700) (k2 := 163840) f_aLo f_aPl rfl rfl (by omega))]; exact f_aLo
  have f_aPl : h39 aPl = some (.inl ((t 0), 163840, .inl (upd g36 (P9 + 32) (vp_nar .byte ((1 : Int32).toInt8.toInt32))))) := by rw [e40]; exact hu_s _ _ _
  have hkp : kp [aPl] h h39 := by rw [e40]; exact kp_put hkp (by simp)
  refine lv_iconst (v := 0) hx hb d_Mo_record_138 (by decide) ?_
  refine lv_istore (lv' := [(5, .int 0), (4, .int 1), (0, .ref mo), (1, .int (nI P9)), (2, .int so), (3, .int 0)]) hx hb d_Mo_record_139 hl (by decide) rfl (fun ls hl => ?_)
  refine lv_iload hx hb d_Mo_record_141 (lv_at hl 0 rfl) ?_
  refine lv_iload hx hb d_Mo_record_143 (lv_at hl 1 rfl) ?_
  refine lv_icmp_ge (tgt := 193) hx hb d_Mo_record_145 (by decide) (fun hc41 => absurd hc41 (by decide)) (fun hc41 => ?_)
  refine lv_aload_n hx hb d_Mo_record_148 rfl (lv_at hl 2 rfl) ?_
  refine hm_get (ci := 9) (v := .ref aPl) (C := R_Mo) (T := F_Mo) (N := 41) hx hb hts ig_Mo hown hK hH f_m rfl 21 (by decide) (hts _ mw_410) (fun _ h9 => h9) rfl d_Mo_record_149 ?_
  refine lv_iload_n hx hb d_Mo_record_152 rfl (lv_at hl 3 rfl) ?_
  refine lv_bipush (v := 33) hx hb d_Mo_record_153 (by decide) ?_
  refine lv_iadd hx hb d_Mo_record_155 ?_
  refine lv_iload hx hb d_Mo_record_156 (lv_at hl 0 rfl) ?_
  refine lv_iadd hx hb d_Mo_record_158 ?_
  refine lv_iload_n hx hb d_Mo_record_159 rfl (lv_at hl 4 rfl) ?_
  refine lv_iconst (v := 2) hx hb d_Mo_record_160 (by decide) ?_
  refine lv_icmp_ge (tgt := 168) hx hb d_Mo_record_161 (by decide) (fun hc42 => absurd hc42 hso) (fun hc42 => ?_)
  refine lv_iload_n hx hb d_Mo_record_164 rfl (lv_at hl 4 rfl) ?_
  refine lv_goto (tgt := 185) hx hb d_Mo_record_165 (by decide) ?_
  refine lv_i2b (v := so.toInt8.toInt32) hx hb d_Mo_record_185 rfl ?_
  refine hj_bast hx hb hK hH hLo 0 f_aPl rfl (P9 + 33) (by rw [Int32.add_zero]; exact nI_add _ _) (by omega) (by decide) d_Mo_record_186 (fun H43 locs hH z44 hLo => ?_)
  have hz : s.heap.size ≤ H43.size := by rw [z44]; exact hz
  obtain ⟨h45, e46⟩ : ∃ z, z = hu h39 aPl (.inl ((t 0), 163840, .inl (upd (upd g36 (P9 + 32) (vp_nar .byte ((1 : Int32).toInt8.toInt32))) (P9 + 33) (vp_nar .byte so.toInt8.toInt32)))) := ⟨_, rfl⟩
  have hH : hm D vwCl G h45 H43 := by rw [e46]; exact hH
  have f_m : h45 mo = some (.inr (9, [.int 0, .int (nI n), .int 0, .ref aBy, .ref aSt, .ref aDe, .int 0, .int (-1), .int wt, .ref aPa, .int 1, .ref aIt, .ref aId, .ref aPr, .ref aNa, .ref aSi, .ref aSe, .ref aIw, .ref aEx, .ref aOl, .int 0, .ref aPl, .int dr, .int 0, .ref aTa, .ref aAt, .ref aLo, .int 0, .int 0, .ref aS1, .ref aS2, .ref aS3, .ref aS4, .ref aS5, .ref aS6, .int 0, .ref aO1, .ref aO2, .ref aO3, .ref aO4, .ref aO5])) := by rw [e46, hu_n (Ne.symm (h_neA f_aPl f_m))]; exact f_m
  have f_aId : h45 aId = some (.inl ((t 1), 700, .inl gId)) := by rw [e46, hu_n (h_neL (k1 := 700) (k2 := 163840) f_aId f_aPl rfl rfl (by omega))]; exact f_aId
  have f_aAt : h45 aAt = some (.inl ((t 2), 700, .inl gAt)) := by rw [e46, hu_n (h_neL (k1 := 700) (k2 := 163840) f_aAt f_aPl rfl rfl (by omega))]; exact f_aAt
  have f_aLo : h45 aLo = some (.inl ((t 2), 700, .inl gLo)) := by rw [e46, hu_n (h_neL (k1 := 700) (k2 := 163840) f_aLo f_aPl rfl rfl (by omega))]; exact f_aLo
  have f_aPl : h45 aPl = some (.inl ((t 0), 163840, .inl (upd (upd g36 (P9 + 32) (vp_nar .byte ((1 : Int32).toInt8.toInt32))) (P9 + 33) (vp_nar .byte so.toInt8.toInt32)))) := by rw [e46]; exact hu_s _ _ _
  have hkp : kp [aPl] h h45 := by rw [e46]; exact kp_put hkp (by simp)
  refine lv_iinc (v := 0 + 1) (lv' := [(5, .int (0 + 1)), (4, .int 1), (0, .ref mo), (1, .int (nI P9)), (2, .int so), (3, .int 0)]) hx hb d_Mo_record_187 hl (k := 0) rfl (by rfl) (by decide) rfl (fun ls hl => ?_)
  refine lv_goto (tgt := 141) hx hb d_Mo_record_190 (by decide) ?_
  refine lv_iload hx hb d_Mo_record_141 (lv_at hl 0 rfl) ?_
  refine lv_iload hx hb d_Mo_record_143 (lv_at hl 1 rfl) ?_
  refine lv_icmp_ge (tgt := 193) hx hb d_Mo_record_145 (by decide) (fun hc47 => ?_) (fun hc47 => absurd (by decide) hc47)
  exact W.vret hx hb hr (fun t9 ht hW => ⟨h45, rfl, ⟨hkp, _, f_aPl⟩, by rw [ht]; exact hH, by rw [ht]; exact hz⟩) hLo d_Mo_record_193

set_option maxHeartbeats 4000000 in
set_option maxRecDepth 100000 in
theorem c_m_next (l : Launch) (D : va_G) (t : Nat → ClassId) (G : hG) (ak av : Nat → Nat) (h : hM) (mo n aBy aSt aDe aPa aIt aId aPr aNa aSi aSe aIw aEx aOl aPl aTa aAt aLo aS1 aS2 aS3 aS4 aS5 aS6 aO1 aO2 aO3 aO4 aO5 : Nat) (dr wt : Int32) (d9 b9 : Int32) (f_m : h mo = some (.inr (9, [.int 0, .int (nI n), .int 0, .ref aBy, .ref aSt, .ref aDe, .int 0, .int (-1), .int wt, .ref aPa, .int 1, .ref aIt, .ref aId, .ref aPr, .ref aNa, .ref aSi, .ref aSe, .ref aIw, .ref aEx, .ref aOl, .int 0, .ref aPl, .int dr, .int 0, .ref aTa, .ref aAt, .ref aLo, .int 0, .int 0, .ref aS1, .ref aS2, .ref aS3, .ref aS4, .ref aS5, .ref aS6, .int 0, .ref aO1, .ref aO2, .ref aO3, .ref aO4, .ref aO5]))) : Met l y_Mo_next (.code y_Mo_next b_Mo_next 5 (some .int) :: lw_g) { frames := 0, cells := 0, slots := 0, locals := 0 } (hP (kE D t G ak av) D vwCl G h [.ref mo, .int d9, .int b9]) (hQi D vwCl G (fun r h' => r = -1 ∧ h = h')) 0 0 G.P := by
  refine Met.ofW (cc := b_Mo_next) (maxL := 5) (ret := (some .int)) (by decide) rfl ?_
  intro p e s m args below meth c s₁ Bd hml hv
  obtain ⟨ha, hE, hH⟩ := hv
  have hx := Bd.exec
  have hb := Bd.bytes
  have hr := Bd.returns
  have hts : ∀ w ∈ lw_g, w.before args s = true := fun w hw => atoms_spec (ws := (.code y_Mo_next b_Mo_next 5 (some .int) :: lw_g)) Bd.pre w (List.mem_cons_of_mem _ hw)
  have hown : s.vm.findClass R_Mo = some m.cls := findClass_of_methodNamed Bd.named
  have hlocks := Bd.notSynchronized
  have hK := hE.1
  have hH0 := hH
  have hLo : hLc G.P [] := hLc_nil
  have hz : s.heap.size ≤ s.heap.size := Nat.le_refl _
  have hkp : kp [] h h := kp_rf
  have hl := lv_entry [.ref mo, .int d9, .int b9] (n := 5) (Nat.le_of_ble_eq_true rfl)
  rw [show entryFrame m args 5 = F0 m 0 ((lg_sl [.ref mo, .int d9, .int b9] ++ List.replicate (5 - (lg_sl [.ref mo, .int d9, .int b9]).length) Slot.unset).toArray) [] from (by rw [ha]; exact lg_entry_eq m [.ref mo, .int d9, .int b9] 5)]
  generalize (lg_sl [.ref mo, .int d9, .int b9] ++ List.replicate (5 - (lg_sl [.ref mo, .int d9, .int b9]).length) Slot.unset).toArray = ls at hl ⊢
  have hl : lv_has ls 5 [(0, .ref mo), (1, .int d9), (2, .int b9)] := hl
  refine lv_iconst (v := -1) hx hb d_Mo_next_0 (by decide) ?_
  refine lv_istore_n (lv' := [(3, .int (-1)), (0, .ref mo), (1, .int d9), (2, .int b9)]) hx hb d_Mo_next_1 rfl hl (by decide) rfl (fun ls hl => ?_)
  refine lv_iconst (v := 1) hx hb d_Mo_next_2 (by decide) ?_
  refine lv_istore (lv' := [(4, .int 1), (3, .int (-1)), (0, .ref mo), (1, .int d9), (2, .int b9)]) hx hb d_Mo_next_3 hl (by decide) rfl (fun ls hl => ?_)
  refine lv_iload hx hb d_Mo_next_5 (lv_at hl 0 rfl) ?_
  refine lv_aload_n hx hb d_Mo_next_7 rfl (lv_at hl 2 rfl) ?_
  refine hm_get (ci := 9) (v := .int 1) (C := R_Mo) (T := F_Mo) (N := 41) hx hb hts ig_Mo hown hK hH f_m rfl 10 (by decide) (hts _ mw_390) (fun _ h9 => h9) rfl d_Mo_next_8 ?_
  refine lv_icmp_ge (tgt := 119) hx hb d_Mo_next_11 (by decide) (fun hc1 => ?_) (fun hc1 => absurd (by decide) hc1)
  refine lv_iload_n hx hb d_Mo_next_119 rfl (lv_at hl 1 rfl) ?_
  exact W.iret (v := (-1)) hx hb hr (fun t9 ht hW => ⟨(-1), h, rfl, ⟨rfl, rfl⟩, by rw [ht]; exact hH, by rw [ht]; exact hz⟩) hLo d_Mo_next_120

set_option maxHeartbeats 4000000 in
set_option maxRecDepth 100000 in
theorem c_m_along0 (l : Launch) (D : va_G) (t : Nat → ClassId) (G : hG) (ak av : Nat → Nat) (h : hM) (mo n aBy aSt aDe aPa aIt aId aPr aNa aSi aSe aIw aEx aOl aPl aTa aAt aLo aS1 aS2 aS3 aS4 aS5 aS6 aO1 aO2 aO3 aO4 aO5 : Nat) (dr wt : Int32) (f_m : h mo = some (.inr (9, [.int 0, .int (nI n), .int 0, .ref aBy, .ref aSt, .ref aDe, .int 0, .int (-1), .int wt, .ref aPa, .int 1, .ref aIt, .ref aId, .ref aPr, .ref aNa, .ref aSi, .ref aSe, .ref aIw, .ref aEx, .ref aOl, .int 0, .ref aPl, .int dr, .int 0, .ref aTa, .ref aAt, .ref aLo, .int 0, .int 0, .ref aS1, .ref aS2, .ref aS3, .ref aS4, .ref aS5, .ref aS6, .int 0, .ref aO1, .ref aO2, .ref aO3, .ref aO4, .ref aO5]))) : Met l y_Mo_along (.code y_Mo_along b_Mo_along 9 (some .int) :: lw_g) { frames := 1, cells := 0, slots := 0, locals := 24 } (hP (kE D t G ak av) D vwCl G h [.ref mo, .int 0, .int 0, .int 0]) (hQi D vwCl G (fun r h' => r = 68 ∧ h = h')) 0 0 G.P := by
  refine Met.ofW (cc := b_Mo_along) (maxL := 9) (ret := (some .int)) (by decide) rfl ?_
  intro p e s m args below meth c s₁ Bd hml hv
  obtain ⟨ha, hE, hH⟩ := hv
  have hx := Bd.exec
  have hb := Bd.bytes
  have hr := Bd.returns
  have hts : ∀ w ∈ lw_g, w.before args s = true := fun w hw => atoms_spec (ws := (.code y_Mo_along b_Mo_along 9 (some .int) :: lw_g)) Bd.pre w (List.mem_cons_of_mem _ hw)
  have hown : s.vm.findClass R_Mo = some m.cls := findClass_of_methodNamed Bd.named
  have hlocks := Bd.notSynchronized
  have hK := hE.1
  have hH0 := hH
  have hLo : hLc G.P [] := hLc_nil
  have hz : s.heap.size ≤ s.heap.size := Nat.le_refl _
  have hkp : kp [] h h := kp_rf
  have hl := lv_entry [.ref mo, .int 0, .int 0, .int 0] (n := 9) (Nat.le_of_ble_eq_true rfl)
  rw [show entryFrame m args 9 = F0 m 0 ((lg_sl [.ref mo, .int 0, .int 0, .int 0] ++ List.replicate (9 - (lg_sl [.ref mo, .int 0, .int 0, .int 0]).length) Slot.unset).toArray) [] from (by rw [ha]; exact lg_entry_eq m [.ref mo, .int 0, .int 0, .int 0] 9)]
  generalize (lg_sl [.ref mo, .int 0, .int 0, .int 0] ++ List.replicate (9 - (lg_sl [.ref mo, .int 0, .int 0, .int 0]).length) Slot.unset).toArray = ls at hl ⊢
  have hl : lv_has ls 9 [(0, .ref mo), (1, .int 0), (2, .int 0), (3, .int 0)] := hl
  refine lv_iconst (v := 0) hx hb d_Mo_along_0 (by decide) ?_
  refine lv_istore (lv' := [(4, .int 0), (0, .ref mo), (1, .int 0), (2, .int 0), (3, .int 0)]) hx hb d_Mo_along_1 hl (by decide) rfl (fun ls hl => ?_)
  refine lv_iconst (v := 0) hx hb d_Mo_along_3 (by decide) ?_
  refine lv_istore (lv' := [(5, .int 0), (4, .int 0), (0, .ref mo), (1, .int 0), (2, .int 0), (3, .int 0)]) hx hb d_Mo_along_4 hl (by decide) rfl (fun ls hl => ?_)
  refine lv_iconst (v := -1) hx hb d_Mo_along_6 (by decide) ?_
  refine lv_istore (lv' := [(6, .int (-1)), (5, .int 0), (4, .int 0), (0, .ref mo), (1, .int 0), (2, .int 0), (3, .int 0)]) hx hb d_Mo_along_7 hl (by decide) rfl (fun ls hl => ?_)
  refine lv_iload hx hb d_Mo_along_9 (lv_at hl 1 rfl) ?_
  refine lv_iconst (v := 2) hx hb d_Mo_along_11 (by decide) ?_
  refine lv_icmp_ne (tgt := 32) hx hb d_Mo_along_12 (by decide) (fun hc1 => ?_) (fun hc1 => absurd hc1 (by decide))
  refine lv_iload hx hb d_Mo_along_32 (lv_at hl 1 rfl) ?_
  refine lv_if_eq (tgt := 47) hx hb d_Mo_along_34 (by decide) (fun hc2 => ?_) (fun hc2 => absurd rfl hc2)
  refine lv_iload_n hx hb d_Mo_along_47 rfl (lv_at hl 4 rfl) ?_
  refine lv_goto (tgt := 68) hx hb d_Mo_along_48 (by decide) ?_
  refine lv_istore (lv' := [(7, .int 0), (6, .int (-1)), (5, .int 0), (4, .int 0), (0, .ref mo), (1, .int 0), (2, .int 0), (3, .int 0)]) hx hb d_Mo_along_68 hl (by decide) rfl (fun ls hl => ?_)
  refine lv_bipush (v := 33) hx hb d_Mo_along_70 (by decide) ?_
  refine lv_aload_n hx hb d_Mo_along_72 rfl (lv_at hl 4 rfl) ?_
  refine lv_iload hx hb d_Mo_along_73 (lv_at hl 2 rfl) ?_
  refine lv_iload hx hb d_Mo_along_75 (lv_at hl 0 rfl) ?_
  refine hm_calli (va_runV (As := [.int 0, .int 0]) (b := mo) (rest := [.int 33]) ⟨hx, hb, hml, hown, hts⟩ (c_m_recordId l D t G ak av h mo 0 0 (by decide)) ⟨cw9B 2 hts mw_496 mw_497 mw_428 rfl rfl (by decide +kernel) ⟨Nat.le_of_ble_eq_true rfl, Nat.le_of_ble_eq_true rfl⟩, hts _ mw_498, hts _ mw_499⟩ (hP_V (q := (R_Mo, F_Mo, 41)) kE_ok hE hK hH f_m rfl) rfl rfl hl.1 rfl (lv_room (Nat.le_of_ble_eq_true rfl)) d_Mo_along_77 ⟨Nat.le_of_ble_eq_true rfl, Nat.le_of_ble_eq_true rfl⟩) hLo (fun r3 h4 H5 locs hp7 hH z6 hLo => ?_)
  have hz : s.heap.size ≤ H5.size := Nat.le_trans hz z6
  obtain ⟨rfl, rfl⟩ := hp7
  refine lv_iadd hx hb d_Mo_along_80 ?_
  refine hm_calli (va_runS (As := [.int (33 + 1)]) (rest := []) ⟨hx, hb, hml, hown, hts⟩ (c_m_even l D t G ak av h (33 + 1)) ⟨cw9B 1 hts mw_500 mw_501 mw_428 rfl rfl (by decide +kernel) ⟨Nat.le_of_ble_eq_true rfl, Nat.le_of_ble_eq_true rfl⟩, hts _ mw_502⟩ (hP_S kE_ok hE hH) rfl rfl hl.1 rfl (lv_room (Nat.le_of_ble_eq_true rfl)) d_Mo_along_81 ⟨Nat.le_of_ble_eq_true rfl, Nat.le_of_ble_eq_true rfl⟩) hLo (fun r8 h9 H10 locs hp12 hH z11 hLo => ?_)
  have hz : s.heap.size ≤ H10.size := Nat.le_trans hz z11
  obtain ⟨rfl, rfl⟩ := hp12
  refine lv_topi (fun v13 e14 => ?_)
  obtain rfl : v13 = 34 := e14.trans (by decide)
  refine lv_istore (lv' := [(8, .int 34), (7, .int 0), (6, .int (-1)), (5, .int 0), (4, .int 0), (0, .ref mo), (1, .int 0), (2, .int 0), (3, .int 0)]) hx hb d_Mo_along_84 hl (by decide) rfl (fun ls hl => ?_)
  refine lv_iload hx hb d_Mo_along_86 (lv_at hl 4 rfl) ?_
  refine lv_sipush (v := 2048) hx hb d_Mo_along_88 (by decide) ?_
  refine lv_irem hx hb d_Mo_along_91 (by decide) ?_
  refine lv_iload hx hb d_Mo_along_92 (lv_at hl 0 rfl) ?_
  refine lv_iadd hx hb d_Mo_along_94 ?_
  refine lv_sipush (v := 2048) hx hb d_Mo_along_95 (by decide) ?_
  refine lv_icmp_le (tgt := 116) hx hb d_Mo_along_98 (by decide) (fun hc15 => ?_) (fun hc15 => absurd (by decide) hc15)
  refine lv_iload_n hx hb d_Mo_along_116 rfl (lv_at hl 8 rfl) ?_
  refine lv_if_eq (tgt := 132) hx hb d_Mo_along_117 (by decide) (fun hc16 => ?_) (fun hc16 => absurd rfl hc16)
  refine lv_iload hx hb d_Mo_along_132 (lv_at hl 4 rfl) ?_
  refine lv_iload hx hb d_Mo_along_134 (lv_at hl 0 rfl) ?_
  refine lv_iadd hx hb d_Mo_along_136 ?_
  refine lv_topi (fun v17 e18 => ?_)
  obtain rfl : v17 = 34 := e18.trans (by decide)
  refine lv_istore (lv' := [(4, .int 34), (8, .int 34), (7, .int 0), (6, .int (-1)), (5, .int 0), (0, .ref mo), (1, .int 0), (2, .int 0), (3, .int 0)]) hx hb d_Mo_along_137 hl (by decide) rfl (fun ls hl => ?_)
  refine lv_iload hx hb d_Mo_along_139 (lv_at hl 4 rfl) ?_
  refine lv_iconst (v := 2) hx hb d_Mo_along_141 (by decide) ?_
  refine lv_icmp_ge (tgt := 152) hx hb d_Mo_along_142 (by decide) (fun hc19 => absurd hc19 (by decide)) (fun hc19 => ?_)
  refine lv_iload hx hb d_Mo_along_145 (lv_at hl 4 rfl) ?_
  refine lv_iconst (v := 1) hx hb d_Mo_along_147 (by decide) ?_
  refine lv_iadd hx hb d_Mo_along_148 ?_
  refine lv_goto (tgt := 153) hx hb d_Mo_along_149 (by decide) ?_
  refine lv_topi (fun v20 e21 => ?_)
  obtain rfl : v20 = 1 := e21.trans (by decide)
  refine lv_istore (lv' := [(5, .int 1), (4, .int 34), (8, .int 34), (7, .int 0), (6, .int (-1)), (0, .ref mo), (1, .int 0), (2, .int 0), (3, .int 0)]) hx hb d_Mo_along_153 hl (by decide) rfl (fun ls hl => ?_)
  refine lv_goto (tgt := 9) hx hb d_Mo_along_155 (by decide) ?_
  refine lv_iload hx hb d_Mo_along_9 (lv_at hl 0 rfl) ?_
  refine lv_iconst (v := 2) hx hb d_Mo_along_11 (by decide) ?_
  refine lv_icmp_ne (tgt := 32) hx hb d_Mo_along_12 (by decide) (fun hc22 => ?_) (fun hc22 => absurd hc22 (by decide))
  refine lv_iload hx hb d_Mo_along_32 (lv_at hl 0 rfl) ?_
  refine lv_if_eq (tgt := 47) hx hb d_Mo_along_34 (by decide) (fun hc23 => absurd hc23 (by decide)) (fun hc23 => ?_)
  refine lv_iload hx hb d_Mo_along_37 (lv_at hl 0 rfl) ?_
  refine lv_iconst (v := 1) hx hb d_Mo_along_39 (by decide) ?_
  refine lv_icmp_ne (tgt := 51) hx hb d_Mo_along_40 (by decide) (fun hc24 => absurd rfl hc24) (fun hc24 => ?_)
  refine lv_iload_n hx hb d_Mo_along_43 rfl (lv_at hl 6 rfl) ?_
  refine lv_if_ne (tgt := 51) hx hb d_Mo_along_44 (by decide) (fun hc25 => absurd rfl hc25) (fun hc25 => ?_)
  refine lv_iload_n hx hb d_Mo_along_47 rfl (lv_at hl 6 rfl) ?_
  refine lv_goto (tgt := 68) hx hb d_Mo_along_48 (by decide) ?_
  refine lv_istore (lv' := [(7, .int 0), (5, .int 1), (4, .int 34), (8, .int 34), (6, .int (-1)), (0, .ref mo), (1, .int 0), (2, .int 0), (3, .int 0)]) hx hb d_Mo_along_68 hl (by decide) rfl (fun ls hl => ?_)
  refine lv_bipush (v := 33) hx hb d_Mo_along_70 (by decide) ?_
  refine lv_aload_n hx hb d_Mo_along_72 rfl (lv_at hl 5 rfl) ?_
  refine lv_iload hx hb d_Mo_along_73 (lv_at hl 1 rfl) ?_
  refine lv_iload hx hb d_Mo_along_75 (lv_at hl 0 rfl) ?_
  refine hm_calli (va_runV (As := [.int 1, .int 0]) (b := mo) (rest := [.int 33]) ⟨hx, hb, hml, hown, hts⟩ (c_m_recordId l D t G ak av h mo 1 0 (by decide)) ⟨cw9B 2 hts mw_496 mw_497 mw_428 rfl rfl (by decide +kernel) ⟨Nat.le_of_ble_eq_true rfl, Nat.le_of_ble_eq_true rfl⟩, hts _ mw_498, hts _ mw_499⟩ (hP_V (q := (R_Mo, F_Mo, 41)) kE_ok hE hK hH f_m rfl) rfl rfl hl.1 rfl (lv_room (Nat.le_of_ble_eq_true rfl)) d_Mo_along_77 ⟨Nat.le_of_ble_eq_true rfl, Nat.le_of_ble_eq_true rfl⟩) hLo (fun r26 h27 H28 locs hp30 hH z29 hLo => ?_)
  have hz : s.heap.size ≤ H28.size := Nat.le_trans hz z29
  obtain ⟨rfl, rfl⟩ := hp30
  refine lv_iadd hx hb d_Mo_along_80 ?_
  refine hm_calli (va_runS (As := [.int (33 + 1)]) (rest := []) ⟨hx, hb, hml, hown, hts⟩ (c_m_even l D t G ak av h (33 + 1)) ⟨cw9B 1 hts mw_500 mw_501 mw_428 rfl rfl (by decide +kernel) ⟨Nat.le_of_ble_eq_true rfl, Nat.le_of_ble_eq_true rfl⟩, hts _ mw_502⟩ (hP_S kE_ok hE hH) rfl rfl hl.1 rfl (lv_room (Nat.le_of_ble_eq_true rfl)) d_Mo_along_81 ⟨Nat.le_of_ble_eq_true rfl, Nat.le_of_ble_eq_true rfl⟩) hLo (fun r31 h32 H33 locs hp35 hH z34 hLo => ?_)
  have hz : s.heap.size ≤ H33.size := Nat.le_trans hz z34
  obtain ⟨rfl, rfl⟩ := hp35
  refine lv_topi (fun v36 e37 => ?_)
  obtain rfl : v36 = 34 := e37.trans (by decide)
  refine lv_istore (lv' := [(8, .int 34), (7, .int 0), (5, .int 1), (4, .int 34), (6, .int (-1)), (0, .ref mo), (1, .int 0), (2, .int 0), (3, .int 0)]) hx hb d_Mo_along_84 hl (by decide) rfl (fun ls hl => ?_)
  refine lv_iload hx hb d_Mo_along_86 (lv_at hl 3 rfl) ?_
  refine lv_sipush (v := 2048) hx hb d_Mo_along_88 (by decide) ?_
  refine lv_irem hx hb d_Mo_along_91 (by decide) ?_
  refine lv_iload hx hb d_Mo_along_92 (lv_at hl 0 rfl) ?_
  refine lv_iadd hx hb d_Mo_along_94 ?_
  refine lv_sipush (v := 2048) hx hb d_Mo_along_95 (by decide) ?_
  refine lv_icmp_le (tgt := 116) hx hb d_Mo_along_98 (by decide) (fun hc38 => ?_) (fun hc38 => absurd (by decide) hc38)
  refine lv_iload_n hx hb d_Mo_along_116 rfl (lv_at hl 8 rfl) ?_
  refine lv_if_eq (tgt := 132) hx hb d_Mo_along_117 (by decide) (fun hc39 => ?_) (fun hc39 => absurd rfl hc39)
  refine lv_iload hx hb d_Mo_along_132 (lv_at hl 3 rfl) ?_
  refine lv_iload hx hb d_Mo_along_134 (lv_at hl 0 rfl) ?_
  refine lv_iadd hx hb d_Mo_along_136 ?_
  refine lv_topi (fun v40 e41 => ?_)
  obtain rfl : v40 = 68 := e41.trans (by decide)
  refine lv_istore (lv' := [(4, .int 68), (8, .int 34), (7, .int 0), (5, .int 1), (6, .int (-1)), (0, .ref mo), (1, .int 0), (2, .int 0), (3, .int 0)]) hx hb d_Mo_along_137 hl (by decide) rfl (fun ls hl => ?_)
  refine lv_iload hx hb d_Mo_along_139 (lv_at hl 3 rfl) ?_
  refine lv_iconst (v := 2) hx hb d_Mo_along_141 (by decide) ?_
  refine lv_icmp_ge (tgt := 152) hx hb d_Mo_along_142 (by decide) (fun hc42 => absurd hc42 (by decide)) (fun hc42 => ?_)
  refine lv_iload hx hb d_Mo_along_145 (lv_at hl 3 rfl) ?_
  refine lv_iconst (v := 1) hx hb d_Mo_along_147 (by decide) ?_
  refine lv_iadd hx hb d_Mo_along_148 ?_
  refine lv_goto (tgt := 153) hx hb d_Mo_along_149 (by decide) ?_
  refine lv_topi (fun v43 e44 => ?_)
  obtain rfl : v43 = 2 := e44.trans (by decide)
  refine lv_istore (lv' := [(5, .int 2), (4, .int 68), (8, .int 34), (7, .int 0), (6, .int (-1)), (0, .ref mo), (1, .int 0), (2, .int 0), (3, .int 0)]) hx hb d_Mo_along_153 hl (by decide) rfl (fun ls hl => ?_)
  refine lv_goto (tgt := 9) hx hb d_Mo_along_155 (by decide) ?_
  refine lv_iload hx hb d_Mo_along_9 (lv_at hl 0 rfl) ?_
  refine lv_iconst (v := 2) hx hb d_Mo_along_11 (by decide) ?_
  refine lv_icmp_ne (tgt := 32) hx hb d_Mo_along_12 (by decide) (fun hc45 => absurd rfl hc45) (fun hc45 => ?_)
  refine lv_aload_n hx hb d_Mo_along_15 rfl (lv_at hl 5 rfl) ?_
  refine lv_iload_n hx hb d_Mo_along_16 rfl (lv_at hl 6 rfl) ?_
  refine lv_iload hx hb d_Mo_along_17 (lv_at hl 4 rfl) ?_
  refine hm_calli (va_runV (As := [.int 0, .int (-1)]) (b := mo) (rest := []) ⟨hx, hb, hml, hown, hts⟩ (c_m_next l D t G ak av h mo n aBy aSt aDe aPa aIt aId aPr aNa aSi aSe aIw aEx aOl aPl aTa aAt aLo aS1 aS2 aS3 aS4 aS5 aS6 aO1 aO2 aO3 aO4 aO5 dr wt 0 (-1) f_m) ⟨cw9B 2 hts mw_507 mw_508 mw_428 rfl rfl (by decide +kernel) ⟨Nat.le_of_ble_eq_true rfl, Nat.le_of_ble_eq_true rfl⟩, hts _ mw_509, hts _ mw_510⟩ (hP_V (q := (R_Mo, F_Mo, 41)) kE_ok hE hK hH f_m rfl) rfl rfl hl.1 rfl (lv_room (Nat.le_of_ble_eq_true rfl)) d_Mo_along_19 ⟨Nat.le_of_ble_eq_true rfl, Nat.le_of_ble_eq_true rfl⟩) hLo (fun r46 h47 H48 locs hp50 hH z49 hLo => ?_)
  have hz : s.heap.size ≤ H48.size := Nat.le_trans hz z49
  obtain ⟨rfl, rfl⟩ := hp50
  refine lv_istore (lv' := [(6, .int (-1)), (5, .int 2), (4, .int 68), (8, .int 34), (7, .int 0), (0, .ref mo), (1, .int 0), (2, .int 0), (3, .int 0)]) hx hb d_Mo_along_22 hl (by decide) rfl (fun ls hl => ?_)
  refine lv_iload hx hb d_Mo_along_24 (lv_at hl 0 rfl) ?_
  refine lv_if_ge (tgt := 32) hx hb d_Mo_along_26 (by decide) (fun hc51 => absurd hc51 (by decide)) (fun hc51 => ?_)
  refine lv_iload hx hb d_Mo_along_29 (lv_at hl 2 rfl) ?_
  exact W.iret (v := 68) hx hb hr (fun t9 ht hW => ⟨68, h, rfl, ⟨rfl, rfl⟩, by rw [ht]; exact hH, by rw [ht]; exact hz⟩) hLo d_Mo_along_31

set_option maxHeartbeats 4000000 in
set_option maxRecDepth 100000 in
theorem c_m_along1 (l : Launch) (D : va_G) (t : Nat → ClassId) (G : hG) (ak av : Nat → Nat) (h : hM) (mo n aBy aSt aDe aPa aIt aId aPr aNa aSi aSe aIw aEx aOl aPl aTa aAt aLo aS1 aS2 aS3 aS4 aS5 aS6 aO1 aO2 aO3 aO4 aO5 : Nat) (dr wt : Int32) (gPl gId gAt gLo : Nat → Int32) (P9 : Nat) (p9 : Int32) (f_m : h mo = some (.inr (9, [.int 0, .int (nI n), .int 0, .ref aBy, .ref aSt, .ref aDe, .int 0, .int (-1), .int wt, .ref aPa, .int 1, .ref aIt, .ref aId, .ref aPr, .ref aNa, .ref aSi, .ref aSe, .ref aIw, .ref aEx, .ref aOl, .int 0, .ref aPl, .int dr, .int 0, .ref aTa, .ref aAt, .ref aLo, .int 0, .int 0, .ref aS1, .ref aS2, .ref aS3, .ref aS4, .ref aS5, .ref aS6, .int 0, .ref aO1, .ref aO2, .ref aO3, .ref aO4, .ref aO5]))) (f_aPl : h aPl = some (.inl ((t 0), 163840, .inl gPl))) (f_aId : h aId = some (.inl ((t 1), 700, .inl gId))) (f_aAt : h aAt = some (.inl ((t 2), 700, .inl gAt))) (f_aLo : h aLo = some (.inl ((t 2), 700, .inl gLo))) (zId : gId 0 = 1) (hp9 : p9 = nI P9) (hle : P9 + 68 ≤ 163840) (ne_aId_aAt : aId ≠ aAt) (ne_aId_aLo : aId ≠ aLo) (ne_aAt_aLo : aAt ≠ aLo) : Met l y_Mo_along (.code y_Mo_along b_Mo_along 9 (some .int) :: lw_g) { frames := 3, cells := 0, slots := 0, locals := 72 } (hP (kE D t G ak av) D vwCl G h [.ref mo, .int 0, .int p9, .int 1]) (hQi D vwCl G (fun r h' => kp [aPl] h h' ∧ ∃ g : Nat → Int32, h' aPl = some (.inl ((t 0), 163840, .inl g)))) 0 0 G.P := by
  refine Met.ofW (cc := b_Mo_along) (maxL := 9) (ret := (some .int)) (by decide) rfl ?_
  intro p e s m args below meth c s₁ Bd hml hv
  obtain ⟨ha, hE, hH⟩ := hv
  have hx := Bd.exec
  have hb := Bd.bytes
  have hr := Bd.returns
  have hts : ∀ w ∈ lw_g, w.before args s = true := fun w hw => atoms_spec (ws := (.code y_Mo_along b_Mo_along 9 (some .int) :: lw_g)) Bd.pre w (List.mem_cons_of_mem _ hw)
  have hown : s.vm.findClass R_Mo = some m.cls := findClass_of_methodNamed Bd.named
  have hlocks := Bd.notSynchronized
  have hK := hE.1
  have hH0 := hH
  have hLo : hLc G.P [] := hLc_nil
  have hz : s.heap.size ≤ s.heap.size := Nat.le_refl _
  have hkp : kp [aPl] h h := kp_rf
  have hl := lv_entry [.ref mo, .int 0, .int p9, .int 1] (n := 9) (Nat.le_of_ble_eq_true rfl)
  rw [show entryFrame m args 9 = F0 m 0 ((lg_sl [.ref mo, .int 0, .int p9, .int 1] ++ List.replicate (9 - (lg_sl [.ref mo, .int 0, .int p9, .int 1]).length) Slot.unset).toArray) [] from (by rw [ha]; exact lg_entry_eq m [.ref mo, .int 0, .int p9, .int 1] 9)]
  generalize (lg_sl [.ref mo, .int 0, .int p9, .int 1] ++ List.replicate (9 - (lg_sl [.ref mo, .int 0, .int p9, .int 1]).length) Slot.unset).toArray = ls at hl ⊢
  have hl : lv_has ls 9 [(0, .ref mo), (1, .int 0), (2, .int p9), (3, .int 1)] := hl
  subst hp9
  refine lv_iconst (v := 0) hx hb d_Mo_along_0 (by decide) ?_
  refine lv_istore (lv' := [(4, .int 0), (0, .ref mo), (1, .int 0), (2, .int (nI P9)), (3, .int 1)]) hx hb d_Mo_along_1 hl (by decide) rfl (fun ls hl => ?_)
  refine lv_iconst (v := 0) hx hb d_Mo_along_3 (by decide) ?_
  refine lv_istore (lv' := [(5, .int 0), (4, .int 0), (0, .ref mo), (1, .int 0), (2, .int (nI P9)), (3, .int 1)]) hx hb d_Mo_along_4 hl (by decide) rfl (fun ls hl => ?_)
  refine lv_iconst (v := -1) hx hb d_Mo_along_6 (by decide) ?_
  refine lv_istore (lv' := [(6, .int (-1)), (5, .int 0), (4, .int 0), (0, .ref mo), (1, .int 0), (2, .int (nI P9)), (3, .int 1)]) hx hb d_Mo_along_7 hl (by decide) rfl (fun ls hl => ?_)
  refine lv_iload hx hb d_Mo_along_9 (lv_at hl 1 rfl) ?_
  refine lv_iconst (v := 2) hx hb d_Mo_along_11 (by decide) ?_
  refine lv_icmp_ne (tgt := 32) hx hb d_Mo_along_12 (by decide) (fun hc1 => ?_) (fun hc1 => absurd hc1 (by decide))
  refine lv_iload hx hb d_Mo_along_32 (lv_at hl 1 rfl) ?_
  refine lv_if_eq (tgt := 47) hx hb d_Mo_along_34 (by decide) (fun hc2 => ?_) (fun hc2 => absurd rfl hc2)
  refine lv_iload_n hx hb d_Mo_along_47 rfl (lv_at hl 4 rfl) ?_
  refine lv_goto (tgt := 68) hx hb d_Mo_along_48 (by decide) ?_
  refine lv_istore (lv' := [(7, .int 0), (6, .int (-1)), (5, .int 0), (4, .int 0), (0, .ref mo), (1, .int 0), (2, .int (nI P9)), (3, .int 1)]) hx hb d_Mo_along_68 hl (by decide) rfl (fun ls hl => ?_)
  refine lv_bipush (v := 33) hx hb d_Mo_along_70 (by decide) ?_
  refine lv_aload_n hx hb d_Mo_along_72 rfl (lv_at hl 4 rfl) ?_
  refine lv_iload hx hb d_Mo_along_73 (lv_at hl 2 rfl) ?_
  refine lv_iload hx hb d_Mo_along_75 (lv_at hl 0 rfl) ?_
  refine hm_calli (va_runV (As := [.int 0, .int 0]) (b := mo) (rest := [.int 33]) ⟨hx, hb, hml, hown, hts⟩ (c_m_recordId l D t G ak av h mo 0 0 (by decide)) ⟨cw9B 2 hts mw_496 mw_497 mw_428 rfl rfl (by decide +kernel) ⟨Nat.le_of_ble_eq_true rfl, Nat.le_of_ble_eq_true rfl⟩, hts _ mw_498, hts _ mw_499⟩ (hP_V (q := (R_Mo, F_Mo, 41)) kE_ok hE hK hH f_m rfl) rfl rfl hl.1 rfl (lv_room (Nat.le_of_ble_eq_true rfl)) d_Mo_along_77 ⟨Nat.le_of_ble_eq_true rfl, Nat.le_of_ble_eq_true rfl⟩) hLo (fun r3 h4 H5 locs hp7 hH z6 hLo => ?_)
  have hz : s.heap.size ≤ H5.size := Nat.le_trans hz z6
  obtain ⟨rfl, rfl⟩ := hp7
  refine lv_iadd hx hb d_Mo_along_80 ?_
  refine hm_calli (va_runS (As := [.int (33 + 1)]) (rest := []) ⟨hx, hb, hml, hown, hts⟩ (c_m_even l D t G ak av h (33 + 1)) ⟨cw9B 1 hts mw_500 mw_501 mw_428 rfl rfl (by decide +kernel) ⟨Nat.le_of_ble_eq_true rfl, Nat.le_of_ble_eq_true rfl⟩, hts _ mw_502⟩ (hP_S kE_ok hE hH) rfl rfl hl.1 rfl (lv_room (Nat.le_of_ble_eq_true rfl)) d_Mo_along_81 ⟨Nat.le_of_ble_eq_true rfl, Nat.le_of_ble_eq_true rfl⟩) hLo (fun r8 h9 H10 locs hp12 hH z11 hLo => ?_)
  have hz : s.heap.size ≤ H10.size := Nat.le_trans hz z11
  obtain ⟨rfl, rfl⟩ := hp12
  refine lv_topi (fun v13 e14 => ?_)
  obtain rfl : v13 = 34 := e14.trans (by decide)
  refine lv_istore (lv' := [(8, .int 34), (7, .int 0), (6, .int (-1)), (5, .int 0), (4, .int 0), (0, .ref mo), (1, .int 0), (2, .int (nI P9)), (3, .int 1)]) hx hb d_Mo_along_84 hl (by decide) rfl (fun ls hl => ?_)
  refine lv_iload hx hb d_Mo_along_86 (lv_at hl 4 rfl) ?_
  refine lv_sipush (v := 2048) hx hb d_Mo_along_88 (by decide) ?_
  refine lv_irem hx hb d_Mo_along_91 (by decide) ?_
  refine lv_iload hx hb d_Mo_along_92 (lv_at hl 0 rfl) ?_
  refine lv_iadd hx hb d_Mo_along_94 ?_
  refine lv_sipush (v := 2048) hx hb d_Mo_along_95 (by decide) ?_
  refine lv_icmp_le (tgt := 116) hx hb d_Mo_along_98 (by decide) (fun hc15 => ?_) (fun hc15 => absurd (by decide) hc15)
  refine lv_iload_n hx hb d_Mo_along_116 rfl (lv_at hl 8 rfl) ?_
  refine lv_if_eq (tgt := 132) hx hb d_Mo_along_117 (by decide) (fun hc16 => absurd hc16 (by decide)) (fun hc16 => ?_)
  refine lv_aload_n hx hb d_Mo_along_120 rfl (lv_at hl 5 rfl) ?_
  refine lv_iload_n hx hb d_Mo_along_121 rfl (lv_at hl 7 rfl) ?_
  refine lv_iload hx hb d_Mo_along_122 (lv_at hl 4 rfl) ?_
  refine lv_iadd hx hb d_Mo_along_124 ?_
  refine lv_iload hx hb d_Mo_along_125 (lv_at hl 3 rfl) ?_
  refine lv_iload hx hb d_Mo_along_127 (lv_at hl 1 rfl) ?_
  refine hm_callv (va_runV (As := [.int ((nI P9) + 0), .int 0, .int 0]) (b := mo) (rest := []) ⟨hx, hb, hml, hown, hts⟩ (c_m_record l D t G ak av h mo n aBy aSt aDe aPa aIt aId aPr aNa aSi aSe aIw aEx aOl aPl aTa aAt aLo aS1 aS2 aS3 aS4 aS5 aS6 aO1 aO2 aO3 aO4 aO5 dr wt gPl gId gAt gLo P9 (nI P9 + 0) 0 f_m f_aPl f_aId f_aAt f_aLo zId (by decide) (Int32.add_zero _) (by omega) ne_aId_aAt ne_aId_aLo ne_aAt_aLo) ⟨cw9B 3 hts mw_511 mw_512 mw_428 rfl rfl (by decide +kernel) ⟨Nat.le_of_ble_eq_true rfl, Nat.le_of_ble_eq_true rfl⟩, hts _ mw_513, hts _ mw_514⟩ (hP_V (q := (R_Mo, F_Mo, 41)) kE_ok hE hK hH f_m rfl) rfl rfl hl.1 rfl (lv_room (Nat.le_of_ble_eq_true rfl)) d_Mo_along_129 ⟨Nat.le_of_ble_eq_true rfl, Nat.le_of_ble_eq_true rfl⟩) hLo (fun h17 H18 locs hp20 hH z19 hLo => ?_)
  have hz : s.heap.size ≤ H18.size := Nat.le_trans hz z19
  obtain ⟨hk9, g21, hg9⟩ := hp20
  have f_m : h17 mo = some (.inr (9, [.int 0, .int (nI n), .int 0, .ref aBy, .ref aSt, .ref aDe, .int 0, .int (-1), .int wt, .ref aPa, .int 1, .ref aIt, .ref aId, .ref aPr, .ref aNa, .ref aSi, .ref aSe, .ref aIw, .ref aEx, .ref aOl, .int 0, .ref aPl, .int dr, .int 0, .ref aTa, .ref aAt, .ref aLo, .int 0, .int 0, .ref aS1, .ref aS2, .ref aS3, .ref aS4, .ref aS5, .ref aS6, .int 0, .ref aO1, .ref aO2, .ref aO3, .ref aO4, .ref aO5])) := kp_at hk9 f_m (nmc (Ne.symm (h_neA f_aPl f_m)) nm0)
  have f_aId : h17 aId = some (.inl ((t 1), 700, .inl gId)) := kp_at hk9 f_aId (nmc (h_neL (k1 := 700) (k2 := 163840) f_aId f_aPl rfl rfl (by omega)) nm0)
  have f_aAt : h17 aAt = some (.inl ((t 2), 700, .inl gAt)) := kp_at hk9 f_aAt (nmc (h_neL (k1 := 700) (k2 := 163840) f_aAt f_aPl rfl rfl (by omega)) nm0)
  have f_aLo : h17 aLo = some (.inl ((t 2), 700, .inl gLo)) := kp_at hk9 f_aLo (nmc (h_neL (k1 := 700) (k2 := 163840) f_aLo f_aPl rfl rfl (by omega)) nm0)
  have hkp : kp [aPl] h h17 := kp_tr2 hkp hk9 (List.forall_mem_cons.mpr ⟨Or.inl (by simp), List.forall_mem_nil _⟩)
  have f_aPl : h17 aPl = some (.inl ((t 0), 163840, .inl g21)) := hg9
  refine lv_iload hx hb d_Mo_along_132 (lv_at hl 4 rfl) ?_
  refine lv_iload hx hb d_Mo_along_134 (lv_at hl 0 rfl) ?_
  refine lv_iadd hx hb d_Mo_along_136 ?_
  refine lv_topi (fun v22 e23 => ?_)
  obtain rfl : v22 = 34 := e23.trans (by decide)
  refine lv_istore (lv' := [(4, .int 34), (8, .int 34), (7, .int 0), (6, .int (-1)), (5, .int 0), (0, .ref mo), (1, .int 0), (2, .int (nI P9)), (3, .int 1)]) hx hb d_Mo_along_137 hl (by decide) rfl (fun ls hl => ?_)
  refine lv_iload hx hb d_Mo_along_139 (lv_at hl 4 rfl) ?_
  refine lv_iconst (v := 2) hx hb d_Mo_along_141 (by decide) ?_
  refine lv_icmp_ge (tgt := 152) hx hb d_Mo_along_142 (by decide) (fun hc24 => absurd hc24 (by decide)) (fun hc24 => ?_)
  refine lv_iload hx hb d_Mo_along_145 (lv_at hl 4 rfl) ?_
  refine lv_iconst (v := 1) hx hb d_Mo_along_147 (by decide) ?_
  refine lv_iadd hx hb d_Mo_along_148 ?_
  refine lv_goto (tgt := 153) hx hb d_Mo_along_149 (by decide) ?_
  refine lv_topi (fun v25 e26 => ?_)
  obtain rfl : v25 = 1 := e26.trans (by decide)
  refine lv_istore (lv' := [(5, .int 1), (4, .int 34), (8, .int 34), (7, .int 0), (6, .int (-1)), (0, .ref mo), (1, .int 0), (2, .int (nI P9)), (3, .int 1)]) hx hb d_Mo_along_153 hl (by decide) rfl (fun ls hl => ?_)
  refine lv_goto (tgt := 9) hx hb d_Mo_along_155 (by decide) ?_
  refine lv_iload hx hb d_Mo_along_9 (lv_at hl 0 rfl) ?_
  refine lv_iconst (v := 2) hx hb d_Mo_along_11 (by decide) ?_
  refine lv_icmp_ne (tgt := 32) hx hb d_Mo_along_12 (by decide) (fun hc27 => ?_) (fun hc27 => absurd hc27 (by decide))
  refine lv_iload hx hb d_Mo_along_32 (lv_at hl 0 rfl) ?_
  refine lv_if_eq (tgt := 47) hx hb d_Mo_along_34 (by decide) (fun hc28 => absurd hc28 (by decide)) (fun hc28 => ?_)
  refine lv_iload hx hb d_Mo_along_37 (lv_at hl 0 rfl) ?_
  refine lv_iconst (v := 1) hx hb d_Mo_along_39 (by decide) ?_
  refine lv_icmp_ne (tgt := 51) hx hb d_Mo_along_40 (by decide) (fun hc29 => absurd rfl hc29) (fun hc29 => ?_)
  refine lv_iload_n hx hb d_Mo_along_43 rfl (lv_at hl 6 rfl) ?_
  refine lv_if_ne (tgt := 51) hx hb d_Mo_along_44 (by decide) (fun hc30 => absurd rfl hc30) (fun hc30 => ?_)
  refine lv_iload_n hx hb d_Mo_along_47 rfl (lv_at hl 6 rfl) ?_
  refine lv_goto (tgt := 68) hx hb d_Mo_along_48 (by decide) ?_
  refine lv_istore (lv' := [(7, .int 0), (5, .int 1), (4, .int 34), (8, .int 34), (6, .int (-1)), (0, .ref mo), (1, .int 0), (2, .int (nI P9)), (3, .int 1)]) hx hb d_Mo_along_68 hl (by decide) rfl (fun ls hl => ?_)
  refine lv_bipush (v := 33) hx hb d_Mo_along_70 (by decide) ?_
  refine lv_aload_n hx hb d_Mo_along_72 rfl (lv_at hl 5 rfl) ?_
  refine lv_iload hx hb d_Mo_along_73 (lv_at hl 1 rfl) ?_
  refine lv_iload hx hb d_Mo_along_75 (lv_at hl 0 rfl) ?_
  refine hm_calli (va_runV (As := [.int 1, .int 0]) (b := mo) (rest := [.int 33]) ⟨hx, hb, hml, hown, hts⟩ (c_m_recordId l D t G ak av h17 mo 1 0 (by decide)) ⟨cw9B 2 hts mw_496 mw_497 mw_428 rfl rfl (by decide +kernel) ⟨Nat.le_of_ble_eq_true rfl, Nat.le_of_ble_eq_true rfl⟩, hts _ mw_498, hts _ mw_499⟩ (hP_V (q := (R_Mo, F_Mo, 41)) kE_ok hE hK hH f_m rfl) rfl rfl hl.1 rfl (lv_room (Nat.le_of_ble_eq_true rfl)) d_Mo_along_77 ⟨Nat.le_of_ble_eq_true rfl, Nat.le_of_ble_eq_true rfl⟩) hLo (fun r31 h32 H33 locs hp35 hH z34 hLo => ?_)
  have hz : s.heap.size ≤ H33.size := Nat.le_trans hz z34
  obtain ⟨rfl, rfl⟩ := hp35
  refine lv_iadd hx hb d_Mo_along_80 ?_
  refine hm_calli (va_runS (As := [.int (33 + 1)]) (rest := []) ⟨hx, hb, hml, hown, hts⟩ (c_m_even l D t G ak av h17 (33 + 1)) ⟨cw9B 1 hts mw_500 mw_501 mw_428 rfl rfl (by decide +kernel) ⟨Nat.le_of_ble_eq_true rfl, Nat.le_of_ble_eq_true rfl⟩, hts _ mw_502⟩ (hP_S kE_ok hE hH) rfl rfl hl.1 rfl (lv_room (Nat.le_of_ble_eq_true rfl)) d_Mo_along_81 ⟨Nat.le_of_ble_eq_true rfl, Nat.le_of_ble_eq_true rfl⟩) hLo (fun r36 h37 H38 locs hp40 hH z39 hLo => ?_)
  have hz : s.heap.size ≤ H38.size := Nat.le_trans hz z39
  obtain ⟨rfl, rfl⟩ := hp40
  refine lv_topi (fun v41 e42 => ?_)
  obtain rfl : v41 = 34 := e42.trans (by decide)
  refine lv_istore (lv' := [(8, .int 34), (7, .int 0), (5, .int 1), (4, .int 34), (6, .int (-1)), (0, .ref mo), (1, .int 0), (2, .int (nI P9)), (3, .int 1)]) hx hb d_Mo_along_84 hl (by decide) rfl (fun ls hl => ?_)
  refine lv_iload hx hb d_Mo_along_86 (lv_at hl 3 rfl) ?_
  refine lv_sipush (v := 2048) hx hb d_Mo_along_88 (by decide) ?_
  refine lv_irem hx hb d_Mo_along_91 (by decide) ?_
  refine lv_iload hx hb d_Mo_along_92 (lv_at hl 0 rfl) ?_
  refine lv_iadd hx hb d_Mo_along_94 ?_
  refine lv_sipush (v := 2048) hx hb d_Mo_along_95 (by decide) ?_
  refine lv_icmp_le (tgt := 116) hx hb d_Mo_along_98 (by decide) (fun hc43 => ?_) (fun hc43 => absurd (by decide) hc43)
  refine lv_iload_n hx hb d_Mo_along_116 rfl (lv_at hl 8 rfl) ?_
  refine lv_if_eq (tgt := 132) hx hb d_Mo_along_117 (by decide) (fun hc44 => absurd hc44 (by decide)) (fun hc44 => ?_)
  refine lv_aload_n hx hb d_Mo_along_120 rfl (lv_at hl 5 rfl) ?_
  refine lv_iload_n hx hb d_Mo_along_121 rfl (lv_at hl 7 rfl) ?_
  refine lv_iload hx hb d_Mo_along_122 (lv_at hl 3 rfl) ?_
  refine lv_iadd hx hb d_Mo_along_124 ?_
  refine lv_iload hx hb d_Mo_along_125 (lv_at hl 2 rfl) ?_
  refine lv_iload hx hb d_Mo_along_127 (lv_at hl 1 rfl) ?_
  refine hm_callv (va_runV (As := [.int ((nI P9) + 34), .int 1, .int 0]) (b := mo) (rest := []) ⟨hx, hb, hml, hown, hts⟩ (c_m_record l D t G ak av h17 mo n aBy aSt aDe aPa aIt aId aPr aNa aSi aSe aIw aEx aOl aPl aTa aAt aLo aS1 aS2 aS3 aS4 aS5 aS6 aO1 aO2 aO3 aO4 aO5 dr wt g21 gId gAt gLo (P9 + 34) (nI P9 + 34) 1 f_m f_aPl f_aId f_aAt f_aLo zId (by decide) (nI_add _ _) (by omega) ne_aId_aAt ne_aId_aLo ne_aAt_aLo) ⟨cw9B 3 hts mw_511 mw_512 mw_428 rfl rfl (by decide +kernel) ⟨Nat.le_of_ble_eq_true rfl, Nat.le_of_ble_eq_true rfl⟩, hts _ mw_513, hts _ mw_514⟩ (hP_V (q := (R_Mo, F_Mo, 41)) kE_ok hE hK hH f_m rfl) rfl rfl hl.1 rfl (lv_room (Nat.le_of_ble_eq_true rfl)) d_Mo_along_129 ⟨Nat.le_of_ble_eq_true rfl, Nat.le_of_ble_eq_true rfl⟩) hLo (fun h45 H46 locs hp48 hH z47 hLo => ?_)
  have hz : s.heap.size ≤ H46.size := Nat.le_trans hz z47
  obtain ⟨hk9, g49, hg9⟩ := hp48
  have f_m : h45 mo = some (.inr (9, [.int 0, .int (nI n), .int 0, .ref aBy, .ref aSt, .ref aDe, .int 0, .int (-1), .int wt, .ref aPa, .int 1, .ref aIt, .ref aId, .ref aPr, .ref aNa, .ref aSi, .ref aSe, .ref aIw, .ref aEx, .ref aOl, .int 0, .ref aPl, .int dr, .int 0, .ref aTa, .ref aAt, .ref aLo, .int 0, .int 0, .ref aS1, .ref aS2, .ref aS3, .ref aS4, .ref aS5, .ref aS6, .int 0, .ref aO1, .ref aO2, .ref aO3, .ref aO4, .ref aO5])) := kp_at hk9 f_m (nmc (Ne.symm (h_neA f_aPl f_m)) nm0)
  have f_aId : h45 aId = some (.inl ((t 1), 700, .inl gId)) := kp_at hk9 f_aId (nmc (h_neL (k1 := 700) (k2 := 163840) f_aId f_aPl rfl rfl (by omega)) nm0)
  have f_aAt : h45 aAt = some (.inl ((t 2), 700, .inl gAt)) := kp_at hk9 f_aAt (nmc (h_neL (k1 := 700) (k2 := 163840) f_aAt f_aPl rfl rfl (by omega)) nm0)
  have f_aLo : h45 aLo = some (.inl ((t 2), 700, .inl gLo)) := kp_at hk9 f_aLo (nmc (h_neL (k1 := 700) (k2 := 163840) f_aLo f_aPl rfl rfl (by omega)) nm0)
  have hkp : kp [aPl] h h45 := kp_tr2 hkp hk9 (List.forall_mem_cons.mpr ⟨Or.inl (by simp), List.forall_mem_nil _⟩)
  have f_aPl : h45 aPl = some (.inl ((t 0), 163840, .inl g49)) := hg9
  refine lv_iload hx hb d_Mo_along_132 (lv_at hl 3 rfl) ?_
  refine lv_iload hx hb d_Mo_along_134 (lv_at hl 0 rfl) ?_
  refine lv_iadd hx hb d_Mo_along_136 ?_
  refine lv_topi (fun v50 e51 => ?_)
  obtain rfl : v50 = 68 := e51.trans (by decide)
  refine lv_istore (lv' := [(4, .int 68), (8, .int 34), (7, .int 0), (5, .int 1), (6, .int (-1)), (0, .ref mo), (1, .int 0), (2, .int (nI P9)), (3, .int 1)]) hx hb d_Mo_along_137 hl (by decide) rfl (fun ls hl => ?_)
  refine lv_iload hx hb d_Mo_along_139 (lv_at hl 3 rfl) ?_
  refine lv_iconst (v := 2) hx hb d_Mo_along_141 (by decide) ?_
  refine lv_icmp_ge (tgt := 152) hx hb d_Mo_along_142 (by decide) (fun hc52 => absurd hc52 (by decide)) (fun hc52 => ?_)
  refine lv_iload hx hb d_Mo_along_145 (lv_at hl 3 rfl) ?_
  refine lv_iconst (v := 1) hx hb d_Mo_along_147 (by decide) ?_
  refine lv_iadd hx hb d_Mo_along_148 ?_
  refine lv_goto (tgt := 153) hx hb d_Mo_along_149 (by decide) ?_
  refine lv_topi (fun v53 e54 => ?_)
  obtain rfl : v53 = 2 := e54.trans (by decide)
  refine lv_istore (lv' := [(5, .int 2), (4, .int 68), (8, .int 34), (7, .int 0), (6, .int (-1)), (0, .ref mo), (1, .int 0), (2, .int (nI P9)), (3, .int 1)]) hx hb d_Mo_along_153 hl (by decide) rfl (fun ls hl => ?_)
  refine lv_goto (tgt := 9) hx hb d_Mo_along_155 (by decide) ?_
  refine lv_iload hx hb d_Mo_along_9 (lv_at hl 0 rfl) ?_
  refine lv_iconst (v := 2) hx hb d_Mo_along_11 (by decide) ?_
  refine lv_icmp_ne (tgt := 32) hx hb d_Mo_along_12 (by decide) (fun hc55 => absurd rfl hc55) (fun hc55 => ?_)
  refine lv_aload_n hx hb d_Mo_along_15 rfl (lv_at hl 5 rfl) ?_
  refine lv_iload_n hx hb d_Mo_along_16 rfl (lv_at hl 6 rfl) ?_
  refine lv_iload hx hb d_Mo_along_17 (lv_at hl 4 rfl) ?_
  refine hm_calli (va_runV (As := [.int 0, .int (-1)]) (b := mo) (rest := []) ⟨hx, hb, hml, hown, hts⟩ (c_m_next l D t G ak av h45 mo n aBy aSt aDe aPa aIt aId aPr aNa aSi aSe aIw aEx aOl aPl aTa aAt aLo aS1 aS2 aS3 aS4 aS5 aS6 aO1 aO2 aO3 aO4 aO5 dr wt 0 (-1) f_m) ⟨cw9B 2 hts mw_507 mw_508 mw_428 rfl rfl (by decide +kernel) ⟨Nat.le_of_ble_eq_true rfl, Nat.le_of_ble_eq_true rfl⟩, hts _ mw_509, hts _ mw_510⟩ (hP_V (q := (R_Mo, F_Mo, 41)) kE_ok hE hK hH f_m rfl) rfl rfl hl.1 rfl (lv_room (Nat.le_of_ble_eq_true rfl)) d_Mo_along_19 ⟨Nat.le_of_ble_eq_true rfl, Nat.le_of_ble_eq_true rfl⟩) hLo (fun r56 h57 H58 locs hp60 hH z59 hLo => ?_)
  have hz : s.heap.size ≤ H58.size := Nat.le_trans hz z59
  obtain ⟨rfl, rfl⟩ := hp60
  refine lv_istore (lv' := [(6, .int (-1)), (5, .int 2), (4, .int 68), (8, .int 34), (7, .int 0), (0, .ref mo), (1, .int 0), (2, .int (nI P9)), (3, .int 1)]) hx hb d_Mo_along_22 hl (by decide) rfl (fun ls hl => ?_)
  refine lv_iload hx hb d_Mo_along_24 (lv_at hl 0 rfl) ?_
  refine lv_if_ge (tgt := 32) hx hb d_Mo_along_26 (by decide) (fun hc61 => absurd hc61 (by decide)) (fun hc61 => ?_)
  refine lv_iload hx hb d_Mo_along_29 (lv_at hl 2 rfl) ?_
  exact W.iret (v := 68) hx hb hr (fun t9 ht hW => ⟨68, h45, rfl, ⟨hkp, _, f_aPl⟩, by rw [ht]; exact hH, by rw [ht]; exact hz⟩) hLo d_Mo_along_31

set_option maxHeartbeats 4000000 in
set_option maxRecDepth 100000 in
theorem c_m_tables (l : Launch) (D : va_G) (t : Nat → ClassId) (G : hG) (ak av : Nat → Nat) (h : hM) (mo n aBy aSt aDe aPa aIt aId aPr aNa aSi aSe aIw aEx aOl aPl aTa aAt aLo aS1 aS2 aS3 aS4 aS5 aS6 aO1 aO2 aO3 aO4 aO5 : Nat) (dr wt : Int32) (gTa : Nat → Int32) (f_m : h mo = some (.inr (9, [.int 0, .int (nI n), .int 0, .ref aBy, .ref aSt, .ref aDe, .int 0, .int (-1), .int wt, .ref aPa, .int 1, .ref aIt, .ref aId, .ref aPr, .ref aNa, .ref aSi, .ref aSe, .ref aIw, .ref aEx, .ref aOl, .int 0, .ref aPl, .int dr, .int 0, .ref aTa, .ref aAt, .ref aLo, .int 0, .int 0, .ref aS1, .ref aS2, .ref aS3, .ref aS4, .ref aS5, .ref aS6, .int 0, .ref aO1, .ref aO2, .ref aO3, .ref aO4, .ref aO5]))) (f_aTa : h aTa = some (.inl ((t 2), 30, .inl gTa))) : Met l y_Mo_tables (.code y_Mo_tables b_Mo_tables 3 none :: lw_g) { frames := 1, cells := 0, slots := 0, locals := 24 } (hP (kE D t G ak av) D vwCl G h [.ref mo]) (hQv D vwCl G (fun h' => kp [mo, aTa] h h' ∧ h' mo = some (.inr (9, [.int 0, .int (nI n), .int 0, .ref aBy, .ref aSt, .ref aDe, .int 0, .int (-1), .int wt, .ref aPa, .int 1, .ref aIt, .ref aId, .ref aPr, .ref aNa, .ref aSi, .ref aSe, .ref aIw, .ref aEx, .ref aOl, .int 0, .ref aPl, .int 1, .int 0, .ref aTa, .ref aAt, .ref aLo, .int 0, .int 0, .ref aS1, .ref aS2, .ref aS3, .ref aS4, .ref aS5, .ref aS6, .int 0, .ref aO1, .ref aO2, .ref aO3, .ref aO4, .ref aO5])) ∧ ∃ g : Nat → Int32, h' aTa = some (.inl ((t 2), 30, .inl g)) ∧ g 0 = 0)) 0 0 G.P := by
  refine Met.ofW (cc := b_Mo_tables) (maxL := 3) (ret := none) (by decide) rfl ?_
  intro p e s m args below meth c s₁ Bd hml hv
  obtain ⟨ha, hE, hH⟩ := hv
  have hx := Bd.exec
  have hb := Bd.bytes
  have hr := Bd.returns
  have hts : ∀ w ∈ lw_g, w.before args s = true := fun w hw => atoms_spec (ws := (.code y_Mo_tables b_Mo_tables 3 none :: lw_g)) Bd.pre w (List.mem_cons_of_mem _ hw)
  have hown : s.vm.findClass R_Mo = some m.cls := findClass_of_methodNamed Bd.named
  have hlocks := Bd.notSynchronized
  have hK := hE.1
  have hH0 := hH
  have hLo : hLc G.P [] := hLc_nil
  have hz : s.heap.size ≤ s.heap.size := Nat.le_refl _
  have hkp : kp [mo, aTa] h h := kp_rf
  have hl := lv_entry [.ref mo] (n := 3) (Nat.le_of_ble_eq_true rfl)
  rw [show entryFrame m args 3 = F0 m 0 ((lg_sl [.ref mo] ++ List.replicate (3 - (lg_sl [.ref mo]).length) Slot.unset).toArray) [] from (by rw [ha]; exact lg_entry_eq m [.ref mo] 3)]
  generalize (lg_sl [.ref mo] ++ List.replicate (3 - (lg_sl [.ref mo]).length) Slot.unset).toArray = ls at hl ⊢
  have hl : lv_has ls 3 [(0, .ref mo)] := hl
  refine lv_aload_n hx hb d_Mo_tables_0 rfl (lv_at hl 0 rfl) ?_
  refine lv_iconst (v := 1) hx hb d_Mo_tables_1 (by decide) ?_
  refine hm_put (ci := 9) (v := .int 1) (ty := .int) (C := R_Mo) (T := F_Mo) (N := 41) hx hb hts ig_Mo t_Mo tk_Mo nm_Mo hown hK hH hLo f_m rfl 22 (by decide) (hts _ mw_515) (fun _ h9 => h9) rfl (by decide +kernel) rfl rfl (Nat.le_of_ble_eq_true rfl) d_Mo_tables_2 (fun H1 locs hH z2 hLo => ?_)
  have hz : s.heap.size ≤ H1.size := by rw [z2]; exact hz
  obtain ⟨h3, e4⟩ : ∃ z, z = hu h mo (.inr (9, [.int 0, .int (nI n), .int 0, .ref aBy, .ref aSt, .ref aDe, .int 0, .int (-1), .int wt, .ref aPa, .int 1, .ref aIt, .ref aId, .ref aPr, .ref aNa, .ref aSi, .ref aSe, .ref aIw, .ref aEx, .ref aOl, .int 0, .ref aPl, .int 1, .int 0, .ref aTa, .ref aAt, .ref aLo, .int 0, .int 0, .ref aS1, .ref aS2, .ref aS3, .ref aS4, .ref aS5, .ref aS6, .int 0, .ref aO1, .ref aO2, .ref aO3, .ref aO4, .ref aO5])) := ⟨_, rfl⟩
  have hH : hm D vwCl G h3 H1 := by rw [e4]; exact hH
  have f_aTa : h3 aTa = some (.inl ((t 2), 30, .inl gTa)) := by rw [e4, hu_n (h_neA f_aTa f_m)]; exact f_aTa
  have f_m : h3 mo = some (.inr (9, [.int 0, .int (nI n), .int 0, .ref aBy, .ref aSt, .ref aDe, .int 0, .int (-1), .int wt, .ref aPa, .int 1, .ref aIt, .ref aId, .ref aPr, .ref aNa, .ref aSi, .ref aSe, .ref aIw, .ref aEx, .ref aOl, .int 0, .ref aPl, .int 1, .int 0, .ref aTa, .ref aAt, .ref aLo, .int 0, .int 0, .ref aS1, .ref aS2, .ref aS3, .ref aS4, .ref aS5, .ref aS6, .int 0, .ref aO1, .ref aO2, .ref aO3, .ref aO4, .ref aO5])) := by rw [e4]; exact hu_s _ _ _
  have hkp : kp [mo, aTa] h h3 := by rw [e4]; exact kp_put hkp (by simp)
  refine lv_aload_n hx hb d_Mo_tables_5 rfl (lv_at hl 0 rfl) ?_
  refine hm_get (ci := 9) (v := .ref aTa) (C := R_Mo) (T := F_Mo) (N := 41) hx hb hts ig_Mo hown hK hH f_m rfl 24 (by decide) (hts _ mw_411) (fun _ h9 => h9) rfl d_Mo_tables_6 ?_
  refine lv_iconst (v := 0) hx hb d_Mo_tables_9 (by decide) ?_
  refine lv_iconst (v := 0) hx hb d_Mo_tables_10 (by decide) ?_
  refine hj_iast hx hb hK hH hLo 2 f_aTa rfl 0 (by decide) (by decide) (by decide) d_Mo_tables_11 (fun H5 locs hH z6 hLo => ?_)
  have hz : s.heap.size ≤ H5.size := by rw [z6]; exact hz
  obtain ⟨h7, e8⟩ : ∃ z, z = hu h3 aTa (.inl ((t 2), 30, .inl (upd gTa 0 0))) := ⟨_, rfl⟩
  have hH : hm D vwCl G h7 H5 := by rw [e8]; exact hH
  have f_m : h7 mo = some (.inr (9, [.int 0, .int (nI n), .int 0, .ref aBy, .ref aSt, .ref aDe, .int 0, .int (-1), .int wt, .ref aPa, .int 1, .ref aIt, .ref aId, .ref aPr, .ref aNa, .ref aSi, .ref aSe, .ref aIw, .ref aEx, .ref aOl, .int 0, .ref aPl, .int 1, .int 0, .ref aTa, .ref aAt, .ref aLo, .int 0, .int 0, .ref aS1, .ref aS2, .ref aS3, .ref aS4, .ref aS5, .ref aS6, .int 0, .ref aO1, .ref aO2, .ref aO3, .ref aO4, .ref aO5])) := by rw [e8, hu_n (Ne.symm (h_neA f_aTa f_m))]; exact f_m
  have f_aTa : h7 aTa = some (.inl ((t 2), 30, .inl (upd gTa 0 0))) := by rw [e8]; exact hu_s _ _ _
  have hkp : kp [mo, aTa] h h7 := by rw [e8]; exact kp_put hkp (by simp)
  refine lv_iconst (v := 0) hx hb d_Mo_tables_12 (by decide) ?_
  refine lv_istore_n (lv' := [(1, .int 0), (0, .ref mo)]) hx hb d_Mo_tables_13 rfl hl (by decide) rfl (fun ls hl => ?_)
  refine lv_iload_n hx hb d_Mo_tables_14 rfl (lv_at hl 0 rfl) ?_
  refine lv_aload_n hx hb d_Mo_tables_15 rfl (lv_at hl 1 rfl) ?_
  refine hm_get (ci := 9) (v := .int 1) (C := R_Mo) (T := F_Mo) (N := 41) hx hb hts ig_Mo hown hK hH f_m rfl 22 (by decide) (hts _ mw_515) (fun _ h9 => h9) rfl d_Mo_tables_16 ?_
  refine lv_icmp_ge (tgt := 91) hx hb d_Mo_tables_19 (by decide) (fun hc9 => absurd hc9 (by decide)) (fun hc9 => ?_)
  refine lv_aload_n hx hb d_Mo_tables_22 rfl (lv_at hl 1 rfl) ?_
  refine lv_aload_n hx hb d_Mo_tables_23 rfl (lv_at hl 1 rfl) ?_
  refine hm_get (ci := 9) (v := .ref aTa) (C := R_Mo) (T := F_Mo) (N := 41) hx hb hts ig_Mo hown hK hH f_m rfl 24 (by decide) (hts _ mw_411) (fun _ h9 => h9) rfl d_Mo_tables_24 ?_
  refine lv_iload_n hx hb d_Mo_tables_27 rfl (lv_at hl 0 rfl) ?_
  refine hj_iald hx hb hK hH 2 f_aTa rfl 0 (by decide) (by decide) (by decide) d_Mo_tables_28 ?_
  refine lv_iconst (v := -1) hx hb d_Mo_tables_29 (by decide) ?_
  refine hm_calli (va_runV (As := [.int ((upd gTa 0 0) 0), .int (-1)]) (b := mo) (rest := []) ⟨hx, hb, hml, hown, hts⟩ (c_m_next l D t G ak av h7 mo n aBy aSt aDe aPa aIt aId aPr aNa aSi aSe aIw aEx aOl aPl aTa aAt aLo aS1 aS2 aS3 aS4 aS5 aS6 aO1 aO2 aO3 aO4 aO5 1 wt ((upd gTa 0 0) 0) (-1) f_m) ⟨cw9B 2 hts mw_507 mw_508 mw_428 rfl rfl (by decide +kernel) ⟨Nat.le_of_ble_eq_true rfl, Nat.le_of_ble_eq_true rfl⟩, hts _ mw_509, hts _ mw_510⟩ (hP_V (q := (R_Mo, F_Mo, 41)) kE_ok hE hK hH f_m rfl) rfl rfl hl.1 rfl (lv_room (Nat.le_of_ble_eq_true rfl)) d_Mo_tables_30 ⟨Nat.le_of_ble_eq_true rfl, Nat.le_of_ble_eq_true rfl⟩) hLo (fun r10 h11 H12 locs hp14 hH z13 hLo => ?_)
  have hz : s.heap.size ≤ H12.size := Nat.le_trans hz z13
  obtain ⟨rfl, rfl⟩ := hp14
  refine lv_istore_n (lv' := [(2, .int (-1)), (1, .int 0), (0, .ref mo)]) hx hb d_Mo_tables_33 rfl hl (by decide) rfl (fun ls hl => ?_)
  refine lv_iload_n hx hb d_Mo_tables_34 rfl (lv_at hl 0 rfl) ?_
  refine lv_if_lt (tgt := 85) hx hb d_Mo_tables_35 (by decide) (fun hc15 => ?_) (fun hc15 => absurd (by decide) hc15)
  refine lv_iinc (v := 0 + 1) (lv' := [(1, .int (0 + 1)), (2, .int (-1)), (0, .ref mo)]) hx hb d_Mo_tables_85 hl (k := 1) rfl (by rfl) (by decide) rfl (fun ls hl => ?_)
  refine lv_goto (tgt := 14) hx hb d_Mo_tables_88 (by decide) ?_
  refine lv_iload_n hx hb d_Mo_tables_14 rfl (lv_at hl 0 rfl) ?_
  refine lv_aload_n hx hb d_Mo_tables_15 rfl (lv_at hl 2 rfl) ?_
  refine hm_get (ci := 9) (v := .int 1) (C := R_Mo) (T := F_Mo) (N := 41) hx hb hts ig_Mo hown hK hH f_m rfl 22 (by decide) (hts _ mw_515) (fun _ h9 => h9) rfl d_Mo_tables_16 ?_
  refine lv_icmp_ge (tgt := 91) hx hb d_Mo_tables_19 (by decide) (fun hc16 => ?_) (fun hc16 => absurd (by decide) hc16)
  exact W.vret hx hb hr (fun t9 ht hW => ⟨h7, rfl, ⟨hkp, f_m, _, f_aTa, upd0 _ _ rfl⟩, by rw [ht]; exact hH, by rw [ht]; exact hz⟩) hLo d_Mo_tables_91

set_option maxHeartbeats 4000000 in
set_option maxRecDepth 100000 in
theorem c_m_measure (l : Launch) (D : va_G) (t : Nat → ClassId) (G : hG) (ak av : Nat → Nat) (h : hM) (mo n aBy aSt aDe aPa aIt aId aPr aNa aSi aSe aIw aEx aOl aPl aTa aAt aLo aS1 aS2 aS3 aS4 aS5 aS6 aO1 aO2 aO3 aO4 aO5 : Nat) (dr wt : Int32) (gTa gAt gLo : Nat → Int32) (f_m : h mo = some (.inr (9, [.int 0, .int (nI n), .int 0, .ref aBy, .ref aSt, .ref aDe, .int 0, .int (-1), .int wt, .ref aPa, .int 1, .ref aIt, .ref aId, .ref aPr, .ref aNa, .ref aSi, .ref aSe, .ref aIw, .ref aEx, .ref aOl, .int 0, .ref aPl, .int dr, .int 0, .ref aTa, .ref aAt, .ref aLo, .int 0, .int 0, .ref aS1, .ref aS2, .ref aS3, .ref aS4, .ref aS5, .ref aS6, .int 0, .ref aO1, .ref aO2, .ref aO3, .ref aO4, .ref aO5]))) (f_aTa : h aTa = some (.inl ((t 2), 30, .inl gTa))) (f_aAt : h aAt = some (.inl ((t 2), 700, .inl gAt))) (f_aLo : h aLo = some (.inl ((t 2), 700, .inl gLo))) (ne_aAt_aLo : aAt ≠ aLo) : Met l y_Mo_measure (.code y_Mo_measure b_Mo_measure 5 (some .int) :: lw_g) { frames := 2, cells := 0, slots := 0, locals := 52 } (hP (kE D t G ak av) D vwCl G h [.ref mo, .int 0]) (hQi D vwCl G (fun r h' => r = 22 ∧ kp [mo, aTa, aAt, aLo] h h' ∧ h' mo = some (.inr (9, [.int 0, .int (nI n), .int 0, .ref aBy, .ref aSt, .ref aDe, .int 0, .int (-1), .int wt, .ref aPa, .int 1, .ref aIt, .ref aId, .ref aPr, .ref aNa, .ref aSi, .ref aSe, .ref aIw, .ref aEx, .ref aOl, .int 0, .ref aPl, .int 1, .int 0, .ref aTa, .ref aAt, .ref aLo, .int 0, .int 0, .ref aS1, .ref aS2, .ref aS3, .ref aS4, .ref aS5, .ref aS6, .int 0, .ref aO1, .ref aO2, .ref aO3, .ref aO4, .ref aO5])) ∧ ∃ gTa gAt gLo : Nat → Int32, h' aTa = some (.inl ((t 2), 30, .inl gTa)) ∧ h' aAt = some (.inl ((t 2), 700, .inl gAt)) ∧ h' aLo = some (.inl ((t 2), 700, .inl gLo)) ∧ gTa 0 = 0 ∧ gAt 0 = 20)) 0 0 G.P := by
  refine Met.ofW (cc := b_Mo_measure) (maxL := 5) (ret := (some .int)) (by decide) rfl ?_
  intro p e s m args below meth c s₁ Bd hml hv
  obtain ⟨ha, hE, hH⟩ := hv
  have hx := Bd.exec
  have hb := Bd.bytes
  have hr := Bd.returns
  have hts : ∀ w ∈ lw_g, w.before args s = true := fun w hw => atoms_spec (ws := (.code y_Mo_measure b_Mo_measure 5 (some .int) :: lw_g)) Bd.pre w (List.mem_cons_of_mem _ hw)
  have hown : s.vm.findClass R_Mo = some m.cls := findClass_of_methodNamed Bd.named
  have hlocks := Bd.notSynchronized
  have hK := hE.1
  have hH0 := hH
  have hLo : hLc G.P [] := hLc_nil
  have hz : s.heap.size ≤ s.heap.size := Nat.le_refl _
  have hkp : kp [mo, aTa, aAt, aLo] h h := kp_rf
  have hl := lv_entry [.ref mo, .int 0] (n := 5) (Nat.le_of_ble_eq_true rfl)
  rw [show entryFrame m args 5 = F0 m 0 ((lg_sl [.ref mo, .int 0] ++ List.replicate (5 - (lg_sl [.ref mo, .int 0]).length) Slot.unset).toArray) [] from (by rw [ha]; exact lg_entry_eq m [.ref mo, .int 0] 5)]
  generalize (lg_sl [.ref mo, .int 0] ++ List.replicate (5 - (lg_sl [.ref mo, .int 0]).length) Slot.unset).toArray = ls at hl ⊢
  have hl : lv_has ls 5 [(0, .ref mo), (1, .int 0)] := hl
  refine lv_aload_n hx hb d_Mo_measure_0 rfl (lv_at hl 0 rfl) ?_
  refine hm_callv (va_runV (As := []) (b := mo) (rest := []) ⟨hx, hb, hml, hown, hts⟩ (c_m_tables l D t G ak av h mo n aBy aSt aDe aPa aIt aId aPr aNa aSi aSe aIw aEx aOl aPl aTa aAt aLo aS1 aS2 aS3 aS4 aS5 aS6 aO1 aO2 aO3 aO4 aO5 dr wt gTa f_m f_aTa) ⟨cw9B 0 hts mw_516 mw_517 mw_428 rfl rfl (by decide +kernel) ⟨Nat.le_of_ble_eq_true rfl, Nat.le_of_ble_eq_true rfl⟩, hts _ mw_518, hts _ mw_519⟩ (hP_V (q := (R_Mo, F_Mo, 41)) kE_ok hE hK hH f_m rfl) rfl rfl hl.1 rfl (lv_room (Nat.le_of_ble_eq_true rfl)) d_Mo_measure_1 ⟨Nat.le_of_ble_eq_true rfl, Nat.le_of_ble_eq_true rfl⟩) hLo (fun h1 H2 locs hp4 hH z3 hLo => ?_)
  have hz : s.heap.size ≤ H2.size := Nat.le_trans hz z3
  obtain ⟨hk9, hm9, gT, hg9, hta⟩ := hp4
  have f_aAt : h1 aAt = some (.inl ((t 2), 700, .inl gAt)) := kp_at hk9 f_aAt (nmc (h_neA f_aAt f_m) (nmc (h_neL (k1 := 700) (k2 := 30) f_aAt f_aTa rfl rfl (by omega)) nm0))
  have f_aLo : h1 aLo = some (.inl ((t 2), 700, .inl gLo)) := kp_at hk9 f_aLo (nmc (h_neA f_aLo f_m) (nmc (h_neL (k1 := 700) (k2 := 30) f_aLo f_aTa rfl rfl (by omega)) nm0))
  have hkp : kp [mo, aTa, aAt, aLo] h h1 := kp_tr2 hkp hk9 (List.forall_mem_cons.mpr ⟨Or.inl (by simp), List.forall_mem_cons.mpr ⟨Or.inl (by simp), List.forall_mem_nil _⟩⟩)
  have f_m : h1 mo = some (.inr (9, [.int 0, .int (nI n), .int 0, .ref aBy, .ref aSt, .ref aDe, .int 0, .int (-1), .int wt, .ref aPa, .int 1, .ref aIt, .ref aId, .ref aPr, .ref aNa, .ref aSi, .ref aSe, .ref aIw, .ref aEx, .ref aOl, .int 0, .ref aPl, .int 1, .int 0, .ref aTa, .ref aAt, .ref aLo, .int 0, .int 0, .ref aS1, .ref aS2, .ref aS3, .ref aS4, .ref aS5, .ref aS6, .int 0, .ref aO1, .ref aO2, .ref aO3, .ref aO4, .ref aO5])) := hm9
  have f_aTa : h1 aTa = some (.inl ((t 2), 30, .inl gT)) := hg9
  refine lv_iload_n hx hb d_Mo_measure_4 rfl (lv_at hl 1 rfl) ?_
  refine lv_bipush (v := 20) hx hb d_Mo_measure_5 (by decide) ?_
  refine lv_iadd hx hb d_Mo_measure_7 ?_
  refine lv_topi (fun v5 e6 => ?_)
  obtain rfl : v5 = 20 := e6.trans (by decide)
  refine lv_istore_n (lv' := [(2, .int 20), (0, .ref mo), (1, .int 0)]) hx hb d_Mo_measure_8 rfl hl (by decide) rfl (fun ls hl => ?_)
  refine lv_iconst (v := 0) hx hb d_Mo_measure_9 (by decide) ?_
  refine lv_istore_n (lv' := [(3, .int 0), (2, .int 20), (0, .ref mo), (1, .int 0)]) hx hb d_Mo_measure_10 rfl hl (by decide) rfl (fun ls hl => ?_)
  refine lv_iload_n hx hb d_Mo_measure_11 rfl (lv_at hl 0 rfl) ?_
  refine lv_aload_n hx hb d_Mo_measure_12 rfl (lv_at hl 2 rfl) ?_
  refine hm_get (ci := 9) (v := .int 1) (C := R_Mo) (T := F_Mo) (N := 41) hx hb hts ig_Mo hown hK hH f_m rfl 22 (by decide) (hts _ mw_515) (fun _ h9 => h9) rfl d_Mo_measure_13 ?_
  refine lv_icmp_ge (tgt := 74) hx hb d_Mo_measure_16 (by decide) (fun hc7 => absurd hc7 (by decide)) (fun hc7 => ?_)
  refine lv_aload_n hx hb d_Mo_measure_19 rfl (lv_at hl 2 rfl) ?_
  refine hm_get (ci := 9) (v := .ref aTa) (C := R_Mo) (T := F_Mo) (N := 41) hx hb hts ig_Mo hown hK hH f_m rfl 24 (by decide) (hts _ mw_411) (fun _ h9 => h9) rfl d_Mo_measure_20 ?_
  refine lv_iload_n hx hb d_Mo_measure_23 rfl (lv_at hl 0 rfl) ?_
  refine hj_iald hx hb hK hH 2 f_aTa rfl 0 (by decide) (by decide) (by decide) d_Mo_measure_24 ?_
  refine lv_topi (fun v8 e9 => ?_)
  obtain rfl : v8 = 0 := e9.trans (hta)
  refine lv_istore (lv' := [(4, .int 0), (3, .int 0), (2, .int 20), (0, .ref mo), (1, .int 0)]) hx hb d_Mo_measure_25 hl (by decide) rfl (fun ls hl => ?_)
  refine lv_aload_n hx hb d_Mo_measure_27 rfl (lv_at hl 3 rfl) ?_
  refine hm_get (ci := 9) (v := .ref aAt) (C := R_Mo) (T := F_Mo) (N := 41) hx hb hts ig_Mo hown hK hH f_m rfl 25 (by decide) (hts _ mw_412) (fun _ h9 => h9) rfl d_Mo_measure_28 ?_
  refine lv_iload hx hb d_Mo_measure_31 (lv_at hl 0 rfl) ?_
  refine lv_iload_n hx hb d_Mo_measure_33 rfl (lv_at hl 2 rfl) ?_
  refine hj_iast hx hb hK hH hLo 2 f_aAt rfl 0 (by decide) (by decide) (by decide) d_Mo_measure_34 (fun H10 locs hH z11 hLo => ?_)
  have hz : s.heap.size ≤ H10.size := by rw [z11]; exact hz
  obtain ⟨h12, e13⟩ : ∃ z, z = hu h1 aAt (.inl ((t 2), 700, .inl (upd gAt 0 20))) := ⟨_, rfl⟩
  have hH : hm D vwCl G h12 H10 := by rw [e13]; exact hH
  have f_m : h12 mo = some (.inr (9, [.int 0, .int (nI n), .int 0, .ref aBy, .ref aSt, .ref aDe, .int 0, .int (-1), .int wt, .ref aPa, .int 1, .ref aIt, .ref aId, .ref aPr, .ref aNa, .ref aSi, .ref aSe, .ref aIw, .ref aEx, .ref aOl, .int 0, .ref aPl, .int 1, .int 0, .ref aTa, .ref aAt, .ref aLo, .int 0, .int 0, .ref aS1, .ref aS2, .ref aS3, .ref aS4, .ref aS5, .ref aS6, .int 0, .ref aO1, .ref aO2, .ref aO3, .ref aO4, .ref aO5])) := by rw [e13, hu_n (Ne.symm (h_neA f_aAt f_m))]; exact f_m
  have f_aTa : h12 aTa = some (.inl ((t 2), 30, .inl gT)) := by rw [e13, hu_n (h_neL (k1 := 30) (k2 := 700) f_aTa f_aAt rfl rfl (by omega))]; exact f_aTa
  have f_aLo : h12 aLo = some (.inl ((t 2), 700, .inl gLo)) := by rw [e13, hu_n (Ne.symm ne_aAt_aLo)]; exact f_aLo
  have f_aAt : h12 aAt = some (.inl ((t 2), 700, .inl (upd gAt 0 20))) := by rw [e13]; exact hu_s _ _ _
  have hkp : kp [mo, aTa, aAt, aLo] h h12 := by rw [e13]; exact kp_put hkp (by simp)
  refine lv_aload_n hx hb d_Mo_measure_35 rfl (lv_at hl 3 rfl) ?_
  refine hm_get (ci := 9) (v := .ref aLo) (C := R_Mo) (T := F_Mo) (N := 41) hx hb hts ig_Mo hown hK hH f_m rfl 26 (by decide) (hts _ mw_413) (fun _ h9 => h9) rfl d_Mo_measure_36 ?_
  refine lv_iload hx hb d_Mo_measure_39 (lv_at hl 0 rfl) ?_
  refine lv_aload_n hx hb d_Mo_measure_41 rfl (lv_at hl 3 rfl) ?_
  refine lv_iload hx hb d_Mo_measure_42 (lv_at hl 0 rfl) ?_
  refine lv_iconst (v := 0) hx hb d_Mo_measure_44 (by decide) ?_
  refine lv_iconst (v := 0) hx hb d_Mo_measure_45 (by decide) ?_
  refine hm_calli (va_runV (As := [.int 0, .int 0, .int 0]) (b := mo) (rest := [.int 0, .ref aLo]) ⟨hx, hb, hml, hown, hts⟩ (c_m_along0 l D t G ak av h12 mo n aBy aSt aDe aPa aIt aId aPr aNa aSi aSe aIw aEx aOl aPl aTa aAt aLo aS1 aS2 aS3 aS4 aS5 aS6 aO1 aO2 aO3 aO4 aO5 1 wt f_m) ⟨cw9B 3 hts mw_520 mw_521 mw_428 rfl rfl (by decide +kernel) ⟨Nat.le_of_ble_eq_true rfl, Nat.le_of_ble_eq_true rfl⟩, hts _ mw_522, hts _ mw_523⟩ (hP_V (q := (R_Mo, F_Mo, 41)) kE_ok hE hK hH f_m rfl) rfl rfl hl.1 rfl (lv_room (Nat.le_of_ble_eq_true rfl)) d_Mo_measure_46 ⟨Nat.le_of_ble_eq_true rfl, Nat.le_of_ble_eq_true rfl⟩) hLo (fun r14 h15 H16 locs hp18 hH z17 hLo => ?_)
  have hz : s.heap.size ≤ H16.size := Nat.le_trans hz z17
  obtain ⟨rfl, rfl⟩ := hp18
  refine lv_sipush (v := 2047) hx hb d_Mo_measure_49 (by decide) ?_
  refine lv_iadd hx hb d_Mo_measure_52 ?_
  refine lv_sipush (v := 2048) hx hb d_Mo_measure_53 (by decide) ?_
  refine lv_idiv hx hb d_Mo_measure_56 (by decide) ?_
  refine lv_topi (fun v19 e20 => ?_)
  obtain rfl : v19 = 1 := e20.trans (by decide)
  refine hj_iast hx hb hK hH hLo 2 f_aLo rfl 0 (by decide) (by decide) (by decide) d_Mo_measure_57 (fun H21 locs hH z22 hLo => ?_)
  have hz : s.heap.size ≤ H21.size := by rw [z22]; exact hz
  obtain ⟨h23, e24⟩ : ∃ z, z = hu h12 aLo (.inl ((t 2), 700, .inl (upd gLo 0 1))) := ⟨_, rfl⟩
  have hH : hm D vwCl G h23 H21 := by rw [e24]; exact hH
  have f_m : h23 mo = some (.inr (9, [.int 0, .int (nI n), .int 0, .ref aBy, .ref aSt, .ref aDe, .int 0, .int (-1), .int wt, .ref aPa, .int 1, .ref aIt, .ref aId, .ref aPr, .ref aNa, .ref aSi, .ref aSe, .ref aIw, .ref aEx, .ref aOl, .int 0, .ref aPl, .int 1, .int 0, .ref aTa, .ref aAt, .ref aLo, .int 0, .int 0, .ref aS1, .ref aS2, .ref aS3, .ref aS4, .ref aS5, .ref aS6, .int 0, .ref aO1, .ref aO2, .ref aO3, .ref aO4, .ref aO5])) := by rw [e24, hu_n (Ne.symm (h_neA f_aLo f_m))]; exact f_m
  have f_aTa : h23 aTa = some (.inl ((t 2), 30, .inl gT)) := by rw [e24, hu_n (h_neL (k1 := 30) (k2 := 700) f_aTa f_aLo rfl rfl (by omega))]; exact f_aTa
  have f_aAt : h23 aAt = some (.inl ((t 2), 700, .inl (upd gAt 0 20))) := by rw [e24, hu_n ne_aAt_aLo]; exact f_aAt
  have f_aLo : h23 aLo = some (.inl ((t 2), 700, .inl (upd gLo 0 1))) := by rw [e24]; exact hu_s _ _ _
  have hkp : kp [mo, aTa, aAt, aLo] h h23 := by rw [e24]; exact kp_put hkp (by simp)
  refine lv_iload_n hx hb d_Mo_measure_58 rfl (lv_at hl 2 rfl) ?_
  refine lv_aload_n hx hb d_Mo_measure_59 rfl (lv_at hl 3 rfl) ?_
  refine hm_get (ci := 9) (v := .ref aLo) (C := R_Mo) (T := F_Mo) (N := 41) hx hb hts ig_Mo hown hK hH f_m rfl 26 (by decide) (hts _ mw_413) (fun _ h9 => h9) rfl d_Mo_measure_60 ?_
  refine lv_iload hx hb d_Mo_measure_63 (lv_at hl 0 rfl) ?_
  refine hj_iald hx hb hK hH 2 f_aLo rfl 0 (by decide) (by decide) (by decide) d_Mo_measure_65 ?_
  refine lv_topi (fun v25 e26 => ?_)
  obtain rfl : v25 = 1 := e26.trans (upd0 _ _ rfl)
  refine lv_iadd hx hb d_Mo_measure_66 ?_
  refine lv_topi (fun v27 e28 => ?_)
  obtain rfl : v27 = 21 := e28.trans (by decide)
  refine lv_istore_n (lv' := [(2, .int 21), (4, .int 0), (3, .int 0), (0, .ref mo), (1, .int 0)]) hx hb d_Mo_measure_67 rfl hl (by decide) rfl (fun ls hl => ?_)
  refine lv_iinc (v := 0 + 1) (lv' := [(3, .int (0 + 1)), (2, .int 21), (4, .int 0), (0, .ref mo), (1, .int 0)]) hx hb d_Mo_measure_68 hl (k := 2) rfl (by rfl) (by decide) rfl (fun ls hl => ?_)
  refine lv_goto (tgt := 11) hx hb d_Mo_measure_71 (by decide) ?_
  refine lv_iload_n hx hb d_Mo_measure_11 rfl (lv_at hl 0 rfl) ?_
  refine lv_aload_n hx hb d_Mo_measure_12 rfl (lv_at hl 3 rfl) ?_
  refine hm_get (ci := 9) (v := .int 1) (C := R_Mo) (T := F_Mo) (N := 41) hx hb hts ig_Mo hown hK hH f_m rfl 22 (by decide) (hts _ mw_515) (fun _ h9 => h9) rfl d_Mo_measure_13 ?_
  refine lv_icmp_ge (tgt := 74) hx hb d_Mo_measure_16 (by decide) (fun hc29 => ?_) (fun hc29 => absurd (by decide) hc29)
  refine lv_iload_n hx hb d_Mo_measure_74 rfl (lv_at hl 1 rfl) ?_
  refine lv_iconst (v := 1) hx hb d_Mo_measure_75 (by decide) ?_
  refine lv_iadd hx hb d_Mo_measure_76 ?_
  refine lv_iload_n hx hb d_Mo_measure_77 rfl (lv_at hl 4 rfl) ?_
  refine lv_isub hx hb d_Mo_measure_78 ?_
  exact W.iret (v := (21 + 1) - 0) hx hb hr (fun t9 ht hW => ⟨(21 + 1) - 0, h23, rfl, ⟨by decide, hkp, f_m, _, _, _, f_aTa, f_aAt, f_aLo, hta, upd0 _ _ rfl⟩, by rw [ht]; exact hH, by rw [ht]; exact hz⟩) hLo d_Mo_measure_79
