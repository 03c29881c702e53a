set_option maxRecDepth 100000 in
theorem mw_679 : Cond.fieldLink R_Mo 208 "WriteOnceDiscModel" "directories" "I" ∈ lw_g := lw_gin (List.mem_append_right _ (List.mem_of_getElem? (i := 939) rfl)) (by decide +kernel)
set_option maxRecDepth 100000 in
theorem mw_680 : Cond.fieldLink R_Mo 57 "WriteOnceDiscModel" "table" "[I" ∈ lw_g := lw_gin (List.mem_append_right _ (List.mem_of_getElem? (i := 940) rfl)) (by decide +kernel)
set_option maxRecDepth 100000 in
theorem mw_681 : Cond.code y_Mo_tables b_Mo_tables 3 none ∈ lw_g := lw_gin (List.mem_append_right _ (List.mem_of_getElem? (i := 1147) rfl)) (by decide +kernel)
set_option maxRecDepth 100000 in
theorem mw_682 : Cond.methodLink R_Mo 211 y_Mo_tables ∈ lw_g := lw_gin (List.mem_append_right _ (List.mem_of_getElem? (i := 1144) rfl)) (by decide +kernel)
set_option maxRecDepth 100000 in
theorem mw_683 : Cond.instanceMethod y_Mo_tables ∈ lw_g := lw_gin (List.mem_append_right _ (List.mem_of_getElem? (i := 1146) rfl)) (by decide +kernel)
set_option maxRecDepth 100000 in
theorem mw_684 : Cond.selects R_Mo y_Mo_tables y_Mo_tables ∈ lw_g := lw_gin (List.mem_append_left _ (List.mem_of_getElem? (i := 41) rfl)) (by decide +kernel)
set_option maxRecDepth 100000 in
theorem mw_685 : Cond.code y_Mo_along b_Mo_along 9 (some .int) ∈ lw_g := lw_gin (List.mem_append_right _ (List.mem_of_getElem? (i := 1167) rfl)) (by decide +kernel)
set_option maxRecDepth 100000 in
theorem mw_686 : Cond.methodLink R_Mo 214 y_Mo_along ∈ lw_g := lw_gin (List.mem_append_right _ (List.mem_of_getElem? (i := 1164) rfl)) (by decide +kernel)
set_option maxRecDepth 100000 in
theorem mw_687 : Cond.instanceMethod y_Mo_along ∈ lw_g := lw_gin (List.mem_append_right _ (List.mem_of_getElem? (i := 1166) rfl)) (by decide +kernel)
set_option maxRecDepth 100000 in
theorem mw_688 : Cond.selects R_Mo y_Mo_along y_Mo_along ∈ lw_g := lw_gin (List.mem_append_left _ (List.mem_of_getElem? (i := 43) rfl)) (by decide +kernel)
set_option maxRecDepth 100000 in
theorem mw_689 : Cond.code y_Mo_letters b_Mo_letters 7 none ∈ lw_g := lw_gin (List.mem_append_right _ (List.mem_of_getElem? (i := 1201) rfl)) (by decide +kernel)
set_option maxRecDepth 100000 in
theorem mw_690 : Cond.methodLink R_Mo 218 y_Mo_letters ∈ lw_g := lw_gin (List.mem_append_right _ (List.mem_of_getElem? (i := 1198) rfl)) (by decide +kernel)
set_option maxRecDepth 100000 in
theorem mw_691 : Cond.instanceMethod y_Mo_letters ∈ lw_g := lw_gin (List.mem_append_right _ (List.mem_of_getElem? (i := 1200) rfl)) (by decide +kernel)
set_option maxRecDepth 100000 in
theorem mw_692 : Cond.selects R_Mo y_Mo_letters y_Mo_letters ∈ lw_g := lw_gin (List.mem_append_left _ (List.mem_of_getElem? (i := 50) rfl)) (by decide +kernel)
set_option maxRecDepth 100000 in
theorem mw_693 : Cond.code y_Mo_numberOf b_Mo_numberOf 3 (some .int) ∈ lw_g := lw_gin (List.mem_append_right _ (List.mem_of_getElem? (i := 1205) rfl)) (by decide +kernel)
set_option maxRecDepth 100000 in
theorem mw_694 : Cond.methodLink R_Mo 222 y_Mo_numberOf ∈ lw_g := lw_gin (List.mem_append_right _ (List.mem_of_getElem? (i := 1202) rfl)) (by decide +kernel)
set_option maxRecDepth 100000 in
theorem mw_695 : Cond.instanceMethod y_Mo_numberOf ∈ lw_g := lw_gin (List.mem_append_right _ (List.mem_of_getElem? (i := 1204) rfl)) (by decide +kernel)
set_option maxRecDepth 100000 in
theorem mw_696 : Cond.selects R_Mo y_Mo_numberOf y_Mo_numberOf ∈ lw_g := lw_gin (List.mem_append_left _ (List.mem_of_getElem? (i := 51) rfl)) (by decide +kernel)
theorem d_Mo_tables_0 : decode b_Mo_tables 0 = .ok (.aload_n 0, 1) := by decide +kernel
theorem d_Mo_tables_1 : decode b_Mo_tables 1 = .ok (.iconst 1, 1) := by decide +kernel
theorem d_Mo_tables_2 : decode b_Mo_tables 2 = .ok (.putfield 208, 3) := by decide +kernel
theorem d_Mo_tables_5 : decode b_Mo_tables 5 = .ok (.aload_n 0, 1) := by decide +kernel
theorem d_Mo_tables_6 : decode b_Mo_tables 6 = .ok (.getfield 57, 3) := by decide +kernel
theorem d_Mo_tables_9 : decode b_Mo_tables 9 = .ok (.iconst 0, 1) := by decide +kernel
theorem d_Mo_tables_10 : decode b_Mo_tables 10 = .ok (.iconst 0, 1) := by decide +kernel
theorem d_Mo_tables_11 : decode b_Mo_tables 11 = .ok (.iastore, 1) := by decide +kernel
theorem d_Mo_tables_12 : decode b_Mo_tables 12 = .ok (.iconst 0, 1) := by decide +kernel
theorem d_Mo_tables_13 : decode b_Mo_tables 13 = .ok (.istore_n 1, 1) := by decide +kernel
theorem d_Mo_tables_14 : decode b_Mo_tables 14 = .ok (.iload_n 1, 1) := by decide +kernel
theorem d_Mo_tables_15 : decode b_Mo_tables 15 = .ok (.aload_n 0, 1) := by decide +kernel
theorem d_Mo_tables_16 : decode b_Mo_tables 16 = .ok (.getfield 208, 3) := by decide +kernel
theorem d_Mo_tables_19 : decode b_Mo_tables 19 = .ok (.if_icmp .ge 72, 3) := by decide +kernel
theorem d_Mo_tables_91 : decode b_Mo_tables 91 = .ok (.return_, 1) := by decide +kernel
theorem d_Mo_tables_22 : decode b_Mo_tables 22 = .ok (.aload_n 0, 1) := by decide +kernel
theorem d_Mo_tables_23 : decode b_Mo_tables 23 = .ok (.aload_n 0, 1) := by decide +kernel
theorem d_Mo_tables_24 : decode b_Mo_tables 24 = .ok (.getfield 57, 3) := by decide +kernel
theorem d_Mo_tables_27 : decode b_Mo_tables 27 = .ok (.iload_n 1, 1) := by decide +kernel
theorem d_Mo_tables_28 : decode b_Mo_tables 28 = .ok (.iaload, 1) := by decide +kernel
theorem d_Mo_tables_29 : decode b_Mo_tables 29 = .ok (.iconst (-1), 1) := by decide +kernel
theorem d_Mo_tables_30 : decode b_Mo_tables 30 = .ok (.invokevirtual 202, 3) := by decide +kernel
theorem d_Mo_tables_33 : decode b_Mo_tables 33 = .ok (.istore_n 2, 1) := by decide +kernel
theorem d_Mo_tables_34 : decode b_Mo_tables 34 = .ok (.iload_n 2, 1) := by decide +kernel
theorem d_Mo_tables_35 : decode b_Mo_tables 35 = .ok (.ifCond .lt 50, 3) := by decide +kernel
theorem d_Mo_tables_85 : decode b_Mo_tables 85 = .ok (.iinc 1 1, 3) := by decide +kernel
theorem d_Mo_tables_88 : decode b_Mo_tables 88 = .ok (.goto (-74), 3) := by decide +kernel
theorem d_Mo_tables_38 : decode b_Mo_tables 38 = .ok (.aload_n 0, 1) := by decide +kernel
theorem d_Mo_tables_39 : decode b_Mo_tables 39 = .ok (.getfield 27, 3) := by decide +kernel
theorem d_Mo_tables_42 : decode b_Mo_tables 42 = .ok (.iload_n 2, 1) := by decide +kernel
theorem d_Mo_tables_43 : decode b_Mo_tables 43 = .ok (.baload, 1) := by decide +kernel
theorem d_Mo_tables_44 : decode b_Mo_tables 44 = .ok (.ifCond .ne 6, 3) := by decide +kernel
theorem d_Mo_tables_50 : decode b_Mo_tables 50 = .ok (.aload_n 0, 1) := by decide +kernel
theorem d_Mo_tables_51 : decode b_Mo_tables 51 = .ok (.getfield 57, 3) := by decide +kernel
theorem d_Mo_tables_54 : decode b_Mo_tables 54 = .ok (.aload_n 0, 1) := by decide +kernel
theorem d_Mo_tables_55 : decode b_Mo_tables 55 = .ok (.getfield 208, 3) := by decide +kernel
theorem d_Mo_tables_58 : decode b_Mo_tables 58 = .ok (.iload_n 2, 1) := by decide +kernel
theorem d_Mo_tables_59 : decode b_Mo_tables 59 = .ok (.iastore, 1) := by decide +kernel
theorem d_Mo_tables_60 : decode b_Mo_tables 60 = .ok (.aload_n 0, 1) := by decide +kernel
theorem d_Mo_tables_61 : decode b_Mo_tables 61 = .ok (.dup, 1) := by decide +kernel
theorem d_Mo_tables_62 : decode b_Mo_tables 62 = .ok (.getfield 208, 3) := by decide +kernel
theorem d_Mo_tables_65 : decode b_Mo_tables 65 = .ok (.iconst 1, 1) := by decide +kernel
theorem d_Mo_tables_66 : decode b_Mo_tables 66 = .ok (.iadd, 1) := by decide +kernel
theorem d_Mo_tables_67 : decode b_Mo_tables 67 = .ok (.putfield 208, 3) := by decide +kernel
theorem d_Mo_tables_70 : decode b_Mo_tables 70 = .ok (.aload_n 0, 1) := by decide +kernel
theorem d_Mo_tables_71 : decode b_Mo_tables 71 = .ok (.aload_n 0, 1) := by decide +kernel
theorem d_Mo_tables_72 : decode b_Mo_tables 72 = .ok (.getfield 57, 3) := by decide +kernel
theorem d_Mo_tables_75 : decode b_Mo_tables 75 = .ok (.iload_n 1, 1) := by decide +kernel
theorem d_Mo_tables_76 : decode b_Mo_tables 76 = .ok (.iaload, 1) := by decide +kernel
theorem d_Mo_tables_77 : decode b_Mo_tables 77 = .ok (.iload_n 2, 1) := by decide +kernel
theorem d_Mo_tables_78 : decode b_Mo_tables 78 = .ok (.invokevirtual 202, 3) := by decide +kernel
theorem d_Mo_tables_81 : decode b_Mo_tables 81 = .ok (.istore_n 2, 1) := by decide +kernel
theorem d_Mo_tables_82 : decode b_Mo_tables 82 = .ok (.goto (-48), 3) := by decide +kernel
theorem d_Mo_tables_47 : decode b_Mo_tables 47 = .ok (.goto 23, 3) := by decide +kernel
theorem d_Mo_numberOf_0 : decode b_Mo_numberOf 0 = .ok (.iconst 0, 1) := by decide +kernel
theorem d_Mo_numberOf_1 : decode b_Mo_numberOf 1 = .ok (.istore_n 2, 1) := by decide +kernel
theorem d_Mo_numberOf_2 : decode b_Mo_numberOf 2 = .ok (.aload_n 0, 1) := by decide +kernel
theorem d_Mo_numberOf_3 : decode b_Mo_numberOf 3 = .ok (.getfield 57, 3) := by decide +kernel
theorem d_Mo_numberOf_6 : decode b_Mo_numberOf 6 = .ok (.iload_n 2, 1) := by decide +kernel
theorem d_Mo_numberOf_7 : decode b_Mo_numberOf 7 = .ok (.iaload, 1) := by decide +kernel
theorem d_Mo_numberOf_8 : decode b_Mo_numberOf 8 = .ok (.iload_n 1, 1) := by decide +kernel
theorem d_Mo_numberOf_9 : decode b_Mo_numberOf 9 = .ok (.if_icmp .eq 9, 3) := by decide +kernel
theorem d_Mo_numberOf_18 : decode b_Mo_numberOf 18 = .ok (.iload_n 2, 1) := by decide +kernel
theorem d_Mo_numberOf_19 : decode b_Mo_numberOf 19 = .ok (.iconst 1, 1) := by decide +kernel
theorem d_Mo_numberOf_20 : decode b_Mo_numberOf 20 = .ok (.iadd, 1) := by decide +kernel
theorem d_Mo_numberOf_21 : decode b_Mo_numberOf 21 = .ok (.ireturn, 1) := by decide +kernel
theorem d_Mo_numberOf_12 : decode b_Mo_numberOf 12 = .ok (.iinc 2 1, 3) := by decide +kernel
theorem d_Mo_numberOf_15 : decode b_Mo_numberOf 15 = .ok (.goto (-13), 3) := by decide +kernel
theorem d_Mo_letters_0 : decode b_Mo_letters 0 = .ok (.aload_n 0, 1) := by decide +kernel
theorem d_Mo_letters_1 : decode b_Mo_letters 1 = .ok (.getfield 54, 3) := by decide +kernel
theorem d_Mo_letters_4 : decode b_Mo_letters 4 = .ok (.iload_n 1, 1) := by decide +kernel
theorem d_Mo_letters_5 : decode b_Mo_letters 5 = .ok (.iload_n 2, 1) := by decide +kernel
theorem d_Mo_letters_6 : decode b_Mo_letters 6 = .ok (.i2b, 1) := by decide +kernel
theorem d_Mo_letters_7 : decode b_Mo_letters 7 = .ok (.bastore, 1) := by decide +kernel
theorem d_Mo_letters_8 : decode b_Mo_letters 8 = .ok (.aload_n 0, 1) := by decide +kernel
theorem d_Mo_letters_9 : decode b_Mo_letters 9 = .ok (.getfield 54, 3) := by decide +kernel
theorem d_Mo_letters_12 : decode b_Mo_letters 12 = .ok (.iload_n 1, 1) := by decide +kernel
theorem d_Mo_letters_13 : decode b_Mo_letters 13 = .ok (.iconst 1, 1) := by decide +kernel
theorem d_Mo_letters_14 : decode b_Mo_letters 14 = .ok (.iadd, 1) := by decide +kernel
theorem d_Mo_letters_15 : decode b_Mo_letters 15 = .ok (.iload_n 3, 1) := by decide +kernel
theorem d_Mo_letters_16 : decode b_Mo_letters 16 = .ok (.i2b, 1) := by decide +kernel
theorem d_Mo_letters_17 : decode b_Mo_letters 17 = .ok (.bastore, 1) := by decide +kernel
theorem d_Mo_letters_18 : decode b_Mo_letters 18 = .ok (.aload_n 0, 1) := by decide +kernel
theorem d_Mo_letters_19 : decode b_Mo_letters 19 = .ok (.getfield 54, 3) := by decide +kernel
theorem d_Mo_letters_22 : decode b_Mo_letters 22 = .ok (.iload_n 1, 1) := by decide +kernel
theorem d_Mo_letters_23 : decode b_Mo_letters 23 = .ok (.iconst 2, 1) := by decide +kernel
theorem d_Mo_letters_24 : decode b_Mo_letters 24 = .ok (.iadd, 1) := by decide +kernel
theorem d_Mo_letters_25 : decode b_Mo_letters 25 = .ok (.iload 4, 2) := by decide +kernel
theorem d_Mo_letters_27 : decode b_Mo_letters 27 = .ok (.i2b, 1) := by decide +kernel
theorem d_Mo_letters_28 : decode b_Mo_letters 28 = .ok (.bastore, 1) := by decide +kernel
theorem d_Mo_letters_29 : decode b_Mo_letters 29 = .ok (.aload_n 0, 1) := by decide +kernel
theorem d_Mo_letters_30 : decode b_Mo_letters 30 = .ok (.getfield 54, 3) := by decide +kernel
theorem d_Mo_letters_33 : decode b_Mo_letters 33 = .ok (.iload_n 1, 1) := by decide +kernel
theorem d_Mo_letters_34 : decode b_Mo_letters 34 = .ok (.iconst 3, 1) := by decide +kernel
theorem d_Mo_letters_35 : decode b_Mo_letters 35 = .ok (.iadd, 1) := by decide +kernel
theorem d_Mo_letters_36 : decode b_Mo_letters 36 = .ok (.iload 5, 2) := by decide +kernel
theorem d_Mo_letters_38 : decode b_Mo_letters 38 = .ok (.i2b, 1) := by decide +kernel
theorem d_Mo_letters_39 : decode b_Mo_letters 39 = .ok (.bastore, 1) := by decide +kernel
theorem d_Mo_letters_40 : decode b_Mo_letters 40 = .ok (.aload_n 0, 1) := by decide +kernel
theorem d_Mo_letters_41 : decode b_Mo_letters 41 = .ok (.getfield 54, 3) := by decide +kernel
theorem d_Mo_letters_44 : decode b_Mo_letters 44 = .ok (.iload_n 1, 1) := by decide +kernel
theorem d_Mo_letters_45 : decode b_Mo_letters 45 = .ok (.iconst 4, 1) := by decide +kernel
theorem d_Mo_letters_46 : decode b_Mo_letters 46 = .ok (.iadd, 1) := by decide +kernel
theorem d_Mo_letters_47 : decode b_Mo_letters 47 = .ok (.iload 6, 2) := by decide +kernel
theorem d_Mo_letters_49 : decode b_Mo_letters 49 = .ok (.i2b, 1) := by decide +kernel
theorem d_Mo_letters_50 : decode b_Mo_letters 50 = .ok (.bastore, 1) := by decide +kernel
theorem d_Mo_letters_51 : decode b_Mo_letters 51 = .ok (.return_, 1) := by decide +kernel
theorem d_Mo_measure_0 : decode b_Mo_measure 0 = .ok (.aload_n 0, 1) := by decide +kernel
theorem d_Mo_measure_1 : decode b_Mo_measure 1 = .ok (.invokevirtual 211, 3) := by decide +kernel
theorem d_Mo_measure_4 : decode b_Mo_measure 4 = .ok (.iload_n 1, 1) := by decide +kernel
theorem d_Mo_measure_5 : decode b_Mo_measure 5 = .ok (.bipush 20, 2) := by decide +kernel
theorem d_Mo_measure_7 : decode b_Mo_measure 7 = .ok (.iadd, 1) := by decide +kernel
theorem d_Mo_measure_8 : decode b_Mo_measure 8 = .ok (.istore_n 2, 1) := by decide +kernel
theorem d_Mo_measure_9 : decode b_Mo_measure 9 = .ok (.iconst 0, 1) := by decide +kernel
theorem d_Mo_measure_10 : decode b_Mo_measure 10 = .ok (.istore_n 3, 1) := by decide +kernel
theorem d_Mo_measure_11 : decode b_Mo_measure 11 = .ok (.iload_n 3, 1) := by decide +kernel
theorem d_Mo_measure_12 : decode b_Mo_measure 12 = .ok (.aload_n 0, 1) := by decide +kernel
theorem d_Mo_measure_13 : decode b_Mo_measure 13 = .ok (.getfield 208, 3) := by decide +kernel
theorem d_Mo_measure_16 : decode b_Mo_measure 16 = .ok (.if_icmp .ge 58, 3) := by decide +kernel
theorem d_Mo_measure_74 : decode b_Mo_measure 74 = .ok (.iload_n 2, 1) := by decide +kernel
theorem d_Mo_measure_75 : decode b_Mo_measure 75 = .ok (.iconst 1, 1) := by decide +kernel
theorem d_Mo_measure_76 : decode b_Mo_measure 76 = .ok (.iadd, 1) := by decide +kernel
theorem d_Mo_measure_77 : decode b_Mo_measure 77 = .ok (.iload_n 1, 1) := by decide +kernel
theorem d_Mo_measure_78 : decode b_Mo_measure 78 = .ok (.isub, 1) := by decide +kernel
theorem d_Mo_measure_79 : decode b_Mo_measure 79 = .ok (.ireturn, 1) := by decide +kernel
theorem d_Mo_measure_19 : decode b_Mo_measure 19 = .ok (.aload_n 0, 1) := by decide +kernel
theorem d_Mo_measure_20 : decode b_Mo_measure 20 = .ok (.getfield 57, 3) := by decide +kernel
theorem d_Mo_measure_23 : decode b_Mo_measure 23 = .ok (.iload_n 3, 1) := by decide +kernel
theorem d_Mo_measure_24 : decode b_Mo_measure 24 = .ok (.iaload, 1) := by decide +kernel
theorem d_Mo_measure_25 : decode b_Mo_measure 25 = .ok (.istore 4, 2) := by decide +kernel
theorem d_Mo_measure_27 : decode b_Mo_measure 27 = .ok (.aload_n 0, 1) := by decide +kernel
theorem d_Mo_measure_28 : decode b_Mo_measure 28 = .ok (.getfield 60, 3) := by decide +kernel
theorem d_Mo_measure_31 : decode b_Mo_measure 31 = .ok (.iload 4, 2) := by decide +kernel
theorem d_Mo_measure_33 : decode b_Mo_measure 33 = .ok (.iload_n 2, 1) := by decide +kernel
theorem d_Mo_measure_34 : decode b_Mo_measure 34 = .ok (.iastore, 1) := by decide +kernel
theorem d_Mo_measure_35 : decode b_Mo_measure 35 = .ok (.aload_n 0, 1) := by decide +kernel
theorem d_Mo_measure_36 : decode b_Mo_measure 36 = .ok (.getfield 63, 3) := by decide +kernel
theorem d_Mo_measure_39 : decode b_Mo_measure 39 = .ok (.iload 4, 2) := by decide +kernel
theorem d_Mo_measure_41 : decode b_Mo_measure 41 = .ok (.aload_n 0, 1) := by decide +kernel
theorem d_Mo_measure_42 : decode b_Mo_measure 42 = .ok (.iload 4, 2) := by decide +kernel
theorem d_Mo_measure_44 : decode b_Mo_measure 44 = .ok (.iconst 0, 1) := by decide +kernel
theorem d_Mo_measure_45 : decode b_Mo_measure 45 = .ok (.iconst 0, 1) := by decide +kernel
theorem d_Mo_measure_46 : decode b_Mo_measure 46 = .ok (.invokevirtual 214, 3) := by decide +kernel
theorem d_Mo_measure_49 : decode b_Mo_measure 49 = .ok (.sipush 2047, 3) := by decide +kernel
theorem d_Mo_measure_52 : decode b_Mo_measure 52 = .ok (.iadd, 1) := by decide +kernel
theorem d_Mo_measure_53 : decode b_Mo_measure 53 = .ok (.sipush 2048, 3) := by decide +kernel
theorem d_Mo_measure_56 : decode b_Mo_measure 56 = .ok (.idiv, 1) := by decide +kernel
theorem d_Mo_measure_57 : decode b_Mo_measure 57 = .ok (.iastore, 1) := by decide +kernel
theorem d_Mo_measure_58 : decode b_Mo_measure 58 = .ok (.iload_n 2, 1) := by decide +kernel
theorem d_Mo_measure_59 : decode b_Mo_measure 59 = .ok (.aload_n 0, 1) := by decide +kernel
theorem d_Mo_measure_60 : decode b_Mo_measure 60 = .ok (.getfield 63, 3) := by decide +kernel
theorem d_Mo_measure_63 : decode b_Mo_measure 63 = .ok (.iload 4, 2) := by decide +kernel
theorem d_Mo_measure_65 : decode b_Mo_measure 65 = .ok (.iaload, 1) := by decide +kernel
theorem d_Mo_measure_66 : decode b_Mo_measure 66 = .ok (.iadd, 1) := by decide +kernel
theorem d_Mo_measure_67 : decode b_Mo_measure 67 = .ok (.istore_n 2, 1) := by decide +kernel
theorem d_Mo_measure_68 : decode b_Mo_measure 68 = .ok (.iinc 3 1, 3) := by decide +kernel
theorem d_Mo_measure_71 : decode b_Mo_measure 71 = .ok (.goto (-60), 3) := by decide +kernel
theorem d_Mo_design_0 : decode b_Mo_design 0 = .ok (.iconst 0, 1) := by decide +kernel
theorem d_Mo_design_1 : decode b_Mo_design 1 = .ok (.istore 4, 2) := by decide +kernel
theorem d_Mo_design_3 : decode b_Mo_design 3 = .ok (.iload 4, 2) := by decide +kernel
theorem d_Mo_design_5 : decode b_Mo_design 5 = .ok (.sipush 2048, 3) := by decide +kernel
theorem d_Mo_design_8 : decode b_Mo_design 8 = .ok (.iload_n 2, 1) := by decide +kernel
theorem d_Mo_design_9 : decode b_Mo_design 9 = .ok (.bipush 16, 2) := by decide +kernel
theorem d_Mo_design_11 : decode b_Mo_design 11 = .ok (.isub, 1) := by decide +kernel
theorem d_Mo_design_12 : decode b_Mo_design 12 = .ok (.imul, 1) := by decide +kernel
theorem d_Mo_design_13 : decode b_Mo_design 13 = .ok (.if_icmp .ge 17, 3) := by decide +kernel
theorem d_Mo_design_30 : decode b_Mo_design 30 = .ok (.aload_n 0, 1) := by decide +kernel
theorem d_Mo_design_31 : decode b_Mo_design 31 = .ok (.getfield 54, 3) := by decide +kernel
theorem d_Mo_design_34 : decode b_Mo_design 34 = .ok (.iconst 0, 1) := by decide +kernel
theorem d_Mo_design_35 : decode b_Mo_design 35 = .ok (.iconst 1, 1) := by decide +kernel
theorem d_Mo_design_36 : decode b_Mo_design 36 = .ok (.bastore, 1) := by decide +kernel
theorem d_Mo_design_37 : decode b_Mo_design 37 = .ok (.aload_n 0, 1) := by decide +kernel
theorem d_Mo_design_38 : decode b_Mo_design 38 = .ok (.iconst 1, 1) := by decide +kernel
theorem d_Mo_design_39 : decode b_Mo_design 39 = .ok (.bipush 67, 2) := by decide +kernel
theorem d_Mo_design_41 : decode b_Mo_design 41 = .ok (.bipush 68, 2) := by decide +kernel
theorem d_Mo_design_43 : decode b_Mo_design 43 = .ok (.bipush 48, 2) := by decide +kernel
theorem d_Mo_design_45 : decode b_Mo_design 45 = .ok (.bipush 48, 2) := by decide +kernel
theorem d_Mo_design_47 : decode b_Mo_design 47 = .ok (.bipush 49, 2) := by decide +kernel
theorem d_Mo_design_49 : decode b_Mo_design 49 = .ok (.invokevirtual 218, 3) := by decide +kernel
theorem d_Mo_design_52 : decode b_Mo_design 52 = .ok (.aload_n 0, 1) := by decide +kernel
theorem d_Mo_design_53 : decode b_Mo_design 53 = .ok (.getfield 54, 3) := by decide +kernel
theorem d_Mo_design_56 : decode b_Mo_design 56 = .ok (.bipush 6, 2) := by decide +kernel
theorem d_Mo_design_58 : decode b_Mo_design 58 = .ok (.iconst 1, 1) := by decide +kernel
theorem d_Mo_design_59 : decode b_Mo_design 59 = .ok (.bastore, 1) := by decide +kernel
theorem d_Mo_design_60 : decode b_Mo_design 60 = .ok (.aload_n 0, 1) := by decide +kernel
theorem d_Mo_design_61 : decode b_Mo_design 61 = .ok (.bipush 80, 2) := by decide +kernel
theorem d_Mo_design_63 : decode b_Mo_design 63 = .ok (.iconst 4, 1) := by decide +kernel
theorem d_Mo_design_64 : decode b_Mo_design 64 = .ok (.aload_n 0, 1) := by decide +kernel
theorem d_Mo_design_65 : decode b_Mo_design 65 = .ok (.getfield 99, 3) := by decide +kernel
theorem d_Mo_design_68 : decode b_Mo_design 68 = .ok (.invokevirtual 199, 3) := by decide +kernel
theorem d_Mo_design_71 : decode b_Mo_design 71 = .ok (.aload_n 0, 1) := by decide +kernel
theorem d_Mo_design_72 : decode b_Mo_design 72 = .ok (.sipush 128, 3) := by decide +kernel
theorem d_Mo_design_75 : decode b_Mo_design 75 = .ok (.iconst 2, 1) := by decide +kernel
theorem d_Mo_design_76 : decode b_Mo_design 76 = .ok (.sipush 2048, 3) := by decide +kernel
theorem d_Mo_design_79 : decode b_Mo_design 79 = .ok (.invokevirtual 199, 3) := by decide +kernel
theorem d_Mo_design_82 : decode b_Mo_design 82 = .ok (.aload_n 0, 1) := by decide +kernel
theorem d_Mo_design_83 : decode b_Mo_design 83 = .ok (.sipush 140, 3) := by decide +kernel
theorem d_Mo_design_86 : decode b_Mo_design 86 = .ok (.iconst 4, 1) := by decide +kernel
theorem d_Mo_design_87 : decode b_Mo_design 87 = .ok (.iload_n 1, 1) := by decide +kernel
theorem d_Mo_design_88 : decode b_Mo_design 88 = .ok (.bipush 18, 2) := by decide +kernel
theorem d_Mo_design_90 : decode b_Mo_design 90 = .ok (.iadd, 1) := by decide +kernel
theorem d_Mo_design_91 : decode b_Mo_design 91 = .ok (.invokevirtual 181, 3) := by decide +kernel
theorem d_Mo_design_94 : decode b_Mo_design 94 = .ok (.aload_n 0, 1) := by decide +kernel
theorem d_Mo_design_95 : decode b_Mo_design 95 = .ok (.sipush 148, 3) := by decide +kernel
theorem d_Mo_design_98 : decode b_Mo_design 98 = .ok (.iconst 4, 1) := by decide +kernel
theorem d_Mo_design_99 : decode b_Mo_design 99 = .ok (.iload_n 1, 1) := by decide +kernel
theorem d_Mo_design_100 : decode b_Mo_design 100 = .ok (.bipush 19, 2) := by decide +kernel
theorem d_Mo_design_102 : decode b_Mo_design 102 = .ok (.iadd, 1) := by decide +kernel
theorem d_Mo_design_103 : decode b_Mo_design 103 = .ok (.invokevirtual 185, 3) := by decide +kernel
theorem d_Mo_design_106 : decode b_Mo_design 106 = .ok (.aload_n 0, 1) := by decide +kernel
theorem d_Mo_design_107 : decode b_Mo_design 107 = .ok (.sipush 156, 3) := by decide +kernel
theorem d_Mo_design_110 : decode b_Mo_design 110 = .ok (.iconst 0, 1) := by decide +kernel
theorem d_Mo_design_111 : decode b_Mo_design 111 = .ok (.iconst 0, 1) := by decide +kernel
theorem d_Mo_design_112 : decode b_Mo_design 112 = .ok (.invokevirtual 205, 3) := by decide +kernel
theorem d_Mo_design_115 : decode b_Mo_design 115 = .ok (.aload_n 0, 1) := by decide +kernel
theorem d_Mo_design_116 : decode b_Mo_design 116 = .ok (.getfield 54, 3) := by decide +kernel
theorem d_Mo_design_119 : decode b_Mo_design 119 = .ok (.sipush 2048, 3) := by decide +kernel
theorem d_Mo_design_122 : decode b_Mo_design 122 = .ok (.iconst (-1), 1) := by decide +kernel
theorem d_Mo_design_123 : decode b_Mo_design 123 = .ok (.bastore, 1) := by decide +kernel
theorem d_Mo_design_124 : decode b_Mo_design 124 = .ok (.aload_n 0, 1) := by decide +kernel
theorem d_Mo_design_125 : decode b_Mo_design 125 = .ok (.sipush 2049, 3) := by decide +kernel
theorem d_Mo_design_128 : decode b_Mo_design 128 = .ok (.bipush 67, 2) := by decide +kernel
theorem d_Mo_design_130 : decode b_Mo_design 130 = .ok (.bipush 68, 2) := by decide +kernel
theorem d_Mo_design_132 : decode b_Mo_design 132 = .ok (.bipush 48, 2) := by decide +kernel
theorem d_Mo_design_134 : decode b_Mo_design 134 = .ok (.bipush 48, 2) := by decide +kernel
theorem d_Mo_design_136 : decode b_Mo_design 136 = .ok (.bipush 49, 2) := by decide +kernel
theorem d_Mo_design_138 : decode b_Mo_design 138 = .ok (.invokevirtual 218, 3) := by decide +kernel
theorem d_Mo_design_141 : decode b_Mo_design 141 = .ok (.aload_n 0, 1) := by decide +kernel
theorem d_Mo_design_142 : decode b_Mo_design 142 = .ok (.getfield 54, 3) := by decide +kernel
theorem d_Mo_design_145 : decode b_Mo_design 145 = .ok (.sipush 2054, 3) := by decide +kernel
theorem d_Mo_design_148 : decode b_Mo_design 148 = .ok (.iconst 1, 1) := by decide +kernel
theorem d_Mo_design_149 : decode b_Mo_design 149 = .ok (.bastore, 1) := by decide +kernel
theorem d_Mo_design_150 : decode b_Mo_design 150 = .ok (.sipush 4096, 3) := by decide +kernel
theorem d_Mo_design_153 : decode b_Mo_design 153 = .ok (.istore 4, 2) := by decide +kernel
theorem d_Mo_design_155 : decode b_Mo_design 155 = .ok (.iconst 0, 1) := by decide +kernel
theorem d_Mo_design_156 : decode b_Mo_design 156 = .ok (.istore 5, 2) := by decide +kernel
theorem d_Mo_design_158 : decode b_Mo_design 158 = .ok (.iload 5, 2) := by decide +kernel
theorem d_Mo_design_160 : decode b_Mo_design 160 = .ok (.aload_n 0, 1) := by decide +kernel
theorem d_Mo_design_161 : decode b_Mo_design 161 = .ok (.getfield 208, 3) := by decide +kernel
theorem d_Mo_design_164 : decode b_Mo_design 164 = .ok (.if_icmp .ge 252, 3) := by decide +kernel
theorem d_Mo_design_416 : decode b_Mo_design 416 = .ok (.aload_n 0, 1) := by decide +kernel
theorem d_Mo_design_417 : decode b_Mo_design 417 = .ok (.sipush 132, 3) := by decide +kernel
theorem d_Mo_design_420 : decode b_Mo_design 420 = .ok (.iconst 4, 1) := by decide +kernel
theorem d_Mo_design_421 : decode b_Mo_design 421 = .ok (.iload 4, 2) := by decide +kernel
theorem d_Mo_design_423 : decode b_Mo_design 423 = .ok (.sipush 4096, 3) := by decide +kernel
theorem d_Mo_design_426 : decode b_Mo_design 426 = .ok (.isub, 1) := by decide +kernel
theorem d_Mo_design_427 : decode b_Mo_design 427 = .ok (.invokevirtual 199, 3) := by decide +kernel
theorem d_Mo_design_430 : decode b_Mo_design 430 = .ok (.sipush 2048, 3) := by decide +kernel
theorem d_Mo_design_433 : decode b_Mo_design 433 = .ok (.iload_n 2, 1) := by decide +kernel
theorem d_Mo_design_434 : decode b_Mo_design 434 = .ok (.bipush 17, 2) := by decide +kernel
theorem d_Mo_design_436 : decode b_Mo_design 436 = .ok (.isub, 1) := by decide +kernel
theorem d_Mo_design_437 : decode b_Mo_design 437 = .ok (.imul, 1) := by decide +kernel
theorem d_Mo_design_438 : decode b_Mo_design 438 = .ok (.istore 5, 2) := by decide +kernel
theorem d_Mo_design_440 : decode b_Mo_design 440 = .ok (.aload_n 0, 1) := by decide +kernel
theorem d_Mo_design_441 : decode b_Mo_design 441 = .ok (.iload 5, 2) := by decide +kernel
theorem d_Mo_design_443 : decode b_Mo_design 443 = .ok (.bipush 77, 2) := by decide +kernel
theorem d_Mo_design_445 : decode b_Mo_design 445 = .ok (.bipush 65, 2) := by decide +kernel
theorem d_Mo_design_447 : decode b_Mo_design 447 = .ok (.bipush 82, 2) := by decide +kernel
theorem d_Mo_design_449 : decode b_Mo_design 449 = .ok (.bipush 75, 2) := by decide +kernel
theorem d_Mo_design_451 : decode b_Mo_design 451 = .ok (.iconst 0, 1) := by decide +kernel
theorem d_Mo_design_452 : decode b_Mo_design 452 = .ok (.invokevirtual 218, 3) := by decide +kernel
theorem d_Mo_design_455 : decode b_Mo_design 455 = .ok (.aload_n 0, 1) := by decide +kernel
theorem d_Mo_design_456 : decode b_Mo_design 456 = .ok (.iload 5, 2) := by decide +kernel
theorem d_Mo_design_458 : decode b_Mo_design 458 = .ok (.iconst 4, 1) := by decide +kernel
theorem d_Mo_design_459 : decode b_Mo_design 459 = .ok (.iadd, 1) := by decide +kernel
theorem d_Mo_design_460 : decode b_Mo_design 460 = .ok (.iconst 4, 1) := by decide +kernel
theorem d_Mo_design_461 : decode b_Mo_design 461 = .ok (.iload_n 1, 1) := by decide +kernel
theorem d_Mo_design_462 : decode b_Mo_design 462 = .ok (.invokevirtual 181, 3) := by decide +kernel
theorem d_Mo_design_465 : decode b_Mo_design 465 = .ok (.aload_n 0, 1) := by decide +kernel
theorem d_Mo_design_466 : decode b_Mo_design 466 = .ok (.iload 5, 2) := by decide +kernel
theorem d_Mo_design_468 : decode b_Mo_design 468 = .ok (.bipush 8, 2) := by decide +kernel
theorem d_Mo_design_470 : decode b_Mo_design 470 = .ok (.iadd, 1) := by decide +kernel
theorem d_Mo_design_471 : decode b_Mo_design 471 = .ok (.iconst 4, 1) := by decide +kernel
theorem d_Mo_design_472 : decode b_Mo_design 472 = .ok (.iload_n 3, 1) := by decide +kernel
theorem d_Mo_design_473 : decode b_Mo_design 473 = .ok (.invokevirtual 181, 3) := by decide +kernel
theorem d_Mo_design_476 : decode b_Mo_design 476 = .ok (.return_, 1) := by decide +kernel
theorem d_Mo_design_167 : decode b_Mo_design 167 = .ok (.aload_n 0, 1) := by decide +kernel
theorem d_Mo_design_168 : decode b_Mo_design 168 = .ok (.getfield 57, 3) := by decide +kernel
theorem d_Mo_design_171 : decode b_Mo_design 171 = .ok (.iload 5, 2) := by decide +kernel
theorem d_Mo_design_173 : decode b_Mo_design 173 = .ok (.iaload, 1) := by decide +kernel
theorem d_Mo_design_174 : decode b_Mo_design 174 = .ok (.istore 6, 2) := by decide +kernel
theorem d_Mo_design_176 : decode b_Mo_design 176 = .ok (.aload_n 0, 1) := by decide +kernel
theorem d_Mo_design_187 : decode b_Mo_design 187 = .ok (.iload 6, 2) := by decide +kernel
theorem d_Mo_design_189 : decode b_Mo_design 189 = .ok (.invokevirtual 192, 3) := by decide +kernel
theorem d_Mo_design_192 : decode b_Mo_design 192 = .ok (.istore 7, 2) := by decide +kernel
theorem d_Mo_design_214 : decode b_Mo_design 214 = .ok (.istore 8, 2) := by decide +kernel
theorem d_Mo_design_216 : decode b_Mo_design 216 = .ok (.aload_n 0, 1) := by decide +kernel
theorem d_Mo_design_217 : decode b_Mo_design 217 = .ok (.getfield 54, 3) := by decide +kernel
theorem d_Mo_design_220 : decode b_Mo_design 220 = .ok (.iload 4, 2) := by decide +kernel
theorem d_Mo_design_222 : decode b_Mo_design 222 = .ok (.iload 7, 2) := by decide +kernel
theorem d_Mo_design_224 : decode b_Mo_design 224 = .ok (.i2b, 1) := by decide +kernel
theorem d_Mo_design_225 : decode b_Mo_design 225 = .ok (.bastore, 1) := by decide +kernel
theorem d_Mo_design_226 : decode b_Mo_design 226 = .ok (.aload_n 0, 1) := by decide +kernel
theorem d_Mo_design_227 : decode b_Mo_design 227 = .ok (.getfield 54, 3) := by decide +kernel
theorem d_Mo_design_230 : decode b_Mo_design 230 = .ok (.iload 4, 2) := by decide +kernel
theorem d_Mo_design_232 : decode b_Mo_design 232 = .ok (.sipush 2048, 3) := by decide +kernel
theorem d_Mo_design_235 : decode b_Mo_design 235 = .ok (.iadd, 1) := by decide +kernel
theorem d_Mo_design_236 : decode b_Mo_design 236 = .ok (.iload 7, 2) := by decide +kernel
theorem d_Mo_design_238 : decode b_Mo_design 238 = .ok (.i2b, 1) := by decide +kernel
theorem d_Mo_design_239 : decode b_Mo_design 239 = .ok (.bastore, 1) := by decide +kernel
theorem d_Mo_design_240 : decode b_Mo_design 240 = .ok (.aload_n 0, 1) := by decide +kernel
theorem d_Mo_design_241 : decode b_Mo_design 241 = .ok (.iload 4, 2) := by decide +kernel
theorem d_Mo_design_243 : decode b_Mo_design 243 = .ok (.iconst 2, 1) := by decide +kernel
theorem d_Mo_design_244 : decode b_Mo_design 244 = .ok (.iadd, 1) := by decide +kernel
theorem d_Mo_design_245 : decode b_Mo_design 245 = .ok (.iconst 4, 1) := by decide +kernel
theorem d_Mo_design_246 : decode b_Mo_design 246 = .ok (.aload_n 0, 1) := by decide +kernel
theorem d_Mo_design_247 : decode b_Mo_design 247 = .ok (.getfield 60, 3) := by decide +kernel
theorem d_Mo_design_250 : decode b_Mo_design 250 = .ok (.iload 6, 2) := by decide +kernel
theorem d_Mo_design_252 : decode b_Mo_design 252 = .ok (.iaload, 1) := by decide +kernel
theorem d_Mo_design_253 : decode b_Mo_design 253 = .ok (.invokevirtual 181, 3) := by decide +kernel
theorem d_Mo_design_256 : decode b_Mo_design 256 = .ok (.aload_n 0, 1) := by decide +kernel
theorem d_Mo_design_257 : decode b_Mo_design 257 = .ok (.iload 4, 2) := by decide +kernel
theorem d_Mo_design_259 : decode b_Mo_design 259 = .ok (.sipush 2050, 3) := by decide +kernel
theorem d_Mo_design_262 : decode b_Mo_design 262 = .ok (.iadd, 1) := by decide +kernel
theorem d_Mo_design_263 : decode b_Mo_design 263 = .ok (.iconst 4, 1) := by decide +kernel
theorem d_Mo_design_264 : decode b_Mo_design 264 = .ok (.aload_n 0, 1) := by decide +kernel
theorem d_Mo_design_265 : decode b_Mo_design 265 = .ok (.getfield 60, 3) := by decide +kernel
theorem d_Mo_design_268 : decode b_Mo_design 268 = .ok (.iload 6, 2) := by decide +kernel
theorem d_Mo_design_270 : decode b_Mo_design 270 = .ok (.iaload, 1) := by decide +kernel
theorem d_Mo_design_271 : decode b_Mo_design 271 = .ok (.invokevirtual 185, 3) := by decide +kernel
theorem d_Mo_design_274 : decode b_Mo_design 274 = .ok (.aload_n 0, 1) := by decide +kernel
theorem d_Mo_design_275 : decode b_Mo_design 275 = .ok (.iload 4, 2) := by decide +kernel
theorem d_Mo_design_277 : decode b_Mo_design 277 = .ok (.bipush 6, 2) := by decide +kernel
theorem d_Mo_design_279 : decode b_Mo_design 279 = .ok (.iadd, 1) := by decide +kernel
theorem d_Mo_design_280 : decode b_Mo_design 280 = .ok (.iconst 2, 1) := by decide +kernel
theorem d_Mo_design_281 : decode b_Mo_design 281 = .ok (.iload 8, 2) := by decide +kernel
theorem d_Mo_design_283 : decode b_Mo_design 283 = .ok (.invokevirtual 181, 3) := by decide +kernel
theorem d_Mo_design_286 : decode b_Mo_design 286 = .ok (.aload_n 0, 1) := by decide +kernel
theorem d_Mo_design_287 : decode b_Mo_design 287 = .ok (.iload 4, 2) := by decide +kernel
theorem d_Mo_design_289 : decode b_Mo_design 289 = .ok (.sipush 2054, 3) := by decide +kernel
theorem d_Mo_design_292 : decode b_Mo_design 292 = .ok (.iadd, 1) := by decide +kernel
theorem d_Mo_design_293 : decode b_Mo_design 293 = .ok (.iconst 2, 1) := by decide +kernel
theorem d_Mo_design_294 : decode b_Mo_design 294 = .ok (.iload 8, 2) := by decide +kernel
theorem d_Mo_design_296 : decode b_Mo_design 296 = .ok (.invokevirtual 185, 3) := by decide +kernel
theorem d_Mo_design_299 : decode b_Mo_design 299 = .ok (.iconst 0, 1) := by decide +kernel
theorem d_Mo_design_300 : decode b_Mo_design 300 = .ok (.istore 9, 2) := by decide +kernel
theorem d_Mo_design_302 : decode b_Mo_design 302 = .ok (.iload 9, 2) := by decide +kernel
theorem d_Mo_design_304 : decode b_Mo_design 304 = .ok (.iload 7, 2) := by decide +kernel
theorem d_Mo_design_306 : decode b_Mo_design 306 = .ok (.if_icmp .ge 67, 3) := by decide +kernel
theorem d_Mo_design_373 : decode b_Mo_design 373 = .ok (.iload 4, 2) := by decide +kernel
theorem d_Mo_design_375 : decode b_Mo_design 375 = .ok (.bipush 8, 2) := by decide +kernel
theorem d_Mo_design_377 : decode b_Mo_design 377 = .ok (.iload 7, 2) := by decide +kernel
theorem d_Mo_design_379 : decode b_Mo_design 379 = .ok (.invokestatic 196, 3) := by decide +kernel
theorem d_Mo_design_382 : decode b_Mo_design 382 = .ok (.iadd, 1) := by decide +kernel
theorem d_Mo_design_383 : decode b_Mo_design 383 = .ok (.iadd, 1) := by decide +kernel
theorem d_Mo_design_384 : decode b_Mo_design 384 = .ok (.istore 4, 2) := by decide +kernel
theorem d_Mo_design_386 : decode b_Mo_design 386 = .ok (.aload_n 0, 1) := by decide +kernel
theorem d_Mo_design_387 : decode b_Mo_design 387 = .ok (.iload 6, 2) := by decide +kernel
theorem d_Mo_design_389 : decode b_Mo_design 389 = .ok (.sipush 2048, 3) := by decide +kernel
theorem d_Mo_design_392 : decode b_Mo_design 392 = .ok (.aload_n 0, 1) := by decide +kernel
theorem d_Mo_design_393 : decode b_Mo_design 393 = .ok (.getfield 60, 3) := by decide +kernel
theorem d_Mo_design_396 : decode b_Mo_design 396 = .ok (.iload 6, 2) := by decide +kernel
theorem d_Mo_design_398 : decode b_Mo_design 398 = .ok (.iaload, 1) := by decide +kernel
theorem d_Mo_design_399 : decode b_Mo_design 399 = .ok (.iload_n 1, 1) := by decide +kernel
theorem d_Mo_design_400 : decode b_Mo_design 400 = .ok (.isub, 1) := by decide +kernel
theorem d_Mo_design_401 : decode b_Mo_design 401 = .ok (.bipush 16, 2) := by decide +kernel
theorem d_Mo_design_403 : decode b_Mo_design 403 = .ok (.isub, 1) := by decide +kernel
theorem d_Mo_design_404 : decode b_Mo_design 404 = .ok (.imul, 1) := by decide +kernel
theorem d_Mo_design_405 : decode b_Mo_design 405 = .ok (.iconst 1, 1) := by decide +kernel
theorem d_Mo_design_406 : decode b_Mo_design 406 = .ok (.invokevirtual 214, 3) := by decide +kernel
theorem d_Mo_design_409 : decode b_Mo_design 409 = .ok (.pop, 1) := by decide +kernel
theorem d_Mo_design_410 : decode b_Mo_design 410 = .ok (.iinc 5 1, 3) := by decide +kernel
theorem d_Mo_design_413 : decode b_Mo_design 413 = .ok (.goto (-255), 3) := by decide +kernel
theorem d_Mo_design_309 : decode b_Mo_design 309 = .ok (.iload 6, 2) := by decide +kernel
theorem d_Mo_design_311 : decode b_Mo_design 311 = .ok (.ifCond .le 62, 3) := by decide +kernel
theorem d_Mo_design_314 : decode b_Mo_design 314 = .ok (.aload_n 0, 1) := by decide +kernel
theorem d_Mo_design_315 : decode b_Mo_design 315 = .ok (.getfield 54, 3) := by decide +kernel
theorem d_Mo_design_318 : decode b_Mo_design 318 = .ok (.iload 4, 2) := by decide +kernel
theorem d_Mo_design_320 : decode b_Mo_design 320 = .ok (.bipush 8, 2) := by decide +kernel
theorem d_Mo_design_322 : decode b_Mo_design 322 = .ok (.iadd, 1) := by decide +kernel
theorem d_Mo_design_323 : decode b_Mo_design 323 = .ok (.iload 9, 2) := by decide +kernel
theorem d_Mo_design_325 : decode b_Mo_design 325 = .ok (.iadd, 1) := by decide +kernel
theorem d_Mo_design_326 : decode b_Mo_design 326 = .ok (.aload_n 0, 1) := by decide +kernel
theorem d_Mo_design_327 : decode b_Mo_design 327 = .ok (.getfield 34, 3) := by decide +kernel
theorem d_Mo_design_330 : decode b_Mo_design 330 = .ok (.iload 6, 2) := by decide +kernel
theorem d_Mo_design_332 : decode b_Mo_design 332 = .ok (.laload, 1) := by decide +kernel
theorem d_Mo_design_333 : decode b_Mo_design 333 = .ok (.iload 9, 2) := by decide +kernel
theorem d_Mo_design_335 : decode b_Mo_design 335 = .ok (.invokestatic 169, 3) := by decide +kernel
theorem d_Mo_design_338 : decode b_Mo_design 338 = .ok (.i2b, 1) := by decide +kernel
theorem d_Mo_design_339 : decode b_Mo_design 339 = .ok (.bastore, 1) := by decide +kernel
theorem d_Mo_design_340 : decode b_Mo_design 340 = .ok (.aload_n 0, 1) := by decide +kernel
theorem d_Mo_design_341 : decode b_Mo_design 341 = .ok (.getfield 54, 3) := by decide +kernel
theorem d_Mo_design_344 : decode b_Mo_design 344 = .ok (.iload 4, 2) := by decide +kernel
theorem d_Mo_design_346 : decode b_Mo_design 346 = .ok (.sipush 2056, 3) := by decide +kernel
theorem d_Mo_design_349 : decode b_Mo_design 349 = .ok (.iadd, 1) := by decide +kernel
theorem d_Mo_design_350 : decode b_Mo_design 350 = .ok (.iload 9, 2) := by decide +kernel
theorem d_Mo_design_352 : decode b_Mo_design 352 = .ok (.iadd, 1) := by decide +kernel
theorem d_Mo_design_353 : decode b_Mo_design 353 = .ok (.aload_n 0, 1) := by decide +kernel
theorem d_Mo_design_354 : decode b_Mo_design 354 = .ok (.getfield 34, 3) := by decide +kernel
theorem d_Mo_design_357 : decode b_Mo_design 357 = .ok (.iload 6, 2) := by decide +kernel
theorem d_Mo_design_359 : decode b_Mo_design 359 = .ok (.laload, 1) := by decide +kernel
theorem d_Mo_design_360 : decode b_Mo_design 360 = .ok (.iload 9, 2) := by decide +kernel
theorem d_Mo_design_362 : decode b_Mo_design 362 = .ok (.invokestatic 169, 3) := by decide +kernel
theorem d_Mo_design_365 : decode b_Mo_design 365 = .ok (.i2b, 1) := by decide +kernel
theorem d_Mo_design_366 : decode b_Mo_design 366 = .ok (.bastore, 1) := by decide +kernel
theorem d_Mo_design_367 : decode b_Mo_design 367 = .ok (.iinc 9 1, 3) := by decide +kernel
theorem d_Mo_design_370 : decode b_Mo_design 370 = .ok (.goto (-68), 3) := by decide +kernel
theorem d_Mo_design_194 : decode b_Mo_design 194 = .ok (.iload 6, 2) := by decide +kernel
theorem d_Mo_design_196 : decode b_Mo_design 196 = .ok (.ifCond .ne 7, 3) := by decide +kernel
theorem d_Mo_design_203 : decode b_Mo_design 203 = .ok (.aload_n 0, 1) := by decide +kernel
theorem d_Mo_design_204 : decode b_Mo_design 204 = .ok (.aload_n 0, 1) := by decide +kernel
theorem d_Mo_design_205 : decode b_Mo_design 205 = .ok (.getfield 30, 3) := by decide +kernel
theorem d_Mo_design_208 : decode b_Mo_design 208 = .ok (.iload 6, 2) := by decide +kernel
theorem d_Mo_design_210 : decode b_Mo_design 210 = .ok (.iaload, 1) := by decide +kernel
theorem d_Mo_design_211 : decode b_Mo_design 211 = .ok (.invokevirtual 222, 3) := by decide +kernel
theorem d_Mo_design_199 : decode b_Mo_design 199 = .ok (.iconst 1, 1) := by decide +kernel
theorem d_Mo_design_200 : decode b_Mo_design 200 = .ok (.goto 14, 3) := by decide +kernel
theorem d_Mo_design_177 : decode b_Mo_design 177 = .ok (.iload 6, 2) := by decide +kernel
theorem d_Mo_design_179 : decode b_Mo_design 179 = .ok (.ifCond .ne 7, 3) := by decide +kernel
theorem d_Mo_design_186 : decode b_Mo_design 186 = .ok (.iconst 2, 1) := by decide +kernel
theorem d_Mo_design_182 : decode b_Mo_design 182 = .ok (.iconst 0, 1) := by decide +kernel
theorem d_Mo_design_183 : decode b_Mo_design 183 = .ok (.goto 4, 3) := by decide +kernel
theorem d_Mo_design_16 : decode b_Mo_design 16 = .ok (.aload_n 0, 1) := by decide +kernel
theorem d_Mo_design_17 : decode b_Mo_design 17 = .ok (.getfield 54, 3) := by decide +kernel
theorem d_Mo_design_20 : decode b_Mo_design 20 = .ok (.iload 4, 2) := by decide +kernel
theorem d_Mo_design_22 : decode b_Mo_design 22 = .ok (.iconst 0, 1) := by decide +kernel
theorem d_Mo_design_23 : decode b_Mo_design 23 = .ok (.bastore, 1) := by decide +kernel
theorem d_Mo_design_24 : decode b_Mo_design 24 = .ok (.iinc 4 1, 3) := by decide +kernel
theorem d_Mo_design_27 : decode b_Mo_design 27 = .ok (.goto (-24), 3) := by decide +kernel
/-! MY OWN ROWS: the table, the session -/
theorem kv_pos {it pa : Nat → Int32} {m : Int} {d k : Int32} (h : kvP it pa m d k) (h0 : 0 ≤ k.toInt) : 1 ≤ k.toInt ∧ k.toInt < m ∧ it k.toInt.toNat = 1 ∧ pa k.toInt.toNat = d := by
  rcases h with rfl | h
  · exact absurd h0 (by decide)
  · exact h
theorem nof_s {T : Nat → Int32} {i d v : Int32} {j : Nat} (hv : v = T i.toNatClampNeg) (hn : ¬ v = d) (hj : T j = d) (h1 : i.toInt.toNat ≤ j) : i.toInt.toNat + 1 ≤ j := by
  by_cases h : i.toInt.toNat = j
  · subst h
    exact absurd (hv.trans hj) hn
  · omega
theorem tab_0 {it : Nat → Int32} {m : Nat} {T : Nat → Int32} {T' : Nat → Int32} (e : T' = upd T 0 0) : tbA it m T' 1 := by
  have h0 : T' 0 = 0 := by rw [e, upd_s]
  refine ⟨h0, fun j hj => ?_, fun j h1 hj => absurd hj (by omega), fun j k hj hk _ => by omega⟩
  obtain rfl : j = 0 := by omega
  rw [h0]
  decide
theorem toN_lt {a b : Int} (h0 : 0 ≤ a) (h : a < b) : a.toNat < b.toNat := by omega
theorem at_q {T at0 : Nat → Int32} {b : Int} {D i v a : Int32} (h : atQ T at0 b D.toInt.toNat D.toInt.toNat) (h0 : 0 ≤ i.toInt) (hi : i.toInt < D.toInt) (hv : v = T i.toNatClampNeg) (ha : a = at0 v.toNatClampNeg) : b + 20 ≤ a.toInt ∧ a.toInt < b + 20 + D.toInt := by
  have hq := h i.toInt.toNat (toN_lt h0 hi)
  rw [ha, hv]
  obtain ⟨h1, h2⟩ := hq
  exact ⟨h1, Int.lt_of_lt_of_le h2 (by omega)⟩

set_option maxHeartbeats 4000000 in
set_option maxRecDepth 100000 in
theorem m_tables (l : Launch) (D : va_G) (t : Nat → ClassId) (G : hG) (ak av : Nat → Nat) (h : hM) (τ : tM) (n : Nat) (m9 : Nat) (A : Nat → Nat) (th sd lo le wr ma nu di pl se wg op : Int32) (hn : n ≤ 200) (hT : TI τ t n h) (T_m9 : τ m9 = (20, 0)) (F_m9 : h m9 = some (.inr (9, mf A n th sd lo le wr ma nu di pl se wg op))) (hA : ∀ i, i < 28 → τ (A i) = (30, i)) (hmk : mOk sd lo ma se op) (hTm : treeM (aI h (A 4)) (aI h (A 6)) ma.toInt.toNat) : Met l y_Mo_tables (.code y_Mo_tables b_Mo_tables 3 none :: lw_g) { frames := 5, cells := 0, slots := 0, locals := 119 } (hP (kE D t G ak av) D vwCl G h [.ref m9]) (hQv D vwCl G (fun h' => TI τ t n h' ∧ kf τ [(30, 14)] [m9] h h' ∧ (∃ (di' : Int32), h' m9 = some (.inr (9, mf A n th sd lo le wr ma nu di' pl se wg op)) ∧ mOk sd lo ma se op ∧ tabQ (aI h' (A 4)) (aI h' (A 6)) (aI h' (A 14)) ma.toInt.toNat di'.toInt.toNat))) 0 0 G.P := by
  refine Met.ofW (cc := b_Mo_tables) (maxL := 3) (ret := none) (by decide) rfl ?_
  intro p e s m args below meth c s₁ Bd hml hv
  obtain ⟨ha, hE, hH⟩ := hv
  have hx := Bd.exec
  have hb := Bd.bytes
  have hr := Bd.returns
  have hts : ∀ w ∈ lw_g, w.before args s = true := fun w hw => atoms_spec (ws := (.code y_Mo_tables b_Mo_tables 3 none :: lw_g)) Bd.pre w (List.mem_cons_of_mem _ hw)
  have hown : s.vm.findClass R_Mo = some m.cls := findClass_of_methodNamed Bd.named
  have hlocks := Bd.notSynchronized
  have hK := hE.1
  have hH0 := hH
  have hLo : hLc G.P [] := hLc_nil
  have hz : s.heap.size ≤ s.heap.size := Nat.le_refl _
  have hl := lv_entry [.ref m9] (n := 3) (Nat.le_of_ble_eq_true rfl)
  rw [show entryFrame m args 3 = F0 m 0 ((lg_sl [.ref m9] ++ List.replicate (3 - (lg_sl [.ref m9]).length) Slot.unset).toArray) [] from (by rw [ha]; exact lg_entry_eq m [.ref m9] 3)]
  generalize (lg_sl [.ref m9] ++ List.replicate (3 - (lg_sl [.ref m9]).length) Slot.unset).toArray = ls at hl ⊢
  have hl : lv_has ls 3 [(0, .ref m9)] := hl
  have hkf : kf τ [(30, 14)] [m9] h h := kf_rf
  obtain ⟨hsd, hlo, hma, hse, hop⟩ := id hmk
  have inI : (nI n).toInt = n := nI_toInt (by omega)
  obtain ⟨g_1, F_A4, c_2⟩ := TI_arZ (L := 700) hT (hA 4 (by decide)) rfl rfl
  obtain ⟨g_3, F_A5, c_4⟩ := TI_arZ (L := 700) hT (hA 5 (by decide)) rfl rfl
  obtain ⟨g_5, F_A6⟩ := TI_arI (L := 700) hT (hA 6 (by decide)) rfl rfl
  obtain ⟨g_6, F_A7⟩ := TI_arJ (L := 700) hT (hA 7 (by decide)) rfl rfl
  rw [aI_of F_A4, aI_of F_A6] at hTm
  refine lv_aload_n hx hb d_Mo_tables_0 rfl (lv_at hl 0 rfl) ?_
  refine lv_iconst (v := 1) hx hb d_Mo_tables_1 (by decide) ?_
  refine hm_put (ci := 9) (v := .int 1) (ty := .int) (C := R_Mo) (T := F_Mo) (N := 41) hx hb hts ig_Mo t_Mo tk_Mo nm_Mo hown hK hH hLo F_m9 rfl 22 (by decide) (hts _ mw_679) (fun _ h9 => h9) rfl (by decide +kernel) rfl rfl (Nat.le_of_ble_eq_true rfl) d_Mo_tables_2 (fun H_7 locs hH z_8 hLo => ?_)
  have hz : s.heap.size ≤ H_7.size := by rw [z_8]; exact hz
  obtain ⟨h_9, e_10⟩ : ∃ z, z = hu h m9 (.inr (9, mf A n th sd lo le wr ma nu 1 pl se wg op)) := ⟨_, rfl⟩
  have hH : hm D vwCl G h_9 H_7 := by rw [e_10]; exact hH
  have F_A4 : h_9 (A 4) = some (.inl ((t 1), 700, .inl g_1)) := by rw [e_10, hu_n (tne (hA 4 (by decide)) T_m9 (by decide))]; exact F_A4
  have F_A5 : h_9 (A 5) = some (.inl ((t 1), 700, .inl g_3)) := by rw [e_10, hu_n (tne (hA 5 (by decide)) T_m9 (by decide))]; exact F_A5
  have F_A6 : h_9 (A 6) = some (.inl ((t 2), 700, .inl g_5)) := by rw [e_10, hu_n (tne (hA 6 (by decide)) T_m9 (by decide))]; exact F_A6
  have F_A7 : h_9 (A 7) = some (.inl ((t 3), 700, .inr (.inl g_6))) := by rw [e_10, hu_n (tne (hA 7 (by decide)) T_m9 (by decide))]; exact F_A7
  have F_m9 : h_9 m9 = some (.inr (9, mf A n th sd lo le wr ma nu 1 pl se wg op)) := by rw [e_10]; exact hu_s _ _ _
  have hT : TI τ t n h_9 := by rw [e_10]; exact TI_put hT T_m9 (by decide) ⟨_, rfl⟩
  have hkf : kf τ [(30, 14)] [m9] h h_9 := by rw [e_10]; exact kf_putM hkf (by simp)
  refine lv_aload_n hx hb d_Mo_tables_5 rfl (lv_at hl 0 rfl) ?_
  refine hm_get (ci := 9) (v := .ref (A 14)) (C := R_Mo) (T := F_Mo) (N := 41) hx hb hts ig_Mo hown hK hH F_m9 rfl 24 (by decide) (hts _ mw_680) (fun _ h9 => h9) rfl d_Mo_tables_6 ?_
  refine lv_iconst (v := 0) hx hb d_Mo_tables_9 (by decide) ?_
  refine lv_iconst (v := 0) hx hb d_Mo_tables_10 (by decide) ?_
  obtain ⟨g_11, F_A14⟩ := TI_arI (L := 30) hT (hA 14 (by decide)) rfl rfl
  refine hm_iast hx hb hK hH hLo 2 F_A14 rfl (iIn (by decide) (by decide)) d_Mo_tables_11 (fun H_12 locs hH z_13 hLo => ?_)
  have hz : s.heap.size ≤ H_12.size := by rw [z_13]; exact hz
  obtain ⟨h_14, e_15⟩ : ∃ z, z = hu h_9 (A 14) (.inl ((t 2), 30, .inl (upd g_11 ((0 : Int32).toNatClampNeg) (0 : Int32)))) := ⟨_, rfl⟩
  have hH : hm D vwCl G h_14 H_12 := by rw [e_15]; exact hH
  have F_m9 : h_14 m9 = some (.inr (9, mf A n th sd lo le wr ma nu 1 pl se wg op)) := by rw [e_15, hu_n (tne T_m9 (hA 14 (by decide)) (by decide))]; exact F_m9
  have F_A4 : h_14 (A 4) = some (.inl ((t 1), 700, .inl g_1)) := by rw [e_15, hu_n (tneF (hA 4 (by decide)) (hA 14 (by decide)) (by decide))]; exact F_A4
  have F_A5 : h_14 (A 5) = some (.inl ((t 1), 700, .inl g_3)) := by rw [e_15, hu_n (tneF (hA 5 (by decide)) (hA 14 (by decide)) (by decide))]; exact F_A5
  have F_A6 : h_14 (A 6) = some (.inl ((t 2), 700, .inl g_5)) := by rw [e_15, hu_n (tneF (hA 6 (by decide)) (hA 14 (by decide)) (by decide))]; exact F_A6
  have F_A7 : h_14 (A 7) = some (.inl ((t 3), 700, .inr (.inl g_6))) := by rw [e_15, hu_n (tneF (hA 7 (by decide)) (hA 14 (by decide)) (by decide))]; exact F_A7
  have F_A14 : h_14 (A 14) = some (.inl ((t 2), 30, .inl (upd g_11 ((0 : Int32).toNatClampNeg) (0 : Int32)))) := by rw [e_15]; exact hu_s _ _ _
  have hT : TI τ t n h_14 := by rw [e_15]; exact TI_put hT (hA 14 (by decide)) (by decide) (ok_I rfl rfl)
  have hkf : kf τ [(30, 14)] [m9] h h_14 := by rw [e_15]; exact kf_put hkf (hA 14 (by decide)) List.mem_cons_self
  obtain ⟨g_16, e_17⟩ : ∃ z, z = upd g_11 ((0 : Int32).toNatClampNeg) (0 : Int32) := ⟨_, rfl⟩
  rw [← e_17] at F_A14
  refine lv_iconst (v := 0) hx hb d_Mo_tables_12 (by decide) ?_
  refine lv_istore_n (lv' := [(1, .int 0), (0, .ref m9)]) hx hb d_Mo_tables_13 rfl hl (by decide) rfl (fun ls hl => ?_)
  refine hm_loop (fun k14 ls H locs hh14 => ∃ (i9 : Int32) (di9 : Int32) (T9 : Nat → Int32), k14 = mU i9 ∧ lv_has ls 3 [(0, .ref m9), (1, .int i9)] ∧ hm D vwCl G hh14 H ∧ s.heap.size ≤ H.size ∧ hLc G.P locs ∧ hh14 (A 4) = some (.inl ((t 1), 700, .inl g_1)) ∧ hh14 (A 5) = some (.inl ((t 1), 700, .inl g_3)) ∧ hh14 (A 6) = some (.inl ((t 2), 700, .inl g_5)) ∧ hh14 (A 7) = some (.inl ((t 3), 700, .inr (.inl g_6))) ∧ (TI τ t n hh14) ∧ (kf τ [(30, 14)] [m9] h hh14) ∧ (hh14 m9 = some (.inr (9, mf A n th sd lo le wr ma nu di9 pl se wg op))) ∧ (hh14 (A 14) = some (.inl ((t 2), 30, .inl T9))) ∧ (0 ≤ i9.toInt ∧ i9.toInt ≤ di9.toInt ∧ 1 ≤ di9.toInt ∧ di9.toInt ≤ 30) ∧ (tbA g_1 ma.toInt.toNat T9 di9.toInt.toNat) ∧ (∀ j, 1 ≤ j → j < di9.toInt.toNat → ∃ i2, i2 < i9.toInt.toNat ∧ g_5 (T9 j).toInt.toNat = T9 i2)) ?_ (hh := h_14) ⟨0, 1, g_16, rfl, (lv_sub hl [1, 0] rfl), hH, hz, hLo, F_A4, F_A5, F_A6, F_A7, hT, hkf, F_m9, F_A14, ⟨by decide, by decide, by decide, by decide⟩, (tab_0 e_17), (fun j h1 hj => absurd (show j < 1 from hj) (by omega))⟩
  rintro k14 ls H locs hh14 ⟨i9, di9, T9, hk14, hl, hH, hz, hLo, F_A4, F_A5, F_A6, F_A7, hT, hkf, F_m9, F_A14, I_i9, hA9, hU9⟩ ih14
  refine lv_iload_n hx hb d_Mo_tables_14 rfl (lv_at hl 1 rfl) ?_
  refine lv_aload_n hx hb d_Mo_tables_15 rfl (lv_at hl 0 rfl) ?_
  refine hm_get (ci := 9) (v := .int di9) (C := R_Mo) (T := F_Mo) (N := 41) hx hb hts ig_Mo hown hK hH F_m9 rfl 22 (by decide) (hts _ mw_679) (fun _ h9 => h9) rfl d_Mo_tables_16 ?_
  refine lv_icmp_ge (tgt := 91) hx hb d_Mo_tables_19 (by decide) (fun hc_18 => ?_) (fun hc_18 => ?_)
  · skip
    have ic_19 : di9.toInt ≤ i9.toInt := iLe hc_18
    exact W.vret hx hb hr (fun t9 ht hW => ⟨hh14, rfl, ⟨hT, hkf, ⟨di9, F_m9, ⟨hsd, hlo, (by omega), ⟨by omega, by omega⟩, ⟨by omega, by omega⟩⟩, (by rw [aI_of F_A4, aI_of F_A6, aI_of F_A14]; exact ⟨by omega, by omega, hA9, fun j h1 hj => by
      obtain ⟨i2, h2, h3⟩ := hU9 j h1 hj
      exact ⟨i2, by omega, h3⟩⟩)⟩⟩, by rw [ht]; exact hH, by rw [ht]; exact hz⟩) hLo d_Mo_tables_91
  · skip
    have ic_20 : i9.toInt < di9.toInt := iNe hc_18
    have iu_21 : di9.toInt < 2147483648 := iUp _
    refine lv_aload_n hx hb d_Mo_tables_22 rfl (lv_at hl 0 rfl) ?_
    refine lv_aload_n hx hb d_Mo_tables_23 rfl (lv_at hl 0 rfl) ?_
    refine hm_get (ci := 9) (v := .ref (A 14)) (C := R_Mo) (T := F_Mo) (N := 41) hx hb hts ig_Mo hown hK hH F_m9 rfl 24 (by decide) (hts _ mw_680) (fun _ h9 => h9) rfl d_Mo_tables_24 ?_
    refine lv_iload_n hx hb d_Mo_tables_27 rfl (lv_at hl 1 rfl) ?_
    refine hm_iald hx hb hK hH 2 F_A14 rfl (iIn (by omega) (by omega)) d_Mo_tables_28 ?_
    refine lv_topi (fun v_22 e_23 => ?_)
    refine lv_iconst (v := -1) hx hb d_Mo_tables_29 (by decide) ?_
    refine hm_callPi (va_runV (As := [.int v_22, .int (-1)]) (b := m9) (rest := []) ⟨hx, hb, hml, hown, hts⟩ (m_next l D t G ak av hh14 τ n m9 v_22 (-1) A th sd lo le wr ma nu di9 pl se wg op   hn hT T_m9  F_m9 hA ⟨hsd, hlo, (by omega), ⟨by omega, by omega⟩, ⟨by omega, by omega⟩⟩ (by decide)) ⟨cw9B 2 hts mw_675 mw_676 mw_579 rfl rfl (by decide +kernel) ⟨Nat.le_of_ble_eq_true rfl, Nat.le_of_ble_eq_true rfl⟩, hts _ mw_677, hts _ mw_678⟩ (hP_V (q := (R_Mo, F_Mo, 41)) kE_ok hE hK hH F_m9 rfl) rfl rfl hl.1 rfl (lv_room (Nat.le_of_ble_eq_true rfl)) d_Mo_tables_30 ⟨Nat.le_of_ble_eq_true rfl, Nat.le_of_ble_eq_true rfl⟩) (fun r_24 h_25 H_26 hp_28  hH z_27 => ?_)
    have hz : s.heap.size ≤ H_26.size := Nat.le_trans hz z_27
    obtain ⟨xp_29, rfl⟩ := hp_28
    rw [aI_of F_A4, aI_of F_A5, aI_of F_A6, aJ_of F_A7] at xp_29
    refine lv_istore_n (lv' := [(2, .int r_24), (0, .ref m9), (1, .int i9)]) hx hb d_Mo_tables_33 rfl hl (by decide) rfl (fun ls hl => ?_)
    refine hm_loop (fun k34 ls H locs hh34 => ∃ (kb : Int32) (di8 : Int32) (T8 : Nat → Int32), k34 = meM g_1 g_3 g_5 g_6 ma.toInt.toNat v_22 kb ∧ lv_has ls 3 [(0, .ref m9), (1, .int i9), (2, .int kb)] ∧ hm D vwCl G hh34 H ∧ s.heap.size ≤ H.size ∧ hLc G.P locs ∧ hh34 (A 4) = some (.inl ((t 1), 700, .inl g_1)) ∧ hh34 (A 5) = some (.inl ((t 1), 700, .inl g_3)) ∧ hh34 (A 6) = some (.inl ((t 2), 700, .inl g_5)) ∧ hh34 (A 7) = some (.inl ((t 3), 700, .inr (.inl g_6))) ∧ (TI τ t n hh34) ∧ (kf τ [(30, 14)] [m9] h hh34) ∧ (hh34 m9 = some (.inr (9, mf A n th sd lo le wr ma nu di8 pl se wg op))) ∧ (hh34 (A 14) = some (.inl ((t 2), 30, .inl T8))) ∧ (i9.toInt < di8.toInt ∧ di8.toInt ≤ 30) ∧ (T8 i9.toNatClampNeg = v_22) ∧ (tbA g_1 ma.toInt.toNat T8 di8.toInt.toNat) ∧ (kvP g_1 g_5 ma.toInt v_22 kb) ∧ (tbC g_3 g_5 g_6 T8 di8.toInt.toNat i9.toInt.toNat kb)) ?_ (hh := hh14) ⟨r_24, di9, T9, rfl, (lv_sub hl [1, 2, 0] rfl), hH, hz, hLo, F_A4, F_A5, F_A6, F_A7, hT, hkf, F_m9, F_A14, ⟨by omega, by omega⟩, e_23.symm, hA9, (nx_kv xp_29), (tbC_first (it := g_1) hU9)⟩
    rintro k34 ls H locs hh34 ⟨kb, di8, T8, hk34, hl, hH, hz, hLo, F_A4, F_A5, F_A6, F_A7, hT, hkf, F_m9, F_A14, I_di8, hd8, hA8, hkv, hC8⟩ ih34
    refine lv_iload_n hx hb d_Mo_tables_34 rfl (lv_at hl 2 rfl) ?_
    refine lv_if_lt (tgt := 85) hx hb d_Mo_tables_35 (by decide) (fun hc_30 => ?_) (fun hc_30 => ?_)
    · skip
      have ic_31 : kb.toInt < 0 := iLt hc_30
      obtain ⟨j_32, e_33⟩ : ∃ z : Int32, z = i9 + 1 := ⟨_, rfl⟩
      refine lv_iinc (v := j_32) (lv' := [(1, .int j_32), (0, .ref m9), (2, .int kb)]) hx hb d_Mo_tables_85 hl (k := 1) rfl e_33.symm (by decide) rfl (fun ls hl => ?_)
      refine lv_goto (tgt := 14) hx hb d_Mo_tables_88 (by decide) ?_
      have is_34 : j_32.toInt = i9.toInt + 1 := by rw [e_33]; exact iAddK 1 rfl (by omega) (by omega)
      exact ih14 (mU j_32) ls _ locs _ (by rw [hk14]; exact mU_lt (by omega)) ⟨j_32, di8, T8, rfl, (lv_sub hl [1, 0] rfl), hH, hz, hLo, F_A4, F_A5, F_A6, F_A7, hT, hkf, F_m9, F_A14, ⟨by omega, by omega, by omega, by omega⟩, hA8, (by rw [show j_32.toInt.toNat = i9.toInt.toNat + 1 by omega]; exact tbC_up hC8)⟩
    · skip
      have ic_35 : 0 ≤ kb.toInt := iNl hc_30
      obtain ⟨k1, k2, k3, k4⟩ := kv_pos hkv (by omega)
      refine lv_aload_n hx hb d_Mo_tables_38 rfl (lv_at hl 0 rfl) ?_
      refine hm_get (ci := 9) (v := .ref (A 5)) (C := R_Mo) (T := F_Mo) (N := 41) hx hb hts ig_Mo hown hK hH F_m9 rfl 12 (by decide) (hts _ mw_606) (fun _ h9 => h9) rfl d_Mo_tables_39 ?_
      refine lv_iload_n hx hb d_Mo_tables_42 rfl (lv_at hl 2 rfl) ?_
      refine hm_zald hx hb hK hH 1 F_A5 rfl (iIn (by omega) (by omega)) d_Mo_tables_43 ?_
      refine lv_topi (fun v_36 e_37 => ?_)
      have c_38 : zb v_36 := by rw [e_37]; exact c_4 _
      refine lv_if_ne (tgt := 50) hx hb d_Mo_tables_44 (by decide) (fun hc_39 => ?_) (fun hc_39 => ?_)
      · skip
        obtain ⟨hn8, hD8⟩ := tb_lt (di := g_3) (nm := g_6) hTm rfl hA8 hC8 (by omega) k1 k2 k3 (k4.trans hd8.symm)
        refine lv_aload_n hx hb d_Mo_tables_50 rfl (lv_at hl 0 rfl) ?_
        refine hm_get (ci := 9) (v := .ref (A 14)) (C := R_Mo) (T := F_Mo) (N := 41) hx hb hts ig_Mo hown hK hH F_m9 rfl 24 (by decide) (hts _ mw_680) (fun _ h9 => h9) rfl d_Mo_tables_51 ?_
        refine lv_aload_n hx hb d_Mo_tables_54 rfl (lv_at hl 0 rfl) ?_
        refine hm_get (ci := 9) (v := .int di8) (C := R_Mo) (T := F_Mo) (N := 41) hx hb hts ig_Mo hown hK hH F_m9 rfl 22 (by decide) (hts _ mw_679) (fun _ h9 => h9) rfl d_Mo_tables_55 ?_
        refine lv_iload_n hx hb d_Mo_tables_58 rfl (lv_at hl 2 rfl) ?_
        refine hm_iast hx hb hK hH hLo 2 F_A14 rfl (iIn (by omega) (by omega)) d_Mo_tables_59 (fun H_40 locs hH z_41 hLo => ?_)
        have hz : s.heap.size ≤ H_40.size := by rw [z_41]; exact hz
        obtain ⟨h_42, e_43⟩ : ∃ z, z = hu hh34 (A 14) (.inl ((t 2), 30, .inl (upd T8 di8.toNatClampNeg kb))) := ⟨_, rfl⟩
        have hH : hm D vwCl G h_42 H_40 := by rw [e_43]; exact hH
        have F_A4 : h_42 (A 4) = some (.inl ((t 1), 700, .inl g_1)) := by rw [e_43, hu_n (tneF (hA 4 (by decide)) (hA 14 (by decide)) (by decide))]; exact F_A4
        have F_A5 : h_42 (A 5) = some (.inl ((t 1), 700, .inl g_3)) := by rw [e_43, hu_n (tneF (hA 5 (by decide)) (hA 14 (by decide)) (by decide))]; exact F_A5
        have F_A6 : h_42 (A 6) = some (.inl ((t 2), 700, .inl g_5)) := by rw [e_43, hu_n (tneF (hA 6 (by decide)) (hA 14 (by decide)) (by decide))]; exact F_A6
        have F_A7 : h_42 (A 7) = some (.inl ((t 3), 700, .inr (.inl g_6))) := by rw [e_43, hu_n (tneF (hA 7 (by decide)) (hA 14 (by decide)) (by decide))]; exact F_A7
        have F_m9 : h_42 m9 = some (.inr (9, mf A n th sd lo le wr ma nu di8 pl se wg op)) := by rw [e_43, hu_n (tne T_m9 (hA 14 (by decide)) (by decide))]; exact F_m9
        have F_A14 : h_42 (A 14) = some (.inl ((t 2), 30, .inl (upd T8 di8.toNatClampNeg kb))) := by rw [e_43]; exact hu_s _ _ _
        have hT : TI τ t n h_42 := by rw [e_43]; exact TI_put hT (hA 14 (by decide)) (by decide) (ok_I rfl rfl)
        have hkf : kf τ [(30, 14)] [m9] h h_42 := by rw [e_43]; exact kf_put hkf (hA 14 (by decide)) List.mem_cons_self
        obtain ⟨g_44, e_45⟩ : ∃ z, z = upd T8 di8.toNatClampNeg kb := ⟨_, rfl⟩
        rw [← e_45] at F_A14
        refine lv_aload_n hx hb d_Mo_tables_60 rfl (lv_at hl 0 rfl) ?_
        refine lv_dup hx hb d_Mo_tables_61 rfl ?_
        refine hm_get (ci := 9) (v := .int di8) (C := R_Mo) (T := F_Mo) (N := 41) hx hb hts ig_Mo hown hK hH F_m9 rfl 22 (by decide) (hts _ mw_679) (fun _ h9 => h9) rfl d_Mo_tables_62 ?_
        refine lv_iconst (v := 1) hx hb d_Mo_tables_65 (by decide) ?_
        refine lv_iadd hx hb d_Mo_tables_66 ?_
        refine lv_topi (fun v_46 e_47 => ?_)
        refine hm_put (ci := 9) (v := .int v_46) (ty := .int) (C := R_Mo) (T := F_Mo) (N := 41) hx hb hts ig_Mo t_Mo tk_Mo nm_Mo hown hK hH hLo F_m9 rfl 22 (by decide) (hts _ mw_679) (fun _ h9 => h9) rfl (by decide +kernel) rfl rfl (Nat.le_of_ble_eq_true rfl) d_Mo_tables_67 (fun H_48 locs hH z_49 hLo => ?_)
        have hz : s.heap.size ≤ H_48.size := by rw [z_49]; exact hz
        obtain ⟨h_50, e_51⟩ : ∃ z, z = hu h_42 m9 (.inr (9, mf A n th sd lo le wr ma nu v_46 pl se wg op)) := ⟨_, rfl⟩
        have hH : hm D vwCl G h_50 H_48 := by rw [e_51]; exact hH
        have F_A4 : h_50 (A 4) = some (.inl ((t 1), 700, .inl g_1)) := by rw [e_51, hu_n (tne (hA 4 (by decide)) T_m9 (by decide))]; exact F_A4
        have F_A5 : h_50 (A 5) = some (.inl ((t 1), 700, .inl g_3)) := by rw [e_51, hu_n (tne (hA 5 (by decide)) T_m9 (by decide))]; exact F_A5
        have F_A6 : h_50 (A 6) = some (.inl ((t 2), 700, .inl g_5)) := by rw [e_51, hu_n (tne (hA 6 (by decide)) T_m9 (by decide))]; exact F_A6
        have F_A7 : h_50 (A 7) = some (.inl ((t 3), 700, .inr (.inl g_6))) := by rw [e_51, hu_n (tne (hA 7 (by decide)) T_m9 (by decide))]; exact F_A7
        have F_A14 : h_50 (A 14) = some (.inl ((t 2), 30, .inl g_44)) := by rw [e_51, hu_n (tne (hA 14 (by decide)) T_m9 (by decide))]; exact F_A14
        have F_m9 : h_50 m9 = some (.inr (9, mf A n th sd lo le wr ma nu v_46 pl se wg op)) := by rw [e_51]; exact hu_s _ _ _
        have hT : TI τ t n h_50 := by rw [e_51]; exact TI_put hT T_m9 (by decide) ⟨_, rfl⟩
        have hkf : kf τ [(30, 14)] [m9] h h_50 := by rw [e_51]; exact kf_putM hkf (by simp)
        refine lv_aload_n hx hb d_Mo_tables_70 rfl (lv_at hl 0 rfl) ?_
        refine lv_aload_n hx hb d_Mo_tables_71 rfl (lv_at hl 0 rfl) ?_
        refine hm_get (ci := 9) (v := .ref (A 14)) (C := R_Mo) (T := F_Mo) (N := 41) hx hb hts ig_Mo hown hK hH F_m9 rfl 24 (by decide) (hts _ mw_680) (fun _ h9 => h9) rfl d_Mo_tables_72 ?_
        refine lv_iload_n hx hb d_Mo_tables_75 rfl (lv_at hl 1 rfl) ?_
        refine hm_iald hx hb hK hH 2 F_A14 rfl (iIn (by omega) (by omega)) d_Mo_tables_76 ?_
        refine lv_topi (fun v_52 e_53 => ?_)
        refine lv_topi (fun v_54 e_55 => ?_)
        obtain rfl : v_22 = v_54 := (e_55.trans ((by rw [e_53, e_45, upd_n _ (by rw [clN, clN]; omega)]; exact hd8))).symm
        refine lv_iload_n hx hb d_Mo_tables_77 rfl (lv_at hl 2 rfl) ?_
        refine hm_callPi (va_runV (As := [.int v_22, .int kb]) (b := m9) (rest := []) ⟨hx, hb, hml, hown, hts⟩ (m_next l D t G ak av h_50 τ n m9 v_22 kb A th sd lo le wr ma nu v_46 pl se wg op   hn hT T_m9  F_m9 hA ⟨hsd, hlo, (by omega), ⟨by omega, by omega⟩, ⟨by omega, by omega⟩⟩ (by omega)) ⟨cw9B 2 hts mw_675 mw_676 mw_579 rfl rfl (by decide +kernel) ⟨Nat.le_of_ble_eq_true rfl, Nat.le_of_ble_eq_true rfl⟩, hts _ mw_677, hts _ mw_678⟩ (hP_V (q := (R_Mo, F_Mo, 41)) kE_ok hE hK hH F_m9 rfl) rfl rfl hl.1 rfl (lv_room (Nat.le_of_ble_eq_true rfl)) d_Mo_tables_78 ⟨Nat.le_of_ble_eq_true rfl, Nat.le_of_ble_eq_true rfl⟩) (fun r_56 h_57 H_58 hp_60  hH z_59 => ?_)
        have hz : s.heap.size ≤ H_58.size := Nat.le_trans hz z_59
        obtain ⟨xp_61, rfl⟩ := hp_60
        rw [aI_of F_A4, aI_of F_A5, aI_of F_A6, aJ_of F_A7] at xp_61
        refine lv_istore_n (lv' := [(2, .int r_56), (0, .ref m9), (1, .int i9)]) hx hb d_Mo_tables_81 rfl hl (by decide) rfl (fun ls hl => ?_)
        refine lv_goto (tgt := 34) hx hb d_Mo_tables_82 (by decide) ?_
        have is_62 : v_46.toInt = di8.toInt + 1 := by rw [e_47]; exact iAddK 1 rfl (by omega) (by omega)
        exact ih34 (meM g_1 g_3 g_5 g_6 ma.toInt.toNat v_22 r_56) ls _ locs _ (by rw [hk34]; exact me_next rfl (by omega) xp_61) ⟨r_56, v_46, g_44, rfl, (lv_sub hl [1, 2, 0] rfl), hH, hz, hLo, F_A4, F_A5, F_A6, F_A7, hT, hkf, F_m9, F_A14, ⟨by omega, by omega⟩, (by rw [e_45, upd_n _ (by rw [clN, clN]; omega)]; exact hd8), (by rw [e_45, show v_46.toInt.toNat = di8.toInt.toNat + 1 by omega, clN]; exact tb_app (di := g_3) (pa := g_5) (nm := g_6) rfl hA8 (by omega) hn8 k1 k2 k3), (nx_kv xp_61), (by rw [e_45, show v_46.toInt.toNat = di8.toInt.toNat + 1 by omega, clN]; exact tbC_app hC8 (by omega) (by omega) (k4.trans hd8.symm) (by rw [show T8 i9.toInt.toNat = v_22 from hd8]; exact xp_61))⟩
      · skip
        have ic_63 : v_36.toInt = 0 := congrArg Int32.toInt hc_39
        refine lv_goto (tgt := 70) hx hb d_Mo_tables_47 (by decide) ?_
        refine lv_aload_n hx hb d_Mo_tables_70 rfl (lv_at hl 0 rfl) ?_
        refine lv_aload_n hx hb d_Mo_tables_71 rfl (lv_at hl 0 rfl) ?_
        refine hm_get (ci := 9) (v := .ref (A 14)) (C := R_Mo) (T := F_Mo) (N := 41) hx hb hts ig_Mo hown hK hH F_m9 rfl 24 (by decide) (hts _ mw_680) (fun _ h9 => h9) rfl d_Mo_tables_72 ?_
        refine lv_iload_n hx hb d_Mo_tables_75 rfl (lv_at hl 1 rfl) ?_
        refine hm_iald hx hb hK hH 2 F_A14 rfl (iIn (by omega) (by omega)) d_Mo_tables_76 ?_
        refine lv_topi (fun v_64 e_65 => ?_)
        refine lv_topi (fun v_66 e_67 => ?_)
        obtain rfl : v_22 = v_66 := (e_67.trans (e_65.trans hd8)).symm
        refine lv_iload_n hx hb d_Mo_tables_77 rfl (lv_at hl 2 rfl) ?_
        refine hm_callPi (va_runV (As := [.int v_22, .int kb]) (b := m9) (rest := []) ⟨hx, hb, hml, hown, hts⟩ (m_next l D t G ak av hh34 τ n m9 v_22 kb A th sd lo le wr ma nu di8 pl se wg op   hn hT T_m9  F_m9 hA ⟨hsd, hlo, (by omega), ⟨by omega, by omega⟩, ⟨by omega, by omega⟩⟩ (by omega)) ⟨cw9B 2 hts mw_675 mw_676 mw_579 rfl rfl (by decide +kernel) ⟨Nat.le_of_ble_eq_true rfl, Nat.le_of_ble_eq_true rfl⟩, hts _ mw_677, hts _ mw_678⟩ (hP_V (q := (R_Mo, F_Mo, 41)) kE_ok hE hK hH F_m9 rfl) rfl rfl hl.1 rfl (lv_room (Nat.le_of_ble_eq_true rfl)) d_Mo_tables_78 ⟨Nat.le_of_ble_eq_true rfl, Nat.le_of_ble_eq_true rfl⟩) (fun r_68 h_69 H_70 hp_72  hH z_71 => ?_)
        have hz : s.heap.size ≤ H_70.size := Nat.le_trans hz z_71
        obtain ⟨xp_73, rfl⟩ := hp_72
        rw [aI_of F_A4, aI_of F_A5, aI_of F_A6, aJ_of F_A7] at xp_73
        refine lv_istore_n (lv' := [(2, .int r_68), (0, .ref m9), (1, .int i9)]) hx hb d_Mo_tables_81 rfl hl (by decide) rfl (fun ls hl => ?_)
        refine lv_goto (tgt := 34) hx hb d_Mo_tables_82 (by decide) ?_
        exact ih34 (meM g_1 g_3 g_5 g_6 ma.toInt.toNat v_22 r_68) ls _ locs _ (by rw [hk34]; exact me_next rfl (by omega) xp_73) ⟨r_68, di8, T8, rfl, (lv_sub hl [1, 2, 0] rfl), hH, hz, hLo, F_A4, F_A5, F_A6, F_A7, hT, hkf, F_m9, F_A14, ⟨by omega, by omega⟩, hd8, hA8, (nx_kv xp_73), (tbC_next hC8 (by omega) (by rw [show T8 i9.toInt.toNat = v_22 from hd8]; exact xp_73))⟩

set_option maxHeartbeats 4000000 in
set_option maxRecDepth 100000 in
theorem m_numOf (l : Launch) (D : va_G) (t : Nat → ClassId) (G : hG) (ak av : Nat → Nat) (h : hM) (τ : tM) (n : Nat) (m9 : Nat) (d9 : Int32) (A : Nat → Nat) (th sd lo le wr ma nu di pl se wg op : Int32) (hn : n ≤ 200) (hT : TI τ t n h) (T_m9 : τ m9 = (20, 0)) (F_m9 : h m9 = some (.inr (9, mf A n th sd lo le wr ma nu di pl se wg op))) (hA : ∀ i, i < 28 → τ (A i) = (30, i)) (hmk : mOk sd lo ma se op) (hnd : ∃ j, j < 30 ∧ aI h (A 14) j = d9) : Met l y_Mo_numberOf (.code y_Mo_numberOf b_Mo_numberOf 3 (some .int) :: lw_g) { frames := 0, cells := 0, slots := 0, locals := 0 } (hP (kE D t G ak av) D vwCl G h [.ref m9, .int d9]) (hQi D vwCl G (fun r h' => h = h')) 0 0 nof := by
  refine Met.ofW (cc := b_Mo_numberOf) (maxL := 3) (ret := (some .int)) (by decide) rfl ?_
  intro p e s m args below meth c s₁ Bd hml hv
  obtain ⟨ha, hE, hH⟩ := hv
  have hx := Bd.exec
  have hb := Bd.bytes
  have hr := Bd.returns
  have hts : ∀ w ∈ lw_g, w.before args s = true := fun w hw => atoms_spec (ws := (.code y_Mo_numberOf b_Mo_numberOf 3 (some .int) :: lw_g)) Bd.pre w (List.mem_cons_of_mem _ hw)
  have hown : s.vm.findClass R_Mo = some m.cls := findClass_of_methodNamed Bd.named
  have hlocks := Bd.notSynchronized
  have hK := hE.1
  have hH0 := hH
  have hLo : hLc nof [] := hLc_nil
  have hz : s.heap.size ≤ s.heap.size := Nat.le_refl _
  have hl := lv_entry [.ref m9, .int d9] (n := 3) (Nat.le_of_ble_eq_true rfl)
  rw [show entryFrame m args 3 = F0 m 0 ((lg_sl [.ref m9, .int d9] ++ List.replicate (3 - (lg_sl [.ref m9, .int d9]).length) Slot.unset).toArray) [] from (by rw [ha]; exact lg_entry_eq m [.ref m9, .int d9] 3)]
  generalize (lg_sl [.ref m9, .int d9] ++ List.replicate (3 - (lg_sl [.ref m9, .int d9]).length) Slot.unset).toArray = ls at hl ⊢
  have hl : lv_has ls 3 [(0, .ref m9), (1, .int d9)] := hl
  obtain ⟨hsd, hlo, hma, hse, hop⟩ := id hmk
  have inI : (nI n).toInt = n := nI_toInt (by omega)
  obtain ⟨g_1, F_A14⟩ := TI_arI (L := 30) hT (hA 14 (by decide)) rfl rfl
  rw [aI_of F_A14] at hnd
  refine lv_iconst (v := 0) hx hb d_Mo_numberOf_0 (by decide) ?_
  refine lv_istore_n (lv' := [(2, .int 0), (0, .ref m9), (1, .int d9)]) hx hb d_Mo_numberOf_1 rfl hl (by decide) rfl (fun ls hl => ?_)
  refine hm_loop (fun k2 ls H locs hh2 => ∃ (i9 : Int32), k2 = mU i9 ∧ lv_has ls 3 [(0, .ref m9), (1, .int d9), (2, .int i9)] ∧ hm D vwCl G hh2 H ∧ s.heap.size ≤ H.size ∧ hLc nof locs ∧ (h = hh2) ∧ (0 ≤ i9.toInt) ∧ (∃ j, i9.toInt.toNat ≤ j ∧ j < 30 ∧ g_1 j = d9)) ?_ (hh := h) ⟨0, rfl, (lv_sub hl [1, 2, 0] rfl), hH, hz, hLo, rfl, (by decide), (by obtain ⟨j, q1, q2⟩ := hnd; exact ⟨j, Nat.zero_le j, q1, q2⟩)⟩
  rintro k2 ls H locs hh2 ⟨i9, hk2, hl, hH, hz, hLo, rfl, I_i9, hJ⟩ ih2
  obtain ⟨j8, hj1, hj2, hj3⟩ := id hJ
  refine lv_aload_n hx hb d_Mo_numberOf_2 rfl (lv_at hl 0 rfl) ?_
  refine hm_get (ci := 9) (v := .ref (A 14)) (C := R_Mo) (T := F_Mo) (N := 41) hx hb hts ig_Mo hown hK hH F_m9 rfl 24 (by decide) (hts _ mw_680) (fun _ h9 => h9) rfl d_Mo_numberOf_3 ?_
  refine lv_iload_n hx hb d_Mo_numberOf_6 rfl (lv_at hl 2 rfl) ?_
  refine hm_iald hx hb hK hH 2 F_A14 rfl (iIn (by omega) (by omega)) d_Mo_numberOf_7 ?_
  refine lv_topi (fun v_2 e_3 => ?_)
  refine lv_iload_n hx hb d_Mo_numberOf_8 rfl (lv_at hl 1 rfl) ?_
  refine lv_icmp_eq (tgt := 18) hx hb d_Mo_numberOf_9 (by decide) (fun hc_4 => ?_) (fun hc_4 => ?_)
  · skip
    have ic_5 : v_2.toInt = d9.toInt := congrArg Int32.toInt hc_4
    refine lv_iload_n hx hb d_Mo_numberOf_18 rfl (lv_at hl 2 rfl) ?_
    refine lv_iconst (v := 1) hx hb d_Mo_numberOf_19 (by decide) ?_
    refine lv_iadd hx hb d_Mo_numberOf_20 ?_
    refine lv_topi (fun v_6 e_7 => ?_)
    exact W.iret (v := v_6) hx hb hr (fun t9 ht hW => ⟨v_6, h, rfl, rfl, by rw [ht]; exact hH, by rw [ht]; exact hz⟩) hLo d_Mo_numberOf_21
  · skip
    have hj5 := nof_s e_3 hc_4 hj3 hj1
    obtain ⟨j_8, e_9⟩ : ∃ z : Int32, z = i9 + 1 := ⟨_, rfl⟩
    refine lv_iinc (v := j_8) (lv' := [(2, .int j_8), (0, .ref m9), (1, .int d9)]) hx hb d_Mo_numberOf_12 hl (k := 2) rfl e_9.symm (by decide) rfl (fun ls hl => ?_)
    refine lv_goto (tgt := 2) hx hb d_Mo_numberOf_15 (by decide) ?_
    have is_10 : j_8.toInt = i9.toInt + 1 := by rw [e_9]; exact iAddK 1 rfl (by omega) (by omega)
    exact ih2 (mU j_8) ls _ locs _ (by rw [hk2]; exact mU_lt (by omega)) ⟨j_8, rfl, (lv_sub hl [1, 2, 0] rfl), hH, hz, hLo, rfl, (by omega), ⟨j8, by omega, hj2, hj3⟩⟩

set_option maxHeartbeats 4000000 in
set_option maxRecDepth 100000 in
theorem m_ltrs (l : Launch) (D : va_G) (t : Nat → ClassId) (G : hG) (ak av : Nat → Nat) (h : hM) (τ : tM) (n : Nat) (m9 : Nat) (p9 : Int32) (a9 : Int32) (b9 : Int32) (c9 : Int32) (d9 : Int32) (e8 : Int32) (A : Nat → Nat) (th sd lo le wr ma nu di pl se wg op : Int32) (hn : n ≤ 200) (hT : TI τ t n h) (T_m9 : τ m9 = (20, 0)) (F_m9 : h m9 = some (.inr (9, mf A n th sd lo le wr ma nu di pl se wg op))) (hA : ∀ i, i < 28 → τ (A i) = (30, i)) (hmk : mOk sd lo ma se op) (hp0 : 0 ≤ p9.toInt) (hp1 : p9.toInt + 5 ≤ 163840) : Met l y_Mo_letters (.code y_Mo_letters b_Mo_letters 7 none :: lw_g) { frames := 0, cells := 0, slots := 0, locals := 0 } (hP (kE D t G ak av) D vwCl G h [.ref m9, .int p9, .int a9, .int b9, .int c9, .int d9, .int e8]) (hQv D vwCl G (fun h' => TI τ t n h' ∧ kf τ [(30, 13)] [] h h')) 0 0 G.P := by
  refine Met.ofW (cc := b_Mo_letters) (maxL := 7) (ret := none) (by decide) rfl ?_
  intro p e s m args below meth c s₁ Bd hml hv
  obtain ⟨ha, hE, hH⟩ := hv
  have hx := Bd.exec
  have hb := Bd.bytes
  have hr := Bd.returns
  have hts : ∀ w ∈ lw_g, w.before args s = true := fun w hw => atoms_spec (ws := (.code y_Mo_letters b_Mo_letters 7 none :: lw_g)) Bd.pre w (List.mem_cons_of_mem _ hw)
  have hown : s.vm.findClass R_Mo = some m.cls := findClass_of_methodNamed Bd.named
  have hlocks := Bd.notSynchronized
  have hK := hE.1
  have hH0 := hH
  have hLo : hLc G.P [] := hLc_nil
  have hz : s.heap.size ≤ s.heap.size := Nat.le_refl _
  have hl := lv_entry [.ref m9, .int p9, .int a9, .int b9, .int c9, .int d9, .int e8] (n := 7) (Nat.le_of_ble_eq_true rfl)
  rw [show entryFrame m args 7 = F0 m 0 ((lg_sl [.ref m9, .int p9, .int a9, .int b9, .int c9, .int d9, .int e8] ++ List.replicate (7 - (lg_sl [.ref m9, .int p9, .int a9, .int b9, .int c9, .int d9, .int e8]).length) Slot.unset).toArray) [] from (by rw [ha]; exact lg_entry_eq m [.ref m9, .int p9, .int a9, .int b9, .int c9, .int d9, .int e8] 7)]
  generalize (lg_sl [.ref m9, .int p9, .int a9, .int b9, .int c9, .int d9, .int e8] ++ List.replicate (7 - (lg_sl [.ref m9, .int p9, .int a9, .int b9, .int c9, .int d9, .int e8]).length) Slot.unset).toArray = ls at hl ⊢
  have hl : lv_has ls 7 [(0, .ref m9), (1, .int p9), (2, .int a9), (3, .int b9), (4, .int c9), (5, .int d9), (6, .int e8)] := hl
  have hkf : kf τ [(30, 13)] [] h h := kf_rf
  obtain ⟨hsd, hlo, hma, hse, hop⟩ := id hmk
  have inI : (nI n).toInt = n := nI_toInt (by omega)
  refine lv_aload_n hx hb d_Mo_letters_0 rfl (lv_at hl 0 rfl) ?_
  refine hm_get (ci := 9) (v := .ref (A 13)) (C := R_Mo) (T := F_Mo) (N := 41) hx hb hts ig_Mo hown hK hH F_m9 rfl 21 (by decide) (hts _ mw_646) (fun _ h9 => h9) rfl d_Mo_letters_1 ?_
  refine lv_iload_n hx hb d_Mo_letters_4 rfl (lv_at hl 1 rfl) ?_
  refine lv_iload_n hx hb d_Mo_letters_5 rfl (lv_at hl 2 rfl) ?_
  refine lv_i2b (v := a9.toInt8.toInt32) hx hb d_Mo_letters_6 rfl ?_
  obtain ⟨g_1, F_A13, c_2⟩ := TI_arB (L := 163840) hT (hA 13 (by decide)) rfl rfl
  refine hm_bast hx hb hK hH hLo 0 F_A13 rfl (iIn (by omega) (by omega)) d_Mo_letters_7 (fun H_3 locs hH z_4 hLo => ?_)
  have hz : s.heap.size ≤ H_3.size := by rw [z_4]; exact hz
  obtain ⟨h_5, e_6⟩ : ∃ z, z = hu h (A 13) (.inl ((t 0), 163840, .inl (upd g_1 p9.toNatClampNeg (vp_nar .byte a9.toInt8.toInt32)))) := ⟨_, rfl⟩
  have hH : hm D vwCl G h_5 H_3 := by rw [e_6]; exact hH
  have F_m9 : h_5 m9 = some (.inr (9, mf A n th sd lo le wr ma nu di pl se wg op)) := by rw [e_6, hu_n (tne T_m9 (hA 13 (by decide)) (by decide))]; exact F_m9
  have F_A13 : h_5 (A 13) = some (.inl ((t 0), 163840, .inl (upd g_1 p9.toNatClampNeg (vp_nar .byte a9.toInt8.toInt32)))) := by rw [e_6]; exact hu_s _ _ _
  have hT : TI τ t n h_5 := by rw [e_6]; exact TI_put hT (hA 13 (by decide)) (by decide) (ok_B rfl rfl (sb_fitU c_2 (fitNar _)))
  have hkf : kf τ [(30, 13)] [] h h_5 := by rw [e_6]; exact kf_put hkf (hA 13 (by decide)) List.mem_cons_self
  obtain ⟨g_7, e_8⟩ : ∃ z, z = upd g_1 p9.toNatClampNeg (vp_nar .byte a9.toInt8.toInt32) := ⟨_, rfl⟩
  rw [← e_8] at F_A13
  have c_9 : sb_Fit g_7 := by rw [e_8]; exact (sb_fitU c_2 (fitNar _))
  refine lv_aload_n hx hb d_Mo_letters_8 rfl (lv_at hl 0 rfl) ?_
  refine hm_get (ci := 9) (v := .ref (A 13)) (C := R_Mo) (T := F_Mo) (N := 41) hx hb hts ig_Mo hown hK hH F_m9 rfl 21 (by decide) (hts _ mw_646) (fun _ h9 => h9) rfl d_Mo_letters_9 ?_
  refine lv_iload_n hx hb d_Mo_letters_12 rfl (lv_at hl 1 rfl) ?_
  refine lv_iconst (v := 1) hx hb d_Mo_letters_13 (by decide) ?_
  refine lv_iadd hx hb d_Mo_letters_14 ?_
  refine lv_topi (fun v_10 e_11 => ?_)
  refine lv_iload_n hx hb d_Mo_letters_15 rfl (lv_at hl 3 rfl) ?_
  refine lv_i2b (v := b9.toInt8.toInt32) hx hb d_Mo_letters_16 rfl ?_
  have is_12 : v_10.toInt = p9.toInt + 1 := by rw [e_11]; exact iAddK 1 rfl (by omega) (by omega)
  refine hm_bast hx hb hK hH hLo 0 F_A13 rfl (iIn (by omega) (by omega)) d_Mo_letters_17 (fun H_13 locs hH z_14 hLo => ?_)
  have hz : s.heap.size ≤ H_13.size := by rw [z_14]; exact hz
  obtain ⟨h_15, e_16⟩ : ∃ z, z = hu h_5 (A 13) (.inl ((t 0), 163840, .inl (upd g_7 v_10.toNatClampNeg (vp_nar .byte b9.toInt8.toInt32)))) := ⟨_, rfl⟩
  have hH : hm D vwCl G h_15 H_13 := by rw [e_16]; exact hH
  have F_m9 : h_15 m9 = some (.inr (9, mf A n th sd lo le wr ma nu di pl se wg op)) := by rw [e_16, hu_n (tne T_m9 (hA 13 (by decide)) (by decide))]; exact F_m9
  have F_A13 : h_15 (A 13) = some (.inl ((t 0), 163840, .inl (upd g_7 v_10.toNatClampNeg (vp_nar .byte b9.toInt8.toInt32)))) := by rw [e_16]; exact hu_s _ _ _
  have hT : TI τ t n h_15 := by rw [e_16]; exact TI_put hT (hA 13 (by decide)) (by decide) (ok_B rfl rfl (sb_fitU c_9 (fitNar _)))
  have hkf : kf τ [(30, 13)] [] h h_15 := by rw [e_16]; exact kf_put hkf (hA 13 (by decide)) List.mem_cons_self
  obtain ⟨g_17, e_18⟩ : ∃ z, z = upd g_7 v_10.toNatClampNeg (vp_nar .byte b9.toInt8.toInt32) := ⟨_, rfl⟩
  rw [← e_18] at F_A13
  have c_19 : sb_Fit g_17 := by rw [e_18]; exact (sb_fitU c_9 (fitNar _))
  refine lv_aload_n hx hb d_Mo_letters_18 rfl (lv_at hl 0 rfl) ?_
  refine hm_get (ci := 9) (v := .ref (A 13)) (C := R_Mo) (T := F_Mo) (N := 41) hx hb hts ig_Mo hown hK hH F_m9 rfl 21 (by decide) (hts _ mw_646) (fun _ h9 => h9) rfl d_Mo_letters_19 ?_
  refine lv_iload_n hx hb d_Mo_letters_22 rfl (lv_at hl 1 rfl) ?_
  refine lv_iconst (v := 2) hx hb d_Mo_letters_23 (by decide) ?_
  refine lv_iadd hx hb d_Mo_letters_24 ?_
  refine lv_topi (fun v_20 e_21 => ?_)
  refine lv_iload hx hb d_Mo_letters_25 (lv_at hl 4 rfl) ?_
  refine lv_i2b (v := c9.toInt8.toInt32) hx hb d_Mo_letters_27 rfl ?_
  have is_22 : v_20.toInt = p9.toInt + 2 := by rw [e_21]; exact iAddK 2 rfl (by omega) (by omega)
  refine hm_bast hx hb hK hH hLo 0 F_A13 rfl (iIn (by omega) (by omega)) d_Mo_letters_28 (fun H_23 locs hH z_24 hLo => ?_)
  have hz : s.heap.size ≤ H_23.size := by rw [z_24]; exact hz
  obtain ⟨h_25, e_26⟩ : ∃ z, z = hu h_15 (A 13) (.inl ((t 0), 163840, .inl (upd g_17 v_20.toNatClampNeg (vp_nar .byte c9.toInt8.toInt32)))) := ⟨_, rfl⟩
  have hH : hm D vwCl G h_25 H_23 := by rw [e_26]; exact hH
  have F_m9 : h_25 m9 = some (.inr (9, mf A n th sd lo le wr ma nu di pl se wg op)) := by rw [e_26, hu_n (tne T_m9 (hA 13 (by decide)) (by decide))]; exact F_m9
  have F_A13 : h_25 (A 13) = some (.inl ((t 0), 163840, .inl (upd g_17 v_20.toNatClampNeg (vp_nar .byte c9.toInt8.toInt32)))) := by rw [e_26]; exact hu_s _ _ _
  have hT : TI τ t n h_25 := by rw [e_26]; exact TI_put hT (hA 13 (by decide)) (by decide) (ok_B rfl rfl (sb_fitU c_19 (fitNar _)))
  have hkf : kf τ [(30, 13)] [] h h_25 := by rw [e_26]; exact kf_put hkf (hA 13 (by decide)) List.mem_cons_self
  obtain ⟨g_27, e_28⟩ : ∃ z, z = upd g_17 v_20.toNatClampNeg (vp_nar .byte c9.toInt8.toInt32) := ⟨_, rfl⟩
  rw [← e_28] at F_A13
  have c_29 : sb_Fit g_27 := by rw [e_28]; exact (sb_fitU c_19 (fitNar _))
  refine lv_aload_n hx hb d_Mo_letters_29 rfl (lv_at hl 0 rfl) ?_
  refine hm_get (ci := 9) (v := .ref (A 13)) (C := R_Mo) (T := F_Mo) (N := 41) hx hb hts ig_Mo hown hK hH F_m9 rfl 21 (by decide) (hts _ mw_646) (fun _ h9 => h9) rfl d_Mo_letters_30 ?_
  refine lv_iload_n hx hb d_Mo_letters_33 rfl (lv_at hl 1 rfl) ?_
  refine lv_iconst (v := 3) hx hb d_Mo_letters_34 (by decide) ?_
  refine lv_iadd hx hb d_Mo_letters_35 ?_
  refine lv_topi (fun v_30 e_31 => ?_)
  refine lv_iload hx hb d_Mo_letters_36 (lv_at hl 5 rfl) ?_
  refine lv_i2b (v := d9.toInt8.toInt32) hx hb d_Mo_letters_38 rfl ?_
  have is_32 : v_30.toInt = p9.toInt + 3 := by rw [e_31]; exact iAddK 3 rfl (by omega) (by omega)
  refine hm_bast hx hb hK hH hLo 0 F_A13 rfl (iIn (by omega) (by omega)) d_Mo_letters_39 (fun H_33 locs hH z_34 hLo => ?_)
  have hz : s.heap.size ≤ H_33.size := by rw [z_34]; exact hz
  obtain ⟨h_35, e_36⟩ : ∃ z, z = hu h_25 (A 13) (.inl ((t 0), 163840, .inl (upd g_27 v_30.toNatClampNeg (vp_nar .byte d9.toInt8.toInt32)))) := ⟨_, rfl⟩
  have hH : hm D vwCl G h_35 H_33 := by rw [e_36]; exact hH
  have F_m9 : h_35 m9 = some (.inr (9, mf A n th sd lo le wr ma nu di pl se wg op)) := by rw [e_36, hu_n (tne T_m9 (hA 13 (by decide)) (by decide))]; exact F_m9
  have F_A13 : h_35 (A 13) = some (.inl ((t 0), 163840, .inl (upd g_27 v_30.toNatClampNeg (vp_nar .byte d9.toInt8.toInt32)))) := by rw [e_36]; exact hu_s _ _ _
  have hT : TI τ t n h_35 := by rw [e_36]; exact TI_put hT (hA 13 (by decide)) (by decide) (ok_B rfl rfl (sb_fitU c_29 (fitNar _)))
  have hkf : kf τ [(30, 13)] [] h h_35 := by rw [e_36]; exact kf_put hkf (hA 13 (by decide)) List.mem_cons_self
  obtain ⟨g_37, e_38⟩ : ∃ z, z = upd g_27 v_30.toNatClampNeg (vp_nar .byte d9.toInt8.toInt32) := ⟨_, rfl⟩
  rw [← e_38] at F_A13
  have c_39 : sb_Fit g_37 := by rw [e_38]; exact (sb_fitU c_29 (fitNar _))
  refine lv_aload_n hx hb d_Mo_letters_40 rfl (lv_at hl 0 rfl) ?_
  refine hm_get (ci := 9) (v := .ref (A 13)) (C := R_Mo) (T := F_Mo) (N := 41) hx hb hts ig_Mo hown hK hH F_m9 rfl 21 (by decide) (hts _ mw_646) (fun _ h9 => h9) rfl d_Mo_letters_41 ?_
  refine lv_iload_n hx hb d_Mo_letters_44 rfl (lv_at hl 1 rfl) ?_
  refine lv_iconst (v := 4) hx hb d_Mo_letters_45 (by decide) ?_
  refine lv_iadd hx hb d_Mo_letters_46 ?_
  refine lv_topi (fun v_40 e_41 => ?_)
  refine lv_iload hx hb d_Mo_letters_47 (lv_at hl 6 rfl) ?_
  refine lv_i2b (v := e8.toInt8.toInt32) hx hb d_Mo_letters_49 rfl ?_
  have is_42 : v_40.toInt = p9.toInt + 4 := by rw [e_41]; exact iAddK 4 rfl (by omega) (by omega)
  refine hm_bast hx hb hK hH hLo 0 F_A13 rfl (iIn (by omega) (by omega)) d_Mo_letters_50 (fun H_43 locs hH z_44 hLo => ?_)
  have hz : s.heap.size ≤ H_43.size := by rw [z_44]; exact hz
  obtain ⟨h_45, e_46⟩ : ∃ z, z = hu h_35 (A 13) (.inl ((t 0), 163840, .inl (upd g_37 v_40.toNatClampNeg (vp_nar .byte e8.toInt8.toInt32)))) := ⟨_, rfl⟩
  have hH : hm D vwCl G h_45 H_43 := by rw [e_46]; exact hH
  have F_m9 : h_45 m9 = some (.inr (9, mf A n th sd lo le wr ma nu di pl se wg op)) := by rw [e_46, hu_n (tne T_m9 (hA 13 (by decide)) (by decide))]; exact F_m9
  have F_A13 : h_45 (A 13) = some (.inl ((t 0), 163840, .inl (upd g_37 v_40.toNatClampNeg (vp_nar .byte e8.toInt8.toInt32)))) := by rw [e_46]; exact hu_s _ _ _
  have hT : TI τ t n h_45 := by rw [e_46]; exact TI_put hT (hA 13 (by decide)) (by decide) (ok_B rfl rfl (sb_fitU c_39 (fitNar _)))
  have hkf : kf τ [(30, 13)] [] h h_45 := by rw [e_46]; exact kf_put hkf (hA 13 (by decide)) List.mem_cons_self
  obtain ⟨g_47, e_48⟩ : ∃ z, z = upd g_37 v_40.toNatClampNeg (vp_nar .byte e8.toInt8.toInt32) := ⟨_, rfl⟩
  rw [← e_48] at F_A13
  have c_49 : sb_Fit g_47 := by rw [e_48]; exact (sb_fitU c_39 (fitNar _))
  exact W.vret hx hb hr (fun t9 ht hW => ⟨h_45, rfl, ⟨hT, hkf⟩, by rw [ht]; exact hH, by rw [ht]; exact hz⟩) hLo d_Mo_letters_51

set_option maxHeartbeats 4000000 in
set_option maxRecDepth 100000 in
theorem m_measure (l : Launch) (D : va_G) (t : Nat → ClassId) (G : hG) (ak av : Nat → Nat) (h : hM) (τ : tM) (n : Nat) (m9 : Nat) (b9 : Int32) (A : Nat → Nat) (th sd lo le wr ma nu di pl se wg op : Int32) (hn : n ≤ 200) (hT : TI τ t n h) (T_m9 : τ m9 = (20, 0)) (F_m9 : h m9 = some (.inr (9, mf A n th sd lo le wr ma nu di pl se wg op))) (hA : ∀ i, i < 28 → τ (A i) = (30, i)) (hmk : mOk sd lo ma se op) (hTm : treeM (aI h (A 4)) (aI h (A 6)) ma.toInt.toNat) (hb0 : 0 ≤ b9.toInt) (hb1 : b9.toInt ≤ 200) : Met l y_Mo_measure (.code y_Mo_measure b_Mo_measure 5 (some .int) :: lw_g) { frames := 6, cells := 0, slots := 0, locals := 147 } (hP (kE D t G ak av) D vwCl G h [.ref m9, .int b9]) (hQi D vwCl G (fun r h' => TI τ t n h' ∧ kf τ [(30, 14), (30, 15), (30, 16), (30, 13)] [m9] h h' ∧ (∃ (di' : Int32), h' m9 = some (.inr (9, mf A n th sd lo le wr ma nu di' pl se wg op)) ∧ mOk sd lo ma se op ∧ (tabQ (aI h' (A 4)) (aI h' (A 6)) (aI h' (A 14)) ma.toInt.toNat di'.toInt.toNat ∧ atQ (aI h' (A 14)) (aI h' (A 15)) b9.toInt di'.toInt.toNat di'.toInt.toNat ∧ r.toInt = 21 + di'.toInt)))) 0 0 G.P := by
  refine Met.ofW (cc := b_Mo_measure) (maxL := 5) (ret := (some .int)) (by decide) rfl ?_
  intro p e s m args below meth c s₁ Bd hml hv
  obtain ⟨ha, hE, hH⟩ := hv
  have hx := Bd.exec
  have hb := Bd.bytes
  have hr := Bd.returns
  have hts : ∀ w ∈ lw_g, w.before args s = true := fun w hw => atoms_spec (ws := (.code y_Mo_measure b_Mo_measure 5 (some .int) :: lw_g)) Bd.pre w (List.mem_cons_of_mem _ hw)
  have hown : s.vm.findClass R_Mo = some m.cls := findClass_of_methodNamed Bd.named
  have hlocks := Bd.notSynchronized
  have hK := hE.1
  have hH0 := hH
  have hLo : hLc G.P [] := hLc_nil
  have hz : s.heap.size ≤ s.heap.size := Nat.le_refl _
  have hl := lv_entry [.ref m9, .int b9] (n := 5) (Nat.le_of_ble_eq_true rfl)
  rw [show entryFrame m args 5 = F0 m 0 ((lg_sl [.ref m9, .int b9] ++ List.replicate (5 - (lg_sl [.ref m9, .int b9]).length) Slot.unset).toArray) [] from (by rw [ha]; exact lg_entry_eq m [.ref m9, .int b9] 5)]
  generalize (lg_sl [.ref m9, .int b9] ++ List.replicate (5 - (lg_sl [.ref m9, .int b9]).length) Slot.unset).toArray = ls at hl ⊢
  have hl : lv_has ls 5 [(0, .ref m9), (1, .int b9)] := hl
  have hkf : kf τ [(30, 14), (30, 15), (30, 16), (30, 13)] [m9] h h := kf_rf
  obtain ⟨hsd, hlo, hma, hse, hop⟩ := id hmk
  have inI : (nI n).toInt = n := nI_toInt (by omega)
  obtain ⟨g_1, F_A4, c_2⟩ := TI_arZ (L := 700) hT (hA 4 (by decide)) rfl rfl
  obtain ⟨g_3, F_A5, c_4⟩ := TI_arZ (L := 700) hT (hA 5 (by decide)) rfl rfl
  obtain ⟨g_5, F_A6⟩ := TI_arI (L := 700) hT (hA 6 (by decide)) rfl rfl
  obtain ⟨g_6, F_A7⟩ := TI_arJ (L := 700) hT (hA 7 (by decide)) rfl rfl
  rw [aI_of F_A4, aI_of F_A6] at hTm
  refine lv_aload_n hx hb d_Mo_measure_0 rfl (lv_at hl 0 rfl) ?_
  refine hm_callv (va_runV (As := []) (b := m9) (rest := []) ⟨hx, hb, hml, hown, hts⟩ (m_tables l D t G ak av h τ n m9 A th sd lo le wr ma nu di pl se wg op   hn hT T_m9  F_m9 hA ⟨hsd, hlo, (by omega), ⟨by omega, by omega⟩, ⟨by omega, by omega⟩⟩ (by rw [aI_of F_A4, aI_of F_A6]; exact hTm)) ⟨cw9B 0 hts mw_681 mw_682 mw_579 rfl rfl (by decide +kernel) ⟨Nat.le_of_ble_eq_true rfl, Nat.le_of_ble_eq_true rfl⟩, hts _ mw_683, hts _ mw_684⟩ (hP_V (q := (R_Mo, F_Mo, 41)) kE_ok hE hK hH F_m9 rfl) rfl rfl hl.1 rfl (lv_room (Nat.le_of_ble_eq_true rfl)) d_Mo_measure_1 ⟨Nat.le_of_ble_eq_true rfl, Nat.le_of_ble_eq_true rfl⟩) hLo (fun h_7 H_8 locs hp_10 hH z_9 hLo => ?_)
  have hz : s.heap.size ≤ H_8.size := Nat.le_trans hz z_9
  have hT0 := hT
  obtain ⟨hT, kf_12, xp_11⟩ := hp_10
  have F_A4 : h_7 (A 4) = some (.inl ((t 1), 700, .inl g_1)) := kf_at kf_12 (hA 4 (by decide)) (by decide) (tncF (by decide) tn0) (nmc (tne (hA 4 (by decide)) T_m9 (by decide)) nm0) F_A4
  have F_A5 : h_7 (A 5) = some (.inl ((t 1), 700, .inl g_3)) := kf_at kf_12 (hA 5 (by decide)) (by decide) (tncF (by decide) tn0) (nmc (tne (hA 5 (by decide)) T_m9 (by decide)) nm0) F_A5
  have F_A6 : h_7 (A 6) = some (.inl ((t 2), 700, .inl g_5)) := kf_at kf_12 (hA 6 (by decide)) (by decide) (tncF (by decide) tn0) (nmc (tne (hA 6 (by decide)) T_m9 (by decide)) nm0) F_A6
  have F_A7 : h_7 (A 7) = some (.inl ((t 3), 700, .inr (.inl g_6))) := kf_at kf_12 (hA 7 (by decide)) (by decide) (tncF (by decide) tn0) (nmc (tne (hA 7 (by decide)) T_m9 (by decide)) nm0) F_A7
  have hkf : kf τ [(30, 14), (30, 15), (30, 16), (30, 13)] [m9] h h_7 := kf_tr hkf kf_12 (List.forall_mem_cons.mpr ⟨List.mem_cons_self, List.forall_mem_nil _⟩) (List.forall_mem_cons.mpr ⟨Or.inl (by simp), List.forall_mem_nil _⟩)
  obtain ⟨di_13, F_m9, mk_14, xq_15⟩ := xp_11
  obtain ⟨m_16, m_17, m_18, m_19, m_20⟩ := mk_14
  obtain ⟨g_21, F_A14⟩ := TI_arI (L := 30) hT (hA 14 (by decide)) rfl rfl
  rw [aI_of F_A4, aI_of F_A6, aI_of F_A14] at xq_15
  have hQ := xq_15
  have hQ1 : 1 ≤ di_13.toInt := by have hq := hQ.1; omega
  have hQ2 : di_13.toInt ≤ 30 := by have hq := hQ.2.1; omega
  refine lv_iload_n hx hb d_Mo_measure_4 rfl (lv_at hl 1 rfl) ?_
  refine lv_bipush (v := 20) hx hb d_Mo_measure_5 (by decide) ?_
  refine lv_iadd hx hb d_Mo_measure_7 ?_
  refine lv_topi (fun v_22 e_23 => ?_)
  refine lv_istore_n (lv' := [(2, .int v_22), (0, .ref m9), (1, .int b9)]) hx hb d_Mo_measure_8 rfl hl (by decide) rfl (fun ls hl => ?_)
  refine lv_iconst (v := 0) hx hb d_Mo_measure_9 (by decide) ?_
  refine lv_istore_n (lv' := [(3, .int 0), (2, .int v_22), (0, .ref m9), (1, .int b9)]) hx hb d_Mo_measure_10 rfl hl (by decide) rfl (fun ls hl => ?_)
  obtain ⟨g_24, F_A15⟩ := TI_arI (L := 700) hT (hA 15 (by decide)) rfl rfl
  have is_25 : v_22.toInt = b9.toInt + 20 := by rw [e_23]; exact iAddK 20 rfl (by omega) (by omega)
  refine hm_loop (fun k11 ls H locs hh11 => ∃ (s9 : Int32) (i9 : Int32) (at9 : Nat → Int32), k11 = mU i9 ∧ lv_has ls 5 [(0, .ref m9), (1, .int b9), (2, .int s9), (3, .int i9)] ∧ hm D vwCl G hh11 H ∧ s.heap.size ≤ H.size ∧ hLc G.P locs ∧ hh11 m9 = some (.inr (9, mf A n th sd lo le wr ma nu di_13 pl se wg op)) ∧ hh11 (A 4) = some (.inl ((t 1), 700, .inl g_1)) ∧ hh11 (A 5) = some (.inl ((t 1), 700, .inl g_3)) ∧ hh11 (A 6) = some (.inl ((t 2), 700, .inl g_5)) ∧ hh11 (A 7) = some (.inl ((t 3), 700, .inr (.inl g_6))) ∧ hh11 (A 14) = some (.inl ((t 2), 30, .inl g_21)) ∧ (TI τ t n hh11) ∧ (kf τ [(30, 14), (30, 15), (30, 16), (30, 13)] [m9] h hh11) ∧ (hh11 (A 15) = some (.inl ((t 2), 700, .inl at9))) ∧ (0 ≤ i9.toInt ∧ i9.toInt ≤ di_13.toInt ∧ s9.toInt = b9.toInt + 20 + i9.toInt) ∧ (atQ g_21 at9 b9.toInt di_13.toInt.toNat i9.toInt.toNat)) ?_ (hh := h_7) ⟨v_22, 0, g_24, rfl, (lv_sub hl [2, 3, 1, 0] rfl), hH, hz, hLo, F_m9, F_A4, F_A5, F_A6, F_A7, F_A14, hT, hkf, F_A15, ⟨by decide, by rw [(show (0 : Int32).toInt = 0 from rfl)]; omega, by rw [(show (0 : Int32).toInt = 0 from rfl)]; omega⟩, (fun j hj => absurd (show j < 0 from hj) (Nat.not_lt_zero j))⟩
  rintro k11 ls H locs hh11 ⟨s9, i9, at9, hk11, hl, hH, hz, hLo, F_m9, F_A4, F_A5, F_A6, F_A7, F_A14, hT, hkf, F_A15, I_i9, hAt⟩ ih11
  refine lv_iload_n hx hb d_Mo_measure_11 rfl (lv_at hl 3 rfl) ?_
  refine lv_aload_n hx hb d_Mo_measure_12 rfl (lv_at hl 0 rfl) ?_
  refine hm_get (ci := 9) (v := .int di_13) (C := R_Mo) (T := F_Mo) (N := 41) hx hb hts ig_Mo hown hK hH F_m9 rfl 22 (by decide) (hts _ mw_679) (fun _ h9 => h9) rfl d_Mo_measure_13 ?_
  refine lv_icmp_ge (tgt := 74) hx hb d_Mo_measure_16 (by decide) (fun hc_26 => ?_) (fun hc_26 => ?_)
  · skip
    have ic_27 : di_13.toInt ≤ i9.toInt := iLe hc_26
    refine lv_iload_n hx hb d_Mo_measure_74 rfl (lv_at hl 2 rfl) ?_
    refine lv_iconst (v := 1) hx hb d_Mo_measure_75 (by decide) ?_
    refine lv_iadd hx hb d_Mo_measure_76 ?_
    refine lv_topi (fun v_28 e_29 => ?_)
    refine lv_iload_n hx hb d_Mo_measure_77 rfl (lv_at hl 1 rfl) ?_
    refine lv_isub hx hb d_Mo_measure_78 ?_
    refine lv_topi (fun v_30 e_31 => ?_)
    have is_32 : v_28.toInt = s9.toInt + 1 := by rw [e_29]; exact iAddK 1 rfl (by omega) (by omega)
    have is_33 : v_30.toInt = v_28.toInt - b9.toInt := by rw [e_31]; exact iSub (by omega) (by omega)
    exact W.iret (v := v_30) hx hb hr (fun t9 ht hW => ⟨v_30, hh11, rfl, ⟨hT, hkf, ⟨di_13, F_m9, ⟨m_16, m_17, (by omega), ⟨by omega, by omega⟩, ⟨by omega, by omega⟩⟩, ⟨(by rw [aI_of F_A4, aI_of F_A6, aI_of F_A14]; exact hQ), (by rw [aI_of F_A14, aI_of F_A15]; have hq := hAt; rw [show i9.toInt.toNat = di_13.toInt.toNat by omega] at hq; exact hq), by omega⟩⟩⟩, by rw [ht]; exact hH, by rw [ht]; exact hz⟩) hLo d_Mo_measure_79
  · skip
    have ic_34 : i9.toInt < di_13.toInt := iNe hc_26
    have iu_35 : di_13.toInt < 2147483648 := iUp _
    refine lv_aload_n hx hb d_Mo_measure_19 rfl (lv_at hl 0 rfl) ?_
    refine hm_get (ci := 9) (v := .ref (A 14)) (C := R_Mo) (T := F_Mo) (N := 41) hx hb hts ig_Mo hown hK hH F_m9 rfl 24 (by decide) (hts _ mw_680) (fun _ h9 => h9) rfl d_Mo_measure_20 ?_
    refine lv_iload_n hx hb d_Mo_measure_23 rfl (lv_at hl 3 rfl) ?_
    refine hm_iald hx hb hK hH 2 F_A14 rfl (iIn (by omega) (by omega)) d_Mo_measure_24 ?_
    refine lv_topi (fun v_36 e_37 => ?_)
    obtain ⟨d1, d2, d3, d4⟩ := tab_d hQ rfl hma (by omega) (toN_lt (by omega) (by omega)) e_37
    refine lv_istore (lv' := [(4, .int v_36), (0, .ref m9), (1, .int b9), (2, .int s9), (3, .int i9)]) hx hb d_Mo_measure_25 hl (by decide) rfl (fun ls hl => ?_)
    refine lv_aload_n hx hb d_Mo_measure_27 rfl (lv_at hl 1 rfl) ?_
    refine hm_get (ci := 9) (v := .ref (A 15)) (C := R_Mo) (T := F_Mo) (N := 41) hx hb hts ig_Mo hown hK hH F_m9 rfl 25 (by decide) (hts _ mw_670) (fun _ h9 => h9) rfl d_Mo_measure_28 ?_
    refine lv_iload hx hb d_Mo_measure_31 (lv_at hl 0 rfl) ?_
    refine lv_iload_n hx hb d_Mo_measure_33 rfl (lv_at hl 3 rfl) ?_
    refine hm_iast hx hb hK hH hLo 2 F_A15 rfl (iIn (by omega) (by omega)) d_Mo_measure_34 (fun H_38 locs hH z_39 hLo => ?_)
    have hz : s.heap.size ≤ H_38.size := by rw [z_39]; exact hz
    obtain ⟨h_40, e_41⟩ : ∃ z, z = hu hh11 (A 15) (.inl ((t 2), 700, .inl (upd at9 v_36.toNatClampNeg s9))) := ⟨_, rfl⟩
    have hH : hm D vwCl G h_40 H_38 := by rw [e_41]; exact hH
    have F_m9 : h_40 m9 = some (.inr (9, mf A n th sd lo le wr ma nu di_13 pl se wg op)) := by rw [e_41, hu_n (tne T_m9 (hA 15 (by decide)) (by decide))]; exact F_m9
    have F_A4 : h_40 (A 4) = some (.inl ((t 1), 700, .inl g_1)) := by rw [e_41, hu_n (tneF (hA 4 (by decide)) (hA 15 (by decide)) (by decide))]; exact F_A4
    have F_A5 : h_40 (A 5) = some (.inl ((t 1), 700, .inl g_3)) := by rw [e_41, hu_n (tneF (hA 5 (by decide)) (hA 15 (by decide)) (by decide))]; exact F_A5
    have F_A6 : h_40 (A 6) = some (.inl ((t 2), 700, .inl g_5)) := by rw [e_41, hu_n (tneF (hA 6 (by decide)) (hA 15 (by decide)) (by decide))]; exact F_A6
    have F_A7 : h_40 (A 7) = some (.inl ((t 3), 700, .inr (.inl g_6))) := by rw [e_41, hu_n (tneF (hA 7 (by decide)) (hA 15 (by decide)) (by decide))]; exact F_A7
    have F_A14 : h_40 (A 14) = some (.inl ((t 2), 30, .inl g_21)) := by rw [e_41, hu_n (tneF (hA 14 (by decide)) (hA 15 (by decide)) (by decide))]; exact F_A14
    have F_A15 : h_40 (A 15) = some (.inl ((t 2), 700, .inl (upd at9 v_36.toNatClampNeg s9))) := by rw [e_41]; exact hu_s _ _ _
    have hT : TI τ t n h_40 := by rw [e_41]; exact TI_put hT (hA 15 (by decide)) (by decide) (ok_I rfl rfl)
    have hkf : kf τ [(30, 14), (30, 15), (30, 16), (30, 13)] [m9] h h_40 := by rw [e_41]; exact kf_put hkf (hA 15 (by decide)) (List.mem_cons_of_mem _ List.mem_cons_self)
    obtain ⟨g_42, e_43⟩ : ∃ z, z = upd at9 v_36.toNatClampNeg s9 := ⟨_, rfl⟩
    rw [← e_43] at F_A15
    refine lv_aload_n hx hb d_Mo_measure_35 rfl (lv_at hl 1 rfl) ?_
    refine hm_get (ci := 9) (v := .ref (A 16)) (C := R_Mo) (T := F_Mo) (N := 41) hx hb hts ig_Mo hown hK hH F_m9 rfl 26 (by decide) (hts _ mw_669) (fun _ h9 => h9) rfl d_Mo_measure_36 ?_
    refine lv_iload hx hb d_Mo_measure_39 (lv_at hl 0 rfl) ?_
    refine lv_aload_n hx hb d_Mo_measure_41 rfl (lv_at hl 1 rfl) ?_
    refine lv_iload hx hb d_Mo_measure_42 (lv_at hl 0 rfl) ?_
    refine lv_iconst (v := 0) hx hb d_Mo_measure_44 (by decide) ?_
    refine lv_iconst (v := 0) hx hb d_Mo_measure_45 (by decide) ?_
    refine hm_calli (va_runV (As := [.int v_36, .int 0, .int 0]) (b := m9) (rest := [.int v_36, .ref (A 16)]) ⟨hx, hb, hml, hown, hts⟩ (m_along l D t G ak av h_40 τ n m9 v_36 0 (0 : Int32) A th sd lo le wr ma nu di_13 pl se wg op   hn hT T_m9 zb0  F_m9 hA ⟨m_16, m_17, (by omega), ⟨by omega, by omega⟩, ⟨by omega, by omega⟩⟩ (by rw [aI_of F_A4, aI_of F_A6]; exact hTm) d1 d2 (by rw [aI_of F_A4]; exact d3) (fun z => absurd z (by decide))) ⟨cw9B 3 hts mw_685 mw_686 mw_579 rfl rfl (by decide +kernel) ⟨Nat.le_of_ble_eq_true rfl, Nat.le_of_ble_eq_true rfl⟩, hts _ mw_687, hts _ mw_688⟩ (hP_V (q := (R_Mo, F_Mo, 41)) kE_ok hE hK hH F_m9 rfl) rfl rfl hl.1 rfl (lv_room (Nat.le_of_ble_eq_true rfl)) d_Mo_measure_46 ⟨Nat.le_of_ble_eq_true rfl, Nat.le_of_ble_eq_true rfl⟩) hLo (fun r_44 h_45 H_46 locs hp_48 hH z_47 hLo => ?_)
    have hz : s.heap.size ≤ H_46.size := Nat.le_trans hz z_47
    have hT0 := hT
    obtain ⟨hT, kf_50, xp_49⟩ := hp_48
    have F_m9 : h_45 m9 = some (.inr (9, mf A n th sd lo le wr ma nu di_13 pl se wg op)) := kf_at kf_50 T_m9 (by decide) (tnc (by decide) tn0) nm0 F_m9
    have F_A4 : h_45 (A 4) = some (.inl ((t 1), 700, .inl g_1)) := kf_at kf_50 (hA 4 (by decide)) (by decide) (tncF (by decide) tn0) nm0 F_A4
    have F_A5 : h_45 (A 5) = some (.inl ((t 1), 700, .inl g_3)) := kf_at kf_50 (hA 5 (by decide)) (by decide) (tncF (by decide) tn0) nm0 F_A5
    have F_A6 : h_45 (A 6) = some (.inl ((t 2), 700, .inl g_5)) := kf_at kf_50 (hA 6 (by decide)) (by decide) (tncF (by decide) tn0) nm0 F_A6
    have F_A7 : h_45 (A 7) = some (.inl ((t 3), 700, .inr (.inl g_6))) := kf_at kf_50 (hA 7 (by decide)) (by decide) (tncF (by decide) tn0) nm0 F_A7
    have F_A14 : h_45 (A 14) = some (.inl ((t 2), 30, .inl g_21)) := kf_at kf_50 (hA 14 (by decide)) (by decide) (tncF (by decide) tn0) nm0 F_A14
    have F_A15 : h_45 (A 15) = some (.inl ((t 2), 700, .inl g_42)) := kf_at kf_50 (hA 15 (by decide)) (by decide) (tncF (by decide) tn0) nm0 F_A15
    have hkf : kf τ [(30, 14), (30, 15), (30, 16), (30, 13)] [m9] h h_45 := kf_tr hkf kf_50 (List.forall_mem_cons.mpr ⟨(List.mem_cons_of_mem _ (List.mem_cons_of_mem _ (List.mem_cons_of_mem _ List.mem_cons_self))), List.forall_mem_nil _⟩) (List.forall_mem_nil _)
    refine lv_sipush (v := 2047) hx hb d_Mo_measure_49 (by decide) ?_
    refine lv_iadd hx hb d_Mo_measure_52 ?_
    refine lv_topi (fun v_51 e_52 => ?_)
    refine lv_sipush (v := 2048) hx hb d_Mo_measure_53 (by decide) ?_
    refine lv_idiv hx hb d_Mo_measure_56 (by decide) ?_
    refine lv_topi (fun v_53 e_54 => ?_)
    have id_55 : 0 ≤ v_51.toInt → v_53.toInt = v_51.toInt / 2048 := fun h9 => by rw [e_54]; exact i_div (d := 2048) (by decide) h9
    have is_56 : v_51.toInt = r_44.toInt + 2047 := by rw [e_52]; exact iAddK 2047 rfl (by omega) (by omega)
    have idv : v_53.toInt = 1 := by have hq := id_55 (by omega); omega
    obtain ⟨g_57, F_A16⟩ := TI_arI (L := 700) hT (hA 16 (by decide)) rfl rfl
    refine hm_iast hx hb hK hH hLo 2 F_A16 rfl (iIn (by omega) (by omega)) d_Mo_measure_57 (fun H_58 locs hH z_59 hLo => ?_)
    have hz : s.heap.size ≤ H_58.size := by rw [z_59]; exact hz
    obtain ⟨h_60, e_61⟩ : ∃ z, z = hu h_45 (A 16) (.inl ((t 2), 700, .inl (upd g_57 v_36.toNatClampNeg v_53))) := ⟨_, rfl⟩
    have hH : hm D vwCl G h_60 H_58 := by rw [e_61]; exact hH
    have F_m9 : h_60 m9 = some (.inr (9, mf A n th sd lo le wr ma nu di_13 pl se wg op)) := by rw [e_61, hu_n (tne T_m9 (hA 16 (by decide)) (by decide))]; exact F_m9
    have F_A4 : h_60 (A 4) = some (.inl ((t 1), 700, .inl g_1)) := by rw [e_61, hu_n (tneF (hA 4 (by decide)) (hA 16 (by decide)) (by decide))]; exact F_A4
    have F_A5 : h_60 (A 5) = some (.inl ((t 1), 700, .inl g_3)) := by rw [e_61, hu_n (tneF (hA 5 (by decide)) (hA 16 (by decide)) (by decide))]; exact F_A5
    have F_A6 : h_60 (A 6) = some (.inl ((t 2), 700, .inl g_5)) := by rw [e_61, hu_n (tneF (hA 6 (by decide)) (hA 16 (by decide)) (by decide))]; exact F_A6
    have F_A7 : h_60 (A 7) = some (.inl ((t 3), 700, .inr (.inl g_6))) := by rw [e_61, hu_n (tneF (hA 7 (by decide)) (hA 16 (by decide)) (by decide))]; exact F_A7
    have F_A14 : h_60 (A 14) = some (.inl ((t 2), 30, .inl g_21)) := by rw [e_61, hu_n (tneF (hA 14 (by decide)) (hA 16 (by decide)) (by decide))]; exact F_A14
    have F_A15 : h_60 (A 15) = some (.inl ((t 2), 700, .inl g_42)) := by rw [e_61, hu_n (tneF (hA 15 (by decide)) (hA 16 (by decide)) (by decide))]; exact F_A15
    have F_A16 : h_60 (A 16) = some (.inl ((t 2), 700, .inl (upd g_57 v_36.toNatClampNeg v_53))) := by rw [e_61]; exact hu_s _ _ _
    have hT : TI τ t n h_60 := by rw [e_61]; exact TI_put hT (hA 16 (by decide)) (by decide) (ok_I rfl rfl)
    have hkf : kf τ [(30, 14), (30, 15), (30, 16), (30, 13)] [m9] h h_60 := by rw [e_61]; exact kf_put hkf (hA 16 (by decide)) (List.mem_cons_of_mem _ (List.mem_cons_of_mem _ List.mem_cons_self))
    obtain ⟨g_62, e_63⟩ : ∃ z, z = upd g_57 v_36.toNatClampNeg v_53 := ⟨_, rfl⟩
    rw [← e_63] at F_A16
    refine lv_iload_n hx hb d_Mo_measure_58 rfl (lv_at hl 3 rfl) ?_
    refine lv_aload_n hx hb d_Mo_measure_59 rfl (lv_at hl 1 rfl) ?_
    refine hm_get (ci := 9) (v := .ref (A 16)) (C := R_Mo) (T := F_Mo) (N := 41) hx hb hts ig_Mo hown hK hH F_m9 rfl 26 (by decide) (hts _ mw_669) (fun _ h9 => h9) rfl d_Mo_measure_60 ?_
    refine lv_iload hx hb d_Mo_measure_63 (lv_at hl 0 rfl) ?_
    refine hm_iald hx hb hK hH 2 F_A16 rfl (iIn (by omega) (by omega)) d_Mo_measure_65 ?_
    refine lv_topi (fun v_64 e_65 => ?_)
    have ilv : v_64.toInt = 1 := by rw [e_65, e_63, upd_s]; exact idv
    refine lv_iadd hx hb d_Mo_measure_66 ?_
    refine lv_topi (fun v_66 e_67 => ?_)
    refine lv_istore_n (lv' := [(2, .int v_66), (4, .int v_36), (0, .ref m9), (1, .int b9), (3, .int i9)]) hx hb d_Mo_measure_67 rfl hl (by decide) rfl (fun ls hl => ?_)
    obtain ⟨j_68, e_69⟩ : ∃ z : Int32, z = i9 + 1 := ⟨_, rfl⟩
    refine lv_iinc (v := j_68) (lv' := [(3, .int j_68), (2, .int v_66), (4, .int v_36), (0, .ref m9), (1, .int b9)]) hx hb d_Mo_measure_68 hl (k := 4) rfl e_69.symm (by decide) rfl (fun ls hl => ?_)
    refine lv_goto (tgt := 11) hx hb d_Mo_measure_71 (by decide) ?_
    have is_70 : v_66.toInt = s9.toInt + v_64.toInt := by rw [e_67]; exact iAdd (by omega) (by omega)
    have is_71 : j_68.toInt = i9.toInt + 1 := by rw [e_69]; exact iAddK 1 rfl (by omega) (by omega)
    exact ih11 (mU j_68) ls _ locs _ (by rw [hk11]; exact mU_lt (by omega)) ⟨v_66, j_68, g_42, rfl, (lv_sub hl [3, 4, 1, 0] rfl), hH, hz, hLo, F_m9, F_A4, F_A5, F_A6, F_A7, F_A14, hT, hkf, F_A15, ⟨by omega, by omega, by omega⟩, (by rw [e_43]; exact atQ_up (k := 0) hAt I_i9.1 (by omega) e_37 ⟨by omega, by omega⟩)⟩

set_option maxHeartbeats 4000000 in
set_option maxRecDepth 100000 in
theorem m_design (l : Launch) (D : va_G) (t : Nat → ClassId) (G : hG) (ak av : Nat → Nat) (h : hM) (τ : tM) (n : Nat) (m9 : Nat) (b9 : Int32) (s9 : Int32) (u9 : Int32) (A : Nat → Nat) (th sd lo le wr ma nu di pl se wg op : Int32) (hn : n ≤ 200) (hT : TI τ t n h) (T_m9 : τ m9 = (20, 0)) (F_m9 : h m9 = some (.inr (9, mf A n th sd lo le wr ma nu di pl se wg op))) (hA : ∀ i, i < 28 → τ (A i) = (30, i)) (hmk : mOk sd lo ma se op) (hTm : treeM (aI h (A 4)) (aI h (A 6)) ma.toInt.toNat) (hb0 : 0 ≤ b9.toInt) (hb1 : b9.toInt ≤ 200) (hQ : tabQ (aI h (A 4)) (aI h (A 6)) (aI h (A 14)) ma.toInt.toNat di.toInt.toNat) (hAt : atQ (aI h (A 14)) (aI h (A 15)) b9.toInt di.toInt.toNat di.toInt.toNat) (hs9 : s9.toInt = 21 + di.toInt) : Met l y_Mo_design (.code y_Mo_design b_Mo_design 10 none :: lw_g) { frames := 6, cells := 0, slots := 0, locals := 147 } (hP (kE D t G ak av) D vwCl G h [.ref m9, .int b9, .int s9, .int u9]) (hQv D vwCl G (fun h' => TI τ t n h' ∧ kf τ [(30, 13)] [] h h')) 0 0 G.P := by
  refine Met.ofW (cc := b_Mo_design) (maxL := 10) (ret := none) (by decide) rfl ?_
  intro p e s m args below meth c s₁ Bd hml hv
  obtain ⟨ha, hE, hH⟩ := hv
  have hx := Bd.exec
  have hb := Bd.bytes
  have hr := Bd.returns
  have hts : ∀ w ∈ lw_g, w.before args s = true := fun w hw => atoms_spec (ws := (.code y_Mo_design b_Mo_design 10 none :: lw_g)) Bd.pre w (List.mem_cons_of_mem _ hw)
  have hown : s.vm.findClass R_Mo = some m.cls := findClass_of_methodNamed Bd.named
  have hlocks := Bd.notSynchronized
  have hK := hE.1
  have hH0 := hH
  have hLo : hLc G.P [] := hLc_nil
  have hz : s.heap.size ≤ s.heap.size := Nat.le_refl _
  have hl := lv_entry [.ref m9, .int b9, .int s9, .int u9] (n := 10) (Nat.le_of_ble_eq_true rfl)
  rw [show entryFrame m args 10 = F0 m 0 ((lg_sl [.ref m9, .int b9, .int s9, .int u9] ++ List.replicate (10 - (lg_sl [.ref m9, .int b9, .int s9, .int u9]).length) Slot.unset).toArray) [] from (by rw [ha]; exact lg_entry_eq m [.ref m9, .int b9, .int s9, .int u9] 10)]
  generalize (lg_sl [.ref m9, .int b9, .int s9, .int u9] ++ List.replicate (10 - (lg_sl [.ref m9, .int b9, .int s9, .int u9]).length) Slot.unset).toArray = ls at hl ⊢
  have hl : lv_has ls 10 [(0, .ref m9), (1, .int b9), (2, .int s9), (3, .int u9)] := hl
  have hkf : kf τ [(30, 13)] [] h h := kf_rf
  obtain ⟨hsd, hlo, hma, hse, hop⟩ := id hmk
  have inI : (nI n).toInt = n := nI_toInt (by omega)
  obtain ⟨g_1, F_A4, c_2⟩ := TI_arZ (L := 700) hT (hA 4 (by decide)) rfl rfl
  obtain ⟨g_3, F_A5, c_4⟩ := TI_arZ (L := 700) hT (hA 5 (by decide)) rfl rfl
  obtain ⟨g_5, F_A6⟩ := TI_arI (L := 700) hT (hA 6 (by decide)) rfl rfl
  obtain ⟨g_6, F_A7⟩ := TI_arJ (L := 700) hT (hA 7 (by decide)) rfl rfl
  obtain ⟨g_7, F_A14⟩ := TI_arI (L := 30) hT (hA 14 (by decide)) rfl rfl
  obtain ⟨g_8, F_A15⟩ := TI_arI (L := 700) hT (hA 15 (by decide)) rfl rfl
  rw [aI_of F_A4, aI_of F_A6] at hTm
  rw [aI_of F_A4, aI_of F_A6, aI_of F_A14] at hQ
  rw [aI_of F_A14, aI_of F_A15] at hAt
  have hQ1 : 1 ≤ di.toInt := by have hq := hQ.1; omega
  have hQ2 : di.toInt ≤ 30 := by have hq := hQ.2.1; omega
  refine lv_iconst (v := 0) hx hb d_Mo_design_0 (by decide) ?_
  refine lv_istore (lv' := [(4, .int 0), (0, .ref m9), (1, .int b9), (2, .int s9), (3, .int u9)]) hx hb d_Mo_design_1 hl (by decide) rfl (fun ls hl => ?_)
  refine hm_loop (fun k3 ls H locs hh3 => ∃ (i9 : Int32), k3 = mU i9 ∧ lv_has ls 10 [(0, .ref m9), (1, .int b9), (2, .int s9), (3, .int u9), (4, .int i9)] ∧ hm D vwCl G hh3 H ∧ s.heap.size ≤ H.size ∧ hLc G.P locs ∧ hh3 m9 = some (.inr (9, mf A n th sd lo le wr ma nu di pl se wg op)) ∧ hh3 (A 4) = some (.inl ((t 1), 700, .inl g_1)) ∧ hh3 (A 5) = some (.inl ((t 1), 700, .inl g_3)) ∧ hh3 (A 6) = some (.inl ((t 2), 700, .inl g_5)) ∧ hh3 (A 7) = some (.inl ((t 3), 700, .inr (.inl g_6))) ∧ hh3 (A 14) = some (.inl ((t 2), 30, .inl g_7)) ∧ hh3 (A 15) = some (.inl ((t 2), 700, .inl g_8)) ∧ (TI τ t n hh3) ∧ (kf τ [(30, 13)] [] h hh3) ∧ (0 ≤ i9.toInt)) ?_ (hh := h) ⟨0, rfl, (lv_sub hl [1, 2, 3, 4, 0] rfl), hH, hz, hLo, F_m9, F_A4, F_A5, F_A6, F_A7, F_A14, F_A15, hT, hkf, (by decide)⟩
  rintro k3 ls H locs hh3 ⟨i9, hk3, hl, hH, hz, hLo, F_m9, F_A4, F_A5, F_A6, F_A7, F_A14, F_A15, hT, hkf, I_i9⟩ ih3
  refine lv_iload hx hb d_Mo_design_3 (lv_at hl 4 rfl) ?_
  refine lv_sipush (v := 2048) hx hb d_Mo_design_5 (by decide) ?_
  refine lv_iload_n hx hb d_Mo_design_8 rfl (lv_at hl 2 rfl) ?_
  refine lv_bipush (v := 16) hx hb d_Mo_design_9 (by decide) ?_
  refine lv_isub hx hb d_Mo_design_11 ?_
  refine lv_topi (fun v_9 e_10 => ?_)
  refine lv_imul hx hb d_Mo_design_12 ?_
  refine lv_topi (fun v_11 e_12 => ?_)
  have is_13 : v_9.toInt = s9.toInt - 16 := by rw [e_10]; exact iDecS 16 rfl (by decide) (by omega)
  have is_14 : v_11.toInt = 2048 * v_9.toInt := by rw [e_12]; exact iMulL 2048 rfl (by omega) (by omega)
  refine lv_icmp_ge (tgt := 30) hx hb d_Mo_design_13 (by decide) (fun hc_15 => ?_) (fun hc_15 => ?_)
  · skip
    have ic_16 : v_11.toInt ≤ i9.toInt := iLe hc_15
    refine lv_aload_n hx hb d_Mo_design_30 rfl (lv_at hl 0 rfl) ?_
    refine hm_get (ci := 9) (v := .ref (A 13)) (C := R_Mo) (T := F_Mo) (N := 41) hx hb hts ig_Mo hown hK hH F_m9 rfl 21 (by decide) (hts _ mw_646) (fun _ h9 => h9) rfl d_Mo_design_31 ?_
    refine lv_iconst (v := 0) hx hb d_Mo_design_34 (by decide) ?_
    refine lv_iconst (v := 1) hx hb d_Mo_design_35 (by decide) ?_
    obtain ⟨g_17, F_A13, c_18⟩ := TI_arB (L := 163840) hT (hA 13 (by decide)) rfl rfl
    refine hm_bast hx hb hK hH hLo 0 F_A13 rfl (iIn (by decide) (by decide)) d_Mo_design_36 (fun H_19 locs hH z_20 hLo => ?_)
    have hz : s.heap.size ≤ H_19.size := by rw [z_20]; exact hz
    obtain ⟨h_21, e_22⟩ : ∃ z, z = hu hh3 (A 13) (.inl ((t 0), 163840, .inl (upd g_17 ((0 : Int32).toNatClampNeg) (vp_nar .byte (1 : Int32))))) := ⟨_, rfl⟩
    have hH : hm D vwCl G h_21 H_19 := by rw [e_22]; exact hH
    have F_m9 : h_21 m9 = some (.inr (9, mf A n th sd lo le wr ma nu di pl se wg op)) := by rw [e_22, hu_n (tne T_m9 (hA 13 (by decide)) (by decide))]; exact F_m9
    have F_A4 : h_21 (A 4) = some (.inl ((t 1), 700, .inl g_1)) := by rw [e_22, hu_n (tneF (hA 4 (by decide)) (hA 13 (by decide)) (by decide))]; exact F_A4
    have F_A5 : h_21 (A 5) = some (.inl ((t 1), 700, .inl g_3)) := by rw [e_22, hu_n (tneF (hA 5 (by decide)) (hA 13 (by decide)) (by decide))]; exact F_A5
    have F_A6 : h_21 (A 6) = some (.inl ((t 2), 700, .inl g_5)) := by rw [e_22, hu_n (tneF (hA 6 (by decide)) (hA 13 (by decide)) (by decide))]; exact F_A6
    have F_A7 : h_21 (A 7) = some (.inl ((t 3), 700, .inr (.inl g_6))) := by rw [e_22, hu_n (tneF (hA 7 (by decide)) (hA 13 (by decide)) (by decide))]; exact F_A7
    have F_A14 : h_21 (A 14) = some (.inl ((t 2), 30, .inl g_7)) := by rw [e_22, hu_n (tneF (hA 14 (by decide)) (hA 13 (by decide)) (by decide))]; exact F_A14
    have F_A15 : h_21 (A 15) = some (.inl ((t 2), 700, .inl g_8)) := by rw [e_22, hu_n (tneF (hA 15 (by decide)) (hA 13 (by decide)) (by decide))]; exact F_A15
    have F_A13 : h_21 (A 13) = some (.inl ((t 0), 163840, .inl (upd g_17 ((0 : Int32).toNatClampNeg) (vp_nar .byte (1 : Int32))))) := by rw [e_22]; exact hu_s _ _ _
    have hT : TI τ t n h_21 := by rw [e_22]; exact TI_put hT (hA 13 (by decide)) (by decide) (ok_B rfl rfl (sb_fitU c_18 (fitNar _)))
    have hkf : kf τ [(30, 13)] [] h h_21 := by rw [e_22]; exact kf_put hkf (hA 13 (by decide)) List.mem_cons_self
    obtain ⟨g_23, e_24⟩ : ∃ z, z = upd g_17 ((0 : Int32).toNatClampNeg) (vp_nar .byte (1 : Int32)) := ⟨_, rfl⟩
    rw [← e_24] at F_A13
    have c_25 : sb_Fit g_23 := by rw [e_24]; exact (sb_fitU c_18 (fitNar _))
    refine lv_aload_n hx hb d_Mo_design_37 rfl (lv_at hl 0 rfl) ?_
    refine lv_iconst (v := 1) hx hb d_Mo_design_38 (by decide) ?_
    refine lv_bipush (v := 67) hx hb d_Mo_design_39 (by decide) ?_
    refine lv_bipush (v := 68) hx hb d_Mo_design_41 (by decide) ?_
    refine lv_bipush (v := 48) hx hb d_Mo_design_43 (by decide) ?_
    refine lv_bipush (v := 48) hx hb d_Mo_design_45 (by decide) ?_
    refine lv_bipush (v := 49) hx hb d_Mo_design_47 (by decide) ?_
    refine hm_callv (va_runV (As := [.int 1, .int 67, .int 68, .int 48, .int 48, .int 49]) (b := m9) (rest := []) ⟨hx, hb, hml, hown, hts⟩ (m_ltrs l D t G ak av h_21 τ n m9 1 67 68 48 48 49 A th sd lo le wr ma nu di pl se wg op   hn hT T_m9  F_m9 hA ⟨hsd, hlo, (by omega), ⟨by omega, by omega⟩, ⟨by omega, by omega⟩⟩ (by decide) (by decide)) ⟨cw9B 6 hts mw_689 mw_690 mw_579 rfl rfl (by decide +kernel) ⟨Nat.le_of_ble_eq_true rfl, Nat.le_of_ble_eq_true rfl⟩, hts _ mw_691, hts _ mw_692⟩ (hP_V (q := (R_Mo, F_Mo, 41)) kE_ok hE hK hH F_m9 rfl) rfl rfl hl.1 rfl (lv_room (Nat.le_of_ble_eq_true rfl)) d_Mo_design_49 ⟨Nat.le_of_ble_eq_true rfl, Nat.le_of_ble_eq_true rfl⟩) hLo (fun h_26 H_27 locs hp_29 hH z_28 hLo => ?_)
    have hz : s.heap.size ≤ H_27.size := Nat.le_trans hz z_28
    have hT0 := hT
    obtain ⟨hT, kf_31⟩ := hp_29
    have F_m9 : h_26 m9 = some (.inr (9, mf A n th sd lo le wr ma nu di pl se wg op)) := kf_at kf_31 T_m9 (by decide) (tnc (by decide) tn0) nm0 F_m9
    have F_A4 : h_26 (A 4) = some (.inl ((t 1), 700, .inl g_1)) := kf_at kf_31 (hA 4 (by decide)) (by decide) (tncF (by decide) tn0) nm0 F_A4
    have F_A5 : h_26 (A 5) = some (.inl ((t 1), 700, .inl g_3)) := kf_at kf_31 (hA 5 (by decide)) (by decide) (tncF (by decide) tn0) nm0 F_A5
    have F_A6 : h_26 (A 6) = some (.inl ((t 2), 700, .inl g_5)) := kf_at kf_31 (hA 6 (by decide)) (by decide) (tncF (by decide) tn0) nm0 F_A6
    have F_A7 : h_26 (A 7) = some (.inl ((t 3), 700, .inr (.inl g_6))) := kf_at kf_31 (hA 7 (by decide)) (by decide) (tncF (by decide) tn0) nm0 F_A7
    have F_A14 : h_26 (A 14) = some (.inl ((t 2), 30, .inl g_7)) := kf_at kf_31 (hA 14 (by decide)) (by decide) (tncF (by decide) tn0) nm0 F_A14
    have F_A15 : h_26 (A 15) = some (.inl ((t 2), 700, .inl g_8)) := kf_at kf_31 (hA 15 (by decide)) (by decide) (tncF (by decide) tn0) nm0 F_A15
    have hkf : kf τ [(30, 13)] [] h h_26 := kf_tr hkf kf_31 (List.forall_mem_cons.mpr ⟨List.mem_cons_self, List.forall_mem_nil _⟩) (List.forall_mem_nil _)
    refine lv_aload_n hx hb d_Mo_design_52 rfl (lv_at hl 0 rfl) ?_
    refine hm_get (ci := 9) (v := .ref (A 13)) (C := R_Mo) (T := F_Mo) (N := 41) hx hb hts ig_Mo hown hK hH F_m9 rfl 21 (by decide) (hts _ mw_646) (fun _ h9 => h9) rfl d_Mo_design_53 ?_
    refine lv_bipush (v := 6) hx hb d_Mo_design_56 (by decide) ?_
    refine lv_iconst (v := 1) hx hb d_Mo_design_58 (by decide) ?_
    obtain ⟨g_32, F_A13, c_33⟩ := TI_arB (L := 163840) hT (hA 13 (by decide)) rfl rfl
    refine hm_bast hx hb hK hH hLo 0 F_A13 rfl (iIn (by decide) (by decide)) d_Mo_design_59 (fun H_34 locs hH z_35 hLo => ?_)
    have hz : s.heap.size ≤ H_34.size := by rw [z_35]; exact hz
    obtain ⟨h_36, e_37⟩ : ∃ z, z = hu h_26 (A 13) (.inl ((t 0), 163840, .inl (upd g_32 ((6 : Int32).toNatClampNeg) (vp_nar .byte (1 : Int32))))) := ⟨_, rfl⟩
    have hH : hm D vwCl G h_36 H_34 := by rw [e_37]; exact hH
    have F_m9 : h_36 m9 = some (.inr (9, mf A n th sd lo le wr ma nu di pl se wg op)) := by rw [e_37, hu_n (tne T_m9 (hA 13 (by decide)) (by decide))]; exact F_m9
    have F_A4 : h_36 (A 4) = some (.inl ((t 1), 700, .inl g_1)) := by rw [e_37, hu_n (tneF (hA 4 (by decide)) (hA 13 (by decide)) (by decide))]; exact F_A4
    have F_A5 : h_36 (A 5) = some (.inl ((t 1), 700, .inl g_3)) := by rw [e_37, hu_n (tneF (hA 5 (by decide)) (hA 13 (by decide)) (by decide))]; exact F_A5
    have F_A6 : h_36 (A 6) = some (.inl ((t 2), 700, .inl g_5)) := by rw [e_37, hu_n (tneF (hA 6 (by decide)) (hA 13 (by decide)) (by decide))]; exact F_A6
    have F_A7 : h_36 (A 7) = some (.inl ((t 3), 700, .inr (.inl g_6))) := by rw [e_37, hu_n (tneF (hA 7 (by decide)) (hA 13 (by decide)) (by decide))]; exact F_A7
    have F_A14 : h_36 (A 14) = some (.inl ((t 2), 30, .inl g_7)) := by rw [e_37, hu_n (tneF (hA 14 (by decide)) (hA 13 (by decide)) (by decide))]; exact F_A14
    have F_A15 : h_36 (A 15) = some (.inl ((t 2), 700, .inl g_8)) := by rw [e_37, hu_n (tneF (hA 15 (by decide)) (hA 13 (by decide)) (by decide))]; exact F_A15
    have F_A13 : h_36 (A 13) = some (.inl ((t 0), 163840, .inl (upd g_32 ((6 : Int32).toNatClampNeg) (vp_nar .byte (1 : Int32))))) := by rw [e_37]; exact hu_s _ _ _
    have hT : TI τ t n h_36 := by rw [e_37]; exact TI_put hT (hA 13 (by decide)) (by decide) (ok_B rfl rfl (sb_fitU c_33 (fitNar _)))
    have hkf : kf τ [(30, 13)] [] h h_36 := by rw [e_37]; exact kf_put hkf (hA 13 (by decide)) List.mem_cons_self
    obtain ⟨g_38, e_39⟩ : ∃ z, z = upd g_32 ((6 : Int32).toNatClampNeg) (vp_nar .byte (1 : Int32)) := ⟨_, rfl⟩
    rw [← e_39] at F_A13
    have c_40 : sb_Fit g_38 := by rw [e_39]; exact (sb_fitU c_33 (fitNar _))
    refine lv_aload_n hx hb d_Mo_design_60 rfl (lv_at hl 0 rfl) ?_
    refine lv_bipush (v := 80) hx hb d_Mo_design_61 (by decide) ?_
    refine lv_iconst (v := 4) hx hb d_Mo_design_63 (by decide) ?_
    refine lv_aload_n hx hb d_Mo_design_64 rfl (lv_at hl 0 rfl) ?_
    refine hm_get (ci := 9) (v := .int (nI n)) (C := R_Mo) (T := F_Mo) (N := 41) hx hb hts ig_Mo hown hK hH F_m9 rfl 1 (by decide) (hts _ mw_587) (fun _ h9 => h9) rfl d_Mo_design_65 ?_
    refine hm_callv (va_runV (As := [.int 80, .int 4, .int (nI n)]) (b := m9) (rest := []) ⟨hx, hb, hml, hown, hts⟩ (m_both l D t G ak av h_36 τ n m9 80 4 (nI n) A th sd lo le wr ma nu di pl se wg op   hn hT T_m9  F_m9 hA ⟨hsd, hlo, (by omega), ⟨by omega, by omega⟩, ⟨by omega, by omega⟩⟩ (by decide) (by decide) (by decide)) ⟨cw9B 3 hts mw_665 mw_666 mw_579 rfl rfl (by decide +kernel) ⟨Nat.le_of_ble_eq_true rfl, Nat.le_of_ble_eq_true rfl⟩, hts _ mw_667, hts _ mw_668⟩ (hP_V (q := (R_Mo, F_Mo, 41)) kE_ok hE hK hH F_m9 rfl) rfl rfl hl.1 rfl (lv_room (Nat.le_of_ble_eq_true rfl)) d_Mo_design_68 ⟨Nat.le_of_ble_eq_true rfl, Nat.le_of_ble_eq_true rfl⟩) hLo (fun h_41 H_42 locs hp_44 hH z_43 hLo => ?_)
    have hz : s.heap.size ≤ H_42.size := Nat.le_trans hz z_43
    have hT0 := hT
    obtain ⟨hT, kf_46⟩ := hp_44
    have F_m9 : h_41 m9 = some (.inr (9, mf A n th sd lo le wr ma nu di pl se wg op)) := kf_at kf_46 T_m9 (by decide) (tnc (by decide) tn0) nm0 F_m9
    have F_A4 : h_41 (A 4) = some (.inl ((t 1), 700, .inl g_1)) := kf_at kf_46 (hA 4 (by decide)) (by decide) (tncF (by decide) tn0) nm0 F_A4
    have F_A5 : h_41 (A 5) = some (.inl ((t 1), 700, .inl g_3)) := kf_at kf_46 (hA 5 (by decide)) (by decide) (tncF (by decide) tn0) nm0 F_A5
    have F_A6 : h_41 (A 6) = some (.inl ((t 2), 700, .inl g_5)) := kf_at kf_46 (hA 6 (by decide)) (by decide) (tncF (by decide) tn0) nm0 F_A6
    have F_A7 : h_41 (A 7) = some (.inl ((t 3), 700, .inr (.inl g_6))) := kf_at kf_46 (hA 7 (by decide)) (by decide) (tncF (by decide) tn0) nm0 F_A7
    have F_A14 : h_41 (A 14) = some (.inl ((t 2), 30, .inl g_7)) := kf_at kf_46 (hA 14 (by decide)) (by decide) (tncF (by decide) tn0) nm0 F_A14
    have F_A15 : h_41 (A 15) = some (.inl ((t 2), 700, .inl g_8)) := kf_at kf_46 (hA 15 (by decide)) (by decide) (tncF (by decide) tn0) nm0 F_A15
    have hkf : kf τ [(30, 13)] [] h h_41 := kf_tr hkf kf_46 (List.forall_mem_cons.mpr ⟨List.mem_cons_self, List.forall_mem_nil _⟩) (List.forall_mem_nil _)
    refine lv_aload_n hx hb d_Mo_design_71 rfl (lv_at hl 0 rfl) ?_
    refine lv_sipush (v := 128) hx hb d_Mo_design_72 (by decide) ?_
    refine lv_iconst (v := 2) hx hb d_Mo_design_75 (by decide) ?_
    refine lv_sipush (v := 2048) hx hb d_Mo_design_76 (by decide) ?_
    refine hm_callv (va_runV (As := [.int 128, .int 2, .int 2048]) (b := m9) (rest := []) ⟨hx, hb, hml, hown, hts⟩ (m_both l D t G ak av h_41 τ n m9 128 2 2048 A th sd lo le wr ma nu di pl se wg op   hn hT T_m9  F_m9 hA ⟨hsd, hlo, (by omega), ⟨by omega, by omega⟩, ⟨by omega, by omega⟩⟩ (by decide) (by decide) (by decide)) ⟨cw9B 3 hts mw_665 mw_666 mw_579 rfl rfl (by decide +kernel) ⟨Nat.le_of_ble_eq_true rfl, Nat.le_of_ble_eq_true rfl⟩, hts _ mw_667, hts _ mw_668⟩ (hP_V (q := (R_Mo, F_Mo, 41)) kE_ok hE hK hH F_m9 rfl) rfl rfl hl.1 rfl (lv_room (Nat.le_of_ble_eq_true rfl)) d_Mo_design_79 ⟨Nat.le_of_ble_eq_true rfl, Nat.le_of_ble_eq_true rfl⟩) hLo (fun h_47 H_48 locs hp_50 hH z_49 hLo => ?_)
    have hz : s.heap.size ≤ H_48.size := Nat.le_trans hz z_49
    have hT0 := hT
    obtain ⟨hT, kf_52⟩ := hp_50
    have F_m9 : h_47 m9 = some (.inr (9, mf A n th sd lo le wr ma nu di pl se wg op)) := kf_at kf_52 T_m9 (by decide) (tnc (by decide) tn0) nm0 F_m9
    have F_A4 : h_47 (A 4) = some (.inl ((t 1), 700, .inl g_1)) := kf_at kf_52 (hA 4 (by decide)) (by decide) (tncF (by decide) tn0) nm0 F_A4
    have F_A5 : h_47 (A 5) = some (.inl ((t 1), 700, .inl g_3)) := kf_at kf_52 (hA 5 (by decide)) (by decide) (tncF (by decide) tn0) nm0 F_A5
    have F_A6 : h_47 (A 6) = some (.inl ((t 2), 700, .inl g_5)) := kf_at kf_52 (hA 6 (by decide)) (by decide) (tncF (by decide) tn0) nm0 F_A6
    have F_A7 : h_47 (A 7) = some (.inl ((t 3), 700, .inr (.inl g_6))) := kf_at kf_52 (hA 7 (by decide)) (by decide) (tncF (by decide) tn0) nm0 F_A7
    have F_A14 : h_47 (A 14) = some (.inl ((t 2), 30, .inl g_7)) := kf_at kf_52 (hA 14 (by decide)) (by decide) (tncF (by decide) tn0) nm0 F_A14
    have F_A15 : h_47 (A 15) = some (.inl ((t 2), 700, .inl g_8)) := kf_at kf_52 (hA 15 (by decide)) (by decide) (tncF (by decide) tn0) nm0 F_A15
    have hkf : kf τ [(30, 13)] [] h h_47 := kf_tr hkf kf_52 (List.forall_mem_cons.mpr ⟨List.mem_cons_self, List.forall_mem_nil _⟩) (List.forall_mem_nil _)
    refine lv_aload_n hx hb d_Mo_design_82 rfl (lv_at hl 0 rfl) ?_
    refine lv_sipush (v := 140) hx hb d_Mo_design_83 (by decide) ?_
    refine lv_iconst (v := 4) hx hb d_Mo_design_86 (by decide) ?_
    refine lv_iload_n hx hb d_Mo_design_87 rfl (lv_at hl 1 rfl) ?_
    refine lv_bipush (v := 18) hx hb d_Mo_design_88 (by decide) ?_
    refine lv_iadd hx hb d_Mo_design_90 ?_
    refine lv_topi (fun v_53 e_54 => ?_)
    refine hm_callv (va_runV (As := [.int 140, .int 4, .int v_53]) (b := m9) (rest := []) ⟨hx, hb, hml, hown, hts⟩ (m_low l D t G ak av h_47 τ n m9 140 4 v_53 A th sd lo le wr ma nu di pl se wg op   hn hT T_m9  F_m9 hA ⟨hsd, hlo, (by omega), ⟨by omega, by omega⟩, ⟨by omega, by omega⟩⟩ (by decide) (by decide)) ⟨cw9B 3 hts mw_647 mw_648 mw_579 rfl rfl (by decide +kernel) ⟨Nat.le_of_ble_eq_true rfl, Nat.le_of_ble_eq_true rfl⟩, hts _ mw_649, hts _ mw_650⟩ (hP_V (q := (R_Mo, F_Mo, 41)) kE_ok hE hK hH F_m9 rfl) rfl rfl hl.1 rfl (lv_room (Nat.le_of_ble_eq_true rfl)) d_Mo_design_91 ⟨Nat.le_of_ble_eq_true rfl, Nat.le_of_ble_eq_true rfl⟩) hLo (fun h_55 H_56 locs hp_58 hH z_57 hLo => ?_)
    have hz : s.heap.size ≤ H_56.size := Nat.le_trans hz z_57
    have hT0 := hT
    obtain ⟨hT, kf_60⟩ := hp_58
    have F_m9 : h_55 m9 = some (.inr (9, mf A n th sd lo le wr ma nu di pl se wg op)) := kf_at kf_60 T_m9 (by decide) (tnc (by decide) tn0) nm0 F_m9
    have F_A4 : h_55 (A 4) = some (.inl ((t 1), 700, .inl g_1)) := kf_at kf_60 (hA 4 (by decide)) (by decide) (tncF (by decide) tn0) nm0 F_A4
    have F_A5 : h_55 (A 5) = some (.inl ((t 1), 700, .inl g_3)) := kf_at kf_60 (hA 5 (by decide)) (by decide) (tncF (by decide) tn0) nm0 F_A5
    have F_A6 : h_55 (A 6) = some (.inl ((t 2), 700, .inl g_5)) := kf_at kf_60 (hA 6 (by decide)) (by decide) (tncF (by decide) tn0) nm0 F_A6
    have F_A7 : h_55 (A 7) = some (.inl ((t 3), 700, .inr (.inl g_6))) := kf_at kf_60 (hA 7 (by decide)) (by decide) (tncF (by decide) tn0) nm0 F_A7
    have F_A14 : h_55 (A 14) = some (.inl ((t 2), 30, .inl g_7)) := kf_at kf_60 (hA 14 (by decide)) (by decide) (tncF (by decide) tn0) nm0 F_A14
    have F_A15 : h_55 (A 15) = some (.inl ((t 2), 700, .inl g_8)) := kf_at kf_60 (hA 15 (by decide)) (by decide) (tncF (by decide) tn0) nm0 F_A15
    have hkf : kf τ [(30, 13)] [] h h_55 := kf_tr hkf kf_60 (List.forall_mem_cons.mpr ⟨List.mem_cons_self, List.forall_mem_nil _⟩) (List.forall_mem_nil _)
    refine lv_aload_n hx hb d_Mo_design_94 rfl (lv_at hl 0 rfl) ?_
    refine lv_sipush (v := 148) hx hb d_Mo_design_95 (by decide) ?_
    refine lv_iconst (v := 4) hx hb d_Mo_design_98 (by decide) ?_
    refine lv_iload_n hx hb d_Mo_design_99 rfl (lv_at hl 1 rfl) ?_
    refine lv_bipush (v := 19) hx hb d_Mo_design_100 (by decide) ?_
    refine lv_iadd hx hb d_Mo_design_102 ?_
    refine lv_topi (fun v_61 e_62 => ?_)
    refine hm_callv (va_runV (As := [.int 148, .int 4, .int v_61]) (b := m9) (rest := []) ⟨hx, hb, hml, hown, hts⟩ (m_high l D t G ak av h_55 τ n m9 148 4 v_61 A th sd lo le wr ma nu di pl se wg op   hn hT T_m9  F_m9 hA ⟨hsd, hlo, (by omega), ⟨by omega, by omega⟩, ⟨by omega, by omega⟩⟩ (by decide) (by decide)) ⟨cw9B 3 hts mw_651 mw_652 mw_579 rfl rfl (by decide +kernel) ⟨Nat.le_of_ble_eq_true rfl, Nat.le_of_ble_eq_true rfl⟩, hts _ mw_653, hts _ mw_654⟩ (hP_V (q := (R_Mo, F_Mo, 41)) kE_ok hE hK hH F_m9 rfl) rfl rfl hl.1 rfl (lv_room (Nat.le_of_ble_eq_true rfl)) d_Mo_design_103 ⟨Nat.le_of_ble_eq_true rfl, Nat.le_of_ble_eq_true rfl⟩) hLo (fun h_63 H_64 locs hp_66 hH z_65 hLo => ?_)
    have hz : s.heap.size ≤ H_64.size := Nat.le_trans hz z_65
    have hT0 := hT
    obtain ⟨hT, kf_68⟩ := hp_66
    have F_m9 : h_63 m9 = some (.inr (9, mf A n th sd lo le wr ma nu di pl se wg op)) := kf_at kf_68 T_m9 (by decide) (tnc (by decide) tn0) nm0 F_m9
    have F_A4 : h_63 (A 4) = some (.inl ((t 1), 700, .inl g_1)) := kf_at kf_68 (hA 4 (by decide)) (by decide) (tncF (by decide) tn0) nm0 F_A4
    have F_A5 : h_63 (A 5) = some (.inl ((t 1), 700, .inl g_3)) := kf_at kf_68 (hA 5 (by decide)) (by decide) (tncF (by decide) tn0) nm0 F_A5
    have F_A6 : h_63 (A 6) = some (.inl ((t 2), 700, .inl g_5)) := kf_at kf_68 (hA 6 (by decide)) (by decide) (tncF (by decide) tn0) nm0 F_A6
    have F_A7 : h_63 (A 7) = some (.inl ((t 3), 700, .inr (.inl g_6))) := kf_at kf_68 (hA 7 (by decide)) (by decide) (tncF (by decide) tn0) nm0 F_A7
    have F_A14 : h_63 (A 14) = some (.inl ((t 2), 30, .inl g_7)) := kf_at kf_68 (hA 14 (by decide)) (by decide) (tncF (by decide) tn0) nm0 F_A14
    have F_A15 : h_63 (A 15) = some (.inl ((t 2), 700, .inl g_8)) := kf_at kf_68 (hA 15 (by decide)) (by decide) (tncF (by decide) tn0) nm0 F_A15
    have hkf : kf τ [(30, 13)] [] h h_63 := kf_tr hkf kf_68 (List.forall_mem_cons.mpr ⟨List.mem_cons_self, List.forall_mem_nil _⟩) (List.forall_mem_nil _)
    refine lv_aload_n hx hb d_Mo_design_106 rfl (lv_at hl 0 rfl) ?_
    refine lv_sipush (v := 156) hx hb d_Mo_design_107 (by decide) ?_
    refine lv_iconst (v := 0) hx hb d_Mo_design_110 (by decide) ?_
    refine lv_iconst (v := 0) hx hb d_Mo_design_111 (by decide) ?_
    refine hm_callv (va_runV (As := [.int 156, .int 0, .int 0]) (b := m9) (rest := []) ⟨hx, hb, hml, hown, hts⟩ (m_record l D t G ak av h_63 τ n m9 156 0 0 A th sd lo le wr ma nu di pl se wg op   hn hT T_m9  F_m9 hA ⟨hsd, hlo, (by omega), ⟨by omega, by omega⟩, ⟨by omega, by omega⟩⟩ (by decide) (by decide) (by decide) (by decide)) ⟨cw9B 3 hts mw_671 mw_672 mw_579 rfl rfl (by decide +kernel) ⟨Nat.le_of_ble_eq_true rfl, Nat.le_of_ble_eq_true rfl⟩, hts _ mw_673, hts _ mw_674⟩ (hP_V (q := (R_Mo, F_Mo, 41)) kE_ok hE hK hH F_m9 rfl) rfl rfl hl.1 rfl (lv_room (Nat.le_of_ble_eq_true rfl)) d_Mo_design_112 ⟨Nat.le_of_ble_eq_true rfl, Nat.le_of_ble_eq_true rfl⟩) hLo (fun h_69 H_70 locs hp_72 hH z_71 hLo => ?_)
    have hz : s.heap.size ≤ H_70.size := Nat.le_trans hz z_71
    have hT0 := hT
    obtain ⟨hT, kf_74⟩ := hp_72
    have F_m9 : h_69 m9 = some (.inr (9, mf A n th sd lo le wr ma nu di pl se wg op)) := kf_at kf_74 T_m9 (by decide) (tnc (by decide) tn0) nm0 F_m9
    have F_A4 : h_69 (A 4) = some (.inl ((t 1), 700, .inl g_1)) := kf_at kf_74 (hA 4 (by decide)) (by decide) (tncF (by decide) tn0) nm0 F_A4
    have F_A5 : h_69 (A 5) = some (.inl ((t 1), 700, .inl g_3)) := kf_at kf_74 (hA 5 (by decide)) (by decide) (tncF (by decide) tn0) nm0 F_A5
    have F_A6 : h_69 (A 6) = some (.inl ((t 2), 700, .inl g_5)) := kf_at kf_74 (hA 6 (by decide)) (by decide) (tncF (by decide) tn0) nm0 F_A6
    have F_A7 : h_69 (A 7) = some (.inl ((t 3), 700, .inr (.inl g_6))) := kf_at kf_74 (hA 7 (by decide)) (by decide) (tncF (by decide) tn0) nm0 F_A7
    have F_A14 : h_69 (A 14) = some (.inl ((t 2), 30, .inl g_7)) := kf_at kf_74 (hA 14 (by decide)) (by decide) (tncF (by decide) tn0) nm0 F_A14
    have F_A15 : h_69 (A 15) = some (.inl ((t 2), 700, .inl g_8)) := kf_at kf_74 (hA 15 (by decide)) (by decide) (tncF (by decide) tn0) nm0 F_A15
    have hkf : kf τ [(30, 13)] [] h h_69 := kf_tr hkf kf_74 (List.forall_mem_cons.mpr ⟨List.mem_cons_self, List.forall_mem_nil _⟩) (List.forall_mem_nil _)
    refine lv_aload_n hx hb d_Mo_design_115 rfl (lv_at hl 0 rfl) ?_
    refine hm_get (ci := 9) (v := .ref (A 13)) (C := R_Mo) (T := F_Mo) (N := 41) hx hb hts ig_Mo hown hK hH F_m9 rfl 21 (by decide) (hts _ mw_646) (fun _ h9 => h9) rfl d_Mo_design_116 ?_
    refine lv_sipush (v := 2048) hx hb d_Mo_design_119 (by decide) ?_
    refine lv_iconst (v := -1) hx hb d_Mo_design_122 (by decide) ?_
    obtain ⟨g_75, F_A13, c_76⟩ := TI_arB (L := 163840) hT (hA 13 (by decide)) rfl rfl
    refine hm_bast hx hb hK hH hLo 0 F_A13 rfl (iIn (by decide) (by decide)) d_Mo_design_123 (fun H_77 locs hH z_78 hLo => ?_)
    have hz : s.heap.size ≤ H_77.size := by rw [z_78]; exact hz
    obtain ⟨h_79, e_80⟩ : ∃ z, z = hu h_69 (A 13) (.inl ((t 0), 163840, .inl (upd g_75 ((2048 : Int32).toNatClampNeg) (vp_nar .byte ((-1) : Int32))))) := ⟨_, rfl⟩
    have hH : hm D vwCl G h_79 H_77 := by rw [e_80]; exact hH
    have F_m9 : h_79 m9 = some (.inr (9, mf A n th sd lo le wr ma nu di pl se wg op)) := by rw [e_80, hu_n (tne T_m9 (hA 13 (by decide)) (by decide))]; exact F_m9
    have F_A4 : h_79 (A 4) = some (.inl ((t 1), 700, .inl g_1)) := by rw [e_80, hu_n (tneF (hA 4 (by decide)) (hA 13 (by decide)) (by decide))]; exact F_A4
    have F_A5 : h_79 (A 5) = some (.inl ((t 1), 700, .inl g_3)) := by rw [e_80, hu_n (tneF (hA 5 (by decide)) (hA 13 (by decide)) (by decide))]; exact F_A5
    have F_A6 : h_79 (A 6) = some (.inl ((t 2), 700, .inl g_5)) := by rw [e_80, hu_n (tneF (hA 6 (by decide)) (hA 13 (by decide)) (by decide))]; exact F_A6
    have F_A7 : h_79 (A 7) = some (.inl ((t 3), 700, .inr (.inl g_6))) := by rw [e_80, hu_n (tneF (hA 7 (by decide)) (hA 13 (by decide)) (by decide))]; exact F_A7
    have F_A14 : h_79 (A 14) = some (.inl ((t 2), 30, .inl g_7)) := by rw [e_80, hu_n (tneF (hA 14 (by decide)) (hA 13 (by decide)) (by decide))]; exact F_A14
    have F_A15 : h_79 (A 15) = some (.inl ((t 2), 700, .inl g_8)) := by rw [e_80, hu_n (tneF (hA 15 (by decide)) (hA 13 (by decide)) (by decide))]; exact F_A15
    have F_A13 : h_79 (A 13) = some (.inl ((t 0), 163840, .inl (upd g_75 ((2048 : Int32).toNatClampNeg) (vp_nar .byte ((-1) : Int32))))) := by rw [e_80]; exact hu_s _ _ _
    have hT : TI τ t n h_79 := by rw [e_80]; exact TI_put hT (hA 13 (by decide)) (by decide) (ok_B rfl rfl (sb_fitU c_76 (fitNar _)))
    have hkf : kf τ [(30, 13)] [] h h_79 := by rw [e_80]; exact kf_put hkf (hA 13 (by decide)) List.mem_cons_self
    obtain ⟨g_81, e_82⟩ : ∃ z, z = upd g_75 ((2048 : Int32).toNatClampNeg) (vp_nar .byte ((-1) : Int32)) := ⟨_, rfl⟩
    rw [← e_82] at F_A13
    have c_83 : sb_Fit g_81 := by rw [e_82]; exact (sb_fitU c_76 (fitNar _))
    refine lv_aload_n hx hb d_Mo_design_124 rfl (lv_at hl 0 rfl) ?_
    refine lv_sipush (v := 2049) hx hb d_Mo_design_125 (by decide) ?_
    refine lv_bipush (v := 67) hx hb d_Mo_design_128 (by decide) ?_
    refine lv_bipush (v := 68) hx hb d_Mo_design_130 (by decide) ?_
    refine lv_bipush (v := 48) hx hb d_Mo_design_132 (by decide) ?_
    refine lv_bipush (v := 48) hx hb d_Mo_design_134 (by decide) ?_
    refine lv_bipush (v := 49) hx hb d_Mo_design_136 (by decide) ?_
    refine hm_callv (va_runV (As := [.int 2049, .int 67, .int 68, .int 48, .int 48, .int 49]) (b := m9) (rest := []) ⟨hx, hb, hml, hown, hts⟩ (m_ltrs l D t G ak av h_79 τ n m9 2049 67 68 48 48 49 A th sd lo le wr ma nu di pl se wg op   hn hT T_m9  F_m9 hA ⟨hsd, hlo, (by omega), ⟨by omega, by omega⟩, ⟨by omega, by omega⟩⟩ (by decide) (by decide)) ⟨cw9B 6 hts mw_689 mw_690 mw_579 rfl rfl (by decide +kernel) ⟨Nat.le_of_ble_eq_true rfl, Nat.le_of_ble_eq_true rfl⟩, hts _ mw_691, hts _ mw_692⟩ (hP_V (q := (R_Mo, F_Mo, 41)) kE_ok hE hK hH F_m9 rfl) rfl rfl hl.1 rfl (lv_room (Nat.le_of_ble_eq_true rfl)) d_Mo_design_138 ⟨Nat.le_of_ble_eq_true rfl, Nat.le_of_ble_eq_true rfl⟩) hLo (fun h_84 H_85 locs hp_87 hH z_86 hLo => ?_)
    have hz : s.heap.size ≤ H_85.size := Nat.le_trans hz z_86
    have hT0 := hT
    obtain ⟨hT, kf_89⟩ := hp_87
    have F_m9 : h_84 m9 = some (.inr (9, mf A n th sd lo le wr ma nu di pl se wg op)) := kf_at kf_89 T_m9 (by decide) (tnc (by decide) tn0) nm0 F_m9
    have F_A4 : h_84 (A 4) = some (.inl ((t 1), 700, .inl g_1)) := kf_at kf_89 (hA 4 (by decide)) (by decide) (tncF (by decide) tn0) nm0 F_A4
    have F_A5 : h_84 (A 5) = some (.inl ((t 1), 700, .inl g_3)) := kf_at kf_89 (hA 5 (by decide)) (by decide) (tncF (by decide) tn0) nm0 F_A5
    have F_A6 : h_84 (A 6) = some (.inl ((t 2), 700, .inl g_5)) := kf_at kf_89 (hA 6 (by decide)) (by decide) (tncF (by decide) tn0) nm0 F_A6
    have F_A7 : h_84 (A 7) = some (.inl ((t 3), 700, .inr (.inl g_6))) := kf_at kf_89 (hA 7 (by decide)) (by decide) (tncF (by decide) tn0) nm0 F_A7
    have F_A14 : h_84 (A 14) = some (.inl ((t 2), 30, .inl g_7)) := kf_at kf_89 (hA 14 (by decide)) (by decide) (tncF (by decide) tn0) nm0 F_A14
    have F_A15 : h_84 (A 15) = some (.inl ((t 2), 700, .inl g_8)) := kf_at kf_89 (hA 15 (by decide)) (by decide) (tncF (by decide) tn0) nm0 F_A15
    have hkf : kf τ [(30, 13)] [] h h_84 := kf_tr hkf kf_89 (List.forall_mem_cons.mpr ⟨List.mem_cons_self, List.forall_mem_nil _⟩) (List.forall_mem_nil _)
    refine lv_aload_n hx hb d_Mo_design_141 rfl (lv_at hl 0 rfl) ?_
    refine hm_get (ci := 9) (v := .ref (A 13)) (C := R_Mo) (T := F_Mo) (N := 41) hx hb hts ig_Mo hown hK hH F_m9 rfl 21 (by decide) (hts _ mw_646) (fun _ h9 => h9) rfl d_Mo_design_142 ?_
    refine lv_sipush (v := 2054) hx hb d_Mo_design_145 (by decide) ?_
    refine lv_iconst (v := 1) hx hb d_Mo_design_148 (by decide) ?_
    obtain ⟨g_90, F_A13, c_91⟩ := TI_arB (L := 163840) hT (hA 13 (by decide)) rfl rfl
    refine hm_bast hx hb hK hH hLo 0 F_A13 rfl (iIn (by decide) (by decide)) d_Mo_design_149 (fun H_92 locs hH z_93 hLo => ?_)
    have hz : s.heap.size ≤ H_92.size := by rw [z_93]; exact hz
    obtain ⟨h_94, e_95⟩ : ∃ z, z = hu h_84 (A 13) (.inl ((t 0), 163840, .inl (upd g_90 ((2054 : Int32).toNatClampNeg) (vp_nar .byte (1 : Int32))))) := ⟨_, rfl⟩
    have hH : hm D vwCl G h_94 H_92 := by rw [e_95]; exact hH
    have F_m9 : h_94 m9 = some (.inr (9, mf A n th sd lo le wr ma nu di pl se wg op)) := by rw [e_95, hu_n (tne T_m9 (hA 13 (by decide)) (by decide))]; exact F_m9
    have F_A4 : h_94 (A 4) = some (.inl ((t 1), 700, .inl g_1)) := by rw [e_95, hu_n (tneF (hA 4 (by decide)) (hA 13 (by decide)) (by decide))]; exact F_A4
    have F_A5 : h_94 (A 5) = some (.inl ((t 1), 700, .inl g_3)) := by rw [e_95, hu_n (tneF (hA 5 (by decide)) (hA 13 (by decide)) (by decide))]; exact F_A5
    have F_A6 : h_94 (A 6) = some (.inl ((t 2), 700, .inl g_5)) := by rw [e_95, hu_n (tneF (hA 6 (by decide)) (hA 13 (by decide)) (by decide))]; exact F_A6
    have F_A7 : h_94 (A 7) = some (.inl ((t 3), 700, .inr (.inl g_6))) := by rw [e_95, hu_n (tneF (hA 7 (by decide)) (hA 13 (by decide)) (by decide))]; exact F_A7
    have F_A14 : h_94 (A 14) = some (.inl ((t 2), 30, .inl g_7)) := by rw [e_95, hu_n (tneF (hA 14 (by decide)) (hA 13 (by decide)) (by decide))]; exact F_A14
    have F_A15 : h_94 (A 15) = some (.inl ((t 2), 700, .inl g_8)) := by rw [e_95, hu_n (tneF (hA 15 (by decide)) (hA 13 (by decide)) (by decide))]; exact F_A15
    have F_A13 : h_94 (A 13) = some (.inl ((t 0), 163840, .inl (upd g_90 ((2054 : Int32).toNatClampNeg) (vp_nar .byte (1 : Int32))))) := by rw [e_95]; exact hu_s _ _ _
    have hT : TI τ t n h_94 := by rw [e_95]; exact TI_put hT (hA 13 (by decide)) (by decide) (ok_B rfl rfl (sb_fitU c_91 (fitNar _)))
    have hkf : kf τ [(30, 13)] [] h h_94 := by rw [e_95]; exact kf_put hkf (hA 13 (by decide)) List.mem_cons_self
    obtain ⟨g_96, e_97⟩ : ∃ z, z = upd g_90 ((2054 : Int32).toNatClampNeg) (vp_nar .byte (1 : Int32)) := ⟨_, rfl⟩
    rw [← e_97] at F_A13
    have c_98 : sb_Fit g_96 := by rw [e_97]; exact (sb_fitU c_91 (fitNar _))
    refine lv_sipush (v := 4096) hx hb d_Mo_design_150 (by decide) ?_
    refine lv_istore (lv' := [(4, .int 4096), (0, .ref m9), (1, .int b9), (2, .int s9), (3, .int u9)]) hx hb d_Mo_design_153 hl (by decide) rfl (fun ls hl => ?_)
    refine lv_iconst (v := 0) hx hb d_Mo_design_155 (by decide) ?_
    refine lv_istore (lv' := [(5, .int 0), (4, .int 4096), (0, .ref m9), (1, .int b9), (2, .int s9), (3, .int u9)]) hx hb d_Mo_design_156 hl (by decide) rfl (fun ls hl => ?_)
    refine hm_loop (fun k158 ls H locs hh158 => ∃ (p8 : Int32) (i8 : Int32), k158 = mU i8 ∧ lv_has ls 10 [(0, .ref m9), (1, .int b9), (2, .int s9), (3, .int u9), (4, .int p8), (5, .int i8)] ∧ hm D vwCl G hh158 H ∧ s.heap.size ≤ H.size ∧ hLc G.P locs ∧ hh158 m9 = some (.inr (9, mf A n th sd lo le wr ma nu di pl se wg op)) ∧ hh158 (A 4) = some (.inl ((t 1), 700, .inl g_1)) ∧ hh158 (A 5) = some (.inl ((t 1), 700, .inl g_3)) ∧ hh158 (A 6) = some (.inl ((t 2), 700, .inl g_5)) ∧ hh158 (A 7) = some (.inl ((t 3), 700, .inr (.inl g_6))) ∧ hh158 (A 14) = some (.inl ((t 2), 30, .inl g_7)) ∧ hh158 (A 15) = some (.inl ((t 2), 700, .inl g_8)) ∧ (TI τ t n hh158) ∧ (kf τ [(30, 13)] [] h hh158) ∧ (0 ≤ i8.toInt ∧ 4096 ≤ p8.toInt ∧ p8.toInt ≤ 4096 + 20 * i8.toInt)) ?_ (hh := h_94) ⟨4096, 0, rfl, (lv_sub hl [2, 3, 4, 5, 1, 0] rfl), hH, hz, hLo, F_m9, F_A4, F_A5, F_A6, F_A7, F_A14, F_A15, hT, hkf, ⟨by decide, by decide, by decide⟩⟩
    rintro k158 ls H locs hh158 ⟨p8, i8, hk158, hl, hH, hz, hLo, F_m9, F_A4, F_A5, F_A6, F_A7, F_A14, F_A15, hT, hkf, I_i8⟩ ih158
    refine lv_iload hx hb d_Mo_design_158 (lv_at hl 5 rfl) ?_
    refine lv_aload_n hx hb d_Mo_design_160 rfl (lv_at hl 0 rfl) ?_
    refine hm_get (ci := 9) (v := .int di) (C := R_Mo) (T := F_Mo) (N := 41) hx hb hts ig_Mo hown hK hH F_m9 rfl 22 (by decide) (hts _ mw_679) (fun _ h9 => h9) rfl d_Mo_design_161 ?_
    refine lv_icmp_ge (tgt := 416) hx hb d_Mo_design_164 (by decide) (fun hc_99 => ?_) (fun hc_99 => ?_)
    · skip
      have ic_100 : di.toInt ≤ i8.toInt := iLe hc_99
      refine lv_aload_n hx hb d_Mo_design_416 rfl (lv_at hl 0 rfl) ?_
      refine lv_sipush (v := 132) hx hb d_Mo_design_417 (by decide) ?_
      refine lv_iconst (v := 4) hx hb d_Mo_design_420 (by decide) ?_
      refine lv_iload hx hb d_Mo_design_421 (lv_at hl 4 rfl) ?_
      refine lv_sipush (v := 4096) hx hb d_Mo_design_423 (by decide) ?_
      refine lv_isub hx hb d_Mo_design_426 ?_
      refine lv_topi (fun v_101 e_102 => ?_)
      refine hm_callv (va_runV (As := [.int 132, .int 4, .int v_101]) (b := m9) (rest := []) ⟨hx, hb, hml, hown, hts⟩ (m_both l D t G ak av hh158 τ n m9 132 4 v_101 A th sd lo le wr ma nu di pl se wg op   hn hT T_m9  F_m9 hA ⟨hsd, hlo, (by omega), ⟨by omega, by omega⟩, ⟨by omega, by omega⟩⟩ (by decide) (by decide) (by decide)) ⟨cw9B 3 hts mw_665 mw_666 mw_579 rfl rfl (by decide +kernel) ⟨Nat.le_of_ble_eq_true rfl, Nat.le_of_ble_eq_true rfl⟩, hts _ mw_667, hts _ mw_668⟩ (hP_V (q := (R_Mo, F_Mo, 41)) kE_ok hE hK hH F_m9 rfl) rfl rfl hl.1 rfl (lv_room (Nat.le_of_ble_eq_true rfl)) d_Mo_design_427 ⟨Nat.le_of_ble_eq_true rfl, Nat.le_of_ble_eq_true rfl⟩) hLo (fun h_103 H_104 locs hp_106 hH z_105 hLo => ?_)
      have hz : s.heap.size ≤ H_104.size := Nat.le_trans hz z_105
      have hT0 := hT
      obtain ⟨hT, kf_108⟩ := hp_106
      have F_m9 : h_103 m9 = some (.inr (9, mf A n th sd lo le wr ma nu di pl se wg op)) := kf_at kf_108 T_m9 (by decide) (tnc (by decide) tn0) nm0 F_m9
      have F_A4 : h_103 (A 4) = some (.inl ((t 1), 700, .inl g_1)) := kf_at kf_108 (hA 4 (by decide)) (by decide) (tncF (by decide) tn0) nm0 F_A4
      have F_A5 : h_103 (A 5) = some (.inl ((t 1), 700, .inl g_3)) := kf_at kf_108 (hA 5 (by decide)) (by decide) (tncF (by decide) tn0) nm0 F_A5
      have F_A6 : h_103 (A 6) = some (.inl ((t 2), 700, .inl g_5)) := kf_at kf_108 (hA 6 (by decide)) (by decide) (tncF (by decide) tn0) nm0 F_A6
      have F_A7 : h_103 (A 7) = some (.inl ((t 3), 700, .inr (.inl g_6))) := kf_at kf_108 (hA 7 (by decide)) (by decide) (tncF (by decide) tn0) nm0 F_A7
      have F_A14 : h_103 (A 14) = some (.inl ((t 2), 30, .inl g_7)) := kf_at kf_108 (hA 14 (by decide)) (by decide) (tncF (by decide) tn0) nm0 F_A14
      have F_A15 : h_103 (A 15) = some (.inl ((t 2), 700, .inl g_8)) := kf_at kf_108 (hA 15 (by decide)) (by decide) (tncF (by decide) tn0) nm0 F_A15
      have hkf : kf τ [(30, 13)] [] h h_103 := kf_tr hkf kf_108 (List.forall_mem_cons.mpr ⟨List.mem_cons_self, List.forall_mem_nil _⟩) (List.forall_mem_nil _)
      refine lv_sipush (v := 2048) hx hb d_Mo_design_430 (by decide) ?_
      refine lv_iload_n hx hb d_Mo_design_433 rfl (lv_at hl 2 rfl) ?_
      refine lv_bipush (v := 17) hx hb d_Mo_design_434 (by decide) ?_
      refine lv_isub hx hb d_Mo_design_436 ?_
      refine lv_topi (fun v_109 e_110 => ?_)
      refine lv_imul hx hb d_Mo_design_437 ?_
      refine lv_topi (fun v_111 e_112 => ?_)
      refine lv_istore (lv' := [(5, .int v_111), (0, .ref m9), (1, .int b9), (2, .int s9), (3, .int u9), (4, .int p8)]) hx hb d_Mo_design_438 hl (by decide) rfl (fun ls hl => ?_)
      refine lv_aload_n hx hb d_Mo_design_440 rfl (lv_at hl 1 rfl) ?_
      refine lv_iload hx hb d_Mo_design_441 (lv_at hl 0 rfl) ?_
      refine lv_bipush (v := 77) hx hb d_Mo_design_443 (by decide) ?_
      refine lv_bipush (v := 65) hx hb d_Mo_design_445 (by decide) ?_
      refine lv_bipush (v := 82) hx hb d_Mo_design_447 (by decide) ?_
      refine lv_bipush (v := 75) hx hb d_Mo_design_449 (by decide) ?_
      refine lv_iconst (v := 0) hx hb d_Mo_design_451 (by decide) ?_
      have is_113 : v_109.toInt = s9.toInt - 17 := by rw [e_110]; exact iDecS 17 rfl (by decide) (by omega)
      have is_114 : v_111.toInt = 2048 * v_109.toInt := by rw [e_112]; exact iMulL 2048 rfl (by omega) (by omega)
      refine hm_callv (va_runV (As := [.int v_111, .int 77, .int 65, .int 82, .int 75, .int 0]) (b := m9) (rest := []) ⟨hx, hb, hml, hown, hts⟩ (m_ltrs l D t G ak av h_103 τ n m9 v_111 77 65 82 75 0 A th sd lo le wr ma nu di pl se wg op   hn hT T_m9  F_m9 hA ⟨hsd, hlo, (by omega), ⟨by omega, by omega⟩, ⟨by omega, by omega⟩⟩ (by omega) (by omega)) ⟨cw9B 6 hts mw_689 mw_690 mw_579 rfl rfl (by decide +kernel) ⟨Nat.le_of_ble_eq_true rfl, Nat.le_of_ble_eq_true rfl⟩, hts _ mw_691, hts _ mw_692⟩ (hP_V (q := (R_Mo, F_Mo, 41)) kE_ok hE hK hH F_m9 rfl) rfl rfl hl.1 rfl (lv_room (Nat.le_of_ble_eq_true rfl)) d_Mo_design_452 ⟨Nat.le_of_ble_eq_true rfl, Nat.le_of_ble_eq_true rfl⟩) hLo (fun h_115 H_116 locs hp_118 hH z_117 hLo => ?_)
      have hz : s.heap.size ≤ H_116.size := Nat.le_trans hz z_117
      have hT0 := hT
      obtain ⟨hT, kf_120⟩ := hp_118
      have F_m9 : h_115 m9 = some (.inr (9, mf A n th sd lo le wr ma nu di pl se wg op)) := kf_at kf_120 T_m9 (by decide) (tnc (by decide) tn0) nm0 F_m9
      have F_A4 : h_115 (A 4) = some (.inl ((t 1), 700, .inl g_1)) := kf_at kf_120 (hA 4 (by decide)) (by decide) (tncF (by decide) tn0) nm0 F_A4
      have F_A5 : h_115 (A 5) = some (.inl ((t 1), 700, .inl g_3)) := kf_at kf_120 (hA 5 (by decide)) (by decide) (tncF (by decide) tn0) nm0 F_A5
      have F_A6 : h_115 (A 6) = some (.inl ((t 2), 700, .inl g_5)) := kf_at kf_120 (hA 6 (by decide)) (by decide) (tncF (by decide) tn0) nm0 F_A6
      have F_A7 : h_115 (A 7) = some (.inl ((t 3), 700, .inr (.inl g_6))) := kf_at kf_120 (hA 7 (by decide)) (by decide) (tncF (by decide) tn0) nm0 F_A7
      have F_A14 : h_115 (A 14) = some (.inl ((t 2), 30, .inl g_7)) := kf_at kf_120 (hA 14 (by decide)) (by decide) (tncF (by decide) tn0) nm0 F_A14
      have F_A15 : h_115 (A 15) = some (.inl ((t 2), 700, .inl g_8)) := kf_at kf_120 (hA 15 (by decide)) (by decide) (tncF (by decide) tn0) nm0 F_A15
      have hkf : kf τ [(30, 13)] [] h h_115 := kf_tr hkf kf_120 (List.forall_mem_cons.mpr ⟨List.mem_cons_self, List.forall_mem_nil _⟩) (List.forall_mem_nil _)
      refine lv_aload_n hx hb d_Mo_design_455 rfl (lv_at hl 1 rfl) ?_
      refine lv_iload hx hb d_Mo_design_456 (lv_at hl 0 rfl) ?_
      refine lv_iconst (v := 4) hx hb d_Mo_design_458 (by decide) ?_
      refine lv_iadd hx hb d_Mo_design_459 ?_
      refine lv_topi (fun v_121 e_122 => ?_)
      refine lv_iconst (v := 4) hx hb d_Mo_design_460 (by decide) ?_
      refine lv_iload_n hx hb d_Mo_design_461 rfl (lv_at hl 2 rfl) ?_
      have is_123 : v_121.toInt = v_111.toInt + 4 := by rw [e_122]; exact iAddK 4 rfl (by omega) (by omega)
      refine hm_callv (va_runV (As := [.int v_121, .int 4, .int b9]) (b := m9) (rest := []) ⟨hx, hb, hml, hown, hts⟩ (m_low l D t G ak av h_115 τ n m9 v_121 4 b9 A th sd lo le wr ma nu di pl se wg op   hn hT T_m9  F_m9 hA ⟨hsd, hlo, (by omega), ⟨by omega, by omega⟩, ⟨by omega, by omega⟩⟩ (by have l0 : (4 : Int32).toInt = 4 := rfl; omega) (by have l0 : (4 : Int32).toInt = 4 := rfl; omega)) ⟨cw9B 3 hts mw_647 mw_648 mw_579 rfl rfl (by decide +kernel) ⟨Nat.le_of_ble_eq_true rfl, Nat.le_of_ble_eq_true rfl⟩, hts _ mw_649, hts _ mw_650⟩ (hP_V (q := (R_Mo, F_Mo, 41)) kE_ok hE hK hH F_m9 rfl) rfl rfl hl.1 rfl (lv_room (Nat.le_of_ble_eq_true rfl)) d_Mo_design_462 ⟨Nat.le_of_ble_eq_true rfl, Nat.le_of_ble_eq_true rfl⟩) hLo (fun h_124 H_125 locs hp_127 hH z_126 hLo => ?_)
      have hz : s.heap.size ≤ H_125.size := Nat.le_trans hz z_126
      have hT0 := hT
      obtain ⟨hT, kf_129⟩ := hp_127
      have F_m9 : h_124 m9 = some (.inr (9, mf A n th sd lo le wr ma nu di pl se wg op)) := kf_at kf_129 T_m9 (by decide) (tnc (by decide) tn0) nm0 F_m9
      have F_A4 : h_124 (A 4) = some (.inl ((t 1), 700, .inl g_1)) := kf_at kf_129 (hA 4 (by decide)) (by decide) (tncF (by decide) tn0) nm0 F_A4
      have F_A5 : h_124 (A 5) = some (.inl ((t 1), 700, .inl g_3)) := kf_at kf_129 (hA 5 (by decide)) (by decide) (tncF (by decide) tn0) nm0 F_A5
      have F_A6 : h_124 (A 6) = some (.inl ((t 2), 700, .inl g_5)) := kf_at kf_129 (hA 6 (by decide)) (by decide) (tncF (by decide) tn0) nm0 F_A6
      have F_A7 : h_124 (A 7) = some (.inl ((t 3), 700, .inr (.inl g_6))) := kf_at kf_129 (hA 7 (by decide)) (by decide) (tncF (by decide) tn0) nm0 F_A7
      have F_A14 : h_124 (A 14) = some (.inl ((t 2), 30, .inl g_7)) := kf_at kf_129 (hA 14 (by decide)) (by decide) (tncF (by decide) tn0) nm0 F_A14
      have F_A15 : h_124 (A 15) = some (.inl ((t 2), 700, .inl g_8)) := kf_at kf_129 (hA 15 (by decide)) (by decide) (tncF (by decide) tn0) nm0 F_A15
      have hkf : kf τ [(30, 13)] [] h h_124 := kf_tr hkf kf_129 (List.forall_mem_cons.mpr ⟨List.mem_cons_self, List.forall_mem_nil _⟩) (List.forall_mem_nil _)
      refine lv_aload_n hx hb d_Mo_design_465 rfl (lv_at hl 1 rfl) ?_
      refine lv_iload hx hb d_Mo_design_466 (lv_at hl 0 rfl) ?_
      refine lv_bipush (v := 8) hx hb d_Mo_design_468 (by decide) ?_
      refine lv_iadd hx hb d_Mo_design_470 ?_
      refine lv_topi (fun v_130 e_131 => ?_)
      refine lv_iconst (v := 4) hx hb d_Mo_design_471 (by decide) ?_
      refine lv_iload_n hx hb d_Mo_design_472 rfl (lv_at hl 4 rfl) ?_
      have is_132 : v_130.toInt = v_111.toInt + 8 := by rw [e_131]; exact iAddK 8 rfl (by omega) (by omega)
      refine hm_callv (va_runV (As := [.int v_130, .int 4, .int u9]) (b := m9) (rest := []) ⟨hx, hb, hml, hown, hts⟩ (m_low l D t G ak av h_124 τ n m9 v_130 4 u9 A th sd lo le wr ma nu di pl se wg op   hn hT T_m9  F_m9 hA ⟨hsd, hlo, (by omega), ⟨by omega, by omega⟩, ⟨by omega, by omega⟩⟩ (by have l0 : (4 : Int32).toInt = 4 := rfl; omega) (by have l0 : (4 : Int32).toInt = 4 := rfl; omega)) ⟨cw9B 3 hts mw_647 mw_648 mw_579 rfl rfl (by decide +kernel) ⟨Nat.le_of_ble_eq_true rfl, Nat.le_of_ble_eq_true rfl⟩, hts _ mw_649, hts _ mw_650⟩ (hP_V (q := (R_Mo, F_Mo, 41)) kE_ok hE hK hH F_m9 rfl) rfl rfl hl.1 rfl (lv_room (Nat.le_of_ble_eq_true rfl)) d_Mo_design_473 ⟨Nat.le_of_ble_eq_true rfl, Nat.le_of_ble_eq_true rfl⟩) hLo (fun h_133 H_134 locs hp_136 hH z_135 hLo => ?_)
      have hz : s.heap.size ≤ H_134.size := Nat.le_trans hz z_135
      have hT0 := hT
      obtain ⟨hT, kf_138⟩ := hp_136
      have F_m9 : h_133 m9 = some (.inr (9, mf A n th sd lo le wr ma nu di pl se wg op)) := kf_at kf_138 T_m9 (by decide) (tnc (by decide) tn0) nm0 F_m9
      have F_A4 : h_133 (A 4) = some (.inl ((t 1), 700, .inl g_1)) := kf_at kf_138 (hA 4 (by decide)) (by decide) (tncF (by decide) tn0) nm0 F_A4
      have F_A5 : h_133 (A 5) = some (.inl ((t 1), 700, .inl g_3)) := kf_at kf_138 (hA 5 (by decide)) (by decide) (tncF (by decide) tn0) nm0 F_A5
      have F_A6 : h_133 (A 6) = some (.inl ((t 2), 700, .inl g_5)) := kf_at kf_138 (hA 6 (by decide)) (by decide) (tncF (by decide) tn0) nm0 F_A6
      have F_A7 : h_133 (A 7) = some (.inl ((t 3), 700, .inr (.inl g_6))) := kf_at kf_138 (hA 7 (by decide)) (by decide) (tncF (by decide) tn0) nm0 F_A7
      have F_A14 : h_133 (A 14) = some (.inl ((t 2), 30, .inl g_7)) := kf_at kf_138 (hA 14 (by decide)) (by decide) (tncF (by decide) tn0) nm0 F_A14
      have F_A15 : h_133 (A 15) = some (.inl ((t 2), 700, .inl g_8)) := kf_at kf_138 (hA 15 (by decide)) (by decide) (tncF (by decide) tn0) nm0 F_A15
      have hkf : kf τ [(30, 13)] [] h h_133 := kf_tr hkf kf_138 (List.forall_mem_cons.mpr ⟨List.mem_cons_self, List.forall_mem_nil _⟩) (List.forall_mem_nil _)
      exact W.vret hx hb hr (fun t9 ht hW => ⟨h_133, rfl, ⟨hT, hkf⟩, by rw [ht]; exact hH, by rw [ht]; exact hz⟩) hLo d_Mo_design_476
    · skip
      have ic_139 : i8.toInt < di.toInt := iNe hc_99
      have iu_140 : di.toInt < 2147483648 := iUp _
      refine lv_aload_n hx hb d_Mo_design_167 rfl (lv_at hl 0 rfl) ?_
      refine hm_get (ci := 9) (v := .ref (A 14)) (C := R_Mo) (T := F_Mo) (N := 41) hx hb hts ig_Mo hown hK hH F_m9 rfl 24 (by decide) (hts _ mw_680) (fun _ h9 => h9) rfl d_Mo_design_168 ?_
      refine lv_iload hx hb d_Mo_design_171 (lv_at hl 5 rfl) ?_
      refine hm_iald hx hb hK hH 2 F_A14 rfl (iIn (by omega) (by omega)) d_Mo_design_173 ?_
      refine lv_topi (fun v_141 e_142 => ?_)
      obtain ⟨d1, d2, d3, d4⟩ := tab_d hQ rfl hma (by omega) (toN_lt (by omega) (by omega)) e_142
      refine lv_istore (lv' := [(6, .int v_141), (0, .ref m9), (1, .int b9), (2, .int s9), (3, .int u9), (4, .int p8), (5, .int i8)]) hx hb d_Mo_design_174 hl (by decide) rfl (fun ls hl => ?_)
      refine lv_aload_n hx hb d_Mo_design_176 rfl (lv_at hl 1 rfl) ?_
      refine hm_cut (α := Int32) (fun so8 ls H locs HH => (lv_has ls 10 [(0, .ref m9), (1, .int b9), (2, .int s9), (3, .int u9), (4, .int p8), (5, .int i8), (6, .int v_141)]) ∧ (hm D vwCl G HH H) ∧ (s.heap.size ≤ H.size) ∧ (hLc G.P locs) ∧ (hh158 = HH)) 187 (fun so8 => [.int so8, .ref m9]) ?_ (fun J187 => ?_)
      · skip
        rintro so8 ls H locs HH ⟨hl, hH, hz, hLo, rfl⟩
        refine lv_iload hx hb d_Mo_design_187 (lv_at hl 6 rfl) ?_
        refine hm_callPi (va_runV (As := [.int so8, .int v_141]) (b := m9) (rest := []) ⟨hx, hb, hml, hown, hts⟩ (m_recId l D t G ak av hh158 τ n m9 so8 v_141 A th sd lo le wr ma nu di pl se wg op   hn hT T_m9  F_m9 hA ⟨hsd, hlo, (by omega), ⟨by omega, by omega⟩, ⟨by omega, by omega⟩⟩ (by omega) (by omega)) ⟨cw9B 2 hts mw_658 mw_659 mw_579 rfl rfl (by decide +kernel) ⟨Nat.le_of_ble_eq_true rfl, Nat.le_of_ble_eq_true rfl⟩, hts _ mw_660, hts _ mw_661⟩ (hP_V (q := (R_Mo, F_Mo, 41)) kE_ok hE hK hH F_m9 rfl) rfl rfl hl.1 rfl (lv_room (Nat.le_of_ble_eq_true rfl)) d_Mo_design_189 ⟨Nat.le_of_ble_eq_true rfl, Nat.le_of_ble_eq_true rfl⟩) (fun r_143 h_144 H_145 hp_147  hH z_146 => ?_)
        have hz : s.heap.size ≤ H_145.size := Nat.le_trans hz z_146
        obtain ⟨xp_148, rfl⟩ := hp_147
        obtain ⟨ir1, ir2⟩ := xp_148
        refine lv_istore (lv' := [(7, .int r_143), (0, .ref m9), (1, .int b9), (2, .int s9), (3, .int u9), (4, .int p8), (5, .int i8), (6, .int v_141)]) hx hb d_Mo_design_192 hl (by decide) rfl (fun ls hl => ?_)
        refine hm_cut (α := Int32) (fun up8 ls H locs HH => (lv_has ls 10 [(0, .ref m9), (1, .int b9), (2, .int s9), (3, .int u9), (4, .int p8), (5, .int i8), (6, .int v_141), (7, .int r_143)]) ∧ (hm D vwCl G HH H) ∧ (s.heap.size ≤ H.size) ∧ (hLc G.P locs) ∧ (hh158 = HH)) 214 (fun up8 => [.int up8]) ?_ (fun J214 => ?_)
        · skip
          rintro up8 ls H locs HH ⟨hl, hH, hz, hLo, rfl⟩
          refine lv_istore (lv' := [(8, .int up8), (0, .ref m9), (1, .int b9), (2, .int s9), (3, .int u9), (4, .int p8), (5, .int i8), (6, .int v_141), (7, .int r_143)]) hx hb d_Mo_design_214 hl (by decide) rfl (fun ls hl => ?_)
          refine lv_aload_n hx hb d_Mo_design_216 rfl (lv_at hl 1 rfl) ?_
          refine hm_get (ci := 9) (v := .ref (A 13)) (C := R_Mo) (T := F_Mo) (N := 41) hx hb hts ig_Mo hown hK hH F_m9 rfl 21 (by decide) (hts _ mw_646) (fun _ h9 => h9) rfl d_Mo_design_217 ?_
          refine lv_iload hx hb d_Mo_design_220 (lv_at hl 5 rfl) ?_
          refine lv_iload hx hb d_Mo_design_222 (lv_at hl 8 rfl) ?_
          refine lv_i2b (v := r_143.toInt8.toInt32) hx hb d_Mo_design_224 rfl ?_
          obtain ⟨g_149, F_A13, c_150⟩ := TI_arB (L := 163840) hT (hA 13 (by decide)) rfl rfl
          refine hm_bast hx hb hK hH hLo 0 F_A13 rfl (iIn (by omega) (by omega)) d_Mo_design_225 (fun H_151 locs hH z_152 hLo => ?_)
          have hz : s.heap.size ≤ H_151.size := by rw [z_152]; exact hz
          obtain ⟨h_153, e_154⟩ : ∃ z, z = hu hh158 (A 13) (.inl ((t 0), 163840, .inl (upd g_149 p8.toNatClampNeg (vp_nar .byte r_143.toInt8.toInt32)))) := ⟨_, rfl⟩
          have hH : hm D vwCl G h_153 H_151 := by rw [e_154]; exact hH
          have F_m9 : h_153 m9 = some (.inr (9, mf A n th sd lo le wr ma nu di pl se wg op)) := by rw [e_154, hu_n (tne T_m9 (hA 13 (by decide)) (by decide))]; exact F_m9
          have F_A4 : h_153 (A 4) = some (.inl ((t 1), 700, .inl g_1)) := by rw [e_154, hu_n (tneF (hA 4 (by decide)) (hA 13 (by decide)) (by decide))]; exact F_A4
          have F_A5 : h_153 (A 5) = some (.inl ((t 1), 700, .inl g_3)) := by rw [e_154, hu_n (tneF (hA 5 (by decide)) (hA 13 (by decide)) (by decide))]; exact F_A5
          have F_A6 : h_153 (A 6) = some (.inl ((t 2), 700, .inl g_5)) := by rw [e_154, hu_n (tneF (hA 6 (by decide)) (hA 13 (by decide)) (by decide))]; exact F_A6
          have F_A7 : h_153 (A 7) = some (.inl ((t 3), 700, .inr (.inl g_6))) := by rw [e_154, hu_n (tneF (hA 7 (by decide)) (hA 13 (by decide)) (by decide))]; exact F_A7
          have F_A14 : h_153 (A 14) = some (.inl ((t 2), 30, .inl g_7)) := by rw [e_154, hu_n (tneF (hA 14 (by decide)) (hA 13 (by decide)) (by decide))]; exact F_A14
          have F_A15 : h_153 (A 15) = some (.inl ((t 2), 700, .inl g_8)) := by rw [e_154, hu_n (tneF (hA 15 (by decide)) (hA 13 (by decide)) (by decide))]; exact F_A15
          have F_A13 : h_153 (A 13) = some (.inl ((t 0), 163840, .inl (upd g_149 p8.toNatClampNeg (vp_nar .byte r_143.toInt8.toInt32)))) := by rw [e_154]; exact hu_s _ _ _
          have hT : TI τ t n h_153 := by rw [e_154]; exact TI_put hT (hA 13 (by decide)) (by decide) (ok_B rfl rfl (sb_fitU c_150 (fitNar _)))
          have hkf : kf τ [(30, 13)] [] h h_153 := by rw [e_154]; exact kf_put hkf (hA 13 (by decide)) List.mem_cons_self
          obtain ⟨g_155, e_156⟩ : ∃ z, z = upd g_149 p8.toNatClampNeg (vp_nar .byte r_143.toInt8.toInt32) := ⟨_, rfl⟩
          rw [← e_156] at F_A13
          have c_157 : sb_Fit g_155 := by rw [e_156]; exact (sb_fitU c_150 (fitNar _))
          refine lv_aload_n hx hb d_Mo_design_226 rfl (lv_at hl 1 rfl) ?_
          refine hm_get (ci := 9) (v := .ref (A 13)) (C := R_Mo) (T := F_Mo) (N := 41) hx hb hts ig_Mo hown hK hH F_m9 rfl 21 (by decide) (hts _ mw_646) (fun _ h9 => h9) rfl d_Mo_design_227 ?_
          refine lv_iload hx hb d_Mo_design_230 (lv_at hl 5 rfl) ?_
          refine lv_sipush (v := 2048) hx hb d_Mo_design_232 (by decide) ?_
          refine lv_iadd hx hb d_Mo_design_235 ?_
          refine lv_topi (fun v_158 e_159 => ?_)
          refine lv_iload hx hb d_Mo_design_236 (lv_at hl 8 rfl) ?_
          refine lv_i2b (v := r_143.toInt8.toInt32) hx hb d_Mo_design_238 rfl ?_
          have is_160 : v_158.toInt = p8.toInt + 2048 := by rw [e_159]; exact iAddK 2048 rfl (by omega) (by omega)
          refine hm_bast hx hb hK hH hLo 0 F_A13 rfl (iIn (by omega) (by omega)) d_Mo_design_239 (fun H_161 locs hH z_162 hLo => ?_)
          have hz : s.heap.size ≤ H_161.size := by rw [z_162]; exact hz
          obtain ⟨h_163, e_164⟩ : ∃ z, z = hu h_153 (A 13) (.inl ((t 0), 163840, .inl (upd g_155 v_158.toNatClampNeg (vp_nar .byte r_143.toInt8.toInt32)))) := ⟨_, rfl⟩
          have hH : hm D vwCl G h_163 H_161 := by rw [e_164]; exact hH
          have F_m9 : h_163 m9 = some (.inr (9, mf A n th sd lo le wr ma nu di pl se wg op)) := by rw [e_164, hu_n (tne T_m9 (hA 13 (by decide)) (by decide))]; exact F_m9
          have F_A4 : h_163 (A 4) = some (.inl ((t 1), 700, .inl g_1)) := by rw [e_164, hu_n (tneF (hA 4 (by decide)) (hA 13 (by decide)) (by decide))]; exact F_A4
          have F_A5 : h_163 (A 5) = some (.inl ((t 1), 700, .inl g_3)) := by rw [e_164, hu_n (tneF (hA 5 (by decide)) (hA 13 (by decide)) (by decide))]; exact F_A5
          have F_A6 : h_163 (A 6) = some (.inl ((t 2), 700, .inl g_5)) := by rw [e_164, hu_n (tneF (hA 6 (by decide)) (hA 13 (by decide)) (by decide))]; exact F_A6
          have F_A7 : h_163 (A 7) = some (.inl ((t 3), 700, .inr (.inl g_6))) := by rw [e_164, hu_n (tneF (hA 7 (by decide)) (hA 13 (by decide)) (by decide))]; exact F_A7
          have F_A14 : h_163 (A 14) = some (.inl ((t 2), 30, .inl g_7)) := by rw [e_164, hu_n (tneF (hA 14 (by decide)) (hA 13 (by decide)) (by decide))]; exact F_A14
          have F_A15 : h_163 (A 15) = some (.inl ((t 2), 700, .inl g_8)) := by rw [e_164, hu_n (tneF (hA 15 (by decide)) (hA 13 (by decide)) (by decide))]; exact F_A15
          have F_A13 : h_163 (A 13) = some (.inl ((t 0), 163840, .inl (upd g_155 v_158.toNatClampNeg (vp_nar .byte r_143.toInt8.toInt32)))) := by rw [e_164]; exact hu_s _ _ _
          have hT : TI τ t n h_163 := by rw [e_164]; exact TI_put hT (hA 13 (by decide)) (by decide) (ok_B rfl rfl (sb_fitU c_157 (fitNar _)))
          have hkf : kf τ [(30, 13)] [] h h_163 := by rw [e_164]; exact kf_put hkf (hA 13 (by decide)) List.mem_cons_self
          obtain ⟨g_165, e_166⟩ : ∃ z, z = upd g_155 v_158.toNatClampNeg (vp_nar .byte r_143.toInt8.toInt32) := ⟨_, rfl⟩
          rw [← e_166] at F_A13
          have c_167 : sb_Fit g_165 := by rw [e_166]; exact (sb_fitU c_157 (fitNar _))
          refine lv_aload_n hx hb d_Mo_design_240 rfl (lv_at hl 1 rfl) ?_
          refine lv_iload hx hb d_Mo_design_241 (lv_at hl 5 rfl) ?_
          refine lv_iconst (v := 2) hx hb d_Mo_design_243 (by decide) ?_
          refine lv_iadd hx hb d_Mo_design_244 ?_
          refine lv_topi (fun v_168 e_169 => ?_)
          refine lv_iconst (v := 4) hx hb d_Mo_design_245 (by decide) ?_
          refine lv_aload_n hx hb d_Mo_design_246 rfl (lv_at hl 1 rfl) ?_
          refine hm_get (ci := 9) (v := .ref (A 15)) (C := R_Mo) (T := F_Mo) (N := 41) hx hb hts ig_Mo hown hK hH F_m9 rfl 25 (by decide) (hts _ mw_670) (fun _ h9 => h9) rfl d_Mo_design_247 ?_
          refine lv_iload hx hb d_Mo_design_250 (lv_at hl 7 rfl) ?_
          refine hm_iald hx hb hK hH 2 F_A15 rfl (iIn (by omega) (by omega)) d_Mo_design_252 ?_
          refine lv_topi (fun v_170 e_171 => ?_)
          have is_172 : v_168.toInt = p8.toInt + 2 := by rw [e_169]; exact iAddK 2 rfl (by omega) (by omega)
          refine hm_callv (va_runV (As := [.int v_168, .int 4, .int v_170]) (b := m9) (rest := []) ⟨hx, hb, hml, hown, hts⟩ (m_low l D t G ak av h_163 τ n m9 v_168 4 v_170 A th sd lo le wr ma nu di pl se wg op   hn hT T_m9  F_m9 hA ⟨hsd, hlo, (by omega), ⟨by omega, by omega⟩, ⟨by omega, by omega⟩⟩ (by have l0 : (4 : Int32).toInt = 4 := rfl; omega) (by have l0 : (4 : Int32).toInt = 4 := rfl; omega)) ⟨cw9B 3 hts mw_647 mw_648 mw_579 rfl rfl (by decide +kernel) ⟨Nat.le_of_ble_eq_true rfl, Nat.le_of_ble_eq_true rfl⟩, hts _ mw_649, hts _ mw_650⟩ (hP_V (q := (R_Mo, F_Mo, 41)) kE_ok hE hK hH F_m9 rfl) rfl rfl hl.1 rfl (lv_room (Nat.le_of_ble_eq_true rfl)) d_Mo_design_253 ⟨Nat.le_of_ble_eq_true rfl, Nat.le_of_ble_eq_true rfl⟩) hLo (fun h_173 H_174 locs hp_176 hH z_175 hLo => ?_)
          have hz : s.heap.size ≤ H_174.size := Nat.le_trans hz z_175
          have hT0 := hT
          obtain ⟨hT, kf_178⟩ := hp_176
          have F_m9 : h_173 m9 = some (.inr (9, mf A n th sd lo le wr ma nu di pl se wg op)) := kf_at kf_178 T_m9 (by decide) (tnc (by decide) tn0) nm0 F_m9
          have F_A4 : h_173 (A 4) = some (.inl ((t 1), 700, .inl g_1)) := kf_at kf_178 (hA 4 (by decide)) (by decide) (tncF (by decide) tn0) nm0 F_A4
          have F_A5 : h_173 (A 5) = some (.inl ((t 1), 700, .inl g_3)) := kf_at kf_178 (hA 5 (by decide)) (by decide) (tncF (by decide) tn0) nm0 F_A5
          have F_A6 : h_173 (A 6) = some (.inl ((t 2), 700, .inl g_5)) := kf_at kf_178 (hA 6 (by decide)) (by decide) (tncF (by decide) tn0) nm0 F_A6
          have F_A7 : h_173 (A 7) = some (.inl ((t 3), 700, .inr (.inl g_6))) := kf_at kf_178 (hA 7 (by decide)) (by decide) (tncF (by decide) tn0) nm0 F_A7
          have F_A14 : h_173 (A 14) = some (.inl ((t 2), 30, .inl g_7)) := kf_at kf_178 (hA 14 (by decide)) (by decide) (tncF (by decide) tn0) nm0 F_A14
          have F_A15 : h_173 (A 15) = some (.inl ((t 2), 700, .inl g_8)) := kf_at kf_178 (hA 15 (by decide)) (by decide) (tncF (by decide) tn0) nm0 F_A15
          have hkf : kf τ [(30, 13)] [] h h_173 := kf_tr hkf kf_178 (List.forall_mem_cons.mpr ⟨List.mem_cons_self, List.forall_mem_nil _⟩) (List.forall_mem_nil _)
          refine lv_aload_n hx hb d_Mo_design_256 rfl (lv_at hl 1 rfl) ?_
          refine lv_iload hx hb d_Mo_design_257 (lv_at hl 5 rfl) ?_
          refine lv_sipush (v := 2050) hx hb d_Mo_design_259 (by decide) ?_
          refine lv_iadd hx hb d_Mo_design_262 ?_
          refine lv_topi (fun v_179 e_180 => ?_)
          refine lv_iconst (v := 4) hx hb d_Mo_design_263 (by decide) ?_
          refine lv_aload_n hx hb d_Mo_design_264 rfl (lv_at hl 1 rfl) ?_
          refine hm_get (ci := 9) (v := .ref (A 15)) (C := R_Mo) (T := F_Mo) (N := 41) hx hb hts ig_Mo hown hK hH F_m9 rfl 25 (by decide) (hts _ mw_670) (fun _ h9 => h9) rfl d_Mo_design_265 ?_
          refine lv_iload hx hb d_Mo_design_268 (lv_at hl 7 rfl) ?_
          refine hm_iald hx hb hK hH 2 F_A15 rfl (iIn (by omega) (by omega)) d_Mo_design_270 ?_
          refine lv_topi (fun v_181 e_182 => ?_)
          obtain rfl : v_170 = v_181 := (e_182.trans (e_171.symm)).symm
          have is_183 : v_179.toInt = p8.toInt + 2050 := by rw [e_180]; exact iAddK 2050 rfl (by omega) (by omega)
          refine hm_callv (va_runV (As := [.int v_179, .int 4, .int v_170]) (b := m9) (rest := []) ⟨hx, hb, hml, hown, hts⟩ (m_high l D t G ak av h_173 τ n m9 v_179 4 v_170 A th sd lo le wr ma nu di pl se wg op   hn hT T_m9  F_m9 hA ⟨hsd, hlo, (by omega), ⟨by omega, by omega⟩, ⟨by omega, by omega⟩⟩ (by have l0 : (4 : Int32).toInt = 4 := rfl; omega) (by have l0 : (4 : Int32).toInt = 4 := rfl; omega)) ⟨cw9B 3 hts mw_651 mw_652 mw_579 rfl rfl (by decide +kernel) ⟨Nat.le_of_ble_eq_true rfl, Nat.le_of_ble_eq_true rfl⟩, hts _ mw_653, hts _ mw_654⟩ (hP_V (q := (R_Mo, F_Mo, 41)) kE_ok hE hK hH F_m9 rfl) rfl rfl hl.1 rfl (lv_room (Nat.le_of_ble_eq_true rfl)) d_Mo_design_271 ⟨Nat.le_of_ble_eq_true rfl, Nat.le_of_ble_eq_true rfl⟩) hLo (fun h_184 H_185 locs hp_187 hH z_186 hLo => ?_)
          have hz : s.heap.size ≤ H_185.size := Nat.le_trans hz z_186
          have hT0 := hT
          obtain ⟨hT, kf_189⟩ := hp_187
          have F_m9 : h_184 m9 = some (.inr (9, mf A n th sd lo le wr ma nu di pl se wg op)) := kf_at kf_189 T_m9 (by decide) (tnc (by decide) tn0) nm0 F_m9
          have F_A4 : h_184 (A 4) = some (.inl ((t 1), 700, .inl g_1)) := kf_at kf_189 (hA 4 (by decide)) (by decide) (tncF (by decide) tn0) nm0 F_A4
          have F_A5 : h_184 (A 5) = some (.inl ((t 1), 700, .inl g_3)) := kf_at kf_189 (hA 5 (by decide)) (by decide) (tncF (by decide) tn0) nm0 F_A5
          have F_A6 : h_184 (A 6) = some (.inl ((t 2), 700, .inl g_5)) := kf_at kf_189 (hA 6 (by decide)) (by decide) (tncF (by decide) tn0) nm0 F_A6
          have F_A7 : h_184 (A 7) = some (.inl ((t 3), 700, .inr (.inl g_6))) := kf_at kf_189 (hA 7 (by decide)) (by decide) (tncF (by decide) tn0) nm0 F_A7
          have F_A14 : h_184 (A 14) = some (.inl ((t 2), 30, .inl g_7)) := kf_at kf_189 (hA 14 (by decide)) (by decide) (tncF (by decide) tn0) nm0 F_A14
          have F_A15 : h_184 (A 15) = some (.inl ((t 2), 700, .inl g_8)) := kf_at kf_189 (hA 15 (by decide)) (by decide) (tncF (by decide) tn0) nm0 F_A15
          have hkf : kf τ [(30, 13)] [] h h_184 := kf_tr hkf kf_189 (List.forall_mem_cons.mpr ⟨List.mem_cons_self, List.forall_mem_nil _⟩) (List.forall_mem_nil _)
          refine lv_aload_n hx hb d_Mo_design_274 rfl (lv_at hl 1 rfl) ?_
          refine lv_iload hx hb d_Mo_design_275 (lv_at hl 5 rfl) ?_
          refine lv_bipush (v := 6) hx hb d_Mo_design_277 (by decide) ?_
          refine lv_iadd hx hb d_Mo_design_279 ?_
          refine lv_topi (fun v_190 e_191 => ?_)
          refine lv_iconst (v := 2) hx hb d_Mo_design_280 (by decide) ?_
          refine lv_iload hx hb d_Mo_design_281 (lv_at hl 0 rfl) ?_
          have is_192 : v_190.toInt = p8.toInt + 6 := by rw [e_191]; exact iAddK 6 rfl (by omega) (by omega)
          refine hm_callv (va_runV (As := [.int v_190, .int 2, .int up8]) (b := m9) (rest := []) ⟨hx, hb, hml, hown, hts⟩ (m_low l D t G ak av h_184 τ n m9 v_190 2 up8 A th sd lo le wr ma nu di pl se wg op   hn hT T_m9  F_m9 hA ⟨hsd, hlo, (by omega), ⟨by omega, by omega⟩, ⟨by omega, by omega⟩⟩ (by have l0 : (2 : Int32).toInt = 2 := rfl; omega) (by have l0 : (2 : Int32).toInt = 2 := rfl; omega)) ⟨cw9B 3 hts mw_647 mw_648 mw_579 rfl rfl (by decide +kernel) ⟨Nat.le_of_ble_eq_true rfl, Nat.le_of_ble_eq_true rfl⟩, hts _ mw_649, hts _ mw_650⟩ (hP_V (q := (R_Mo, F_Mo, 41)) kE_ok hE hK hH F_m9 rfl) rfl rfl hl.1 rfl (lv_room (Nat.le_of_ble_eq_true rfl)) d_Mo_design_283 ⟨Nat.le_of_ble_eq_true rfl, Nat.le_of_ble_eq_true rfl⟩) hLo (fun h_193 H_194 locs hp_196 hH z_195 hLo => ?_)
          have hz : s.heap.size ≤ H_194.size := Nat.le_trans hz z_195
          have hT0 := hT
          obtain ⟨hT, kf_198⟩ := hp_196
          have F_m9 : h_193 m9 = some (.inr (9, mf A n th sd lo le wr ma nu di pl se wg op)) := kf_at kf_198 T_m9 (by decide) (tnc (by decide) tn0) nm0 F_m9
          have F_A4 : h_193 (A 4) = some (.inl ((t 1), 700, .inl g_1)) := kf_at kf_198 (hA 4 (by decide)) (by decide) (tncF (by decide) tn0) nm0 F_A4
          have F_A5 : h_193 (A 5) = some (.inl ((t 1), 700, .inl g_3)) := kf_at kf_198 (hA 5 (by decide)) (by decide) (tncF (by decide) tn0) nm0 F_A5
          have F_A6 : h_193 (A 6) = some (.inl ((t 2), 700, .inl g_5)) := kf_at kf_198 (hA 6 (by decide)) (by decide) (tncF (by decide) tn0) nm0 F_A6
          have F_A7 : h_193 (A 7) = some (.inl ((t 3), 700, .inr (.inl g_6))) := kf_at kf_198 (hA 7 (by decide)) (by decide) (tncF (by decide) tn0) nm0 F_A7
          have F_A14 : h_193 (A 14) = some (.inl ((t 2), 30, .inl g_7)) := kf_at kf_198 (hA 14 (by decide)) (by decide) (tncF (by decide) tn0) nm0 F_A14
          have F_A15 : h_193 (A 15) = some (.inl ((t 2), 700, .inl g_8)) := kf_at kf_198 (hA 15 (by decide)) (by decide) (tncF (by decide) tn0) nm0 F_A15
          have hkf : kf τ [(30, 13)] [] h h_193 := kf_tr hkf kf_198 (List.forall_mem_cons.mpr ⟨List.mem_cons_self, List.forall_mem_nil _⟩) (List.forall_mem_nil _)
          refine lv_aload_n hx hb d_Mo_design_286 rfl (lv_at hl 1 rfl) ?_
          refine lv_iload hx hb d_Mo_design_287 (lv_at hl 5 rfl) ?_
          refine lv_sipush (v := 2054) hx hb d_Mo_design_289 (by decide) ?_
          refine lv_iadd hx hb d_Mo_design_292 ?_
          refine lv_topi (fun v_199 e_200 => ?_)
          refine lv_iconst (v := 2) hx hb d_Mo_design_293 (by decide) ?_
          refine lv_iload hx hb d_Mo_design_294 (lv_at hl 0 rfl) ?_
          have is_201 : v_199.toInt = p8.toInt + 2054 := by rw [e_200]; exact iAddK 2054 rfl (by omega) (by omega)
          refine hm_callv (va_runV (As := [.int v_199, .int 2, .int up8]) (b := m9) (rest := []) ⟨hx, hb, hml, hown, hts⟩ (m_high l D t G ak av h_193 τ n m9 v_199 2 up8 A th sd lo le wr ma nu di pl se wg op   hn hT T_m9  F_m9 hA ⟨hsd, hlo, (by omega), ⟨by omega, by omega⟩, ⟨by omega, by omega⟩⟩ (by have l0 : (2 : Int32).toInt = 2 := rfl; omega) (by have l0 : (2 : Int32).toInt = 2 := rfl; omega)) ⟨cw9B 3 hts mw_651 mw_652 mw_579 rfl rfl (by decide +kernel) ⟨Nat.le_of_ble_eq_true rfl, Nat.le_of_ble_eq_true rfl⟩, hts _ mw_653, hts _ mw_654⟩ (hP_V (q := (R_Mo, F_Mo, 41)) kE_ok hE hK hH F_m9 rfl) rfl rfl hl.1 rfl (lv_room (Nat.le_of_ble_eq_true rfl)) d_Mo_design_296 ⟨Nat.le_of_ble_eq_true rfl, Nat.le_of_ble_eq_true rfl⟩) hLo (fun h_202 H_203 locs hp_205 hH z_204 hLo => ?_)
          have hz : s.heap.size ≤ H_203.size := Nat.le_trans hz z_204
          have hT0 := hT
          obtain ⟨hT, kf_207⟩ := hp_205
          have F_m9 : h_202 m9 = some (.inr (9, mf A n th sd lo le wr ma nu di pl se wg op)) := kf_at kf_207 T_m9 (by decide) (tnc (by decide) tn0) nm0 F_m9
          have F_A4 : h_202 (A 4) = some (.inl ((t 1), 700, .inl g_1)) := kf_at kf_207 (hA 4 (by decide)) (by decide) (tncF (by decide) tn0) nm0 F_A4
          have F_A5 : h_202 (A 5) = some (.inl ((t 1), 700, .inl g_3)) := kf_at kf_207 (hA 5 (by decide)) (by decide) (tncF (by decide) tn0) nm0 F_A5
          have F_A6 : h_202 (A 6) = some (.inl ((t 2), 700, .inl g_5)) := kf_at kf_207 (hA 6 (by decide)) (by decide) (tncF (by decide) tn0) nm0 F_A6
          have F_A7 : h_202 (A 7) = some (.inl ((t 3), 700, .inr (.inl g_6))) := kf_at kf_207 (hA 7 (by decide)) (by decide) (tncF (by decide) tn0) nm0 F_A7
          have F_A14 : h_202 (A 14) = some (.inl ((t 2), 30, .inl g_7)) := kf_at kf_207 (hA 14 (by decide)) (by decide) (tncF (by decide) tn0) nm0 F_A14
          have F_A15 : h_202 (A 15) = some (.inl ((t 2), 700, .inl g_8)) := kf_at kf_207 (hA 15 (by decide)) (by decide) (tncF (by decide) tn0) nm0 F_A15
          have hkf : kf τ [(30, 13)] [] h h_202 := kf_tr hkf kf_207 (List.forall_mem_cons.mpr ⟨List.mem_cons_self, List.forall_mem_nil _⟩) (List.forall_mem_nil _)
          refine lv_iconst (v := 0) hx hb d_Mo_design_299 (by decide) ?_
          refine lv_istore (lv' := [(9, .int 0), (8, .int up8), (0, .ref m9), (1, .int b9), (2, .int s9), (3, .int u9), (4, .int p8), (5, .int i8), (6, .int v_141), (7, .int r_143)]) hx hb d_Mo_design_300 hl (by decide) rfl (fun ls hl => ?_)
          refine hm_loop (fun k302 ls H locs hh302 => ∃ (i7 : Int32), k302 = mU i7 ∧ lv_has ls 10 [(0, .ref m9), (1, .int b9), (2, .int s9), (3, .int u9), (4, .int p8), (5, .int i8), (6, .int v_141), (7, .int r_143), (8, .int up8), (9, .int i7)] ∧ hm D vwCl G hh302 H ∧ s.heap.size ≤ H.size ∧ hLc G.P locs ∧ hh302 m9 = some (.inr (9, mf A n th sd lo le wr ma nu di pl se wg op)) ∧ hh302 (A 4) = some (.inl ((t 1), 700, .inl g_1)) ∧ hh302 (A 5) = some (.inl ((t 1), 700, .inl g_3)) ∧ hh302 (A 6) = some (.inl ((t 2), 700, .inl g_5)) ∧ hh302 (A 7) = some (.inl ((t 3), 700, .inr (.inl g_6))) ∧ hh302 (A 14) = some (.inl ((t 2), 30, .inl g_7)) ∧ hh302 (A 15) = some (.inl ((t 2), 700, .inl g_8)) ∧ (TI τ t n hh302) ∧ (kf τ [(30, 13)] [] h hh302) ∧ (0 ≤ i7.toInt)) ?_ (hh := h_202) ⟨0, rfl, (lv_sub hl [2, 3, 4, 5, 6, 7, 8, 9, 1, 0] rfl), hH, hz, hLo, F_m9, F_A4, F_A5, F_A6, F_A7, F_A14, F_A15, hT, hkf, (by decide)⟩
          rintro k302 ls H locs hh302 ⟨i7, hk302, hl, hH, hz, hLo, F_m9, F_A4, F_A5, F_A6, F_A7, F_A14, F_A15, hT, hkf, I_i7⟩ ih302
          refine lv_iload hx hb d_Mo_design_302 (lv_at hl 9 rfl) ?_
          refine lv_iload hx hb d_Mo_design_304 (lv_at hl 7 rfl) ?_
          refine lv_icmp_ge (tgt := 373) hx hb d_Mo_design_306 (by decide) (fun hc_208 => ?_) (fun hc_208 => ?_)
          · skip
            have ic_209 : r_143.toInt ≤ i7.toInt := iLe hc_208
            refine lv_iload hx hb d_Mo_design_373 (lv_at hl 4 rfl) ?_
            refine lv_bipush (v := 8) hx hb d_Mo_design_375 (by decide) ?_
            refine lv_iload hx hb d_Mo_design_377 (lv_at hl 7 rfl) ?_
            refine hm_callPi (va_runS (As := [.int r_143]) (rest := [.int 8, .int p8]) ⟨hx, hb, hml, hown, hts⟩ (m_even l D t G ak av hh302 τ n r_143    hn hT    ) ⟨cw9B 1 hts mw_662 mw_663 mw_579 rfl rfl (by decide +kernel) ⟨Nat.le_of_ble_eq_true rfl, Nat.le_of_ble_eq_true rfl⟩, hts _ mw_664⟩ (hP_S kE_ok hE hH) rfl rfl hl.1 rfl (lv_room (Nat.le_of_ble_eq_true rfl)) d_Mo_design_379 ⟨Nat.le_of_ble_eq_true rfl, Nat.le_of_ble_eq_true rfl⟩) (fun r_210 h_211 H_212 hp_214  hH z_213 => ?_)
            have hz : s.heap.size ≤ H_212.size := Nat.le_trans hz z_213
            obtain ⟨xp_215, rfl⟩ := hp_214
            have iev := xp_215 (by omega) (by omega)
            refine lv_iadd hx hb d_Mo_design_382 ?_
            refine lv_topi (fun v_216 e_217 => ?_)
            refine lv_iadd hx hb d_Mo_design_383 ?_
            refine lv_topi (fun v_218 e_219 => ?_)
            refine lv_istore (lv' := [(4, .int v_218), (0, .ref m9), (1, .int b9), (2, .int s9), (3, .int u9), (5, .int i8), (6, .int v_141), (7, .int r_143), (8, .int up8), (9, .int i7)]) hx hb d_Mo_design_384 hl (by decide) rfl (fun ls hl => ?_)
            refine lv_aload_n hx hb d_Mo_design_386 rfl (lv_at hl 1 rfl) ?_
            refine lv_iload hx hb d_Mo_design_387 (lv_at hl 6 rfl) ?_
            refine lv_sipush (v := 2048) hx hb d_Mo_design_389 (by decide) ?_
            refine lv_aload_n hx hb d_Mo_design_392 rfl (lv_at hl 1 rfl) ?_
            refine hm_get (ci := 9) (v := .ref (A 15)) (C := R_Mo) (T := F_Mo) (N := 41) hx hb hts ig_Mo hown hK hH F_m9 rfl 25 (by decide) (hts _ mw_670) (fun _ h9 => h9) rfl d_Mo_design_393 ?_
            refine lv_iload hx hb d_Mo_design_396 (lv_at hl 6 rfl) ?_
            refine hm_iald hx hb hK hH 2 F_A15 rfl (iIn (by omega) (by omega)) d_Mo_design_398 ?_
            refine lv_topi (fun v_220 e_221 => ?_)
            have iat := at_q hAt (by omega) (by omega) e_142 e_221
            refine lv_iload_n hx hb d_Mo_design_399 rfl (lv_at hl 2 rfl) ?_
            refine lv_isub hx hb d_Mo_design_400 ?_
            refine lv_topi (fun v_222 e_223 => ?_)
            refine lv_bipush (v := 16) hx hb d_Mo_design_401 (by decide) ?_
            refine lv_isub hx hb d_Mo_design_403 ?_
            refine lv_topi (fun v_224 e_225 => ?_)
            refine lv_imul hx hb d_Mo_design_404 ?_
            refine lv_topi (fun v_226 e_227 => ?_)
            refine lv_iconst (v := 1) hx hb d_Mo_design_405 (by decide) ?_
            have is_228 : v_222.toInt = v_220.toInt - b9.toInt := by rw [e_223]; exact iSub (by omega) (by omega)
            have is_229 : v_224.toInt = v_222.toInt - 16 := by rw [e_225]; exact iDecS 16 rfl (by decide) (by omega)
            have is_230 : v_226.toInt = 2048 * v_224.toInt := by rw [e_227]; exact iMulL 2048 rfl (by omega) (by omega)
            refine hm_calli (va_runV (As := [.int v_141, .int v_226, .int 1]) (b := m9) (rest := []) ⟨hx, hb, hml, hown, hts⟩ (m_along l D t G ak av hh302 τ n m9 v_141 v_226 (1 : Int32) A th sd lo le wr ma nu di pl se wg op   hn hT T_m9 zb1  F_m9 hA ⟨hsd, hlo, (by omega), ⟨by omega, by omega⟩, ⟨by omega, by omega⟩⟩ (by rw [aI_of F_A4, aI_of F_A6]; exact hTm) d1 d2 (by rw [aI_of F_A4]; exact d3) (fun _ => ⟨by omega, by omega⟩)) ⟨cw9B 3 hts mw_685 mw_686 mw_579 rfl rfl (by decide +kernel) ⟨Nat.le_of_ble_eq_true rfl, Nat.le_of_ble_eq_true rfl⟩, hts _ mw_687, hts _ mw_688⟩ (hP_V (q := (R_Mo, F_Mo, 41)) kE_ok hE hK hH F_m9 rfl) rfl rfl hl.1 rfl (lv_room (Nat.le_of_ble_eq_true rfl)) d_Mo_design_406 ⟨Nat.le_of_ble_eq_true rfl, Nat.le_of_ble_eq_true rfl⟩) hLo (fun r_231 h_232 H_233 locs hp_235 hH z_234 hLo => ?_)
            have hz : s.heap.size ≤ H_233.size := Nat.le_trans hz z_234
            have hT0 := hT
            obtain ⟨hT, kf_237, xp_236⟩ := hp_235
            have F_m9 : h_232 m9 = some (.inr (9, mf A n th sd lo le wr ma nu di pl se wg op)) := kf_at kf_237 T_m9 (by decide) (tnc (by decide) tn0) nm0 F_m9
            have F_A4 : h_232 (A 4) = some (.inl ((t 1), 700, .inl g_1)) := kf_at kf_237 (hA 4 (by decide)) (by decide) (tncF (by decide) tn0) nm0 F_A4
            have F_A5 : h_232 (A 5) = some (.inl ((t 1), 700, .inl g_3)) := kf_at kf_237 (hA 5 (by decide)) (by decide) (tncF (by decide) tn0) nm0 F_A5
            have F_A6 : h_232 (A 6) = some (.inl ((t 2), 700, .inl g_5)) := kf_at kf_237 (hA 6 (by decide)) (by decide) (tncF (by decide) tn0) nm0 F_A6
            have F_A7 : h_232 (A 7) = some (.inl ((t 3), 700, .inr (.inl g_6))) := kf_at kf_237 (hA 7 (by decide)) (by decide) (tncF (by decide) tn0) nm0 F_A7
            have F_A14 : h_232 (A 14) = some (.inl ((t 2), 30, .inl g_7)) := kf_at kf_237 (hA 14 (by decide)) (by decide) (tncF (by decide) tn0) nm0 F_A14
            have F_A15 : h_232 (A 15) = some (.inl ((t 2), 700, .inl g_8)) := kf_at kf_237 (hA 15 (by decide)) (by decide) (tncF (by decide) tn0) nm0 F_A15
            have hkf : kf τ [(30, 13)] [] h h_232 := kf_tr hkf kf_237 (List.forall_mem_cons.mpr ⟨List.mem_cons_self, List.forall_mem_nil _⟩) (List.forall_mem_nil _)
            refine lv_pop hx hb d_Mo_design_409 rfl ?_
            obtain ⟨j_238, e_239⟩ : ∃ z : Int32, z = i8 + 1 := ⟨_, rfl⟩
            refine lv_iinc (v := j_238) (lv' := [(5, .int j_238), (4, .int v_218), (0, .ref m9), (1, .int b9), (2, .int s9), (3, .int u9), (6, .int v_141), (7, .int r_143), (8, .int up8), (9, .int i7)]) hx hb d_Mo_design_410 hl (k := 5) rfl e_239.symm (by decide) rfl (fun ls hl => ?_)
            refine lv_goto (tgt := 158) hx hb d_Mo_design_413 (by decide) ?_
            have is_240 : v_216.toInt = 8 + r_210.toInt := by rw [e_217]; exact iAddL 8 rfl (by omega) (by omega)
            have is_241 : v_218.toInt = p8.toInt + v_216.toInt := by rw [e_219]; exact iAdd (by omega) (by omega)
            have is_242 : j_238.toInt = i8.toInt + 1 := by rw [e_239]; exact iAddK 1 rfl (by omega) (by omega)
            exact ih158 (mU j_238) ls _ locs _ (by rw [hk158]; exact mU_lt (by omega)) ⟨v_218, j_238, rfl, (lv_sub hl [2, 3, 4, 5, 1, 0] rfl), hH, hz, hLo, F_m9, F_A4, F_A5, F_A6, F_A7, F_A14, F_A15, hT, hkf, ⟨by omega, by omega, by omega⟩⟩
          · skip
            have ic_243 : i7.toInt < r_143.toInt := iNe hc_208
            have iu_244 : r_143.toInt < 2147483648 := iUp _
            refine lv_iload hx hb d_Mo_design_309 (lv_at hl 6 rfl) ?_
            refine lv_if_le (tgt := 373) hx hb d_Mo_design_311 (by decide) (fun hc_245 => ?_) (fun hc_245 => ?_)
            · skip
              have ic_246 : v_141.toInt ≤ 0 := iLe hc_245
              refine lv_iload hx hb d_Mo_design_373 (lv_at hl 4 rfl) ?_
              refine lv_bipush (v := 8) hx hb d_Mo_design_375 (by decide) ?_
              refine lv_iload hx hb d_Mo_design_377 (lv_at hl 7 rfl) ?_
              refine hm_callPi (va_runS (As := [.int r_143]) (rest := [.int 8, .int p8]) ⟨hx, hb, hml, hown, hts⟩ (m_even l D t G ak av hh302 τ n r_143    hn hT    ) ⟨cw9B 1 hts mw_662 mw_663 mw_579 rfl rfl (by decide +kernel) ⟨Nat.le_of_ble_eq_true rfl, Nat.le_of_ble_eq_true rfl⟩, hts _ mw_664⟩ (hP_S kE_ok hE hH) rfl rfl hl.1 rfl (lv_room (Nat.le_of_ble_eq_true rfl)) d_Mo_design_379 ⟨Nat.le_of_ble_eq_true rfl, Nat.le_of_ble_eq_true rfl⟩) (fun r_247 h_248 H_249 hp_251  hH z_250 => ?_)
              have hz : s.heap.size ≤ H_249.size := Nat.le_trans hz z_250
              obtain ⟨xp_252, rfl⟩ := hp_251
              have iev := xp_252 (by omega) (by omega)
              refine lv_iadd hx hb d_Mo_design_382 ?_
              refine lv_topi (fun v_253 e_254 => ?_)
              refine lv_iadd hx hb d_Mo_design_383 ?_
              refine lv_topi (fun v_255 e_256 => ?_)
              refine lv_istore (lv' := [(4, .int v_255), (0, .ref m9), (1, .int b9), (2, .int s9), (3, .int u9), (5, .int i8), (6, .int v_141), (7, .int r_143), (8, .int up8), (9, .int i7)]) hx hb d_Mo_design_384 hl (by decide) rfl (fun ls hl => ?_)
              refine lv_aload_n hx hb d_Mo_design_386 rfl (lv_at hl 1 rfl) ?_
              refine lv_iload hx hb d_Mo_design_387 (lv_at hl 6 rfl) ?_
              refine lv_sipush (v := 2048) hx hb d_Mo_design_389 (by decide) ?_
              refine lv_aload_n hx hb d_Mo_design_392 rfl (lv_at hl 1 rfl) ?_
              refine hm_get (ci := 9) (v := .ref (A 15)) (C := R_Mo) (T := F_Mo) (N := 41) hx hb hts ig_Mo hown hK hH F_m9 rfl 25 (by decide) (hts _ mw_670) (fun _ h9 => h9) rfl d_Mo_design_393 ?_
              refine lv_iload hx hb d_Mo_design_396 (lv_at hl 6 rfl) ?_
              refine hm_iald hx hb hK hH 2 F_A15 rfl (iIn (by omega) (by omega)) d_Mo_design_398 ?_
              refine lv_topi (fun v_257 e_258 => ?_)
              have iat := at_q hAt (by omega) (by omega) e_142 e_258
              refine lv_iload_n hx hb d_Mo_design_399 rfl (lv_at hl 2 rfl) ?_
              refine lv_isub hx hb d_Mo_design_400 ?_
              refine lv_topi (fun v_259 e_260 => ?_)
              refine lv_bipush (v := 16) hx hb d_Mo_design_401 (by decide) ?_
              refine lv_isub hx hb d_Mo_design_403 ?_
              refine lv_topi (fun v_261 e_262 => ?_)
              refine lv_imul hx hb d_Mo_design_404 ?_
              refine lv_topi (fun v_263 e_264 => ?_)
              refine lv_iconst (v := 1) hx hb d_Mo_design_405 (by decide) ?_
              have is_265 : v_259.toInt = v_257.toInt - b9.toInt := by rw [e_260]; exact iSub (by omega) (by omega)
              have is_266 : v_261.toInt = v_259.toInt - 16 := by rw [e_262]; exact iDecS 16 rfl (by decide) (by omega)
              have is_267 : v_263.toInt = 2048 * v_261.toInt := by rw [e_264]; exact iMulL 2048 rfl (by omega) (by omega)
              refine hm_calli (va_runV (As := [.int v_141, .int v_263, .int 1]) (b := m9) (rest := []) ⟨hx, hb, hml, hown, hts⟩ (m_along l D t G ak av hh302 τ n m9 v_141 v_263 (1 : Int32) A th sd lo le wr ma nu di pl se wg op   hn hT T_m9 zb1  F_m9 hA ⟨hsd, hlo, (by omega), ⟨by omega, by omega⟩, ⟨by omega, by omega⟩⟩ (by rw [aI_of F_A4, aI_of F_A6]; exact hTm) d1 d2 (by rw [aI_of F_A4]; exact d3) (fun _ => ⟨by omega, by omega⟩)) ⟨cw9B 3 hts mw_685 mw_686 mw_579 rfl rfl (by decide +kernel) ⟨Nat.le_of_ble_eq_true rfl, Nat.le_of_ble_eq_true rfl⟩, hts _ mw_687, hts _ mw_688⟩ (hP_V (q := (R_Mo, F_Mo, 41)) kE_ok hE hK hH F_m9 rfl) rfl rfl hl.1 rfl (lv_room (Nat.le_of_ble_eq_true rfl)) d_Mo_design_406 ⟨Nat.le_of_ble_eq_true rfl, Nat.le_of_ble_eq_true rfl⟩) hLo (fun r_268 h_269 H_270 locs hp_272 hH z_271 hLo => ?_)
              have hz : s.heap.size ≤ H_270.size := Nat.le_trans hz z_271
              have hT0 := hT
              obtain ⟨hT, kf_274, xp_273⟩ := hp_272
              have F_m9 : h_269 m9 = some (.inr (9, mf A n th sd lo le wr ma nu di pl se wg op)) := kf_at kf_274 T_m9 (by decide) (tnc (by decide) tn0) nm0 F_m9
              have F_A4 : h_269 (A 4) = some (.inl ((t 1), 700, .inl g_1)) := kf_at kf_274 (hA 4 (by decide)) (by decide) (tncF (by decide) tn0) nm0 F_A4
              have F_A5 : h_269 (A 5) = some (.inl ((t 1), 700, .inl g_3)) := kf_at kf_274 (hA 5 (by decide)) (by decide) (tncF (by decide) tn0) nm0 F_A5
              have F_A6 : h_269 (A 6) = some (.inl ((t 2), 700, .inl g_5)) := kf_at kf_274 (hA 6 (by decide)) (by decide) (tncF (by decide) tn0) nm0 F_A6
              have F_A7 : h_269 (A 7) = some (.inl ((t 3), 700, .inr (.inl g_6))) := kf_at kf_274 (hA 7 (by decide)) (by decide) (tncF (by decide) tn0) nm0 F_A7
              have F_A14 : h_269 (A 14) = some (.inl ((t 2), 30, .inl g_7)) := kf_at kf_274 (hA 14 (by decide)) (by decide) (tncF (by decide) tn0) nm0 F_A14
              have F_A15 : h_269 (A 15) = some (.inl ((t 2), 700, .inl g_8)) := kf_at kf_274 (hA 15 (by decide)) (by decide) (tncF (by decide) tn0) nm0 F_A15
              have hkf : kf τ [(30, 13)] [] h h_269 := kf_tr hkf kf_274 (List.forall_mem_cons.mpr ⟨List.mem_cons_self, List.forall_mem_nil _⟩) (List.forall_mem_nil _)
              refine lv_pop hx hb d_Mo_design_409 rfl ?_
              obtain ⟨j_275, e_276⟩ : ∃ z : Int32, z = i8 + 1 := ⟨_, rfl⟩
              refine lv_iinc (v := j_275) (lv' := [(5, .int j_275), (4, .int v_255), (0, .ref m9), (1, .int b9), (2, .int s9), (3, .int u9), (6, .int v_141), (7, .int r_143), (8, .int up8), (9, .int i7)]) hx hb d_Mo_design_410 hl (k := 5) rfl e_276.symm (by decide) rfl (fun ls hl => ?_)
              refine lv_goto (tgt := 158) hx hb d_Mo_design_413 (by decide) ?_
              have is_277 : v_253.toInt = 8 + r_247.toInt := by rw [e_254]; exact iAddL 8 rfl (by omega) (by omega)
              have is_278 : v_255.toInt = p8.toInt + v_253.toInt := by rw [e_256]; exact iAdd (by omega) (by omega)
              have is_279 : j_275.toInt = i8.toInt + 1 := by rw [e_276]; exact iAddK 1 rfl (by omega) (by omega)
              exact ih158 (mU j_275) ls _ locs _ (by rw [hk158]; exact mU_lt (by omega)) ⟨v_255, j_275, rfl, (lv_sub hl [2, 3, 4, 5, 1, 0] rfl), hH, hz, hLo, F_m9, F_A4, F_A5, F_A6, F_A7, F_A14, F_A15, hT, hkf, ⟨by omega, by omega, by omega⟩⟩
            · skip
              have ic_280 : 0 < v_141.toInt := iNe hc_245
              have iu_281 : v_141.toInt < 2147483648 := iUp _
              refine lv_aload_n hx hb d_Mo_design_314 rfl (lv_at hl 0 rfl) ?_
              refine hm_get (ci := 9) (v := .ref (A 13)) (C := R_Mo) (T := F_Mo) (N := 41) hx hb hts ig_Mo hown hK hH F_m9 rfl 21 (by decide) (hts _ mw_646) (fun _ h9 => h9) rfl d_Mo_design_315 ?_
              refine lv_iload hx hb d_Mo_design_318 (lv_at hl 4 rfl) ?_
              refine lv_bipush (v := 8) hx hb d_Mo_design_320 (by decide) ?_
              refine lv_iadd hx hb d_Mo_design_322 ?_
              refine lv_topi (fun v_282 e_283 => ?_)
              refine lv_iload hx hb d_Mo_design_323 (lv_at hl 9 rfl) ?_
              refine lv_iadd hx hb d_Mo_design_325 ?_
              refine lv_topi (fun v_284 e_285 => ?_)
              refine lv_aload_n hx hb d_Mo_design_326 rfl (lv_at hl 0 rfl) ?_
              refine hm_get (ci := 9) (v := .ref (A 7)) (C := R_Mo) (T := F_Mo) (N := 41) hx hb hts ig_Mo hown hK hH F_m9 rfl 14 (by decide) (hts _ mw_598) (fun _ h9 => h9) rfl d_Mo_design_327 ?_
              refine lv_iload hx hb d_Mo_design_330 (lv_at hl 6 rfl) ?_
              refine hm_lald hx hb hK hH 3 F_A7 rfl (iIn (by omega) (by omega)) d_Mo_design_332 ?_
              refine lv_topl (fun v_286 e_287 => ?_)
              refine lv_iload hx hb d_Mo_design_333 (lv_at hl 9 rfl) ?_
              refine hm_callPi (va_runS (As := [.long v_286, .int i7]) (rest := [.int v_284, .ref (A 13)]) ⟨hx, hb, hml, hown, hts⟩ (m_letter2 l D t G ak av hh302 τ n v_286 i7    hn hT    ) ⟨cw9B 2 hts mw_637 mw_638 mw_579 rfl rfl (by decide +kernel) ⟨Nat.le_of_ble_eq_true rfl, Nat.le_of_ble_eq_true rfl⟩, hts _ mw_639⟩ (hP_S kE_ok hE hH) rfl rfl hl.1 rfl (lv_room (Nat.le_of_ble_eq_true rfl)) d_Mo_design_335 ⟨Nat.le_of_ble_eq_true rfl, Nat.le_of_ble_eq_true rfl⟩) (fun r_288 h_289 H_290 hp_292  hH z_291 => ?_)
              have hz : s.heap.size ≤ H_290.size := Nat.le_trans hz z_291
              obtain ⟨xp_293, rfl⟩ := hp_292
              refine lv_i2b (v := r_288.toInt8.toInt32) hx hb d_Mo_design_338 rfl ?_
              obtain ⟨g_294, F_A13, c_295⟩ := TI_arB (L := 163840) hT (hA 13 (by decide)) rfl rfl
              have is_296 : v_282.toInt = p8.toInt + 8 := by rw [e_283]; exact iAddK 8 rfl (by omega) (by omega)
              have is_297 : v_284.toInt = v_282.toInt + i7.toInt := by rw [e_285]; exact iAdd (by omega) (by omega)
              refine hm_bast hx hb hK hH hLo 0 F_A13 rfl (iIn (by omega) (by omega)) d_Mo_design_339 (fun H_298 locs hH z_299 hLo => ?_)
              have hz : s.heap.size ≤ H_298.size := by rw [z_299]; exact hz
              obtain ⟨h_300, e_301⟩ : ∃ z, z = hu hh302 (A 13) (.inl ((t 0), 163840, .inl (upd g_294 v_284.toNatClampNeg (vp_nar .byte r_288.toInt8.toInt32)))) := ⟨_, rfl⟩
              have hH : hm D vwCl G h_300 H_298 := by rw [e_301]; exact hH
              have F_m9 : h_300 m9 = some (.inr (9, mf A n th sd lo le wr ma nu di pl se wg op)) := by rw [e_301, hu_n (tne T_m9 (hA 13 (by decide)) (by decide))]; exact F_m9
              have F_A4 : h_300 (A 4) = some (.inl ((t 1), 700, .inl g_1)) := by rw [e_301, hu_n (tneF (hA 4 (by decide)) (hA 13 (by decide)) (by decide))]; exact F_A4
              have F_A5 : h_300 (A 5) = some (.inl ((t 1), 700, .inl g_3)) := by rw [e_301, hu_n (tneF (hA 5 (by decide)) (hA 13 (by decide)) (by decide))]; exact F_A5
              have F_A6 : h_300 (A 6) = some (.inl ((t 2), 700, .inl g_5)) := by rw [e_301, hu_n (tneF (hA 6 (by decide)) (hA 13 (by decide)) (by decide))]; exact F_A6
              have F_A7 : h_300 (A 7) = some (.inl ((t 3), 700, .inr (.inl g_6))) := by rw [e_301, hu_n (tneF (hA 7 (by decide)) (hA 13 (by decide)) (by decide))]; exact F_A7
              have F_A14 : h_300 (A 14) = some (.inl ((t 2), 30, .inl g_7)) := by rw [e_301, hu_n (tneF (hA 14 (by decide)) (hA 13 (by decide)) (by decide))]; exact F_A14
              have F_A15 : h_300 (A 15) = some (.inl ((t 2), 700, .inl g_8)) := by rw [e_301, hu_n (tneF (hA 15 (by decide)) (hA 13 (by decide)) (by decide))]; exact F_A15
              have F_A13 : h_300 (A 13) = some (.inl ((t 0), 163840, .inl (upd g_294 v_284.toNatClampNeg (vp_nar .byte r_288.toInt8.toInt32)))) := by rw [e_301]; exact hu_s _ _ _
              have hT : TI τ t n h_300 := by rw [e_301]; exact TI_put hT (hA 13 (by decide)) (by decide) (ok_B rfl rfl (sb_fitU c_295 (fitNar _)))
              have hkf : kf τ [(30, 13)] [] h h_300 := by rw [e_301]; exact kf_put hkf (hA 13 (by decide)) List.mem_cons_self
              obtain ⟨g_302, e_303⟩ : ∃ z, z = upd g_294 v_284.toNatClampNeg (vp_nar .byte r_288.toInt8.toInt32) := ⟨_, rfl⟩
              rw [← e_303] at F_A13
              have c_304 : sb_Fit g_302 := by rw [e_303]; exact (sb_fitU c_295 (fitNar _))
              refine lv_aload_n hx hb d_Mo_design_340 rfl (lv_at hl 0 rfl) ?_
              refine hm_get (ci := 9) (v := .ref (A 13)) (C := R_Mo) (T := F_Mo) (N := 41) hx hb hts ig_Mo hown hK hH F_m9 rfl 21 (by decide) (hts _ mw_646) (fun _ h9 => h9) rfl d_Mo_design_341 ?_
              refine lv_iload hx hb d_Mo_design_344 (lv_at hl 4 rfl) ?_
              refine lv_sipush (v := 2056) hx hb d_Mo_design_346 (by decide) ?_
              refine lv_iadd hx hb d_Mo_design_349 ?_
              refine lv_topi (fun v_305 e_306 => ?_)
              refine lv_iload hx hb d_Mo_design_350 (lv_at hl 9 rfl) ?_
              refine lv_iadd hx hb d_Mo_design_352 ?_
              refine lv_topi (fun v_307 e_308 => ?_)
              refine lv_aload_n hx hb d_Mo_design_353 rfl (lv_at hl 0 rfl) ?_
              refine hm_get (ci := 9) (v := .ref (A 7)) (C := R_Mo) (T := F_Mo) (N := 41) hx hb hts ig_Mo hown hK hH F_m9 rfl 14 (by decide) (hts _ mw_598) (fun _ h9 => h9) rfl d_Mo_design_354 ?_
              refine lv_iload hx hb d_Mo_design_357 (lv_at hl 6 rfl) ?_
              refine hm_lald hx hb hK hH 3 F_A7 rfl (iIn (by omega) (by omega)) d_Mo_design_359 ?_
              refine lv_topl (fun v_309 e_310 => ?_)
              obtain rfl : v_286 = v_309 := (e_310.trans (e_287.symm)).symm
              refine lv_iload hx hb d_Mo_design_360 (lv_at hl 9 rfl) ?_
              refine hm_callPi (va_runS (As := [.long v_286, .int i7]) (rest := [.int v_307, .ref (A 13)]) ⟨hx, hb, hml, hown, hts⟩ (m_letter2 l D t G ak av h_300 τ n v_286 i7    hn hT    ) ⟨cw9B 2 hts mw_637 mw_638 mw_579 rfl rfl (by decide +kernel) ⟨Nat.le_of_ble_eq_true rfl, Nat.le_of_ble_eq_true rfl⟩, hts _ mw_639⟩ (hP_S kE_ok hE hH) rfl rfl hl.1 rfl (lv_room (Nat.le_of_ble_eq_true rfl)) d_Mo_design_362 ⟨Nat.le_of_ble_eq_true rfl, Nat.le_of_ble_eq_true rfl⟩) (fun r_311 h_312 H_313 hp_315  hH z_314 => ?_)
              have hz : s.heap.size ≤ H_313.size := Nat.le_trans hz z_314
              obtain ⟨xp_316, rfl⟩ := hp_315
              refine lv_i2b (v := r_311.toInt8.toInt32) hx hb d_Mo_design_365 rfl ?_
              have is_317 : v_305.toInt = p8.toInt + 2056 := by rw [e_306]; exact iAddK 2056 rfl (by omega) (by omega)
              have is_318 : v_307.toInt = v_305.toInt + i7.toInt := by rw [e_308]; exact iAdd (by omega) (by omega)
              refine hm_bast hx hb hK hH hLo 0 F_A13 rfl (iIn (by omega) (by omega)) d_Mo_design_366 (fun H_319 locs hH z_320 hLo => ?_)
              have hz : s.heap.size ≤ H_319.size := by rw [z_320]; exact hz
              obtain ⟨h_321, e_322⟩ : ∃ z, z = hu h_300 (A 13) (.inl ((t 0), 163840, .inl (upd g_302 v_307.toNatClampNeg (vp_nar .byte r_311.toInt8.toInt32)))) := ⟨_, rfl⟩
              have hH : hm D vwCl G h_321 H_319 := by rw [e_322]; exact hH
              have F_m9 : h_321 m9 = some (.inr (9, mf A n th sd lo le wr ma nu di pl se wg op)) := by rw [e_322, hu_n (tne T_m9 (hA 13 (by decide)) (by decide))]; exact F_m9
              have F_A4 : h_321 (A 4) = some (.inl ((t 1), 700, .inl g_1)) := by rw [e_322, hu_n (tneF (hA 4 (by decide)) (hA 13 (by decide)) (by decide))]; exact F_A4
              have F_A5 : h_321 (A 5) = some (.inl ((t 1), 700, .inl g_3)) := by rw [e_322, hu_n (tneF (hA 5 (by decide)) (hA 13 (by decide)) (by decide))]; exact F_A5
              have F_A6 : h_321 (A 6) = some (.inl ((t 2), 700, .inl g_5)) := by rw [e_322, hu_n (tneF (hA 6 (by decide)) (hA 13 (by decide)) (by decide))]; exact F_A6
              have F_A7 : h_321 (A 7) = some (.inl ((t 3), 700, .inr (.inl g_6))) := by rw [e_322, hu_n (tneF (hA 7 (by decide)) (hA 13 (by decide)) (by decide))]; exact F_A7
              have F_A14 : h_321 (A 14) = some (.inl ((t 2), 30, .inl g_7)) := by rw [e_322, hu_n (tneF (hA 14 (by decide)) (hA 13 (by decide)) (by decide))]; exact F_A14
              have F_A15 : h_321 (A 15) = some (.inl ((t 2), 700, .inl g_8)) := by rw [e_322, hu_n (tneF (hA 15 (by decide)) (hA 13 (by decide)) (by decide))]; exact F_A15
              have F_A13 : h_321 (A 13) = some (.inl ((t 0), 163840, .inl (upd g_302 v_307.toNatClampNeg (vp_nar .byte r_311.toInt8.toInt32)))) := by rw [e_322]; exact hu_s _ _ _
              have hT : TI τ t n h_321 := by rw [e_322]; exact TI_put hT (hA 13 (by decide)) (by decide) (ok_B rfl rfl (sb_fitU c_304 (fitNar _)))
              have hkf : kf τ [(30, 13)] [] h h_321 := by rw [e_322]; exact kf_put hkf (hA 13 (by decide)) List.mem_cons_self
              obtain ⟨g_323, e_324⟩ : ∃ z, z = upd g_302 v_307.toNatClampNeg (vp_nar .byte r_311.toInt8.toInt32) := ⟨_, rfl⟩
              rw [← e_324] at F_A13
              have c_325 : sb_Fit g_323 := by rw [e_324]; exact (sb_fitU c_304 (fitNar _))
              obtain ⟨j_326, e_327⟩ : ∃ z : Int32, z = i7 + 1 := ⟨_, rfl⟩
              refine lv_iinc (v := j_326) (lv' := [(9, .int j_326), (0, .ref m9), (1, .int b9), (2, .int s9), (3, .int u9), (4, .int p8), (5, .int i8), (6, .int v_141), (7, .int r_143), (8, .int up8)]) hx hb d_Mo_design_367 hl (k := 9) rfl e_327.symm (by decide) rfl (fun ls hl => ?_)
              refine lv_goto (tgt := 302) hx hb d_Mo_design_370 (by decide) ?_
              have is_328 : j_326.toInt = i7.toInt + 1 := by rw [e_327]; exact iAddK 1 rfl (by omega) (by omega)
              exact ih302 (mU j_326) ls _ locs _ (by rw [hk302]; exact mU_lt (by omega)) ⟨j_326, rfl, (lv_sub hl [1, 2, 3, 4, 5, 6, 7, 8, 9, 0] rfl), hH, hz, hLo, F_m9, F_A4, F_A5, F_A6, F_A7, F_A14, F_A15, hT, hkf, (by omega)⟩
        · skip
          refine lv_iload hx hb d_Mo_design_194 (lv_at hl 7 rfl) ?_
          refine lv_if_ne (tgt := 203) hx hb d_Mo_design_196 (by decide) (fun hc_329 => ?_) (fun hc_329 => ?_)
          · skip
            refine lv_aload_n hx hb d_Mo_design_203 rfl (lv_at hl 1 rfl) ?_
            refine lv_aload_n hx hb d_Mo_design_204 rfl (lv_at hl 1 rfl) ?_
            refine hm_get (ci := 9) (v := .ref (A 6)) (C := R_Mo) (T := F_Mo) (N := 41) hx hb hts ig_Mo hown hK hH F_m9 rfl 13 (by decide) (hts _ mw_597) (fun _ h9 => h9) rfl d_Mo_design_205 ?_
            refine lv_iload hx hb d_Mo_design_208 (lv_at hl 7 rfl) ?_
            refine hm_iald hx hb hK hH 2 F_A6 rfl (iIn (by omega) (by omega)) d_Mo_design_210 ?_
            refine lv_topi (fun v_330 e_331 => ?_)
            refine hm_callPi (va_runV (As := [.int v_330]) (b := m9) (rest := []) ⟨hx, hb, hml, hown, hts⟩ (m_numOf l D t G ak av hh158 τ n m9 v_330 A th sd lo le wr ma nu di pl se wg op   hn hT T_m9  F_m9 hA ⟨hsd, hlo, (by omega), ⟨by omega, by omega⟩, ⟨by omega, by omega⟩⟩ (by rw [aI_of F_A14, e_331]; exact d4 (fun z => hc_329 (Int32.toInt_inj.mp (by rw [z]; rfl))))) ⟨cw9B 1 hts mw_693 mw_694 mw_579 rfl rfl (by decide +kernel) ⟨Nat.le_of_ble_eq_true rfl, Nat.le_of_ble_eq_true rfl⟩, hts _ mw_695, hts _ mw_696⟩ (hP_V (q := (R_Mo, F_Mo, 41)) kE_ok hE hK hH F_m9 rfl) rfl rfl hl.1 rfl (lv_room (Nat.le_of_ble_eq_true rfl)) d_Mo_design_211 ⟨Nat.le_of_ble_eq_true rfl, Nat.le_of_ble_eq_true rfl⟩) (fun r_332 h_333 H_334 hp_336  hH z_335 => ?_)
            have hz : s.heap.size ≤ H_334.size := Nat.le_trans hz z_335
            obtain rfl := hp_336
            exact J214 r_332 _ _ _ _ ⟨(lv_sub hl [1, 2, 3, 4, 5, 6, 7, 0] rfl), hH, hz, hLo, rfl⟩
          · skip
            have ic_338 : v_141.toInt = 0 := congrArg Int32.toInt hc_329
            refine lv_iconst (v := 1) hx hb d_Mo_design_199 (by decide) ?_
            refine lv_goto (tgt := 214) hx hb d_Mo_design_200 (by decide) ?_
            exact J214 1 _ _ _ _ ⟨(lv_sub hl [1, 2, 3, 4, 5, 6, 7, 0] rfl), hH, hz, hLo, rfl⟩
      · skip
        refine lv_iload hx hb d_Mo_design_177 (lv_at hl 0 rfl) ?_
        refine lv_if_ne (tgt := 186) hx hb d_Mo_design_179 (by decide) (fun hc_339 => ?_) (fun hc_339 => ?_)
        · skip
          refine lv_iconst (v := 2) hx hb d_Mo_design_186 (by decide) ?_
          exact J187 2 _ _ _ _ ⟨(lv_sub hl [1, 2, 3, 4, 5, 6, 0] rfl), hH, hz, hLo, rfl⟩
        · skip
          have ic_340 : v_141.toInt = 0 := congrArg Int32.toInt hc_339
          refine lv_iconst (v := 0) hx hb d_Mo_design_182 (by decide) ?_
          refine lv_goto (tgt := 187) hx hb d_Mo_design_183 (by decide) ?_
          exact J187 0 _ _ _ _ ⟨(lv_sub hl [1, 2, 3, 4, 5, 6, 0] rfl), hH, hz, hLo, rfl⟩
  · skip
    have ic_341 : i9.toInt < v_11.toInt := iNe hc_15
    have iu_342 : v_11.toInt < 2147483648 := iUp _
    refine lv_aload_n hx hb d_Mo_design_16 rfl (lv_at hl 0 rfl) ?_
    refine hm_get (ci := 9) (v := .ref (A 13)) (C := R_Mo) (T := F_Mo) (N := 41) hx hb hts ig_Mo hown hK hH F_m9 rfl 21 (by decide) (hts _ mw_646) (fun _ h9 => h9) rfl d_Mo_design_17 ?_
    refine lv_iload hx hb d_Mo_design_20 (lv_at hl 4 rfl) ?_
    refine lv_iconst (v := 0) hx hb d_Mo_design_22 (by decide) ?_
    obtain ⟨g_343, F_A13, c_344⟩ := TI_arB (L := 163840) hT (hA 13 (by decide)) rfl rfl
    refine hm_bast hx hb hK hH hLo 0 F_A13 rfl (iIn (by omega) (by omega)) d_Mo_design_23 (fun H_345 locs hH z_346 hLo => ?_)
    have hz : s.heap.size ≤ H_345.size := by rw [z_346]; exact hz
    obtain ⟨h_347, e_348⟩ : ∃ z, z = hu hh3 (A 13) (.inl ((t 0), 163840, .inl (upd g_343 i9.toNatClampNeg (vp_nar .byte (0 : Int32))))) := ⟨_, rfl⟩
    have hH : hm D vwCl G h_347 H_345 := by rw [e_348]; exact hH
    have F_m9 : h_347 m9 = some (.inr (9, mf A n th sd lo le wr ma nu di pl se wg op)) := by rw [e_348, hu_n (tne T_m9 (hA 13 (by decide)) (by decide))]; exact F_m9
    have F_A4 : h_347 (A 4) = some (.inl ((t 1), 700, .inl g_1)) := by rw [e_348, hu_n (tneF (hA 4 (by decide)) (hA 13 (by decide)) (by decide))]; exact F_A4
    have F_A5 : h_347 (A 5) = some (.inl ((t 1), 700, .inl g_3)) := by rw [e_348, hu_n (tneF (hA 5 (by decide)) (hA 13 (by decide)) (by decide))]; exact F_A5
    have F_A6 : h_347 (A 6) = some (.inl ((t 2), 700, .inl g_5)) := by rw [e_348, hu_n (tneF (hA 6 (by decide)) (hA 13 (by decide)) (by decide))]; exact F_A6
    have F_A7 : h_347 (A 7) = some (.inl ((t 3), 700, .inr (.inl g_6))) := by rw [e_348, hu_n (tneF (hA 7 (by decide)) (hA 13 (by decide)) (by decide))]; exact F_A7
    have F_A14 : h_347 (A 14) = some (.inl ((t 2), 30, .inl g_7)) := by rw [e_348, hu_n (tneF (hA 14 (by decide)) (hA 13 (by decide)) (by decide))]; exact F_A14
    have F_A15 : h_347 (A 15) = some (.inl ((t 2), 700, .inl g_8)) := by rw [e_348, hu_n (tneF (hA 15 (by decide)) (hA 13 (by decide)) (by decide))]; exact F_A15
    have F_A13 : h_347 (A 13) = some (.inl ((t 0), 163840, .inl (upd g_343 i9.toNatClampNeg (vp_nar .byte (0 : Int32))))) := by rw [e_348]; exact hu_s _ _ _
    have hT : TI τ t n h_347 := by rw [e_348]; exact TI_put hT (hA 13 (by decide)) (by decide) (ok_B rfl rfl (sb_fitU c_344 (fitNar _)))
    have hkf : kf τ [(30, 13)] [] h h_347 := by rw [e_348]; exact kf_put hkf (hA 13 (by decide)) List.mem_cons_self
    obtain ⟨g_349, e_350⟩ : ∃ z, z = upd g_343 i9.toNatClampNeg (vp_nar .byte (0 : Int32)) := ⟨_, rfl⟩
    rw [← e_350] at F_A13
    have c_351 : sb_Fit g_349 := by rw [e_350]; exact (sb_fitU c_344 (fitNar _))
    obtain ⟨j_352, e_353⟩ : ∃ z : Int32, z = i9 + 1 := ⟨_, rfl⟩
    refine lv_iinc (v := j_352) (lv' := [(4, .int j_352), (0, .ref m9), (1, .int b9), (2, .int s9), (3, .int u9)]) hx hb d_Mo_design_24 hl (k := 4) rfl e_353.symm (by decide) rfl (fun ls hl => ?_)
    refine lv_goto (tgt := 3) hx hb d_Mo_design_27 (by decide) ?_
    have is_354 : j_352.toInt = i9.toInt + 1 := by rw [e_353]; exact iAddK 1 rfl (by omega) (by omega)
    exact ih3 (mU j_352) ls _ locs _ (by rw [hk3]; exact mU_lt (by omega)) ⟨j_352, rfl, (lv_sub hl [1, 2, 3, 4, 0] rfl), hH, hz, hLo, F_m9, F_A4, F_A5, F_A6, F_A7, F_A14, F_A15, hT, hkf, (by omega)⟩
