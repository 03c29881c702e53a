set_option maxRecDepth 100000 in
theorem mw_697 : Cond.fieldLink R_Mo 50 "WriteOnceDiscModel" "older" "[I" ∈ lw_g := lw_gin (List.mem_append_right _ (List.mem_of_getElem? (i := 936) rfl)) (by decide +kernel)
set_option maxRecDepth 100000 in
theorem mw_698 : Cond.code y_Mo_get b_Mo_get 2 (some .int) ∈ lw_g := lw_gin (List.mem_append_right _ (List.mem_of_getElem? (i := 1131) rfl)) (by decide +kernel)
set_option maxRecDepth 100000 in
theorem mw_699 : Cond.methodLink R_Mo 225 y_Mo_get ∈ lw_g := lw_gin (List.mem_append_right _ (List.mem_of_getElem? (i := 1128) rfl)) (by decide +kernel)
set_option maxRecDepth 100000 in
theorem mw_700 : Cond.instanceMethod y_Mo_get ∈ lw_g := lw_gin (List.mem_append_right _ (List.mem_of_getElem? (i := 1130) rfl)) (by decide +kernel)
set_option maxRecDepth 100000 in
theorem mw_701 : Cond.selects R_Mo y_Mo_get y_Mo_get ∈ lw_g := lw_gin (List.mem_append_left _ (List.mem_of_getElem? (i := 37) rfl)) (by decide +kernel)
set_option maxRecDepth 100000 in
theorem mw_702 : Cond.code y_Mo_frontOf b_Mo_frontOf 3 (some .int) ∈ lw_g := lw_gin (List.mem_append_right _ (List.mem_of_getElem? (i := 1123) rfl)) (by decide +kernel)
set_option maxRecDepth 100000 in
theorem mw_703 : Cond.methodLink R_Mo 228 y_Mo_frontOf ∈ lw_g := lw_gin (List.mem_append_right _ (List.mem_of_getElem? (i := 1120) rfl)) (by decide +kernel)
set_option maxRecDepth 100000 in
theorem mw_704 : Cond.instanceMethod y_Mo_frontOf ∈ lw_g := lw_gin (List.mem_append_right _ (List.mem_of_getElem? (i := 1122) rfl)) (by decide +kernel)
set_option maxRecDepth 100000 in
theorem mw_705 : Cond.selects R_Mo y_Mo_frontOf y_Mo_frontOf ∈ lw_g := lw_gin (List.mem_append_left _ (List.mem_of_getElem? (i := 35) rfl)) (by decide +kernel)
set_option maxRecDepth 100000 in
theorem mw_706 : Cond.code y_Mo_fill b_Mo_fill 7 none ∈ lw_g := lw_gin (List.mem_append_right _ (List.mem_of_getElem? (i := 1127) rfl)) (by decide +kernel)
set_option maxRecDepth 100000 in
theorem mw_707 : Cond.methodLink R_Mo 231 y_Mo_fill ∈ lw_g := lw_gin (List.mem_append_right _ (List.mem_of_getElem? (i := 1124) rfl)) (by decide +kernel)
set_option maxRecDepth 100000 in
theorem mw_708 : Cond.instanceMethod y_Mo_fill ∈ lw_g := lw_gin (List.mem_append_right _ (List.mem_of_getElem? (i := 1126) rfl)) (by decide +kernel)
set_option maxRecDepth 100000 in
theorem mw_709 : Cond.selects R_Mo y_Mo_fill y_Mo_fill ∈ lw_g := lw_gin (List.mem_append_left _ (List.mem_of_getElem? (i := 36) rfl)) (by decide +kernel)
set_option maxRecDepth 100000 in
theorem mw_710 : Cond.code y_Mo_burn b_Mo_burn 4 (some .int) ∈ lw_g := lw_gin (List.mem_append_right _ (List.mem_of_getElem? (i := 1135) rfl)) (by decide +kernel)
set_option maxRecDepth 100000 in
theorem mw_711 : Cond.methodLink R_Mo 235 y_Mo_burn ∈ lw_g := lw_gin (List.mem_append_right _ (List.mem_of_getElem? (i := 1132) rfl)) (by decide +kernel)
set_option maxRecDepth 100000 in
theorem mw_712 : Cond.instanceMethod y_Mo_burn ∈ lw_g := lw_gin (List.mem_append_right _ (List.mem_of_getElem? (i := 1134) rfl)) (by decide +kernel)
set_option maxRecDepth 100000 in
theorem mw_713 : Cond.selects R_Mo y_Mo_burn y_Mo_burn ∈ lw_g := lw_gin (List.mem_append_left _ (List.mem_of_getElem? (i := 38) rfl)) (by decide +kernel)
set_option maxRecDepth 100000 in
theorem mw_714 : Cond.code y_Mo_measure b_Mo_measure 5 (some .int) ∈ lw_g := lw_gin (List.mem_append_right _ (List.mem_of_getElem? (i := 1143) rfl)) (by decide +kernel)
set_option maxRecDepth 100000 in
theorem mw_715 : Cond.methodLink R_Mo 238 y_Mo_measure ∈ lw_g := lw_gin (List.mem_append_right _ (List.mem_of_getElem? (i := 1140) rfl)) (by decide +kernel)
set_option maxRecDepth 100000 in
theorem mw_716 : Cond.instanceMethod y_Mo_measure ∈ lw_g := lw_gin (List.mem_append_right _ (List.mem_of_getElem? (i := 1142) rfl)) (by decide +kernel)
set_option maxRecDepth 100000 in
theorem mw_717 : Cond.selects R_Mo y_Mo_measure y_Mo_measure ∈ lw_g := lw_gin (List.mem_append_left _ (List.mem_of_getElem? (i := 40) rfl)) (by decide +kernel)
set_option maxRecDepth 100000 in
theorem mw_718 : Cond.code y_Mo_design b_Mo_design 10 none ∈ lw_g := lw_gin (List.mem_append_right _ (List.mem_of_getElem? (i := 1197) rfl)) (by decide +kernel)
set_option maxRecDepth 100000 in
theorem mw_719 : Cond.methodLink R_Mo 241 y_Mo_design ∈ lw_g := lw_gin (List.mem_append_right _ (List.mem_of_getElem? (i := 1194) rfl)) (by decide +kernel)
set_option maxRecDepth 100000 in
theorem mw_720 : Cond.instanceMethod y_Mo_design ∈ lw_g := lw_gin (List.mem_append_right _ (List.mem_of_getElem? (i := 1196) rfl)) (by decide +kernel)
set_option maxRecDepth 100000 in
theorem mw_721 : Cond.selects R_Mo y_Mo_design y_Mo_design ∈ lw_g := lw_gin (List.mem_append_left _ (List.mem_of_getElem? (i := 49) rfl)) (by decide +kernel)
theorem d_Mo_fill_0 : decode b_Mo_fill 0 = .ok (.iconst 0, 1) := by decide +kernel
theorem d_Mo_fill_1 : decode b_Mo_fill 1 = .ok (.istore 4, 2) := by decide +kernel
theorem d_Mo_fill_3 : decode b_Mo_fill 3 = .ok (.iload 4, 2) := by decide +kernel
theorem d_Mo_fill_5 : decode b_Mo_fill 5 = .ok (.sipush 2048, 3) := by decide +kernel
theorem d_Mo_fill_8 : decode b_Mo_fill 8 = .ok (.if_icmp .ge 106, 3) := by decide +kernel
theorem d_Mo_fill_114 : decode b_Mo_fill 114 = .ok (.return_, 1) := by decide +kernel
theorem d_Mo_fill_11 : decode b_Mo_fill 11 = .ok (.sipush 2048, 3) := by decide +kernel
theorem d_Mo_fill_14 : decode b_Mo_fill 14 = .ok (.iload_n 2, 1) := by decide +kernel
theorem d_Mo_fill_15 : decode b_Mo_fill 15 = .ok (.imul, 1) := by decide +kernel
theorem d_Mo_fill_16 : decode b_Mo_fill 16 = .ok (.iload 4, 2) := by decide +kernel
theorem d_Mo_fill_18 : decode b_Mo_fill 18 = .ok (.iadd, 1) := by decide +kernel
theorem d_Mo_fill_19 : decode b_Mo_fill 19 = .ok (.istore 5, 2) := by decide +kernel
theorem d_Mo_fill_21 : decode b_Mo_fill 21 = .ok (.aload_n 0, 1) := by decide +kernel
theorem d_Mo_fill_22 : decode b_Mo_fill 22 = .ok (.getfield 41, 3) := by decide +kernel
theorem d_Mo_fill_25 : decode b_Mo_fill 25 = .ok (.iload_n 1, 1) := by decide +kernel
theorem d_Mo_fill_26 : decode b_Mo_fill 26 = .ok (.iaload, 1) := by decide +kernel
theorem d_Mo_fill_27 : decode b_Mo_fill 27 = .ok (.iconst 3, 1) := by decide +kernel
theorem d_Mo_fill_28 : decode b_Mo_fill 28 = .ok (.iload 5, 2) := by decide +kernel
theorem d_Mo_fill_30 : decode b_Mo_fill 30 = .ok (.imul, 1) := by decide +kernel
theorem d_Mo_fill_31 : decode b_Mo_fill 31 = .ok (.iadd, 1) := by decide +kernel
theorem d_Mo_fill_32 : decode b_Mo_fill 32 = .ok (.iload 5, 2) := by decide +kernel
theorem d_Mo_fill_34 : decode b_Mo_fill 34 = .ok (.sipush 128, 3) := by decide +kernel
theorem d_Mo_fill_37 : decode b_Mo_fill 37 = .ok (.idiv, 1) := by decide +kernel
theorem d_Mo_fill_38 : decode b_Mo_fill 38 = .ok (.iadd, 1) := by decide +kernel
theorem d_Mo_fill_39 : decode b_Mo_fill 39 = .ok (.sipush 256, 3) := by decide +kernel
theorem d_Mo_fill_42 : decode b_Mo_fill 42 = .ok (.irem, 1) := by decide +kernel
theorem d_Mo_fill_43 : decode b_Mo_fill 43 = .ok (.istore 6, 2) := by decide +kernel
theorem d_Mo_fill_83 : decode b_Mo_fill 83 = .ok (.aload_n 0, 1) := by decide +kernel
theorem d_Mo_fill_84 : decode b_Mo_fill 84 = .ok (.getfield 21, 3) := by decide +kernel
theorem d_Mo_fill_87 : decode b_Mo_fill 87 = .ok (.iload 4, 2) := by decide +kernel
theorem d_Mo_fill_89 : decode b_Mo_fill 89 = .ok (.iload 5, 2) := by decide +kernel
theorem d_Mo_fill_91 : decode b_Mo_fill 91 = .ok (.aload_n 0, 1) := by decide +kernel
theorem d_Mo_fill_92 : decode b_Mo_fill 92 = .ok (.getfield 38, 3) := by decide +kernel
theorem d_Mo_fill_95 : decode b_Mo_fill 95 = .ok (.iload_n 1, 1) := by decide +kernel
theorem d_Mo_fill_96 : decode b_Mo_fill 96 = .ok (.iaload, 1) := by decide +kernel
theorem d_Mo_fill_97 : decode b_Mo_fill 97 = .ok (.if_icmp .ge 8, 3) := by decide +kernel
theorem d_Mo_fill_105 : decode b_Mo_fill 105 = .ok (.iconst 0, 1) := by decide +kernel
theorem d_Mo_fill_106 : decode b_Mo_fill 106 = .ok (.i2b, 1) := by decide +kernel
theorem d_Mo_fill_107 : decode b_Mo_fill 107 = .ok (.bastore, 1) := by decide +kernel
theorem d_Mo_fill_108 : decode b_Mo_fill 108 = .ok (.iinc 4 1, 3) := by decide +kernel
theorem d_Mo_fill_111 : decode b_Mo_fill 111 = .ok (.goto (-108), 3) := by decide +kernel
theorem d_Mo_fill_100 : decode b_Mo_fill 100 = .ok (.iload 6, 2) := by decide +kernel
theorem d_Mo_fill_102 : decode b_Mo_fill 102 = .ok (.goto 4, 3) := by decide +kernel
theorem d_Mo_fill_45 : decode b_Mo_fill 45 = .ok (.iload_n 3, 1) := by decide +kernel
theorem d_Mo_fill_46 : decode b_Mo_fill 46 = .ok (.ifCond .eq 37, 3) := by decide +kernel
theorem d_Mo_fill_49 : decode b_Mo_fill 49 = .ok (.iload 5, 2) := by decide +kernel
theorem d_Mo_fill_51 : decode b_Mo_fill 51 = .ok (.aload_n 0, 1) := by decide +kernel
theorem d_Mo_fill_52 : decode b_Mo_fill 52 = .ok (.getfield 38, 3) := by decide +kernel
theorem d_Mo_fill_55 : decode b_Mo_fill 55 = .ok (.iload_n 1, 1) := by decide +kernel
theorem d_Mo_fill_56 : decode b_Mo_fill 56 = .ok (.iaload, 1) := by decide +kernel
theorem d_Mo_fill_57 : decode b_Mo_fill 57 = .ok (.if_icmp .ge 23, 3) := by decide +kernel
theorem d_Mo_fill_80 : decode b_Mo_fill 80 = .ok (.iconst 0, 1) := by decide +kernel
theorem d_Mo_fill_81 : decode b_Mo_fill 81 = .ok (.istore 6, 2) := by decide +kernel
theorem d_Mo_fill_60 : decode b_Mo_fill 60 = .ok (.aload_n 0, 1) := by decide +kernel
theorem d_Mo_fill_61 : decode b_Mo_fill 61 = .ok (.sipush 2048, 3) := by decide +kernel
theorem d_Mo_fill_64 : decode b_Mo_fill 64 = .ok (.aload_n 0, 1) := by decide +kernel
theorem d_Mo_fill_65 : decode b_Mo_fill 65 = .ok (.getfield 50, 3) := by decide +kernel
theorem d_Mo_fill_68 : decode b_Mo_fill 68 = .ok (.iload_n 1, 1) := by decide +kernel
theorem d_Mo_fill_69 : decode b_Mo_fill 69 = .ok (.iaload, 1) := by decide +kernel
theorem d_Mo_fill_70 : decode b_Mo_fill 70 = .ok (.imul, 1) := by decide +kernel
theorem d_Mo_fill_71 : decode b_Mo_fill 71 = .ok (.iload 5, 2) := by decide +kernel
theorem d_Mo_fill_73 : decode b_Mo_fill 73 = .ok (.iadd, 1) := by decide +kernel
theorem d_Mo_fill_74 : decode b_Mo_fill 74 = .ok (.invokevirtual 225, 3) := by decide +kernel
theorem d_Mo_fill_77 : decode b_Mo_fill 77 = .ok (.goto 4, 3) := by decide +kernel
theorem d_Mo_lay_0 : decode b_Mo_lay 0 = .ok (.aload_n 0, 1) := by decide +kernel
theorem d_Mo_lay_1 : decode b_Mo_lay 1 = .ok (.getfield 38, 3) := by decide +kernel
theorem d_Mo_lay_4 : decode b_Mo_lay 4 = .ok (.iload_n 2, 1) := by decide +kernel
theorem d_Mo_lay_5 : decode b_Mo_lay 5 = .ok (.iaload, 1) := by decide +kernel
theorem d_Mo_lay_6 : decode b_Mo_lay 6 = .ok (.sipush 2047, 3) := by decide +kernel
theorem d_Mo_lay_9 : decode b_Mo_lay 9 = .ok (.iadd, 1) := by decide +kernel
theorem d_Mo_lay_10 : decode b_Mo_lay 10 = .ok (.sipush 2048, 3) := by decide +kernel
theorem d_Mo_lay_13 : decode b_Mo_lay 13 = .ok (.idiv, 1) := by decide +kernel
theorem d_Mo_lay_14 : decode b_Mo_lay 14 = .ok (.istore 4, 2) := by decide +kernel
theorem d_Mo_lay_16 : decode b_Mo_lay 16 = .ok (.aload_n 0, 1) := by decide +kernel
theorem d_Mo_lay_17 : decode b_Mo_lay 17 = .ok (.iload_n 1, 1) := by decide +kernel
theorem d_Mo_lay_18 : decode b_Mo_lay 18 = .ok (.invokevirtual 228, 3) := by decide +kernel
theorem d_Mo_lay_21 : decode b_Mo_lay 21 = .ok (.istore 5, 2) := by decide +kernel
theorem d_Mo_lay_23 : decode b_Mo_lay 23 = .ok (.iload 5, 2) := by decide +kernel
theorem d_Mo_lay_25 : decode b_Mo_lay 25 = .ok (.iload 4, 2) := by decide +kernel
theorem d_Mo_lay_27 : decode b_Mo_lay 27 = .ok (.iadd, 1) := by decide +kernel
theorem d_Mo_lay_28 : decode b_Mo_lay 28 = .ok (.aload_n 0, 1) := by decide +kernel
theorem d_Mo_lay_29 : decode b_Mo_lay 29 = .ok (.getfield 99, 3) := by decide +kernel
theorem d_Mo_lay_32 : decode b_Mo_lay 32 = .ok (.if_icmp .le 6, 3) := by decide +kernel
theorem d_Mo_lay_38 : decode b_Mo_lay 38 = .ok (.iconst 0, 1) := by decide +kernel
theorem d_Mo_lay_39 : decode b_Mo_lay 39 = .ok (.istore 6, 2) := by decide +kernel
theorem d_Mo_lay_41 : decode b_Mo_lay 41 = .ok (.iconst 0, 1) := by decide +kernel
theorem d_Mo_lay_42 : decode b_Mo_lay 42 = .ok (.istore 7, 2) := by decide +kernel
theorem d_Mo_lay_44 : decode b_Mo_lay 44 = .ok (.iload 7, 2) := by decide +kernel
theorem d_Mo_lay_46 : decode b_Mo_lay 46 = .ok (.iload 4, 2) := by decide +kernel
theorem d_Mo_lay_48 : decode b_Mo_lay 48 = .ok (.if_icmp .ge 34, 3) := by decide +kernel
theorem d_Mo_lay_82 : decode b_Mo_lay 82 = .ok (.iload 6, 2) := by decide +kernel
theorem d_Mo_lay_84 : decode b_Mo_lay 84 = .ok (.iconst 2, 1) := by decide +kernel
theorem d_Mo_lay_85 : decode b_Mo_lay 85 = .ok (.if_icmp .ne 6, 3) := by decide +kernel
theorem d_Mo_lay_91 : decode b_Mo_lay 91 = .ok (.iload 6, 2) := by decide +kernel
theorem d_Mo_lay_93 : decode b_Mo_lay 93 = .ok (.iconst 1, 1) := by decide +kernel
theorem d_Mo_lay_94 : decode b_Mo_lay 94 = .ok (.if_icmp .ne 6, 3) := by decide +kernel
theorem d_Mo_lay_100 : decode b_Mo_lay 100 = .ok (.aload_n 0, 1) := by decide +kernel
theorem d_Mo_lay_101 : decode b_Mo_lay 101 = .ok (.getfield 47, 3) := by decide +kernel
theorem d_Mo_lay_104 : decode b_Mo_lay 104 = .ok (.iload_n 2, 1) := by decide +kernel
theorem d_Mo_lay_105 : decode b_Mo_lay 105 = .ok (.iload 5, 2) := by decide +kernel
theorem d_Mo_lay_107 : decode b_Mo_lay 107 = .ok (.iastore, 1) := by decide +kernel
theorem d_Mo_lay_108 : decode b_Mo_lay 108 = .ok (.iconst 0, 1) := by decide +kernel
theorem d_Mo_lay_109 : decode b_Mo_lay 109 = .ok (.ireturn, 1) := by decide +kernel
theorem d_Mo_lay_97 : decode b_Mo_lay 97 = .ok (.goto (-81), 3) := by decide +kernel
theorem d_Mo_lay_88 : decode b_Mo_lay 88 = .ok (.bipush (-4), 2) := by decide +kernel
theorem d_Mo_lay_90 : decode b_Mo_lay 90 = .ok (.ireturn, 1) := by decide +kernel
theorem d_Mo_lay_51 : decode b_Mo_lay 51 = .ok (.iload 6, 2) := by decide +kernel
theorem d_Mo_lay_53 : decode b_Mo_lay 53 = .ok (.ifCond .ne 29, 3) := by decide +kernel
theorem d_Mo_lay_56 : decode b_Mo_lay 56 = .ok (.aload_n 0, 1) := by decide +kernel
theorem d_Mo_lay_57 : decode b_Mo_lay 57 = .ok (.iload_n 2, 1) := by decide +kernel
theorem d_Mo_lay_58 : decode b_Mo_lay 58 = .ok (.iload 7, 2) := by decide +kernel
theorem d_Mo_lay_60 : decode b_Mo_lay 60 = .ok (.iload_n 3, 1) := by decide +kernel
theorem d_Mo_lay_61 : decode b_Mo_lay 61 = .ok (.invokevirtual 231, 3) := by decide +kernel
theorem d_Mo_lay_64 : decode b_Mo_lay 64 = .ok (.aload_n 0, 1) := by decide +kernel
theorem d_Mo_lay_65 : decode b_Mo_lay 65 = .ok (.iload_n 1, 1) := by decide +kernel
theorem d_Mo_lay_66 : decode b_Mo_lay 66 = .ok (.iload 5, 2) := by decide +kernel
theorem d_Mo_lay_68 : decode b_Mo_lay 68 = .ok (.iload 7, 2) := by decide +kernel
theorem d_Mo_lay_70 : decode b_Mo_lay 70 = .ok (.iadd, 1) := by decide +kernel
theorem d_Mo_lay_71 : decode b_Mo_lay 71 = .ok (.invokevirtual 235, 3) := by decide +kernel
theorem d_Mo_lay_74 : decode b_Mo_lay 74 = .ok (.istore 6, 2) := by decide +kernel
theorem d_Mo_lay_76 : decode b_Mo_lay 76 = .ok (.iinc 7 1, 3) := by decide +kernel
theorem d_Mo_lay_79 : decode b_Mo_lay 79 = .ok (.goto (-35), 3) := by decide +kernel
theorem d_Mo_lay_35 : decode b_Mo_lay 35 = .ok (.bipush (-3), 2) := by decide +kernel
theorem d_Mo_lay_37 : decode b_Mo_lay 37 = .ok (.ireturn, 1) := by decide +kernel
theorem d_Mo_session_0 : decode b_Mo_session 0 = .ok (.aload_n 0, 1) := by decide +kernel
theorem d_Mo_session_1 : decode b_Mo_session 1 = .ok (.iload_n 1, 1) := by decide +kernel
theorem d_Mo_session_2 : decode b_Mo_session 2 = .ok (.invokevirtual 228, 3) := by decide +kernel
theorem d_Mo_session_5 : decode b_Mo_session 5 = .ok (.istore_n 3, 1) := by decide +kernel
theorem d_Mo_session_6 : decode b_Mo_session 6 = .ok (.aload_n 0, 1) := by decide +kernel
theorem d_Mo_session_7 : decode b_Mo_session 7 = .ok (.iload_n 3, 1) := by decide +kernel
theorem d_Mo_session_8 : decode b_Mo_session 8 = .ok (.invokevirtual 238, 3) := by decide +kernel
theorem d_Mo_session_11 : decode b_Mo_session 11 = .ok (.istore 4, 2) := by decide +kernel
theorem d_Mo_session_13 : decode b_Mo_session 13 = .ok (.iload_n 3, 1) := by decide +kernel
theorem d_Mo_session_14 : decode b_Mo_session 14 = .ok (.iload 4, 2) := by decide +kernel
theorem d_Mo_session_16 : decode b_Mo_session 16 = .ok (.iadd, 1) := by decide +kernel
theorem d_Mo_session_17 : decode b_Mo_session 17 = .ok (.aload_n 0, 1) := by decide +kernel
theorem d_Mo_session_18 : decode b_Mo_session 18 = .ok (.getfield 99, 3) := by decide +kernel
theorem d_Mo_session_21 : decode b_Mo_session 21 = .ok (.if_icmp .le 6, 3) := by decide +kernel
theorem d_Mo_session_27 : decode b_Mo_session 27 = .ok (.aload_n 0, 1) := by decide +kernel
theorem d_Mo_session_28 : decode b_Mo_session 28 = .ok (.iload_n 3, 1) := by decide +kernel
theorem d_Mo_session_29 : decode b_Mo_session 29 = .ok (.iload 4, 2) := by decide +kernel
theorem d_Mo_session_31 : decode b_Mo_session 31 = .ok (.iload_n 2, 1) := by decide +kernel
theorem d_Mo_session_32 : decode b_Mo_session 32 = .ok (.invokevirtual 241, 3) := by decide +kernel
theorem d_Mo_session_35 : decode b_Mo_session 35 = .ok (.iconst 0, 1) := by decide +kernel
theorem d_Mo_session_36 : decode b_Mo_session 36 = .ok (.istore 5, 2) := by decide +kernel
theorem d_Mo_session_38 : decode b_Mo_session 38 = .ok (.bipush 16, 2) := by decide +kernel
theorem d_Mo_session_40 : decode b_Mo_session 40 = .ok (.istore 6, 2) := by decide +kernel
theorem d_Mo_session_42 : decode b_Mo_session 42 = .ok (.iload 6, 2) := by decide +kernel
theorem d_Mo_session_44 : decode b_Mo_session 44 = .ok (.iload 4, 2) := by decide +kernel
theorem d_Mo_session_46 : decode b_Mo_session 46 = .ok (.if_icmp .ge 66, 3) := by decide +kernel
theorem d_Mo_session_112 : decode b_Mo_session 112 = .ok (.iload 5, 2) := by decide +kernel
theorem d_Mo_session_114 : decode b_Mo_session 114 = .ok (.iconst 2, 1) := by decide +kernel
theorem d_Mo_session_115 : decode b_Mo_session 115 = .ok (.if_icmp .ne 6, 3) := by decide +kernel
theorem d_Mo_session_121 : decode b_Mo_session 121 = .ok (.iload 5, 2) := by decide +kernel
theorem d_Mo_session_123 : decode b_Mo_session 123 = .ok (.ifCond .ne 5, 3) := by decide +kernel
theorem d_Mo_session_128 : decode b_Mo_session 128 = .ok (.goto (-128), 3) := by decide +kernel
theorem d_Mo_session_126 : decode b_Mo_session 126 = .ok (.iload_n 2, 1) := by decide +kernel
theorem d_Mo_session_127 : decode b_Mo_session 127 = .ok (.ireturn, 1) := by decide +kernel
theorem d_Mo_session_118 : decode b_Mo_session 118 = .ok (.bipush (-4), 2) := by decide +kernel
theorem d_Mo_session_120 : decode b_Mo_session 120 = .ok (.ireturn, 1) := by decide +kernel
theorem d_Mo_session_49 : decode b_Mo_session 49 = .ok (.iload 5, 2) := by decide +kernel
theorem d_Mo_session_51 : decode b_Mo_session 51 = .ok (.ifCond .ne 61, 3) := by decide +kernel
theorem d_Mo_session_54 : decode b_Mo_session 54 = .ok (.iconst 0, 1) := by decide +kernel
theorem d_Mo_session_55 : decode b_Mo_session 55 = .ok (.istore 7, 2) := by decide +kernel
theorem d_Mo_session_57 : decode b_Mo_session 57 = .ok (.iload 7, 2) := by decide +kernel
theorem d_Mo_session_59 : decode b_Mo_session 59 = .ok (.sipush 2048, 3) := by decide +kernel
theorem d_Mo_session_62 : decode b_Mo_session 62 = .ok (.if_icmp .ge 33, 3) := by decide +kernel
theorem d_Mo_session_95 : decode b_Mo_session 95 = .ok (.aload_n 0, 1) := by decide +kernel
theorem d_Mo_session_96 : decode b_Mo_session 96 = .ok (.iload_n 1, 1) := by decide +kernel
theorem d_Mo_session_97 : decode b_Mo_session 97 = .ok (.iload_n 3, 1) := by decide +kernel
theorem d_Mo_session_98 : decode b_Mo_session 98 = .ok (.iload 6, 2) := by decide +kernel
theorem d_Mo_session_100 : decode b_Mo_session 100 = .ok (.iadd, 1) := by decide +kernel
theorem d_Mo_session_101 : decode b_Mo_session 101 = .ok (.invokevirtual 235, 3) := by decide +kernel
theorem d_Mo_session_104 : decode b_Mo_session 104 = .ok (.istore 5, 2) := by decide +kernel
theorem d_Mo_session_106 : decode b_Mo_session 106 = .ok (.iinc 6 1, 3) := by decide +kernel
theorem d_Mo_session_109 : decode b_Mo_session 109 = .ok (.goto (-67), 3) := by decide +kernel
theorem d_Mo_session_65 : decode b_Mo_session 65 = .ok (.aload_n 0, 1) := by decide +kernel
theorem d_Mo_session_66 : decode b_Mo_session 66 = .ok (.getfield 21, 3) := by decide +kernel
theorem d_Mo_session_69 : decode b_Mo_session 69 = .ok (.iload 7, 2) := by decide +kernel
theorem d_Mo_session_71 : decode b_Mo_session 71 = .ok (.aload_n 0, 1) := by decide +kernel
theorem d_Mo_session_72 : decode b_Mo_session 72 = .ok (.getfield 54, 3) := by decide +kernel
theorem d_Mo_session_75 : decode b_Mo_session 75 = .ok (.sipush 2048, 3) := by decide +kernel
theorem d_Mo_session_78 : decode b_Mo_session 78 = .ok (.iload 6, 2) := by decide +kernel
theorem d_Mo_session_80 : decode b_Mo_session 80 = .ok (.bipush 16, 2) := by decide +kernel
theorem d_Mo_session_82 : decode b_Mo_session 82 = .ok (.isub, 1) := by decide +kernel
theorem d_Mo_session_83 : decode b_Mo_session 83 = .ok (.imul, 1) := by decide +kernel
theorem d_Mo_session_84 : decode b_Mo_session 84 = .ok (.iload 7, 2) := by decide +kernel
theorem d_Mo_session_86 : decode b_Mo_session 86 = .ok (.iadd, 1) := by decide +kernel
theorem d_Mo_session_87 : decode b_Mo_session 87 = .ok (.baload, 1) := by decide +kernel
theorem d_Mo_session_88 : decode b_Mo_session 88 = .ok (.bastore, 1) := by decide +kernel
theorem d_Mo_session_89 : decode b_Mo_session 89 = .ok (.iinc 7 1, 3) := by decide +kernel
theorem d_Mo_session_92 : decode b_Mo_session 92 = .ok (.goto (-35), 3) := by decide +kernel
theorem d_Mo_session_24 : decode b_Mo_session 24 = .ok (.bipush (-3), 2) := by decide +kernel
theorem d_Mo_session_26 : decode b_Mo_session 26 = .ok (.ireturn, 1) := by decide +kernel
/-! MY OWN ROWS: what is laid on the medium -/
theorem fr_ge {g : Nat → Int32} {f r : Int32} {n b : Nat} (hZ : ∀ j : Nat, r.toInt ≤ j → j < n → g (f.toInt.toNat + j) = 0) (hb : b ≤ n) (hB : b = 0 ∨ ¬ g (f.toInt.toNat + (b - 1)) = 0) (h0 : 0 ≤ r.toInt) : (b : Int) ≤ r.toInt := by
  rcases hB with rfl | hB
  · exact h0
  · by_cases h : (b : Int) ≤ r.toInt
    · exact h
    · exact absurd (hZ (b - 1) (by omega) (by omega)) hB
def vlP (ex sz : Nat → Int32) (n q : Nat) : Prop := 0 ≤ (ex q).toInt ∧ (ex q).toInt * 2048 + (sz q).toInt ≤ 2048 * n
theorem exM_lay {it di sz iw ex ex' : Nat → Int32} {m n k : Nat} (hE : exM it di sz iw ex m n) (hk : iw k = 0) (ho : ∀ q, q ≠ k → ex' q = ex q) : exM it di sz iw ex' m n := fun q hq h1 h2 => by
  obtain ⟨a1, a2, a3⟩ := hE q hq h1 h2
  refine ⟨a1, a2, fun h3 h4 => ?_⟩
  by_cases hqk : q = k
  · rw [hqk, hk] at h3
    exact absurd h3 (by decide)
  · rw [ho q hqk]
    exact a3 h3 h4
theorem exM_wr {it di sz iw ex ex' : Nat → Int32} {m n k : Nat} (hE : exM it di sz iw ex m n) (ho : ∀ q, q ≠ k → ex' q = ex q) (hv : vlP ex' sz n k) : exM it di sz (upd iw k 1) ex' m n := fun q hq h1 h2 => by
  obtain ⟨a1, a2, a3⟩ := hE q hq h1 h2
  by_cases hqk : q = k
  · subst hqk
    exact ⟨a1, a2, fun _ _ => hv⟩
  · rw [upd_n _ hqk, ho q hqk]
    exact ⟨a1, a2, a3⟩
theorem exM_same {it di sz iw ex ex' : Nat → Int32} {m n : Nat} (hE : exM it di sz iw ex m n) (h : ∀ q, q < m → ex' q = ex q) : exM it di sz iw ex' m n := fun q hq h1 h2 => by
  rw [h q hq]
  exact hE q hq h1 h2
def lyP (it di sz ex : Nat → Int32) (m n : Nat) : Prop := ∀ q, 1 ≤ q → q < m → it q = 1 → di q = 0 → 0 < (sz q).toInt → vlP ex sz n q
theorem exM_fin {it di sz iw ex iw' ex' : Nat → Int32} {m n : Nat} (hE : exM it di sz iw ex m n) (h0 : ex' 0 = ex 0) (w0 : iw' 0 = iw 0) (hL : lyP it di sz ex' m n) : exM it di sz iw' ex' m n := fun q hq h1 h2 => by
  obtain ⟨a1, a2, a3⟩ := hE q hq h1 h2
  by_cases hq0 : q = 0
  · subst hq0
    rw [h0, w0]
    exact ⟨a1, a2, a3⟩
  · exact ⟨a1, a2, fun _ h4 => hL q (by omega) hq h1 h2 h4⟩
theorem ly_s {it di sz ex ex' : Nat → Int32} {i j : Int32} {n : Nat} (hL : lyP it di sz ex i.toInt.toNat n) (h0 : 0 ≤ i.toInt) (hj : j.toInt = i.toInt + 1) (ho : ∀ q, q ≠ i.toInt.toNat → ex' q = ex q) (hv : it i.toInt.toNat = 1 → di i.toInt.toNat = 0 → 0 < (sz i.toInt.toNat).toInt → vlP ex' sz n i.toInt.toNat) : lyP it di sz ex' j.toInt.toNat n := fun q h1 hq a b c => by
  by_cases h : q = i.toInt.toNat
  · subst h
    exact hv a b c
  · unfold vlP
    rw [ho q h]
    exact hL q h1 (by omega) a b c
theorem cp_s {g g' x : Nat → Int32} {i j : Int32} (h0 : 0 ≤ i.toInt) (hj : j.toInt = i.toInt + 1) (hC : ∀ q, q < i.toInt.toNat → g q = x q) (e : g' = upd g i.toNatClampNeg (x i.toNatClampNeg)) : ∀ q, q < j.toInt.toNat → g' q = x q := fun q hq => by
  rw [e, clN]
  by_cases h : q = i.toInt.toNat
  · rw [h, upd_s]
  · rw [upd_n _ h]
    exact hC q (by omega)

set_option maxHeartbeats 4000000 in
set_option maxRecDepth 100000 in
theorem m_fill (l : Launch) (D : va_G) (t : Nat → ClassId) (G : hG) (ak av : Nat → Nat) (h : hM) (τ : tM) (n : Nat) (m9 : Nat) (k9 : Int32) (j9 : Int32) (z9 : Int32) (A : Nat → Nat) (th sd lo le wr ma nu di pl se wg op : Int32) (hn : n ≤ 200) (hT : TI τ t n h) (T_m9 : τ m9 = (20, 0)) (Z_z9 : zb z9) (F_m9 : h m9 = some (.inr (9, mf A n th sd lo le wr ma nu di pl se wg op))) (hA : ∀ i, i < 28 → τ (A i) = (30, i)) (hmk : mOk sd lo ma se op) (hk0 : 0 ≤ k9.toInt) (hk1 : k9.toInt < 700) (hj0 : 0 ≤ j9.toInt) (hj1 : j9.toInt ≤ 200) (hz9 : z9 = 1 → 0 ≤ (aI h (A 12) k9.toInt.toNat).toInt ∧ (aI h (A 12) k9.toInt.toNat).toInt * 2048 + (aI h (A 8) k9.toInt.toNat).toInt ≤ 409600) : Met l y_Mo_fill (.code y_Mo_fill b_Mo_fill 7 none :: lw_g) { frames := 1, cells := 0, slots := 0, locals := 21 } (hP (kE D t G ak av) D vwCl G h [.ref m9, .int k9, .int j9, .int z9]) (hQv D vwCl G (fun h' => TI τ t n h' ∧ kf τ [(30, 3)] [] h h')) 0 0 G.P := by
  refine Met.ofW (cc := b_Mo_fill) (maxL := 7) (ret := none) (by decide) rfl ?_
  intro p e s m args below meth c s₁ Bd hml hv
  obtain ⟨ha, hE, hH⟩ := hv
  have hx := Bd.exec
  have hb := Bd.bytes
  have hr := Bd.returns
  have hts : ∀ w ∈ lw_g, w.before args s = true := fun w hw => atoms_spec (ws := (.code y_Mo_fill b_Mo_fill 7 none :: lw_g)) Bd.pre w (List.mem_cons_of_mem _ hw)
  have hown : s.vm.findClass R_Mo = some m.cls := findClass_of_methodNamed Bd.named
  have hlocks := Bd.notSynchronized
  have hK := hE.1
  have hH0 := hH
  have hLo : hLc G.P [] := hLc_nil
  have hz : s.heap.size ≤ s.heap.size := Nat.le_refl _
  have hl := lv_entry [.ref m9, .int k9, .int j9, .int z9] (n := 7) (Nat.le_of_ble_eq_true rfl)
  rw [show entryFrame m args 7 = F0 m 0 ((lg_sl [.ref m9, .int k9, .int j9, .int z9] ++ List.replicate (7 - (lg_sl [.ref m9, .int k9, .int j9, .int z9]).length) Slot.unset).toArray) [] from (by rw [ha]; exact lg_entry_eq m [.ref m9, .int k9, .int j9, .int z9] 7)]
  generalize (lg_sl [.ref m9, .int k9, .int j9, .int z9] ++ List.replicate (7 - (lg_sl [.ref m9, .int k9, .int j9, .int z9]).length) Slot.unset).toArray = ls at hl ⊢
  have hl : lv_has ls 7 [(0, .ref m9), (1, .int k9), (2, .int j9), (3, .int z9)] := hl
  have hkf : kf τ [(30, 3)] [] h h := kf_rf
  obtain ⟨hsd, hlo, hma, hse, hop⟩ := id hmk
  have inI : (nI n).toInt = n := nI_toInt (by omega)
  obtain ⟨g_1, F_A12⟩ := TI_arI (L := 700) hT (hA 12 (by decide)) rfl rfl
  obtain ⟨g_2, F_A8⟩ := TI_arI (L := 700) hT (hA 8 (by decide)) rfl rfl
  rw [aI_of F_A12, aI_of F_A8] at hz9
  refine lv_iconst (v := 0) hx hb d_Mo_fill_0 (by decide) ?_
  refine lv_istore (lv' := [(4, .int 0), (0, .ref m9), (1, .int k9), (2, .int j9), (3, .int z9)]) hx hb d_Mo_fill_1 hl (by decide) rfl (fun ls hl => ?_)
  refine hm_loop (fun k3 ls H locs hh3 => ∃ (i9 : Int32), k3 = mU i9 ∧ lv_has ls 7 [(0, .ref m9), (1, .int k9), (2, .int j9), (3, .int z9), (4, .int i9)] ∧ hm D vwCl G hh3 H ∧ s.heap.size ≤ H.size ∧ hLc G.P locs ∧ hh3 m9 = some (.inr (9, mf A n th sd lo le wr ma nu di pl se wg op)) ∧ hh3 (A 12) = some (.inl ((t 2), 700, .inl g_1)) ∧ hh3 (A 8) = some (.inl ((t 2), 700, .inl g_2)) ∧ (TI τ t n hh3) ∧ (kf τ [(30, 3)] [] h hh3) ∧ (0 ≤ i9.toInt)) ?_ (hh := h) ⟨0, rfl, (lv_sub hl [1, 2, 3, 4, 0] rfl), hH, hz, hLo, F_m9, F_A12, F_A8, hT, hkf, (by decide)⟩
  rintro k3 ls H locs hh3 ⟨i9, hk3, hl, hH, hz, hLo, F_m9, F_A12, F_A8, hT, hkf, I_i9⟩ ih3
  refine lv_iload hx hb d_Mo_fill_3 (lv_at hl 4 rfl) ?_
  refine lv_sipush (v := 2048) hx hb d_Mo_fill_5 (by decide) ?_
  refine lv_icmp_ge (tgt := 114) hx hb d_Mo_fill_8 (by decide) (fun hc_3 => ?_) (fun hc_3 => ?_)
  · skip
    have ic_4 : 2048 ≤ i9.toInt := iLe hc_3
    exact W.vret hx hb hr (fun t9 ht hW => ⟨hh3, rfl, ⟨hT, hkf⟩, by rw [ht]; exact hH, by rw [ht]; exact hz⟩) hLo d_Mo_fill_114
  · skip
    have ic_5 : i9.toInt < 2048 := iNe hc_3
    refine lv_sipush (v := 2048) hx hb d_Mo_fill_11 (by decide) ?_
    refine lv_iload_n hx hb d_Mo_fill_14 rfl (lv_at hl 2 rfl) ?_
    refine lv_imul hx hb d_Mo_fill_15 ?_
    refine lv_topi (fun v_6 e_7 => ?_)
    refine lv_iload hx hb d_Mo_fill_16 (lv_at hl 4 rfl) ?_
    refine lv_iadd hx hb d_Mo_fill_18 ?_
    refine lv_topi (fun v_8 e_9 => ?_)
    refine lv_istore (lv' := [(5, .int v_8), (0, .ref m9), (1, .int k9), (2, .int j9), (3, .int z9), (4, .int i9)]) hx hb d_Mo_fill_19 hl (by decide) rfl (fun ls hl => ?_)
    refine lv_aload_n hx hb d_Mo_fill_21 rfl (lv_at hl 1 rfl) ?_
    refine hm_get (ci := 9) (v := .ref (A 9)) (C := R_Mo) (T := F_Mo) (N := 41) hx hb hts ig_Mo hown hK hH F_m9 rfl 16 (by decide) (hts _ mw_616) (fun _ h9 => h9) rfl d_Mo_fill_22 ?_
    refine lv_iload_n hx hb d_Mo_fill_25 rfl (lv_at hl 2 rfl) ?_
    obtain ⟨g_10, F_A9⟩ := TI_arI (L := 700) hT (hA 9 (by decide)) rfl rfl
    refine hm_iald hx hb hK hH 2 F_A9 rfl (iIn (by omega) (by omega)) d_Mo_fill_26 ?_
    refine lv_topi (fun v_11 e_12 => ?_)
    refine lv_iconst (v := 3) hx hb d_Mo_fill_27 (by decide) ?_
    refine lv_iload hx hb d_Mo_fill_28 (lv_at hl 0 rfl) ?_
    refine lv_imul hx hb d_Mo_fill_30 ?_
    refine lv_topi (fun v_13 e_14 => ?_)
    refine lv_iadd hx hb d_Mo_fill_31 ?_
    refine lv_topi (fun v_15 e_16 => ?_)
    refine lv_iload hx hb d_Mo_fill_32 (lv_at hl 0 rfl) ?_
    refine lv_sipush (v := 128) hx hb d_Mo_fill_34 (by decide) ?_
    refine lv_idiv hx hb d_Mo_fill_37 (by decide) ?_
    refine lv_topi (fun v_17 e_18 => ?_)
    have id_19 : 0 ≤ v_8.toInt → v_17.toInt = v_8.toInt / 128 := fun h9 => by rw [e_18]; exact i_div (d := 128) (by decide) h9
    refine lv_iadd hx hb d_Mo_fill_38 ?_
    refine lv_topi (fun v_20 e_21 => ?_)
    refine lv_sipush (v := 256) hx hb d_Mo_fill_39 (by decide) ?_
    refine lv_irem hx hb d_Mo_fill_42 (by decide) ?_
    refine lv_topi (fun v_22 e_23 => ?_)
    have id_24 : 0 ≤ v_20.toInt → v_22.toInt = v_20.toInt % 256 := fun h9 => by rw [e_23]; exact i_mod (d := 256) (by decide) h9
    refine lv_istore (lv' := [(6, .int v_22), (5, .int v_8), (0, .ref m9), (1, .int k9), (2, .int j9), (3, .int z9), (4, .int i9)]) hx hb d_Mo_fill_43 hl (by decide) rfl (fun ls hl => ?_)
    refine hm_cut (α := Unit) (fun un9 ls H locs HH => ∃ (v6 : Int32), (lv_has ls 7 [(0, .ref m9), (1, .int k9), (2, .int j9), (3, .int z9), (4, .int i9), (5, .int v_8), (6, .int v6)]) ∧ (hm D vwCl G HH H) ∧ (s.heap.size ≤ H.size) ∧ (hLc G.P locs) ∧ (hh3 = HH)) 83 (fun un9 => []) ?_ (fun J83 => ?_)
    · skip
      rintro un9 ls H locs HH ⟨v6, hl, hH, hz, hLo, rfl⟩
      refine lv_aload_n hx hb d_Mo_fill_83 rfl (lv_at hl 0 rfl) ?_
      refine hm_get (ci := 9) (v := .ref (A 3)) (C := R_Mo) (T := F_Mo) (N := 41) hx hb hts ig_Mo hown hK hH F_m9 rfl 9 (by decide) (hts _ mw_591) (fun _ h9 => h9) rfl d_Mo_fill_84 ?_
      refine lv_iload hx hb d_Mo_fill_87 (lv_at hl 4 rfl) ?_
      refine lv_iload hx hb d_Mo_fill_89 (lv_at hl 5 rfl) ?_
      refine lv_aload_n hx hb d_Mo_fill_91 rfl (lv_at hl 0 rfl) ?_
      refine hm_get (ci := 9) (v := .ref (A 8)) (C := R_Mo) (T := F_Mo) (N := 41) hx hb hts ig_Mo hown hK hH F_m9 rfl 15 (by decide) (hts _ mw_615) (fun _ h9 => h9) rfl d_Mo_fill_92 ?_
      refine lv_iload_n hx hb d_Mo_fill_95 rfl (lv_at hl 1 rfl) ?_
      refine hm_iald hx hb hK hH 2 F_A8 rfl (iIn (by omega) (by omega)) d_Mo_fill_96 ?_
      refine lv_topi (fun v_25 e_26 => ?_)
      refine lv_icmp_ge (tgt := 105) hx hb d_Mo_fill_97 (by decide) (fun hc_27 => ?_) (fun hc_27 => ?_)
      · skip
        have ic_28 : v_25.toInt ≤ v_8.toInt := iLe hc_27
        refine lv_iconst (v := 0) hx hb d_Mo_fill_105 (by decide) ?_
        refine lv_i2b (v := (0 : Int32).toInt8.toInt32) hx hb d_Mo_fill_106 rfl ?_
        refine lv_topi (fun v_29 e_30 => ?_)
        obtain ⟨g_31, F_A3, c_32⟩ := TI_arB (L := 2048) hT (hA 3 (by decide)) rfl rfl
        refine hm_bast hx hb hK hH hLo 0 F_A3 rfl (iIn (by omega) (by omega)) d_Mo_fill_107 (fun H_33 locs hH z_34 hLo => ?_)
        have hz : s.heap.size ≤ H_33.size := by rw [z_34]; exact hz
        obtain ⟨h_35, e_36⟩ : ∃ z, z = hu hh3 (A 3) (.inl ((t 0), 2048, .inl (upd g_31 i9.toNatClampNeg (vp_nar .byte v_29)))) := ⟨_, rfl⟩
        have hH : hm D vwCl G h_35 H_33 := by rw [e_36]; exact hH
        have F_m9 : h_35 m9 = some (.inr (9, mf A n th sd lo le wr ma nu di pl se wg op)) := by rw [e_36, hu_n (tne T_m9 (hA 3 (by decide)) (by decide))]; exact F_m9
        have F_A12 : h_35 (A 12) = some (.inl ((t 2), 700, .inl g_1)) := by rw [e_36, hu_n (tneF (hA 12 (by decide)) (hA 3 (by decide)) (by decide))]; exact F_A12
        have F_A8 : h_35 (A 8) = some (.inl ((t 2), 700, .inl g_2)) := by rw [e_36, hu_n (tneF (hA 8 (by decide)) (hA 3 (by decide)) (by decide))]; exact F_A8
        have F_A9 : h_35 (A 9) = some (.inl ((t 2), 700, .inl g_10)) := by rw [e_36, hu_n (tneF (hA 9 (by decide)) (hA 3 (by decide)) (by decide))]; exact F_A9
        have F_A3 : h_35 (A 3) = some (.inl ((t 0), 2048, .inl (upd g_31 i9.toNatClampNeg (vp_nar .byte v_29)))) := by rw [e_36]; exact hu_s _ _ _
        have hT : TI τ t n h_35 := by rw [e_36]; exact TI_put hT (hA 3 (by decide)) (by decide) (ok_B rfl rfl (sb_fitU c_32 (fitNar _)))
        have hkf : kf τ [(30, 3)] [] h h_35 := by rw [e_36]; exact kf_put hkf (hA 3 (by decide)) List.mem_cons_self
        obtain ⟨g_37, e_38⟩ : ∃ z, z = upd g_31 i9.toNatClampNeg (vp_nar .byte v_29) := ⟨_, rfl⟩
        rw [← e_38] at F_A3
        have c_39 : sb_Fit g_37 := by rw [e_38]; exact (sb_fitU c_32 (fitNar _))
        obtain ⟨j_40, e_41⟩ : ∃ z : Int32, z = i9 + 1 := ⟨_, rfl⟩
        refine lv_iinc (v := j_40) (lv' := [(4, .int j_40), (0, .ref m9), (1, .int k9), (2, .int j9), (3, .int z9), (5, .int v_8), (6, .int v6)]) hx hb d_Mo_fill_108 hl (k := 4) rfl e_41.symm (by decide) rfl (fun ls hl => ?_)
        refine lv_goto (tgt := 3) hx hb d_Mo_fill_111 (by decide) ?_
        have is_42 : j_40.toInt = i9.toInt + 1 := by rw [e_41]; exact iAddK 1 rfl (by omega) (by omega)
        exact ih3 (mU j_40) ls _ locs _ (by rw [hk3]; exact mU_lt (by omega)) ⟨j_40, rfl, (lv_sub hl [1, 2, 3, 4, 0] rfl), hH, hz, hLo, F_m9, F_A12, F_A8, hT, hkf, (by omega)⟩
      · skip
        have ic_43 : v_8.toInt < v_25.toInt := iNe hc_27
        have iu_44 : v_25.toInt < 2147483648 := iUp _
        refine lv_iload hx hb d_Mo_fill_100 (lv_at hl 6 rfl) ?_
        refine lv_goto (tgt := 106) hx hb d_Mo_fill_102 (by decide) ?_
        refine lv_i2b (v := v6.toInt8.toInt32) hx hb d_Mo_fill_106 rfl ?_
        obtain ⟨g_45, F_A3, c_46⟩ := TI_arB (L := 2048) hT (hA 3 (by decide)) rfl rfl
        refine hm_bast hx hb hK hH hLo 0 F_A3 rfl (iIn (by omega) (by omega)) d_Mo_fill_107 (fun H_47 locs hH z_48 hLo => ?_)
        have hz : s.heap.size ≤ H_47.size := by rw [z_48]; exact hz
        obtain ⟨h_49, e_50⟩ : ∃ z, z = hu hh3 (A 3) (.inl ((t 0), 2048, .inl (upd g_45 i9.toNatClampNeg (vp_nar .byte v6.toInt8.toInt32)))) := ⟨_, rfl⟩
        have hH : hm D vwCl G h_49 H_47 := by rw [e_50]; exact hH
        have F_m9 : h_49 m9 = some (.inr (9, mf A n th sd lo le wr ma nu di pl se wg op)) := by rw [e_50, hu_n (tne T_m9 (hA 3 (by decide)) (by decide))]; exact F_m9
        have F_A12 : h_49 (A 12) = some (.inl ((t 2), 700, .inl g_1)) := by rw [e_50, hu_n (tneF (hA 12 (by decide)) (hA 3 (by decide)) (by decide))]; exact F_A12
        have F_A8 : h_49 (A 8) = some (.inl ((t 2), 700, .inl g_2)) := by rw [e_50, hu_n (tneF (hA 8 (by decide)) (hA 3 (by decide)) (by decide))]; exact F_A8
        have F_A9 : h_49 (A 9) = some (.inl ((t 2), 700, .inl g_10)) := by rw [e_50, hu_n (tneF (hA 9 (by decide)) (hA 3 (by decide)) (by decide))]; exact F_A9
        have F_A3 : h_49 (A 3) = some (.inl ((t 0), 2048, .inl (upd g_45 i9.toNatClampNeg (vp_nar .byte v6.toInt8.toInt32)))) := by rw [e_50]; exact hu_s _ _ _
        have hT : TI τ t n h_49 := by rw [e_50]; exact TI_put hT (hA 3 (by decide)) (by decide) (ok_B rfl rfl (sb_fitU c_46 (fitNar _)))
        have hkf : kf τ [(30, 3)] [] h h_49 := by rw [e_50]; exact kf_put hkf (hA 3 (by decide)) List.mem_cons_self
        obtain ⟨g_51, e_52⟩ : ∃ z, z = upd g_45 i9.toNatClampNeg (vp_nar .byte v6.toInt8.toInt32) := ⟨_, rfl⟩
        rw [← e_52] at F_A3
        have c_53 : sb_Fit g_51 := by rw [e_52]; exact (sb_fitU c_46 (fitNar _))
        obtain ⟨j_54, e_55⟩ : ∃ z : Int32, z = i9 + 1 := ⟨_, rfl⟩
        refine lv_iinc (v := j_54) (lv' := [(4, .int j_54), (0, .ref m9), (1, .int k9), (2, .int j9), (3, .int z9), (5, .int v_8), (6, .int v6)]) hx hb d_Mo_fill_108 hl (k := 4) rfl e_55.symm (by decide) rfl (fun ls hl => ?_)
        refine lv_goto (tgt := 3) hx hb d_Mo_fill_111 (by decide) ?_
        have is_56 : j_54.toInt = i9.toInt + 1 := by rw [e_55]; exact iAddK 1 rfl (by omega) (by omega)
        exact ih3 (mU j_54) ls _ locs _ (by rw [hk3]; exact mU_lt (by omega)) ⟨j_54, rfl, (lv_sub hl [1, 2, 3, 4, 0] rfl), hH, hz, hLo, F_m9, F_A12, F_A8, hT, hkf, (by omega)⟩
    · skip
      refine lv_iload_n hx hb d_Mo_fill_45 rfl (lv_at hl 5 rfl) ?_
      refine lv_if_eq (tgt := 83) hx hb d_Mo_fill_46 (by decide) (fun hc_57 => ?_) (fun hc_57 => ?_)
      · skip
        have ic_58 : z9.toInt = 0 := congrArg Int32.toInt hc_57
        exact J83 () _ _ _ _ ⟨v_22, (lv_sub hl [2, 3, 4, 5, 6, 1, 0] rfl), hH, hz, hLo, rfl⟩
      · skip
        have hzz := hz9 (Z_z9.resolve_left hc_57)
        refine lv_iload hx hb d_Mo_fill_49 (lv_at hl 1 rfl) ?_
        refine lv_aload_n hx hb d_Mo_fill_51 rfl (lv_at hl 2 rfl) ?_
        refine hm_get (ci := 9) (v := .ref (A 8)) (C := R_Mo) (T := F_Mo) (N := 41) hx hb hts ig_Mo hown hK hH F_m9 rfl 15 (by decide) (hts _ mw_615) (fun _ h9 => h9) rfl d_Mo_fill_52 ?_
        refine lv_iload_n hx hb d_Mo_fill_55 rfl (lv_at hl 3 rfl) ?_
        refine hm_iald hx hb hK hH 2 F_A8 rfl (iIn (by omega) (by omega)) d_Mo_fill_56 ?_
        refine lv_topi (fun v_59 e_60 => ?_)
        have is_61 : v_6.toInt = 2048 * j9.toInt := by rw [e_7]; exact iMulL 2048 rfl (by omega) (by omega)
        have is_62 : v_8.toInt = v_6.toInt + i9.toInt := by rw [e_9]; exact iAdd (by omega) (by omega)
        refine lv_icmp_ge (tgt := 80) hx hb d_Mo_fill_57 (by decide) (fun hc_63 => ?_) (fun hc_63 => ?_)
        · skip
          have ic_64 : v_59.toInt ≤ v_8.toInt := iLe hc_63
          refine lv_iconst (v := 0) hx hb d_Mo_fill_80 (by decide) ?_
          refine lv_istore (lv' := [(6, .int 0), (5, .int v_8), (0, .ref m9), (1, .int k9), (2, .int j9), (3, .int z9), (4, .int i9)]) hx hb d_Mo_fill_81 hl (by decide) rfl (fun ls hl => ?_)
          exact J83 () _ _ _ _ ⟨0, (lv_sub hl [2, 3, 4, 5, 6, 1, 0] rfl), hH, hz, hLo, rfl⟩
        · skip
          have ic_65 : v_8.toInt < v_59.toInt := iNe hc_63
          have iu_66 : v_59.toInt < 2147483648 := iUp _
          refine lv_aload_n hx hb d_Mo_fill_60 rfl (lv_at hl 2 rfl) ?_
          refine lv_sipush (v := 2048) hx hb d_Mo_fill_61 (by decide) ?_
          refine lv_aload_n hx hb d_Mo_fill_64 rfl (lv_at hl 2 rfl) ?_
          refine hm_get (ci := 9) (v := .ref (A 12)) (C := R_Mo) (T := F_Mo) (N := 41) hx hb hts ig_Mo hown hK hH F_m9 rfl 19 (by decide) (hts _ mw_697) (fun _ h9 => h9) rfl d_Mo_fill_65 ?_
          refine lv_iload_n hx hb d_Mo_fill_68 rfl (lv_at hl 3 rfl) ?_
          refine hm_iald hx hb hK hH 2 F_A12 rfl (iIn (by omega) (by omega)) d_Mo_fill_69 ?_
          refine lv_topi (fun v_67 e_68 => ?_)
          rw [← clN, ← e_68, ← e_60] at hzz
          refine lv_imul hx hb d_Mo_fill_70 ?_
          refine lv_topi (fun v_69 e_70 => ?_)
          refine lv_iload hx hb d_Mo_fill_71 (lv_at hl 1 rfl) ?_
          refine lv_iadd hx hb d_Mo_fill_73 ?_
          refine lv_topi (fun v_71 e_72 => ?_)
          have is_73 : v_69.toInt = 2048 * v_67.toInt := by rw [e_70]; exact iMulL 2048 rfl (by omega) (by omega)
          have is_74 : v_71.toInt = v_69.toInt + v_8.toInt := by rw [e_72]; exact iAdd (by omega) (by omega)
          refine hm_callPi (va_runV (As := [.int v_71]) (b := m9) (rest := []) ⟨hx, hb, hml, hown, hts⟩ (m_get l D t G ak av hh3 τ n m9 v_71 A th sd lo le wr ma nu di pl se wg op   hn hT T_m9  F_m9 hA ⟨hsd, hlo, (by omega), ⟨by omega, by omega⟩, ⟨by omega, by omega⟩⟩ (by omega) (by omega)) ⟨cw9B 1 hts mw_698 mw_699 mw_579 rfl rfl (by decide +kernel) ⟨Nat.le_of_ble_eq_true rfl, Nat.le_of_ble_eq_true rfl⟩, hts _ mw_700, hts _ mw_701⟩ (hP_V (q := (R_Mo, F_Mo, 41)) kE_ok hE hK hH F_m9 rfl) rfl rfl hl.1 rfl (lv_room (Nat.le_of_ble_eq_true rfl)) d_Mo_fill_74 ⟨Nat.le_of_ble_eq_true rfl, Nat.le_of_ble_eq_true rfl⟩) (fun r_75 h_76 H_77 hp_79  hH z_78 => ?_)
          have hz : s.heap.size ≤ H_77.size := Nat.le_trans hz z_78
          obtain ⟨xp_80, rfl⟩ := hp_79
          refine lv_goto (tgt := 81) hx hb d_Mo_fill_77 (by decide) ?_
          refine lv_istore (lv' := [(6, .int r_75), (5, .int v_8), (0, .ref m9), (1, .int k9), (2, .int j9), (3, .int z9), (4, .int i9)]) hx hb d_Mo_fill_81 hl (by decide) rfl (fun ls hl => ?_)
          exact J83 () _ _ _ _ ⟨r_75, (lv_sub hl [2, 3, 4, 5, 6, 1, 0] rfl), hH, hz, hLo, rfl⟩

set_option maxHeartbeats 4000000 in
set_option maxRecDepth 100000 in
theorem m_lay (l : Launch) (D : va_G) (t : Nat → ClassId) (G : hG) (ak av : Nat → Nat) (h : hM) (τ : tM) (n : Nat) (m9 : Nat) (f9 : Int32) (k9 : Int32) (z9 : Int32) (A : Nat → Nat) (th sd lo le wr ma nu di pl se wg op : Int32) (hn : n ≤ 200) (hT : TI τ t n h) (T_m9 : τ m9 = (20, 0)) (Z_z9 : zb z9) (F_m9 : h m9 = some (.inr (9, mf A n th sd lo le wr ma nu di pl se wg op))) (hA : ∀ i, i < 28 → τ (A i) = (30, i)) (hmk : mOk sd lo ma se op) (hf : f9.toInt = 0 ∨ f9.toInt = 200) (hk0 : 0 ≤ k9.toInt) (hk1 : k9.toInt < 700) (hsz : 0 ≤ (aI h (A 8) k9.toInt.toNat).toInt ∧ (aI h (A 8) k9.toInt.toNat).toInt ≤ 409600) (hz9 : z9 = 1 → 0 ≤ (aI h (A 12) k9.toInt.toNat).toInt ∧ (aI h (A 12) k9.toInt.toNat).toInt * 2048 + (aI h (A 8) k9.toInt.toNat).toInt ≤ 409600) : Met l y_Mo_lay (.code y_Mo_lay b_Mo_lay 8 (some .int) :: lw_g) { frames := 2, cells := 0, slots := 0, locals := 47 } (hP (kE D t G ak av) D vwCl G h [.ref m9, .int f9, .int k9, .int z9]) (hQi D vwCl G (fun r h' => TI τ t n h' ∧ kf τ [(30, 1), (30, 0), (30, 3), (30, 11)] [m9] h h' ∧ (∃ (lo' : Int32) (le' : Int32) (wr' : Int32), h' m9 = some (.inr (9, mf A n th sd lo' le' wr' ma nu di pl se wg op)) ∧ mOk sd lo' ma se op ∧ ((r.toInt = 0 ∧ (0 ≤ (aI h' (A 11) k9.toInt.toNat).toInt ∧ (aI h' (A 11) k9.toInt.toNat).toInt * 2048 + (aI h' (A 8) k9.toInt.toNat).toInt ≤ 2048 * n)) ∨ r.toInt < 0) ∧ ∀ q, q ≠ k9.toInt.toNat → aI h' (A 11) q = aI h (A 11) q))) 0 0 G.P := by
  refine Met.ofW (cc := b_Mo_lay) (maxL := 8) (ret := (some .int)) (by decide) rfl ?_
  intro p e s m args below meth c s₁ Bd hml hv
  obtain ⟨ha, hE, hH⟩ := hv
  have hx := Bd.exec
  have hb := Bd.bytes
  have hr := Bd.returns
  have hts : ∀ w ∈ lw_g, w.before args s = true := fun w hw => atoms_spec (ws := (.code y_Mo_lay b_Mo_lay 8 (some .int) :: lw_g)) Bd.pre w (List.mem_cons_of_mem _ hw)
  have hown : s.vm.findClass R_Mo = some m.cls := findClass_of_methodNamed Bd.named
  have hlocks := Bd.notSynchronized
  have hK := hE.1
  have hH0 := hH
  have hLo : hLc G.P [] := hLc_nil
  have hz : s.heap.size ≤ s.heap.size := Nat.le_refl _
  have hl := lv_entry [.ref m9, .int f9, .int k9, .int z9] (n := 8) (Nat.le_of_ble_eq_true rfl)
  rw [show entryFrame m args 8 = F0 m 0 ((lg_sl [.ref m9, .int f9, .int k9, .int z9] ++ List.replicate (8 - (lg_sl [.ref m9, .int f9, .int k9, .int z9]).length) Slot.unset).toArray) [] from (by rw [ha]; exact lg_entry_eq m [.ref m9, .int f9, .int k9, .int z9] 8)]
  generalize (lg_sl [.ref m9, .int f9, .int k9, .int z9] ++ List.replicate (8 - (lg_sl [.ref m9, .int f9, .int k9, .int z9]).length) Slot.unset).toArray = ls at hl ⊢
  have hl : lv_has ls 8 [(0, .ref m9), (1, .int f9), (2, .int k9), (3, .int z9)] := hl
  have hkf : kf τ [(30, 1), (30, 0), (30, 3), (30, 11)] [m9] h h := kf_rf
  obtain ⟨hsd, hlo, hma, hse, hop⟩ := id hmk
  have inI : (nI n).toInt = n := nI_toInt (by omega)
  obtain ⟨g_1, F_A8⟩ := TI_arI (L := 700) hT (hA 8 (by decide)) rfl rfl
  obtain ⟨g_2, F_A12⟩ := TI_arI (L := 700) hT (hA 12 (by decide)) rfl rfl
  obtain ⟨g_3, F_A11⟩ := TI_arI (L := 700) hT (hA 11 (by decide)) rfl rfl
  obtain ⟨g_4, F_A1, c_5⟩ := TI_arB (L := 400) hT (hA 1 (by decide)) rfl rfl
  rw [aI_of F_A8] at hsz
  rw [aI_of F_A12, aI_of F_A8] at hz9
  have h11e := aI_of F_A11
  refine lv_aload_n hx hb d_Mo_lay_0 rfl (lv_at hl 0 rfl) ?_
  refine hm_get (ci := 9) (v := .ref (A 8)) (C := R_Mo) (T := F_Mo) (N := 41) hx hb hts ig_Mo hown hK hH F_m9 rfl 15 (by decide) (hts _ mw_615) (fun _ h9 => h9) rfl d_Mo_lay_1 ?_
  refine lv_iload_n hx hb d_Mo_lay_4 rfl (lv_at hl 2 rfl) ?_
  refine hm_iald hx hb hK hH 2 F_A8 rfl (iIn (by omega) (by omega)) d_Mo_lay_5 ?_
  refine lv_topi (fun v_6 e_7 => ?_)
  have isv : 0 ≤ v_6.toInt ∧ v_6.toInt ≤ 409600 := by rw [e_7]; exact hsz
  refine lv_sipush (v := 2047) hx hb d_Mo_lay_6 (by decide) ?_
  refine lv_iadd hx hb d_Mo_lay_9 ?_
  refine lv_topi (fun v_8 e_9 => ?_)
  refine lv_sipush (v := 2048) hx hb d_Mo_lay_10 (by decide) ?_
  refine lv_idiv hx hb d_Mo_lay_13 (by decide) ?_
  refine lv_topi (fun v_10 e_11 => ?_)
  have id_12 : 0 ≤ v_8.toInt → v_10.toInt = v_8.toInt / 2048 := fun h9 => by rw [e_11]; exact i_div (d := 2048) (by decide) h9
  have is_13 : v_8.toInt = v_6.toInt + 2047 := by rw [e_9]; exact iAddK 2047 rfl (by omega) (by omega)
  have ind : v_10.toInt = (v_6.toInt + 2047) / 2048 := by have hq := id_12 (by omega); omega
  refine lv_istore (lv' := [(4, .int v_10), (0, .ref m9), (1, .int f9), (2, .int k9), (3, .int z9)]) hx hb d_Mo_lay_14 hl (by decide) rfl (fun ls hl => ?_)
  refine hm_loop (fun k16 ls H locs hh16 => ∃ (b8 : Nat) (wr8 : Int32) (lo8 : Int32) (le8 : Int32) (st8 : Nat → Int32), k16 = (n - b8) ∧ lv_has ls 8 [(0, .ref m9), (1, .int f9), (2, .int k9), (3, .int z9), (4, .int v_10)] ∧ hm D vwCl G hh16 H ∧ s.heap.size ≤ H.size ∧ hLc G.P locs ∧ hh16 (A 8) = some (.inl ((t 2), 700, .inl g_1)) ∧ hh16 (A 12) = some (.inl ((t 2), 700, .inl g_2)) ∧ hh16 (A 11) = some (.inl ((t 2), 700, .inl g_3)) ∧ (TI τ t n hh16) ∧ (kf τ [(30, 1), (30, 0), (30, 3), (30, 11)] [m9] h hh16) ∧ (hh16 m9 = some (.inr (9, mf A n th sd lo8 le8 wr8 ma nu di pl se wg op))) ∧ (zb lo8) ∧ (hh16 (A 1) = some (.inl ((t 0), 400, .inl st8))) ∧ (sb_Fit st8) ∧ (b8 ≤ n ∧ (b8 = 0 ∨ ¬ st8 (f9.toInt.toNat + (b8 - 1)) = 0))) ?_ (hh := h) ⟨0, wr, lo, le, g_4, rfl, (lv_sub hl [1, 2, 3, 4, 0] rfl), hH, hz, hLo, F_A8, F_A12, F_A11, hT, hkf, F_m9, hlo, F_A1, c_5, ⟨Nat.zero_le _, Or.inl rfl⟩⟩
  rintro k16 ls H locs hh16 ⟨b8, wr8, lo8, le8, st8, hk16, hl, hH, hz, hLo, F_A8, F_A12, F_A11, hT, hkf, F_m9, hlo8, F_A1, c_st8, hB⟩ ih16
  refine lv_aload_n hx hb d_Mo_lay_16 rfl (lv_at hl 0 rfl) ?_
  refine lv_iload_n hx hb d_Mo_lay_17 rfl (lv_at hl 1 rfl) ?_
  refine hm_callPi (va_runV (As := [.int f9]) (b := m9) (rest := []) ⟨hx, hb, hml, hown, hts⟩ (m_front l D t G ak av hh16 τ n m9 f9 A th sd lo8 le8 wr8 ma nu di pl se wg op   hn hT T_m9  F_m9 hA ⟨hsd, hlo8, (by omega), ⟨by omega, by omega⟩, ⟨by omega, by omega⟩⟩ hf) ⟨cw9B 1 hts mw_702 mw_703 mw_579 rfl rfl (by decide +kernel) ⟨Nat.le_of_ble_eq_true rfl, Nat.le_of_ble_eq_true rfl⟩, hts _ mw_704, hts _ mw_705⟩ (hP_V (q := (R_Mo, F_Mo, 41)) kE_ok hE hK hH F_m9 rfl) rfl rfl hl.1 rfl (lv_room (Nat.le_of_ble_eq_true rfl)) d_Mo_lay_18 ⟨Nat.le_of_ble_eq_true rfl, Nat.le_of_ble_eq_true rfl⟩) (fun r_14 h_15 H_16 hp_18  hH z_17 => ?_)
  have hz : s.heap.size ≤ H_16.size := Nat.le_trans hz z_17
  obtain ⟨xp_19, rfl⟩ := hp_18
  obtain ⟨if1, if2, if3⟩ := xp_19
  rw [aI_of F_A1] at if3
  have ige := fr_ge if3 hB.1 hB.2 if1
  refine lv_istore (lv' := [(5, .int r_14), (0, .ref m9), (1, .int f9), (2, .int k9), (3, .int z9), (4, .int v_10)]) hx hb d_Mo_lay_21 hl (by decide) rfl (fun ls hl => ?_)
  refine lv_iload hx hb d_Mo_lay_23 (lv_at hl 0 rfl) ?_
  refine lv_iload hx hb d_Mo_lay_25 (lv_at hl 5 rfl) ?_
  refine lv_iadd hx hb d_Mo_lay_27 ?_
  refine lv_topi (fun v_20 e_21 => ?_)
  refine lv_aload_n hx hb d_Mo_lay_28 rfl (lv_at hl 1 rfl) ?_
  refine hm_get (ci := 9) (v := .int (nI n)) (C := R_Mo) (T := F_Mo) (N := 41) hx hb hts ig_Mo hown hK hH F_m9 rfl 1 (by decide) (hts _ mw_587) (fun _ h9 => h9) rfl d_Mo_lay_29 ?_
  have is_22 : v_20.toInt = r_14.toInt + v_10.toInt := by rw [e_21]; exact iAdd (by omega) (by omega)
  refine lv_icmp_le (tgt := 38) hx hb d_Mo_lay_32 (by decide) (fun hc_23 => ?_) (fun hc_23 => ?_)
  · skip
    have ic_24 : v_20.toInt ≤ (nI n).toInt := iLe hc_23
    refine lv_iconst (v := 0) hx hb d_Mo_lay_38 (by decide) ?_
    refine lv_istore (lv' := [(6, .int 0), (5, .int r_14), (0, .ref m9), (1, .int f9), (2, .int k9), (3, .int z9), (4, .int v_10)]) hx hb d_Mo_lay_39 hl (by decide) rfl (fun ls hl => ?_)
    refine lv_iconst (v := 0) hx hb d_Mo_lay_41 (by decide) ?_
    refine lv_istore (lv' := [(7, .int 0), (6, .int 0), (5, .int r_14), (0, .ref m9), (1, .int f9), (2, .int k9), (3, .int z9), (4, .int v_10)]) hx hb d_Mo_lay_42 hl (by decide) rfl (fun ls hl => ?_)
    refine hm_loop (fun k44 ls H locs hh44 => ∃ (g9 : Int32) (j9 : Int32) (wr7 : Int32) (lo7 : Int32) (le7 : Int32) (st7 : Nat → Int32), k44 = mU j9 ∧ lv_has ls 8 [(0, .ref m9), (1, .int f9), (2, .int k9), (3, .int z9), (4, .int v_10), (5, .int r_14), (6, .int g9), (7, .int j9)] ∧ hm D vwCl G hh44 H ∧ s.heap.size ≤ H.size ∧ hLc G.P locs ∧ hh44 (A 8) = some (.inl ((t 2), 700, .inl g_1)) ∧ hh44 (A 12) = some (.inl ((t 2), 700, .inl g_2)) ∧ hh44 (A 11) = some (.inl ((t 2), 700, .inl g_3)) ∧ (TI τ t n hh44) ∧ (kf τ [(30, 1), (30, 0), (30, 3), (30, 11)] [m9] h hh44) ∧ (hh44 m9 = some (.inr (9, mf A n th sd lo7 le7 wr7 ma nu di pl se wg op))) ∧ (zb lo7) ∧ (hh44 (A 1) = some (.inl ((t 0), 400, .inl st7))) ∧ (sb_Fit st7) ∧ (0 ≤ j9.toInt ∧ (j9.toInt ≤ v_10.toInt ∨ j9.toInt = 0)) ∧ (¬ g9 = 0 → 1 ≤ j9.toInt ∧ ¬ st7 (f9.toInt.toNat + (r_14.toInt + j9.toInt - 1).toNat) = 0)) ?_ (hh := hh16) ⟨0, 0, wr8, lo8, le8, st8, rfl, (lv_sub hl [3, 4, 5, 6, 7, 2, 1, 0] rfl), hH, hz, hLo, F_A8, F_A12, F_A11, hT, hkf, F_m9, hlo8, F_A1, c_st8, ⟨by decide, Or.inr rfl⟩, (fun z => absurd rfl z)⟩
    rintro k44 ls H locs hh44 ⟨g9, j9, wr7, lo7, le7, st7, hk44, hl, hH, hz, hLo, F_A8, F_A12, F_A11, hT, hkf, F_m9, hlo7, F_A1, c_st7, I_j9, hG⟩ ih44
    refine lv_iload hx hb d_Mo_lay_44 (lv_at hl 7 rfl) ?_
    refine lv_iload hx hb d_Mo_lay_46 (lv_at hl 4 rfl) ?_
    refine lv_icmp_ge (tgt := 82) hx hb d_Mo_lay_48 (by decide) (fun hc_25 => ?_) (fun hc_25 => ?_)
    · skip
      have ic_26 : v_10.toInt ≤ j9.toInt := iLe hc_25
      refine lv_iload hx hb d_Mo_lay_82 (lv_at hl 6 rfl) ?_
      refine lv_iconst (v := 2) hx hb d_Mo_lay_84 (by decide) ?_
      refine lv_icmp_ne (tgt := 91) hx hb d_Mo_lay_85 (by decide) (fun hc_27 => ?_) (fun hc_27 => ?_)
      · skip
        refine lv_iload hx hb d_Mo_lay_91 (lv_at hl 6 rfl) ?_
        refine lv_iconst (v := 1) hx hb d_Mo_lay_93 (by decide) ?_
        refine lv_icmp_ne (tgt := 100) hx hb d_Mo_lay_94 (by decide) (fun hc_28 => ?_) (fun hc_28 => ?_)
        · skip
          refine lv_aload_n hx hb d_Mo_lay_100 rfl (lv_at hl 0 rfl) ?_
          refine hm_get (ci := 9) (v := .ref (A 11)) (C := R_Mo) (T := F_Mo) (N := 41) hx hb hts ig_Mo hown hK hH F_m9 rfl 18 (by decide) (hts _ mw_618) (fun _ h9 => h9) rfl d_Mo_lay_101 ?_
          refine lv_iload_n hx hb d_Mo_lay_104 rfl (lv_at hl 2 rfl) ?_
          refine lv_iload hx hb d_Mo_lay_105 (lv_at hl 5 rfl) ?_
          refine hm_iast hx hb hK hH hLo 2 F_A11 rfl (iIn (by omega) (by omega)) d_Mo_lay_107 (fun H_29 locs hH z_30 hLo => ?_)
          have hz : s.heap.size ≤ H_29.size := by rw [z_30]; exact hz
          obtain ⟨h_31, e_32⟩ : ∃ z, z = hu hh44 (A 11) (.inl ((t 2), 700, .inl (upd g_3 k9.toNatClampNeg r_14))) := ⟨_, rfl⟩
          have hH : hm D vwCl G h_31 H_29 := by rw [e_32]; exact hH
          have F_A8 : h_31 (A 8) = some (.inl ((t 2), 700, .inl g_1)) := by rw [e_32, hu_n (tneF (hA 8 (by decide)) (hA 11 (by decide)) (by decide))]; exact F_A8
          have F_A12 : h_31 (A 12) = some (.inl ((t 2), 700, .inl g_2)) := by rw [e_32, hu_n (tneF (hA 12 (by decide)) (hA 11 (by decide)) (by decide))]; exact F_A12
          have F_m9 : h_31 m9 = some (.inr (9, mf A n th sd lo7 le7 wr7 ma nu di pl se wg op)) := by rw [e_32, hu_n (tne T_m9 (hA 11 (by decide)) (by decide))]; exact F_m9
          have F_A1 : h_31 (A 1) = some (.inl ((t 0), 400, .inl st7)) := by rw [e_32, hu_n (tneF (hA 1 (by decide)) (hA 11 (by decide)) (by decide))]; exact F_A1
          have F_A11 : h_31 (A 11) = some (.inl ((t 2), 700, .inl (upd g_3 k9.toNatClampNeg r_14))) := by rw [e_32]; exact hu_s _ _ _
          have hT : TI τ t n h_31 := by rw [e_32]; exact TI_put hT (hA 11 (by decide)) (by decide) (ok_I rfl rfl)
          have hkf : kf τ [(30, 1), (30, 0), (30, 3), (30, 11)] [m9] h h_31 := by rw [e_32]; exact kf_put hkf (hA 11 (by decide)) (List.mem_cons_of_mem _ (List.mem_cons_of_mem _ (List.mem_cons_of_mem _ List.mem_cons_self)))
          obtain ⟨g_33, e_34⟩ : ∃ z, z = upd g_3 k9.toNatClampNeg r_14 := ⟨_, rfl⟩
          rw [← e_34] at F_A11
          refine lv_iconst (v := 0) hx hb d_Mo_lay_108 (by decide) ?_
          exact W.iret (v := 0) hx hb hr (fun t9 ht hW => ⟨0, h_31, rfl, ⟨hT, hkf, ⟨lo7, le7, wr7, F_m9, ⟨hsd, hlo7, (by omega), ⟨by omega, by omega⟩, ⟨by omega, by omega⟩⟩, ⟨Or.inl ⟨rfl, by rw [aI_of F_A11, aI_of F_A8, e_34, clN, upd_s, ← clN, ← e_7]; exact ⟨by omega, by omega⟩⟩, fun q hq => by rw [aI_of F_A11, h11e, e_34, clN, upd_n _ hq]⟩⟩⟩, by rw [ht]; exact hH, by rw [ht]; exact hz⟩) hLo d_Mo_lay_109
        · skip
          have ic_35 : g9.toInt = 1 := congrArg Int32.toInt hc_28
          obtain ⟨ig1, ig2⟩ := hG (by rw [hc_28]; decide)
          refine lv_goto (tgt := 16) hx hb d_Mo_lay_97 (by decide) ?_
          exact ih16 ((n - ((r_14.toInt + j9.toInt).toNat))) ls _ locs _ (by rw [hk16]; omega) ⟨((r_14.toInt + j9.toInt).toNat), wr7, lo7, le7, st7, rfl, (lv_sub hl [0, 1, 2, 3, 4] rfl), hH, hz, hLo, F_A8, F_A12, F_A11, hT, hkf, F_m9, hlo7, F_A1, c_st7, ⟨by omega, Or.inr (by rw [show (r_14.toInt + j9.toInt).toNat - 1 = (r_14.toInt + j9.toInt - 1).toNat by omega]; exact ig2)⟩⟩
      · skip
        have ic_36 : g9.toInt = 2 := congrArg Int32.toInt hc_27
        refine lv_bipush (v := -4) hx hb d_Mo_lay_88 (by decide) ?_
        exact W.iret (v := (-4)) hx hb hr (fun t9 ht hW => ⟨(-4), hh44, rfl, ⟨hT, hkf, ⟨lo7, le7, wr7, F_m9, ⟨hsd, hlo7, (by omega), ⟨by omega, by omega⟩, ⟨by omega, by omega⟩⟩, ⟨Or.inr (by decide), fun q _ => by rw [aI_of F_A11, h11e]⟩⟩⟩, by rw [ht]; exact hH, by rw [ht]; exact hz⟩) hLo d_Mo_lay_90
    · skip
      have ic_37 : j9.toInt < v_10.toInt := iNe hc_25
      have iu_38 : v_10.toInt < 2147483648 := iUp _
      refine lv_iload hx hb d_Mo_lay_51 (lv_at hl 6 rfl) ?_
      refine lv_if_ne (tgt := 82) hx hb d_Mo_lay_53 (by decide) (fun hc_39 => ?_) (fun hc_39 => ?_)
      · skip
        refine lv_iload hx hb d_Mo_lay_82 (lv_at hl 6 rfl) ?_
        refine lv_iconst (v := 2) hx hb d_Mo_lay_84 (by decide) ?_
        refine lv_icmp_ne (tgt := 91) hx hb d_Mo_lay_85 (by decide) (fun hc_40 => ?_) (fun hc_40 => ?_)
        · skip
          refine lv_iload hx hb d_Mo_lay_91 (lv_at hl 6 rfl) ?_
          refine lv_iconst (v := 1) hx hb d_Mo_lay_93 (by decide) ?_
          refine lv_icmp_ne (tgt := 100) hx hb d_Mo_lay_94 (by decide) (fun hc_41 => ?_) (fun hc_41 => ?_)
          · skip
            refine lv_aload_n hx hb d_Mo_lay_100 rfl (lv_at hl 0 rfl) ?_
            refine hm_get (ci := 9) (v := .ref (A 11)) (C := R_Mo) (T := F_Mo) (N := 41) hx hb hts ig_Mo hown hK hH F_m9 rfl 18 (by decide) (hts _ mw_618) (fun _ h9 => h9) rfl d_Mo_lay_101 ?_
            refine lv_iload_n hx hb d_Mo_lay_104 rfl (lv_at hl 2 rfl) ?_
            refine lv_iload hx hb d_Mo_lay_105 (lv_at hl 5 rfl) ?_
            refine hm_iast hx hb hK hH hLo 2 F_A11 rfl (iIn (by omega) (by omega)) d_Mo_lay_107 (fun H_42 locs hH z_43 hLo => ?_)
            have hz : s.heap.size ≤ H_42.size := by rw [z_43]; exact hz
            obtain ⟨h_44, e_45⟩ : ∃ z, z = hu hh44 (A 11) (.inl ((t 2), 700, .inl (upd g_3 k9.toNatClampNeg r_14))) := ⟨_, rfl⟩
            have hH : hm D vwCl G h_44 H_42 := by rw [e_45]; exact hH
            have F_A8 : h_44 (A 8) = some (.inl ((t 2), 700, .inl g_1)) := by rw [e_45, hu_n (tneF (hA 8 (by decide)) (hA 11 (by decide)) (by decide))]; exact F_A8
            have F_A12 : h_44 (A 12) = some (.inl ((t 2), 700, .inl g_2)) := by rw [e_45, hu_n (tneF (hA 12 (by decide)) (hA 11 (by decide)) (by decide))]; exact F_A12
            have F_m9 : h_44 m9 = some (.inr (9, mf A n th sd lo7 le7 wr7 ma nu di pl se wg op)) := by rw [e_45, hu_n (tne T_m9 (hA 11 (by decide)) (by decide))]; exact F_m9
            have F_A1 : h_44 (A 1) = some (.inl ((t 0), 400, .inl st7)) := by rw [e_45, hu_n (tneF (hA 1 (by decide)) (hA 11 (by decide)) (by decide))]; exact F_A1
            have F_A11 : h_44 (A 11) = some (.inl ((t 2), 700, .inl (upd g_3 k9.toNatClampNeg r_14))) := by rw [e_45]; exact hu_s _ _ _
            have hT : TI τ t n h_44 := by rw [e_45]; exact TI_put hT (hA 11 (by decide)) (by decide) (ok_I rfl rfl)
            have hkf : kf τ [(30, 1), (30, 0), (30, 3), (30, 11)] [m9] h h_44 := by rw [e_45]; exact kf_put hkf (hA 11 (by decide)) (List.mem_cons_of_mem _ (List.mem_cons_of_mem _ (List.mem_cons_of_mem _ List.mem_cons_self)))
            obtain ⟨g_46, e_47⟩ : ∃ z, z = upd g_3 k9.toNatClampNeg r_14 := ⟨_, rfl⟩
            rw [← e_47] at F_A11
            refine lv_iconst (v := 0) hx hb d_Mo_lay_108 (by decide) ?_
            exact W.iret (v := 0) hx hb hr (fun t9 ht hW => ⟨0, h_44, rfl, ⟨hT, hkf, ⟨lo7, le7, wr7, F_m9, ⟨hsd, hlo7, (by omega), ⟨by omega, by omega⟩, ⟨by omega, by omega⟩⟩, ⟨Or.inl ⟨rfl, by rw [aI_of F_A11, aI_of F_A8, e_47, clN, upd_s, ← clN, ← e_7]; exact ⟨by omega, by omega⟩⟩, fun q hq => by rw [aI_of F_A11, h11e, e_47, clN, upd_n _ hq]⟩⟩⟩, by rw [ht]; exact hH, by rw [ht]; exact hz⟩) hLo d_Mo_lay_109
          · skip
            have ic_48 : g9.toInt = 1 := congrArg Int32.toInt hc_41
            obtain ⟨ig1, ig2⟩ := hG (by rw [hc_41]; decide)
            refine lv_goto (tgt := 16) hx hb d_Mo_lay_97 (by decide) ?_
            exact ih16 ((n - ((r_14.toInt + j9.toInt).toNat))) ls _ locs _ (by rw [hk16]; omega) ⟨((r_14.toInt + j9.toInt).toNat), wr7, lo7, le7, st7, rfl, (lv_sub hl [0, 1, 2, 3, 4] rfl), hH, hz, hLo, F_A8, F_A12, F_A11, hT, hkf, F_m9, hlo7, F_A1, c_st7, ⟨by omega, Or.inr (by rw [show (r_14.toInt + j9.toInt).toNat - 1 = (r_14.toInt + j9.toInt - 1).toNat by omega]; exact ig2)⟩⟩
        · skip
          have ic_49 : g9.toInt = 2 := congrArg Int32.toInt hc_40
          refine lv_bipush (v := -4) hx hb d_Mo_lay_88 (by decide) ?_
          exact W.iret (v := (-4)) hx hb hr (fun t9 ht hW => ⟨(-4), hh44, rfl, ⟨hT, hkf, ⟨lo7, le7, wr7, F_m9, ⟨hsd, hlo7, (by omega), ⟨by omega, by omega⟩, ⟨by omega, by omega⟩⟩, ⟨Or.inr (by decide), fun q _ => by rw [aI_of F_A11, h11e]⟩⟩⟩, by rw [ht]; exact hH, by rw [ht]; exact hz⟩) hLo d_Mo_lay_90
      · skip
        have ic_50 : g9.toInt = 0 := congrArg Int32.toInt hc_39
        refine lv_aload_n hx hb d_Mo_lay_56 rfl (lv_at hl 0 rfl) ?_
        refine lv_iload_n hx hb d_Mo_lay_57 rfl (lv_at hl 2 rfl) ?_
        refine lv_iload hx hb d_Mo_lay_58 (lv_at hl 7 rfl) ?_
        refine lv_iload_n hx hb d_Mo_lay_60 rfl (lv_at hl 3 rfl) ?_
        refine hm_callv (va_runV (As := [.int k9, .int j9, .int z9]) (b := m9) (rest := []) ⟨hx, hb, hml, hown, hts⟩ (m_fill l D t G ak av hh44 τ n m9 k9 j9 z9 A th sd lo7 le7 wr7 ma nu di pl se wg op   hn hT T_m9 Z_z9  F_m9 hA ⟨hsd, hlo7, (by omega), ⟨by omega, by omega⟩, ⟨by omega, by omega⟩⟩ (by omega) (by omega) (by omega) (by omega) (by rw [aI_of F_A12, aI_of F_A8]; exact hz9)) ⟨cw9B 3 hts mw_706 mw_707 mw_579 rfl rfl (by decide +kernel) ⟨Nat.le_of_ble_eq_true rfl, Nat.le_of_ble_eq_true rfl⟩, hts _ mw_708, hts _ mw_709⟩ (hP_V (q := (R_Mo, F_Mo, 41)) kE_ok hE hK hH F_m9 rfl) rfl rfl hl.1 rfl (lv_room (Nat.le_of_ble_eq_true rfl)) d_Mo_lay_61 ⟨Nat.le_of_ble_eq_true rfl, Nat.le_of_ble_eq_true rfl⟩) hLo (fun h_51 H_52 locs hp_54 hH z_53 hLo => ?_)
        have hz : s.heap.size ≤ H_52.size := Nat.le_trans hz z_53
        have hT0 := hT
        obtain ⟨hT, kf_56⟩ := hp_54
        have F_A8 : h_51 (A 8) = some (.inl ((t 2), 700, .inl g_1)) := kf_at kf_56 (hA 8 (by decide)) (by decide) (tncF (by decide) tn0) nm0 F_A8
        have F_A12 : h_51 (A 12) = some (.inl ((t 2), 700, .inl g_2)) := kf_at kf_56 (hA 12 (by decide)) (by decide) (tncF (by decide) tn0) nm0 F_A12
        have F_A11 : h_51 (A 11) = some (.inl ((t 2), 700, .inl g_3)) := kf_at kf_56 (hA 11 (by decide)) (by decide) (tncF (by decide) tn0) nm0 F_A11
        have F_m9 : h_51 m9 = some (.inr (9, mf A n th sd lo7 le7 wr7 ma nu di pl se wg op)) := kf_at kf_56 T_m9 (by decide) (tnc (by decide) tn0) nm0 F_m9
        have F_A1 : h_51 (A 1) = some (.inl ((t 0), 400, .inl st7)) := kf_at kf_56 (hA 1 (by decide)) (by decide) (tncF (by decide) tn0) nm0 F_A1
        have hkf : kf τ [(30, 1), (30, 0), (30, 3), (30, 11)] [m9] h h_51 := kf_tr hkf kf_56 (List.forall_mem_cons.mpr ⟨(List.mem_cons_of_mem _ (List.mem_cons_of_mem _ List.mem_cons_self)), List.forall_mem_nil _⟩) (List.forall_mem_nil _)
        refine lv_aload_n hx hb d_Mo_lay_64 rfl (lv_at hl 0 rfl) ?_
        refine lv_iload_n hx hb d_Mo_lay_65 rfl (lv_at hl 1 rfl) ?_
        refine lv_iload hx hb d_Mo_lay_66 (lv_at hl 5 rfl) ?_
        refine lv_iload hx hb d_Mo_lay_68 (lv_at hl 7 rfl) ?_
        refine lv_iadd hx hb d_Mo_lay_70 ?_
        refine lv_topi (fun v_57 e_58 => ?_)
        have is_59 : v_57.toInt = r_14.toInt + j9.toInt := by rw [e_58]; exact iAdd (by omega) (by omega)
        refine hm_calli (va_runV (As := [.int f9, .int v_57]) (b := m9) (rest := []) ⟨hx, hb, hml, hown, hts⟩ (m_burn l D t G ak av h_51 τ n m9 f9 v_57 A th sd lo7 le7 wr7 ma nu di pl se wg op   hn hT T_m9  F_m9 hA ⟨hsd, hlo7, (by omega), ⟨by omega, by omega⟩, ⟨by omega, by omega⟩⟩ hf (by omega) (by omega)) ⟨cw9B 2 hts mw_710 mw_711 mw_579 rfl rfl (by decide +kernel) ⟨Nat.le_of_ble_eq_true rfl, Nat.le_of_ble_eq_true rfl⟩, hts _ mw_712, hts _ mw_713⟩ (hP_V (q := (R_Mo, F_Mo, 41)) kE_ok hE hK hH F_m9 rfl) rfl rfl hl.1 rfl (lv_room (Nat.le_of_ble_eq_true rfl)) d_Mo_lay_71 ⟨Nat.le_of_ble_eq_true rfl, Nat.le_of_ble_eq_true rfl⟩) hLo (fun r_60 h_61 H_62 locs hp_64 hH z_63 hLo => ?_)
        have hz : s.heap.size ≤ H_62.size := Nat.le_trans hz z_63
        have hT0 := hT
        obtain ⟨hT, kf_66, xp_65⟩ := hp_64
        have F_A8 : h_61 (A 8) = some (.inl ((t 2), 700, .inl g_1)) := kf_at kf_66 (hA 8 (by decide)) (by decide) (tncF (by decide) (tncF (by decide) tn0)) (nmc (tne (hA 8 (by decide)) T_m9 (by decide)) nm0) F_A8
        have F_A12 : h_61 (A 12) = some (.inl ((t 2), 700, .inl g_2)) := kf_at kf_66 (hA 12 (by decide)) (by decide) (tncF (by decide) (tncF (by decide) tn0)) (nmc (tne (hA 12 (by decide)) T_m9 (by decide)) nm0) F_A12
        have F_A11 : h_61 (A 11) = some (.inl ((t 2), 700, .inl g_3)) := kf_at kf_66 (hA 11 (by decide)) (by decide) (tncF (by decide) (tncF (by decide) tn0)) (nmc (tne (hA 11 (by decide)) T_m9 (by decide)) nm0) F_A11
        have hkf : kf τ [(30, 1), (30, 0), (30, 3), (30, 11)] [m9] h h_61 := kf_tr hkf kf_66 (List.forall_mem_cons.mpr ⟨List.mem_cons_self, List.forall_mem_cons.mpr ⟨(List.mem_cons_of_mem _ List.mem_cons_self), List.forall_mem_nil _⟩⟩) (List.forall_mem_cons.mpr ⟨Or.inl (by simp), List.forall_mem_nil _⟩)
        obtain ⟨lo_67, le_68, wr_69, F_m9, mk_70, xq_71⟩ := xp_65
        obtain ⟨m_72, m_73, m_74, m_75, m_76⟩ := mk_70
        obtain ⟨ib1, ib2⟩ := xq_71
        obtain ⟨g_77, F_A1, c_78⟩ := TI_arB (L := 400) hT (hA 1 (by decide)) rfl rfl
        rw [aI_of F_A1] at ib2
        refine lv_istore (lv' := [(6, .int r_60), (0, .ref m9), (1, .int f9), (2, .int k9), (3, .int z9), (4, .int v_10), (5, .int r_14), (7, .int j9)]) hx hb d_Mo_lay_74 hl (by decide) rfl (fun ls hl => ?_)
        obtain ⟨j_79, e_80⟩ : ∃ z : Int32, z = j9 + 1 := ⟨_, rfl⟩
        refine lv_iinc (v := j_79) (lv' := [(7, .int j_79), (6, .int r_60), (0, .ref m9), (1, .int f9), (2, .int k9), (3, .int z9), (4, .int v_10), (5, .int r_14)]) hx hb d_Mo_lay_76 hl (k := 7) rfl e_80.symm (by decide) rfl (fun ls hl => ?_)
        refine lv_goto (tgt := 44) hx hb d_Mo_lay_79 (by decide) ?_
        have is_81 : j_79.toInt = j9.toInt + 1 := by rw [e_80]; exact iAddK 1 rfl (by omega) (by omega)
        exact ih44 (mU j_79) ls _ locs _ (by rw [hk44]; exact mU_lt (by omega)) ⟨r_60, j_79, wr_69, lo_67, le_68, g_77, rfl, (lv_sub hl [2, 3, 4, 5, 6, 7, 1, 0] rfl), hH, hz, hLo, F_A8, F_A12, F_A11, hT, hkf, F_m9, m_73, F_A1, c_78, ⟨by omega, by omega⟩, (fun _ => ⟨by omega, by rw [show (r_14.toInt + j_79.toInt - 1).toNat = v_57.toInt.toNat by omega]; exact ib2⟩)⟩
  · skip
    have ic_82 : (nI n).toInt < v_20.toInt := iNe hc_23
    have iu_83 : v_20.toInt < 2147483648 := iUp _
    refine lv_bipush (v := -3) hx hb d_Mo_lay_35 (by decide) ?_
    exact W.iret (v := (-3)) hx hb hr (fun t9 ht hW => ⟨(-3), hh16, rfl, ⟨hT, hkf, ⟨lo8, le8, wr8, F_m9, ⟨hsd, hlo8, (by omega), ⟨by omega, by omega⟩, ⟨by omega, by omega⟩⟩, ⟨Or.inr (by decide), fun q _ => by rw [aI_of F_A11, h11e]⟩⟩⟩, by rw [ht]; exact hH, by rw [ht]; exact hz⟩) hLo d_Mo_lay_37

set_option maxHeartbeats 4000000 in
set_option maxRecDepth 100000 in
theorem m_session (l : Launch) (D : va_G) (t : Nat → ClassId) (G : hG) (ak av : Nat → Nat) (h : hM) (τ : tM) (n : Nat) (m9 : Nat) (f9 : Int32) (u9 : Int32) (A : Nat → Nat) (th sd lo le wr ma nu di pl se wg op : Int32) (hn : n ≤ 200) (hT : TI τ t n h) (T_m9 : τ m9 = (20, 0)) (F_m9 : h m9 = some (.inr (9, mf A n th sd lo le wr ma nu di pl se wg op))) (hA : ∀ i, i < 28 → τ (A i) = (30, i)) (hmk : mOk sd lo ma se op) (hTm : treeM (aI h (A 4)) (aI h (A 6)) ma.toInt.toNat) (hf : f9.toInt = 0 ∨ f9.toInt = 200) : Met l y_Mo_session (.code y_Mo_session b_Mo_session 8 (some .int) :: lw_g) { frames := 7, cells := 0, slots := 0, locals := 176 } (hP (kE D t G ak av) D vwCl G h [.ref m9, .int f9, .int u9]) (hQi D vwCl G (fun r h' => TI τ t n h' ∧ kf τ [(30, 1), (30, 0), (30, 3), (30, 14), (30, 15), (30, 16), (30, 13)] [m9] h h' ∧ (∃ (lo' : Int32) (le' : Int32) (wr' : Int32) (di' : Int32), h' m9 = some (.inr (9, mf A n th sd lo' le' wr' ma nu di' pl se wg op)) ∧ mOk sd lo' ma se op))) 0 0 G.P := by
  refine Met.ofW (cc := b_Mo_session) (maxL := 8) (ret := (some .int)) (by decide) rfl ?_
  intro p e s m args below meth c s₁ Bd hml hv
  obtain ⟨ha, hE, hH⟩ := hv
  have hx := Bd.exec
  have hb := Bd.bytes
  have hr := Bd.returns
  have hts : ∀ w ∈ lw_g, w.before args s = true := fun w hw => atoms_spec (ws := (.code y_Mo_session b_Mo_session 8 (some .int) :: lw_g)) Bd.pre w (List.mem_cons_of_mem _ hw)
  have hown : s.vm.findClass R_Mo = some m.cls := findClass_of_methodNamed Bd.named
  have hlocks := Bd.notSynchronized
  have hK := hE.1
  have hH0 := hH
  have hLo : hLc G.P [] := hLc_nil
  have hz : s.heap.size ≤ s.heap.size := Nat.le_refl _
  have hl := lv_entry [.ref m9, .int f9, .int u9] (n := 8) (Nat.le_of_ble_eq_true rfl)
  rw [show entryFrame m args 8 = F0 m 0 ((lg_sl [.ref m9, .int f9, .int u9] ++ List.replicate (8 - (lg_sl [.ref m9, .int f9, .int u9]).length) Slot.unset).toArray) [] from (by rw [ha]; exact lg_entry_eq m [.ref m9, .int f9, .int u9] 8)]
  generalize (lg_sl [.ref m9, .int f9, .int u9] ++ List.replicate (8 - (lg_sl [.ref m9, .int f9, .int u9]).length) Slot.unset).toArray = ls at hl ⊢
  have hl : lv_has ls 8 [(0, .ref m9), (1, .int f9), (2, .int u9)] := hl
  have hkf : kf τ [(30, 1), (30, 0), (30, 3), (30, 14), (30, 15), (30, 16), (30, 13)] [m9] h h := kf_rf
  obtain ⟨hsd, hlo, hma, hse, hop⟩ := id hmk
  have inI : (nI n).toInt = n := nI_toInt (by omega)
  obtain ⟨g_1, F_A1, c_2⟩ := TI_arB (L := 400) hT (hA 1 (by decide)) rfl rfl
  obtain ⟨g_3, F_A4, c_4⟩ := TI_arZ (L := 700) hT (hA 4 (by decide)) rfl rfl
  obtain ⟨g_5, F_A5, c_6⟩ := TI_arZ (L := 700) hT (hA 5 (by decide)) rfl rfl
  obtain ⟨g_7, F_A6⟩ := TI_arI (L := 700) hT (hA 6 (by decide)) rfl rfl
  obtain ⟨g_8, F_A7⟩ := TI_arJ (L := 700) hT (hA 7 (by decide)) rfl rfl
  rw [aI_of F_A4, aI_of F_A6] at hTm
  refine hm_loop (fun k0 ls H locs hh0 => ∃ (b8 : Nat) (wr8 : Int32) (lo8 : Int32) (le8 : Int32) (di8 : Int32) (st8 : Nat → Int32), k0 = (n - b8) ∧ lv_has ls 8 [(0, .ref m9), (1, .int f9), (2, .int u9)] ∧ hm D vwCl G hh0 H ∧ s.heap.size ≤ H.size ∧ hLc G.P locs ∧ hh0 (A 4) = some (.inl ((t 1), 700, .inl g_3)) ∧ hh0 (A 5) = some (.inl ((t 1), 700, .inl g_5)) ∧ hh0 (A 6) = some (.inl ((t 2), 700, .inl g_7)) ∧ hh0 (A 7) = some (.inl ((t 3), 700, .inr (.inl g_8))) ∧ (TI τ t n hh0) ∧ (kf τ [(30, 1), (30, 0), (30, 3), (30, 14), (30, 15), (30, 16), (30, 13)] [m9] h hh0) ∧ (hh0 m9 = some (.inr (9, mf A n th sd lo8 le8 wr8 ma nu di8 pl se wg op))) ∧ (zb lo8) ∧ (hh0 (A 1) = some (.inl ((t 0), 400, .inl st8))) ∧ (sb_Fit st8) ∧ (b8 ≤ n ∧ (b8 = 0 ∨ ¬ st8 (f9.toInt.toNat + (b8 - 1)) = 0))) ?_ (hh := h) ⟨0, wr, lo, le, di, g_1, rfl, (lv_sub hl [0, 1, 2] rfl), hH, hz, hLo, F_A4, F_A5, F_A6, F_A7, hT, hkf, F_m9, hlo, F_A1, c_2, ⟨Nat.zero_le _, Or.inl rfl⟩⟩
  rintro k0 ls H locs hh0 ⟨b8, wr8, lo8, le8, di8, st8, hk0, hl, hH, hz, hLo, F_A4, F_A5, F_A6, F_A7, hT, hkf, F_m9, hlo8, F_A1, c_st8, hB⟩ ih0
  refine lv_aload_n hx hb d_Mo_session_0 rfl (lv_at hl 0 rfl) ?_
  refine lv_iload_n hx hb d_Mo_session_1 rfl (lv_at hl 1 rfl) ?_
  refine hm_callPi (va_runV (As := [.int f9]) (b := m9) (rest := []) ⟨hx, hb, hml, hown, hts⟩ (m_front l D t G ak av hh0 τ n m9 f9 A th sd lo8 le8 wr8 ma nu di8 pl se wg op   hn hT T_m9  F_m9 hA ⟨hsd, hlo8, (by omega), ⟨by omega, by omega⟩, ⟨by omega, by omega⟩⟩ hf) ⟨cw9B 1 hts mw_702 mw_703 mw_579 rfl rfl (by decide +kernel) ⟨Nat.le_of_ble_eq_true rfl, Nat.le_of_ble_eq_true rfl⟩, hts _ mw_704, hts _ mw_705⟩ (hP_V (q := (R_Mo, F_Mo, 41)) kE_ok hE hK hH F_m9 rfl) rfl rfl hl.1 rfl (lv_room (Nat.le_of_ble_eq_true rfl)) d_Mo_session_2 ⟨Nat.le_of_ble_eq_true rfl, Nat.le_of_ble_eq_true rfl⟩) (fun r_9 h_10 H_11 hp_13  hH z_12 => ?_)
  have hz : s.heap.size ≤ H_11.size := Nat.le_trans hz z_12
  obtain ⟨xp_14, rfl⟩ := hp_13
  obtain ⟨if1, if2, if3⟩ := xp_14
  rw [aI_of F_A1] at if3
  have ige := fr_ge if3 hB.1 hB.2 if1
  refine lv_istore_n (lv' := [(3, .int r_9), (0, .ref m9), (1, .int f9), (2, .int u9)]) hx hb d_Mo_session_5 rfl hl (by decide) rfl (fun ls hl => ?_)
  refine lv_aload_n hx hb d_Mo_session_6 rfl (lv_at hl 1 rfl) ?_
  refine lv_iload_n hx hb d_Mo_session_7 rfl (lv_at hl 0 rfl) ?_
  refine hm_calli (va_runV (As := [.int r_9]) (b := m9) (rest := []) ⟨hx, hb, hml, hown, hts⟩ (m_measure l D t G ak av hh0 τ n m9 r_9 A th sd lo8 le8 wr8 ma nu di8 pl se wg op   hn hT T_m9  F_m9 hA ⟨hsd, hlo8, (by omega), ⟨by omega, by omega⟩, ⟨by omega, by omega⟩⟩ (by rw [aI_of F_A4, aI_of F_A6]; exact hTm) (by omega) (by omega)) ⟨cw9B 1 hts mw_714 mw_715 mw_579 rfl rfl (by decide +kernel) ⟨Nat.le_of_ble_eq_true rfl, Nat.le_of_ble_eq_true rfl⟩, hts _ mw_716, hts _ mw_717⟩ (hP_V (q := (R_Mo, F_Mo, 41)) kE_ok hE hK hH F_m9 rfl) rfl rfl hl.1 rfl (lv_room (Nat.le_of_ble_eq_true rfl)) d_Mo_session_8 ⟨Nat.le_of_ble_eq_true rfl, Nat.le_of_ble_eq_true rfl⟩) hLo (fun r_15 h_16 H_17 locs hp_19 hH z_18 hLo => ?_)
  have hz : s.heap.size ≤ H_17.size := Nat.le_trans hz z_18
  have hT0 := hT
  obtain ⟨hT, kf_21, xp_20⟩ := hp_19
  have F_A4 : h_16 (A 4) = some (.inl ((t 1), 700, .inl g_3)) := kf_at kf_21 (hA 4 (by decide)) (by decide) (tncF (by decide) (tncF (by decide) (tncF (by decide) (tncF (by decide) tn0)))) (nmc (tne (hA 4 (by decide)) T_m9 (by decide)) nm0) F_A4
  have F_A5 : h_16 (A 5) = some (.inl ((t 1), 700, .inl g_5)) := kf_at kf_21 (hA 5 (by decide)) (by decide) (tncF (by decide) (tncF (by decide) (tncF (by decide) (tncF (by decide) tn0)))) (nmc (tne (hA 5 (by decide)) T_m9 (by decide)) nm0) F_A5
  have F_A6 : h_16 (A 6) = some (.inl ((t 2), 700, .inl g_7)) := kf_at kf_21 (hA 6 (by decide)) (by decide) (tncF (by decide) (tncF (by decide) (tncF (by decide) (tncF (by decide) tn0)))) (nmc (tne (hA 6 (by decide)) T_m9 (by decide)) nm0) F_A6
  have F_A7 : h_16 (A 7) = some (.inl ((t 3), 700, .inr (.inl g_8))) := kf_at kf_21 (hA 7 (by decide)) (by decide) (tncF (by decide) (tncF (by decide) (tncF (by decide) (tncF (by decide) tn0)))) (nmc (tne (hA 7 (by decide)) T_m9 (by decide)) nm0) F_A7
  have F_A1 : h_16 (A 1) = some (.inl ((t 0), 400, .inl st8)) := kf_at kf_21 (hA 1 (by decide)) (by decide) (tncF (by decide) (tncF (by decide) (tncF (by decide) (tncF (by decide) tn0)))) (nmc (tne (hA 1 (by decide)) T_m9 (by decide)) nm0) F_A1
  have hkf : kf τ [(30, 1), (30, 0), (30, 3), (30, 14), (30, 15), (30, 16), (30, 13)] [m9] h h_16 := kf_tr hkf kf_21 (List.forall_mem_cons.mpr ⟨(List.mem_cons_of_mem _ (List.mem_cons_of_mem _ (List.mem_cons_of_mem _ List.mem_cons_self))), List.forall_mem_cons.mpr ⟨(List.mem_cons_of_mem _ (List.mem_cons_of_mem _ (List.mem_cons_of_mem _ (List.mem_cons_of_mem _ List.mem_cons_self)))), List.forall_mem_cons.mpr ⟨(List.mem_cons_of_mem _ (List.mem_cons_of_mem _ (List.mem_cons_of_mem _ (List.mem_cons_of_mem _ (List.mem_cons_of_mem _ List.mem_cons_self))))), List.forall_mem_cons.mpr ⟨(List.mem_cons_of_mem _ (List.mem_cons_of_mem _ (List.mem_cons_of_mem _ (List.mem_cons_of_mem _ (List.mem_cons_of_mem _ (List.mem_cons_of_mem _ List.mem_cons_self)))))), List.forall_mem_nil _⟩⟩⟩⟩) (List.forall_mem_cons.mpr ⟨Or.inl (by simp), List.forall_mem_nil _⟩)
  obtain ⟨di_22, F_m9, mk_23, xq_24⟩ := xp_20
  obtain ⟨m_25, m_26, m_27, m_28, m_29⟩ := mk_23
  obtain ⟨hQ, hAt, imr⟩ := xq_24
  obtain ⟨g_30, F_A14⟩ := TI_arI (L := 30) hT (hA 14 (by decide)) rfl rfl
  obtain ⟨g_31, F_A15⟩ := TI_arI (L := 700) hT (hA 15 (by decide)) rfl rfl
  rw [aI_of F_A4, aI_of F_A6, aI_of F_A14] at hQ
  rw [aI_of F_A14, aI_of F_A15] at hAt
  have hQ1 : 1 ≤ di_22.toInt := by have hq := hQ.1; omega
  have hQ2 : di_22.toInt ≤ 30 := by have hq := hQ.2.1; omega
  refine lv_istore (lv' := [(4, .int r_15), (3, .int r_9), (0, .ref m9), (1, .int f9), (2, .int u9)]) hx hb d_Mo_session_11 hl (by decide) rfl (fun ls hl => ?_)
  refine lv_iload_n hx hb d_Mo_session_13 rfl (lv_at hl 1 rfl) ?_
  refine lv_iload hx hb d_Mo_session_14 (lv_at hl 0 rfl) ?_
  refine lv_iadd hx hb d_Mo_session_16 ?_
  refine lv_topi (fun v_32 e_33 => ?_)
  refine lv_aload_n hx hb d_Mo_session_17 rfl (lv_at hl 2 rfl) ?_
  refine hm_get (ci := 9) (v := .int (nI n)) (C := R_Mo) (T := F_Mo) (N := 41) hx hb hts ig_Mo hown hK hH F_m9 rfl 1 (by decide) (hts _ mw_587) (fun _ h9 => h9) rfl d_Mo_session_18 ?_
  have is_34 : v_32.toInt = r_9.toInt + r_15.toInt := by rw [e_33]; exact iAdd (by omega) (by omega)
  refine lv_icmp_le (tgt := 27) hx hb d_Mo_session_21 (by decide) (fun hc_35 => ?_) (fun hc_35 => ?_)
  · skip
    have ic_36 : v_32.toInt ≤ (nI n).toInt := iLe hc_35
    refine lv_aload_n hx hb d_Mo_session_27 rfl (lv_at hl 2 rfl) ?_
    refine lv_iload_n hx hb d_Mo_session_28 rfl (lv_at hl 1 rfl) ?_
    refine lv_iload hx hb d_Mo_session_29 (lv_at hl 0 rfl) ?_
    refine lv_iload_n hx hb d_Mo_session_31 rfl (lv_at hl 4 rfl) ?_
    refine hm_callv (va_runV (As := [.int r_9, .int r_15, .int u9]) (b := m9) (rest := []) ⟨hx, hb, hml, hown, hts⟩ (m_design l D t G ak av h_16 τ n m9 r_9 r_15 u9 A th sd lo8 le8 wr8 ma nu di_22 pl se wg op   hn hT T_m9  F_m9 hA ⟨m_25, m_26, (by omega), ⟨by omega, by omega⟩, ⟨by omega, by omega⟩⟩ (by rw [aI_of F_A4, aI_of F_A6]; exact hTm) (by omega) (by omega) (by rw [aI_of F_A4, aI_of F_A6, aI_of F_A14]; exact hQ) (by rw [aI_of F_A14, aI_of F_A15]; exact hAt) (by omega)) ⟨cw9B 3 hts mw_718 mw_719 mw_579 rfl rfl (by decide +kernel) ⟨Nat.le_of_ble_eq_true rfl, Nat.le_of_ble_eq_true rfl⟩, hts _ mw_720, hts _ mw_721⟩ (hP_V (q := (R_Mo, F_Mo, 41)) kE_ok hE hK hH F_m9 rfl) rfl rfl hl.1 rfl (lv_room (Nat.le_of_ble_eq_true rfl)) d_Mo_session_32 ⟨Nat.le_of_ble_eq_true rfl, Nat.le_of_ble_eq_true rfl⟩) hLo (fun h_37 H_38 locs hp_40 hH z_39 hLo => ?_)
    have hz : s.heap.size ≤ H_38.size := Nat.le_trans hz z_39
    have hT0 := hT
    obtain ⟨hT, kf_42⟩ := hp_40
    have F_A4 : h_37 (A 4) = some (.inl ((t 1), 700, .inl g_3)) := kf_at kf_42 (hA 4 (by decide)) (by decide) (tncF (by decide) tn0) nm0 F_A4
    have F_A5 : h_37 (A 5) = some (.inl ((t 1), 700, .inl g_5)) := kf_at kf_42 (hA 5 (by decide)) (by decide) (tncF (by decide) tn0) nm0 F_A5
    have F_A6 : h_37 (A 6) = some (.inl ((t 2), 700, .inl g_7)) := kf_at kf_42 (hA 6 (by decide)) (by decide) (tncF (by decide) tn0) nm0 F_A6
    have F_A7 : h_37 (A 7) = some (.inl ((t 3), 700, .inr (.inl g_8))) := kf_at kf_42 (hA 7 (by decide)) (by decide) (tncF (by decide) tn0) nm0 F_A7
    have F_A1 : h_37 (A 1) = some (.inl ((t 0), 400, .inl st8)) := kf_at kf_42 (hA 1 (by decide)) (by decide) (tncF (by decide) tn0) nm0 F_A1
    have F_m9 : h_37 m9 = some (.inr (9, mf A n th sd lo8 le8 wr8 ma nu di_22 pl se wg op)) := kf_at kf_42 T_m9 (by decide) (tnc (by decide) tn0) nm0 F_m9
    have F_A14 : h_37 (A 14) = some (.inl ((t 2), 30, .inl g_30)) := kf_at kf_42 (hA 14 (by decide)) (by decide) (tncF (by decide) tn0) nm0 F_A14
    have F_A15 : h_37 (A 15) = some (.inl ((t 2), 700, .inl g_31)) := kf_at kf_42 (hA 15 (by decide)) (by decide) (tncF (by decide) tn0) nm0 F_A15
    have hkf : kf τ [(30, 1), (30, 0), (30, 3), (30, 14), (30, 15), (30, 16), (30, 13)] [m9] h h_37 := kf_tr hkf kf_42 (List.forall_mem_cons.mpr ⟨(List.mem_cons_of_mem _ (List.mem_cons_of_mem _ (List.mem_cons_of_mem _ (List.mem_cons_of_mem _ (List.mem_cons_of_mem _ (List.mem_cons_of_mem _ List.mem_cons_self)))))), List.forall_mem_nil _⟩) (List.forall_mem_nil _)
    refine lv_iconst (v := 0) hx hb d_Mo_session_35 (by decide) ?_
    refine lv_istore (lv' := [(5, .int 0), (4, .int r_15), (3, .int r_9), (0, .ref m9), (1, .int f9), (2, .int u9)]) hx hb d_Mo_session_36 hl (by decide) rfl (fun ls hl => ?_)
    refine lv_bipush (v := 16) hx hb d_Mo_session_38 (by decide) ?_
    refine lv_istore (lv' := [(6, .int 16), (5, .int 0), (4, .int r_15), (3, .int r_9), (0, .ref m9), (1, .int f9), (2, .int u9)]) hx hb d_Mo_session_40 hl (by decide) rfl (fun ls hl => ?_)
    refine hm_loop (fun k42 ls H locs hh42 => ∃ (g9 : Int32) (s9 : Int32) (wr7 : Int32) (lo7 : Int32) (le7 : Int32) (st7 : Nat → Int32), k42 = mU s9 ∧ lv_has ls 8 [(0, .ref m9), (1, .int f9), (2, .int u9), (3, .int r_9), (4, .int r_15), (5, .int g9), (6, .int s9)] ∧ hm D vwCl G hh42 H ∧ s.heap.size ≤ H.size ∧ hLc G.P locs ∧ hh42 (A 4) = some (.inl ((t 1), 700, .inl g_3)) ∧ hh42 (A 5) = some (.inl ((t 1), 700, .inl g_5)) ∧ hh42 (A 6) = some (.inl ((t 2), 700, .inl g_7)) ∧ hh42 (A 7) = some (.inl ((t 3), 700, .inr (.inl g_8))) ∧ (TI τ t n hh42) ∧ (kf τ [(30, 1), (30, 0), (30, 3), (30, 14), (30, 15), (30, 16), (30, 13)] [m9] h hh42) ∧ (hh42 m9 = some (.inr (9, mf A n th sd lo7 le7 wr7 ma nu di_22 pl se wg op))) ∧ (zb lo7) ∧ (hh42 (A 1) = some (.inl ((t 0), 400, .inl st7))) ∧ (sb_Fit st7) ∧ (16 ≤ s9.toInt ∧ s9.toInt ≤ r_15.toInt) ∧ (¬ g9 = 0 → 17 ≤ s9.toInt ∧ ¬ st7 (f9.toInt.toNat + (r_9.toInt + s9.toInt - 1).toNat) = 0)) ?_ (hh := h_37) ⟨0, 16, wr8, lo8, le8, st8, rfl, (lv_sub hl [4, 5, 6, 3, 2, 1, 0] rfl), hH, hz, hLo, F_A4, F_A5, F_A6, F_A7, hT, hkf, F_m9, m_26, F_A1, c_st8, ⟨by decide, by rw [show (16 : Int32).toInt = 16 from rfl]; omega⟩, (fun z => absurd rfl z)⟩
    rintro k42 ls H locs hh42 ⟨g9, s9, wr7, lo7, le7, st7, hk42, hl, hH, hz, hLo, F_A4, F_A5, F_A6, F_A7, hT, hkf, F_m9, hlo7, F_A1, c_st7, I_s9, hG⟩ ih42
    refine lv_iload hx hb d_Mo_session_42 (lv_at hl 6 rfl) ?_
    refine lv_iload hx hb d_Mo_session_44 (lv_at hl 4 rfl) ?_
    refine lv_icmp_ge (tgt := 112) hx hb d_Mo_session_46 (by decide) (fun hc_43 => ?_) (fun hc_43 => ?_)
    · skip
      have ic_44 : r_15.toInt ≤ s9.toInt := iLe hc_43
      refine lv_iload hx hb d_Mo_session_112 (lv_at hl 5 rfl) ?_
      refine lv_iconst (v := 2) hx hb d_Mo_session_114 (by decide) ?_
      refine lv_icmp_ne (tgt := 121) hx hb d_Mo_session_115 (by decide) (fun hc_45 => ?_) (fun hc_45 => ?_)
      · skip
        refine lv_iload hx hb d_Mo_session_121 (lv_at hl 5 rfl) ?_
        refine lv_if_ne (tgt := 128) hx hb d_Mo_session_123 (by decide) (fun hc_46 => ?_) (fun hc_46 => ?_)
        · skip
          obtain ⟨ig1, ig2⟩ := hG hc_46
          refine lv_goto (tgt := 0) hx hb d_Mo_session_128 (by decide) ?_
          exact ih0 ((n - ((r_9.toInt + s9.toInt).toNat))) ls _ locs _ (by rw [hk0]; omega) ⟨((r_9.toInt + s9.toInt).toNat), wr7, lo7, le7, di_22, st7, rfl, (lv_sub hl [0, 1, 2] rfl), hH, hz, hLo, F_A4, F_A5, F_A6, F_A7, hT, hkf, F_m9, hlo7, F_A1, c_st7, ⟨by omega, Or.inr (by rw [show (r_9.toInt + s9.toInt).toNat - 1 = (r_9.toInt + s9.toInt - 1).toNat by omega]; exact ig2)⟩⟩
        · skip
          have ic_47 : g9.toInt = 0 := congrArg Int32.toInt hc_46
          refine lv_iload_n hx hb d_Mo_session_126 rfl (lv_at hl 2 rfl) ?_
          exact W.iret (v := u9) hx hb hr (fun t9 ht hW => ⟨u9, hh42, rfl, ⟨hT, hkf, ⟨lo7, le7, wr7, di_22, F_m9, ⟨m_25, hlo7, (by omega), ⟨by omega, by omega⟩, ⟨by omega, by omega⟩⟩⟩⟩, by rw [ht]; exact hH, by rw [ht]; exact hz⟩) hLo d_Mo_session_127
      · skip
        have ic_48 : g9.toInt = 2 := congrArg Int32.toInt hc_45
        refine lv_bipush (v := -4) hx hb d_Mo_session_118 (by decide) ?_
        exact W.iret (v := (-4)) hx hb hr (fun t9 ht hW => ⟨(-4), hh42, rfl, ⟨hT, hkf, ⟨lo7, le7, wr7, di_22, F_m9, ⟨m_25, hlo7, (by omega), ⟨by omega, by omega⟩, ⟨by omega, by omega⟩⟩⟩⟩, by rw [ht]; exact hH, by rw [ht]; exact hz⟩) hLo d_Mo_session_120
    · skip
      have ic_49 : s9.toInt < r_15.toInt := iNe hc_43
      have iu_50 : r_15.toInt < 2147483648 := iUp _
      refine lv_iload hx hb d_Mo_session_49 (lv_at hl 5 rfl) ?_
      refine lv_if_ne (tgt := 112) hx hb d_Mo_session_51 (by decide) (fun hc_51 => ?_) (fun hc_51 => ?_)
      · skip
        refine lv_iload hx hb d_Mo_session_112 (lv_at hl 5 rfl) ?_
        refine lv_iconst (v := 2) hx hb d_Mo_session_114 (by decide) ?_
        refine lv_icmp_ne (tgt := 121) hx hb d_Mo_session_115 (by decide) (fun hc_52 => ?_) (fun hc_52 => ?_)
        · skip
          refine lv_iload hx hb d_Mo_session_121 (lv_at hl 5 rfl) ?_
          refine lv_if_ne (tgt := 128) hx hb d_Mo_session_123 (by decide) (fun hc_53 => ?_) (fun hc_53 => ?_)
          · skip
            obtain ⟨ig1, ig2⟩ := hG hc_53
            refine lv_goto (tgt := 0) hx hb d_Mo_session_128 (by decide) ?_
            exact ih0 ((n - ((r_9.toInt + s9.toInt).toNat))) ls _ locs _ (by rw [hk0]; omega) ⟨((r_9.toInt + s9.toInt).toNat), wr7, lo7, le7, di_22, st7, rfl, (lv_sub hl [0, 1, 2] rfl), hH, hz, hLo, F_A4, F_A5, F_A6, F_A7, hT, hkf, F_m9, hlo7, F_A1, c_st7, ⟨by omega, Or.inr (by rw [show (r_9.toInt + s9.toInt).toNat - 1 = (r_9.toInt + s9.toInt - 1).toNat by omega]; exact ig2)⟩⟩
          · skip
            have ic_54 : g9.toInt = 0 := congrArg Int32.toInt hc_53
            refine lv_iload_n hx hb d_Mo_session_126 rfl (lv_at hl 2 rfl) ?_
            exact W.iret (v := u9) hx hb hr (fun t9 ht hW => ⟨u9, hh42, rfl, ⟨hT, hkf, ⟨lo7, le7, wr7, di_22, F_m9, ⟨m_25, hlo7, (by omega), ⟨by omega, by omega⟩, ⟨by omega, by omega⟩⟩⟩⟩, by rw [ht]; exact hH, by rw [ht]; exact hz⟩) hLo d_Mo_session_127
        · skip
          have ic_55 : g9.toInt = 2 := congrArg Int32.toInt hc_52
          refine lv_bipush (v := -4) hx hb d_Mo_session_118 (by decide) ?_
          exact W.iret (v := (-4)) hx hb hr (fun t9 ht hW => ⟨(-4), hh42, rfl, ⟨hT, hkf, ⟨lo7, le7, wr7, di_22, F_m9, ⟨m_25, hlo7, (by omega), ⟨by omega, by omega⟩, ⟨by omega, by omega⟩⟩⟩⟩, by rw [ht]; exact hH, by rw [ht]; exact hz⟩) hLo d_Mo_session_120
      · skip
        have ic_56 : g9.toInt = 0 := congrArg Int32.toInt hc_51
        refine lv_iconst (v := 0) hx hb d_Mo_session_54 (by decide) ?_
        refine lv_istore (lv' := [(7, .int 0), (0, .ref m9), (1, .int f9), (2, .int u9), (3, .int r_9), (4, .int r_15), (5, .int g9), (6, .int s9)]) hx hb d_Mo_session_55 hl (by decide) rfl (fun ls hl => ?_)
        refine hm_loop (fun k57 ls H locs hh57 => ∃ (i7 : Int32), k57 = mU i7 ∧ lv_has ls 8 [(0, .ref m9), (1, .int f9), (2, .int u9), (3, .int r_9), (4, .int r_15), (5, .int g9), (6, .int s9), (7, .int i7)] ∧ hm D vwCl G hh57 H ∧ s.heap.size ≤ H.size ∧ hLc G.P locs ∧ hh57 m9 = some (.inr (9, mf A n th sd lo7 le7 wr7 ma nu di_22 pl se wg op)) ∧ hh57 (A 1) = some (.inl ((t 0), 400, .inl st7)) ∧ hh57 (A 4) = some (.inl ((t 1), 700, .inl g_3)) ∧ hh57 (A 5) = some (.inl ((t 1), 700, .inl g_5)) ∧ hh57 (A 6) = some (.inl ((t 2), 700, .inl g_7)) ∧ hh57 (A 7) = some (.inl ((t 3), 700, .inr (.inl g_8))) ∧ (TI τ t n hh57) ∧ (kf τ [(30, 1), (30, 0), (30, 3), (30, 14), (30, 15), (30, 16), (30, 13)] [m9] h hh57) ∧ (0 ≤ i7.toInt)) ?_ (hh := hh42) ⟨0, rfl, (lv_sub hl [1, 2, 3, 4, 5, 6, 7, 0] rfl), hH, hz, hLo, F_m9, F_A1, F_A4, F_A5, F_A6, F_A7, hT, hkf, (by decide)⟩
        rintro k57 ls H locs hh57 ⟨i7, hk57, hl, hH, hz, hLo, F_m9, F_A1, F_A4, F_A5, F_A6, F_A7, hT, hkf, I_i7⟩ ih57
        refine lv_iload hx hb d_Mo_session_57 (lv_at hl 7 rfl) ?_
        refine lv_sipush (v := 2048) hx hb d_Mo_session_59 (by decide) ?_
        refine lv_icmp_ge (tgt := 95) hx hb d_Mo_session_62 (by decide) (fun hc_57 => ?_) (fun hc_57 => ?_)
        · skip
          have ic_58 : 2048 ≤ i7.toInt := iLe hc_57
          refine lv_aload_n hx hb d_Mo_session_95 rfl (lv_at hl 0 rfl) ?_
          refine lv_iload_n hx hb d_Mo_session_96 rfl (lv_at hl 1 rfl) ?_
          refine lv_iload_n hx hb d_Mo_session_97 rfl (lv_at hl 3 rfl) ?_
          refine lv_iload hx hb d_Mo_session_98 (lv_at hl 6 rfl) ?_
          refine lv_iadd hx hb d_Mo_session_100 ?_
          refine lv_topi (fun v_59 e_60 => ?_)
          have is_61 : v_59.toInt = r_9.toInt + s9.toInt := by rw [e_60]; exact iAdd (by omega) (by omega)
          refine hm_calli (va_runV (As := [.int f9, .int v_59]) (b := m9) (rest := []) ⟨hx, hb, hml, hown, hts⟩ (m_burn l D t G ak av hh57 τ n m9 f9 v_59 A th sd lo7 le7 wr7 ma nu di_22 pl se wg op   hn hT T_m9  F_m9 hA ⟨m_25, hlo7, (by omega), ⟨by omega, by omega⟩, ⟨by omega, by omega⟩⟩ hf (by omega) (by omega)) ⟨cw9B 2 hts mw_710 mw_711 mw_579 rfl rfl (by decide +kernel) ⟨Nat.le_of_ble_eq_true rfl, Nat.le_of_ble_eq_true rfl⟩, hts _ mw_712, hts _ mw_713⟩ (hP_V (q := (R_Mo, F_Mo, 41)) kE_ok hE hK hH F_m9 rfl) rfl rfl hl.1 rfl (lv_room (Nat.le_of_ble_eq_true rfl)) d_Mo_session_101 ⟨Nat.le_of_ble_eq_true rfl, Nat.le_of_ble_eq_true rfl⟩) hLo (fun r_62 h_63 H_64 locs hp_66 hH z_65 hLo => ?_)
          have hz : s.heap.size ≤ H_64.size := Nat.le_trans hz z_65
          have hT0 := hT
          obtain ⟨hT, kf_68, xp_67⟩ := hp_66
          have F_A4 : h_63 (A 4) = some (.inl ((t 1), 700, .inl g_3)) := kf_at kf_68 (hA 4 (by decide)) (by decide) (tncF (by decide) (tncF (by decide) tn0)) (nmc (tne (hA 4 (by decide)) T_m9 (by decide)) nm0) F_A4
          have F_A5 : h_63 (A 5) = some (.inl ((t 1), 700, .inl g_5)) := kf_at kf_68 (hA 5 (by decide)) (by decide) (tncF (by decide) (tncF (by decide) tn0)) (nmc (tne (hA 5 (by decide)) T_m9 (by decide)) nm0) F_A5
          have F_A6 : h_63 (A 6) = some (.inl ((t 2), 700, .inl g_7)) := kf_at kf_68 (hA 6 (by decide)) (by decide) (tncF (by decide) (tncF (by decide) tn0)) (nmc (tne (hA 6 (by decide)) T_m9 (by decide)) nm0) F_A6
          have F_A7 : h_63 (A 7) = some (.inl ((t 3), 700, .inr (.inl g_8))) := kf_at kf_68 (hA 7 (by decide)) (by decide) (tncF (by decide) (tncF (by decide) tn0)) (nmc (tne (hA 7 (by decide)) T_m9 (by decide)) nm0) F_A7
          have hkf : kf τ [(30, 1), (30, 0), (30, 3), (30, 14), (30, 15), (30, 16), (30, 13)] [m9] h h_63 := kf_tr hkf kf_68 (List.forall_mem_cons.mpr ⟨List.mem_cons_self, List.forall_mem_cons.mpr ⟨(List.mem_cons_of_mem _ List.mem_cons_self), List.forall_mem_nil _⟩⟩) (List.forall_mem_cons.mpr ⟨Or.inl (by simp), List.forall_mem_nil _⟩)
          obtain ⟨lo_69, le_70, wr_71, F_m9, mk_72, xq_73⟩ := xp_67
          obtain ⟨m_74, m_75, m_76, m_77, m_78⟩ := mk_72
          obtain ⟨ib1, ib2⟩ := xq_73
          obtain ⟨g_79, F_A1, c_80⟩ := TI_arB (L := 400) hT (hA 1 (by decide)) rfl rfl
          rw [aI_of F_A1] at ib2
          refine lv_istore (lv' := [(5, .int r_62), (0, .ref m9), (1, .int f9), (2, .int u9), (3, .int r_9), (4, .int r_15), (6, .int s9), (7, .int i7)]) hx hb d_Mo_session_104 hl (by decide) rfl (fun ls hl => ?_)
          obtain ⟨j_81, e_82⟩ : ∃ z : Int32, z = s9 + 1 := ⟨_, rfl⟩
          refine lv_iinc (v := j_81) (lv' := [(6, .int j_81), (5, .int r_62), (0, .ref m9), (1, .int f9), (2, .int u9), (3, .int r_9), (4, .int r_15), (7, .int i7)]) hx hb d_Mo_session_106 hl (k := 6) rfl e_82.symm (by decide) rfl (fun ls hl => ?_)
          refine lv_goto (tgt := 42) hx hb d_Mo_session_109 (by decide) ?_
          have is_83 : j_81.toInt = s9.toInt + 1 := by rw [e_82]; exact iAddK 1 rfl (by omega) (by omega)
          exact ih42 (mU j_81) ls _ locs _ (by rw [hk42]; exact mU_lt (by omega)) ⟨r_62, j_81, wr_71, lo_69, le_70, g_79, rfl, (lv_sub hl [2, 3, 4, 5, 6, 1, 0] rfl), hH, hz, hLo, F_A4, F_A5, F_A6, F_A7, hT, hkf, F_m9, m_75, F_A1, c_80, ⟨by omega, by omega⟩, (fun _ => ⟨by omega, by rw [show (r_9.toInt + j_81.toInt - 1).toNat = v_59.toInt.toNat by omega]; exact ib2⟩)⟩
        · skip
          have ic_84 : i7.toInt < 2048 := iNe hc_57
          refine lv_aload_n hx hb d_Mo_session_65 rfl (lv_at hl 0 rfl) ?_
          refine hm_get (ci := 9) (v := .ref (A 3)) (C := R_Mo) (T := F_Mo) (N := 41) hx hb hts ig_Mo hown hK hH F_m9 rfl 9 (by decide) (hts _ mw_591) (fun _ h9 => h9) rfl d_Mo_session_66 ?_
          refine lv_iload hx hb d_Mo_session_69 (lv_at hl 7 rfl) ?_
          refine lv_aload_n hx hb d_Mo_session_71 rfl (lv_at hl 0 rfl) ?_
          refine hm_get (ci := 9) (v := .ref (A 13)) (C := R_Mo) (T := F_Mo) (N := 41) hx hb hts ig_Mo hown hK hH F_m9 rfl 21 (by decide) (hts _ mw_646) (fun _ h9 => h9) rfl d_Mo_session_72 ?_
          refine lv_sipush (v := 2048) hx hb d_Mo_session_75 (by decide) ?_
          refine lv_iload hx hb d_Mo_session_78 (lv_at hl 6 rfl) ?_
          refine lv_bipush (v := 16) hx hb d_Mo_session_80 (by decide) ?_
          refine lv_isub hx hb d_Mo_session_82 ?_
          refine lv_topi (fun v_85 e_86 => ?_)
          refine lv_imul hx hb d_Mo_session_83 ?_
          refine lv_topi (fun v_87 e_88 => ?_)
          refine lv_iload hx hb d_Mo_session_84 (lv_at hl 7 rfl) ?_
          refine lv_iadd hx hb d_Mo_session_86 ?_
          refine lv_topi (fun v_89 e_90 => ?_)
          obtain ⟨g_91, F_A13, c_92⟩ := TI_arB (L := 163840) hT (hA 13 (by decide)) rfl rfl
          have is_93 : v_85.toInt = s9.toInt - 16 := by rw [e_86]; exact iDecS 16 rfl (by decide) (by omega)
          have is_94 : v_87.toInt = 2048 * v_85.toInt := by rw [e_88]; exact iMulL 2048 rfl (by omega) (by omega)
          have is_95 : v_89.toInt = v_87.toInt + i7.toInt := by rw [e_90]; exact iAdd (by omega) (by omega)
          refine hm_bald hx hb hK hH 0 F_A13 rfl (iIn (by omega) (by omega)) d_Mo_session_87 ?_
          refine lv_topi (fun v_96 e_97 => ?_)
          obtain ⟨g_98, F_A3, c_99⟩ := TI_arB (L := 2048) hT (hA 3 (by decide)) rfl rfl
          refine hm_bast hx hb hK hH hLo 0 F_A3 rfl (iIn (by omega) (by omega)) d_Mo_session_88 (fun H_100 locs hH z_101 hLo => ?_)
          have hz : s.heap.size ≤ H_100.size := by rw [z_101]; exact hz
          obtain ⟨h_102, e_103⟩ : ∃ z, z = hu hh57 (A 3) (.inl ((t 0), 2048, .inl (upd g_98 i7.toNatClampNeg (vp_nar .byte v_96)))) := ⟨_, rfl⟩
          have hH : hm D vwCl G h_102 H_100 := by rw [e_103]; exact hH
          have F_m9 : h_102 m9 = some (.inr (9, mf A n th sd lo7 le7 wr7 ma nu di_22 pl se wg op)) := by rw [e_103, hu_n (tne T_m9 (hA 3 (by decide)) (by decide))]; exact F_m9
          have F_A1 : h_102 (A 1) = some (.inl ((t 0), 400, .inl st7)) := by rw [e_103, hu_n (tneF (hA 1 (by decide)) (hA 3 (by decide)) (by decide))]; exact F_A1
          have F_A4 : h_102 (A 4) = some (.inl ((t 1), 700, .inl g_3)) := by rw [e_103, hu_n (tneF (hA 4 (by decide)) (hA 3 (by decide)) (by decide))]; exact F_A4
          have F_A5 : h_102 (A 5) = some (.inl ((t 1), 700, .inl g_5)) := by rw [e_103, hu_n (tneF (hA 5 (by decide)) (hA 3 (by decide)) (by decide))]; exact F_A5
          have F_A6 : h_102 (A 6) = some (.inl ((t 2), 700, .inl g_7)) := by rw [e_103, hu_n (tneF (hA 6 (by decide)) (hA 3 (by decide)) (by decide))]; exact F_A6
          have F_A7 : h_102 (A 7) = some (.inl ((t 3), 700, .inr (.inl g_8))) := by rw [e_103, hu_n (tneF (hA 7 (by decide)) (hA 3 (by decide)) (by decide))]; exact F_A7
          have F_A13 : h_102 (A 13) = some (.inl ((t 0), 163840, .inl g_91)) := by rw [e_103, hu_n (tneF (hA 13 (by decide)) (hA 3 (by decide)) (by decide))]; exact F_A13
          have F_A3 : h_102 (A 3) = some (.inl ((t 0), 2048, .inl (upd g_98 i7.toNatClampNeg (vp_nar .byte v_96)))) := by rw [e_103]; exact hu_s _ _ _
          have hT : TI τ t n h_102 := by rw [e_103]; exact TI_put hT (hA 3 (by decide)) (by decide) (ok_B rfl rfl (sb_fitU c_99 (fitNar _)))
          have hkf : kf τ [(30, 1), (30, 0), (30, 3), (30, 14), (30, 15), (30, 16), (30, 13)] [m9] h h_102 := by rw [e_103]; exact kf_put hkf (hA 3 (by decide)) (List.mem_cons_of_mem _ (List.mem_cons_of_mem _ List.mem_cons_self))
          obtain ⟨g_104, e_105⟩ : ∃ z, z = upd g_98 i7.toNatClampNeg (vp_nar .byte v_96) := ⟨_, rfl⟩
          rw [← e_105] at F_A3
          have c_106 : sb_Fit g_104 := by rw [e_105]; exact (sb_fitU c_99 (fitNar _))
          obtain ⟨j_107, e_108⟩ : ∃ z : Int32, z = i7 + 1 := ⟨_, rfl⟩
          refine lv_iinc (v := j_107) (lv' := [(7, .int j_107), (0, .ref m9), (1, .int f9), (2, .int u9), (3, .int r_9), (4, .int r_15), (5, .int g9), (6, .int s9)]) hx hb d_Mo_session_89 hl (k := 7) rfl e_108.symm (by decide) rfl (fun ls hl => ?_)
          refine lv_goto (tgt := 57) hx hb d_Mo_session_92 (by decide) ?_
          have is_109 : j_107.toInt = i7.toInt + 1 := by rw [e_108]; exact iAddK 1 rfl (by omega) (by omega)
          exact ih57 (mU j_107) ls _ locs _ (by rw [hk57]; exact mU_lt (by omega)) ⟨j_107, rfl, (lv_sub hl [1, 2, 3, 4, 5, 6, 7, 0] rfl), hH, hz, hLo, F_m9, F_A1, F_A4, F_A5, F_A6, F_A7, hT, hkf, (by omega)⟩
  · skip
    have ic_110 : (nI n).toInt < v_32.toInt := iNe hc_35
    have iu_111 : v_32.toInt < 2147483648 := iUp _
    refine lv_bipush (v := -3) hx hb d_Mo_session_24 (by decide) ?_
    exact W.iret (v := (-3)) hx hb hr (fun t9 ht hW => ⟨(-3), h_16, rfl, ⟨hT, hkf, ⟨lo8, le8, wr8, di_22, F_m9, ⟨m_25, m_26, (by omega), ⟨by omega, by omega⟩, ⟨by omega, by omega⟩⟩⟩⟩, by rw [ht]; exact hH, by rw [ht]; exact hz⟩) hLo d_Mo_session_26
