set_option maxRecDepth 100000 in
theorem mw_355 : Cond.code y_Me_halvesAgree b_Me_halvesAgree 4 (some .boolean) ∈ lw_g := lw_gin (List.mem_append_right _ (List.mem_of_getElem? (i := 662) rfl)) (by decide +kernel)
set_option maxRecDepth 100000 in
theorem mw_356 : Cond.methodLink R_Re 95 y_Me_halvesAgree ∈ lw_g := lw_gin (List.mem_append_right _ (List.mem_of_getElem? (i := 659) rfl)) (by decide +kernel)
set_option maxRecDepth 100000 in
theorem mw_357 : Cond.instanceMethod y_Me_halvesAgree ∈ lw_g := lw_gin (List.mem_append_right _ (List.mem_of_getElem? (i := 660) rfl)) (by decide +kernel)
set_option maxRecDepth 100000 in
theorem mw_358 : Cond.selects R_Me y_Me_halvesAgree y_Me_halvesAgree ∈ lw_g := lw_gin (List.mem_append_right _ (List.mem_of_getElem? (i := 661) rfl)) (by decide +kernel)
set_option maxRecDepth 100000 in
theorem mw_359 : Cond.methodLink R_Re 91 y_Me_low ∈ lw_g := lw_gin (List.mem_append_right _ (List.mem_of_getElem? (i := 658) rfl)) (by decide +kernel)
set_option maxRecDepth 100000 in
theorem mw_360 : Cond.code y_Re_hasSectors b_Re_hasSectors 4 (some .boolean) ∈ lw_g := lw_gin (List.mem_append_right _ (List.mem_of_getElem? (i := 675) rfl)) (by decide +kernel)
set_option maxRecDepth 100000 in
theorem mw_361 : Cond.methodLink R_Re 151 y_Re_hasSectors ∈ lw_g := lw_gin (List.mem_append_right _ (List.mem_of_getElem? (i := 672) rfl)) (by decide +kernel)
set_option maxRecDepth 100000 in
theorem mw_362 : Cond.instanceMethod y_Re_hasSectors ∈ lw_g := lw_gin (List.mem_append_right _ (List.mem_of_getElem? (i := 674) rfl)) (by decide +kernel)
set_option maxRecDepth 100000 in
theorem mw_363 : Cond.selects R_Re y_Re_hasSectors y_Re_hasSectors ∈ lw_g := lw_gin (List.mem_append_left _ (List.mem_of_getElem? (i := 16) rfl)) (by decide +kernel)
set_option maxRecDepth 100000 in
theorem mw_364 : Cond.methodLink R_Re 164 y_No_takeName ∈ lw_g := lw_gin (List.mem_append_right _ (List.mem_of_getElem? (i := 703) rfl)) (by decide +kernel)
set_option maxRecDepth 100000 in
theorem mw_365 : Cond.methodLink R_Re 156 y_St_length ∈ lw_g := lw_gin (List.mem_append_right _ (List.mem_of_getElem? (i := 701) rfl)) (by decide +kernel)
set_option maxRecDepth 100000 in
theorem mw_366 : Cond.fieldLink R_Re 23 "WriteOnceDisc$Reader" "told" "LWriteOnceDisc$Node;" ∈ lw_g := lw_gin (List.mem_append_right _ (List.mem_of_getElem? (i := 155) rfl)) (by decide +kernel)
set_option maxRecDepth 100000 in
theorem mw_367 : Cond.code y_Re_takesRecord b_Re_takesRecord 5 (some .boolean) ∈ lw_g := lw_gin (List.mem_append_right _ (List.mem_of_getElem? (i := 670) rfl)) (by decide +kernel)
set_option maxRecDepth 100000 in
theorem mw_368 : Cond.methodLink R_Re 101 y_Re_takesRecord ∈ lw_g := lw_gin (List.mem_append_right _ (List.mem_of_getElem? (i := 667) rfl)) (by decide +kernel)
set_option maxRecDepth 100000 in
theorem mw_369 : Cond.instanceMethod y_Re_takesRecord ∈ lw_g := lw_gin (List.mem_append_right _ (List.mem_of_getElem? (i := 669) rfl)) (by decide +kernel)
set_option maxRecDepth 100000 in
theorem mw_370 : Cond.selects R_Re y_Re_takesRecord y_Re_takesRecord ∈ lw_g := lw_gin (List.mem_append_left _ (List.mem_of_getElem? (i := 15) rfl)) (by decide +kernel)
set_option maxRecDepth 100000 in
theorem mw_371 : Cond.code y_Re_isSpecial b_Re_isSpecial 3 (some .boolean) ∈ lw_g := lw_gin (List.mem_append_right _ (List.mem_of_getElem? (i := 681) rfl)) (by decide +kernel)
set_option maxRecDepth 100000 in
theorem mw_372 : Cond.methodLink R_Re 105 y_Re_isSpecial ∈ lw_g := lw_gin (List.mem_append_right _ (List.mem_of_getElem? (i := 678) rfl)) (by decide +kernel)
set_option maxRecDepth 100000 in
theorem mw_373 : Cond.instanceMethod y_Re_isSpecial ∈ lw_g := lw_gin (List.mem_append_right _ (List.mem_of_getElem? (i := 680) rfl)) (by decide +kernel)
set_option maxRecDepth 100000 in
theorem mw_374 : Cond.selects R_Re y_Re_isSpecial y_Re_isSpecial ∈ lw_g := lw_gin (List.mem_append_left _ (List.mem_of_getElem? (i := 17) rfl)) (by decide +kernel)
theorem d_Re_takesRecord_0 : decode b_Re_takesRecord 0 = .ok (.aload_n 0, 1) := by decide +kernel
theorem d_Re_takesRecord_1 : decode b_Re_takesRecord 1 = .ok (.getfield 27, 3) := by decide +kernel
theorem d_Re_takesRecord_4 : decode b_Re_takesRecord 4 = .ok (.iload_n 1, 1) := by decide +kernel
theorem d_Re_takesRecord_5 : decode b_Re_takesRecord 5 = .ok (.invokevirtual 81, 3) := by decide +kernel
theorem d_Re_takesRecord_8 : decode b_Re_takesRecord 8 = .ok (.istore_n 3, 1) := by decide +kernel
theorem d_Re_takesRecord_9 : decode b_Re_takesRecord 9 = .ok (.iload_n 3, 1) := by decide +kernel
theorem d_Re_takesRecord_10 : decode b_Re_takesRecord 10 = .ok (.bipush 34, 2) := by decide +kernel
theorem d_Re_takesRecord_12 : decode b_Re_takesRecord 12 = .ok (.if_icmp .lt 16, 3) := by decide +kernel
theorem d_Re_takesRecord_28 : decode b_Re_takesRecord 28 = .ok (.iconst 0, 1) := by decide +kernel
theorem d_Re_takesRecord_29 : decode b_Re_takesRecord 29 = .ok (.ireturn, 1) := by decide +kernel
theorem d_Re_takesRecord_15 : decode b_Re_takesRecord 15 = .ok (.iload_n 1, 1) := by decide +kernel
theorem d_Re_takesRecord_16 : decode b_Re_takesRecord 16 = .ok (.sipush 2048, 3) := by decide +kernel
theorem d_Re_takesRecord_19 : decode b_Re_takesRecord 19 = .ok (.irem, 1) := by decide +kernel
theorem d_Re_takesRecord_20 : decode b_Re_takesRecord 20 = .ok (.iload_n 3, 1) := by decide +kernel
theorem d_Re_takesRecord_21 : decode b_Re_takesRecord 21 = .ok (.iadd, 1) := by decide +kernel
theorem d_Re_takesRecord_22 : decode b_Re_takesRecord 22 = .ok (.sipush 2048, 3) := by decide +kernel
theorem d_Re_takesRecord_25 : decode b_Re_takesRecord 25 = .ok (.if_icmp .le 5, 3) := by decide +kernel
theorem d_Re_takesRecord_30 : decode b_Re_takesRecord 30 = .ok (.aload_n 0, 1) := by decide +kernel
theorem d_Re_takesRecord_31 : decode b_Re_takesRecord 31 = .ok (.getfield 27, 3) := by decide +kernel
theorem d_Re_takesRecord_34 : decode b_Re_takesRecord 34 = .ok (.iload_n 1, 1) := by decide +kernel
theorem d_Re_takesRecord_35 : decode b_Re_takesRecord 35 = .ok (.bipush 25, 2) := by decide +kernel
theorem d_Re_takesRecord_37 : decode b_Re_takesRecord 37 = .ok (.iadd, 1) := by decide +kernel
theorem d_Re_takesRecord_38 : decode b_Re_takesRecord 38 = .ok (.invokevirtual 81, 3) := by decide +kernel
theorem d_Re_takesRecord_41 : decode b_Re_takesRecord 41 = .ok (.istore 4, 2) := by decide +kernel
theorem d_Re_takesRecord_43 : decode b_Re_takesRecord 43 = .ok (.iload_n 3, 1) := by decide +kernel
theorem d_Re_takesRecord_44 : decode b_Re_takesRecord 44 = .ok (.bipush 33, 2) := by decide +kernel
theorem d_Re_takesRecord_46 : decode b_Re_takesRecord 46 = .ok (.aload_n 0, 1) := by decide +kernel
theorem d_Re_takesRecord_47 : decode b_Re_takesRecord 47 = .ok (.getfield 27, 3) := by decide +kernel
theorem d_Re_takesRecord_50 : decode b_Re_takesRecord 50 = .ok (.iload_n 1, 1) := by decide +kernel
theorem d_Re_takesRecord_51 : decode b_Re_takesRecord 51 = .ok (.bipush 32, 2) := by decide +kernel
theorem d_Re_takesRecord_53 : decode b_Re_takesRecord 53 = .ok (.iadd, 1) := by decide +kernel
theorem d_Re_takesRecord_54 : decode b_Re_takesRecord 54 = .ok (.invokevirtual 81, 3) := by decide +kernel
theorem d_Re_takesRecord_57 : decode b_Re_takesRecord 57 = .ok (.iadd, 1) := by decide +kernel
theorem d_Re_takesRecord_58 : decode b_Re_takesRecord 58 = .ok (.invokestatic 148, 3) := by decide +kernel
theorem d_Re_takesRecord_61 : decode b_Re_takesRecord 61 = .ok (.if_icmp .ne 14, 3) := by decide +kernel
theorem d_Re_takesRecord_75 : decode b_Re_takesRecord 75 = .ok (.iconst 0, 1) := by decide +kernel
theorem d_Re_takesRecord_76 : decode b_Re_takesRecord 76 = .ok (.ireturn, 1) := by decide +kernel
theorem d_Re_takesRecord_64 : decode b_Re_takesRecord 64 = .ok (.iload 4, 2) := by decide +kernel
theorem d_Re_takesRecord_66 : decode b_Re_takesRecord 66 = .ok (.ifCond .eq 11, 3) := by decide +kernel
theorem d_Re_takesRecord_77 : decode b_Re_takesRecord 77 = .ok (.aload_n 0, 1) := by decide +kernel
theorem d_Re_takesRecord_78 : decode b_Re_takesRecord 78 = .ok (.getfield 27, 3) := by decide +kernel
theorem d_Re_takesRecord_81 : decode b_Re_takesRecord 81 = .ok (.iload_n 1, 1) := by decide +kernel
theorem d_Re_takesRecord_82 : decode b_Re_takesRecord 82 = .ok (.iconst 2, 1) := by decide +kernel
theorem d_Re_takesRecord_83 : decode b_Re_takesRecord 83 = .ok (.iadd, 1) := by decide +kernel
theorem d_Re_takesRecord_84 : decode b_Re_takesRecord 84 = .ok (.iconst 4, 1) := by decide +kernel
theorem d_Re_takesRecord_85 : decode b_Re_takesRecord 85 = .ok (.invokevirtual 95, 3) := by decide +kernel
theorem d_Re_takesRecord_88 : decode b_Re_takesRecord 88 = .ok (.ifCond .eq 18, 3) := by decide +kernel
theorem d_Re_takesRecord_106 : decode b_Re_takesRecord 106 = .ok (.iconst 0, 1) := by decide +kernel
theorem d_Re_takesRecord_107 : decode b_Re_takesRecord 107 = .ok (.ireturn, 1) := by decide +kernel
theorem d_Re_takesRecord_91 : decode b_Re_takesRecord 91 = .ok (.aload_n 0, 1) := by decide +kernel
theorem d_Re_takesRecord_92 : decode b_Re_takesRecord 92 = .ok (.getfield 27, 3) := by decide +kernel
theorem d_Re_takesRecord_95 : decode b_Re_takesRecord 95 = .ok (.iload_n 1, 1) := by decide +kernel
theorem d_Re_takesRecord_96 : decode b_Re_takesRecord 96 = .ok (.bipush 10, 2) := by decide +kernel
theorem d_Re_takesRecord_98 : decode b_Re_takesRecord 98 = .ok (.iadd, 1) := by decide +kernel
theorem d_Re_takesRecord_99 : decode b_Re_takesRecord 99 = .ok (.iconst 4, 1) := by decide +kernel
theorem d_Re_takesRecord_100 : decode b_Re_takesRecord 100 = .ok (.invokevirtual 95, 3) := by decide +kernel
theorem d_Re_takesRecord_103 : decode b_Re_takesRecord 103 = .ok (.ifCond .ne 5, 3) := by decide +kernel
theorem d_Re_takesRecord_108 : decode b_Re_takesRecord 108 = .ok (.aload_n 0, 1) := by decide +kernel
theorem d_Re_takesRecord_109 : decode b_Re_takesRecord 109 = .ok (.getfield 27, 3) := by decide +kernel
theorem d_Re_takesRecord_112 : decode b_Re_takesRecord 112 = .ok (.iload_n 1, 1) := by decide +kernel
theorem d_Re_takesRecord_113 : decode b_Re_takesRecord 113 = .ok (.bipush 28, 2) := by decide +kernel
theorem d_Re_takesRecord_115 : decode b_Re_takesRecord 115 = .ok (.iadd, 1) := by decide +kernel
theorem d_Re_takesRecord_116 : decode b_Re_takesRecord 116 = .ok (.iconst 2, 1) := by decide +kernel
theorem d_Re_takesRecord_117 : decode b_Re_takesRecord 117 = .ok (.invokevirtual 95, 3) := by decide +kernel
theorem d_Re_takesRecord_120 : decode b_Re_takesRecord 120 = .ok (.ifCond .ne 5, 3) := by decide +kernel
theorem d_Re_takesRecord_137 : decode b_Re_takesRecord 137 = .ok (.putfield 58, 3) := by decide +kernel
theorem d_Re_takesRecord_140 : decode b_Re_takesRecord 140 = .ok (.aload_n 2, 1) := by decide +kernel
theorem d_Re_takesRecord_141 : decode b_Re_takesRecord 141 = .ok (.aload_n 0, 1) := by decide +kernel
theorem d_Re_takesRecord_142 : decode b_Re_takesRecord 142 = .ok (.getfield 27, 3) := by decide +kernel
theorem d_Re_takesRecord_145 : decode b_Re_takesRecord 145 = .ok (.iload_n 1, 1) := by decide +kernel
theorem d_Re_takesRecord_146 : decode b_Re_takesRecord 146 = .ok (.iconst 2, 1) := by decide +kernel
theorem d_Re_takesRecord_147 : decode b_Re_takesRecord 147 = .ok (.iadd, 1) := by decide +kernel
theorem d_Re_takesRecord_148 : decode b_Re_takesRecord 148 = .ok (.iconst 4, 1) := by decide +kernel
theorem d_Re_takesRecord_149 : decode b_Re_takesRecord 149 = .ok (.invokevirtual 91, 3) := by decide +kernel
theorem d_Re_takesRecord_152 : decode b_Re_takesRecord 152 = .ok (.putfield 108, 3) := by decide +kernel
theorem d_Re_takesRecord_155 : decode b_Re_takesRecord 155 = .ok (.aload_n 2, 1) := by decide +kernel
theorem d_Re_takesRecord_156 : decode b_Re_takesRecord 156 = .ok (.aload_n 0, 1) := by decide +kernel
theorem d_Re_takesRecord_157 : decode b_Re_takesRecord 157 = .ok (.getfield 27, 3) := by decide +kernel
theorem d_Re_takesRecord_160 : decode b_Re_takesRecord 160 = .ok (.iload_n 1, 1) := by decide +kernel
theorem d_Re_takesRecord_161 : decode b_Re_takesRecord 161 = .ok (.bipush 10, 2) := by decide +kernel
theorem d_Re_takesRecord_163 : decode b_Re_takesRecord 163 = .ok (.iadd, 1) := by decide +kernel
theorem d_Re_takesRecord_164 : decode b_Re_takesRecord 164 = .ok (.iconst 4, 1) := by decide +kernel
theorem d_Re_takesRecord_165 : decode b_Re_takesRecord 165 = .ok (.invokevirtual 91, 3) := by decide +kernel
theorem d_Re_takesRecord_168 : decode b_Re_takesRecord 168 = .ok (.putfield 111, 3) := by decide +kernel
theorem d_Re_takesRecord_171 : decode b_Re_takesRecord 171 = .ok (.aload_n 0, 1) := by decide +kernel
theorem d_Re_takesRecord_172 : decode b_Re_takesRecord 172 = .ok (.aload_n 2, 1) := by decide +kernel
theorem d_Re_takesRecord_173 : decode b_Re_takesRecord 173 = .ok (.invokevirtual 151, 3) := by decide +kernel
theorem d_Re_takesRecord_176 : decode b_Re_takesRecord 176 = .ok (.ireturn, 1) := by decide +kernel
theorem d_Re_takesRecord_125 : decode b_Re_takesRecord 125 = .ok (.aload_n 2, 1) := by decide +kernel
theorem d_Re_takesRecord_126 : decode b_Re_takesRecord 126 = .ok (.iload 4, 2) := by decide +kernel
theorem d_Re_takesRecord_128 : decode b_Re_takesRecord 128 = .ok (.iconst 2, 1) := by decide +kernel
theorem d_Re_takesRecord_129 : decode b_Re_takesRecord 129 = .ok (.if_icmp .ne 7, 3) := by decide +kernel
theorem d_Re_takesRecord_136 : decode b_Re_takesRecord 136 = .ok (.iconst 0, 1) := by decide +kernel
theorem d_Re_takesRecord_132 : decode b_Re_takesRecord 132 = .ok (.iconst 1, 1) := by decide +kernel
theorem d_Re_takesRecord_133 : decode b_Re_takesRecord 133 = .ok (.goto 4, 3) := by decide +kernel
theorem d_Re_takesRecord_123 : decode b_Re_takesRecord 123 = .ok (.iconst 0, 1) := by decide +kernel
theorem d_Re_takesRecord_124 : decode b_Re_takesRecord 124 = .ok (.ireturn, 1) := by decide +kernel
theorem d_Re_takesRecord_69 : decode b_Re_takesRecord 69 = .ok (.iload 4, 2) := by decide +kernel
theorem d_Re_takesRecord_71 : decode b_Re_takesRecord 71 = .ok (.iconst 2, 1) := by decide +kernel
theorem d_Re_takesRecord_72 : decode b_Re_takesRecord 72 = .ok (.if_icmp .eq 5, 3) := by decide +kernel
theorem d_Re_takesIdentifier_0 : decode b_Re_takesIdentifier 0 = .ok (.aload_n 0, 1) := by decide +kernel
theorem d_Re_takesIdentifier_1 : decode b_Re_takesIdentifier 1 = .ok (.getfield 27, 3) := by decide +kernel
theorem d_Re_takesIdentifier_4 : decode b_Re_takesIdentifier 4 = .ok (.iload_n 1, 1) := by decide +kernel
theorem d_Re_takesIdentifier_5 : decode b_Re_takesIdentifier 5 = .ok (.bipush 32, 2) := by decide +kernel
theorem d_Re_takesIdentifier_7 : decode b_Re_takesIdentifier 7 = .ok (.iadd, 1) := by decide +kernel
theorem d_Re_takesIdentifier_8 : decode b_Re_takesIdentifier 8 = .ok (.invokevirtual 81, 3) := by decide +kernel
theorem d_Re_takesIdentifier_11 : decode b_Re_takesIdentifier 11 = .ok (.istore_n 3, 1) := by decide +kernel
theorem d_Re_takesIdentifier_30 : decode b_Re_takesIdentifier 30 = .ok (.istore 4, 2) := by decide +kernel
theorem d_Re_takesIdentifier_32 : decode b_Re_takesIdentifier 32 = .ok (.iload 4, 2) := by decide +kernel
theorem d_Re_takesIdentifier_34 : decode b_Re_takesIdentifier 34 = .ok (.iconst 1, 1) := by decide +kernel
theorem d_Re_takesIdentifier_35 : decode b_Re_takesIdentifier 35 = .ok (.if_icmp .lt 10, 3) := by decide +kernel
theorem d_Re_takesIdentifier_45 : decode b_Re_takesIdentifier 45 = .ok (.iconst 0, 1) := by decide +kernel
theorem d_Re_takesIdentifier_46 : decode b_Re_takesIdentifier 46 = .ok (.ireturn, 1) := by decide +kernel
theorem d_Re_takesIdentifier_38 : decode b_Re_takesIdentifier 38 = .ok (.iload 4, 2) := by decide +kernel
theorem d_Re_takesIdentifier_40 : decode b_Re_takesIdentifier 40 = .ok (.bipush 8, 2) := by decide +kernel
theorem d_Re_takesIdentifier_42 : decode b_Re_takesIdentifier 42 = .ok (.if_icmp .le 5, 3) := by decide +kernel
theorem d_Re_takesIdentifier_47 : decode b_Re_takesIdentifier 47 = .ok (.aload_n 2, 1) := by decide +kernel
theorem d_Re_takesIdentifier_48 : decode b_Re_takesIdentifier 48 = .ok (.getfield 58, 3) := by decide +kernel
theorem d_Re_takesIdentifier_51 : decode b_Re_takesIdentifier 51 = .ok (.ifCond .ne 24, 3) := by decide +kernel
theorem d_Re_takesIdentifier_75 : decode b_Re_takesIdentifier 75 = .ok (.lconst 0, 1) := by decide +kernel
theorem d_Re_takesIdentifier_76 : decode b_Re_takesIdentifier 76 = .ok (.lstore 5, 2) := by decide +kernel
theorem d_Re_takesIdentifier_78 : decode b_Re_takesIdentifier 78 = .ok (.iconst 0, 1) := by decide +kernel
theorem d_Re_takesIdentifier_79 : decode b_Re_takesIdentifier 79 = .ok (.istore 7, 2) := by decide +kernel
theorem d_Re_takesIdentifier_81 : decode b_Re_takesIdentifier 81 = .ok (.iload 7, 2) := by decide +kernel
theorem d_Re_takesIdentifier_83 : decode b_Re_takesIdentifier 83 = .ok (.iload 4, 2) := by decide +kernel
theorem d_Re_takesIdentifier_85 : decode b_Re_takesIdentifier 85 = .ok (.if_icmp .ge 46, 3) := by decide +kernel
theorem d_Re_takesIdentifier_131 : decode b_Re_takesIdentifier 131 = .ok (.aload_n 2, 1) := by decide +kernel
theorem d_Re_takesIdentifier_132 : decode b_Re_takesIdentifier 132 = .ok (.lload 5, 2) := by decide +kernel
theorem d_Re_takesIdentifier_134 : decode b_Re_takesIdentifier 134 = .ok (.invokevirtual 164, 3) := by decide +kernel
theorem d_Re_takesIdentifier_137 : decode b_Re_takesIdentifier 137 = .ok (.iconst 1, 1) := by decide +kernel
theorem d_Re_takesIdentifier_138 : decode b_Re_takesIdentifier 138 = .ok (.ireturn, 1) := by decide +kernel
theorem d_Re_takesIdentifier_88 : decode b_Re_takesIdentifier 88 = .ok (.aload_n 0, 1) := by decide +kernel
theorem d_Re_takesIdentifier_89 : decode b_Re_takesIdentifier 89 = .ok (.getfield 27, 3) := by decide +kernel
theorem d_Re_takesIdentifier_92 : decode b_Re_takesIdentifier 92 = .ok (.iload_n 1, 1) := by decide +kernel
theorem d_Re_takesIdentifier_93 : decode b_Re_takesIdentifier 93 = .ok (.bipush 33, 2) := by decide +kernel
theorem d_Re_takesIdentifier_95 : decode b_Re_takesIdentifier 95 = .ok (.iadd, 1) := by decide +kernel
theorem d_Re_takesIdentifier_96 : decode b_Re_takesIdentifier 96 = .ok (.iload 7, 2) := by decide +kernel
theorem d_Re_takesIdentifier_98 : decode b_Re_takesIdentifier 98 = .ok (.iadd, 1) := by decide +kernel
theorem d_Re_takesIdentifier_99 : decode b_Re_takesIdentifier 99 = .ok (.invokevirtual 81, 3) := by decide +kernel
theorem d_Re_takesIdentifier_102 : decode b_Re_takesIdentifier 102 = .ok (.istore 8, 2) := by decide +kernel
theorem d_Re_takesIdentifier_104 : decode b_Re_takesIdentifier 104 = .ok (.iload 8, 2) := by decide +kernel
theorem d_Re_takesIdentifier_106 : decode b_Re_takesIdentifier 106 = .ok (.invokestatic 161, 3) := by decide +kernel
theorem d_Re_takesIdentifier_109 : decode b_Re_takesIdentifier 109 = .ok (.ifCond .ne 5, 3) := by decide +kernel
theorem d_Re_takesIdentifier_114 : decode b_Re_takesIdentifier 114 = .ok (.lload 5, 2) := by decide +kernel
theorem d_Re_takesIdentifier_116 : decode b_Re_takesIdentifier 116 = .ok (.bipush 8, 2) := by decide +kernel
theorem d_Re_takesIdentifier_118 : decode b_Re_takesIdentifier 118 = .ok (.lshl, 1) := by decide +kernel
theorem d_Re_takesIdentifier_119 : decode b_Re_takesIdentifier 119 = .ok (.iload 8, 2) := by decide +kernel
theorem d_Re_takesIdentifier_121 : decode b_Re_takesIdentifier 121 = .ok (.i2l, 1) := by decide +kernel
theorem d_Re_takesIdentifier_122 : decode b_Re_takesIdentifier 122 = .ok (.lor, 1) := by decide +kernel
theorem d_Re_takesIdentifier_123 : decode b_Re_takesIdentifier 123 = .ok (.lstore 5, 2) := by decide +kernel
theorem d_Re_takesIdentifier_125 : decode b_Re_takesIdentifier 125 = .ok (.iinc 7 1, 3) := by decide +kernel
theorem d_Re_takesIdentifier_128 : decode b_Re_takesIdentifier 128 = .ok (.goto (-47), 3) := by decide +kernel
theorem d_Re_takesIdentifier_112 : decode b_Re_takesIdentifier 112 = .ok (.iconst 0, 1) := by decide +kernel
theorem d_Re_takesIdentifier_113 : decode b_Re_takesIdentifier 113 = .ok (.ireturn, 1) := by decide +kernel
theorem d_Re_takesIdentifier_54 : decode b_Re_takesIdentifier 54 = .ok (.aload_n 0, 1) := by decide +kernel
theorem d_Re_takesIdentifier_55 : decode b_Re_takesIdentifier 55 = .ok (.getfield 27, 3) := by decide +kernel
theorem d_Re_takesIdentifier_58 : decode b_Re_takesIdentifier 58 = .ok (.iload_n 1, 1) := by decide +kernel
theorem d_Re_takesIdentifier_59 : decode b_Re_takesIdentifier 59 = .ok (.bipush 33, 2) := by decide +kernel
theorem d_Re_takesIdentifier_61 : decode b_Re_takesIdentifier 61 = .ok (.iadd, 1) := by decide +kernel
theorem d_Re_takesIdentifier_62 : decode b_Re_takesIdentifier 62 = .ok (.iload 4, 2) := by decide +kernel
theorem d_Re_takesIdentifier_64 : decode b_Re_takesIdentifier 64 = .ok (.iadd, 1) := by decide +kernel
theorem d_Re_takesIdentifier_65 : decode b_Re_takesIdentifier 65 = .ok (.ldc 154, 2) := by decide +kernel
theorem d_Re_takesIdentifier_67 : decode b_Re_takesIdentifier 67 = .ok (.invokevirtual 87, 3) := by decide +kernel
theorem d_Re_takesIdentifier_70 : decode b_Re_takesIdentifier 70 = .ok (.ifCond .ne 5, 3) := by decide +kernel
theorem d_Re_takesIdentifier_73 : decode b_Re_takesIdentifier 73 = .ok (.iconst 0, 1) := by decide +kernel
theorem d_Re_takesIdentifier_74 : decode b_Re_takesIdentifier 74 = .ok (.ireturn, 1) := by decide +kernel
theorem d_Re_takesIdentifier_12 : decode b_Re_takesIdentifier 12 = .ok (.aload_n 2, 1) := by decide +kernel
theorem d_Re_takesIdentifier_13 : decode b_Re_takesIdentifier 13 = .ok (.getfield 58, 3) := by decide +kernel
theorem d_Re_takesIdentifier_16 : decode b_Re_takesIdentifier 16 = .ok (.ifCond .eq 7, 3) := by decide +kernel
theorem d_Re_takesIdentifier_23 : decode b_Re_takesIdentifier 23 = .ok (.iload_n 3, 1) := by decide +kernel
theorem d_Re_takesIdentifier_24 : decode b_Re_takesIdentifier 24 = .ok (.ldc 154, 2) := by decide +kernel
theorem d_Re_takesIdentifier_26 : decode b_Re_takesIdentifier 26 = .ok (.invokevirtual 156, 3) := by decide +kernel
theorem d_Re_takesIdentifier_29 : decode b_Re_takesIdentifier 29 = .ok (.isub, 1) := by decide +kernel
theorem d_Re_takesIdentifier_19 : decode b_Re_takesIdentifier 19 = .ok (.iload_n 3, 1) := by decide +kernel
theorem d_Re_takesIdentifier_20 : decode b_Re_takesIdentifier 20 = .ok (.goto 10, 3) := by decide +kernel
theorem d_Re_saysDirectory_0 : decode b_Re_saysDirectory 0 = .ok (.aload_n 0, 1) := by decide +kernel
theorem d_Re_saysDirectory_1 : decode b_Re_saysDirectory 1 = .ok (.iload_n 1, 1) := by decide +kernel
theorem d_Re_saysDirectory_2 : decode b_Re_saysDirectory 2 = .ok (.aload_n 0, 1) := by decide +kernel
theorem d_Re_saysDirectory_3 : decode b_Re_saysDirectory 3 = .ok (.getfield 23, 3) := by decide +kernel
theorem d_Re_saysDirectory_6 : decode b_Re_saysDirectory 6 = .ok (.invokevirtual 101, 3) := by decide +kernel
theorem d_Re_saysDirectory_9 : decode b_Re_saysDirectory 9 = .ok (.ifCond .eq 44, 3) := by decide +kernel
theorem d_Re_saysDirectory_53 : decode b_Re_saysDirectory 53 = .ok (.iconst 0, 1) := by decide +kernel
theorem d_Re_saysDirectory_54 : decode b_Re_saysDirectory 54 = .ok (.ireturn, 1) := by decide +kernel
theorem d_Re_saysDirectory_12 : decode b_Re_saysDirectory 12 = .ok (.aload_n 0, 1) := by decide +kernel
theorem d_Re_saysDirectory_13 : decode b_Re_saysDirectory 13 = .ok (.iload_n 1, 1) := by decide +kernel
theorem d_Re_saysDirectory_14 : decode b_Re_saysDirectory 14 = .ok (.iload_n 2, 1) := by decide +kernel
theorem d_Re_saysDirectory_15 : decode b_Re_saysDirectory 15 = .ok (.invokevirtual 105, 3) := by decide +kernel
theorem d_Re_saysDirectory_18 : decode b_Re_saysDirectory 18 = .ok (.ifCond .eq 35, 3) := by decide +kernel
theorem d_Re_saysDirectory_21 : decode b_Re_saysDirectory 21 = .ok (.aload_n 0, 1) := by decide +kernel
theorem d_Re_saysDirectory_22 : decode b_Re_saysDirectory 22 = .ok (.getfield 23, 3) := by decide +kernel
theorem d_Re_saysDirectory_25 : decode b_Re_saysDirectory 25 = .ok (.getfield 108, 3) := by decide +kernel
theorem d_Re_saysDirectory_28 : decode b_Re_saysDirectory 28 = .ok (.aload_n 3, 1) := by decide +kernel
theorem d_Re_saysDirectory_29 : decode b_Re_saysDirectory 29 = .ok (.getfield 108, 3) := by decide +kernel
theorem d_Re_saysDirectory_32 : decode b_Re_saysDirectory 32 = .ok (.if_icmp .ne 21, 3) := by decide +kernel
theorem d_Re_saysDirectory_35 : decode b_Re_saysDirectory 35 = .ok (.aload_n 0, 1) := by decide +kernel
theorem d_Re_saysDirectory_36 : decode b_Re_saysDirectory 36 = .ok (.getfield 23, 3) := by decide +kernel
theorem d_Re_saysDirectory_39 : decode b_Re_saysDirectory 39 = .ok (.getfield 111, 3) := by decide +kernel
theorem d_Re_saysDirectory_42 : decode b_Re_saysDirectory 42 = .ok (.aload_n 3, 1) := by decide +kernel
theorem d_Re_saysDirectory_43 : decode b_Re_saysDirectory 43 = .ok (.getfield 111, 3) := by decide +kernel
theorem d_Re_saysDirectory_46 : decode b_Re_saysDirectory 46 = .ok (.if_icmp .ne 7, 3) := by decide +kernel
theorem d_Re_saysDirectory_49 : decode b_Re_saysDirectory 49 = .ok (.iconst 1, 1) := by decide +kernel
theorem d_Re_saysDirectory_50 : decode b_Re_saysDirectory 50 = .ok (.goto 4, 3) := by decide +kernel
set_option maxHeartbeats 4000000 in
set_option maxRecDepth 100000 in
theorem t_takesRec (l : Launch) (D : va_G) (t : Nat → ClassId) (G : hG) (ak av : Nat → Nat) (h : hM) (τ : tM) (n f : Nat) (r9 : Nat) (a9 : Int32) (e9 : Nat) (tb td md nd : Nat) (wp : Int32) (hn : n ≤ 200) (hT : TI τ t n h) (T_r9 : τ r9 = (6, 0)) (T_e9 : τ e9 = (10, f)) (F_r9 : h r9 = some (.inr (5, [.ref tb, .ref td, .ref md, .ref nd, .int wp]))) : Met l y_Re_takesRecord (.code y_Re_takesRecord b_Re_takesRecord 5 (some .boolean) :: lw_g) { frames := 2, cells := 0, slots := 0, locals := 47 } (hP (kE D t G ak av) D vwCl G h [.ref r9, .int a9, .ref e9]) (hQi D vwCl G (fun r h' => zb r ∧ TI τ t n h' ∧ kf τ [] [e9] h h' ∧ knp τ f h h' ∧ (r = 1 → rngN n h' e9))) 0 0 G.P := by
  refine Met.ofW (cc := b_Re_takesRecord) (maxL := 5) (ret := (some .boolean)) (by decide) rfl ?_
  intro p e s m args below meth c s₁ Bd hml hv
  obtain ⟨ha, hE, hH⟩ := hv
  have hx := Bd.exec
  have hb := Bd.bytes
  have hr := Bd.returns
  have hts : ∀ w ∈ lw_g, w.before args s = true := fun w hw => atoms_spec (ws := (.code y_Re_takesRecord b_Re_takesRecord 5 (some .boolean) :: lw_g)) Bd.pre w (List.mem_cons_of_mem _ hw)
  have hown : s.vm.findClass R_Re = some m.cls := findClass_of_methodNamed Bd.named
  have hlocks := Bd.notSynchronized
  have hK := hE.1
  have hH0 := hH
  have hLo : hLc G.P [] := hLc_nil
  have hz : s.heap.size ≤ s.heap.size := Nat.le_refl _
  have hl := lv_entry [.ref r9, .int a9, .ref e9] (n := 5) (Nat.le_of_ble_eq_true rfl)
  rw [show entryFrame m args 5 = F0 m 0 ((lg_sl [.ref r9, .int a9, .ref e9] ++ List.replicate (5 - (lg_sl [.ref r9, .int a9, .ref e9]).length) Slot.unset).toArray) [] from (by rw [ha]; exact lg_entry_eq m [.ref r9, .int a9, .ref e9] 5)]
  generalize (lg_sl [.ref r9, .int a9, .ref e9] ++ List.replicate (5 - (lg_sl [.ref r9, .int a9, .ref e9]).length) Slot.unset).toArray = ls at hl ⊢
  have hl : lv_has ls 5 [(0, .ref r9), (1, .int a9), (2, .ref e9)] := hl
  have hkf : kf τ [] [e9] h h := kf_rf
  have hnp_f : knp τ f h h := knp_rf
  obtain ⟨Tr0, Tr1, Tr2, Tr3⟩ := TJ_rdr (v2 := some md) (v3 := some nd) hT T_r9 F_r9
  have T_md := Tr2 md rfl
  have T_nd := Tr3 nd rfl
  refine lv_aload_n hx hb d_Re_takesRecord_0 rfl (lv_at hl 0 rfl) ?_
  refine hm_get (ci := 5) (v := .ref md) (C := R_Re) (T := F_Re) (N := 5) hx hb hts ig_Re hown hK hH F_r9 rfl 2 (by decide) (hts _ mw_329) (fun _ h9 => h9) rfl d_Re_takesRecord_1 ?_
  refine lv_iload_n hx hb d_Re_takesRecord_4 rfl (lv_at hl 1 rfl) ?_
  obtain ⟨v_1, v_3, F_md, c_2⟩ := TI_med hT T_md
  refine hm_callPi (va_runV (As := [.int a9]) (b := md) (rest := []) ⟨hx, hb, hml, hown, hts⟩ (t_fetch l D t G ak av h τ n md a9  hn hT T_md) ⟨cw9B 1 hts mw_31 mw_330 mw_32 rfl rfl (by decide +kernel) ⟨Nat.le_of_ble_eq_true rfl, Nat.le_of_ble_eq_true rfl⟩, hts _ mw_34, hts _ mw_35⟩ (hP_V (q := (R_Me, F_Me, 2)) kE_ok hE hK hH F_md rfl) rfl rfl hl.1 rfl (lv_room (Nat.le_of_ble_eq_true rfl)) d_Re_takesRecord_5 ⟨Nat.le_of_ble_eq_true rfl, Nat.le_of_ble_eq_true rfl⟩) (fun r_4 h_5 H_6 hp_8  hH z_7 => ?_)
  have hz : s.heap.size ≤ H_6.size := Nat.le_trans hz z_7
  obtain ⟨xp_9, rfl⟩ := hp_8
  refine lv_istore_n (lv' := [(3, .int r_4), (0, .ref r9), (1, .int a9), (2, .ref e9)]) hx hb d_Re_takesRecord_8 rfl hl (by decide) rfl (fun ls hl => ?_)
  refine lv_iload_n hx hb d_Re_takesRecord_9 rfl (lv_at hl 0 rfl) ?_
  refine lv_bipush (v := 34) hx hb d_Re_takesRecord_10 (by decide) ?_
  refine lv_icmp_lt (tgt := 28) hx hb d_Re_takesRecord_12 (by decide) (fun hc_10 => ?_) (fun hc_10 => ?_)
  · skip
    have ic_11 : r_4.toInt < 34 := iLt hc_10
    refine lv_iconst (v := 0) hx hb d_Re_takesRecord_28 (by decide) ?_
    exact W.zret (v := 0) hx hb hr (by decide) (fun t9 ht hW => ⟨0, h, rfl, ⟨zb0, hT, hkf, hnp_f, (fun z => absurd z (by decide))⟩, by rw [ht]; exact hH, by rw [ht]; exact hz⟩) hLo d_Re_takesRecord_29
  · skip
    have ic_12 : 34 ≤ r_4.toInt := iNl hc_10
    refine lv_iload_n hx hb d_Re_takesRecord_15 rfl (lv_at hl 2 rfl) ?_
    refine lv_sipush (v := 2048) hx hb d_Re_takesRecord_16 (by decide) ?_
    refine lv_irem hx hb d_Re_takesRecord_19 (by decide) ?_
    refine lv_topi (fun v_13 e_14 => ?_)
    have id_15 : 0 ≤ a9.toInt → v_13.toInt = a9.toInt % 2048 := fun h9 => by rw [e_14]; exact i_mod (d := 2048) (by decide) h9
    refine lv_iload_n hx hb d_Re_takesRecord_20 rfl (lv_at hl 0 rfl) ?_
    refine lv_iadd hx hb d_Re_takesRecord_21 ?_
    refine lv_sipush (v := 2048) hx hb d_Re_takesRecord_22 (by decide) ?_
    refine lv_icmp_le (tgt := 30) hx hb d_Re_takesRecord_25 (by decide) (fun hc_16 => ?_) (fun hc_16 => ?_)
    · skip
      have ic_17 : (v_13 + r_4).toInt ≤ 2048 := iLe hc_16
      refine lv_aload_n hx hb d_Re_takesRecord_30 rfl (lv_at hl 1 rfl) ?_
      refine hm_get (ci := 5) (v := .ref md) (C := R_Re) (T := F_Re) (N := 5) hx hb hts ig_Re hown hK hH F_r9 rfl 2 (by decide) (hts _ mw_329) (fun _ h9 => h9) rfl d_Re_takesRecord_31 ?_
      refine lv_iload_n hx hb d_Re_takesRecord_34 rfl (lv_at hl 2 rfl) ?_
      refine lv_bipush (v := 25) hx hb d_Re_takesRecord_35 (by decide) ?_
      refine lv_iadd hx hb d_Re_takesRecord_37 ?_
      refine hm_callPi (va_runV (As := [.int (a9 + 25)]) (b := md) (rest := []) ⟨hx, hb, hml, hown, hts⟩ (t_fetch l D t G ak av h τ n md (a9 + 25)  hn hT T_md) ⟨cw9B 1 hts mw_31 mw_330 mw_32 rfl rfl (by decide +kernel) ⟨Nat.le_of_ble_eq_true rfl, Nat.le_of_ble_eq_true rfl⟩, hts _ mw_34, hts _ mw_35⟩ (hP_V (q := (R_Me, F_Me, 2)) kE_ok hE hK hH F_md rfl) rfl rfl hl.1 rfl (lv_room (Nat.le_of_ble_eq_true rfl)) d_Re_takesRecord_38 ⟨Nat.le_of_ble_eq_true rfl, Nat.le_of_ble_eq_true rfl⟩) (fun r_18 h_19 H_20 hp_22  hH z_21 => ?_)
      have hz : s.heap.size ≤ H_20.size := Nat.le_trans hz z_21
      obtain ⟨xp_23, rfl⟩ := hp_22
      refine lv_istore (lv' := [(4, .int r_18), (3, .int r_4), (0, .ref r9), (1, .int a9), (2, .ref e9)]) hx hb d_Re_takesRecord_41 hl (by decide) rfl (fun ls hl => ?_)
      refine lv_iload_n hx hb d_Re_takesRecord_43 rfl (lv_at hl 1 rfl) ?_
      refine lv_bipush (v := 33) hx hb d_Re_takesRecord_44 (by decide) ?_
      refine lv_aload_n hx hb d_Re_takesRecord_46 rfl (lv_at hl 2 rfl) ?_
      refine hm_get (ci := 5) (v := .ref md) (C := R_Re) (T := F_Re) (N := 5) hx hb hts ig_Re hown hK hH F_r9 rfl 2 (by decide) (hts _ mw_329) (fun _ h9 => h9) rfl d_Re_takesRecord_47 ?_
      refine lv_iload_n hx hb d_Re_takesRecord_50 rfl (lv_at hl 3 rfl) ?_
      refine lv_bipush (v := 32) hx hb d_Re_takesRecord_51 (by decide) ?_
      refine lv_iadd hx hb d_Re_takesRecord_53 ?_
      refine hm_callPi (va_runV (As := [.int (a9 + 32)]) (b := md) (rest := [.int 33, .int r_4]) ⟨hx, hb, hml, hown, hts⟩ (t_fetch l D t G ak av h τ n md (a9 + 32)  hn hT T_md) ⟨cw9B 1 hts mw_31 mw_330 mw_32 rfl rfl (by decide +kernel) ⟨Nat.le_of_ble_eq_true rfl, Nat.le_of_ble_eq_true rfl⟩, hts _ mw_34, hts _ mw_35⟩ (hP_V (q := (R_Me, F_Me, 2)) kE_ok hE hK hH F_md rfl) rfl rfl hl.1 rfl (lv_room (Nat.le_of_ble_eq_true rfl)) d_Re_takesRecord_54 ⟨Nat.le_of_ble_eq_true rfl, Nat.le_of_ble_eq_true rfl⟩) (fun r_24 h_25 H_26 hp_28  hH z_27 => ?_)
      have hz : s.heap.size ≤ H_26.size := Nat.le_trans hz z_27
      obtain ⟨xp_29, rfl⟩ := hp_28
      refine lv_iadd hx hb d_Re_takesRecord_57 ?_
      refine hm_callPi (va_runSN (As := [.int (33 + r_24)]) (rest := [.int r_4]) ⟨hx, hb, hml, hown, hts⟩ (t_evened l D t G ak av h τ n (33 + r_24)  hn hT ) ⟨cw9N 1 hts mw_173 (nmU hE nM_8) mw_25 rfl rfl (by decide +kernel) ⟨Nat.le_of_ble_eq_true rfl, Nat.le_of_ble_eq_true rfl⟩, hts _ mw_174, trivial⟩ (hP_S kE_ok hE hH) rfl rfl hl.1 rfl (lv_room (Nat.le_of_ble_eq_true rfl)) d_Re_takesRecord_58 ⟨Nat.le_of_ble_eq_true rfl, Nat.le_of_ble_eq_true rfl⟩) (fun r_30 h_31 H_32 hp_34  hH z_33 => ?_)
      have hz : s.heap.size ≤ H_32.size := Nat.le_trans hz z_33
      obtain rfl := hp_34
      refine lv_icmp_ne (tgt := 75) hx hb d_Re_takesRecord_61 (by decide) (fun hc_36 => ?_) (fun hc_36 => ?_)
      · skip
        refine lv_iconst (v := 0) hx hb d_Re_takesRecord_75 (by decide) ?_
        exact W.zret (v := 0) hx hb hr (by decide) (fun t9 ht hW => ⟨0, h, rfl, ⟨zb0, hT, hkf, hnp_f, (fun z => absurd z (by decide))⟩, by rw [ht]; exact hH, by rw [ht]; exact hz⟩) hLo d_Re_takesRecord_76
      · skip
        have ic_37 : r_4.toInt = r_30.toInt := congrArg Int32.toInt hc_36
        refine lv_iload hx hb d_Re_takesRecord_64 (lv_at hl 0 rfl) ?_
        refine lv_if_eq (tgt := 77) hx hb d_Re_takesRecord_66 (by decide) (fun hc_38 => ?_) (fun hc_38 => ?_)
        · skip
          have ic_39 : r_18.toInt = 0 := congrArg Int32.toInt hc_38
          refine lv_aload_n hx hb d_Re_takesRecord_77 rfl (lv_at hl 2 rfl) ?_
          refine hm_get (ci := 5) (v := .ref md) (C := R_Re) (T := F_Re) (N := 5) hx hb hts ig_Re hown hK hH F_r9 rfl 2 (by decide) (hts _ mw_329) (fun _ h9 => h9) rfl d_Re_takesRecord_78 ?_
          refine lv_iload_n hx hb d_Re_takesRecord_81 rfl (lv_at hl 3 rfl) ?_
          refine lv_iconst (v := 2) hx hb d_Re_takesRecord_82 (by decide) ?_
          refine lv_iadd hx hb d_Re_takesRecord_83 ?_
          refine lv_iconst (v := 4) hx hb d_Re_takesRecord_84 (by decide) ?_
          refine hm_callPi (va_runV (As := [.int (a9 + 2), .int 4]) (b := md) (rest := []) ⟨hx, hb, hml, hown, hts⟩ (t_halves l D t G ak av h τ n md (a9 + 2) 4  hn hT T_md) ⟨cw9B 2 hts mw_355 mw_356 mw_32 rfl rfl (by decide +kernel) ⟨Nat.le_of_ble_eq_true rfl, Nat.le_of_ble_eq_true rfl⟩, hts _ mw_357, hts _ mw_358⟩ (hP_V (q := (R_Me, F_Me, 2)) kE_ok hE hK hH F_md rfl) rfl rfl hl.1 rfl (lv_room (Nat.le_of_ble_eq_true rfl)) d_Re_takesRecord_85 ⟨Nat.le_of_ble_eq_true rfl, Nat.le_of_ble_eq_true rfl⟩) (fun r_40 h_41 H_42 hp_44  hH z_43 => ?_)
          have hz : s.heap.size ≤ H_42.size := Nat.le_trans hz z_43
          obtain ⟨c_45, rfl⟩ := hp_44
          refine lv_if_eq (tgt := 106) hx hb d_Re_takesRecord_88 (by decide) (fun hc_47 => ?_) (fun hc_47 => ?_)
          · skip
            have ic_48 : r_40.toInt = 0 := congrArg Int32.toInt hc_47
            refine lv_iconst (v := 0) hx hb d_Re_takesRecord_106 (by decide) ?_
            exact W.zret (v := 0) hx hb hr (by decide) (fun t9 ht hW => ⟨0, h, rfl, ⟨zb0, hT, hkf, hnp_f, (fun z => absurd z (by decide))⟩, by rw [ht]; exact hH, by rw [ht]; exact hz⟩) hLo d_Re_takesRecord_107
          · skip
            refine lv_aload_n hx hb d_Re_takesRecord_91 rfl (lv_at hl 2 rfl) ?_
            refine hm_get (ci := 5) (v := .ref md) (C := R_Re) (T := F_Re) (N := 5) hx hb hts ig_Re hown hK hH F_r9 rfl 2 (by decide) (hts _ mw_329) (fun _ h9 => h9) rfl d_Re_takesRecord_92 ?_
            refine lv_iload_n hx hb d_Re_takesRecord_95 rfl (lv_at hl 3 rfl) ?_
            refine lv_bipush (v := 10) hx hb d_Re_takesRecord_96 (by decide) ?_
            refine lv_iadd hx hb d_Re_takesRecord_98 ?_
            refine lv_iconst (v := 4) hx hb d_Re_takesRecord_99 (by decide) ?_
            refine hm_callPi (va_runV (As := [.int (a9 + 10), .int 4]) (b := md) (rest := []) ⟨hx, hb, hml, hown, hts⟩ (t_halves l D t G ak av h τ n md (a9 + 10) 4  hn hT T_md) ⟨cw9B 2 hts mw_355 mw_356 mw_32 rfl rfl (by decide +kernel) ⟨Nat.le_of_ble_eq_true rfl, Nat.le_of_ble_eq_true rfl⟩, hts _ mw_357, hts _ mw_358⟩ (hP_V (q := (R_Me, F_Me, 2)) kE_ok hE hK hH F_md rfl) rfl rfl hl.1 rfl (lv_room (Nat.le_of_ble_eq_true rfl)) d_Re_takesRecord_100 ⟨Nat.le_of_ble_eq_true rfl, Nat.le_of_ble_eq_true rfl⟩) (fun r_49 h_50 H_51 hp_53  hH z_52 => ?_)
            have hz : s.heap.size ≤ H_51.size := Nat.le_trans hz z_52
            obtain ⟨c_54, rfl⟩ := hp_53
            refine lv_if_ne (tgt := 108) hx hb d_Re_takesRecord_103 (by decide) (fun hc_56 => ?_) (fun hc_56 => ?_)
            · skip
              refine lv_aload_n hx hb d_Re_takesRecord_108 rfl (lv_at hl 2 rfl) ?_
              refine hm_get (ci := 5) (v := .ref md) (C := R_Re) (T := F_Re) (N := 5) hx hb hts ig_Re hown hK hH F_r9 rfl 2 (by decide) (hts _ mw_329) (fun _ h9 => h9) rfl d_Re_takesRecord_109 ?_
              refine lv_iload_n hx hb d_Re_takesRecord_112 rfl (lv_at hl 3 rfl) ?_
              refine lv_bipush (v := 28) hx hb d_Re_takesRecord_113 (by decide) ?_
              refine lv_iadd hx hb d_Re_takesRecord_115 ?_
              refine lv_iconst (v := 2) hx hb d_Re_takesRecord_116 (by decide) ?_
              refine hm_callPi (va_runV (As := [.int (a9 + 28), .int 2]) (b := md) (rest := []) ⟨hx, hb, hml, hown, hts⟩ (t_halves l D t G ak av h τ n md (a9 + 28) 2  hn hT T_md) ⟨cw9B 2 hts mw_355 mw_356 mw_32 rfl rfl (by decide +kernel) ⟨Nat.le_of_ble_eq_true rfl, Nat.le_of_ble_eq_true rfl⟩, hts _ mw_357, hts _ mw_358⟩ (hP_V (q := (R_Me, F_Me, 2)) kE_ok hE hK hH F_md rfl) rfl rfl hl.1 rfl (lv_room (Nat.le_of_ble_eq_true rfl)) d_Re_takesRecord_117 ⟨Nat.le_of_ble_eq_true rfl, Nat.le_of_ble_eq_true rfl⟩) (fun r_57 h_58 H_59 hp_61  hH z_60 => ?_)
              have hz : s.heap.size ≤ H_59.size := Nat.le_trans hz z_60
              obtain ⟨c_62, rfl⟩ := hp_61
              refine lv_if_ne (tgt := 125) hx hb d_Re_takesRecord_120 (by decide) (fun hc_64 => ?_) (fun hc_64 => ?_)
              · skip
                refine hm_cut (α := Int32) (fun z8 ls H locs HH => (lv_has ls 5 [(0, .ref r9), (1, .int a9), (2, .ref e9), (3, .int r_4), (4, .int r_18)]) ∧ (hm D vwCl G HH H) ∧ (s.heap.size ≤ H.size) ∧ (hLc G.P locs) ∧ (TI τ t n HH) ∧ (kf τ [] [e9] h HH) ∧ (knp τ f h HH) ∧ (zb z8) ∧ (HH r9 = some (.inr (5, [.ref tb, .ref td, .ref md, .ref nd, .int wp])))) 137 (fun z8 => [.int z8, .ref e9]) ?_ (fun J137 => ?_)
                · skip
                  rintro z8 ls H locs HH ⟨hl, hH, hz, hLo, hT, hkf, hnp_f, P_z8, F_r9⟩
                  obtain ⟨v_65, v_66, v_68, v_70, v_71, v_73, v_74, v_75, v_77, v_78, v_79, F_e9, c_67, c_69, c_72, c_76⟩ := TI_node hT T_e9
                  refine hm_put (ci := 1) (v := .int z8) (ty := .boolean) (C := R_No) (T := F_No) (N := 11) hx hb hts ig_No t_No tk_No nm_No hown hK hH hLo F_e9 rfl 2 (by decide) (hts _ mw_345) (fun _ h9 => h9) rfl (by decide +kernel) (zb_n P_z8) (zb_f P_z8) (Nat.le_of_ble_eq_true rfl) d_Re_takesRecord_137 (fun H_80 locs hH z_81 hLo => ?_)
                  have hz : s.heap.size ≤ H_80.size := by rw [z_81]; exact hz
                  obtain ⟨h_82, e_83⟩ : ∃ z, z = hu HH e9 (.inr (1, [.int v_65, va_rf v_66, .int z8, .long v_70, .int v_71, .int v_73, .int v_74, .int v_75, .int v_77, .int v_78, .int v_79])) := ⟨_, rfl⟩
                  have hH : hm D vwCl G h_82 H_80 := by rw [e_83]; exact hH
                  have F_r9 : h_82 r9 = some (.inr (5, [.ref tb, .ref td, .ref md, .ref nd, .int wp])) := by rw [e_83, hu_n (tne T_r9 T_e9 (by decide))]; exact F_r9
                  have hOld := F_e9
                  have F_e9 : h_82 e9 = some (.inr (1, [.int v_65, va_rf v_66, .int z8, .long v_70, .int v_71, .int v_73, .int v_74, .int v_75, .int v_77, .int v_78, .int v_79])) := by rw [e_83]; exact hu_s _ _ _
                  have hT : TI τ t n h_82 := by rw [e_83]; exact TI_put hT T_e9 (by decide) ⟨v_65, v_66, z8, v_70, v_71, v_73, v_74, v_75, v_77, v_78, v_79, rfl, c_67, P_z8, c_72, c_76⟩
                  have hkf : kf τ [] [e9] h h_82 := by rw [e_83]; exact kf_putM hkf (by simp)
                  have hnp_f : knp τ f h h_82 := by rw [e_83]; exact knp_put hnp_f hOld
                  refine lv_aload_n hx hb d_Re_takesRecord_140 rfl (lv_at hl 2 rfl) ?_
                  refine lv_aload_n hx hb d_Re_takesRecord_141 rfl (lv_at hl 0 rfl) ?_
                  refine hm_get (ci := 5) (v := .ref md) (C := R_Re) (T := F_Re) (N := 5) hx hb hts ig_Re hown hK hH F_r9 rfl 2 (by decide) (hts _ mw_329) (fun _ h9 => h9) rfl d_Re_takesRecord_142 ?_
                  refine lv_iload_n hx hb d_Re_takesRecord_145 rfl (lv_at hl 1 rfl) ?_
                  refine lv_iconst (v := 2) hx hb d_Re_takesRecord_146 (by decide) ?_
                  refine lv_iadd hx hb d_Re_takesRecord_147 ?_
                  refine lv_iconst (v := 4) hx hb d_Re_takesRecord_148 (by decide) ?_
                  obtain ⟨v_84, v_86, F_md, c_85⟩ := TI_med hT T_md
                  refine hm_callPi (va_runV (As := [.int (a9 + 2), .int 4]) (b := md) (rest := [.ref e9]) ⟨hx, hb, hml, hown, hts⟩ (t_low l D t G ak av h_82 τ n md (a9 + 2) 4  hn hT T_md) ⟨cw9B 2 hts mw_44 mw_359 mw_32 rfl rfl (by decide +kernel) ⟨Nat.le_of_ble_eq_true rfl, Nat.le_of_ble_eq_true rfl⟩, hts _ mw_46, hts _ mw_47⟩ (hP_V (q := (R_Me, F_Me, 2)) kE_ok hE hK hH F_md rfl) rfl rfl hl.1 rfl (lv_room (Nat.le_of_ble_eq_true rfl)) d_Re_takesRecord_149 ⟨Nat.le_of_ble_eq_true rfl, Nat.le_of_ble_eq_true rfl⟩) (fun r_87 h_88 H_89 hp_91  hH z_90 => ?_)
                  have hz : s.heap.size ≤ H_89.size := Nat.le_trans hz z_90
                  obtain rfl := hp_91
                  refine hm_put (ci := 1) (v := .int r_87) (ty := .int) (C := R_No) (T := F_No) (N := 11) hx hb hts ig_No t_No tk_No nm_No hown hK hH hLo F_e9 rfl 9 (by decide) (hts _ mw_353) (fun _ h9 => h9) rfl (by decide +kernel) rfl rfl (Nat.le_of_ble_eq_true rfl) d_Re_takesRecord_152 (fun H_93 locs hH z_94 hLo => ?_)
                  have hz : s.heap.size ≤ H_93.size := by rw [z_94]; exact hz
                  obtain ⟨h_95, e_96⟩ : ∃ z, z = hu h_82 e9 (.inr (1, [.int v_65, va_rf v_66, .int z8, .long v_70, .int v_71, .int v_73, .int v_74, .int v_75, .int v_77, .int r_87, .int v_79])) := ⟨_, rfl⟩
                  have hH : hm D vwCl G h_95 H_93 := by rw [e_96]; exact hH
                  have F_r9 : h_95 r9 = some (.inr (5, [.ref tb, .ref td, .ref md, .ref nd, .int wp])) := by rw [e_96, hu_n (tne T_r9 T_e9 (by decide))]; exact F_r9
                  have F_md : h_95 md = some (.inr (0, [.ref v_84, .int v_86])) := by rw [e_96, hu_n (tne T_md T_e9 (by decide))]; exact F_md
                  have hOld := F_e9
                  have F_e9 : h_95 e9 = some (.inr (1, [.int v_65, va_rf v_66, .int z8, .long v_70, .int v_71, .int v_73, .int v_74, .int v_75, .int v_77, .int r_87, .int v_79])) := by rw [e_96]; exact hu_s _ _ _
                  have hT : TI τ t n h_95 := by rw [e_96]; exact TI_put hT T_e9 (by decide) ⟨v_65, v_66, z8, v_70, v_71, v_73, v_74, v_75, v_77, r_87, v_79, rfl, c_67, P_z8, c_72, c_76⟩
                  have hkf : kf τ [] [e9] h h_95 := by rw [e_96]; exact kf_putM hkf (by simp)
                  have hnp_f : knp τ f h h_95 := by rw [e_96]; exact knp_put hnp_f hOld
                  refine lv_aload_n hx hb d_Re_takesRecord_155 rfl (lv_at hl 2 rfl) ?_
                  refine lv_aload_n hx hb d_Re_takesRecord_156 rfl (lv_at hl 0 rfl) ?_
                  refine hm_get (ci := 5) (v := .ref md) (C := R_Re) (T := F_Re) (N := 5) hx hb hts ig_Re hown hK hH F_r9 rfl 2 (by decide) (hts _ mw_329) (fun _ h9 => h9) rfl d_Re_takesRecord_157 ?_
                  refine lv_iload_n hx hb d_Re_takesRecord_160 rfl (lv_at hl 1 rfl) ?_
                  refine lv_bipush (v := 10) hx hb d_Re_takesRecord_161 (by decide) ?_
                  refine lv_iadd hx hb d_Re_takesRecord_163 ?_
                  refine lv_iconst (v := 4) hx hb d_Re_takesRecord_164 (by decide) ?_
                  refine hm_callPi (va_runV (As := [.int (a9 + 10), .int 4]) (b := md) (rest := [.ref e9]) ⟨hx, hb, hml, hown, hts⟩ (t_low l D t G ak av h_95 τ n md (a9 + 10) 4  hn hT T_md) ⟨cw9B 2 hts mw_44 mw_359 mw_32 rfl rfl (by decide +kernel) ⟨Nat.le_of_ble_eq_true rfl, Nat.le_of_ble_eq_true rfl⟩, hts _ mw_46, hts _ mw_47⟩ (hP_V (q := (R_Me, F_Me, 2)) kE_ok hE hK hH F_md rfl) rfl rfl hl.1 rfl (lv_room (Nat.le_of_ble_eq_true rfl)) d_Re_takesRecord_165 ⟨Nat.le_of_ble_eq_true rfl, Nat.le_of_ble_eq_true rfl⟩) (fun r_97 h_98 H_99 hp_101  hH z_100 => ?_)
                  have hz : s.heap.size ≤ H_99.size := Nat.le_trans hz z_100
                  obtain rfl := hp_101
                  refine hm_put (ci := 1) (v := .int r_97) (ty := .int) (C := R_No) (T := F_No) (N := 11) hx hb hts ig_No t_No tk_No nm_No hown hK hH hLo F_e9 rfl 5 (by decide) (hts _ mw_352) (fun _ h9 => h9) rfl (by decide +kernel) rfl rfl (Nat.le_of_ble_eq_true rfl) d_Re_takesRecord_168 (fun H_103 locs hH z_104 hLo => ?_)
                  have hz : s.heap.size ≤ H_103.size := by rw [z_104]; exact hz
                  obtain ⟨h_105, e_106⟩ : ∃ z, z = hu h_95 e9 (.inr (1, [.int v_65, va_rf v_66, .int z8, .long v_70, .int v_71, .int r_97, .int v_74, .int v_75, .int v_77, .int r_87, .int v_79])) := ⟨_, rfl⟩
                  have hH : hm D vwCl G h_105 H_103 := by rw [e_106]; exact hH
                  have F_r9 : h_105 r9 = some (.inr (5, [.ref tb, .ref td, .ref md, .ref nd, .int wp])) := by rw [e_106, hu_n (tne T_r9 T_e9 (by decide))]; exact F_r9
                  have F_md : h_105 md = some (.inr (0, [.ref v_84, .int v_86])) := by rw [e_106, hu_n (tne T_md T_e9 (by decide))]; exact F_md
                  have hOld := F_e9
                  have F_e9 : h_105 e9 = some (.inr (1, [.int v_65, va_rf v_66, .int z8, .long v_70, .int v_71, .int r_97, .int v_74, .int v_75, .int v_77, .int r_87, .int v_79])) := by rw [e_106]; exact hu_s _ _ _
                  have hT : TI τ t n h_105 := by rw [e_106]; exact TI_put hT T_e9 (by decide) ⟨v_65, v_66, z8, v_70, v_71, r_97, v_74, v_75, v_77, r_87, v_79, rfl, c_67, P_z8, c_72, c_76⟩
                  have hkf : kf τ [] [e9] h h_105 := by rw [e_106]; exact kf_putM hkf (by simp)
                  have hnp_f : knp τ f h h_105 := by rw [e_106]; exact knp_put hnp_f hOld
                  refine lv_aload_n hx hb d_Re_takesRecord_171 rfl (lv_at hl 0 rfl) ?_
                  refine lv_aload_n hx hb d_Re_takesRecord_172 rfl (lv_at hl 2 rfl) ?_
                  refine hm_callPi (va_runV (As := [.ref e9]) (b := r9) (rest := []) ⟨hx, hb, hml, hown, hts⟩ (t_hasSectors l D t G ak av h_105 τ n f r9 e9 tb td md nd wp  hn hT T_r9 T_e9  F_r9) ⟨cw9B 1 hts mw_360 mw_361 mw_332 rfl rfl (by decide +kernel) ⟨Nat.le_of_ble_eq_true rfl, Nat.le_of_ble_eq_true rfl⟩, hts _ mw_362, hts _ mw_363⟩ (hP_V (q := (R_Re, F_Re, 5)) kE_ok hE hK hH F_r9 rfl) rfl rfl hl.1 rfl (lv_room (Nat.le_of_ble_eq_true rfl)) d_Re_takesRecord_173 ⟨Nat.le_of_ble_eq_true rfl, Nat.le_of_ble_eq_true rfl⟩) (fun r_107 h_108 H_109 hp_111  hH z_110 => ?_)
                  have hz : s.heap.size ≤ H_109.size := Nat.le_trans hz z_110
                  obtain ⟨c_112, xp_113, rfl⟩ := hp_111
                  exact W.zret (v := r_107) hx hb hr (zb_n c_112) (fun t9 ht hW => ⟨r_107, h_105, rfl, ⟨c_112, hT, hkf, hnp_f, (fun z => xp_113 z)⟩, by rw [ht]; exact hH, by rw [ht]; exact hz⟩) hLo d_Re_takesRecord_176
                · skip
                  refine lv_aload_n hx hb d_Re_takesRecord_125 rfl (lv_at hl 4 rfl) ?_
                  refine lv_iload hx hb d_Re_takesRecord_126 (lv_at hl 0 rfl) ?_
                  refine lv_iconst (v := 2) hx hb d_Re_takesRecord_128 (by decide) ?_
                  refine lv_icmp_ne (tgt := 136) hx hb d_Re_takesRecord_129 (by decide) (fun hc_114 => ?_) (fun hc_114 => ?_)
                  · skip
                    refine lv_iconst (v := 0) hx hb d_Re_takesRecord_136 (by decide) ?_
                    exact J137 0 _ _ _ _ ⟨(lv_sub hl [2, 3, 4, 1, 0] rfl), hH, hz, hLo, hT, hkf, hnp_f, zb0, F_r9⟩
                  · skip
                    have ic_115 : r_18.toInt = 2 := congrArg Int32.toInt hc_114
                    refine lv_iconst (v := 1) hx hb d_Re_takesRecord_132 (by decide) ?_
                    refine lv_goto (tgt := 137) hx hb d_Re_takesRecord_133 (by decide) ?_
                    exact J137 1 _ _ _ _ ⟨(lv_sub hl [2, 3, 4, 1, 0] rfl), hH, hz, hLo, hT, hkf, hnp_f, zb1, F_r9⟩
              · skip
                have ic_116 : r_57.toInt = 0 := congrArg Int32.toInt hc_64
                refine lv_iconst (v := 0) hx hb d_Re_takesRecord_123 (by decide) ?_
                exact W.zret (v := 0) hx hb hr (by decide) (fun t9 ht hW => ⟨0, h, rfl, ⟨zb0, hT, hkf, hnp_f, (fun z => absurd z (by decide))⟩, by rw [ht]; exact hH, by rw [ht]; exact hz⟩) hLo d_Re_takesRecord_124
            · skip
              have ic_117 : r_49.toInt = 0 := congrArg Int32.toInt hc_56
              refine lv_iconst (v := 0) hx hb d_Re_takesRecord_106 (by decide) ?_
              exact W.zret (v := 0) hx hb hr (by decide) (fun t9 ht hW => ⟨0, h, rfl, ⟨zb0, hT, hkf, hnp_f, (fun z => absurd z (by decide))⟩, by rw [ht]; exact hH, by rw [ht]; exact hz⟩) hLo d_Re_takesRecord_107
        · skip
          refine lv_iload hx hb d_Re_takesRecord_69 (lv_at hl 0 rfl) ?_
          refine lv_iconst (v := 2) hx hb d_Re_takesRecord_71 (by decide) ?_
          refine lv_icmp_eq (tgt := 77) hx hb d_Re_takesRecord_72 (by decide) (fun hc_118 => ?_) (fun hc_118 => ?_)
          · skip
            have ic_119 : r_18.toInt = 2 := congrArg Int32.toInt hc_118
            refine lv_aload_n hx hb d_Re_takesRecord_77 rfl (lv_at hl 2 rfl) ?_
            refine hm_get (ci := 5) (v := .ref md) (C := R_Re) (T := F_Re) (N := 5) hx hb hts ig_Re hown hK hH F_r9 rfl 2 (by decide) (hts _ mw_329) (fun _ h9 => h9) rfl d_Re_takesRecord_78 ?_
            refine lv_iload_n hx hb d_Re_takesRecord_81 rfl (lv_at hl 3 rfl) ?_
            refine lv_iconst (v := 2) hx hb d_Re_takesRecord_82 (by decide) ?_
            refine lv_iadd hx hb d_Re_takesRecord_83 ?_
            refine lv_iconst (v := 4) hx hb d_Re_takesRecord_84 (by decide) ?_
            refine hm_callPi (va_runV (As := [.int (a9 + 2), .int 4]) (b := md) (rest := []) ⟨hx, hb, hml, hown, hts⟩ (t_halves l D t G ak av h τ n md (a9 + 2) 4  hn hT T_md) ⟨cw9B 2 hts mw_355 mw_356 mw_32 rfl rfl (by decide +kernel) ⟨Nat.le_of_ble_eq_true rfl, Nat.le_of_ble_eq_true rfl⟩, hts _ mw_357, hts _ mw_358⟩ (hP_V (q := (R_Me, F_Me, 2)) kE_ok hE hK hH F_md rfl) rfl rfl hl.1 rfl (lv_room (Nat.le_of_ble_eq_true rfl)) d_Re_takesRecord_85 ⟨Nat.le_of_ble_eq_true rfl, Nat.le_of_ble_eq_true rfl⟩) (fun r_120 h_121 H_122 hp_124  hH z_123 => ?_)
            have hz : s.heap.size ≤ H_122.size := Nat.le_trans hz z_123
            obtain ⟨c_125, rfl⟩ := hp_124
            refine lv_if_eq (tgt := 106) hx hb d_Re_takesRecord_88 (by decide) (fun hc_127 => ?_) (fun hc_127 => ?_)
            · skip
              have ic_128 : r_120.toInt = 0 := congrArg Int32.toInt hc_127
              refine lv_iconst (v := 0) hx hb d_Re_takesRecord_106 (by decide) ?_
              exact W.zret (v := 0) hx hb hr (by decide) (fun t9 ht hW => ⟨0, h, rfl, ⟨zb0, hT, hkf, hnp_f, (fun z => absurd z (by decide))⟩, by rw [ht]; exact hH, by rw [ht]; exact hz⟩) hLo d_Re_takesRecord_107
            · skip
              refine lv_aload_n hx hb d_Re_takesRecord_91 rfl (lv_at hl 2 rfl) ?_
              refine hm_get (ci := 5) (v := .ref md) (C := R_Re) (T := F_Re) (N := 5) hx hb hts ig_Re hown hK hH F_r9 rfl 2 (by decide) (hts _ mw_329) (fun _ h9 => h9) rfl d_Re_takesRecord_92 ?_
              refine lv_iload_n hx hb d_Re_takesRecord_95 rfl (lv_at hl 3 rfl) ?_
              refine lv_bipush (v := 10) hx hb d_Re_takesRecord_96 (by decide) ?_
              refine lv_iadd hx hb d_Re_takesRecord_98 ?_
              refine lv_iconst (v := 4) hx hb d_Re_takesRecord_99 (by decide) ?_
              refine hm_callPi (va_runV (As := [.int (a9 + 10), .int 4]) (b := md) (rest := []) ⟨hx, hb, hml, hown, hts⟩ (t_halves l D t G ak av h τ n md (a9 + 10) 4  hn hT T_md) ⟨cw9B 2 hts mw_355 mw_356 mw_32 rfl rfl (by decide +kernel) ⟨Nat.le_of_ble_eq_true rfl, Nat.le_of_ble_eq_true rfl⟩, hts _ mw_357, hts _ mw_358⟩ (hP_V (q := (R_Me, F_Me, 2)) kE_ok hE hK hH F_md rfl) rfl rfl hl.1 rfl (lv_room (Nat.le_of_ble_eq_true rfl)) d_Re_takesRecord_100 ⟨Nat.le_of_ble_eq_true rfl, Nat.le_of_ble_eq_true rfl⟩) (fun r_129 h_130 H_131 hp_133  hH z_132 => ?_)
              have hz : s.heap.size ≤ H_131.size := Nat.le_trans hz z_132
              obtain ⟨c_134, rfl⟩ := hp_133
              refine lv_if_ne (tgt := 108) hx hb d_Re_takesRecord_103 (by decide) (fun hc_136 => ?_) (fun hc_136 => ?_)
              · skip
                refine lv_aload_n hx hb d_Re_takesRecord_108 rfl (lv_at hl 2 rfl) ?_
                refine hm_get (ci := 5) (v := .ref md) (C := R_Re) (T := F_Re) (N := 5) hx hb hts ig_Re hown hK hH F_r9 rfl 2 (by decide) (hts _ mw_329) (fun _ h9 => h9) rfl d_Re_takesRecord_109 ?_
                refine lv_iload_n hx hb d_Re_takesRecord_112 rfl (lv_at hl 3 rfl) ?_
                refine lv_bipush (v := 28) hx hb d_Re_takesRecord_113 (by decide) ?_
                refine lv_iadd hx hb d_Re_takesRecord_115 ?_
                refine lv_iconst (v := 2) hx hb d_Re_takesRecord_116 (by decide) ?_
                refine hm_callPi (va_runV (As := [.int (a9 + 28), .int 2]) (b := md) (rest := []) ⟨hx, hb, hml, hown, hts⟩ (t_halves l D t G ak av h τ n md (a9 + 28) 2  hn hT T_md) ⟨cw9B 2 hts mw_355 mw_356 mw_32 rfl rfl (by decide +kernel) ⟨Nat.le_of_ble_eq_true rfl, Nat.le_of_ble_eq_true rfl⟩, hts _ mw_357, hts _ mw_358⟩ (hP_V (q := (R_Me, F_Me, 2)) kE_ok hE hK hH F_md rfl) rfl rfl hl.1 rfl (lv_room (Nat.le_of_ble_eq_true rfl)) d_Re_takesRecord_117 ⟨Nat.le_of_ble_eq_true rfl, Nat.le_of_ble_eq_true rfl⟩) (fun r_137 h_138 H_139 hp_141  hH z_140 => ?_)
                have hz : s.heap.size ≤ H_139.size := Nat.le_trans hz z_140
                obtain ⟨c_142, rfl⟩ := hp_141
                refine lv_if_ne (tgt := 125) hx hb d_Re_takesRecord_120 (by decide) (fun hc_144 => ?_) (fun hc_144 => ?_)
                · skip
                  refine hm_cut (α := Int32) (fun z8 ls H locs HH => (lv_has ls 5 [(0, .ref r9), (1, .int a9), (2, .ref e9), (3, .int r_4), (4, .int r_18)]) ∧ (hm D vwCl G HH H) ∧ (s.heap.size ≤ H.size) ∧ (hLc G.P locs) ∧ (TI τ t n HH) ∧ (kf τ [] [e9] h HH) ∧ (knp τ f h HH) ∧ (zb z8) ∧ (HH r9 = some (.inr (5, [.ref tb, .ref td, .ref md, .ref nd, .int wp])))) 137 (fun z8 => [.int z8, .ref e9]) ?_ (fun J137 => ?_)
                  · skip
                    rintro z8 ls H locs HH ⟨hl, hH, hz, hLo, hT, hkf, hnp_f, P_z8, F_r9⟩
                    obtain ⟨v_145, v_146, v_148, v_150, v_151, v_153, v_154, v_155, v_157, v_158, v_159, F_e9, c_147, c_149, c_152, c_156⟩ := TI_node hT T_e9
                    refine hm_put (ci := 1) (v := .int z8) (ty := .boolean) (C := R_No) (T := F_No) (N := 11) hx hb hts ig_No t_No tk_No nm_No hown hK hH hLo F_e9 rfl 2 (by decide) (hts _ mw_345) (fun _ h9 => h9) rfl (by decide +kernel) (zb_n P_z8) (zb_f P_z8) (Nat.le_of_ble_eq_true rfl) d_Re_takesRecord_137 (fun H_160 locs hH z_161 hLo => ?_)
                    have hz : s.heap.size ≤ H_160.size := by rw [z_161]; exact hz
                    obtain ⟨h_162, e_163⟩ : ∃ z, z = hu HH e9 (.inr (1, [.int v_145, va_rf v_146, .int z8, .long v_150, .int v_151, .int v_153, .int v_154, .int v_155, .int v_157, .int v_158, .int v_159])) := ⟨_, rfl⟩
                    have hH : hm D vwCl G h_162 H_160 := by rw [e_163]; exact hH
                    have F_r9 : h_162 r9 = some (.inr (5, [.ref tb, .ref td, .ref md, .ref nd, .int wp])) := by rw [e_163, hu_n (tne T_r9 T_e9 (by decide))]; exact F_r9
                    have hOld := F_e9
                    have F_e9 : h_162 e9 = some (.inr (1, [.int v_145, va_rf v_146, .int z8, .long v_150, .int v_151, .int v_153, .int v_154, .int v_155, .int v_157, .int v_158, .int v_159])) := by rw [e_163]; exact hu_s _ _ _
                    have hT : TI τ t n h_162 := by rw [e_163]; exact TI_put hT T_e9 (by decide) ⟨v_145, v_146, z8, v_150, v_151, v_153, v_154, v_155, v_157, v_158, v_159, rfl, c_147, P_z8, c_152, c_156⟩
                    have hkf : kf τ [] [e9] h h_162 := by rw [e_163]; exact kf_putM hkf (by simp)
                    have hnp_f : knp τ f h h_162 := by rw [e_163]; exact knp_put hnp_f hOld
                    refine lv_aload_n hx hb d_Re_takesRecord_140 rfl (lv_at hl 2 rfl) ?_
                    refine lv_aload_n hx hb d_Re_takesRecord_141 rfl (lv_at hl 0 rfl) ?_
                    refine hm_get (ci := 5) (v := .ref md) (C := R_Re) (T := F_Re) (N := 5) hx hb hts ig_Re hown hK hH F_r9 rfl 2 (by decide) (hts _ mw_329) (fun _ h9 => h9) rfl d_Re_takesRecord_142 ?_
                    refine lv_iload_n hx hb d_Re_takesRecord_145 rfl (lv_at hl 1 rfl) ?_
                    refine lv_iconst (v := 2) hx hb d_Re_takesRecord_146 (by decide) ?_
                    refine lv_iadd hx hb d_Re_takesRecord_147 ?_
                    refine lv_iconst (v := 4) hx hb d_Re_takesRecord_148 (by decide) ?_
                    obtain ⟨v_164, v_166, F_md, c_165⟩ := TI_med hT T_md
                    refine hm_callPi (va_runV (As := [.int (a9 + 2), .int 4]) (b := md) (rest := [.ref e9]) ⟨hx, hb, hml, hown, hts⟩ (t_low l D t G ak av h_162 τ n md (a9 + 2) 4  hn hT T_md) ⟨cw9B 2 hts mw_44 mw_359 mw_32 rfl rfl (by decide +kernel) ⟨Nat.le_of_ble_eq_true rfl, Nat.le_of_ble_eq_true rfl⟩, hts _ mw_46, hts _ mw_47⟩ (hP_V (q := (R_Me, F_Me, 2)) kE_ok hE hK hH F_md rfl) rfl rfl hl.1 rfl (lv_room (Nat.le_of_ble_eq_true rfl)) d_Re_takesRecord_149 ⟨Nat.le_of_ble_eq_true rfl, Nat.le_of_ble_eq_true rfl⟩) (fun r_167 h_168 H_169 hp_171  hH z_170 => ?_)
                    have hz : s.heap.size ≤ H_169.size := Nat.le_trans hz z_170
                    obtain rfl := hp_171
                    refine hm_put (ci := 1) (v := .int r_167) (ty := .int) (C := R_No) (T := F_No) (N := 11) hx hb hts ig_No t_No tk_No nm_No hown hK hH hLo F_e9 rfl 9 (by decide) (hts _ mw_353) (fun _ h9 => h9) rfl (by decide +kernel) rfl rfl (Nat.le_of_ble_eq_true rfl) d_Re_takesRecord_152 (fun H_173 locs hH z_174 hLo => ?_)
                    have hz : s.heap.size ≤ H_173.size := by rw [z_174]; exact hz
                    obtain ⟨h_175, e_176⟩ : ∃ z, z = hu h_162 e9 (.inr (1, [.int v_145, va_rf v_146, .int z8, .long v_150, .int v_151, .int v_153, .int v_154, .int v_155, .int v_157, .int r_167, .int v_159])) := ⟨_, rfl⟩
                    have hH : hm D vwCl G h_175 H_173 := by rw [e_176]; exact hH
                    have F_r9 : h_175 r9 = some (.inr (5, [.ref tb, .ref td, .ref md, .ref nd, .int wp])) := by rw [e_176, hu_n (tne T_r9 T_e9 (by decide))]; exact F_r9
                    have F_md : h_175 md = some (.inr (0, [.ref v_164, .int v_166])) := by rw [e_176, hu_n (tne T_md T_e9 (by decide))]; exact F_md
                    have hOld := F_e9
                    have F_e9 : h_175 e9 = some (.inr (1, [.int v_145, va_rf v_146, .int z8, .long v_150, .int v_151, .int v_153, .int v_154, .int v_155, .int v_157, .int r_167, .int v_159])) := by rw [e_176]; exact hu_s _ _ _
                    have hT : TI τ t n h_175 := by rw [e_176]; exact TI_put hT T_e9 (by decide) ⟨v_145, v_146, z8, v_150, v_151, v_153, v_154, v_155, v_157, r_167, v_159, rfl, c_147, P_z8, c_152, c_156⟩
                    have hkf : kf τ [] [e9] h h_175 := by rw [e_176]; exact kf_putM hkf (by simp)
                    have hnp_f : knp τ f h h_175 := by rw [e_176]; exact knp_put hnp_f hOld
                    refine lv_aload_n hx hb d_Re_takesRecord_155 rfl (lv_at hl 2 rfl) ?_
                    refine lv_aload_n hx hb d_Re_takesRecord_156 rfl (lv_at hl 0 rfl) ?_
                    refine hm_get (ci := 5) (v := .ref md) (C := R_Re) (T := F_Re) (N := 5) hx hb hts ig_Re hown hK hH F_r9 rfl 2 (by decide) (hts _ mw_329) (fun _ h9 => h9) rfl d_Re_takesRecord_157 ?_
                    refine lv_iload_n hx hb d_Re_takesRecord_160 rfl (lv_at hl 1 rfl) ?_
                    refine lv_bipush (v := 10) hx hb d_Re_takesRecord_161 (by decide) ?_
                    refine lv_iadd hx hb d_Re_takesRecord_163 ?_
                    refine lv_iconst (v := 4) hx hb d_Re_takesRecord_164 (by decide) ?_
                    refine hm_callPi (va_runV (As := [.int (a9 + 10), .int 4]) (b := md) (rest := [.ref e9]) ⟨hx, hb, hml, hown, hts⟩ (t_low l D t G ak av h_175 τ n md (a9 + 10) 4  hn hT T_md) ⟨cw9B 2 hts mw_44 mw_359 mw_32 rfl rfl (by decide +kernel) ⟨Nat.le_of_ble_eq_true rfl, Nat.le_of_ble_eq_true rfl⟩, hts _ mw_46, hts _ mw_47⟩ (hP_V (q := (R_Me, F_Me, 2)) kE_ok hE hK hH F_md rfl) rfl rfl hl.1 rfl (lv_room (Nat.le_of_ble_eq_true rfl)) d_Re_takesRecord_165 ⟨Nat.le_of_ble_eq_true rfl, Nat.le_of_ble_eq_true rfl⟩) (fun r_177 h_178 H_179 hp_181  hH z_180 => ?_)
                    have hz : s.heap.size ≤ H_179.size := Nat.le_trans hz z_180
                    obtain rfl := hp_181
                    refine hm_put (ci := 1) (v := .int r_177) (ty := .int) (C := R_No) (T := F_No) (N := 11) hx hb hts ig_No t_No tk_No nm_No hown hK hH hLo F_e9 rfl 5 (by decide) (hts _ mw_352) (fun _ h9 => h9) rfl (by decide +kernel) rfl rfl (Nat.le_of_ble_eq_true rfl) d_Re_takesRecord_168 (fun H_183 locs hH z_184 hLo => ?_)
                    have hz : s.heap.size ≤ H_183.size := by rw [z_184]; exact hz
                    obtain ⟨h_185, e_186⟩ : ∃ z, z = hu h_175 e9 (.inr (1, [.int v_145, va_rf v_146, .int z8, .long v_150, .int v_151, .int r_177, .int v_154, .int v_155, .int v_157, .int r_167, .int v_159])) := ⟨_, rfl⟩
                    have hH : hm D vwCl G h_185 H_183 := by rw [e_186]; exact hH
                    have F_r9 : h_185 r9 = some (.inr (5, [.ref tb, .ref td, .ref md, .ref nd, .int wp])) := by rw [e_186, hu_n (tne T_r9 T_e9 (by decide))]; exact F_r9
                    have F_md : h_185 md = some (.inr (0, [.ref v_164, .int v_166])) := by rw [e_186, hu_n (tne T_md T_e9 (by decide))]; exact F_md
                    have hOld := F_e9
                    have F_e9 : h_185 e9 = some (.inr (1, [.int v_145, va_rf v_146, .int z8, .long v_150, .int v_151, .int r_177, .int v_154, .int v_155, .int v_157, .int r_167, .int v_159])) := by rw [e_186]; exact hu_s _ _ _
                    have hT : TI τ t n h_185 := by rw [e_186]; exact TI_put hT T_e9 (by decide) ⟨v_145, v_146, z8, v_150, v_151, r_177, v_154, v_155, v_157, r_167, v_159, rfl, c_147, P_z8, c_152, c_156⟩
                    have hkf : kf τ [] [e9] h h_185 := by rw [e_186]; exact kf_putM hkf (by simp)
                    have hnp_f : knp τ f h h_185 := by rw [e_186]; exact knp_put hnp_f hOld
                    refine lv_aload_n hx hb d_Re_takesRecord_171 rfl (lv_at hl 0 rfl) ?_
                    refine lv_aload_n hx hb d_Re_takesRecord_172 rfl (lv_at hl 2 rfl) ?_
                    refine hm_callPi (va_runV (As := [.ref e9]) (b := r9) (rest := []) ⟨hx, hb, hml, hown, hts⟩ (t_hasSectors l D t G ak av h_185 τ n f r9 e9 tb td md nd wp  hn hT T_r9 T_e9  F_r9) ⟨cw9B 1 hts mw_360 mw_361 mw_332 rfl rfl (by decide +kernel) ⟨Nat.le_of_ble_eq_true rfl, Nat.le_of_ble_eq_true rfl⟩, hts _ mw_362, hts _ mw_363⟩ (hP_V (q := (R_Re, F_Re, 5)) kE_ok hE hK hH F_r9 rfl) rfl rfl hl.1 rfl (lv_room (Nat.le_of_ble_eq_true rfl)) d_Re_takesRecord_173 ⟨Nat.le_of_ble_eq_true rfl, Nat.le_of_ble_eq_true rfl⟩) (fun r_187 h_188 H_189 hp_191  hH z_190 => ?_)
                    have hz : s.heap.size ≤ H_189.size := Nat.le_trans hz z_190
                    obtain ⟨c_192, xp_193, rfl⟩ := hp_191
                    exact W.zret (v := r_187) hx hb hr (zb_n c_192) (fun t9 ht hW => ⟨r_187, h_185, rfl, ⟨c_192, hT, hkf, hnp_f, (fun z => xp_193 z)⟩, by rw [ht]; exact hH, by rw [ht]; exact hz⟩) hLo d_Re_takesRecord_176
                  · skip
                    refine lv_aload_n hx hb d_Re_takesRecord_125 rfl (lv_at hl 4 rfl) ?_
                    refine lv_iload hx hb d_Re_takesRecord_126 (lv_at hl 0 rfl) ?_
                    refine lv_iconst (v := 2) hx hb d_Re_takesRecord_128 (by decide) ?_
                    refine lv_icmp_ne (tgt := 136) hx hb d_Re_takesRecord_129 (by decide) (fun hc_194 => ?_) (fun hc_194 => ?_)
                    · skip
                      refine lv_iconst (v := 0) hx hb d_Re_takesRecord_136 (by decide) ?_
                      exact J137 0 _ _ _ _ ⟨(lv_sub hl [2, 3, 4, 1, 0] rfl), hH, hz, hLo, hT, hkf, hnp_f, zb0, F_r9⟩
                    · skip
                      have ic_195 : r_18.toInt = 2 := congrArg Int32.toInt hc_194
                      refine lv_iconst (v := 1) hx hb d_Re_takesRecord_132 (by decide) ?_
                      refine lv_goto (tgt := 137) hx hb d_Re_takesRecord_133 (by decide) ?_
                      exact J137 1 _ _ _ _ ⟨(lv_sub hl [2, 3, 4, 1, 0] rfl), hH, hz, hLo, hT, hkf, hnp_f, zb1, F_r9⟩
                · skip
                  have ic_196 : r_137.toInt = 0 := congrArg Int32.toInt hc_144
                  refine lv_iconst (v := 0) hx hb d_Re_takesRecord_123 (by decide) ?_
                  exact W.zret (v := 0) hx hb hr (by decide) (fun t9 ht hW => ⟨0, h, rfl, ⟨zb0, hT, hkf, hnp_f, (fun z => absurd z (by decide))⟩, by rw [ht]; exact hH, by rw [ht]; exact hz⟩) hLo d_Re_takesRecord_124
              · skip
                have ic_197 : r_129.toInt = 0 := congrArg Int32.toInt hc_136
                refine lv_iconst (v := 0) hx hb d_Re_takesRecord_106 (by decide) ?_
                exact W.zret (v := 0) hx hb hr (by decide) (fun t9 ht hW => ⟨0, h, rfl, ⟨zb0, hT, hkf, hnp_f, (fun z => absurd z (by decide))⟩, by rw [ht]; exact hH, by rw [ht]; exact hz⟩) hLo d_Re_takesRecord_107
          · skip
            refine lv_iconst (v := 0) hx hb d_Re_takesRecord_75 (by decide) ?_
            exact W.zret (v := 0) hx hb hr (by decide) (fun t9 ht hW => ⟨0, h, rfl, ⟨zb0, hT, hkf, hnp_f, (fun z => absurd z (by decide))⟩, by rw [ht]; exact hH, by rw [ht]; exact hz⟩) hLo d_Re_takesRecord_76
    · skip
      have ic_198 : 2048 < (v_13 + r_4).toInt := iNe hc_16
      have iu_199 : (v_13 + r_4).toInt < 2147483648 := iUp _
      refine lv_iconst (v := 0) hx hb d_Re_takesRecord_28 (by decide) ?_
      exact W.zret (v := 0) hx hb hr (by decide) (fun t9 ht hW => ⟨0, h, rfl, ⟨zb0, hT, hkf, hnp_f, (fun z => absurd z (by decide))⟩, by rw [ht]; exact hH, by rw [ht]; exact hz⟩) hLo d_Re_takesRecord_29

set_option maxHeartbeats 4000000 in
set_option maxRecDepth 100000 in
theorem t_takesId (l : Launch) (D : va_G) (t : Nat → ClassId) (G : hG) (ak av : Nat → Nat) (h : hM) (τ : tM) (n f : Nat) (r9 : Nat) (a9 : Int32) (e9 : Nat) (tb td md nd : Nat) (wp : Int32) (hn : n ≤ 200) (hT : TI τ t n h) (T_r9 : τ r9 = (6, 0)) (T_e9 : τ e9 = (10, f)) (F_r9 : h r9 = some (.inr (5, [.ref tb, .ref td, .ref md, .ref nd, .int wp]))) : Met l y_Re_takesIdentifier (.code y_Re_takesIdentifier b_Re_takesIdentifier 9 (some .boolean) :: lw_g) { frames := 5, cells := 0, slots := 0, locals := 108 } (hP (kE D t G ak av) D vwCl G h [.ref r9, .int a9, .ref e9]) (hQi D vwCl G (fun r h' => zb r ∧ TI τ t n h' ∧ kf τ [] [e9] h h' ∧ knp τ f h h' ∧ (r = 1 → rngN n h e9 → rngN n h' e9))) 0 0 G.P := by
  refine Met.ofW (cc := b_Re_takesIdentifier) (maxL := 9) (ret := (some .boolean)) (by decide) rfl ?_
  intro p e s m args below meth c s₁ Bd hml hv
  obtain ⟨ha, hE, hH⟩ := hv
  have hx := Bd.exec
  have hb := Bd.bytes
  have hr := Bd.returns
  have hts : ∀ w ∈ lw_g, w.before args s = true := fun w hw => atoms_spec (ws := (.code y_Re_takesIdentifier b_Re_takesIdentifier 9 (some .boolean) :: lw_g)) Bd.pre w (List.mem_cons_of_mem _ hw)
  have hown : s.vm.findClass R_Re = some m.cls := findClass_of_methodNamed Bd.named
  have hlocks := Bd.notSynchronized
  have hK := hE.1
  have hH0 := hH
  have hLo : hLc G.P [] := hLc_nil
  have hz : s.heap.size ≤ s.heap.size := Nat.le_refl _
  have hl := lv_entry [.ref r9, .int a9, .ref e9] (n := 9) (Nat.le_of_ble_eq_true rfl)
  rw [show entryFrame m args 9 = F0 m 0 ((lg_sl [.ref r9, .int a9, .ref e9] ++ List.replicate (9 - (lg_sl [.ref r9, .int a9, .ref e9]).length) Slot.unset).toArray) [] from (by rw [ha]; exact lg_entry_eq m [.ref r9, .int a9, .ref e9] 9)]
  generalize (lg_sl [.ref r9, .int a9, .ref e9] ++ List.replicate (9 - (lg_sl [.ref r9, .int a9, .ref e9]).length) Slot.unset).toArray = ls at hl ⊢
  have hl : lv_has ls 9 [(0, .ref r9), (1, .int a9), (2, .ref e9)] := hl
  have hkf : kf τ [] [e9] h h := kf_rf
  have hnp_f : knp τ f h h := knp_rf
  obtain ⟨Tr0, Tr1, Tr2, Tr3⟩ := TJ_rdr (v2 := some md) (v3 := some nd) hT T_r9 F_r9
  have T_md := Tr2 md rfl
  have T_nd := Tr3 nd rfl
  refine lv_aload_n hx hb d_Re_takesIdentifier_0 rfl (lv_at hl 0 rfl) ?_
  refine hm_get (ci := 5) (v := .ref md) (C := R_Re) (T := F_Re) (N := 5) hx hb hts ig_Re hown hK hH F_r9 rfl 2 (by decide) (hts _ mw_329) (fun _ h9 => h9) rfl d_Re_takesIdentifier_1 ?_
  refine lv_iload_n hx hb d_Re_takesIdentifier_4 rfl (lv_at hl 1 rfl) ?_
  refine lv_bipush (v := 32) hx hb d_Re_takesIdentifier_5 (by decide) ?_
  refine lv_iadd hx hb d_Re_takesIdentifier_7 ?_
  obtain ⟨v_1, v_3, F_md, c_2⟩ := TI_med hT T_md
  refine hm_callPi (va_runV (As := [.int (a9 + 32)]) (b := md) (rest := []) ⟨hx, hb, hml, hown, hts⟩ (t_fetch l D t G ak av h τ n md (a9 + 32)  hn hT T_md) ⟨cw9B 1 hts mw_31 mw_330 mw_32 rfl rfl (by decide +kernel) ⟨Nat.le_of_ble_eq_true rfl, Nat.le_of_ble_eq_true rfl⟩, hts _ mw_34, hts _ mw_35⟩ (hP_V (q := (R_Me, F_Me, 2)) kE_ok hE hK hH F_md rfl) rfl rfl hl.1 rfl (lv_room (Nat.le_of_ble_eq_true rfl)) d_Re_takesIdentifier_8 ⟨Nat.le_of_ble_eq_true rfl, Nat.le_of_ble_eq_true rfl⟩) (fun r_4 h_5 H_6 hp_8  hH z_7 => ?_)
  have hz : s.heap.size ≤ H_6.size := Nat.le_trans hz z_7
  obtain ⟨xp_9, rfl⟩ := hp_8
  refine lv_istore_n (lv' := [(3, .int r_4), (0, .ref r9), (1, .int a9), (2, .ref e9)]) hx hb d_Re_takesIdentifier_11 rfl hl (by decide) rfl (fun ls hl => ?_)
  refine hm_cut (α := Int32) (fun lt9 ls H locs HH => (lv_has ls 9 [(0, .ref r9), (1, .int a9), (2, .ref e9), (3, .int r_4)]) ∧ (hm D vwCl G HH H) ∧ (s.heap.size ≤ H.size) ∧ (hLc G.P locs) ∧ (h = HH)) 30 (fun lt9 => [.int lt9]) ?_ (fun J30 => ?_)
  · skip
    rintro lt9 ls H locs HH ⟨hl, hH, hz, hLo, rfl⟩
    refine lv_istore (lv' := [(4, .int lt9), (0, .ref r9), (1, .int a9), (2, .ref e9), (3, .int r_4)]) hx hb d_Re_takesIdentifier_30 hl (by decide) rfl (fun ls hl => ?_)
    refine lv_iload hx hb d_Re_takesIdentifier_32 (lv_at hl 0 rfl) ?_
    refine lv_iconst (v := 1) hx hb d_Re_takesIdentifier_34 (by decide) ?_
    refine lv_icmp_lt (tgt := 45) hx hb d_Re_takesIdentifier_35 (by decide) (fun hc_10 => ?_) (fun hc_10 => ?_)
    · skip
      have ic_11 : lt9.toInt < 1 := iLt hc_10
      refine lv_iconst (v := 0) hx hb d_Re_takesIdentifier_45 (by decide) ?_
      exact W.zret (v := 0) hx hb hr (by decide) (fun t9 ht hW => ⟨0, h, rfl, ⟨zb0, hT, hkf, hnp_f, (fun z => absurd z (by decide))⟩, by rw [ht]; exact hH, by rw [ht]; exact hz⟩) hLo d_Re_takesIdentifier_46
    · skip
      have ic_12 : 1 ≤ lt9.toInt := iNl hc_10
      refine lv_iload hx hb d_Re_takesIdentifier_38 (lv_at hl 0 rfl) ?_
      refine lv_bipush (v := 8) hx hb d_Re_takesIdentifier_40 (by decide) ?_
      refine lv_icmp_le (tgt := 47) hx hb d_Re_takesIdentifier_42 (by decide) (fun hc_13 => ?_) (fun hc_13 => ?_)
      · skip
        have ic_14 : lt9.toInt ≤ 8 := iLe hc_13
        refine lv_aload_n hx hb d_Re_takesIdentifier_47 rfl (lv_at hl 3 rfl) ?_
        obtain ⟨v_15, v_16, v_18, v_20, v_21, v_23, v_24, v_25, v_27, v_28, v_29, F_e9, c_17, c_19, c_22, c_26⟩ := TI_node hT T_e9
        refine hm_get (ci := 1) (v := .int v_18) (C := R_No) (T := F_No) (N := 11) hx hb hts ig_No hown hK hH F_e9 rfl 2 (by decide) (hts _ mw_345) (fun _ h9 => h9) rfl d_Re_takesIdentifier_48 ?_
        refine lv_if_ne (tgt := 75) hx hb d_Re_takesIdentifier_51 (by decide) (fun hc_30 => ?_) (fun hc_30 => ?_)
        · skip
          refine lv_lconst (v := 0) hx hb d_Re_takesIdentifier_75 (by decide) ?_
          refine lv_lstore (lv' := [(5, .long 0), (4, .int lt9), (0, .ref r9), (1, .int a9), (2, .ref e9), (3, .int r_4)]) hx hb d_Re_takesIdentifier_76 hl (by decide) rfl (fun ls hl => ?_)
          refine lv_iconst (v := 0) hx hb d_Re_takesIdentifier_78 (by decide) ?_
          refine lv_istore (lv' := [(7, .int 0), (5, .long 0), (4, .int lt9), (0, .ref r9), (1, .int a9), (2, .ref e9), (3, .int r_4)]) hx hb d_Re_takesIdentifier_79 hl (by decide) rfl (fun ls hl => ?_)
          refine hm_loop (fun k81 ls H locs hh81 => ∃ (wd9 : Int64) (i9 : Int32), k81 = mU i9 ∧ lv_has ls 9 [(0, .ref r9), (1, .int a9), (2, .ref e9), (3, .int r_4), (4, .int lt9), (5, .long wd9), (7, .int i9)] ∧ hm D vwCl G hh81 H ∧ s.heap.size ≤ H.size ∧ hLc G.P locs ∧ (h = hh81) ∧ (0 ≤ i9.toInt)) ?_ (hh := h) ⟨0, 0, rfl, (lv_sub hl [3, 4, 5, 6, 2, 1, 0] rfl), hH, hz, hLo, rfl, (by decide)⟩
          rintro k81 ls H locs hh81 ⟨wd9, i9, hk81, hl, hH, hz, hLo, rfl, I_i9⟩ ih81
          refine lv_iload hx hb d_Re_takesIdentifier_81 (lv_at hl 6 rfl) ?_
          refine lv_iload hx hb d_Re_takesIdentifier_83 (lv_at hl 4 rfl) ?_
          refine lv_icmp_ge (tgt := 131) hx hb d_Re_takesIdentifier_85 (by decide) (fun hc_31 => ?_) (fun hc_31 => ?_)
          · skip
            have ic_32 : lt9.toInt ≤ i9.toInt := iLe hc_31
            refine lv_aload_n hx hb d_Re_takesIdentifier_131 rfl (lv_at hl 2 rfl) ?_
            refine lv_lload hx hb d_Re_takesIdentifier_132 (lv_at hl 5 rfl) ?_
            refine hm_callv (va_runV (As := [.long wd9]) (b := e9) (rest := []) ⟨hx, hb, hml, hown, hts⟩ (t_takeName l D t G ak av h τ n f e9 wd9  hn hT T_e9) ⟨cw9B 1 hts mw_116 mw_364 mw_106 rfl rfl (by decide +kernel) ⟨Nat.le_of_ble_eq_true rfl, Nat.le_of_ble_eq_true rfl⟩, hts _ mw_118, hts _ mw_119⟩ (hP_V (q := (R_No, F_No, 11)) kE_ok hE hK hH F_e9 rfl) rfl rfl hl.1 rfl (lv_room (Nat.le_of_ble_eq_true rfl)) d_Re_takesIdentifier_134 ⟨Nat.le_of_ble_eq_true rfl, Nat.le_of_ble_eq_true rfl⟩) hLo (fun h_33 H_34 locs hp_36 hH z_35 hLo => ?_)
            have hz : s.heap.size ≤ H_34.size := Nat.le_trans hz z_35
            have hT0 := hT
            obtain ⟨hT, kf_38, xk_39, xp_37⟩ := hp_36
            have F_r9 : h_33 r9 = some (.inr (5, [.ref tb, .ref td, .ref md, .ref nd, .int wp])) := kf_at kf_38 T_r9 (by decide) tn0 (nmc (tne T_r9 T_e9 (by decide)) nm0) F_r9
            have F_md : h_33 md = some (.inr (0, [.ref v_1, .int v_3])) := kf_at kf_38 T_md (by decide) tn0 (nmc (tne T_md T_e9 (by decide)) nm0) F_md
            have hnp_f : knp τ f h h_33 := knp_tr hnp_f xk_39
            have hkf : kf τ [] [e9] h h_33 := kf_tr hkf kf_38 (List.forall_mem_nil _) (List.forall_mem_cons.mpr ⟨Or.inl (by simp), List.forall_mem_nil _⟩)
            refine lv_iconst (v := 1) hx hb d_Re_takesIdentifier_137 (by decide) ?_
            exact W.zret (v := 1) hx hb hr (by decide) (fun t9 ht hW => ⟨1, h_33, rfl, ⟨zb1, hT, hkf, hnp_f, (fun _ => xp_37)⟩, by rw [ht]; exact hH, by rw [ht]; exact hz⟩) hLo d_Re_takesIdentifier_138
          · skip
            have ic_40 : i9.toInt < lt9.toInt := iNe hc_31
            have iu_41 : lt9.toInt < 2147483648 := iUp _
            refine lv_aload_n hx hb d_Re_takesIdentifier_88 rfl (lv_at hl 0 rfl) ?_
            refine hm_get (ci := 5) (v := .ref md) (C := R_Re) (T := F_Re) (N := 5) hx hb hts ig_Re hown hK hH F_r9 rfl 2 (by decide) (hts _ mw_329) (fun _ h9 => h9) rfl d_Re_takesIdentifier_89 ?_
            refine lv_iload_n hx hb d_Re_takesIdentifier_92 rfl (lv_at hl 1 rfl) ?_
            refine lv_bipush (v := 33) hx hb d_Re_takesIdentifier_93 (by decide) ?_
            refine lv_iadd hx hb d_Re_takesIdentifier_95 ?_
            refine lv_iload hx hb d_Re_takesIdentifier_96 (lv_at hl 6 rfl) ?_
            refine lv_iadd hx hb d_Re_takesIdentifier_98 ?_
            refine hm_callPi (va_runV (As := [.int ((a9 + 33) + i9)]) (b := md) (rest := []) ⟨hx, hb, hml, hown, hts⟩ (t_fetch l D t G ak av h τ n md ((a9 + 33) + i9)  hn hT T_md) ⟨cw9B 1 hts mw_31 mw_330 mw_32 rfl rfl (by decide +kernel) ⟨Nat.le_of_ble_eq_true rfl, Nat.le_of_ble_eq_true rfl⟩, hts _ mw_34, hts _ mw_35⟩ (hP_V (q := (R_Me, F_Me, 2)) kE_ok hE hK hH F_md rfl) rfl rfl hl.1 rfl (lv_room (Nat.le_of_ble_eq_true rfl)) d_Re_takesIdentifier_99 ⟨Nat.le_of_ble_eq_true rfl, Nat.le_of_ble_eq_true rfl⟩) (fun r_42 h_43 H_44 hp_46  hH z_45 => ?_)
            have hz : s.heap.size ≤ H_44.size := Nat.le_trans hz z_45
            obtain ⟨xp_47, rfl⟩ := hp_46
            refine lv_istore (lv' := [(8, .int r_42), (0, .ref r9), (1, .int a9), (2, .ref e9), (3, .int r_4), (4, .int lt9), (5, .long wd9), (7, .int i9)]) hx hb d_Re_takesIdentifier_102 hl (by decide) rfl (fun ls hl => ?_)
            refine lv_iload hx hb d_Re_takesIdentifier_104 (lv_at hl 0 rfl) ?_
            refine hm_callPi (va_runSN (As := [.int r_42]) (rest := []) ⟨hx, hb, hml, hown, hts⟩ (t_isNameByte l D t G ak av h τ n r_42  hn hT ) ⟨cw9N 1 hts mw_24 (nmU hE nM_10) mw_25 rfl rfl (by decide +kernel) ⟨Nat.le_of_ble_eq_true rfl, Nat.le_of_ble_eq_true rfl⟩, hts _ mw_27, trivial⟩ (hP_S kE_ok hE hH) rfl rfl hl.1 rfl (lv_room (Nat.le_of_ble_eq_true rfl)) d_Re_takesIdentifier_106 ⟨Nat.le_of_ble_eq_true rfl, Nat.le_of_ble_eq_true rfl⟩) (fun r_48 h_49 H_50 hp_52  hH z_51 => ?_)
            have hz : s.heap.size ≤ H_50.size := Nat.le_trans hz z_51
            obtain ⟨c_53, rfl⟩ := hp_52
            refine lv_if_ne (tgt := 114) hx hb d_Re_takesIdentifier_109 (by decide) (fun hc_55 => ?_) (fun hc_55 => ?_)
            · skip
              refine lv_lload hx hb d_Re_takesIdentifier_114 (lv_at hl 6 rfl) ?_
              refine lv_bipush (v := 8) hx hb d_Re_takesIdentifier_116 (by decide) ?_
              refine lv_lshl (v := wd9 <<< ((8 : Int32).toInt64 &&& 63)) hx hb d_Re_takesIdentifier_118 rfl ?_
              refine lv_iload hx hb d_Re_takesIdentifier_119 (lv_at hl 0 rfl) ?_
              refine lv_i2l (v := r_42.toInt64) hx hb d_Re_takesIdentifier_121 rfl ?_
              refine lv_lor hx hb d_Re_takesIdentifier_122 ?_
              refine lv_topl (fun v_56 e_57 => ?_)
              refine lv_lstore (lv' := [(5, .long v_56), (8, .int r_42), (0, .ref r9), (1, .int a9), (2, .ref e9), (3, .int r_4), (4, .int lt9), (7, .int i9)]) hx hb d_Re_takesIdentifier_123 hl (by decide) rfl (fun ls hl => ?_)
              obtain ⟨j_58, e_59⟩ : ∃ z : Int32, z = i9 + 1 := ⟨_, rfl⟩
              refine lv_iinc (v := j_58) (lv' := [(7, .int j_58), (5, .long v_56), (8, .int r_42), (0, .ref r9), (1, .int a9), (2, .ref e9), (3, .int r_4), (4, .int lt9)]) hx hb d_Re_takesIdentifier_125 hl (k := 7) rfl e_59.symm (by decide) rfl (fun ls hl => ?_)
              refine lv_goto (tgt := 81) hx hb d_Re_takesIdentifier_128 (by decide) ?_
              have is_60 : j_58.toInt = i9.toInt + 1 := by rw [e_59]; exact iAddK 1 rfl (by omega) (by omega)
              exact ih81 (mU j_58) ls _ locs _ (by rw [hk81]; exact mU_lt (by omega)) ⟨v_56, j_58, rfl, (lv_sub hl [3, 4, 5, 6, 7, 1, 0] rfl), hH, hz, hLo, rfl, (by omega)⟩
            · skip
              have ic_61 : r_48.toInt = 0 := congrArg Int32.toInt hc_55
              refine lv_iconst (v := 0) hx hb d_Re_takesIdentifier_112 (by decide) ?_
              exact W.zret (v := 0) hx hb hr (by decide) (fun t9 ht hW => ⟨0, h, rfl, ⟨zb0, hT, hkf, hnp_f, (fun z => absurd z (by decide))⟩, by rw [ht]; exact hH, by rw [ht]; exact hz⟩) hLo d_Re_takesIdentifier_113
        · skip
          have ic_62 : v_18.toInt = 0 := congrArg Int32.toInt hc_30
          refine lv_aload_n hx hb d_Re_takesIdentifier_54 rfl (lv_at hl 1 rfl) ?_
          refine hm_get (ci := 5) (v := .ref md) (C := R_Re) (T := F_Re) (N := 5) hx hb hts ig_Re hown hK hH F_r9 rfl 2 (by decide) (hts _ mw_329) (fun _ h9 => h9) rfl d_Re_takesIdentifier_55 ?_
          refine lv_iload_n hx hb d_Re_takesIdentifier_58 rfl (lv_at hl 2 rfl) ?_
          refine lv_bipush (v := 33) hx hb d_Re_takesIdentifier_59 (by decide) ?_
          refine lv_iadd hx hb d_Re_takesIdentifier_61 ?_
          refine lv_iload hx hb d_Re_takesIdentifier_62 (lv_at hl 0 rfl) ?_
          refine lv_iadd hx hb d_Re_takesIdentifier_64 ?_
          refine va_ldcS hx hb hown hE.2.2.2.2.2.2.2.2.2.2.1 d_Re_takesIdentifier_65 ?_
          refine hm_callPi (va_runV (As := [.int ((a9 + 33) + lt9), .ref (ak 2)]) (b := md) (rest := []) ⟨hx, hb, hml, hown, hts⟩ (t_hasText l D t G ak av h τ n md ((a9 + 33) + lt9) 2  hn hT T_md (by decide)) ⟨cw9B 2 hts mw_52 mw_336 mw_32 rfl rfl (by decide +kernel) ⟨Nat.le_of_ble_eq_true rfl, Nat.le_of_ble_eq_true rfl⟩, hts _ mw_54, hts _ mw_55⟩ (hP_V (q := (R_Me, F_Me, 2)) kE_ok hE hK hH F_md rfl) rfl rfl hl.1 rfl (lv_room (Nat.le_of_ble_eq_true rfl)) d_Re_takesIdentifier_67 ⟨Nat.le_of_ble_eq_true rfl, Nat.le_of_ble_eq_true rfl⟩) (fun r_63 h_64 H_65 hp_67  hH z_66 => ?_)
          have hz : s.heap.size ≤ H_65.size := Nat.le_trans hz z_66
          obtain ⟨c_68, rfl⟩ := hp_67
          refine lv_if_ne (tgt := 75) hx hb d_Re_takesIdentifier_70 (by decide) (fun hc_70 => ?_) (fun hc_70 => ?_)
          · skip
            refine lv_lconst (v := 0) hx hb d_Re_takesIdentifier_75 (by decide) ?_
            refine lv_lstore (lv' := [(5, .long 0), (4, .int lt9), (0, .ref r9), (1, .int a9), (2, .ref e9), (3, .int r_4)]) hx hb d_Re_takesIdentifier_76 hl (by decide) rfl (fun ls hl => ?_)
            refine lv_iconst (v := 0) hx hb d_Re_takesIdentifier_78 (by decide) ?_
            refine lv_istore (lv' := [(7, .int 0), (5, .long 0), (4, .int lt9), (0, .ref r9), (1, .int a9), (2, .ref e9), (3, .int r_4)]) hx hb d_Re_takesIdentifier_79 hl (by decide) rfl (fun ls hl => ?_)
            refine hm_loop (fun k81 ls H locs hh81 => ∃ (wd9 : Int64) (i9 : Int32), k81 = mU i9 ∧ lv_has ls 9 [(0, .ref r9), (1, .int a9), (2, .ref e9), (3, .int r_4), (4, .int lt9), (5, .long wd9), (7, .int i9)] ∧ hm D vwCl G hh81 H ∧ s.heap.size ≤ H.size ∧ hLc G.P locs ∧ (h = hh81) ∧ (0 ≤ i9.toInt)) ?_ (hh := h) ⟨0, 0, rfl, (lv_sub hl [3, 4, 5, 6, 2, 1, 0] rfl), hH, hz, hLo, rfl, (by decide)⟩
            rintro k81 ls H locs hh81 ⟨wd9, i9, hk81, hl, hH, hz, hLo, rfl, I_i9⟩ ih81
            refine lv_iload hx hb d_Re_takesIdentifier_81 (lv_at hl 6 rfl) ?_
            refine lv_iload hx hb d_Re_takesIdentifier_83 (lv_at hl 4 rfl) ?_
            refine lv_icmp_ge (tgt := 131) hx hb d_Re_takesIdentifier_85 (by decide) (fun hc_71 => ?_) (fun hc_71 => ?_)
            · skip
              have ic_72 : lt9.toInt ≤ i9.toInt := iLe hc_71
              refine lv_aload_n hx hb d_Re_takesIdentifier_131 rfl (lv_at hl 2 rfl) ?_
              refine lv_lload hx hb d_Re_takesIdentifier_132 (lv_at hl 5 rfl) ?_
              refine hm_callv (va_runV (As := [.long wd9]) (b := e9) (rest := []) ⟨hx, hb, hml, hown, hts⟩ (t_takeName l D t G ak av h τ n f e9 wd9  hn hT T_e9) ⟨cw9B 1 hts mw_116 mw_364 mw_106 rfl rfl (by decide +kernel) ⟨Nat.le_of_ble_eq_true rfl, Nat.le_of_ble_eq_true rfl⟩, hts _ mw_118, hts _ mw_119⟩ (hP_V (q := (R_No, F_No, 11)) kE_ok hE hK hH F_e9 rfl) rfl rfl hl.1 rfl (lv_room (Nat.le_of_ble_eq_true rfl)) d_Re_takesIdentifier_134 ⟨Nat.le_of_ble_eq_true rfl, Nat.le_of_ble_eq_true rfl⟩) hLo (fun h_73 H_74 locs hp_76 hH z_75 hLo => ?_)
              have hz : s.heap.size ≤ H_74.size := Nat.le_trans hz z_75
              have hT0 := hT
              obtain ⟨hT, kf_78, xk_79, xp_77⟩ := hp_76
              have F_r9 : h_73 r9 = some (.inr (5, [.ref tb, .ref td, .ref md, .ref nd, .int wp])) := kf_at kf_78 T_r9 (by decide) tn0 (nmc (tne T_r9 T_e9 (by decide)) nm0) F_r9
              have F_md : h_73 md = some (.inr (0, [.ref v_1, .int v_3])) := kf_at kf_78 T_md (by decide) tn0 (nmc (tne T_md T_e9 (by decide)) nm0) F_md
              have hnp_f : knp τ f h h_73 := knp_tr hnp_f xk_79
              have hkf : kf τ [] [e9] h h_73 := kf_tr hkf kf_78 (List.forall_mem_nil _) (List.forall_mem_cons.mpr ⟨Or.inl (by simp), List.forall_mem_nil _⟩)
              refine lv_iconst (v := 1) hx hb d_Re_takesIdentifier_137 (by decide) ?_
              exact W.zret (v := 1) hx hb hr (by decide) (fun t9 ht hW => ⟨1, h_73, rfl, ⟨zb1, hT, hkf, hnp_f, (fun _ => xp_77)⟩, by rw [ht]; exact hH, by rw [ht]; exact hz⟩) hLo d_Re_takesIdentifier_138
            · skip
              have ic_80 : i9.toInt < lt9.toInt := iNe hc_71
              have iu_81 : lt9.toInt < 2147483648 := iUp _
              refine lv_aload_n hx hb d_Re_takesIdentifier_88 rfl (lv_at hl 0 rfl) ?_
              refine hm_get (ci := 5) (v := .ref md) (C := R_Re) (T := F_Re) (N := 5) hx hb hts ig_Re hown hK hH F_r9 rfl 2 (by decide) (hts _ mw_329) (fun _ h9 => h9) rfl d_Re_takesIdentifier_89 ?_
              refine lv_iload_n hx hb d_Re_takesIdentifier_92 rfl (lv_at hl 1 rfl) ?_
              refine lv_bipush (v := 33) hx hb d_Re_takesIdentifier_93 (by decide) ?_
              refine lv_iadd hx hb d_Re_takesIdentifier_95 ?_
              refine lv_iload hx hb d_Re_takesIdentifier_96 (lv_at hl 6 rfl) ?_
              refine lv_iadd hx hb d_Re_takesIdentifier_98 ?_
              refine hm_callPi (va_runV (As := [.int ((a9 + 33) + i9)]) (b := md) (rest := []) ⟨hx, hb, hml, hown, hts⟩ (t_fetch l D t G ak av h τ n md ((a9 + 33) + i9)  hn hT T_md) ⟨cw9B 1 hts mw_31 mw_330 mw_32 rfl rfl (by decide +kernel) ⟨Nat.le_of_ble_eq_true rfl, Nat.le_of_ble_eq_true rfl⟩, hts _ mw_34, hts _ mw_35⟩ (hP_V (q := (R_Me, F_Me, 2)) kE_ok hE hK hH F_md rfl) rfl rfl hl.1 rfl (lv_room (Nat.le_of_ble_eq_true rfl)) d_Re_takesIdentifier_99 ⟨Nat.le_of_ble_eq_true rfl, Nat.le_of_ble_eq_true rfl⟩) (fun r_82 h_83 H_84 hp_86  hH z_85 => ?_)
              have hz : s.heap.size ≤ H_84.size := Nat.le_trans hz z_85
              obtain ⟨xp_87, rfl⟩ := hp_86
              refine lv_istore (lv' := [(8, .int r_82), (0, .ref r9), (1, .int a9), (2, .ref e9), (3, .int r_4), (4, .int lt9), (5, .long wd9), (7, .int i9)]) hx hb d_Re_takesIdentifier_102 hl (by decide) rfl (fun ls hl => ?_)
              refine lv_iload hx hb d_Re_takesIdentifier_104 (lv_at hl 0 rfl) ?_
              refine hm_callPi (va_runSN (As := [.int r_82]) (rest := []) ⟨hx, hb, hml, hown, hts⟩ (t_isNameByte l D t G ak av h τ n r_82  hn hT ) ⟨cw9N 1 hts mw_24 (nmU hE nM_10) mw_25 rfl rfl (by decide +kernel) ⟨Nat.le_of_ble_eq_true rfl, Nat.le_of_ble_eq_true rfl⟩, hts _ mw_27, trivial⟩ (hP_S kE_ok hE hH) rfl rfl hl.1 rfl (lv_room (Nat.le_of_ble_eq_true rfl)) d_Re_takesIdentifier_106 ⟨Nat.le_of_ble_eq_true rfl, Nat.le_of_ble_eq_true rfl⟩) (fun r_88 h_89 H_90 hp_92  hH z_91 => ?_)
              have hz : s.heap.size ≤ H_90.size := Nat.le_trans hz z_91
              obtain ⟨c_93, rfl⟩ := hp_92
              refine lv_if_ne (tgt := 114) hx hb d_Re_takesIdentifier_109 (by decide) (fun hc_95 => ?_) (fun hc_95 => ?_)
              · skip
                refine lv_lload hx hb d_Re_takesIdentifier_114 (lv_at hl 6 rfl) ?_
                refine lv_bipush (v := 8) hx hb d_Re_takesIdentifier_116 (by decide) ?_
                refine lv_lshl (v := wd9 <<< ((8 : Int32).toInt64 &&& 63)) hx hb d_Re_takesIdentifier_118 rfl ?_
                refine lv_iload hx hb d_Re_takesIdentifier_119 (lv_at hl 0 rfl) ?_
                refine lv_i2l (v := r_82.toInt64) hx hb d_Re_takesIdentifier_121 rfl ?_
                refine lv_lor hx hb d_Re_takesIdentifier_122 ?_
                refine lv_topl (fun v_96 e_97 => ?_)
                refine lv_lstore (lv' := [(5, .long v_96), (8, .int r_82), (0, .ref r9), (1, .int a9), (2, .ref e9), (3, .int r_4), (4, .int lt9), (7, .int i9)]) hx hb d_Re_takesIdentifier_123 hl (by decide) rfl (fun ls hl => ?_)
                obtain ⟨j_98, e_99⟩ : ∃ z : Int32, z = i9 + 1 := ⟨_, rfl⟩
                refine lv_iinc (v := j_98) (lv' := [(7, .int j_98), (5, .long v_96), (8, .int r_82), (0, .ref r9), (1, .int a9), (2, .ref e9), (3, .int r_4), (4, .int lt9)]) hx hb d_Re_takesIdentifier_125 hl (k := 7) rfl e_99.symm (by decide) rfl (fun ls hl => ?_)
                refine lv_goto (tgt := 81) hx hb d_Re_takesIdentifier_128 (by decide) ?_
                have is_100 : j_98.toInt = i9.toInt + 1 := by rw [e_99]; exact iAddK 1 rfl (by omega) (by omega)
                exact ih81 (mU j_98) ls _ locs _ (by rw [hk81]; exact mU_lt (by omega)) ⟨v_96, j_98, rfl, (lv_sub hl [3, 4, 5, 6, 7, 1, 0] rfl), hH, hz, hLo, rfl, (by omega)⟩
              · skip
                have ic_101 : r_88.toInt = 0 := congrArg Int32.toInt hc_95
                refine lv_iconst (v := 0) hx hb d_Re_takesIdentifier_112 (by decide) ?_
                exact W.zret (v := 0) hx hb hr (by decide) (fun t9 ht hW => ⟨0, h, rfl, ⟨zb0, hT, hkf, hnp_f, (fun z => absurd z (by decide))⟩, by rw [ht]; exact hH, by rw [ht]; exact hz⟩) hLo d_Re_takesIdentifier_113
          · skip
            have ic_102 : r_63.toInt = 0 := congrArg Int32.toInt hc_70
            refine lv_iconst (v := 0) hx hb d_Re_takesIdentifier_73 (by decide) ?_
            exact W.zret (v := 0) hx hb hr (by decide) (fun t9 ht hW => ⟨0, h, rfl, ⟨zb0, hT, hkf, hnp_f, (fun z => absurd z (by decide))⟩, by rw [ht]; exact hH, by rw [ht]; exact hz⟩) hLo d_Re_takesIdentifier_74
      · skip
        have ic_103 : 8 < lt9.toInt := iNe hc_13
        have iu_104 : lt9.toInt < 2147483648 := iUp _
        refine lv_iconst (v := 0) hx hb d_Re_takesIdentifier_45 (by decide) ?_
        exact W.zret (v := 0) hx hb hr (by decide) (fun t9 ht hW => ⟨0, h, rfl, ⟨zb0, hT, hkf, hnp_f, (fun z => absurd z (by decide))⟩, by rw [ht]; exact hH, by rw [ht]; exact hz⟩) hLo d_Re_takesIdentifier_46
  · skip
    refine lv_aload_n hx hb d_Re_takesIdentifier_12 rfl (lv_at hl 3 rfl) ?_
    obtain ⟨v_105, v_106, v_108, v_110, v_111, v_113, v_114, v_115, v_117, v_118, v_119, F_e9, c_107, c_109, c_112, c_116⟩ := TI_node hT T_e9
    refine hm_get (ci := 1) (v := .int v_108) (C := R_No) (T := F_No) (N := 11) hx hb hts ig_No hown hK hH F_e9 rfl 2 (by decide) (hts _ mw_345) (fun _ h9 => h9) rfl d_Re_takesIdentifier_13 ?_
    refine lv_if_eq (tgt := 23) hx hb d_Re_takesIdentifier_16 (by decide) (fun hc_120 => ?_) (fun hc_120 => ?_)
    · skip
      have ic_121 : v_108.toInt = 0 := congrArg Int32.toInt hc_120
      refine lv_iload_n hx hb d_Re_takesIdentifier_23 rfl (lv_at hl 0 rfl) ?_
      refine va_ldcS hx hb hown hE.2.2.2.2.2.2.2.2.2.2.1 d_Re_takesIdentifier_24 ?_
      have hZ := K9 hE.2.2.2.2 hH0
      have hS := S9 hH0 hH hz hLo
      refine hm_callPi (va_runV (As := []) (b := ak 2) (rest := [.int r_4]) ⟨hx, hb, hml, hown, hts⟩ (c_St_length l D t G ak av h 2 (by decide)) ⟨cw9B 0 hts mw_36 mw_365 mw_4 rfl rfl (by decide +kernel) ⟨Nat.le_of_ble_eq_true rfl, Nat.le_of_ble_eq_true rfl⟩, hts _ mw_38, hts _ mw_39⟩ (hP_W kE_ok hE hH (vk_recv hZ (by decide) hS)) rfl rfl hl.1 rfl (lv_room (Nat.le_of_ble_eq_true rfl)) d_Re_takesIdentifier_26 ⟨Nat.le_of_ble_eq_true rfl, Nat.le_of_ble_eq_true rfl⟩) (fun r_122 h_123 H_124 hp_126  hH z_125 => ?_)
      have hz : s.heap.size ≤ H_124.size := Nat.le_trans hz z_125
      obtain ⟨e_r_122, rfl⟩ := hp_126
      have is_r_122 : r_122.toInt = (sLen.getD 2 0 : Nat) := by rw [e_r_122]; exact nI_toInt (sl_lt (by decide))
      have iq_r_122 := sl_8 (i := 2) (by decide)
      refine lv_isub hx hb d_Re_takesIdentifier_29 ?_
      exact J30 (r_4 - r_122) _ _ _ _ ⟨(lv_sub hl [1, 2, 3, 0] rfl), hH, hz, hLo, rfl⟩
    · skip
      refine lv_iload_n hx hb d_Re_takesIdentifier_19 rfl (lv_at hl 0 rfl) ?_
      refine lv_goto (tgt := 30) hx hb d_Re_takesIdentifier_20 (by decide) ?_
      exact J30 r_4 _ _ _ _ ⟨(lv_sub hl [1, 2, 3, 0] rfl), hH, hz, hLo, rfl⟩

set_option maxHeartbeats 4000000 in
set_option maxRecDepth 100000 in
theorem t_saysDir (l : Launch) (D : va_G) (t : Nat → ClassId) (G : hG) (ak av : Nat → Nat) (h : hM) (τ : tM) (n f : Nat) (r9 : Nat) (a9 : Int32) (i8 : Int32) (e9 : Nat) (tb td md nd : Nat) (wp : Int32) (hn : n ≤ 200) (hT : TI τ t n h) (T_r9 : τ r9 = (6, 0)) (T_e9 : τ e9 = (10, f)) (F_r9 : h r9 = some (.inr (5, [.ref tb, .ref td, .ref md, .ref nd, .int wp]))) : Met l y_Re_saysDirectory (.code y_Re_saysDirectory b_Re_saysDirectory 4 (some .boolean) :: lw_g) { frames := 3, cells := 0, slots := 0, locals := 71 } (hP (kE D t G ak av) D vwCl G h [.ref r9, .int a9, .int i8, .ref e9]) (hQi D vwCl G (fun r h' => zb r ∧ TI τ t n h' ∧ kf τ [(10, 2)] [] h h')) 0 0 G.P := by
  refine Met.ofW (cc := b_Re_saysDirectory) (maxL := 4) (ret := (some .boolean)) (by decide) rfl ?_
  intro p e s m args below meth c s₁ Bd hml hv
  obtain ⟨ha, hE, hH⟩ := hv
  have hx := Bd.exec
  have hb := Bd.bytes
  have hr := Bd.returns
  have hts : ∀ w ∈ lw_g, w.before args s = true := fun w hw => atoms_spec (ws := (.code y_Re_saysDirectory b_Re_saysDirectory 4 (some .boolean) :: lw_g)) Bd.pre w (List.mem_cons_of_mem _ hw)
  have hown : s.vm.findClass R_Re = some m.cls := findClass_of_methodNamed Bd.named
  have hlocks := Bd.notSynchronized
  have hK := hE.1
  have hH0 := hH
  have hLo : hLc G.P [] := hLc_nil
  have hz : s.heap.size ≤ s.heap.size := Nat.le_refl _
  have hl := lv_entry [.ref r9, .int a9, .int i8, .ref e9] (n := 4) (Nat.le_of_ble_eq_true rfl)
  rw [show entryFrame m args 4 = F0 m 0 ((lg_sl [.ref r9, .int a9, .int i8, .ref e9] ++ List.replicate (4 - (lg_sl [.ref r9, .int a9, .int i8, .ref e9]).length) Slot.unset).toArray) [] from (by rw [ha]; exact lg_entry_eq m [.ref r9, .int a9, .int i8, .ref e9] 4)]
  generalize (lg_sl [.ref r9, .int a9, .int i8, .ref e9] ++ List.replicate (4 - (lg_sl [.ref r9, .int a9, .int i8, .ref e9]).length) Slot.unset).toArray = ls at hl ⊢
  have hl : lv_has ls 4 [(0, .ref r9), (1, .int a9), (2, .int i8), (3, .ref e9)] := hl
  have hkf : kf τ [(10, 2)] [] h h := kf_rf
  obtain ⟨Tr0, Tr1, Tr2, Tr3⟩ := TJ_rdr (v2 := some md) (v3 := some nd) hT T_r9 F_r9
  have T_md := Tr2 md rfl
  have T_nd := Tr3 nd rfl
  refine lv_aload_n hx hb d_Re_saysDirectory_0 rfl (lv_at hl 0 rfl) ?_
  refine lv_iload_n hx hb d_Re_saysDirectory_1 rfl (lv_at hl 1 rfl) ?_
  refine lv_aload_n hx hb d_Re_saysDirectory_2 rfl (lv_at hl 0 rfl) ?_
  refine hm_get (ci := 5) (v := .ref td) (C := R_Re) (T := F_Re) (N := 5) hx hb hts ig_Re hown hK hH F_r9 rfl 1 (by decide) (hts _ mw_366) (fun _ h9 => h9) rfl d_Re_saysDirectory_3 ?_
  refine hm_calli (va_runV (As := [.int a9, .ref td]) (b := r9) (rest := []) ⟨hx, hb, hml, hown, hts⟩ (t_takesRec l D t G ak av h τ n 2 r9 a9 td tb td md nd wp  hn hT T_r9 Tr1  F_r9) ⟨cw9B 2 hts mw_367 mw_368 mw_332 rfl rfl (by decide +kernel) ⟨Nat.le_of_ble_eq_true rfl, Nat.le_of_ble_eq_true rfl⟩, hts _ mw_369, hts _ mw_370⟩ (hP_V (q := (R_Re, F_Re, 5)) kE_ok hE hK hH F_r9 rfl) rfl rfl hl.1 rfl (lv_room (Nat.le_of_ble_eq_true rfl)) d_Re_saysDirectory_6 ⟨Nat.le_of_ble_eq_true rfl, Nat.le_of_ble_eq_true rfl⟩) hLo (fun r_1 h_2 H_3 locs hp_5 hH z_4 hLo => ?_)
  have hz : s.heap.size ≤ H_3.size := Nat.le_trans hz z_4
  have hT0 := hT
  obtain ⟨c_6, hT, kf_8, xk_9, xp_7⟩ := hp_5
  have F_r9 : h_2 r9 = some (.inr (5, [.ref tb, .ref td, .ref md, .ref nd, .int wp])) := kf_at kf_8 T_r9 (by decide) tn0 (nmc (tne T_r9 Tr1 (by decide)) nm0) F_r9
  have hkf : kf τ [(10, 2)] [] h h_2 := kf_tr hkf kf_8 (List.forall_mem_nil _) (List.forall_mem_cons.mpr ⟨Or.inr (by rw [Tr1]; exact List.mem_cons_self), List.forall_mem_nil _⟩)
  refine lv_if_eq (tgt := 53) hx hb d_Re_saysDirectory_9 (by decide) (fun hc_10 => ?_) (fun hc_10 => ?_)
  · skip
    have ic_11 : r_1.toInt = 0 := congrArg Int32.toInt hc_10
    refine lv_iconst (v := 0) hx hb d_Re_saysDirectory_53 (by decide) ?_
    exact W.zret (v := 0) hx hb hr (by decide) (fun t9 ht hW => ⟨0, h_2, rfl, ⟨zb0, hT, hkf⟩, by rw [ht]; exact hH, by rw [ht]; exact hz⟩) hLo d_Re_saysDirectory_54
  · skip
    refine lv_aload_n hx hb d_Re_saysDirectory_12 rfl (lv_at hl 0 rfl) ?_
    refine lv_iload_n hx hb d_Re_saysDirectory_13 rfl (lv_at hl 1 rfl) ?_
    refine lv_iload_n hx hb d_Re_saysDirectory_14 rfl (lv_at hl 2 rfl) ?_
    refine hm_callPi (va_runV (As := [.int a9, .int i8]) (b := r9) (rest := []) ⟨hx, hb, hml, hown, hts⟩ (t_isSpecial l D t G ak av h_2 τ n r9 a9 i8 tb td md nd wp  hn hT T_r9  F_r9) ⟨cw9B 2 hts mw_371 mw_372 mw_332 rfl rfl (by decide +kernel) ⟨Nat.le_of_ble_eq_true rfl, Nat.le_of_ble_eq_true rfl⟩, hts _ mw_373, hts _ mw_374⟩ (hP_V (q := (R_Re, F_Re, 5)) kE_ok hE hK hH F_r9 rfl) rfl rfl hl.1 rfl (lv_room (Nat.le_of_ble_eq_true rfl)) d_Re_saysDirectory_15 ⟨Nat.le_of_ble_eq_true rfl, Nat.le_of_ble_eq_true rfl⟩) (fun r_12 h_13 H_14 hp_16  hH z_15 => ?_)
    have hz : s.heap.size ≤ H_14.size := Nat.le_trans hz z_15
    obtain ⟨c_17, rfl⟩ := hp_16
    refine lv_if_eq (tgt := 53) hx hb d_Re_saysDirectory_18 (by decide) (fun hc_19 => ?_) (fun hc_19 => ?_)
    · skip
      have ic_20 : r_12.toInt = 0 := congrArg Int32.toInt hc_19
      refine lv_iconst (v := 0) hx hb d_Re_saysDirectory_53 (by decide) ?_
      exact W.zret (v := 0) hx hb hr (by decide) (fun t9 ht hW => ⟨0, h_2, rfl, ⟨zb0, hT, hkf⟩, by rw [ht]; exact hH, by rw [ht]; exact hz⟩) hLo d_Re_saysDirectory_54
    · skip
      refine lv_aload_n hx hb d_Re_saysDirectory_21 rfl (lv_at hl 0 rfl) ?_
      refine hm_get (ci := 5) (v := .ref td) (C := R_Re) (T := F_Re) (N := 5) hx hb hts ig_Re hown hK hH F_r9 rfl 1 (by decide) (hts _ mw_366) (fun _ h9 => h9) rfl d_Re_saysDirectory_22 ?_
      obtain ⟨v_21, v_22, v_24, v_26, v_27, v_29, v_30, v_31, v_33, v_34, v_35, F_td, c_23, c_25, c_28, c_32⟩ := TI_node hT Tr1
      refine hm_get (ci := 1) (v := .int v_34) (C := R_No) (T := F_No) (N := 11) hx hb hts ig_No hown hK hH F_td rfl 9 (by decide) (hts _ mw_353) (fun _ h9 => h9) rfl d_Re_saysDirectory_25 ?_
      refine lv_aload_n hx hb d_Re_saysDirectory_28 rfl (lv_at hl 3 rfl) ?_
      obtain ⟨v_36, v_37, v_39, v_41, v_42, v_44, v_45, v_46, v_48, v_49, v_50, F_e9, c_38, c_40, c_43, c_47⟩ := TI_node hT T_e9
      refine hm_get (ci := 1) (v := .int v_49) (C := R_No) (T := F_No) (N := 11) hx hb hts ig_No hown hK hH F_e9 rfl 9 (by decide) (hts _ mw_353) (fun _ h9 => h9) rfl d_Re_saysDirectory_29 ?_
      refine lv_icmp_ne (tgt := 53) hx hb d_Re_saysDirectory_32 (by decide) (fun hc_51 => ?_) (fun hc_51 => ?_)
      · skip
        refine lv_iconst (v := 0) hx hb d_Re_saysDirectory_53 (by decide) ?_
        exact W.zret (v := 0) hx hb hr (by decide) (fun t9 ht hW => ⟨0, h_2, rfl, ⟨zb0, hT, hkf⟩, by rw [ht]; exact hH, by rw [ht]; exact hz⟩) hLo d_Re_saysDirectory_54
      · skip
        have ic_52 : v_34.toInt = v_49.toInt := congrArg Int32.toInt hc_51
        refine lv_aload_n hx hb d_Re_saysDirectory_35 rfl (lv_at hl 0 rfl) ?_
        refine hm_get (ci := 5) (v := .ref td) (C := R_Re) (T := F_Re) (N := 5) hx hb hts ig_Re hown hK hH F_r9 rfl 1 (by decide) (hts _ mw_366) (fun _ h9 => h9) rfl d_Re_saysDirectory_36 ?_
        refine hm_get (ci := 1) (v := .int v_29) (C := R_No) (T := F_No) (N := 11) hx hb hts ig_No hown hK hH F_td rfl 5 (by decide) (hts _ mw_352) (fun _ h9 => h9) rfl d_Re_saysDirectory_39 ?_
        refine lv_aload_n hx hb d_Re_saysDirectory_42 rfl (lv_at hl 3 rfl) ?_
        refine hm_get (ci := 1) (v := .int v_44) (C := R_No) (T := F_No) (N := 11) hx hb hts ig_No hown hK hH F_e9 rfl 5 (by decide) (hts _ mw_352) (fun _ h9 => h9) rfl d_Re_saysDirectory_43 ?_
        refine lv_icmp_ne (tgt := 53) hx hb d_Re_saysDirectory_46 (by decide) (fun hc_53 => ?_) (fun hc_53 => ?_)
        · skip
          refine lv_iconst (v := 0) hx hb d_Re_saysDirectory_53 (by decide) ?_
          exact W.zret (v := 0) hx hb hr (by decide) (fun t9 ht hW => ⟨0, h_2, rfl, ⟨zb0, hT, hkf⟩, by rw [ht]; exact hH, by rw [ht]; exact hz⟩) hLo d_Re_saysDirectory_54
        · skip
          have ic_54 : v_29.toInt = v_44.toInt := congrArg Int32.toInt hc_53
          refine lv_iconst (v := 1) hx hb d_Re_saysDirectory_49 (by decide) ?_
          refine lv_goto (tgt := 54) hx hb d_Re_saysDirectory_50 (by decide) ?_
          exact W.zret (v := 1) hx hb hr (by decide) (fun t9 ht hW => ⟨1, h_2, rfl, ⟨zb1, hT, hkf⟩, by rw [ht]; exact hH, by rw [ht]; exact hz⟩) hLo d_Re_saysDirectory_54
