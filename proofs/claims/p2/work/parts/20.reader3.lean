set_option maxRecDepth 100000 in
theorem mw_355 : Cond.code y_Me_halvesAgree b_Me_halvesAgree 4 (some .boolean) ∈ lw_g := lw_gin (List.mem_append_right _ (List.mem_of_getElem? (i := 662) rfl)) (by decide +kernel)
set_option maxRecDepth 100000 in
theorem mw_356 : Cond.methodLink R_Re 95 y_Me_halvesAgree ∈ lw_g := lw_gin (List.mem_append_right _ (List.mem_of_getElem? (i := 659) rfl)) (by decide +kernel)
set_option maxRecDepth 100000 in
theorem mw_357 : Cond.instanceMethod y_Me_halvesAgree ∈ lw_g := lw_gin (List.mem_append_right _ (List.mem_of_getElem? (i := 660) rfl)) (by decide +kernel)
set_option maxRecDepth 100000 in
theorem mw_358 : Cond.selects R_Me y_Me_halvesAgree y_Me_halvesAgree ∈ lw_g := lw_gin (List.mem_append_right _ (List.mem_of_getElem? (i := 661) rfl)) (by decide +kernel)
set_option maxRecDepth 100000 in
theorem mw_359 : Cond.methodLink R_Re 91 y_Me_low ∈ lw_g := lw_gin (List.mem_append_right _ (List.mem_of_getElem? (i := 658) rfl)) (by decide +kernel)
set_option maxRecDepth 100000 in
theorem mw_360 : Cond.code y_Re_hasSectors b_Re_hasSectors 4 (some .boolean) ∈ lw_g := lw_gin (List.mem_append_right _ (List.mem_of_getElem? (i := 675) rfl)) (by decide +kernel)
set_option maxRecDepth 100000 in
theorem mw_361 : Cond.methodLink R_Re 151 y_Re_hasSectors ∈ lw_g := lw_gin (List.mem_append_right _ (List.mem_of_getElem? (i := 672) rfl)) (by decide +kernel)
set_option maxRecDepth 100000 in
theorem mw_362 : Cond.instanceMethod y_Re_hasSectors ∈ lw_g := lw_gin (List.mem_append_right _ (List.mem_of_getElem? (i := 674) rfl)) (by decide +kernel)
set_option maxRecDepth 100000 in
theorem mw_363 : Cond.selects R_Re y_Re_hasSectors y_Re_hasSectors ∈ lw_g := lw_gin (List.mem_append_left _ (List.mem_of_getElem? (i := 16) rfl)) (by decide +kernel)
set_option maxRecDepth 100000 in
theorem mw_364 : Cond.methodLink R_Re 164 y_No_takeName ∈ lw_g := lw_gin (List.mem_append_right _ (List.mem_of_getElem? (i := 703) rfl)) (by decide +kernel)
set_option maxRecDepth 100000 in
theorem mw_365 : Cond.methodLink R_Re 156 y_St_length ∈ lw_g := lw_gin (List.mem_append_right _ (List.mem_of_getElem? (i := 701) rfl)) (by decide +kernel)
set_option maxRecDepth 100000 in
theorem mw_366 : Cond.fieldLink R_Re 23 "WriteOnceDisc$Reader" "told" "LWriteOnceDisc$Node;" ∈ lw_g := lw_gin (List.mem_append_right _ (List.mem_of_getElem? (i := 155) rfl)) (by decide +kernel)
set_option maxRecDepth 100000 in
theorem mw_367 : Cond.code y_Re_takesRecord b_Re_takesRecord 5 (some .boolean) ∈ lw_g := lw_gin (List.mem_append_right _ (List.mem_of_getElem? (i := 670) rfl)) (by decide +kernel)
set_option maxRecDepth 100000 in
theorem mw_368 : Cond.methodLink R_Re 101 y_Re_takesRecord ∈ lw_g := lw_gin (List.mem_append_right _ (List.mem_of_getElem? (i := 667) rfl)) (by decide +kernel)
set_option maxRecDepth 100000 in
theorem mw_369 : Cond.instanceMethod y_Re_takesRecord ∈ lw_g := lw_gin (List.mem_append_right _ (List.mem_of_getElem? (i := 669) rfl)) (by decide +kernel)
set_option maxRecDepth 100000 in
theorem mw_370 : Cond.selects R_Re y_Re_takesRecord y_Re_takesRecord ∈ lw_g := lw_gin (List.mem_append_left _ (List.mem_of_getElem? (i := 15) rfl)) (by decide +kernel)
set_option maxRecDepth 100000 in
theorem mw_371 : Cond.code y_Re_isSpecial b_Re_isSpecial 3 (some .boolean) ∈ lw_g := lw_gin (List.mem_append_right _ (List.mem_of_getElem? (i := 681) rfl)) (by decide +kernel)
set_option maxRecDepth 100000 in
theorem mw_372 : Cond.methodLink R_Re 105 y_Re_isSpecial ∈ lw_g := lw_gin (List.mem_append_right _ (List.mem_of_getElem? (i := 678) rfl)) (by decide +kernel)
set_option maxRecDepth 100000 in
theorem mw_373 : Cond.instanceMethod y_Re_isSpecial ∈ lw_g := lw_gin (List.mem_append_right _ (List.mem_of_getElem? (i := 680) rfl)) (by decide +kernel)
set_option maxRecDepth 100000 in
theorem mw_374 : Cond.selects R_Re y_Re_isSpecial y_Re_isSpecial ∈ lw_g := lw_gin (List.mem_append_left _ (List.mem_of_getElem? (i := 17) rfl)) (by decide +kernel)
theorem d_Re_takesRecord_0 : decode b_Re_takesRecord 0 = .ok (.aload_n 0, 1) := by decide +kernel
theorem d_Re_takesRecord_1 : decode b_Re_takesRecord 1 = .ok (.getfield 27, 3) := by decide +kernel
theorem d_Re_takesRecord_4 : decode b_Re_takesRecord 4 = .ok (.iload_n 1, 1) := by decide +kernel
theorem d_Re_takesRecord_5 : decode b_Re_takesRecord 5 = .ok (.invokevirtual 81, 3) := by decide +kernel
theorem d_Re_takesRecord_8 : decode b_Re_takesRecord 8 = .ok (.istore_n 3, 1) := by decide +kernel
theorem d_Re_takesRecord_9 : decode b_Re_takesRecord 9 = .ok (.iload_n 3, 1) := by decide +kernel
theorem d_Re_takesRecord_10 : decode b_Re_takesRecord 10 = .ok (.bipush 34, 2) := by decide +kernel
theorem d_Re_takesRecord_12 : decode b_Re_takesRecord 12 = .ok (.if_icmp .lt 16, 3) := by decide +kernel
theorem d_Re_takesRecord_28 : decode b_Re_takesRecord 28 = .ok (.iconst 0, 1) := by decide +kernel
theorem d_Re_takesRecord_29 : decode b_Re_takesRecord 29 = .ok (.ireturn, 1) := by decide +kernel
theorem d_Re_takesRecord_15 : decode b_Re_takesRecord 15 = .ok (.iload_n 1, 1) := by decide +kernel
theorem d_Re_takesRecord_16 : decode b_Re_takesRecord 16 = .ok (.sipush 2048, 3) := by decide +kernel
theorem d_Re_takesRecord_19 : decode b_Re_takesRecord 19 = .ok (.irem, 1) := by decide +kernel
theorem d_Re_takesRecord_20 : decode b_Re_takesRecord 20 = .ok (.iload_n 3, 1) := by decide +kernel
theorem d_Re_takesRecord_21 : decode b_Re_takesRecord 21 = .ok (.iadd, 1) := by decide +kernel
theorem d_Re_takesRecord_22 : decode b_Re_takesRecord 22 = .ok (.sipush 2048, 3) := by decide +kernel
theorem d_Re_takesRecord_25 : decode b_Re_takesRecord 25 = .ok (.if_icmp .le 5, 3) := by decide +kernel
theorem d_Re_takesRecord_30 : decode b_Re_takesRecord 30 = .ok (.aload_n 0, 1) := by decide +kernel
theorem d_Re_takesRecord_31 : decode b_Re_takesRecord 31 = .ok (.getfield 27, 3) := by decide +kernel
theorem d_Re_takesRecord_34 : decode b_Re_takesRecord 34 = .ok (.iload_n 1, 1) := by decide +kernel
theorem d_Re_takesRecord_35 : decode b_Re_takesRecord 35 = .ok (.bipush 25, 2) := by decide +kernel
theorem d_Re_takesRecord_37 : decode b_Re_takesRecord 37 = .ok (.iadd, 1) := by decide +kernel
theorem d_Re_takesRecord_38 : decode b_Re_takesRecord 38 = .ok (.invokevirtual 81, 3) := by decide +kernel
theorem d_Re_takesRecord_41 : decode b_Re_takesRecord 41 = .ok (.istore 4, 2) := by decide +kernel
theorem d_Re_takesRecord_43 : decode b_Re_takesRecord 43 = .ok (.iload_n 3, 1) := by decide +kernel
theorem d_Re_takesRecord_44 : decode b_Re_takesRecord 44 = .ok (.bipush 33, 2) := by decide +kernel
theorem d_Re_takesRecord_46 : decode b_Re_takesRecord 46 = .ok (.aload_n 0, 1) := by decide +kernel
theorem d_Re_takesRecord_47 : decode b_Re_takesRecord 47 = .ok (.getfield 27, 3) := by decide +kernel
theorem d_Re_takesRecord_50 : decode b_Re_takesRecord 50 = .ok (.iload_n 1, 1) := by decide +kernel
theorem d_Re_takesRecord_51 : decode b_Re_takesRecord 51 = .ok (.bipush 32, 2) := by decide +kernel
theorem d_Re_takesRecord_53 : decode b_Re_takesRecord 53 = .ok (.iadd, 1) := by decide +kernel
theorem d_Re_takesRecord_54 : decode b_Re_takesRecord 54 = .ok (.invokevirtual 81, 3) := by decide +kernel
theorem d_Re_takesRecord_57 : decode b_Re_takesRecord 57 = .ok (.iadd, 1) := by decide +kernel
theorem d_Re_takesRecord_58 : decode b_Re_takesRecord 58 = .ok (.invokestatic 148, 3) := by decide +kernel
theorem d_Re_takesRecord_61 : decode b_Re_takesRecord 61 = .ok (.if_icmp .ne 14, 3) := by decide +kernel
theorem d_Re_takesRecord_75 : decode b_Re_takesRecord 75 = .ok (.iconst 0, 1) := by decide +kernel
theorem d_Re_takesRecord_76 : decode b_Re_takesRecord 76 = .ok (.ireturn, 1) := by decide +kernel
theorem d_Re_takesRecord_64 : decode b_Re_takesRecord 64 = .ok (.iload 4, 2) := by decide +kernel
theorem d_Re_takesRecord_66 : decode b_Re_takesRecord 66 = .ok (.ifCond .eq 11, 3) := by decide +kernel
theorem d_Re_takesRecord_77 : decode b_Re_takesRecord 77 = .ok (.aload_n 0, 1) := by decide +kernel
theorem d_Re_takesRecord_78 : decode b_Re_takesRecord 78 = .ok (.getfield 27, 3) := by decide +kernel
theorem d_Re_takesRecord_81 : decode b_Re_takesRecord 81 = .ok (.iload_n 1, 1) := by decide +kernel
theorem d_Re_takesRecord_82 : decode b_Re_takesRecord 82 = .ok (.iconst 2, 1) := by decide +kernel
theorem d_Re_takesRecord_83 : decode b_Re_takesRecord 83 = .ok (.iadd, 1) := by decide +kernel
theorem d_Re_takesRecord_84 : decode b_Re_takesRecord 84 = .ok (.iconst 4, 1) := by decide +kernel
theorem d_Re_takesRecord_85 : decode b_Re_takesRecord 85 = .ok (.invokevirtual 95, 3) := by decide +kernel
theorem d_Re_takesRecord_88 : decode b_Re_takesRecord 88 = .ok (.ifCond .eq 18, 3) := by decide +kernel
theorem d_Re_takesRecord_106 : decode b_Re_takesRecord 106 = .ok (.iconst 0, 1) := by decide +kernel
theorem d_Re_takesRecord_107 : decode b_Re_takesRecord 107 = .ok (.ireturn, 1) := by decide +kernel
theorem d_Re_takesRecord_91 : decode b_Re_takesRecord 91 = .ok (.aload_n 0, 1) := by decide +kernel
theorem d_Re_takesRecord_92 : decode b_Re_takesRecord 92 = .ok (.getfield 27, 3) := by decide +kernel
theorem d_Re_takesRecord_95 : decode b_Re_takesRecord 95 = .ok (.iload_n 1, 1) := by decide +kernel
theorem d_Re_takesRecord_96 : decode b_Re_takesRecord 96 = .ok (.bipush 10, 2) := by decide +kernel
theorem d_Re_takesRecord_98 : decode b_Re_takesRecord 98 = .ok (.iadd, 1) := by decide +kernel
theorem d_Re_takesRecord_99 : decode b_Re_takesRecord 99 = .ok (.iconst 4, 1) := by decide +kernel
theorem d_Re_takesRecord_100 : decode b_Re_takesRecord 100 = .ok (.invokevirtual 95, 3) := by decide +kernel
theorem d_Re_takesRecord_103 : decode b_Re_takesRecord 103 = .ok (.ifCond .ne 5, 3) := by decide +kernel
theorem d_Re_takesRecord_108 : decode b_Re_takesRecord 108 = .ok (.aload_n 0, 1) := by decide +kernel
theorem d_Re_takesRecord_109 : decode b_Re_takesRecord 109 = .ok (.getfield 27, 3) := by decide +kernel
theorem d_Re_takesRecord_112 : decode b_Re_takesRecord 112 = .ok (.iload_n 1, 1) := by decide +kernel
theorem d_Re_takesRecord_113 : decode b_Re_takesRecord 113 = .ok (.bipush 28, 2) := by decide +kernel
theorem d_Re_takesRecord_115 : decode b_Re_takesRecord 115 = .ok (.iadd, 1) := by decide +kernel
theorem d_Re_takesRecord_116 : decode b_Re_takesRecord 116 = .ok (.iconst 2, 1) := by decide +kernel
theorem d_Re_takesRecord_117 : decode b_Re_takesRecord 117 = .ok (.invokevirtual 95, 3) := by decide +kernel
theorem d_Re_takesRecord_120 : decode b_Re_takesRecord 120 = .ok (.ifCond .ne 5, 3) := by decide +kernel
theorem d_Re_takesRecord_137 : decode b_Re_takesRecord 137 = .ok (.putfield 58, 3) := by decide +kernel
theorem d_Re_takesRecord_140 : decode b_Re_takesRecord 140 = .ok (.aload_n 2, 1) := by decide +kernel
theorem d_Re_takesRecord_141 : decode b_Re_takesRecord 141 = .ok (.aload_n 0, 1) := by decide +kernel
theorem d_Re_takesRecord_142 : decode b_Re_takesRecord 142 = .ok (.getfield 27, 3) := by decide +kernel
theorem d_Re_takesRecord_145 : decode b_Re_takesRecord 145 = .ok (.iload_n 1, 1) := by decide +kernel
theorem d_Re_takesRecord_146 : decode b_Re_takesRecord 146 = .ok (.iconst 2, 1) := by decide +kernel
theorem d_Re_takesRecord_147 : decode b_Re_takesRecord 147 = .ok (.iadd, 1) := by decide +kernel
theorem d_Re_takesRecord_148 : decode b_Re_takesRecord 148 = .ok (.iconst 4, 1) := by decide +kernel
theorem d_Re_takesRecord_149 : decode b_Re_takesRecord 149 = .ok (.invokevirtual 91, 3) := by decide +kernel
theorem d_Re_takesRecord_152 : decode b_Re_takesRecord 152 = .ok (.putfield 108, 3) := by decide +kernel
theorem d_Re_takesRecord_155 : decode b_Re_takesRecord 155 = .ok (.aload_n 2, 1) := by decide +kernel
theorem d_Re_takesRecord_156 : decode b_Re_takesRecord 156 = .ok (.aload_n 0, 1) := by decide +kernel
theorem d_Re_takesRecord_157 : decode b_Re_takesRecord 157 = .ok (.getfield 27, 3) := by decide +kernel
theorem d_Re_takesRecord_160 : decode b_Re_takesRecord 160 = .ok (.iload_n 1, 1) := by decide +kernel
theorem d_Re_takesRecord_161 : decode b_Re_takesRecord 161 = .ok (.bipush 10, 2) := by decide +kernel
theorem d_Re_takesRecord_163 : decode b_Re_takesRecord 163 = .ok (.iadd, 1) := by decide +kernel
theorem d_Re_takesRecord_164 : decode b_Re_takesRecord 164 = .ok (.iconst 4, 1) := by decide +kernel
theorem d_Re_takesRecord_165 : decode b_Re_takesRecord 165 = .ok (.invokevirtual 91, 3) := by decide +kernel
theorem d_Re_takesRecord_168 : decode b_Re_takesRecord 168 = .ok (.putfield 111, 3) := by decide +kernel
theorem d_Re_takesRecord_171 : decode b_Re_takesRecord 171 = .ok (.aload_n 0, 1) := by decide +kernel
theorem d_Re_takesRecord_172 : decode b_Re_takesRecord 172 = .ok (.aload_n 2, 1) := by decide +kernel
theorem d_Re_takesRecord_173 : decode b_Re_takesRecord 173 = .ok (.invokevirtual 151, 3) := by decide +kernel
theorem d_Re_takesRecord_176 : decode b_Re_takesRecord 176 = .ok (.ireturn, 1) := by decide +kernel
theorem d_Re_takesRecord_125 : decode b_Re_takesRecord 125 = .ok (.aload_n 2, 1) := by decide +kernel
theorem d_Re_takesRecord_126 : decode b_Re_takesRecord 126 = .ok (.iload 4, 2) := by decide +kernel
theorem d_Re_takesRecord_128 : decode b_Re_takesRecord 128 = .ok (.iconst 2, 1) := by decide +kernel
theorem d_Re_takesRecord_129 : decode b_Re_takesRecord 129 = .ok (.if_icmp .ne 7, 3) := by decide +kernel
theorem d_Re_takesRecord_136 : decode b_Re_takesRecord 136 = .ok (.iconst 0, 1) := by decide +kernel
theorem d_Re_takesRecord_132 : decode b_Re_takesRecord 132 = .ok (.iconst 1, 1) := by decide +kernel
theorem d_Re_takesRecord_133 : decode b_Re_takesRecord 133 = .ok (.goto 4, 3) := by decide +kernel
theorem d_Re_takesRecord_123 : decode b_Re_takesRecord 123 = .ok (.iconst 0, 1) := by decide +kernel
theorem d_Re_takesRecord_124 : decode b_Re_takesRecord 124 = .ok (.ireturn, 1) := by decide +kernel
theorem d_Re_takesRecord_69 : decode b_Re_takesRecord 69 = .ok (.iload 4, 2) := by decide +kernel
theorem d_Re_takesRecord_71 : decode b_Re_takesRecord 71 = .ok (.iconst 2, 1) := by decide +kernel
theorem d_Re_takesRecord_72 : decode b_Re_takesRecord 72 = .ok (.if_icmp .eq 5, 3) := by decide +kernel
theorem d_Re_takesIdentifier_0 : decode b_Re_takesIdentifier 0 = .ok (.aload_n 0, 1) := by decide +kernel
theorem d_Re_takesIdentifier_1 : decode b_Re_takesIdentifier 1 = .ok (.getfield 27, 3) := by decide +kernel
theorem d_Re_takesIdentifier_4 : decode b_Re_takesIdentifier 4 = .ok (.iload_n 1, 1) := by decide +kernel
theorem d_Re_takesIdentifier_5 : decode b_Re_takesIdentifier 5 = .ok (.bipush 32, 2) := by decide +kernel
theorem d_Re_takesIdentifier_7 : decode b_Re_takesIdentifier 7 = .ok (.iadd, 1) := by decide +kernel
theorem d_Re_takesIdentifier_8 : decode b_Re_takesIdentifier 8 = .ok (.invokevirtual 81, 3) := by decide +kernel
theorem d_Re_takesIdentifier_11 : decode b_Re_takesIdentifier 11 = .ok (.istore_n 3, 1) := by decide +kernel
theorem d_Re_takesIdentifier_30 : decode b_Re_takesIdentifier 30 = .ok (.istore 4, 2) := by decide +kernel
theorem d_Re_takesIdentifier_32 : decode b_Re_takesIdentifier 32 = .ok (.iload 4, 2) := by decide +kernel
theorem d_Re_takesIdentifier_34 : decode b_Re_takesIdentifier 34 = .ok (.iconst 1, 1) := by decide +kernel
theorem d_Re_takesIdentifier_35 : decode b_Re_takesIdentifier 35 = .ok (.if_icmp .lt 10, 3) := by decide +kernel
theorem d_Re_takesIdentifier_45 : decode b_Re_takesIdentifier 45 = .ok (.iconst 0, 1) := by decide +kernel
theorem d_Re_takesIdentifier_46 : decode b_Re_takesIdentifier 46 = .ok (.ireturn, 1) := by decide +kernel
theorem d_Re_takesIdentifier_38 : decode b_Re_takesIdentifier 38 = .ok (.iload 4, 2) := by decide +kernel
theorem d_Re_takesIdentifier_40 : decode b_Re_takesIdentifier 40 = .ok (.bipush 8, 2) := by decide +kernel
theorem d_Re_takesIdentifier_42 : decode b_Re_takesIdentifier 42 = .ok (.if_icmp .le 5, 3) := by decide +kernel
theorem d_Re_takesIdentifier_47 : decode b_Re_takesIdentifier 47 = .ok (.aload_n 2, 1) := by decide +kernel
theorem d_Re_takesIdentifier_48 : decode b_Re_takesIdentifier 48 = .ok (.getfield 58, 3) := by decide +kernel
theorem d_Re_takesIdentifier_51 : decode b_Re_takesIdentifier 51 = .ok (.ifCond .ne 24, 3) := by decide +kernel
theorem d_Re_takesIdentifier_75 : decode b_Re_takesIdentifier 75 = .ok (.lconst 0, 1) := by decide +kernel
theorem d_Re_takesIdentifier_76 : decode b_Re_takesIdentifier 76 = .ok (.lstore 5, 2) := by decide +kernel
theorem d_Re_takesIdentifier_78 : decode b_Re_takesIdentifier 78 = .ok (.iconst 0, 1) := by decide +kernel
theorem d_Re_takesIdentifier_79 : decode b_Re_takesIdentifier 79 = .ok (.istore 7, 2) := by decide +kernel
theorem d_Re_takesIdentifier_81 : decode b_Re_takesIdentifier 81 = .ok (.iload 7, 2) := by decide +kernel
theorem d_Re_takesIdentifier_83 : decode b_Re_takesIdentifier 83 = .ok (.iload 4, 2) := by decide +kernel
theorem d_Re_takesIdentifier_85 : decode b_Re_takesIdentifier 85 = .ok (.if_icmp .ge 46, 3) := by decide +kernel
theorem d_Re_takesIdentifier_131 : decode b_Re_takesIdentifier 131 = .ok (.aload_n 2, 1) := by decide +kernel
theorem d_Re_takesIdentifier_132 : decode b_Re_takesIdentifier 132 = .ok (.lload 5, 2) := by decide +kernel
theorem d_Re_takesIdentifier_134 : decode b_Re_takesIdentifier 134 = .ok (.invokevirtual 164, 3) := by decide +kernel
theorem d_Re_takesIdentifier_137 : decode b_Re_takesIdentifier 137 = .ok (.iconst 1, 1) := by decide +kernel
theorem d_Re_takesIdentifier_138 : decode b_Re_takesIdentifier 138 = .ok (.ireturn, 1) := by decide +kernel
theorem d_Re_takesIdentifier_88 : decode b_Re_takesIdentifier 88 = .ok (.aload_n 0, 1) := by decide +kernel
theorem d_Re_takesIdentifier_89 : decode b_Re_takesIdentifier 89 = .ok (.getfield 27, 3) := by decide +kernel
theorem d_Re_takesIdentifier_92 : decode b_Re_takesIdentifier 92 = .ok (.iload_n 1, 1) := by decide +kernel
theorem d_Re_takesIdentifier_93 : decode b_Re_takesIdentifier 93 = .ok (.bipush 33, 2) := by decide +kernel
theorem d_Re_takesIdentifier_95 : decode b_Re_takesIdentifier 95 = .ok (.iadd, 1) := by decide +kernel
theorem d_Re_takesIdentifier_96 : decode b_Re_takesIdentifier 96 = .ok (.iload 7, 2) := by decide +kernel
theorem d_Re_takesIdentifier_98 : decode b_Re_takesIdentifier 98 = .ok (.iadd, 1) := by decide +kernel
theorem d_Re_takesIdentifier_99 : decode b_Re_takesIdentifier 99 = .ok (.invokevirtual 81, 3) := by decide +kernel
theorem d_Re_takesIdentifier_102 : decode b_Re_takesIdentifier 102 = .ok (.istore 8, 2) := by decide +kernel
theorem d_Re_takesIdentifier_104 : decode b_Re_takesIdentifier 104 = .ok (.iload 8, 2) := by decide +kernel
theorem d_Re_takesIdentifier_106 : decode b_Re_takesIdentifier 106 = .ok (.invokestatic 161, 3) := by decide +kernel
theorem d_Re_takesIdentifier_109 : decode b_Re_takesIdentifier 109 = .ok (.ifCond .ne 5, 3) := by decide +kernel
theorem d_Re_takesIdentifier_114 : decode b_Re_takesIdentifier 114 = .ok (.lload 5, 2) := by decide +kernel
theorem d_Re_takesIdentifier_116 : decode b_Re_takesIdentifier 116 = .ok (.bipush 8, 2) := by decide +kernel
theorem d_Re_takesIdentifier_118 : decode b_Re_takesIdentifier 118 = .ok (.lshl, 1) := by decide +kernel
theorem d_Re_takesIdentifier_119 : decode b_Re_takesIdentifier 119 = .ok (.iload 8, 2) := by decide +kernel
theorem d_Re_takesIdentifier_121 : decode b_Re_takesIdentifier 121 = .ok (.i2l, 1) := by decide +kernel
theorem d_Re_takesIdentifier_122 : decode b_Re_takesIdentifier 122 = .ok (.lor, 1) := by decide +kernel
theorem d_Re_takesIdentifier_123 : decode b_Re_takesIdentifier 123 = .ok (.lstore 5, 2) := by decide +kernel
theorem d_Re_takesIdentifier_125 : decode b_Re_takesIdentifier 125 = .ok (.iinc 7 1, 3) := by decide +kernel
theorem d_Re_takesIdentifier_128 : decode b_Re_takesIdentifier 128 = .ok (.goto (-47), 3) := by decide +kernel
theorem d_Re_takesIdentifier_112 : decode b_Re_takesIdentifier 112 = .ok (.iconst 0, 1) := by decide +kernel
theorem d_Re_takesIdentifier_113 : decode b_Re_takesIdentifier 113 = .ok (.ireturn, 1) := by decide +kernel
theorem d_Re_takesIdentifier_54 : decode b_Re_takesIdentifier 54 = .ok (.aload_n 0, 1) := by decide +kernel
theorem d_Re_takesIdentifier_55 : decode b_Re_takesIdentifier 55 = .ok (.getfield 27, 3) := by decide +kernel
theorem d_Re_takesIdentifier_58 : decode b_Re_takesIdentifier 58 = .ok (.iload_n 1, 1) := by decide +kernel
theorem d_Re_takesIdentifier_59 : decode b_Re_takesIdentifier 59 = .ok (.bipush 33, 2) := by decide +kernel
theorem d_Re_takesIdentifier_61 : decode b_Re_takesIdentifier 61 = .ok (.iadd, 1) := by decide +kernel
theorem d_Re_takesIdentifier_62 : decode b_Re_takesIdentifier 62 = .ok (.iload 4, 2) := by decide +kernel
theorem d_Re_takesIdentifier_64 : decode b_Re_takesIdentifier 64 = .ok (.iadd, 1) := by decide +kernel
theorem d_Re_takesIdentifier_65 : decode b_Re_takesIdentifier 65 = .ok (.ldc 154, 2) := by decide +kernel
theorem d_Re_takesIdentifier_67 : decode b_Re_takesIdentifier 67 = .ok (.invokevirtual 87, 3) := by decide +kernel
theorem d_Re_takesIdentifier_70 : decode b_Re_takesIdentifier 70 = .ok (.ifCond .ne 5, 3) := by decide +kernel
theorem d_Re_takesIdentifier_73 : decode b_Re_takesIdentifier 73 = .ok (.iconst 0, 1) := by decide +kernel
theorem d_Re_takesIdentifier_74 : decode b_Re_takesIdentifier 74 = .ok (.ireturn, 1) := by decide +kernel
theorem d_Re_takesIdentifier_12 : decode b_Re_takesIdentifier 12 = .ok (.aload_n 2, 1) := by decide +kernel
theorem d_Re_takesIdentifier_13 : decode b_Re_takesIdentifier 13 = .ok (.getfield 58, 3) := by decide +kernel
theorem d_Re_takesIdentifier_16 : decode b_Re_takesIdentifier 16 = .ok (.ifCond .eq 7, 3) := by decide +kernel
theorem d_Re_takesIdentifier_23 : decode b_Re_takesIdentifier 23 = .ok (.iload_n 3, 1) := by decide +kernel
theorem d_Re_takesIdentifier_24 : decode b_Re_takesIdentifier 24 = .ok (.ldc 154, 2) := by decide +kernel
theorem d_Re_takesIdentifier_26 : decode b_Re_takesIdentifier 26 = .ok (.invokevirtual 156, 3) := by decide +kernel
theorem d_Re_takesIdentifier_29 : decode b_Re_takesIdentifier 29 = .ok (.isub, 1) := by decide +kernel
theorem d_Re_takesIdentifier_19 : decode b_Re_takesIdentifier 19 = .ok (.iload_n 3, 1) := by decide +kernel
theorem d_Re_takesIdentifier_20 : decode b_Re_takesIdentifier 20 = .ok (.goto 10, 3) := by decide +kernel
theorem d_Re_saysDirectory_0 : decode b_Re_saysDirectory 0 = .ok (.aload_n 0, 1) := by decide +kernel
theorem d_Re_saysDirectory_1 : decode b_Re_saysDirectory 1 = .ok (.iload_n 1, 1) := by decide +kernel
theorem d_Re_saysDirectory_2 : decode b_Re_saysDirectory 2 = .ok (.aload_n 0, 1) := by decide +kernel
theorem d_Re_saysDirectory_3 : decode b_Re_saysDirectory 3 = .ok (.getfield 23, 3) := by decide +kernel
theorem d_Re_saysDirectory_6 : decode b_Re_saysDirectory 6 = .ok (.invokevirtual 101, 3) := by decide +kernel
theorem d_Re_saysDirectory_9 : decode b_Re_saysDirectory 9 = .ok (.ifCond .eq 44, 3) := by decide +kernel
theorem d_Re_saysDirectory_53 : decode b_Re_saysDirectory 53 = .ok (.iconst 0, 1) := by decide +kernel
theorem d_Re_saysDirectory_54 : decode b_Re_saysDirectory 54 = .ok (.ireturn, 1) := by decide +kernel
theorem d_Re_saysDirectory_12 : decode b_Re_saysDirectory 12 = .ok (.aload_n 0, 1) := by decide +kernel
theorem d_Re_saysDirectory_13 : decode b_Re_saysDirectory 13 = .ok (.iload_n 1, 1) := by decide +kernel
theorem d_Re_saysDirectory_14 : decode b_Re_saysDirectory 14 = .ok (.iload_n 2, 1) := by decide +kernel
theorem d_Re_saysDirectory_15 : decode b_Re_saysDirectory 15 = .ok (.invokevirtual 105, 3) := by decide +kernel
theorem d_Re_saysDirectory_18 : decode b_Re_saysDirectory 18 = .ok (.ifCond .eq 35, 3) := by decide +kernel
theorem d_Re_saysDirectory_21 : decode b_Re_saysDirectory 21 = .ok (.aload_n 0, 1) := by decide +kernel
theorem d_Re_saysDirectory_22 : decode b_Re_saysDirectory 22 = .ok (.getfield 23, 3) := by decide +kernel
theorem d_Re_saysDirectory_25 : decode b_Re_saysDirectory 25 = .ok (.getfield 108, 3) := by decide +kernel
theorem d_Re_saysDirectory_28 : decode b_Re_saysDirectory 28 = .ok (.aload_n 3, 1) := by decide +kernel
theorem d_Re_saysDirectory_29 : decode b_Re_saysDirectory 29 = .ok (.getfield 108, 3) := by decide +kernel
theorem d_Re_saysDirectory_32 : decode b_Re_saysDirectory 32 = .ok (.if_icmp .ne 21, 3) := by decide +kernel
theorem d_Re_saysDirectory_35 : decode b_Re_saysDirectory 35 = .ok (.aload_n 0, 1) := by decide +kernel
theorem d_Re_saysDirectory_36 : decode b_Re_saysDirectory 36 = .ok (.getfield 23, 3) := by decide +kernel
theorem d_Re_saysDirectory_39 : decode b_Re_saysDirectory 39 = .ok (.getfield 111, 3) := by decide +kernel
theorem d_Re_saysDirectory_42 : decode b_Re_saysDirectory 42 = .ok (.aload_n 3, 1) := by decide +kernel
theorem d_Re_saysDirectory_43 : decode b_Re_saysDirectory 43 = .ok (.getfield 111, 3) := by decide +kernel
theorem d_Re_saysDirectory_46 : decode b_Re_saysDirectory 46 = .ok (.if_icmp .ne 7, 3) := by decide +kernel
theorem d_Re_saysDirectory_49 : decode b_Re_saysDirectory 49 = .ok (.iconst 1, 1) := by decide +kernel
theorem d_Re_saysDirectory_50 : decode b_Re_saysDirectory 50 = .ok (.goto 4, 3) := by decide +kernel
set_option maxHeartbeats 4000000 in
set_option maxRecDepth 100000 in
theorem t_takesRec (l : Launch) (D : va_G) (t : Nat → ClassId) (G : hG) (ak av : Nat → Nat) (h : hM) (τ : tM) (n f : Nat) (r9 : Nat) (a9 : Int32) (e9 : Nat) (tb td md nd : Nat) (wp : Int32) (hn : n ≤ 200) (hT : TI τ t n h) (T_r9 : τ r9 = (6, 0)) (T_e9 : τ e9 = (10, f)) (F_r9 : h r9 = some (.inr (5, [.ref tb, .ref td, .ref md, .ref nd, .int wp]))) : Met l y_Re_takesRecord (.code y_Re_takesRecord b_Re_takesRecord 5 (some .boolean) :: lw_g) { frames := 2, cells := 0, slots := 0, locals := 47 } (hP (kE D t G ak av) D vwCl G h [.ref r9, .int a9, .ref e9]) (hQi D vwCl G (fun r h' => zb r ∧ TI τ t n h' ∧ kf τ [] [e9] h h' ∧ knp τ f h h' ∧ (r = 1 → rngN n h' e9))) 0 0 G.P := by
  refine Met.ofW (cc := b_Re_takesRecord) (maxL := 5) (ret := (some .boolean)) (by decide) rfl ?_
  intro p e s m args below meth c s₁ Bd hml hv
  obtain ⟨ha, hE, hH⟩ := hv
  have hx := Bd.exec
  have hb := Bd.bytes
  have hr := Bd.returns
  have hts : ∀ w ∈ lw_g, w.before args s = true := fun w hw => atoms_spec (ws := (.code y_Re_takesRecord b_Re_takesRecord 5 (some .boolean) :: lw_g)) Bd.pre w (List.mem_cons_of_mem _ hw)
  have hown : s.vm.findClass R_Re = some m.cls := findClass_of_methodNamed Bd.named
  have hlocks := Bd.notSynchronized
  have hK := hE.1
  have hH0 := hH
  have hLo : hLc G.P [] := hLc_nil
  have hz : s.heap.size ≤ s.heap.size := Nat.le_refl _
  have hl := lv_entry [.ref r9, .int a9, .ref e9] (n := 5) (Nat.le_of_ble_eq_true rfl)
  rw [show entryFrame m args 5 = F0 m 0 ((lg_sl [.ref r9, .int a9, .ref e9] ++ List.replicate (5 - (lg_sl [.ref r9, .int a9, .ref e9]).length) Slot.unset).toArray) [] from (by rw [ha]; exact lg_entry_eq m [.ref r9, .int a9, .ref e9] 5)]
  generalize (lg_sl [.ref r9, .int a9, .ref e9] ++ List.replicate (5 - (lg_sl [.ref r9, .int a9, .ref e9]).length) Slot.unset).toArray = ls at hl ⊢
  have hl : lv_has ls 5 [(0, .ref r9), (1, .int a9), (2, .ref e9)] := hl
  have hkf : kf τ [] [e9] h h := kf_rf
  have hnp_f : knp τ f h h := knp_rf
  obtain ⟨Tr0, Tr1, Tr2, Tr3⟩ := TJ_rdr (v2 := some md) (v3 := some nd) hT T_r9 F_r9
  have T_md := Tr2 md rfl
  have T_nd := Tr3 nd rfl
  refine lv_aload_n hx hb d_Re_takesRecord_0 rfl (lv_at hl 0 rfl) ?_
  refine hm_get (ci := 5) (v := .ref md) (C := R_Re) (T := F_Re) (N := 5) hx hb hts ig_Re hown hK hH F_r9 rfl 2 (by decide) (hts _ mw_329) (fun _ h9 => h9) rfl d_Re_takesRecord_1 ?_
  refine lv_iload_n hx hb d_Re_takesRecord_4 rfl (lv_at hl 1 rfl) ?_
  obtain ⟨v1, v3, F_md, c2⟩ := TI_med hT T_md
  refine hm_callPi (va_runV (As := [.int a9]) (b := md) (rest := []) ⟨hx, hb, hml, hown, hts⟩ (t_fetch l D t G ak av h τ n md a9 hn hT T_md) ⟨cw9B 1 hts mw_31 mw_330 mw_32 rfl rfl (by decide +kernel) ⟨Nat.le_of_ble_eq_true rfl, Nat.le_of_ble_eq_true rfl⟩, hts _ mw_34, hts _ mw_35⟩ (hP_V (q := (R_Me, F_Me, 2)) kE_ok hE hK hH F_md rfl) rfl rfl hl.1 rfl (lv_room (Nat.le_of_ble_eq_true rfl)) d_Re_takesRecord_5 ⟨Nat.le_of_ble_eq_true rfl, Nat.le_of_ble_eq_true rfl⟩) (fun r4 h5 H6 hp8  hH z7 => ?_)
  have hz : s.heap.size ≤ H6.size := Nat.le_trans hz z7
  obtain ⟨xp9, rfl⟩ := hp8
  refine lv_istore_n (lv' := [(3, .int r4), (0, .ref r9), (1, .int a9), (2, .ref e9)]) hx hb d_Re_takesRecord_8 rfl hl (by decide) rfl (fun ls hl => ?_)
  refine lv_iload_n hx hb d_Re_takesRecord_9 rfl (lv_at hl 0 rfl) ?_
  refine lv_bipush (v := 34) hx hb d_Re_takesRecord_10 (by decide) ?_
  refine lv_icmp_lt (tgt := 28) hx hb d_Re_takesRecord_12 (by decide) (fun hc10 => ?_) (fun hc10 => ?_)
  · skip
    have ic11 : r4.toInt < 34 := iLt hc10
    refine lv_iconst (v := 0) hx hb d_Re_takesRecord_28 (by decide) ?_
    exact W.zret (v := 0) hx hb hr (by decide) (fun t9 ht hW => ⟨0, h, rfl, ⟨zb0, hT, hkf, hnp_f, (fun z => absurd z (by decide))⟩, by rw [ht]; exact hH, by rw [ht]; exact hz⟩) hLo d_Re_takesRecord_29
  · skip
    have ic12 : 34 ≤ r4.toInt := iNl hc10
    refine lv_iload_n hx hb d_Re_takesRecord_15 rfl (lv_at hl 2 rfl) ?_
    refine lv_sipush (v := 2048) hx hb d_Re_takesRecord_16 (by decide) ?_
    refine lv_irem hx hb d_Re_takesRecord_19 (by decide) ?_
    refine lv_topi (fun v13 e14 => ?_)
    have id15 : 0 ≤ a9.toInt → v13.toInt = a9.toInt % 2048 := fun h9 => by rw [e14]; exact i_mod (d := 2048) (by decide) h9
    refine lv_iload_n hx hb d_Re_takesRecord_20 rfl (lv_at hl 0 rfl) ?_
    refine lv_iadd hx hb d_Re_takesRecord_21 ?_
    refine lv_sipush (v := 2048) hx hb d_Re_takesRecord_22 (by decide) ?_
    refine lv_icmp_le (tgt := 30) hx hb d_Re_takesRecord_25 (by decide) (fun hc16 => ?_) (fun hc16 => ?_)
    · skip
      have ic17 : (v13 + r4).toInt ≤ 2048 := iLe hc16
      refine lv_aload_n hx hb d_Re_takesRecord_30 rfl (lv_at hl 1 rfl) ?_
      refine hm_get (ci := 5) (v := .ref md) (C := R_Re) (T := F_Re) (N := 5) hx hb hts ig_Re hown hK hH F_r9 rfl 2 (by decide) (hts _ mw_329) (fun _ h9 => h9) rfl d_Re_takesRecord_31 ?_
      refine lv_iload_n hx hb d_Re_takesRecord_34 rfl (lv_at hl 2 rfl) ?_
      refine lv_bipush (v := 25) hx hb d_Re_takesRecord_35 (by decide) ?_
      refine lv_iadd hx hb d_Re_takesRecord_37 ?_
      refine hm_callPi (va_runV (As := [.int (a9 + 25)]) (b := md) (rest := []) ⟨hx, hb, hml, hown, hts⟩ (t_fetch l D t G ak av h τ n md (a9 + 25) hn hT T_md) ⟨cw9B 1 hts mw_31 mw_330 mw_32 rfl rfl (by decide +kernel) ⟨Nat.le_of_ble_eq_true rfl, Nat.le_of_ble_eq_true rfl⟩, hts _ mw_34, hts _ mw_35⟩ (hP_V (q := (R_Me, F_Me, 2)) kE_ok hE hK hH F_md rfl) rfl rfl hl.1 rfl (lv_room (Nat.le_of_ble_eq_true rfl)) d_Re_takesRecord_38 ⟨Nat.le_of_ble_eq_true rfl, Nat.le_of_ble_eq_true rfl⟩) (fun r18 h19 H20 hp22  hH z21 => ?_)
      have hz : s.heap.size ≤ H20.size := Nat.le_trans hz z21
      obtain ⟨xp23, rfl⟩ := hp22
      refine lv_istore (lv' := [(4, .int r18), (3, .int r4), (0, .ref r9), (1, .int a9), (2, .ref e9)]) hx hb d_Re_takesRecord_41 hl (by decide) rfl (fun ls hl => ?_)
      refine lv_iload_n hx hb d_Re_takesRecord_43 rfl (lv_at hl 1 rfl) ?_
      refine lv_bipush (v := 33) hx hb d_Re_takesRecord_44 (by decide) ?_
      refine lv_aload_n hx hb d_Re_takesRecord_46 rfl (lv_at hl 2 rfl) ?_
      refine hm_get (ci := 5) (v := .ref md) (C := R_Re) (T := F_Re) (N := 5) hx hb hts ig_Re hown hK hH F_r9 rfl 2 (by decide) (hts _ mw_329) (fun _ h9 => h9) rfl d_Re_takesRecord_47 ?_
      refine lv_iload_n hx hb d_Re_takesRecord_50 rfl (lv_at hl 3 rfl) ?_
      refine lv_bipush (v := 32) hx hb d_Re_takesRecord_51 (by decide) ?_
      refine lv_iadd hx hb d_Re_takesRecord_53 ?_
      refine hm_callPi (va_runV (As := [.int (a9 + 32)]) (b := md) (rest := [.int 33, .int r4]) ⟨hx, hb, hml, hown, hts⟩ (t_fetch l D t G ak av h τ n md (a9 + 32) hn hT T_md) ⟨cw9B 1 hts mw_31 mw_330 mw_32 rfl rfl (by decide +kernel) ⟨Nat.le_of_ble_eq_true rfl, Nat.le_of_ble_eq_true rfl⟩, hts _ mw_34, hts _ mw_35⟩ (hP_V (q := (R_Me, F_Me, 2)) kE_ok hE hK hH F_md rfl) rfl rfl hl.1 rfl (lv_room (Nat.le_of_ble_eq_true rfl)) d_Re_takesRecord_54 ⟨Nat.le_of_ble_eq_true rfl, Nat.le_of_ble_eq_true rfl⟩) (fun r24 h25 H26 hp28  hH z27 => ?_)
      have hz : s.heap.size ≤ H26.size := Nat.le_trans hz z27
      obtain ⟨xp29, rfl⟩ := hp28
      refine lv_iadd hx hb d_Re_takesRecord_57 ?_
      refine hm_callPi (va_runSN (As := [.int (33 + r24)]) (rest := [.int r4]) ⟨hx, hb, hml, hown, hts⟩ (t_evened l D t G ak av h τ n (33 + r24) hn hT ) ⟨cw9N 1 hts mw_173 (nmU hE nM_8) mw_25 rfl rfl (by decide +kernel) ⟨Nat.le_of_ble_eq_true rfl, Nat.le_of_ble_eq_true rfl⟩, hts _ mw_174, trivial⟩ (hP_S kE_ok hE hH) rfl rfl hl.1 rfl (lv_room (Nat.le_of_ble_eq_true rfl)) d_Re_takesRecord_58 ⟨Nat.le_of_ble_eq_true rfl, Nat.le_of_ble_eq_true rfl⟩) (fun r30 h31 H32 hp34  hH z33 => ?_)
      have hz : s.heap.size ≤ H32.size := Nat.le_trans hz z33
      obtain rfl := hp34
      refine lv_icmp_ne (tgt := 75) hx hb d_Re_takesRecord_61 (by decide) (fun hc36 => ?_) (fun hc36 => ?_)
      · skip
        refine lv_iconst (v := 0) hx hb d_Re_takesRecord_75 (by decide) ?_
        exact W.zret (v := 0) hx hb hr (by decide) (fun t9 ht hW => ⟨0, h, rfl, ⟨zb0, hT, hkf, hnp_f, (fun z => absurd z (by decide))⟩, by rw [ht]; exact hH, by rw [ht]; exact hz⟩) hLo d_Re_takesRecord_76
      · skip
        have ic37 : r4.toInt = r30.toInt := congrArg Int32.toInt hc36
        refine lv_iload hx hb d_Re_takesRecord_64 (lv_at hl 0 rfl) ?_
        refine lv_if_eq (tgt := 77) hx hb d_Re_takesRecord_66 (by decide) (fun hc38 => ?_) (fun hc38 => ?_)
        · skip
          have ic39 : r18.toInt = 0 := congrArg Int32.toInt hc38
          refine lv_aload_n hx hb d_Re_takesRecord_77 rfl (lv_at hl 2 rfl) ?_
          refine hm_get (ci := 5) (v := .ref md) (C := R_Re) (T := F_Re) (N := 5) hx hb hts ig_Re hown hK hH F_r9 rfl 2 (by decide) (hts _ mw_329) (fun _ h9 => h9) rfl d_Re_takesRecord_78 ?_
          refine lv_iload_n hx hb d_Re_takesRecord_81 rfl (lv_at hl 3 rfl) ?_
          refine lv_iconst (v := 2) hx hb d_Re_takesRecord_82 (by decide) ?_
          refine lv_iadd hx hb d_Re_takesRecord_83 ?_
          refine lv_iconst (v := 4) hx hb d_Re_takesRecord_84 (by decide) ?_
          refine hm_callPi (va_runV (As := [.int (a9 + 2), .int 4]) (b := md) (rest := []) ⟨hx, hb, hml, hown, hts⟩ (t_halves l D t G ak av h τ n md (a9 + 2) 4 hn hT T_md) ⟨cw9B 2 hts mw_355 mw_356 mw_32 rfl rfl (by decide +kernel) ⟨Nat.le_of_ble_eq_true rfl, Nat.le_of_ble_eq_true rfl⟩, hts _ mw_357, hts _ mw_358⟩ (hP_V (q := (R_Me, F_Me, 2)) kE_ok hE hK hH F_md rfl) rfl rfl hl.1 rfl (lv_room (Nat.le_of_ble_eq_true rfl)) d_Re_takesRecord_85 ⟨Nat.le_of_ble_eq_true rfl, Nat.le_of_ble_eq_true rfl⟩) (fun r40 h41 H42 hp44  hH z43 => ?_)
          have hz : s.heap.size ≤ H42.size := Nat.le_trans hz z43
          obtain ⟨c45, rfl⟩ := hp44
          refine lv_if_eq (tgt := 106) hx hb d_Re_takesRecord_88 (by decide) (fun hc47 => ?_) (fun hc47 => ?_)
          · skip
            have ic48 : r40.toInt = 0 := congrArg Int32.toInt hc47
            refine lv_iconst (v := 0) hx hb d_Re_takesRecord_106 (by decide) ?_
            exact W.zret (v := 0) hx hb hr (by decide) (fun t9 ht hW => ⟨0, h, rfl, ⟨zb0, hT, hkf, hnp_f, (fun z => absurd z (by decide))⟩, by rw [ht]; exact hH, by rw [ht]; exact hz⟩) hLo d_Re_takesRecord_107
          · skip
            refine lv_aload_n hx hb d_Re_takesRecord_91 rfl (lv_at hl 2 rfl) ?_
            refine hm_get (ci := 5) (v := .ref md) (C := R_Re) (T := F_Re) (N := 5) hx hb hts ig_Re hown hK hH F_r9 rfl 2 (by decide) (hts _ mw_329) (fun _ h9 => h9) rfl d_Re_takesRecord_92 ?_
            refine lv_iload_n hx hb d_Re_takesRecord_95 rfl (lv_at hl 3 rfl) ?_
            refine lv_bipush (v := 10) hx hb d_Re_takesRecord_96 (by decide) ?_
            refine lv_iadd hx hb d_Re_takesRecord_98 ?_
            refine lv_iconst (v := 4) hx hb d_Re_takesRecord_99 (by decide) ?_
            refine hm_callPi (va_runV (As := [.int (a9 + 10), .int 4]) (b := md) (rest := []) ⟨hx, hb, hml, hown, hts⟩ (t_halves l D t G ak av h τ n md (a9 + 10) 4 hn hT T_md) ⟨cw9B 2 hts mw_355 mw_356 mw_32 rfl rfl (by decide +kernel) ⟨Nat.le_of_ble_eq_true rfl, Nat.le_of_ble_eq_true rfl⟩, hts _ mw_357, hts _ mw_358⟩ (hP_V (q := (R_Me, F_Me, 2)) kE_ok hE hK hH F_md rfl) rfl rfl hl.1 rfl (lv_room (Nat.le_of_ble_eq_true rfl)) d_Re_takesRecord_100 ⟨Nat.le_of_ble_eq_true rfl, Nat.le_of_ble_eq_true rfl⟩) (fun r49 h50 H51 hp53  hH z52 => ?_)
            have hz : s.heap.size ≤ H51.size := Nat.le_trans hz z52
            obtain ⟨c54, rfl⟩ := hp53
            refine lv_if_ne (tgt := 108) hx hb d_Re_takesRecord_103 (by decide) (fun hc56 => ?_) (fun hc56 => ?_)
            · skip
              refine lv_aload_n hx hb d_Re_takesRecord_108 rfl (lv_at hl 2 rfl) ?_
              refine hm_get (ci := 5) (v := .ref md) (C := R_Re) (T := F_Re) (N := 5) hx hb hts ig_Re hown hK hH F_r9 rfl 2 (by decide) (hts _ mw_329) (fun _ h9 => h9) rfl d_Re_takesRecord_109 ?_
              refine lv_iload_n hx hb d_Re_takesRecord_112 rfl (lv_at hl 3 rfl) ?_
              refine lv_bipush (v := 28) hx hb d_Re_takesRecord_113 (by decide) ?_
              refine lv_iadd hx hb d_Re_takesRecord_115 ?_
              refine lv_iconst (v := 2) hx hb d_Re_takesRecord_116 (by decide) ?_
              refine hm_callPi (va_runV (As := [.int (a9 + 28), .int 2]) (b := md) (rest := []) ⟨hx, hb, hml, hown, hts⟩ (t_halves l D t G ak av h τ n md (a9 + 28) 2 hn hT T_md) ⟨cw9B 2 hts mw_355 mw_356 mw_32 rfl rfl (by decide +kernel) ⟨Nat.le_of_ble_eq_true rfl, Nat.le_of_ble_eq_true rfl⟩, hts _ mw_357, hts _ mw_358⟩ (hP_V (q := (R_Me, F_Me, 2)) kE_ok hE hK hH F_md rfl) rfl rfl hl.1 rfl (lv_room (Nat.le_of_ble_eq_true rfl)) d_Re_takesRecord_117 ⟨Nat.le_of_ble_eq_true rfl, Nat.le_of_ble_eq_true rfl⟩) (fun r57 h58 H59 hp61  hH z60 => ?_)
              have hz : s.heap.size ≤ H59.size := Nat.le_trans hz z60
              obtain ⟨c62, rfl⟩ := hp61
              refine lv_if_ne (tgt := 125) hx hb d_Re_takesRecord_120 (by decide) (fun hc64 => ?_) (fun hc64 => ?_)
              · skip
                refine hm_cut (α := Int32) (fun z8 ls H locs HH => (lv_has ls 5 [(0, .ref r9), (1, .int a9), (2, .ref e9), (3, .int r4), (4, .int r18)]) ∧ (hm D vwCl G HH H) ∧ (s.heap.size ≤ H.size) ∧ (hLc G.P locs) ∧ (TI τ t n HH) ∧ (kf τ [] [e9] h HH) ∧ (knp τ f h HH) ∧ (zb z8) ∧ (HH r9 = some (.inr (5, [.ref tb, .ref td, .ref md, .ref nd, .int wp])))) 137 (fun z8 => [.int z8, .ref e9]) ?_ (fun J137 => ?_)
                · skip
                  rintro z8 ls H locs HH ⟨hl, hH, hz, hLo, hT, hkf, hnp_f, P_z8, F_r9⟩
                  obtain ⟨v65, v66, v68, v70, v71, v73, v74, v75, v77, v78, v79, F_e9, c67, c69, c72, c76⟩ := TI_node hT T_e9
                  refine hm_put (ci := 1) (v := .int z8) (ty := .boolean) (C := R_No) (T := F_No) (N := 11) hx hb hts ig_No t_No tk_No nm_No hown hK hH hLo F_e9 rfl 2 (by decide) (hts _ mw_345) (fun _ h9 => h9) rfl (by decide +kernel) (zb_n P_z8) (zb_f P_z8) (Nat.le_of_ble_eq_true rfl) d_Re_takesRecord_137 (fun H80 locs hH z81 hLo => ?_)
                  have hz : s.heap.size ≤ H80.size := by rw [z81]; exact hz
                  obtain ⟨h82, e83⟩ : ∃ z, z = hu HH e9 (.inr (1, [.int v65, va_rf v66, .int z8, .long v70, .int v71, .int v73, .int v74, .int v75, .int v77, .int v78, .int v79])) := ⟨_, rfl⟩
                  have hH : hm D vwCl G h82 H80 := by rw [e83]; exact hH
                  have F_r9 : h82 r9 = some (.inr (5, [.ref tb, .ref td, .ref md, .ref nd, .int wp])) := by rw [e83, hu_n (tne T_r9 T_e9 (by decide))]; exact F_r9
                  have hOld := F_e9
                  have F_e9 : h82 e9 = some (.inr (1, [.int v65, va_rf v66, .int z8, .long v70, .int v71, .int v73, .int v74, .int v75, .int v77, .int v78, .int v79])) := by rw [e83]; exact hu_s _ _ _
                  have hT : TI τ t n h82 := by rw [e83]; exact TI_put hT T_e9 (by decide) ⟨v65, v66, z8, v70, v71, v73, v74, v75, v77, v78, v79, rfl, c67, P_z8, c72, c76⟩
                  have hkf : kf τ [] [e9] h h82 := by rw [e83]; exact kf_putM hkf (by simp)
                  have hnp_f : knp τ f h h82 := by rw [e83]; exact knp_put hnp_f hOld
                  refine lv_aload_n hx hb d_Re_takesRecord_140 rfl (lv_at hl 2 rfl) ?_
                  refine lv_aload_n hx hb d_Re_takesRecord_141 rfl (lv_at hl 0 rfl) ?_
                  refine hm_get (ci := 5) (v := .ref md) (C := R_Re) (T := F_Re) (N := 5) hx hb hts ig_Re hown hK hH F_r9 rfl 2 (by decide) (hts _ mw_329) (fun _ h9 => h9) rfl d_Re_takesRecord_142 ?_
                  refine lv_iload_n hx hb d_Re_takesRecord_145 rfl (lv_at hl 1 rfl) ?_
                  refine lv_iconst (v := 2) hx hb d_Re_takesRecord_146 (by decide) ?_
                  refine lv_iadd hx hb d_Re_takesRecord_147 ?_
                  refine lv_iconst (v := 4) hx hb d_Re_takesRecord_148 (by decide) ?_
                  obtain ⟨v84, v86, F_md, c85⟩ := TI_med hT T_md
                  refine hm_callPi (va_runV (As := [.int (a9 + 2), .int 4]) (b := md) (rest := [.ref e9]) ⟨hx, hb, hml, hown, hts⟩ (t_low l D t G ak av h82 τ n md (a9 + 2) 4 hn hT T_md) ⟨cw9B 2 hts mw_44 mw_359 mw_32 rfl rfl (by decide +kernel) ⟨Nat.le_of_ble_eq_true rfl, Nat.le_of_ble_eq_true rfl⟩, hts _ mw_46, hts _ mw_47⟩ (hP_V (q := (R_Me, F_Me, 2)) kE_ok hE hK hH F_md rfl) rfl rfl hl.1 rfl (lv_room (Nat.le_of_ble_eq_true rfl)) d_Re_takesRecord_149 ⟨Nat.le_of_ble_eq_true rfl, Nat.le_of_ble_eq_true rfl⟩) (fun r87 h88 H89 hp91  hH z90 => ?_)
                  have hz : s.heap.size ≤ H89.size := Nat.le_trans hz z90
                  obtain rfl := hp91
                  refine hm_put (ci := 1) (v := .int r87) (ty := .int) (C := R_No) (T := F_No) (N := 11) hx hb hts ig_No t_No tk_No nm_No hown hK hH hLo F_e9 rfl 9 (by decide) (hts _ mw_353) (fun _ h9 => h9) rfl (by decide +kernel) rfl rfl (Nat.le_of_ble_eq_true rfl) d_Re_takesRecord_152 (fun H93 locs hH z94 hLo => ?_)
                  have hz : s.heap.size ≤ H93.size := by rw [z94]; exact hz
                  obtain ⟨h95, e96⟩ : ∃ z, z = hu h82 e9 (.inr (1, [.int v65, va_rf v66, .int z8, .long v70, .int v71, .int v73, .int v74, .int v75, .int v77, .int r87, .int v79])) := ⟨_, rfl⟩
                  have hH : hm D vwCl G h95 H93 := by rw [e96]; exact hH
                  have F_r9 : h95 r9 = some (.inr (5, [.ref tb, .ref td, .ref md, .ref nd, .int wp])) := by rw [e96, hu_n (tne T_r9 T_e9 (by decide))]; exact F_r9
                  have F_md : h95 md = some (.inr (0, [.ref v84, .int v86])) := by rw [e96, hu_n (tne T_md T_e9 (by decide))]; exact F_md
                  have hOld := F_e9
                  have F_e9 : h95 e9 = some (.inr (1, [.int v65, va_rf v66, .int z8, .long v70, .int v71, .int v73, .int v74, .int v75, .int v77, .int r87, .int v79])) := by rw [e96]; exact hu_s _ _ _
                  have hT : TI τ t n h95 := by rw [e96]; exact TI_put hT T_e9 (by decide) ⟨v65, v66, z8, v70, v71, v73, v74, v75, v77, r87, v79, rfl, c67, P_z8, c72, c76⟩
                  have hkf : kf τ [] [e9] h h95 := by rw [e96]; exact kf_putM hkf (by simp)
                  have hnp_f : knp τ f h h95 := by rw [e96]; exact knp_put hnp_f hOld
                  refine lv_aload_n hx hb d_Re_takesRecord_155 rfl (lv_at hl 2 rfl) ?_
                  refine lv_aload_n hx hb d_Re_takesRecord_156 rfl (lv_at hl 0 rfl) ?_
                  refine hm_get (ci := 5) (v := .ref md) (C := R_Re) (T := F_Re) (N := 5) hx hb hts ig_Re hown hK hH F_r9 rfl 2 (by decide) (hts _ mw_329) (fun _ h9 => h9) rfl d_Re_takesRecord_157 ?_
                  refine lv_iload_n hx hb d_Re_takesRecord_160 rfl (lv_at hl 1 rfl) ?_
                  refine lv_bipush (v := 10) hx hb d_Re_takesRecord_161 (by decide) ?_
                  refine lv_iadd hx hb d_Re_takesRecord_163 ?_
                  refine lv_iconst (v := 4) hx hb d_Re_takesRecord_164 (by decide) ?_
                  refine hm_callPi (va_runV (As := [.int (a9 + 10), .int 4]) (b := md) (rest := [.ref e9]) ⟨hx, hb, hml, hown, hts⟩ (t_low l D t G ak av h95 τ n md (a9 + 10) 4 hn hT T_md) ⟨cw9B 2 hts mw_44 mw_359 mw_32 rfl rfl (by decide +kernel) ⟨Nat.le_of_ble_eq_true rfl, Nat.le_of_ble_eq_true rfl⟩, hts _ mw_46, hts _ mw_47⟩ (hP_V (q := (R_Me, F_Me, 2)) kE_ok hE hK hH F_md rfl) rfl rfl hl.1 rfl (lv_room (Nat.le_of_ble_eq_true rfl)) d_Re_takesRecord_165 ⟨Nat.le_of_ble_eq_true rfl, Nat.le_of_ble_eq_true rfl⟩) (fun r97 h98 H99 hp101  hH z100 => ?_)
                  have hz : s.heap.size ≤ H99.size := Nat.le_trans hz z100
                  obtain rfl := hp101
                  refine hm_put (ci := 1) (v := .int r97) (ty := .int) (C := R_No) (T := F_No) (N := 11) hx hb hts ig_No t_No tk_No nm_No hown hK hH hLo F_e9 rfl 5 (by decide) (hts _ mw_352) (fun _ h9 => h9) rfl (by decide +kernel) rfl rfl (Nat.le_of_ble_eq_true rfl) d_Re_takesRecord_168 (fun H103 locs hH z104 hLo => ?_)
                  have hz : s.heap.size ≤ H103.size := by rw [z104]; exact hz
                  obtain ⟨h105, e106⟩ : ∃ z, z = hu h95 e9 (.inr (1, [.int v65, va_rf v66, .int z8, .long v70, .int v71, .int r97, .int v74, .int v75, .int v77, .int r87, .int v79])) := ⟨_, rfl⟩
                  have hH : hm D vwCl G h105 H103 := by rw [e106]; exact hH
                  have F_r9 : h105 r9 = some (.inr (5, [.ref tb, .ref td, .ref md, .ref nd, .int wp])) := by rw [e106, hu_n (tne T_r9 T_e9 (by decide))]; exact F_r9
                  have F_md : h105 md = some (.inr (0, [.ref v84, .int v86])) := by rw [e106, hu_n (tne T_md T_e9 (by decide))]; exact F_md
                  have hOld := F_e9
                  have F_e9 : h105 e9 = some (.inr (1, [.int v65, va_rf v66, .int z8, .long v70, .int v71, .int r97, .int v74, .int v75, .int v77, .int r87, .int v79])) := by rw [e106]; exact hu_s _ _ _
                  have hT : TI τ t n h105 := by rw [e106]; exact TI_put hT T_e9 (by decide) ⟨v65, v66, z8, v70, v71, r97, v74, v75, v77, r87, v79, rfl, c67, P_z8, c72, c76⟩
                  have hkf : kf τ [] [e9] h h105 := by rw [e106]; exact kf_putM hkf (by simp)
                  have hnp_f : knp τ f h h105 := by rw [e106]; exact knp_put hnp_f hOld
                  refine lv_aload_n hx hb d_Re_takesRecord_171 rfl (lv_at hl 0 rfl) ?_
                  refine lv_aload_n hx hb d_Re_takesRecord_172 rfl (lv_at hl 2 rfl) ?_
                  refine hm_callPi (va_runV (As := [.ref e9]) (b := r9) (rest := []) ⟨hx, hb, hml, hown, hts⟩ (t_hasSectors l D t G ak av h105 τ n f r9 e9 hn hT T_r9 T_e9 tb td md nd wp F_r9) ⟨cw9B 1 hts mw_360 mw_361 mw_332 rfl rfl (by decide +kernel) ⟨Nat.le_of_ble_eq_true rfl, Nat.le_of_ble_eq_true rfl⟩, hts _ mw_362, hts _ mw_363⟩ (hP_V (q := (R_Re, F_Re, 5)) kE_ok hE hK hH F_r9 rfl) rfl rfl hl.1 rfl (lv_room (Nat.le_of_ble_eq_true rfl)) d_Re_takesRecord_173 ⟨Nat.le_of_ble_eq_true rfl, Nat.le_of_ble_eq_true rfl⟩) (fun r107 h108 H109 hp111  hH z110 => ?_)
                  have hz : s.heap.size ≤ H109.size := Nat.le_trans hz z110
                  obtain ⟨c112, xp113, rfl⟩ := hp111
                  exact W.zret (v := r107) hx hb hr (zb_n c112) (fun t9 ht hW => ⟨r107, h105, rfl, ⟨c112, hT, hkf, hnp_f, (fun z => xp113 z)⟩, by rw [ht]; exact hH, by rw [ht]; exact hz⟩) hLo d_Re_takesRecord_176
                · skip
                  refine lv_aload_n hx hb d_Re_takesRecord_125 rfl (lv_at hl 4 rfl) ?_
                  refine lv_iload hx hb d_Re_takesRecord_126 (lv_at hl 0 rfl) ?_
                  refine lv_iconst (v := 2) hx hb d_Re_takesRecord_128 (by decide) ?_
                  refine lv_icmp_ne (tgt := 136) hx hb d_Re_takesRecord_129 (by decide) (fun hc114 => ?_) (fun hc114 => ?_)
                  · skip
                    refine lv_iconst (v := 0) hx hb d_Re_takesRecord_136 (by decide) ?_
                    exact J137 0 _ _ _ _ ⟨(lv_sub hl [2, 3, 4, 1, 0] rfl), hH, hz, hLo, hT, hkf, hnp_f, zb0, F_r9⟩
                  · skip
                    have ic115 : r18.toInt = 2 := congrArg Int32.toInt hc114
                    refine lv_iconst (v := 1) hx hb d_Re_takesRecord_132 (by decide) ?_
                    refine lv_goto (tgt := 137) hx hb d_Re_takesRecord_133 (by decide) ?_
                    exact J137 1 _ _ _ _ ⟨(lv_sub hl [2, 3, 4, 1, 0] rfl), hH, hz, hLo, hT, hkf, hnp_f, zb1, F_r9⟩
              · skip
                have ic116 : r57.toInt = 0 := congrArg Int32.toInt hc64
                refine lv_iconst (v := 0) hx hb d_Re_takesRecord_123 (by decide) ?_
                exact W.zret (v := 0) hx hb hr (by decide) (fun t9 ht hW => ⟨0, h, rfl, ⟨zb0, hT, hkf, hnp_f, (fun z => absurd z (by decide))⟩, by rw [ht]; exact hH, by rw [ht]; exact hz⟩) hLo d_Re_takesRecord_124
            · skip
              have ic117 : r49.toInt = 0 := congrArg Int32.toInt hc56
              refine lv_iconst (v := 0) hx hb d_Re_takesRecord_106 (by decide) ?_
              exact W.zret (v := 0) hx hb hr (by decide) (fun t9 ht hW => ⟨0, h, rfl, ⟨zb0, hT, hkf, hnp_f, (fun z => absurd z (by decide))⟩, by rw [ht]; exact hH, by rw [ht]; exact hz⟩) hLo d_Re_takesRecord_107
        · skip
          refine lv_iload hx hb d_Re_takesRecord_69 (lv_at hl 0 rfl) ?_
          refine lv_iconst (v := 2) hx hb d_Re_takesRecord_71 (by decide) ?_
          refine lv_icmp_eq (tgt := 77) hx hb d_Re_takesRecord_72 (by decide) (fun hc118 => ?_) (fun hc118 => ?_)
          · skip
            have ic119 : r18.toInt = 2 := congrArg Int32.toInt hc118
            refine lv_aload_n hx hb d_Re_takesRecord_77 rfl (lv_at hl 2 rfl) ?_
            refine hm_get (ci := 5) (v := .ref md) (C := R_Re) (T := F_Re) (N := 5) hx hb hts ig_Re hown hK hH F_r9 rfl 2 (by decide) (hts _ mw_329) (fun _ h9 => h9) rfl d_Re_takesRecord_78 ?_
            refine lv_iload_n hx hb d_Re_takesRecord_81 rfl (lv_at hl 3 rfl) ?_
            refine lv_iconst (v := 2) hx hb d_Re_takesRecord_82 (by decide) ?_
            refine lv_iadd hx hb d_Re_takesRecord_83 ?_
            refine lv_iconst (v := 4) hx hb d_Re_takesRecord_84 (by decide) ?_
            refine hm_callPi (va_runV (As := [.int (a9 + 2), .int 4]) (b := md) (rest := []) ⟨hx, hb, hml, hown, hts⟩ (t_halves l D t G ak av h τ n md (a9 + 2) 4 hn hT T_md) ⟨cw9B 2 hts mw_355 mw_356 mw_32 rfl rfl (by decide +kernel) ⟨Nat.le_of_ble_eq_true rfl, Nat.le_of_ble_eq_true rfl⟩, hts _ mw_357, hts _ mw_358⟩ (hP_V (q := (R_Me, F_Me, 2)) kE_ok hE hK hH F_md rfl) rfl rfl hl.1 rfl (lv_room (Nat.le_of_ble_eq_true rfl)) d_Re_takesRecord_85 ⟨Nat.le_of_ble_eq_true rfl, Nat.le_of_ble_eq_true rfl⟩) (fun r120 h121 H122 hp124  hH z123 => ?_)
            have hz : s.heap.size ≤ H122.size := Nat.le_trans hz z123
            obtain ⟨c125, rfl⟩ := hp124
            refine lv_if_eq (tgt := 106) hx hb d_Re_takesRecord_88 (by decide) (fun hc127 => ?_) (fun hc127 => ?_)
            · skip
              have ic128 : r120.toInt = 0 := congrArg Int32.toInt hc127
              refine lv_iconst (v := 0) hx hb d_Re_takesRecord_106 (by decide) ?_
              exact W.zret (v := 0) hx hb hr (by decide) (fun t9 ht hW => ⟨0, h, rfl, ⟨zb0, hT, hkf, hnp_f, (fun z => absurd z (by decide))⟩, by rw [ht]; exact hH, by rw [ht]; exact hz⟩) hLo d_Re_takesRecord_107
            · skip
              refine lv_aload_n hx hb d_Re_takesRecord_91 rfl (lv_at hl 2 rfl) ?_
              refine hm_get (ci := 5) (v := .ref md) (C := R_Re) (T := F_Re) (N := 5) hx hb hts ig_Re hown hK hH F_r9 rfl 2 (by decide) (hts _ mw_329) (fun _ h9 => h9) rfl d_Re_takesRecord_92 ?_
              refine lv_iload_n hx hb d_Re_takesRecord_95 rfl (lv_at hl 3 rfl) ?_
              refine lv_bipush (v := 10) hx hb d_Re_takesRecord_96 (by decide) ?_
              refine lv_iadd hx hb d_Re_takesRecord_98 ?_
              refine lv_iconst (v := 4) hx hb d_Re_takesRecord_99 (by decide) ?_
              refine hm_callPi (va_runV (As := [.int (a9 + 10), .int 4]) (b := md) (rest := []) ⟨hx, hb, hml, hown, hts⟩ (t_halves l D t G ak av h τ n md (a9 + 10) 4 hn hT T_md) ⟨cw9B 2 hts mw_355 mw_356 mw_32 rfl rfl (by decide +kernel) ⟨Nat.le_of_ble_eq_true rfl, Nat.le_of_ble_eq_true rfl⟩, hts _ mw_357, hts _ mw_358⟩ (hP_V (q := (R_Me, F_Me, 2)) kE_ok hE hK hH F_md rfl) rfl rfl hl.1 rfl (lv_room (Nat.le_of_ble_eq_true rfl)) d_Re_takesRecord_100 ⟨Nat.le_of_ble_eq_true rfl, Nat.le_of_ble_eq_true rfl⟩) (fun r129 h130 H131 hp133  hH z132 => ?_)
              have hz : s.heap.size ≤ H131.size := Nat.le_trans hz z132
              obtain ⟨c134, rfl⟩ := hp133
              refine lv_if_ne (tgt := 108) hx hb d_Re_takesRecord_103 (by decide) (fun hc136 => ?_) (fun hc136 => ?_)
              · skip
                refine lv_aload_n hx hb d_Re_takesRecord_108 rfl (lv_at hl 2 rfl) ?_
                refine hm_get (ci := 5) (v := .ref md) (C := R_Re) (T := F_Re) (N := 5) hx hb hts ig_Re hown hK hH F_r9 rfl 2 (by decide) (hts _ mw_329) (fun _ h9 => h9) rfl d_Re_takesRecord_109 ?_
                refine lv_iload_n hx hb d_Re_takesRecord_112 rfl (lv_at hl 3 rfl) ?_
                refine lv_bipush (v := 28) hx hb d_Re_takesRecord_113 (by decide) ?_
                refine lv_iadd hx hb d_Re_takesRecord_115 ?_
                refine lv_iconst (v := 2) hx hb d_Re_takesRecord_116 (by decide) ?_
                refine hm_callPi (va_runV (As := [.int (a9 + 28), .int 2]) (b := md) (rest := []) ⟨hx, hb, hml, hown, hts⟩ (t_halves l D t G ak av h τ n md (a9 + 28) 2 hn hT T_md) ⟨cw9B 2 hts mw_355 mw_356 mw_32 rfl rfl (by decide +kernel) ⟨Nat.le_of_ble_eq_true rfl, Nat.le_of_ble_eq_true rfl⟩, hts _ mw_357, hts _ mw_358⟩ (hP_V (q := (R_Me, F_Me, 2)) kE_ok hE hK hH F_md rfl) rfl rfl hl.1 rfl (lv_room (Nat.le_of_ble_eq_true rfl)) d_Re_takesRecord_117 ⟨Nat.le_of_ble_eq_true rfl, Nat.le_of_ble_eq_true rfl⟩) (fun r137 h138 H139 hp141  hH z140 => ?_)
                have hz : s.heap.size ≤ H139.size := Nat.le_trans hz z140
                obtain ⟨c142, rfl⟩ := hp141
                refine lv_if_ne (tgt := 125) hx hb d_Re_takesRecord_120 (by decide) (fun hc144 => ?_) (fun hc144 => ?_)
                · skip
                  refine hm_cut (α := Int32) (fun z8 ls H locs HH => (lv_has ls 5 [(0, .ref r9), (1, .int a9), (2, .ref e9), (3, .int r4), (4, .int r18)]) ∧ (hm D vwCl G HH H) ∧ (s.heap.size ≤ H.size) ∧ (hLc G.P locs) ∧ (TI τ t n HH) ∧ (kf τ [] [e9] h HH) ∧ (knp τ f h HH) ∧ (zb z8) ∧ (HH r9 = some (.inr (5, [.ref tb, .ref td, .ref md, .ref nd, .int wp])))) 137 (fun z8 => [.int z8, .ref e9]) ?_ (fun J137 => ?_)
                  · skip
                    rintro z8 ls H locs HH ⟨hl, hH, hz, hLo, hT, hkf, hnp_f, P_z8, F_r9⟩
                    obtain ⟨v145, v146, v148, v150, v151, v153, v154, v155, v157, v158, v159, F_e9, c147, c149, c152, c156⟩ := TI_node hT T_e9
                    refine hm_put (ci := 1) (v := .int z8) (ty := .boolean) (C := R_No) (T := F_No) (N := 11) hx hb hts ig_No t_No tk_No nm_No hown hK hH hLo F_e9 rfl 2 (by decide) (hts _ mw_345) (fun _ h9 => h9) rfl (by decide +kernel) (zb_n P_z8) (zb_f P_z8) (Nat.le_of_ble_eq_true rfl) d_Re_takesRecord_137 (fun H160 locs hH z161 hLo => ?_)
                    have hz : s.heap.size ≤ H160.size := by rw [z161]; exact hz
                    obtain ⟨h162, e163⟩ : ∃ z, z = hu HH e9 (.inr (1, [.int v145, va_rf v146, .int z8, .long v150, .int v151, .int v153, .int v154, .int v155, .int v157, .int v158, .int v159])) := ⟨_, rfl⟩
                    have hH : hm D vwCl G h162 H160 := by rw [e163]; exact hH
                    have F_r9 : h162 r9 = some (.inr (5, [.ref tb, .ref td, .ref md, .ref nd, .int wp])) := by rw [e163, hu_n (tne T_r9 T_e9 (by decide))]; exact F_r9
                    have hOld := F_e9
                    have F_e9 : h162 e9 = some (.inr (1, [.int v145, va_rf v146, .int z8, .long v150, .int v151, .int v153, .int v154, .int v155, .int v157, .int v158, .int v159])) := by rw [e163]; exact hu_s _ _ _
                    have hT : TI τ t n h162 := by rw [e163]; exact TI_put hT T_e9 (by decide) ⟨v145, v146, z8, v150, v151, v153, v154, v155, v157, v158, v159, rfl, c147, P_z8, c152, c156⟩
                    have hkf : kf τ [] [e9] h h162 := by rw [e163]; exact kf_putM hkf (by simp)
                    have hnp_f : knp τ f h h162 := by rw [e163]; exact knp_put hnp_f hOld
                    refine lv_aload_n hx hb d_Re_takesRecord_140 rfl (lv_at hl 2 rfl) ?_
                    refine lv_aload_n hx hb d_Re_takesRecord_141 rfl (lv_at hl 0 rfl) ?_
                    refine hm_get (ci := 5) (v := .ref md) (C := R_Re) (T := F_Re) (N := 5) hx hb hts ig_Re hown hK hH F_r9 rfl 2 (by decide) (hts _ mw_329) (fun _ h9 => h9) rfl d_Re_takesRecord_142 ?_
                    refine lv_iload_n hx hb d_Re_takesRecord_145 rfl (lv_at hl 1 rfl) ?_
                    refine lv_iconst (v := 2) hx hb d_Re_takesRecord_146 (by decide) ?_
                    refine lv_iadd hx hb d_Re_takesRecord_147 ?_
                    refine lv_iconst (v := 4) hx hb d_Re_takesRecord_148 (by decide) ?_
                    obtain ⟨v164, v166, F_md, c165⟩ := TI_med hT T_md
                    refine hm_callPi (va_runV (As := [.int (a9 + 2), .int 4]) (b := md) (rest := [.ref e9]) ⟨hx, hb, hml, hown, hts⟩ (t_low l D t G ak av h162 τ n md (a9 + 2) 4 hn hT T_md) ⟨cw9B 2 hts mw_44 mw_359 mw_32 rfl rfl (by decide +kernel) ⟨Nat.le_of_ble_eq_true rfl, Nat.le_of_ble_eq_true rfl⟩, hts _ mw_46, hts _ mw_47⟩ (hP_V (q := (R_Me, F_Me, 2)) kE_ok hE hK hH F_md rfl) rfl rfl hl.1 rfl (lv_room (Nat.le_of_ble_eq_true rfl)) d_Re_takesRecord_149 ⟨Nat.le_of_ble_eq_true rfl, Nat.le_of_ble_eq_true rfl⟩) (fun r167 h168 H169 hp171  hH z170 => ?_)
                    have hz : s.heap.size ≤ H169.size := Nat.le_trans hz z170
                    obtain rfl := hp171
                    refine hm_put (ci := 1) (v := .int r167) (ty := .int) (C := R_No) (T := F_No) (N := 11) hx hb hts ig_No t_No tk_No nm_No hown hK hH hLo F_e9 rfl 9 (by decide) (hts _ mw_353) (fun _ h9 => h9) rfl (by decide +kernel) rfl rfl (Nat.le_of_ble_eq_true rfl) d_Re_takesRecord_152 (fun H173 locs hH z174 hLo => ?_)
                    have hz : s.heap.size ≤ H173.size := by rw [z174]; exact hz
                    obtain ⟨h175, e176⟩ : ∃ z, z = hu h162 e9 (.inr (1, [.int v145, va_rf v146, .int z8, .long v150, .int v151, .int v153, .int v154, .int v155, .int v157, .int r167, .int v159])) := ⟨_, rfl⟩
                    have hH : hm D vwCl G h175 H173 := by rw [e176]; exact hH
                    have F_r9 : h175 r9 = some (.inr (5, [.ref tb, .ref td, .ref md, .ref nd, .int wp])) := by rw [e176, hu_n (tne T_r9 T_e9 (by decide))]; exact F_r9
                    have F_md : h175 md = some (.inr (0, [.ref v164, .int v166])) := by rw [e176, hu_n (tne T_md T_e9 (by decide))]; exact F_md
                    have hOld := F_e9
                    have F_e9 : h175 e9 = some (.inr (1, [.int v145, va_rf v146, .int z8, .long v150, .int v151, .int v153, .int v154, .int v155, .int v157, .int r167, .int v159])) := by rw [e176]; exact hu_s _ _ _
                    have hT : TI τ t n h175 := by rw [e176]; exact TI_put hT T_e9 (by decide) ⟨v145, v146, z8, v150, v151, v153, v154, v155, v157, r167, v159, rfl, c147, P_z8, c152, c156⟩
                    have hkf : kf τ [] [e9] h h175 := by rw [e176]; exact kf_putM hkf (by simp)
                    have hnp_f : knp τ f h h175 := by rw [e176]; exact knp_put hnp_f hOld
                    refine lv_aload_n hx hb d_Re_takesRecord_155 rfl (lv_at hl 2 rfl) ?_
                    refine lv_aload_n hx hb d_Re_takesRecord_156 rfl (lv_at hl 0 rfl) ?_
                    refine hm_get (ci := 5) (v := .ref md) (C := R_Re) (T := F_Re) (N := 5) hx hb hts ig_Re hown hK hH F_r9 rfl 2 (by decide) (hts _ mw_329) (fun _ h9 => h9) rfl d_Re_takesRecord_157 ?_
                    refine lv_iload_n hx hb d_Re_takesRecord_160 rfl (lv_at hl 1 rfl) ?_
                    refine lv_bipush (v := 10) hx hb d_Re_takesRecord_161 (by decide) ?_
                    refine lv_iadd hx hb d_Re_takesRecord_163 ?_
                    refine lv_iconst (v := 4) hx hb d_Re_takesRecord_164 (by decide) ?_
                    refine hm_callPi (va_runV (As := [.int (a9 + 10), .int 4]) (b := md) (rest := [.ref e9]) ⟨hx, hb, hml, hown, hts⟩ (t_low l D t G ak av h175 τ n md (a9 + 10) 4 hn hT T_md) ⟨cw9B 2 hts mw_44 mw_359 mw_32 rfl rfl (by decide +kernel) ⟨Nat.le_of_ble_eq_true rfl, Nat.le_of_ble_eq_true rfl⟩, hts _ mw_46, hts _ mw_47⟩ (hP_V (q := (R_Me, F_Me, 2)) kE_ok hE hK hH F_md rfl) rfl rfl hl.1 rfl (lv_room (Nat.le_of_ble_eq_true rfl)) d_Re_takesRecord_165 ⟨Nat.le_of_ble_eq_true rfl, Nat.le_of_ble_eq_true rfl⟩) (fun r177 h178 H179 hp181  hH z180 => ?_)
                    have hz : s.heap.size ≤ H179.size := Nat.le_trans hz z180
                    obtain rfl := hp181
                    refine hm_put (ci := 1) (v := .int r177) (ty := .int) (C := R_No) (T := F_No) (N := 11) hx hb hts ig_No t_No tk_No nm_No hown hK hH hLo F_e9 rfl 5 (by decide) (hts _ mw_352) (fun _ h9 => h9) rfl (by decide +kernel) rfl rfl (Nat.le_of_ble_eq_true rfl) d_Re_takesRecord_168 (fun H183 locs hH z184 hLo => ?_)
                    have hz : s.heap.size ≤ H183.size := by rw [z184]; exact hz
                    obtain ⟨h185, e186⟩ : ∃ z, z = hu h175 e9 (.inr (1, [.int v145, va_rf v146, .int z8, .long v150, .int v151, .int r177, .int v154, .int v155, .int v157, .int r167, .int v159])) := ⟨_, rfl⟩
                    have hH : hm D vwCl G h185 H183 := by rw [e186]; exact hH
                    have F_r9 : h185 r9 = some (.inr (5, [.ref tb, .ref td, .ref md, .ref nd, .int wp])) := by rw [e186, hu_n (tne T_r9 T_e9 (by decide))]; exact F_r9
                    have F_md : h185 md = some (.inr (0, [.ref v164, .int v166])) := by rw [e186, hu_n (tne T_md T_e9 (by decide))]; exact F_md
                    have hOld := F_e9
                    have F_e9 : h185 e9 = some (.inr (1, [.int v145, va_rf v146, .int z8, .long v150, .int v151, .int r177, .int v154, .int v155, .int v157, .int r167, .int v159])) := by rw [e186]; exact hu_s _ _ _
                    have hT : TI τ t n h185 := by rw [e186]; exact TI_put hT T_e9 (by decide) ⟨v145, v146, z8, v150, v151, r177, v154, v155, v157, r167, v159, rfl, c147, P_z8, c152, c156⟩
                    have hkf : kf τ [] [e9] h h185 := by rw [e186]; exact kf_putM hkf (by simp)
                    have hnp_f : knp τ f h h185 := by rw [e186]; exact knp_put hnp_f hOld
                    refine lv_aload_n hx hb d_Re_takesRecord_171 rfl (lv_at hl 0 rfl) ?_
                    refine lv_aload_n hx hb d_Re_takesRecord_172 rfl (lv_at hl 2 rfl) ?_
                    refine hm_callPi (va_runV (As := [.ref e9]) (b := r9) (rest := []) ⟨hx, hb, hml, hown, hts⟩ (t_hasSectors l D t G ak av h185 τ n f r9 e9 hn hT T_r9 T_e9 tb td md nd wp F_r9) ⟨cw9B 1 hts mw_360 mw_361 mw_332 rfl rfl (by decide +kernel) ⟨Nat.le_of_ble_eq_true rfl, Nat.le_of_ble_eq_true rfl⟩, hts _ mw_362, hts _ mw_363⟩ (hP_V (q := (R_Re, F_Re, 5)) kE_ok hE hK hH F_r9 rfl) rfl rfl hl.1 rfl (lv_room (Nat.le_of_ble_eq_true rfl)) d_Re_takesRecord_173 ⟨Nat.le_of_ble_eq_true rfl, Nat.le_of_ble_eq_true rfl⟩) (fun r187 h188 H189 hp191  hH z190 => ?_)
                    have hz : s.heap.size ≤ H189.size := Nat.le_trans hz z190
                    obtain ⟨c192, xp193, rfl⟩ := hp191
                    exact W.zret (v := r187) hx hb hr (zb_n c192) (fun t9 ht hW => ⟨r187, h185, rfl, ⟨c192, hT, hkf, hnp_f, (fun z => xp193 z)⟩, by rw [ht]; exact hH, by rw [ht]; exact hz⟩) hLo d_Re_takesRecord_176
                  · skip
                    refine lv_aload_n hx hb d_Re_takesRecord_125 rfl (lv_at hl 4 rfl) ?_
                    refine lv_iload hx hb d_Re_takesRecord_126 (lv_at hl 0 rfl) ?_
                    refine lv_iconst (v := 2) hx hb d_Re_takesRecord_128 (by decide) ?_
                    refine lv_icmp_ne (tgt := 136) hx hb d_Re_takesRecord_129 (by decide) (fun hc194 => ?_) (fun hc194 => ?_)
                    · skip
                      refine lv_iconst (v := 0) hx hb d_Re_takesRecord_136 (by decide) ?_
                      exact J137 0 _ _ _ _ ⟨(lv_sub hl [2, 3, 4, 1, 0] rfl), hH, hz, hLo, hT, hkf, hnp_f, zb0, F_r9⟩
                    · skip
                      have ic195 : r18.toInt = 2 := congrArg Int32.toInt hc194
                      refine lv_iconst (v := 1) hx hb d_Re_takesRecord_132 (by decide) ?_
                      refine lv_goto (tgt := 137) hx hb d_Re_takesRecord_133 (by decide) ?_
                      exact J137 1 _ _ _ _ ⟨(lv_sub hl [2, 3, 4, 1, 0] rfl), hH, hz, hLo, hT, hkf, hnp_f, zb1, F_r9⟩
                · skip
                  have ic196 : r137.toInt = 0 := congrArg Int32.toInt hc144
                  refine lv_iconst (v := 0) hx hb d_Re_takesRecord_123 (by decide) ?_
                  exact W.zret (v := 0) hx hb hr (by decide) (fun t9 ht hW => ⟨0, h, rfl, ⟨zb0, hT, hkf, hnp_f, (fun z => absurd z (by decide))⟩, by rw [ht]; exact hH, by rw [ht]; exact hz⟩) hLo d_Re_takesRecord_124
              · skip
                have ic197 : r129.toInt = 0 := congrArg Int32.toInt hc136
                refine lv_iconst (v := 0) hx hb d_Re_takesRecord_106 (by decide) ?_
                exact W.zret (v := 0) hx hb hr (by decide) (fun t9 ht hW => ⟨0, h, rfl, ⟨zb0, hT, hkf, hnp_f, (fun z => absurd z (by decide))⟩, by rw [ht]; exact hH, by rw [ht]; exact hz⟩) hLo d_Re_takesRecord_107
          · skip
            refine lv_iconst (v := 0) hx hb d_Re_takesRecord_75 (by decide) ?_
            exact W.zret (v := 0) hx hb hr (by decide) (fun t9 ht hW => ⟨0, h, rfl, ⟨zb0, hT, hkf, hnp_f, (fun z => absurd z (by decide))⟩, by rw [ht]; exact hH, by rw [ht]; exact hz⟩) hLo d_Re_takesRecord_76
    · skip
      have ic198 : 2048 < (v13 + r4).toInt := iNe hc16
      refine lv_iconst (v := 0) hx hb d_Re_takesRecord_28 (by decide) ?_
      exact W.zret (v := 0) hx hb hr (by decide) (fun t9 ht hW => ⟨0, h, rfl, ⟨zb0, hT, hkf, hnp_f, (fun z => absurd z (by decide))⟩, by rw [ht]; exact hH, by rw [ht]; exact hz⟩) hLo d_Re_takesRecord_29

set_option maxHeartbeats 4000000 in
set_option maxRecDepth 100000 in
theorem t_takesId (l : Launch) (D : va_G) (t : Nat → ClassId) (G : hG) (ak av : Nat → Nat) (h : hM) (τ : tM) (n f : Nat) (r9 : Nat) (a9 : Int32) (e9 : Nat) (tb td md nd : Nat) (wp : Int32) (hn : n ≤ 200) (hT : TI τ t n h) (T_r9 : τ r9 = (6, 0)) (T_e9 : τ e9 = (10, f)) (F_r9 : h r9 = some (.inr (5, [.ref tb, .ref td, .ref md, .ref nd, .int wp]))) : Met l y_Re_takesIdentifier (.code y_Re_takesIdentifier b_Re_takesIdentifier 9 (some .boolean) :: lw_g) { frames := 5, cells := 0, slots := 0, locals := 108 } (hP (kE D t G ak av) D vwCl G h [.ref r9, .int a9, .ref e9]) (hQi D vwCl G (fun r h' => zb r ∧ TI τ t n h' ∧ kf τ [] [e9] h h' ∧ knp τ f h h' ∧ (r = 1 → rngN n h e9 → rngN n h' e9))) 0 0 G.P := by
  refine Met.ofW (cc := b_Re_takesIdentifier) (maxL := 9) (ret := (some .boolean)) (by decide) rfl ?_
  intro p e s m args below meth c s₁ Bd hml hv
  obtain ⟨ha, hE, hH⟩ := hv
  have hx := Bd.exec
  have hb := Bd.bytes
  have hr := Bd.returns
  have hts : ∀ w ∈ lw_g, w.before args s = true := fun w hw => atoms_spec (ws := (.code y_Re_takesIdentifier b_Re_takesIdentifier 9 (some .boolean) :: lw_g)) Bd.pre w (List.mem_cons_of_mem _ hw)
  have hown : s.vm.findClass R_Re = some m.cls := findClass_of_methodNamed Bd.named
  have hlocks := Bd.notSynchronized
  have hK := hE.1
  have hH0 := hH
  have hLo : hLc G.P [] := hLc_nil
  have hz : s.heap.size ≤ s.heap.size := Nat.le_refl _
  have hl := lv_entry [.ref r9, .int a9, .ref e9] (n := 9) (Nat.le_of_ble_eq_true rfl)
  rw [show entryFrame m args 9 = F0 m 0 ((lg_sl [.ref r9, .int a9, .ref e9] ++ List.replicate (9 - (lg_sl [.ref r9, .int a9, .ref e9]).length) Slot.unset).toArray) [] from (by rw [ha]; exact lg_entry_eq m [.ref r9, .int a9, .ref e9] 9)]
  generalize (lg_sl [.ref r9, .int a9, .ref e9] ++ List.replicate (9 - (lg_sl [.ref r9, .int a9, .ref e9]).length) Slot.unset).toArray = ls at hl ⊢
  have hl : lv_has ls 9 [(0, .ref r9), (1, .int a9), (2, .ref e9)] := hl
  have hkf : kf τ [] [e9] h h := kf_rf
  have hnp_f : knp τ f h h := knp_rf
  obtain ⟨Tr0, Tr1, Tr2, Tr3⟩ := TJ_rdr (v2 := some md) (v3 := some nd) hT T_r9 F_r9
  have T_md := Tr2 md rfl
  have T_nd := Tr3 nd rfl
  refine lv_aload_n hx hb d_Re_takesIdentifier_0 rfl (lv_at hl 0 rfl) ?_
  refine hm_get (ci := 5) (v := .ref md) (C := R_Re) (T := F_Re) (N := 5) hx hb hts ig_Re hown hK hH F_r9 rfl 2 (by decide) (hts _ mw_329) (fun _ h9 => h9) rfl d_Re_takesIdentifier_1 ?_
  refine lv_iload_n hx hb d_Re_takesIdentifier_4 rfl (lv_at hl 1 rfl) ?_
  refine lv_bipush (v := 32) hx hb d_Re_takesIdentifier_5 (by decide) ?_
  refine lv_iadd hx hb d_Re_takesIdentifier_7 ?_
  obtain ⟨v1, v3, F_md, c2⟩ := TI_med hT T_md
  refine hm_callPi (va_runV (As := [.int (a9 + 32)]) (b := md) (rest := []) ⟨hx, hb, hml, hown, hts⟩ (t_fetch l D t G ak av h τ n md (a9 + 32) hn hT T_md) ⟨cw9B 1 hts mw_31 mw_330 mw_32 rfl rfl (by decide +kernel) ⟨Nat.le_of_ble_eq_true rfl, Nat.le_of_ble_eq_true rfl⟩, hts _ mw_34, hts _ mw_35⟩ (hP_V (q := (R_Me, F_Me, 2)) kE_ok hE hK hH F_md rfl) rfl rfl hl.1 rfl (lv_room (Nat.le_of_ble_eq_true rfl)) d_Re_takesIdentifier_8 ⟨Nat.le_of_ble_eq_true rfl, Nat.le_of_ble_eq_true rfl⟩) (fun r4 h5 H6 hp8  hH z7 => ?_)
  have hz : s.heap.size ≤ H6.size := Nat.le_trans hz z7
  obtain ⟨xp9, rfl⟩ := hp8
  refine lv_istore_n (lv' := [(3, .int r4), (0, .ref r9), (1, .int a9), (2, .ref e9)]) hx hb d_Re_takesIdentifier_11 rfl hl (by decide) rfl (fun ls hl => ?_)
  refine hm_cut (α := Int32) (fun lt9 ls H locs HH => (lv_has ls 9 [(0, .ref r9), (1, .int a9), (2, .ref e9), (3, .int r4)]) ∧ (hm D vwCl G HH H) ∧ (s.heap.size ≤ H.size) ∧ (hLc G.P locs) ∧ (h = HH)) 30 (fun lt9 => [.int lt9]) ?_ (fun J30 => ?_)
  · skip
    rintro lt9 ls H locs HH ⟨hl, hH, hz, hLo, rfl⟩
    refine lv_istore (lv' := [(4, .int lt9), (0, .ref r9), (1, .int a9), (2, .ref e9), (3, .int r4)]) hx hb d_Re_takesIdentifier_30 hl (by decide) rfl (fun ls hl => ?_)
    refine lv_iload hx hb d_Re_takesIdentifier_32 (lv_at hl 0 rfl) ?_
    refine lv_iconst (v := 1) hx hb d_Re_takesIdentifier_34 (by decide) ?_
    refine lv_icmp_lt (tgt := 45) hx hb d_Re_takesIdentifier_35 (by decide) (fun hc10 => ?_) (fun hc10 => ?_)
    · skip
      have ic11 : lt9.toInt < 1 := iLt hc10
      refine lv_iconst (v := 0) hx hb d_Re_takesIdentifier_45 (by decide) ?_
      exact W.zret (v := 0) hx hb hr (by decide) (fun t9 ht hW => ⟨0, h, rfl, ⟨zb0, hT, hkf, hnp_f, (fun z => absurd z (by decide))⟩, by rw [ht]; exact hH, by rw [ht]; exact hz⟩) hLo d_Re_takesIdentifier_46
    · skip
      have ic12 : 1 ≤ lt9.toInt := iNl hc10
      refine lv_iload hx hb d_Re_takesIdentifier_38 (lv_at hl 0 rfl) ?_
      refine lv_bipush (v := 8) hx hb d_Re_takesIdentifier_40 (by decide) ?_
      refine lv_icmp_le (tgt := 47) hx hb d_Re_takesIdentifier_42 (by decide) (fun hc13 => ?_) (fun hc13 => ?_)
      · skip
        have ic14 : lt9.toInt ≤ 8 := iLe hc13
        refine lv_aload_n hx hb d_Re_takesIdentifier_47 rfl (lv_at hl 3 rfl) ?_
        obtain ⟨v15, v16, v18, v20, v21, v23, v24, v25, v27, v28, v29, F_e9, c17, c19, c22, c26⟩ := TI_node hT T_e9
        refine hm_get (ci := 1) (v := .int v18) (C := R_No) (T := F_No) (N := 11) hx hb hts ig_No hown hK hH F_e9 rfl 2 (by decide) (hts _ mw_345) (fun _ h9 => h9) rfl d_Re_takesIdentifier_48 ?_
        refine lv_if_ne (tgt := 75) hx hb d_Re_takesIdentifier_51 (by decide) (fun hc30 => ?_) (fun hc30 => ?_)
        · skip
          refine lv_lconst (v := 0) hx hb d_Re_takesIdentifier_75 (by decide) ?_
          refine lv_lstore (lv' := [(5, .long 0), (4, .int lt9), (0, .ref r9), (1, .int a9), (2, .ref e9), (3, .int r4)]) hx hb d_Re_takesIdentifier_76 hl (by decide) rfl (fun ls hl => ?_)
          refine lv_iconst (v := 0) hx hb d_Re_takesIdentifier_78 (by decide) ?_
          refine lv_istore (lv' := [(7, .int 0), (5, .long 0), (4, .int lt9), (0, .ref r9), (1, .int a9), (2, .ref e9), (3, .int r4)]) hx hb d_Re_takesIdentifier_79 hl (by decide) rfl (fun ls hl => ?_)
          refine hm_loop (fun k81 ls H locs hh81 => ∃ (wd9 : Int64) (i9 : Int32), k81 = mU i9 ∧ lv_has ls 9 [(0, .ref r9), (1, .int a9), (2, .ref e9), (3, .int r4), (4, .int lt9), (5, .long wd9), (7, .int i9)] ∧ hm D vwCl G hh81 H ∧ s.heap.size ≤ H.size ∧ hLc G.P locs ∧ (h = hh81) ∧ (0 ≤ i9.toInt)) ?_ (hh := h) ⟨0, 0, rfl, (lv_sub hl [3, 4, 5, 6, 2, 1, 0] rfl), hH, hz, hLo, rfl, (by decide)⟩
          rintro k81 ls H locs hh81 ⟨wd9, i9, hk81, hl, hH, hz, hLo, rfl, I_i9⟩ ih81
          refine lv_iload hx hb d_Re_takesIdentifier_81 (lv_at hl 6 rfl) ?_
          refine lv_iload hx hb d_Re_takesIdentifier_83 (lv_at hl 4 rfl) ?_
          refine lv_icmp_ge (tgt := 131) hx hb d_Re_takesIdentifier_85 (by decide) (fun hc31 => ?_) (fun hc31 => ?_)
          · skip
            have ic32 : lt9.toInt ≤ i9.toInt := iLe hc31
            refine lv_aload_n hx hb d_Re_takesIdentifier_131 rfl (lv_at hl 2 rfl) ?_
            refine lv_lload hx hb d_Re_takesIdentifier_132 (lv_at hl 5 rfl) ?_
            refine hm_callv (va_runV (As := [.long wd9]) (b := e9) (rest := []) ⟨hx, hb, hml, hown, hts⟩ (t_takeName l D t G ak av h τ n f e9 wd9 hn hT T_e9) ⟨cw9B 1 hts mw_116 mw_364 mw_106 rfl rfl (by decide +kernel) ⟨Nat.le_of_ble_eq_true rfl, Nat.le_of_ble_eq_true rfl⟩, hts _ mw_118, hts _ mw_119⟩ (hP_V (q := (R_No, F_No, 11)) kE_ok hE hK hH F_e9 rfl) rfl rfl hl.1 rfl (lv_room (Nat.le_of_ble_eq_true rfl)) d_Re_takesIdentifier_134 ⟨Nat.le_of_ble_eq_true rfl, Nat.le_of_ble_eq_true rfl⟩) hLo (fun h33 H34 locs hp36 hH z35 hLo => ?_)
            have hz : s.heap.size ≤ H34.size := Nat.le_trans hz z35
            have hT0 := hT
            obtain ⟨hT, kf38, xk39, xp37⟩ := hp36
            have F_r9 : h33 r9 = some (.inr (5, [.ref tb, .ref td, .ref md, .ref nd, .int wp])) := kf_at kf38 T_r9 (by decide) tn0 (nmc (tne T_r9 T_e9 (by decide)) nm0) F_r9
            have F_md : h33 md = some (.inr (0, [.ref v1, .int v3])) := kf_at kf38 T_md (by decide) tn0 (nmc (tne T_md T_e9 (by decide)) nm0) F_md
            have hnp_f : knp τ f h h33 := knp_tr hnp_f xk39
            have hkf : kf τ [] [e9] h h33 := kf_tr hkf kf38 (List.forall_mem_nil _) (List.forall_mem_cons.mpr ⟨Or.inl (by simp), List.forall_mem_nil _⟩)
            refine lv_iconst (v := 1) hx hb d_Re_takesIdentifier_137 (by decide) ?_
            exact W.zret (v := 1) hx hb hr (by decide) (fun t9 ht hW => ⟨1, h33, rfl, ⟨zb1, hT, hkf, hnp_f, (fun _ => xp37)⟩, by rw [ht]; exact hH, by rw [ht]; exact hz⟩) hLo d_Re_takesIdentifier_138
          · skip
            have ic40 : i9.toInt < lt9.toInt := iNe hc31
            refine lv_aload_n hx hb d_Re_takesIdentifier_88 rfl (lv_at hl 0 rfl) ?_
            refine hm_get (ci := 5) (v := .ref md) (C := R_Re) (T := F_Re) (N := 5) hx hb hts ig_Re hown hK hH F_r9 rfl 2 (by decide) (hts _ mw_329) (fun _ h9 => h9) rfl d_Re_takesIdentifier_89 ?_
            refine lv_iload_n hx hb d_Re_takesIdentifier_92 rfl (lv_at hl 1 rfl) ?_
            refine lv_bipush (v := 33) hx hb d_Re_takesIdentifier_93 (by decide) ?_
            refine lv_iadd hx hb d_Re_takesIdentifier_95 ?_
            refine lv_iload hx hb d_Re_takesIdentifier_96 (lv_at hl 6 rfl) ?_
            refine lv_iadd hx hb d_Re_takesIdentifier_98 ?_
            refine hm_callPi (va_runV (As := [.int ((a9 + 33) + i9)]) (b := md) (rest := []) ⟨hx, hb, hml, hown, hts⟩ (t_fetch l D t G ak av h τ n md ((a9 + 33) + i9) hn hT T_md) ⟨cw9B 1 hts mw_31 mw_330 mw_32 rfl rfl (by decide +kernel) ⟨Nat.le_of_ble_eq_true rfl, Nat.le_of_ble_eq_true rfl⟩, hts _ mw_34, hts _ mw_35⟩ (hP_V (q := (R_Me, F_Me, 2)) kE_ok hE hK hH F_md rfl) rfl rfl hl.1 rfl (lv_room (Nat.le_of_ble_eq_true rfl)) d_Re_takesIdentifier_99 ⟨Nat.le_of_ble_eq_true rfl, Nat.le_of_ble_eq_true rfl⟩) (fun r41 h42 H43 hp45  hH z44 => ?_)
            have hz : s.heap.size ≤ H43.size := Nat.le_trans hz z44
            obtain ⟨xp46, rfl⟩ := hp45
            refine lv_istore (lv' := [(8, .int r41), (0, .ref r9), (1, .int a9), (2, .ref e9), (3, .int r4), (4, .int lt9), (5, .long wd9), (7, .int i9)]) hx hb d_Re_takesIdentifier_102 hl (by decide) rfl (fun ls hl => ?_)
            refine lv_iload hx hb d_Re_takesIdentifier_104 (lv_at hl 0 rfl) ?_
            refine hm_callPi (va_runSN (As := [.int r41]) (rest := []) ⟨hx, hb, hml, hown, hts⟩ (t_isNameByte l D t G ak av h τ n r41 hn hT ) ⟨cw9N 1 hts mw_24 (nmU hE nM_10) mw_25 rfl rfl (by decide +kernel) ⟨Nat.le_of_ble_eq_true rfl, Nat.le_of_ble_eq_true rfl⟩, hts _ mw_27, trivial⟩ (hP_S kE_ok hE hH) rfl rfl hl.1 rfl (lv_room (Nat.le_of_ble_eq_true rfl)) d_Re_takesIdentifier_106 ⟨Nat.le_of_ble_eq_true rfl, Nat.le_of_ble_eq_true rfl⟩) (fun r47 h48 H49 hp51  hH z50 => ?_)
            have hz : s.heap.size ≤ H49.size := Nat.le_trans hz z50
            obtain ⟨c52, rfl⟩ := hp51
            refine lv_if_ne (tgt := 114) hx hb d_Re_takesIdentifier_109 (by decide) (fun hc54 => ?_) (fun hc54 => ?_)
            · skip
              refine lv_lload hx hb d_Re_takesIdentifier_114 (lv_at hl 6 rfl) ?_
              refine lv_bipush (v := 8) hx hb d_Re_takesIdentifier_116 (by decide) ?_
              refine lv_lshl (v := wd9 <<< ((8 : Int32).toInt64 &&& 63)) hx hb d_Re_takesIdentifier_118 rfl ?_
              refine lv_iload hx hb d_Re_takesIdentifier_119 (lv_at hl 0 rfl) ?_
              refine lv_i2l (v := r41.toInt64) hx hb d_Re_takesIdentifier_121 rfl ?_
              refine lv_lor hx hb d_Re_takesIdentifier_122 ?_
              refine lv_topl (fun v55 e56 => ?_)
              refine lv_lstore (lv' := [(5, .long v55), (8, .int r41), (0, .ref r9), (1, .int a9), (2, .ref e9), (3, .int r4), (4, .int lt9), (7, .int i9)]) hx hb d_Re_takesIdentifier_123 hl (by decide) rfl (fun ls hl => ?_)
              refine lv_iinc (v := i9 + 1) (lv' := [(7, .int (i9 + 1)), (5, .long v55), (8, .int r41), (0, .ref r9), (1, .int a9), (2, .ref e9), (3, .int r4), (4, .int lt9)]) hx hb d_Re_takesIdentifier_125 hl (k := 7) rfl (by rfl) (by decide) rfl (fun ls hl => ?_)
              refine lv_goto (tgt := 81) hx hb d_Re_takesIdentifier_128 (by decide) ?_
              have is57 : (i9 + 1).toInt = i9.toInt + 1 := iAddK 1 rfl (by omega) (by omega)
              exact ih81 (mU (i9 + 1)) ls _ locs _ (by rw [hk81]; exact mU_lt (by omega)) ⟨v55, (i9 + 1), rfl, (lv_sub hl [3, 4, 5, 6, 7, 1, 0] rfl), hH, hz, hLo, rfl, (by omega)⟩
            · skip
              have ic58 : r47.toInt = 0 := congrArg Int32.toInt hc54
              refine lv_iconst (v := 0) hx hb d_Re_takesIdentifier_112 (by decide) ?_
              exact W.zret (v := 0) hx hb hr (by decide) (fun t9 ht hW => ⟨0, h, rfl, ⟨zb0, hT, hkf, hnp_f, (fun z => absurd z (by decide))⟩, by rw [ht]; exact hH, by rw [ht]; exact hz⟩) hLo d_Re_takesIdentifier_113
        · skip
          have ic59 : v18.toInt = 0 := congrArg Int32.toInt hc30
          refine lv_aload_n hx hb d_Re_takesIdentifier_54 rfl (lv_at hl 1 rfl) ?_
          refine hm_get (ci := 5) (v := .ref md) (C := R_Re) (T := F_Re) (N := 5) hx hb hts ig_Re hown hK hH F_r9 rfl 2 (by decide) (hts _ mw_329) (fun _ h9 => h9) rfl d_Re_takesIdentifier_55 ?_
          refine lv_iload_n hx hb d_Re_takesIdentifier_58 rfl (lv_at hl 2 rfl) ?_
          refine lv_bipush (v := 33) hx hb d_Re_takesIdentifier_59 (by decide) ?_
          refine lv_iadd hx hb d_Re_takesIdentifier_61 ?_
          refine lv_iload hx hb d_Re_takesIdentifier_62 (lv_at hl 0 rfl) ?_
          refine lv_iadd hx hb d_Re_takesIdentifier_64 ?_
          refine va_ldcS hx hb hown hE.2.2.2.2.2.2.2.2.2.2.1 d_Re_takesIdentifier_65 ?_
          refine hm_callPi (va_runV (As := [.int ((a9 + 33) + lt9), .ref (ak 2)]) (b := md) (rest := []) ⟨hx, hb, hml, hown, hts⟩ (t_hasText l D t G ak av h τ n md ((a9 + 33) + lt9) 2 hn hT T_md (by decide)) ⟨cw9B 2 hts mw_52 mw_336 mw_32 rfl rfl (by decide +kernel) ⟨Nat.le_of_ble_eq_true rfl, Nat.le_of_ble_eq_true rfl⟩, hts _ mw_54, hts _ mw_55⟩ (hP_V (q := (R_Me, F_Me, 2)) kE_ok hE hK hH F_md rfl) rfl rfl hl.1 rfl (lv_room (Nat.le_of_ble_eq_true rfl)) d_Re_takesIdentifier_67 ⟨Nat.le_of_ble_eq_true rfl, Nat.le_of_ble_eq_true rfl⟩) (fun r60 h61 H62 hp64  hH z63 => ?_)
          have hz : s.heap.size ≤ H62.size := Nat.le_trans hz z63
          obtain ⟨c65, rfl⟩ := hp64
          refine lv_if_ne (tgt := 75) hx hb d_Re_takesIdentifier_70 (by decide) (fun hc67 => ?_) (fun hc67 => ?_)
          · skip
            refine lv_lconst (v := 0) hx hb d_Re_takesIdentifier_75 (by decide) ?_
            refine lv_lstore (lv' := [(5, .long 0), (4, .int lt9), (0, .ref r9), (1, .int a9), (2, .ref e9), (3, .int r4)]) hx hb d_Re_takesIdentifier_76 hl (by decide) rfl (fun ls hl => ?_)
            refine lv_iconst (v := 0) hx hb d_Re_takesIdentifier_78 (by decide) ?_
            refine lv_istore (lv' := [(7, .int 0), (5, .long 0), (4, .int lt9), (0, .ref r9), (1, .int a9), (2, .ref e9), (3, .int r4)]) hx hb d_Re_takesIdentifier_79 hl (by decide) rfl (fun ls hl => ?_)
            refine hm_loop (fun k81 ls H locs hh81 => ∃ (wd9 : Int64) (i9 : Int32), k81 = mU i9 ∧ lv_has ls 9 [(0, .ref r9), (1, .int a9), (2, .ref e9), (3, .int r4), (4, .int lt9), (5, .long wd9), (7, .int i9)] ∧ hm D vwCl G hh81 H ∧ s.heap.size ≤ H.size ∧ hLc G.P locs ∧ (h = hh81) ∧ (0 ≤ i9.toInt)) ?_ (hh := h) ⟨0, 0, rfl, (lv_sub hl [3, 4, 5, 6, 2, 1, 0] rfl), hH, hz, hLo, rfl, (by decide)⟩
            rintro k81 ls H locs hh81 ⟨wd9, i9, hk81, hl, hH, hz, hLo, rfl, I_i9⟩ ih81
            refine lv_iload hx hb d_Re_takesIdentifier_81 (lv_at hl 6 rfl) ?_
            refine lv_iload hx hb d_Re_takesIdentifier_83 (lv_at hl 4 rfl) ?_
            refine lv_icmp_ge (tgt := 131) hx hb d_Re_takesIdentifier_85 (by decide) (fun hc68 => ?_) (fun hc68 => ?_)
            · skip
              have ic69 : lt9.toInt ≤ i9.toInt := iLe hc68
              refine lv_aload_n hx hb d_Re_takesIdentifier_131 rfl (lv_at hl 2 rfl) ?_
              refine lv_lload hx hb d_Re_takesIdentifier_132 (lv_at hl 5 rfl) ?_
              refine hm_callv (va_runV (As := [.long wd9]) (b := e9) (rest := []) ⟨hx, hb, hml, hown, hts⟩ (t_takeName l D t G ak av h τ n f e9 wd9 hn hT T_e9) ⟨cw9B 1 hts mw_116 mw_364 mw_106 rfl rfl (by decide +kernel) ⟨Nat.le_of_ble_eq_true rfl, Nat.le_of_ble_eq_true rfl⟩, hts _ mw_118, hts _ mw_119⟩ (hP_V (q := (R_No, F_No, 11)) kE_ok hE hK hH F_e9 rfl) rfl rfl hl.1 rfl (lv_room (Nat.le_of_ble_eq_true rfl)) d_Re_takesIdentifier_134 ⟨Nat.le_of_ble_eq_true rfl, Nat.le_of_ble_eq_true rfl⟩) hLo (fun h70 H71 locs hp73 hH z72 hLo => ?_)
              have hz : s.heap.size ≤ H71.size := Nat.le_trans hz z72
              have hT0 := hT
              obtain ⟨hT, kf75, xk76, xp74⟩ := hp73
              have F_r9 : h70 r9 = some (.inr (5, [.ref tb, .ref td, .ref md, .ref nd, .int wp])) := kf_at kf75 T_r9 (by decide) tn0 (nmc (tne T_r9 T_e9 (by decide)) nm0) F_r9
              have F_md : h70 md = some (.inr (0, [.ref v1, .int v3])) := kf_at kf75 T_md (by decide) tn0 (nmc (tne T_md T_e9 (by decide)) nm0) F_md
              have hnp_f : knp τ f h h70 := knp_tr hnp_f xk76
              have hkf : kf τ [] [e9] h h70 := kf_tr hkf kf75 (List.forall_mem_nil _) (List.forall_mem_cons.mpr ⟨Or.inl (by simp), List.forall_mem_nil _⟩)
              refine lv_iconst (v := 1) hx hb d_Re_takesIdentifier_137 (by decide) ?_
              exact W.zret (v := 1) hx hb hr (by decide) (fun t9 ht hW => ⟨1, h70, rfl, ⟨zb1, hT, hkf, hnp_f, (fun _ => xp74)⟩, by rw [ht]; exact hH, by rw [ht]; exact hz⟩) hLo d_Re_takesIdentifier_138
            · skip
              have ic77 : i9.toInt < lt9.toInt := iNe hc68
              refine lv_aload_n hx hb d_Re_takesIdentifier_88 rfl (lv_at hl 0 rfl) ?_
              refine hm_get (ci := 5) (v := .ref md) (C := R_Re) (T := F_Re) (N := 5) hx hb hts ig_Re hown hK hH F_r9 rfl 2 (by decide) (hts _ mw_329) (fun _ h9 => h9) rfl d_Re_takesIdentifier_89 ?_
              refine lv_iload_n hx hb d_Re_takesIdentifier_92 rfl (lv_at hl 1 rfl) ?_
              refine lv_bipush (v := 33) hx hb d_Re_takesIdentifier_93 (by decide) ?_
              refine lv_iadd hx hb d_Re_takesIdentifier_95 ?_
              refine lv_iload hx hb d_Re_takesIdentifier_96 (lv_at hl 6 rfl) ?_
              refine lv_iadd hx hb d_Re_takesIdentifier_98 ?_
              refine hm_callPi (va_runV (As := [.int ((a9 + 33) + i9)]) (b := md) (rest := []) ⟨hx, hb, hml, hown, hts⟩ (t_fetch l D t G ak av h τ n md ((a9 + 33) + i9) hn hT T_md) ⟨cw9B 1 hts mw_31 mw_330 mw_32 rfl rfl (by decide +kernel) ⟨Nat.le_of_ble_eq_true rfl, Nat.le_of_ble_eq_true rfl⟩, hts _ mw_34, hts _ mw_35⟩ (hP_V (q := (R_Me, F_Me, 2)) kE_ok hE hK hH F_md rfl) rfl rfl hl.1 rfl (lv_room (Nat.le_of_ble_eq_true rfl)) d_Re_takesIdentifier_99 ⟨Nat.le_of_ble_eq_true rfl, Nat.le_of_ble_eq_true rfl⟩) (fun r78 h79 H80 hp82  hH z81 => ?_)
              have hz : s.heap.size ≤ H80.size := Nat.le_trans hz z81
              obtain ⟨xp83, rfl⟩ := hp82
              refine lv_istore (lv' := [(8, .int r78), (0, .ref r9), (1, .int a9), (2, .ref e9), (3, .int r4), (4, .int lt9), (5, .long wd9), (7, .int i9)]) hx hb d_Re_takesIdentifier_102 hl (by decide) rfl (fun ls hl => ?_)
              refine lv_iload hx hb d_Re_takesIdentifier_104 (lv_at hl 0 rfl) ?_
              refine hm_callPi (va_runSN (As := [.int r78]) (rest := []) ⟨hx, hb, hml, hown, hts⟩ (t_isNameByte l D t G ak av h τ n r78 hn hT ) ⟨cw9N 1 hts mw_24 (nmU hE nM_10) mw_25 rfl rfl (by decide +kernel) ⟨Nat.le_of_ble_eq_true rfl, Nat.le_of_ble_eq_true rfl⟩, hts _ mw_27, trivial⟩ (hP_S kE_ok hE hH) rfl rfl hl.1 rfl (lv_room (Nat.le_of_ble_eq_true rfl)) d_Re_takesIdentifier_106 ⟨Nat.le_of_ble_eq_true rfl, Nat.le_of_ble_eq_true rfl⟩) (fun r84 h85 H86 hp88  hH z87 => ?_)
              have hz : s.heap.size ≤ H86.size := Nat.le_trans hz z87
              obtain ⟨c89, rfl⟩ := hp88
              refine lv_if_ne (tgt := 114) hx hb d_Re_takesIdentifier_109 (by decide) (fun hc91 => ?_) (fun hc91 => ?_)
              · skip
                refine lv_lload hx hb d_Re_takesIdentifier_114 (lv_at hl 6 rfl) ?_
                refine lv_bipush (v := 8) hx hb d_Re_takesIdentifier_116 (by decide) ?_
                refine lv_lshl (v := wd9 <<< ((8 : Int32).toInt64 &&& 63)) hx hb d_Re_takesIdentifier_118 rfl ?_
                refine lv_iload hx hb d_Re_takesIdentifier_119 (lv_at hl 0 rfl) ?_
                refine lv_i2l (v := r78.toInt64) hx hb d_Re_takesIdentifier_121 rfl ?_
                refine lv_lor hx hb d_Re_takesIdentifier_122 ?_
                refine lv_topl (fun v92 e93 => ?_)
                refine lv_lstore (lv' := [(5, .long v92), (8, .int r78), (0, .ref r9), (1, .int a9), (2, .ref e9), (3, .int r4), (4, .int lt9), (7, .int i9)]) hx hb d_Re_takesIdentifier_123 hl (by decide) rfl (fun ls hl => ?_)
                refine lv_iinc (v := i9 + 1) (lv' := [(7, .int (i9 + 1)), (5, .long v92), (8, .int r78), (0, .ref r9), (1, .int a9), (2, .ref e9), (3, .int r4), (4, .int lt9)]) hx hb d_Re_takesIdentifier_125 hl (k := 7) rfl (by rfl) (by decide) rfl (fun ls hl => ?_)
                refine lv_goto (tgt := 81) hx hb d_Re_takesIdentifier_128 (by decide) ?_
                have is94 : (i9 + 1).toInt = i9.toInt + 1 := iAddK 1 rfl (by omega) (by omega)
                exact ih81 (mU (i9 + 1)) ls _ locs _ (by rw [hk81]; exact mU_lt (by omega)) ⟨v92, (i9 + 1), rfl, (lv_sub hl [3, 4, 5, 6, 7, 1, 0] rfl), hH, hz, hLo, rfl, (by omega)⟩
              · skip
                have ic95 : r84.toInt = 0 := congrArg Int32.toInt hc91
                refine lv_iconst (v := 0) hx hb d_Re_takesIdentifier_112 (by decide) ?_
                exact W.zret (v := 0) hx hb hr (by decide) (fun t9 ht hW => ⟨0, h, rfl, ⟨zb0, hT, hkf, hnp_f, (fun z => absurd z (by decide))⟩, by rw [ht]; exact hH, by rw [ht]; exact hz⟩) hLo d_Re_takesIdentifier_113
          · skip
            have ic96 : r60.toInt = 0 := congrArg Int32.toInt hc67
            refine lv_iconst (v := 0) hx hb d_Re_takesIdentifier_73 (by decide) ?_
            exact W.zret (v := 0) hx hb hr (by decide) (fun t9 ht hW => ⟨0, h, rfl, ⟨zb0, hT, hkf, hnp_f, (fun z => absurd z (by decide))⟩, by rw [ht]; exact hH, by rw [ht]; exact hz⟩) hLo d_Re_takesIdentifier_74
      · skip
        have ic97 : 8 < lt9.toInt := iNe hc13
        refine lv_iconst (v := 0) hx hb d_Re_takesIdentifier_45 (by decide) ?_
        exact W.zret (v := 0) hx hb hr (by decide) (fun t9 ht hW => ⟨0, h, rfl, ⟨zb0, hT, hkf, hnp_f, (fun z => absurd z (by decide))⟩, by rw [ht]; exact hH, by rw [ht]; exact hz⟩) hLo d_Re_takesIdentifier_46
  · skip
    refine lv_aload_n hx hb d_Re_takesIdentifier_12 rfl (lv_at hl 3 rfl) ?_
    obtain ⟨v98, v99, v101, v103, v104, v106, v107, v108, v110, v111, v112, F_e9, c100, c102, c105, c109⟩ := TI_node hT T_e9
    refine hm_get (ci := 1) (v := .int v101) (C := R_No) (T := F_No) (N := 11) hx hb hts ig_No hown hK hH F_e9 rfl 2 (by decide) (hts _ mw_345) (fun _ h9 => h9) rfl d_Re_takesIdentifier_13 ?_
    refine lv_if_eq (tgt := 23) hx hb d_Re_takesIdentifier_16 (by decide) (fun hc113 => ?_) (fun hc113 => ?_)
    · skip
      have ic114 : v101.toInt = 0 := congrArg Int32.toInt hc113
      refine lv_iload_n hx hb d_Re_takesIdentifier_23 rfl (lv_at hl 0 rfl) ?_
      refine va_ldcS hx hb hown hE.2.2.2.2.2.2.2.2.2.2.1 d_Re_takesIdentifier_24 ?_
      have hZ := K9 hE.2.2.2.2 hH0
      have hS := S9 hH0 hH hz hLo
      refine hm_callPi (va_runV (As := []) (b := ak 2) (rest := [.int r4]) ⟨hx, hb, hml, hown, hts⟩ (c_St_length l D t G ak av h 2 (by decide)) ⟨cw9B 0 hts mw_36 mw_365 mw_4 rfl rfl (by decide +kernel) ⟨Nat.le_of_ble_eq_true rfl, Nat.le_of_ble_eq_true rfl⟩, hts _ mw_38, hts _ mw_39⟩ (hP_W kE_ok hE hH (vk_recv hZ (by decide) hS)) rfl rfl hl.1 rfl (lv_room (Nat.le_of_ble_eq_true rfl)) d_Re_takesIdentifier_26 ⟨Nat.le_of_ble_eq_true rfl, Nat.le_of_ble_eq_true rfl⟩) (fun r115 h116 H117 hp119  hH z118 => ?_)
      have hz : s.heap.size ≤ H117.size := Nat.le_trans hz z118
      obtain ⟨e_r115, rfl⟩ := hp119
      have is_r115 : r115.toInt = (sLen.getD 2 0 : Nat) := by rw [e_r115]; exact nI_toInt (sl_lt (by decide))
      have iq_r115 := sl_8 (i := 2) (by decide)
      refine lv_isub hx hb d_Re_takesIdentifier_29 ?_
      exact J30 (r4 - r115) _ _ _ _ ⟨(lv_sub hl [1, 2, 3, 0] rfl), hH, hz, hLo, rfl⟩
    · skip
      refine lv_iload_n hx hb d_Re_takesIdentifier_19 rfl (lv_at hl 0 rfl) ?_
      refine lv_goto (tgt := 30) hx hb d_Re_takesIdentifier_20 (by decide) ?_
      exact J30 r4 _ _ _ _ ⟨(lv_sub hl [1, 2, 3, 0] rfl), hH, hz, hLo, rfl⟩

set_option maxHeartbeats 4000000 in
set_option maxRecDepth 100000 in
theorem t_saysDir (l : Launch) (D : va_G) (t : Nat → ClassId) (G : hG) (ak av : Nat → Nat) (h : hM) (τ : tM) (n f : Nat) (r9 : Nat) (a9 : Int32) (i8 : Int32) (e9 : Nat) (tb td md nd : Nat) (wp : Int32) (hn : n ≤ 200) (hT : TI τ t n h) (T_r9 : τ r9 = (6, 0)) (T_e9 : τ e9 = (10, f)) (F_r9 : h r9 = some (.inr (5, [.ref tb, .ref td, .ref md, .ref nd, .int wp]))) : Met l y_Re_saysDirectory (.code y_Re_saysDirectory b_Re_saysDirectory 4 (some .boolean) :: lw_g) { frames := 3, cells := 0, slots := 0, locals := 71 } (hP (kE D t G ak av) D vwCl G h [.ref r9, .int a9, .int i8, .ref e9]) (hQi D vwCl G (fun r h' => zb r ∧ TI τ t n h' ∧ kf τ [(10, 2)] [] h h')) 0 0 G.P := by
  refine Met.ofW (cc := b_Re_saysDirectory) (maxL := 4) (ret := (some .boolean)) (by decide) rfl ?_
  intro p e s m args below meth c s₁ Bd hml hv
  obtain ⟨ha, hE, hH⟩ := hv
  have hx := Bd.exec
  have hb := Bd.bytes
  have hr := Bd.returns
  have hts : ∀ w ∈ lw_g, w.before args s = true := fun w hw => atoms_spec (ws := (.code y_Re_saysDirectory b_Re_saysDirectory 4 (some .boolean) :: lw_g)) Bd.pre w (List.mem_cons_of_mem _ hw)
  have hown : s.vm.findClass R_Re = some m.cls := findClass_of_methodNamed Bd.named
  have hlocks := Bd.notSynchronized
  have hK := hE.1
  have hH0 := hH
  have hLo : hLc G.P [] := hLc_nil
  have hz : s.heap.size ≤ s.heap.size := Nat.le_refl _
  have hl := lv_entry [.ref r9, .int a9, .int i8, .ref e9] (n := 4) (Nat.le_of_ble_eq_true rfl)
  rw [show entryFrame m args 4 = F0 m 0 ((lg_sl [.ref r9, .int a9, .int i8, .ref e9] ++ List.replicate (4 - (lg_sl [.ref r9, .int a9, .int i8, .ref e9]).length) Slot.unset).toArray) [] from (by rw [ha]; exact lg_entry_eq m [.ref r9, .int a9, .int i8, .ref e9] 4)]
  generalize (lg_sl [.ref r9, .int a9, .int i8, .ref e9] ++ List.replicate (4 - (lg_sl [.ref r9, .int a9, .int i8, .ref e9]).length) Slot.unset).toArray = ls at hl ⊢
  have hl : lv_has ls 4 [(0, .ref r9), (1, .int a9), (2, .int i8), (3, .ref e9)] := hl
  have hkf : kf τ [(10, 2)] [] h h := kf_rf
  obtain ⟨Tr0, Tr1, Tr2, Tr3⟩ := TJ_rdr (v2 := some md) (v3 := some nd) hT T_r9 F_r9
  have T_md := Tr2 md rfl
  have T_nd := Tr3 nd rfl
  refine lv_aload_n hx hb d_Re_saysDirectory_0 rfl (lv_at hl 0 rfl) ?_
  refine lv_iload_n hx hb d_Re_saysDirectory_1 rfl (lv_at hl 1 rfl) ?_
  refine lv_aload_n hx hb d_Re_saysDirectory_2 rfl (lv_at hl 0 rfl) ?_
  refine hm_get (ci := 5) (v := .ref td) (C := R_Re) (T := F_Re) (N := 5) hx hb hts ig_Re hown hK hH F_r9 rfl 1 (by decide) (hts _ mw_366) (fun _ h9 => h9) rfl d_Re_saysDirectory_3 ?_
  refine hm_calli (va_runV (As := [.int a9, .ref td]) (b := r9) (rest := []) ⟨hx, hb, hml, hown, hts⟩ (t_takesRec l D t G ak av h τ n 2 r9 a9 td hn hT T_r9 Tr1 tb td md nd wp F_r9) ⟨cw9B 2 hts mw_367 mw_368 mw_332 rfl rfl (by decide +kernel) ⟨Nat.le_of_ble_eq_true rfl, Nat.le_of_ble_eq_true rfl⟩, hts _ mw_369, hts _ mw_370⟩ (hP_V (q := (R_Re, F_Re, 5)) kE_ok hE hK hH F_r9 rfl) rfl rfl hl.1 rfl (lv_room (Nat.le_of_ble_eq_true rfl)) d_Re_saysDirectory_6 ⟨Nat.le_of_ble_eq_true rfl, Nat.le_of_ble_eq_true rfl⟩) hLo (fun r1 h2 H3 locs hp5 hH z4 hLo => ?_)
  have hz : s.heap.size ≤ H3.size := Nat.le_trans hz z4
  have hT0 := hT
  obtain ⟨c6, hT, kf8, xk9, xp7⟩ := hp5
  have F_r9 : h2 r9 = some (.inr (5, [.ref tb, .ref td, .ref md, .ref nd, .int wp])) := kf_at kf8 T_r9 (by decide) tn0 (nmc (tne T_r9 Tr1 (by decide)) nm0) F_r9
  have hkf : kf τ [(10, 2)] [] h h2 := kf_tr hkf kf8 (List.forall_mem_nil _) (List.forall_mem_cons.mpr ⟨Or.inr (by rw [Tr1]; exact List.mem_cons_self), List.forall_mem_nil _⟩)
  refine lv_if_eq (tgt := 53) hx hb d_Re_saysDirectory_9 (by decide) (fun hc10 => ?_) (fun hc10 => ?_)
  · skip
    have ic11 : r1.toInt = 0 := congrArg Int32.toInt hc10
    refine lv_iconst (v := 0) hx hb d_Re_saysDirectory_53 (by decide) ?_
    exact W.zret (v := 0) hx hb hr (by decide) (fun t9 ht hW => ⟨0, h2, rfl, ⟨zb0, hT, hkf⟩, by rw [ht]; exact hH, by rw [ht]; exact hz⟩) hLo d_Re_saysDirectory_54
  · skip
    refine lv_aload_n hx hb d_Re_saysDirectory_12 rfl (lv_at hl 0 rfl) ?_
    refine lv_iload_n hx hb d_Re_saysDirectory_13 rfl (lv_at hl 1 rfl) ?_
    refine lv_iload_n hx hb d_Re_saysDirectory_14 rfl (lv_at hl 2 rfl) ?_
    refine hm_callPi (va_runV (As := [.int a9, .int i8]) (b := r9) (rest := []) ⟨hx, hb, hml, hown, hts⟩ (t_isSpecial l D t G ak av h2 τ n r9 a9 i8 hn hT T_r9 tb td md nd wp F_r9) ⟨cw9B 2 hts mw_371 mw_372 mw_332 rfl rfl (by decide +kernel) ⟨Nat.le_of_ble_eq_true rfl, Nat.le_of_ble_eq_true rfl⟩, hts _ mw_373, hts _ mw_374⟩ (hP_V (q := (R_Re, F_Re, 5)) kE_ok hE hK hH F_r9 rfl) rfl rfl hl.1 rfl (lv_room (Nat.le_of_ble_eq_true rfl)) d_Re_saysDirectory_15 ⟨Nat.le_of_ble_eq_true rfl, Nat.le_of_ble_eq_true rfl⟩) (fun r12 h13 H14 hp16  hH z15 => ?_)
    have hz : s.heap.size ≤ H14.size := Nat.le_trans hz z15
    obtain ⟨c17, rfl⟩ := hp16
    refine lv_if_eq (tgt := 53) hx hb d_Re_saysDirectory_18 (by decide) (fun hc19 => ?_) (fun hc19 => ?_)
    · skip
      have ic20 : r12.toInt = 0 := congrArg Int32.toInt hc19
      refine lv_iconst (v := 0) hx hb d_Re_saysDirectory_53 (by decide) ?_
      exact W.zret (v := 0) hx hb hr (by decide) (fun t9 ht hW => ⟨0, h2, rfl, ⟨zb0, hT, hkf⟩, by rw [ht]; exact hH, by rw [ht]; exact hz⟩) hLo d_Re_saysDirectory_54
    · skip
      refine lv_aload_n hx hb d_Re_saysDirectory_21 rfl (lv_at hl 0 rfl) ?_
      refine hm_get (ci := 5) (v := .ref td) (C := R_Re) (T := F_Re) (N := 5) hx hb hts ig_Re hown hK hH F_r9 rfl 1 (by decide) (hts _ mw_366) (fun _ h9 => h9) rfl d_Re_saysDirectory_22 ?_
      obtain ⟨v21, v22, v24, v26, v27, v29, v30, v31, v33, v34, v35, F_td, c23, c25, c28, c32⟩ := TI_node hT Tr1
      refine hm_get (ci := 1) (v := .int v34) (C := R_No) (T := F_No) (N := 11) hx hb hts ig_No hown hK hH F_td rfl 9 (by decide) (hts _ mw_353) (fun _ h9 => h9) rfl d_Re_saysDirectory_25 ?_
      refine lv_aload_n hx hb d_Re_saysDirectory_28 rfl (lv_at hl 3 rfl) ?_
      obtain ⟨v36, v37, v39, v41, v42, v44, v45, v46, v48, v49, v50, F_e9, c38, c40, c43, c47⟩ := TI_node hT T_e9
      refine hm_get (ci := 1) (v := .int v49) (C := R_No) (T := F_No) (N := 11) hx hb hts ig_No hown hK hH F_e9 rfl 9 (by decide) (hts _ mw_353) (fun _ h9 => h9) rfl d_Re_saysDirectory_29 ?_
      refine lv_icmp_ne (tgt := 53) hx hb d_Re_saysDirectory_32 (by decide) (fun hc51 => ?_) (fun hc51 => ?_)
      · skip
        refine lv_iconst (v := 0) hx hb d_Re_saysDirectory_53 (by decide) ?_
        exact W.zret (v := 0) hx hb hr (by decide) (fun t9 ht hW => ⟨0, h2, rfl, ⟨zb0, hT, hkf⟩, by rw [ht]; exact hH, by rw [ht]; exact hz⟩) hLo d_Re_saysDirectory_54
      · skip
        have ic52 : v34.toInt = v49.toInt := congrArg Int32.toInt hc51
        refine lv_aload_n hx hb d_Re_saysDirectory_35 rfl (lv_at hl 0 rfl) ?_
        refine hm_get (ci := 5) (v := .ref td) (C := R_Re) (T := F_Re) (N := 5) hx hb hts ig_Re hown hK hH F_r9 rfl 1 (by decide) (hts _ mw_366) (fun _ h9 => h9) rfl d_Re_saysDirectory_36 ?_
        refine hm_get (ci := 1) (v := .int v29) (C := R_No) (T := F_No) (N := 11) hx hb hts ig_No hown hK hH F_td rfl 5 (by decide) (hts _ mw_352) (fun _ h9 => h9) rfl d_Re_saysDirectory_39 ?_
        refine lv_aload_n hx hb d_Re_saysDirectory_42 rfl (lv_at hl 3 rfl) ?_
        refine hm_get (ci := 1) (v := .int v44) (C := R_No) (T := F_No) (N := 11) hx hb hts ig_No hown hK hH F_e9 rfl 5 (by decide) (hts _ mw_352) (fun _ h9 => h9) rfl d_Re_saysDirectory_43 ?_
        refine lv_icmp_ne (tgt := 53) hx hb d_Re_saysDirectory_46 (by decide) (fun hc53 => ?_) (fun hc53 => ?_)
        · skip
          refine lv_iconst (v := 0) hx hb d_Re_saysDirectory_53 (by decide) ?_
          exact W.zret (v := 0) hx hb hr (by decide) (fun t9 ht hW => ⟨0, h2, rfl, ⟨zb0, hT, hkf⟩, by rw [ht]; exact hH, by rw [ht]; exact hz⟩) hLo d_Re_saysDirectory_54
        · skip
          have ic54 : v29.toInt = v44.toInt := congrArg Int32.toInt hc53
          refine lv_iconst (v := 1) hx hb d_Re_saysDirectory_49 (by decide) ?_
          refine lv_goto (tgt := 54) hx hb d_Re_saysDirectory_50 (by decide) ?_
          exact W.zret (v := 1) hx hb hr (by decide) (fun t9 ht hW => ⟨1, h2, rfl, ⟨zb1, hT, hkf⟩, by rw [ht]; exact hH, by rw [ht]; exact hz⟩) hLo d_Re_saysDirectory_54
