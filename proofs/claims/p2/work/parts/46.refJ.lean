set_option maxRecDepth 100000 in
theorem mw_760 : Cond.fieldLink R_Mo 66 "WriteOnceDiscModel" "sAbove" "[I" ∈ lw_g := lw_gin (List.mem_append_right _ (List.mem_of_getElem? (i := 945) rfl)) (by decide +kernel)
set_option maxRecDepth 100000 in
theorem mw_761 : Cond.fieldLink R_Mo 69 "WriteOnceDiscModel" "sDirectory" "[Z" ∈ lw_g := lw_gin (List.mem_append_right _ (List.mem_of_getElem? (i := 946) rfl)) (by decide +kernel)
set_option maxRecDepth 100000 in
theorem mw_762 : Cond.fieldLink R_Mo 72 "WriteOnceDiscModel" "sSize" "[I" ∈ lw_g := lw_gin (List.mem_append_right _ (List.mem_of_getElem? (i := 947) rfl)) (by decide +kernel)
set_option maxRecDepth 100000 in
theorem mw_763 : Cond.fieldLink R_Mo 75 "WriteOnceDiscModel" "sSector" "[I" ∈ lw_g := lw_gin (List.mem_append_right _ (List.mem_of_getElem? (i := 948) rfl)) (by decide +kernel)
set_option maxRecDepth 100000 in
theorem mw_764 : Cond.fieldLink R_Mo 81 "WriteOnceDiscModel" "sDepth" "[I" ∈ lw_g := lw_gin (List.mem_append_right _ (List.mem_of_getElem? (i := 950) rfl)) (by decide +kernel)
set_option maxRecDepth 100000 in
theorem mw_765 : Cond.fieldLink R_Mo 78 "WriteOnceDiscModel" "sName" "[J" ∈ lw_g := lw_gin (List.mem_append_right _ (List.mem_of_getElem? (i := 949) rfl)) (by decide +kernel)
set_option maxRecDepth 100000 in
theorem mw_766 : Cond.fieldLink R_Mo 283 "WriteOnceDiscModel" "seen" "I" ∈ lw_g := lw_gin (List.mem_append_right _ (List.mem_of_getElem? (i := 943) rfl)) (by decide +kernel)
set_option maxRecDepth 100000 in
theorem mw_767 : Cond.code y_Mo_begin b_Mo_begin 7 none ∈ lw_g := lw_gin (List.mem_append_right _ (List.mem_of_getElem? (i := 1268) rfl)) (by decide +kernel)
set_option maxRecDepth 100000 in
theorem mw_768 : Cond.methodLink R_Mo 295 y_Mo_begin ∈ lw_g := lw_gin (List.mem_append_right _ (List.mem_of_getElem? (i := 1265) rfl)) (by decide +kernel)
set_option maxRecDepth 100000 in
theorem mw_769 : Cond.instanceMethod y_Mo_begin ∈ lw_g := lw_gin (List.mem_append_right _ (List.mem_of_getElem? (i := 1267) rfl)) (by decide +kernel)
set_option maxRecDepth 100000 in
theorem mw_770 : Cond.selects R_Mo y_Mo_begin y_Mo_begin ∈ lw_g := lw_gin (List.mem_append_left _ (List.mem_of_getElem? (i := 64) rfl)) (by decide +kernel)
set_option maxRecDepth 100000 in
theorem mw_771 : Cond.code y_Mo_isRecord b_Mo_isRecord 11 (some .boolean) ∈ lw_g := lw_gin (List.mem_append_right _ (List.mem_of_getElem? (i := 1254) rfl)) (by decide +kernel)
set_option maxRecDepth 100000 in
theorem mw_772 : Cond.methodLink R_Mo 292 y_Mo_isRecord ∈ lw_g := lw_gin (List.mem_append_right _ (List.mem_of_getElem? (i := 1251) rfl)) (by decide +kernel)
set_option maxRecDepth 100000 in
theorem mw_773 : Cond.instanceMethod y_Mo_isRecord ∈ lw_g := lw_gin (List.mem_append_right _ (List.mem_of_getElem? (i := 1253) rfl)) (by decide +kernel)
set_option maxRecDepth 100000 in
theorem mw_774 : Cond.selects R_Mo y_Mo_isRecord y_Mo_isRecord ∈ lw_g := lw_gin (List.mem_append_left _ (List.mem_of_getElem? (i := 61) rfl)) (by decide +kernel)
set_option maxRecDepth 100000 in
theorem mw_775 : Cond.code y_Mo_isNew b_Mo_isNew 6 (some .boolean) ∈ lw_g := lw_gin (List.mem_append_right _ (List.mem_of_getElem? (i := 1276) rfl)) (by decide +kernel)
set_option maxRecDepth 100000 in
theorem mw_776 : Cond.methodLink R_Mo 305 y_Mo_isNew ∈ lw_g := lw_gin (List.mem_append_right _ (List.mem_of_getElem? (i := 1273) rfl)) (by decide +kernel)
set_option maxRecDepth 100000 in
theorem mw_777 : Cond.instanceMethod y_Mo_isNew ∈ lw_g := lw_gin (List.mem_append_right _ (List.mem_of_getElem? (i := 1275) rfl)) (by decide +kernel)
set_option maxRecDepth 100000 in
theorem mw_778 : Cond.selects R_Mo y_Mo_isNew y_Mo_isNew ∈ lw_g := lw_gin (List.mem_append_left _ (List.mem_of_getElem? (i := 66) rfl)) (by decide +kernel)
theorem d_Mo_begin_0 : decode b_Mo_begin 0 = .ok (.aload_n 0, 1) := by decide +kernel
theorem d_Mo_begin_1 : decode b_Mo_begin 1 = .ok (.getfield 66, 3) := by decide +kernel
theorem d_Mo_begin_4 : decode b_Mo_begin 4 = .ok (.iload_n 1, 1) := by decide +kernel
theorem d_Mo_begin_5 : decode b_Mo_begin 5 = .ok (.iload_n 2, 1) := by decide +kernel
theorem d_Mo_begin_6 : decode b_Mo_begin 6 = .ok (.iastore, 1) := by decide +kernel
theorem d_Mo_begin_7 : decode b_Mo_begin 7 = .ok (.aload_n 0, 1) := by decide +kernel
theorem d_Mo_begin_8 : decode b_Mo_begin 8 = .ok (.getfield 69, 3) := by decide +kernel
theorem d_Mo_begin_11 : decode b_Mo_begin 11 = .ok (.iload_n 1, 1) := by decide +kernel
theorem d_Mo_begin_29 : decode b_Mo_begin 29 = .ok (.bastore, 1) := by decide +kernel
theorem d_Mo_begin_30 : decode b_Mo_begin 30 = .ok (.aload_n 0, 1) := by decide +kernel
theorem d_Mo_begin_31 : decode b_Mo_begin 31 = .ok (.getfield 72, 3) := by decide +kernel
theorem d_Mo_begin_34 : decode b_Mo_begin 34 = .ok (.iload_n 1, 1) := by decide +kernel
theorem d_Mo_begin_35 : decode b_Mo_begin 35 = .ok (.aload_n 0, 1) := by decide +kernel
theorem d_Mo_begin_36 : decode b_Mo_begin 36 = .ok (.iload_n 3, 1) := by decide +kernel
theorem d_Mo_begin_37 : decode b_Mo_begin 37 = .ok (.bipush 10, 2) := by decide +kernel
theorem d_Mo_begin_39 : decode b_Mo_begin 39 = .ok (.iadd, 1) := by decide +kernel
theorem d_Mo_begin_40 : decode b_Mo_begin 40 = .ok (.iconst 4, 1) := by decide +kernel
theorem d_Mo_begin_41 : decode b_Mo_begin 41 = .ok (.invokevirtual 266, 3) := by decide +kernel
theorem d_Mo_begin_44 : decode b_Mo_begin 44 = .ok (.iastore, 1) := by decide +kernel
theorem d_Mo_begin_45 : decode b_Mo_begin 45 = .ok (.aload_n 0, 1) := by decide +kernel
theorem d_Mo_begin_46 : decode b_Mo_begin 46 = .ok (.getfield 75, 3) := by decide +kernel
theorem d_Mo_begin_49 : decode b_Mo_begin 49 = .ok (.iload_n 1, 1) := by decide +kernel
theorem d_Mo_begin_50 : decode b_Mo_begin 50 = .ok (.aload_n 0, 1) := by decide +kernel
theorem d_Mo_begin_51 : decode b_Mo_begin 51 = .ok (.iload_n 3, 1) := by decide +kernel
theorem d_Mo_begin_52 : decode b_Mo_begin 52 = .ok (.iconst 2, 1) := by decide +kernel
theorem d_Mo_begin_53 : decode b_Mo_begin 53 = .ok (.iadd, 1) := by decide +kernel
theorem d_Mo_begin_54 : decode b_Mo_begin 54 = .ok (.iconst 4, 1) := by decide +kernel
theorem d_Mo_begin_55 : decode b_Mo_begin 55 = .ok (.invokevirtual 266, 3) := by decide +kernel
theorem d_Mo_begin_58 : decode b_Mo_begin 58 = .ok (.iastore, 1) := by decide +kernel
theorem d_Mo_begin_59 : decode b_Mo_begin 59 = .ok (.aload_n 0, 1) := by decide +kernel
theorem d_Mo_begin_60 : decode b_Mo_begin 60 = .ok (.getfield 81, 3) := by decide +kernel
theorem d_Mo_begin_63 : decode b_Mo_begin 63 = .ok (.iload_n 1, 1) := by decide +kernel
theorem d_Mo_begin_80 : decode b_Mo_begin 80 = .ok (.iastore, 1) := by decide +kernel
theorem d_Mo_begin_81 : decode b_Mo_begin 81 = .ok (.aload_n 0, 1) := by decide +kernel
theorem d_Mo_begin_82 : decode b_Mo_begin 82 = .ok (.getfield 78, 3) := by decide +kernel
theorem d_Mo_begin_85 : decode b_Mo_begin 85 = .ok (.iload_n 1, 1) := by decide +kernel
theorem d_Mo_begin_86 : decode b_Mo_begin 86 = .ok (.lconst 0, 1) := by decide +kernel
theorem d_Mo_begin_87 : decode b_Mo_begin 87 = .ok (.lastore, 1) := by decide +kernel
theorem d_Mo_begin_127 : decode b_Mo_begin 127 = .ok (.istore 5, 2) := by decide +kernel
theorem d_Mo_begin_129 : decode b_Mo_begin 129 = .ok (.iconst 0, 1) := by decide +kernel
theorem d_Mo_begin_130 : decode b_Mo_begin 130 = .ok (.istore 6, 2) := by decide +kernel
theorem d_Mo_begin_132 : decode b_Mo_begin 132 = .ok (.iload 6, 2) := by decide +kernel
theorem d_Mo_begin_134 : decode b_Mo_begin 134 = .ok (.iload 5, 2) := by decide +kernel
theorem d_Mo_begin_136 : decode b_Mo_begin 136 = .ok (.if_icmp .ge 37, 3) := by decide +kernel
theorem d_Mo_begin_173 : decode b_Mo_begin 173 = .ok (.return_, 1) := by decide +kernel
theorem d_Mo_begin_139 : decode b_Mo_begin 139 = .ok (.aload_n 0, 1) := by decide +kernel
theorem d_Mo_begin_140 : decode b_Mo_begin 140 = .ok (.getfield 78, 3) := by decide +kernel
theorem d_Mo_begin_143 : decode b_Mo_begin 143 = .ok (.iload_n 1, 1) := by decide +kernel
theorem d_Mo_begin_144 : decode b_Mo_begin 144 = .ok (.aload_n 0, 1) := by decide +kernel
theorem d_Mo_begin_145 : decode b_Mo_begin 145 = .ok (.getfield 78, 3) := by decide +kernel
theorem d_Mo_begin_148 : decode b_Mo_begin 148 = .ok (.iload_n 1, 1) := by decide +kernel
theorem d_Mo_begin_149 : decode b_Mo_begin 149 = .ok (.laload, 1) := by decide +kernel
theorem d_Mo_begin_150 : decode b_Mo_begin 150 = .ok (.bipush 8, 2) := by decide +kernel
theorem d_Mo_begin_152 : decode b_Mo_begin 152 = .ok (.lshl, 1) := by decide +kernel
theorem d_Mo_begin_153 : decode b_Mo_begin 153 = .ok (.aload_n 0, 1) := by decide +kernel
theorem d_Mo_begin_154 : decode b_Mo_begin 154 = .ok (.iload_n 3, 1) := by decide +kernel
theorem d_Mo_begin_155 : decode b_Mo_begin 155 = .ok (.bipush 33, 2) := by decide +kernel
theorem d_Mo_begin_157 : decode b_Mo_begin 157 = .ok (.iadd, 1) := by decide +kernel
theorem d_Mo_begin_158 : decode b_Mo_begin 158 = .ok (.iload 6, 2) := by decide +kernel
theorem d_Mo_begin_160 : decode b_Mo_begin 160 = .ok (.iadd, 1) := by decide +kernel
theorem d_Mo_begin_161 : decode b_Mo_begin 161 = .ok (.invokevirtual 225, 3) := by decide +kernel
theorem d_Mo_begin_164 : decode b_Mo_begin 164 = .ok (.i2l, 1) := by decide +kernel
theorem d_Mo_begin_165 : decode b_Mo_begin 165 = .ok (.lor, 1) := by decide +kernel
theorem d_Mo_begin_166 : decode b_Mo_begin 166 = .ok (.lastore, 1) := by decide +kernel
theorem d_Mo_begin_167 : decode b_Mo_begin 167 = .ok (.iinc 6 1, 3) := by decide +kernel
theorem d_Mo_begin_170 : decode b_Mo_begin 170 = .ok (.goto (-38), 3) := by decide +kernel
theorem d_Mo_begin_88 : decode b_Mo_begin 88 = .ok (.iload 4, 2) := by decide +kernel
theorem d_Mo_begin_90 : decode b_Mo_begin 90 = .ok (.ifCond .eq 7, 3) := by decide +kernel
theorem d_Mo_begin_97 : decode b_Mo_begin 97 = .ok (.aload_n 0, 1) := by decide +kernel
theorem d_Mo_begin_98 : decode b_Mo_begin 98 = .ok (.getfield 69, 3) := by decide +kernel
theorem d_Mo_begin_101 : decode b_Mo_begin 101 = .ok (.iload_n 1, 1) := by decide +kernel
theorem d_Mo_begin_102 : decode b_Mo_begin 102 = .ok (.baload, 1) := by decide +kernel
theorem d_Mo_begin_103 : decode b_Mo_begin 103 = .ok (.ifCond .eq 14, 3) := by decide +kernel
theorem d_Mo_begin_117 : decode b_Mo_begin 117 = .ok (.aload_n 0, 1) := by decide +kernel
theorem d_Mo_begin_118 : decode b_Mo_begin 118 = .ok (.iload_n 3, 1) := by decide +kernel
theorem d_Mo_begin_119 : decode b_Mo_begin 119 = .ok (.bipush 32, 2) := by decide +kernel
theorem d_Mo_begin_121 : decode b_Mo_begin 121 = .ok (.iadd, 1) := by decide +kernel
theorem d_Mo_begin_122 : decode b_Mo_begin 122 = .ok (.invokevirtual 225, 3) := by decide +kernel
theorem d_Mo_begin_125 : decode b_Mo_begin 125 = .ok (.iconst 3, 1) := by decide +kernel
theorem d_Mo_begin_126 : decode b_Mo_begin 126 = .ok (.isub, 1) := by decide +kernel
theorem d_Mo_begin_106 : decode b_Mo_begin 106 = .ok (.aload_n 0, 1) := by decide +kernel
theorem d_Mo_begin_107 : decode b_Mo_begin 107 = .ok (.iload_n 3, 1) := by decide +kernel
theorem d_Mo_begin_108 : decode b_Mo_begin 108 = .ok (.bipush 32, 2) := by decide +kernel
theorem d_Mo_begin_110 : decode b_Mo_begin 110 = .ok (.iadd, 1) := by decide +kernel
theorem d_Mo_begin_111 : decode b_Mo_begin 111 = .ok (.invokevirtual 225, 3) := by decide +kernel
theorem d_Mo_begin_114 : decode b_Mo_begin 114 = .ok (.goto 13, 3) := by decide +kernel
theorem d_Mo_begin_93 : decode b_Mo_begin 93 = .ok (.iconst 0, 1) := by decide +kernel
theorem d_Mo_begin_94 : decode b_Mo_begin 94 = .ok (.goto 33, 3) := by decide +kernel
theorem d_Mo_begin_64 : decode b_Mo_begin 64 = .ok (.iload_n 2, 1) := by decide +kernel
theorem d_Mo_begin_65 : decode b_Mo_begin 65 = .ok (.ifCond .ge 7, 3) := by decide +kernel
theorem d_Mo_begin_72 : decode b_Mo_begin 72 = .ok (.aload_n 0, 1) := by decide +kernel
theorem d_Mo_begin_73 : decode b_Mo_begin 73 = .ok (.getfield 81, 3) := by decide +kernel
theorem d_Mo_begin_76 : decode b_Mo_begin 76 = .ok (.iload_n 2, 1) := by decide +kernel
theorem d_Mo_begin_77 : decode b_Mo_begin 77 = .ok (.iaload, 1) := by decide +kernel
theorem d_Mo_begin_78 : decode b_Mo_begin 78 = .ok (.iconst 1, 1) := by decide +kernel
theorem d_Mo_begin_79 : decode b_Mo_begin 79 = .ok (.iadd, 1) := by decide +kernel
theorem d_Mo_begin_68 : decode b_Mo_begin 68 = .ok (.iconst 0, 1) := by decide +kernel
theorem d_Mo_begin_69 : decode b_Mo_begin 69 = .ok (.goto 11, 3) := by decide +kernel
theorem d_Mo_begin_12 : decode b_Mo_begin 12 = .ok (.aload_n 0, 1) := by decide +kernel
theorem d_Mo_begin_13 : decode b_Mo_begin 13 = .ok (.iload_n 3, 1) := by decide +kernel
theorem d_Mo_begin_14 : decode b_Mo_begin 14 = .ok (.bipush 25, 2) := by decide +kernel
theorem d_Mo_begin_16 : decode b_Mo_begin 16 = .ok (.iadd, 1) := by decide +kernel
theorem d_Mo_begin_17 : decode b_Mo_begin 17 = .ok (.invokevirtual 225, 3) := by decide +kernel
theorem d_Mo_begin_20 : decode b_Mo_begin 20 = .ok (.iconst 2, 1) := by decide +kernel
theorem d_Mo_begin_21 : decode b_Mo_begin 21 = .ok (.if_icmp .ne 7, 3) := by decide +kernel
theorem d_Mo_begin_28 : decode b_Mo_begin 28 = .ok (.iconst 0, 1) := by decide +kernel
theorem d_Mo_begin_24 : decode b_Mo_begin 24 = .ok (.iconst 1, 1) := by decide +kernel
theorem d_Mo_begin_25 : decode b_Mo_begin 25 = .ok (.goto 4, 3) := by decide +kernel
theorem d_Mo_isNew_0 : decode b_Mo_isNew 0 = .ok (.aload_n 0, 1) := by decide +kernel
theorem d_Mo_isNew_1 : decode b_Mo_isNew 1 = .ok (.getfield 283, 3) := by decide +kernel
theorem d_Mo_isNew_4 : decode b_Mo_isNew 4 = .ok (.bipush 30, 2) := by decide +kernel
theorem d_Mo_isNew_6 : decode b_Mo_isNew 6 = .ok (.if_icmp .ne 5, 3) := by decide +kernel
theorem d_Mo_isNew_11 : decode b_Mo_isNew 11 = .ok (.aload_n 0, 1) := by decide +kernel
theorem d_Mo_isNew_12 : decode b_Mo_isNew 12 = .ok (.aload_n 0, 1) := by decide +kernel
theorem d_Mo_isNew_13 : decode b_Mo_isNew 13 = .ok (.getfield 283, 3) := by decide +kernel
theorem d_Mo_isNew_16 : decode b_Mo_isNew 16 = .ok (.iload_n 1, 1) := by decide +kernel
theorem d_Mo_isNew_17 : decode b_Mo_isNew 17 = .ok (.iload_n 2, 1) := by decide +kernel
theorem d_Mo_isNew_18 : decode b_Mo_isNew 18 = .ok (.iconst 0, 1) := by decide +kernel
theorem d_Mo_isNew_19 : decode b_Mo_isNew 19 = .ok (.invokevirtual 295, 3) := by decide +kernel
theorem d_Mo_isNew_22 : decode b_Mo_isNew 22 = .ok (.aload_n 0, 1) := by decide +kernel
theorem d_Mo_isNew_23 : decode b_Mo_isNew 23 = .ok (.getfield 283, 3) := by decide +kernel
theorem d_Mo_isNew_26 : decode b_Mo_isNew 26 = .ok (.istore 4, 2) := by decide +kernel
theorem d_Mo_isNew_28 : decode b_Mo_isNew 28 = .ok (.iload_n 3, 1) := by decide +kernel
theorem d_Mo_isNew_29 : decode b_Mo_isNew 29 = .ok (.ifCond .lt 37, 3) := by decide +kernel
theorem d_Mo_isNew_66 : decode b_Mo_isNew 66 = .ok (.aload_n 0, 1) := by decide +kernel
theorem d_Mo_isNew_67 : decode b_Mo_isNew 67 = .ok (.getfield 69, 3) := by decide +kernel
theorem d_Mo_isNew_70 : decode b_Mo_isNew 70 = .ok (.iload 4, 2) := by decide +kernel
theorem d_Mo_isNew_72 : decode b_Mo_isNew 72 = .ok (.baload, 1) := by decide +kernel
theorem d_Mo_isNew_73 : decode b_Mo_isNew 73 = .ok (.ifCond .ne 5, 3) := by decide +kernel
theorem d_Mo_isNew_78 : decode b_Mo_isNew 78 = .ok (.aload_n 0, 1) := by decide +kernel
theorem d_Mo_isNew_79 : decode b_Mo_isNew 79 = .ok (.getfield 81, 3) := by decide +kernel
theorem d_Mo_isNew_82 : decode b_Mo_isNew 82 = .ok (.iload 4, 2) := by decide +kernel
theorem d_Mo_isNew_84 : decode b_Mo_isNew 84 = .ok (.iaload, 1) := by decide +kernel
theorem d_Mo_isNew_85 : decode b_Mo_isNew 85 = .ok (.bipush 6, 2) := by decide +kernel
theorem d_Mo_isNew_87 : decode b_Mo_isNew 87 = .ok (.if_icmp .le 5, 3) := by decide +kernel
theorem d_Mo_isNew_92 : decode b_Mo_isNew 92 = .ok (.iconst 0, 1) := by decide +kernel
theorem d_Mo_isNew_93 : decode b_Mo_isNew 93 = .ok (.istore 5, 2) := by decide +kernel
theorem d_Mo_isNew_95 : decode b_Mo_isNew 95 = .ok (.iload 5, 2) := by decide +kernel
theorem d_Mo_isNew_97 : decode b_Mo_isNew 97 = .ok (.iload 4, 2) := by decide +kernel
theorem d_Mo_isNew_99 : decode b_Mo_isNew 99 = .ok (.if_icmp .ge 79, 3) := by decide +kernel
theorem d_Mo_isNew_178 : decode b_Mo_isNew 178 = .ok (.iconst 1, 1) := by decide +kernel
theorem d_Mo_isNew_179 : decode b_Mo_isNew 179 = .ok (.ireturn, 1) := by decide +kernel
theorem d_Mo_isNew_102 : decode b_Mo_isNew 102 = .ok (.aload_n 0, 1) := by decide +kernel
theorem d_Mo_isNew_103 : decode b_Mo_isNew 103 = .ok (.getfield 69, 3) := by decide +kernel
theorem d_Mo_isNew_106 : decode b_Mo_isNew 106 = .ok (.iload 5, 2) := by decide +kernel
theorem d_Mo_isNew_108 : decode b_Mo_isNew 108 = .ok (.baload, 1) := by decide +kernel
theorem d_Mo_isNew_109 : decode b_Mo_isNew 109 = .ok (.ifCond .eq 63, 3) := by decide +kernel
theorem d_Mo_isNew_172 : decode b_Mo_isNew 172 = .ok (.iinc 5 1, 3) := by decide +kernel
theorem d_Mo_isNew_175 : decode b_Mo_isNew 175 = .ok (.goto (-80), 3) := by decide +kernel
theorem d_Mo_isNew_112 : decode b_Mo_isNew 112 = .ok (.aload_n 0, 1) := by decide +kernel
theorem d_Mo_isNew_113 : decode b_Mo_isNew 113 = .ok (.getfield 75, 3) := by decide +kernel
theorem d_Mo_isNew_116 : decode b_Mo_isNew 116 = .ok (.iload 4, 2) := by decide +kernel
theorem d_Mo_isNew_118 : decode b_Mo_isNew 118 = .ok (.iaload, 1) := by decide +kernel
theorem d_Mo_isNew_119 : decode b_Mo_isNew 119 = .ok (.aload_n 0, 1) := by decide +kernel
theorem d_Mo_isNew_120 : decode b_Mo_isNew 120 = .ok (.getfield 75, 3) := by decide +kernel
theorem d_Mo_isNew_123 : decode b_Mo_isNew 123 = .ok (.iload 5, 2) := by decide +kernel
theorem d_Mo_isNew_125 : decode b_Mo_isNew 125 = .ok (.iaload, 1) := by decide +kernel
theorem d_Mo_isNew_126 : decode b_Mo_isNew 126 = .ok (.aload_n 0, 1) := by decide +kernel
theorem d_Mo_isNew_127 : decode b_Mo_isNew 127 = .ok (.getfield 72, 3) := by decide +kernel
theorem d_Mo_isNew_130 : decode b_Mo_isNew 130 = .ok (.iload 5, 2) := by decide +kernel
theorem d_Mo_isNew_132 : decode b_Mo_isNew 132 = .ok (.iaload, 1) := by decide +kernel
theorem d_Mo_isNew_133 : decode b_Mo_isNew 133 = .ok (.sipush 2048, 3) := by decide +kernel
theorem d_Mo_isNew_136 : decode b_Mo_isNew 136 = .ok (.idiv, 1) := by decide +kernel
theorem d_Mo_isNew_137 : decode b_Mo_isNew 137 = .ok (.iadd, 1) := by decide +kernel
theorem d_Mo_isNew_138 : decode b_Mo_isNew 138 = .ok (.if_icmp .ge 34, 3) := by decide +kernel
theorem d_Mo_isNew_141 : decode b_Mo_isNew 141 = .ok (.aload_n 0, 1) := by decide +kernel
theorem d_Mo_isNew_142 : decode b_Mo_isNew 142 = .ok (.getfield 75, 3) := by decide +kernel
theorem d_Mo_isNew_145 : decode b_Mo_isNew 145 = .ok (.iload 5, 2) := by decide +kernel
theorem d_Mo_isNew_147 : decode b_Mo_isNew 147 = .ok (.iaload, 1) := by decide +kernel
theorem d_Mo_isNew_148 : decode b_Mo_isNew 148 = .ok (.aload_n 0, 1) := by decide +kernel
theorem d_Mo_isNew_149 : decode b_Mo_isNew 149 = .ok (.getfield 75, 3) := by decide +kernel
theorem d_Mo_isNew_152 : decode b_Mo_isNew 152 = .ok (.iload 4, 2) := by decide +kernel
theorem d_Mo_isNew_154 : decode b_Mo_isNew 154 = .ok (.iaload, 1) := by decide +kernel
theorem d_Mo_isNew_155 : decode b_Mo_isNew 155 = .ok (.aload_n 0, 1) := by decide +kernel
theorem d_Mo_isNew_156 : decode b_Mo_isNew 156 = .ok (.getfield 72, 3) := by decide +kernel
theorem d_Mo_isNew_159 : decode b_Mo_isNew 159 = .ok (.iload 4, 2) := by decide +kernel
theorem d_Mo_isNew_161 : decode b_Mo_isNew 161 = .ok (.iaload, 1) := by decide +kernel
theorem d_Mo_isNew_162 : decode b_Mo_isNew 162 = .ok (.sipush 2048, 3) := by decide +kernel
theorem d_Mo_isNew_165 : decode b_Mo_isNew 165 = .ok (.idiv, 1) := by decide +kernel
theorem d_Mo_isNew_166 : decode b_Mo_isNew 166 = .ok (.iadd, 1) := by decide +kernel
theorem d_Mo_isNew_167 : decode b_Mo_isNew 167 = .ok (.if_icmp .ge 5, 3) := by decide +kernel
theorem d_Mo_isNew_170 : decode b_Mo_isNew 170 = .ok (.iconst 0, 1) := by decide +kernel
theorem d_Mo_isNew_171 : decode b_Mo_isNew 171 = .ok (.ireturn, 1) := by decide +kernel
theorem d_Mo_isNew_90 : decode b_Mo_isNew 90 = .ok (.iconst 0, 1) := by decide +kernel
theorem d_Mo_isNew_91 : decode b_Mo_isNew 91 = .ok (.ireturn, 1) := by decide +kernel
theorem d_Mo_isNew_76 : decode b_Mo_isNew 76 = .ok (.iconst 1, 1) := by decide +kernel
theorem d_Mo_isNew_77 : decode b_Mo_isNew 77 = .ok (.ireturn, 1) := by decide +kernel
theorem d_Mo_isNew_32 : decode b_Mo_isNew 32 = .ok (.aload_n 0, 1) := by decide +kernel
theorem d_Mo_isNew_33 : decode b_Mo_isNew 33 = .ok (.getfield 78, 3) := by decide +kernel
theorem d_Mo_isNew_36 : decode b_Mo_isNew 36 = .ok (.iload_n 3, 1) := by decide +kernel
theorem d_Mo_isNew_37 : decode b_Mo_isNew 37 = .ok (.laload, 1) := by decide +kernel
theorem d_Mo_isNew_38 : decode b_Mo_isNew 38 = .ok (.aload_n 0, 1) := by decide +kernel
theorem d_Mo_isNew_39 : decode b_Mo_isNew 39 = .ok (.getfield 69, 3) := by decide +kernel
theorem d_Mo_isNew_42 : decode b_Mo_isNew 42 = .ok (.iload_n 3, 1) := by decide +kernel
theorem d_Mo_isNew_43 : decode b_Mo_isNew 43 = .ok (.baload, 1) := by decide +kernel
theorem d_Mo_isNew_44 : decode b_Mo_isNew 44 = .ok (.aload_n 0, 1) := by decide +kernel
theorem d_Mo_isNew_45 : decode b_Mo_isNew 45 = .ok (.getfield 78, 3) := by decide +kernel
theorem d_Mo_isNew_48 : decode b_Mo_isNew 48 = .ok (.iload 4, 2) := by decide +kernel
theorem d_Mo_isNew_50 : decode b_Mo_isNew 50 = .ok (.laload, 1) := by decide +kernel
theorem d_Mo_isNew_51 : decode b_Mo_isNew 51 = .ok (.aload_n 0, 1) := by decide +kernel
theorem d_Mo_isNew_52 : decode b_Mo_isNew 52 = .ok (.getfield 69, 3) := by decide +kernel
theorem d_Mo_isNew_55 : decode b_Mo_isNew 55 = .ok (.iload 4, 2) := by decide +kernel
theorem d_Mo_isNew_57 : decode b_Mo_isNew 57 = .ok (.baload, 1) := by decide +kernel
theorem d_Mo_isNew_58 : decode b_Mo_isNew 58 = .ok (.invokestatic 177, 3) := by decide +kernel
theorem d_Mo_isNew_61 : decode b_Mo_isNew 61 = .ok (.ifCond .lt 5, 3) := by decide +kernel
theorem d_Mo_isNew_64 : decode b_Mo_isNew 64 = .ok (.iconst 0, 1) := by decide +kernel
theorem d_Mo_isNew_65 : decode b_Mo_isNew 65 = .ok (.ireturn, 1) := by decide +kernel
theorem d_Mo_isNew_9 : decode b_Mo_isNew 9 = .ok (.iconst 0, 1) := by decide +kernel
theorem d_Mo_isNew_10 : decode b_Mo_isNew 10 = .ok (.ireturn, 1) := by decide +kernel
theorem d_Mo_isGone_0 : decode b_Mo_isGone 0 = .ok (.sipush 2048, 3) := by decide +kernel
theorem d_Mo_isGone_3 : decode b_Mo_isGone 3 = .ok (.aload_n 0, 1) := by decide +kernel
theorem d_Mo_isGone_4 : decode b_Mo_isGone 4 = .ok (.getfield 75, 3) := by decide +kernel
theorem d_Mo_isGone_7 : decode b_Mo_isGone 7 = .ok (.iload_n 1, 1) := by decide +kernel
theorem d_Mo_isGone_8 : decode b_Mo_isGone 8 = .ok (.iaload, 1) := by decide +kernel
theorem d_Mo_isGone_9 : decode b_Mo_isGone 9 = .ok (.imul, 1) := by decide +kernel
theorem d_Mo_isGone_10 : decode b_Mo_isGone 10 = .ok (.istore_n 2, 1) := by decide +kernel
theorem d_Mo_isGone_11 : decode b_Mo_isGone 11 = .ok (.iconst 0, 1) := by decide +kernel
theorem d_Mo_isGone_12 : decode b_Mo_isGone 12 = .ok (.istore_n 3, 1) := by decide +kernel
theorem d_Mo_isGone_13 : decode b_Mo_isGone 13 = .ok (.iconst (-1), 1) := by decide +kernel
theorem d_Mo_isGone_14 : decode b_Mo_isGone 14 = .ok (.istore 4, 2) := by decide +kernel
theorem d_Mo_isGone_16 : decode b_Mo_isGone 16 = .ok (.iconst 0, 1) := by decide +kernel
theorem d_Mo_isGone_17 : decode b_Mo_isGone 17 = .ok (.istore 5, 2) := by decide +kernel
theorem d_Mo_isGone_19 : decode b_Mo_isGone 19 = .ok (.iload 5, 2) := by decide +kernel
theorem d_Mo_isGone_21 : decode b_Mo_isGone 21 = .ok (.aload_n 0, 1) := by decide +kernel
theorem d_Mo_isGone_22 : decode b_Mo_isGone 22 = .ok (.getfield 72, 3) := by decide +kernel
theorem d_Mo_isGone_25 : decode b_Mo_isGone 25 = .ok (.iload_n 1, 1) := by decide +kernel
theorem d_Mo_isGone_26 : decode b_Mo_isGone 26 = .ok (.iaload, 1) := by decide +kernel
theorem d_Mo_isGone_27 : decode b_Mo_isGone 27 = .ok (.if_icmp .ge 185, 3) := by decide +kernel
theorem d_Mo_isGone_212 : decode b_Mo_isGone 212 = .ok (.iload_n 3, 1) := by decide +kernel
theorem d_Mo_isGone_213 : decode b_Mo_isGone 213 = .ok (.iconst 1, 1) := by decide +kernel
theorem d_Mo_isGone_214 : decode b_Mo_isGone 214 = .ok (.if_icmp .gt 11, 3) := by decide +kernel
theorem d_Mo_isGone_225 : decode b_Mo_isGone 225 = .ok (.iconst 1, 1) := by decide +kernel
theorem d_Mo_isGone_226 : decode b_Mo_isGone 226 = .ok (.goto 4, 3) := by decide +kernel
theorem d_Mo_isGone_230 : decode b_Mo_isGone 230 = .ok (.ireturn, 1) := by decide +kernel
theorem d_Mo_isGone_217 : decode b_Mo_isGone 217 = .ok (.aload_n 0, 1) := by decide +kernel
theorem d_Mo_isGone_218 : decode b_Mo_isGone 218 = .ok (.iload_n 2, 1) := by decide +kernel
theorem d_Mo_isGone_219 : decode b_Mo_isGone 219 = .ok (.invokevirtual 263, 3) := by decide +kernel
theorem d_Mo_isGone_222 : decode b_Mo_isGone 222 = .ok (.ifCond .eq 7, 3) := by decide +kernel
theorem d_Mo_isGone_229 : decode b_Mo_isGone 229 = .ok (.iconst 0, 1) := by decide +kernel
theorem d_Mo_isGone_30 : decode b_Mo_isGone 30 = .ok (.aload_n 0, 1) := by decide +kernel
theorem d_Mo_isGone_31 : decode b_Mo_isGone 31 = .ok (.iload_n 2, 1) := by decide +kernel
theorem d_Mo_isGone_32 : decode b_Mo_isGone 32 = .ok (.iload 5, 2) := by decide +kernel
theorem d_Mo_isGone_34 : decode b_Mo_isGone 34 = .ok (.iadd, 1) := by decide +kernel
theorem d_Mo_isGone_35 : decode b_Mo_isGone 35 = .ok (.invokevirtual 225, 3) := by decide +kernel
theorem d_Mo_isGone_38 : decode b_Mo_isGone 38 = .ok (.ifCond .ne 21, 3) := by decide +kernel
theorem d_Mo_isGone_59 : decode b_Mo_isGone 59 = .ok (.iload_n 2, 1) := by decide +kernel
theorem d_Mo_isGone_60 : decode b_Mo_isGone 60 = .ok (.iload 5, 2) := by decide +kernel
theorem d_Mo_isGone_62 : decode b_Mo_isGone 62 = .ok (.iadd, 1) := by decide +kernel
theorem d_Mo_isGone_63 : decode b_Mo_isGone 63 = .ok (.istore 6, 2) := by decide +kernel
theorem d_Mo_isGone_65 : decode b_Mo_isGone 65 = .ok (.aload_n 0, 1) := by decide +kernel
theorem d_Mo_isGone_66 : decode b_Mo_isGone 66 = .ok (.iload 6, 2) := by decide +kernel
theorem d_Mo_isGone_78 : decode b_Mo_isGone 78 = .ok (.invokevirtual 292, 3) := by decide +kernel
theorem d_Mo_isGone_81 : decode b_Mo_isGone 81 = .ok (.ifCond .ne 5, 3) := by decide +kernel
theorem d_Mo_isGone_86 : decode b_Mo_isGone 86 = .ok (.iload_n 3, 1) := by decide +kernel
theorem d_Mo_isGone_87 : decode b_Mo_isGone 87 = .ok (.iconst 2, 1) := by decide +kernel
theorem d_Mo_isGone_88 : decode b_Mo_isGone 88 = .ok (.if_icmp .ge 72, 3) := by decide +kernel
theorem d_Mo_isGone_160 : decode b_Mo_isGone 160 = .ok (.aload_n 0, 1) := by decide +kernel
theorem d_Mo_isGone_161 : decode b_Mo_isGone 161 = .ok (.iload_n 1, 1) := by decide +kernel
theorem d_Mo_isGone_162 : decode b_Mo_isGone 162 = .ok (.iload 6, 2) := by decide +kernel
theorem d_Mo_isGone_164 : decode b_Mo_isGone 164 = .ok (.iload 4, 2) := by decide +kernel
theorem d_Mo_isGone_166 : decode b_Mo_isGone 166 = .ok (.invokevirtual 305, 3) := by decide +kernel
theorem d_Mo_isGone_169 : decode b_Mo_isGone 169 = .ok (.ifCond .ne 10, 3) := by decide +kernel
theorem d_Mo_isGone_179 : decode b_Mo_isGone 179 = .ok (.aload_n 0, 1) := by decide +kernel
theorem d_Mo_isGone_180 : decode b_Mo_isGone 180 = .ok (.getfield 283, 3) := by decide +kernel
theorem d_Mo_isGone_183 : decode b_Mo_isGone 183 = .ok (.istore 4, 2) := by decide +kernel
theorem d_Mo_isGone_185 : decode b_Mo_isGone 185 = .ok (.aload_n 0, 1) := by decide +kernel
theorem d_Mo_isGone_186 : decode b_Mo_isGone 186 = .ok (.dup, 1) := by decide +kernel
theorem d_Mo_isGone_187 : decode b_Mo_isGone 187 = .ok (.getfield 283, 3) := by decide +kernel
theorem d_Mo_isGone_190 : decode b_Mo_isGone 190 = .ok (.iconst 1, 1) := by decide +kernel
theorem d_Mo_isGone_191 : decode b_Mo_isGone 191 = .ok (.iadd, 1) := by decide +kernel
theorem d_Mo_isGone_192 : decode b_Mo_isGone 192 = .ok (.putfield 283, 3) := by decide +kernel
theorem d_Mo_isGone_195 : decode b_Mo_isGone 195 = .ok (.iinc 3 1, 3) := by decide +kernel
theorem d_Mo_isGone_198 : decode b_Mo_isGone 198 = .ok (.iload 5, 2) := by decide +kernel
theorem d_Mo_isGone_200 : decode b_Mo_isGone 200 = .ok (.aload_n 0, 1) := by decide +kernel
theorem d_Mo_isGone_201 : decode b_Mo_isGone 201 = .ok (.iload 6, 2) := by decide +kernel
theorem d_Mo_isGone_203 : decode b_Mo_isGone 203 = .ok (.invokevirtual 225, 3) := by decide +kernel
theorem d_Mo_isGone_206 : decode b_Mo_isGone 206 = .ok (.iadd, 1) := by decide +kernel
theorem d_Mo_isGone_207 : decode b_Mo_isGone 207 = .ok (.istore 5, 2) := by decide +kernel
theorem d_Mo_isGone_209 : decode b_Mo_isGone 209 = .ok (.goto (-190), 3) := by decide +kernel
theorem d_Mo_isGone_172 : decode b_Mo_isGone 172 = .ok (.aload_n 0, 1) := by decide +kernel
theorem d_Mo_isGone_173 : decode b_Mo_isGone 173 = .ok (.iload 6, 2) := by decide +kernel
theorem d_Mo_isGone_175 : decode b_Mo_isGone 175 = .ok (.invokevirtual 263, 3) := by decide +kernel
theorem d_Mo_isGone_178 : decode b_Mo_isGone 178 = .ok (.ireturn, 1) := by decide +kernel
theorem d_Mo_isGone_109 : decode b_Mo_isGone 109 = .ok (.istore 7, 2) := by decide +kernel
theorem d_Mo_isGone_111 : decode b_Mo_isGone 111 = .ok (.aload_n 0, 1) := by decide +kernel
theorem d_Mo_isGone_112 : decode b_Mo_isGone 112 = .ok (.iload 6, 2) := by decide +kernel
theorem d_Mo_isGone_114 : decode b_Mo_isGone 114 = .ok (.iconst 2, 1) := by decide +kernel
theorem d_Mo_isGone_115 : decode b_Mo_isGone 115 = .ok (.iadd, 1) := by decide +kernel
theorem d_Mo_isGone_116 : decode b_Mo_isGone 116 = .ok (.iconst 4, 1) := by decide +kernel
theorem d_Mo_isGone_117 : decode b_Mo_isGone 117 = .ok (.invokevirtual 266, 3) := by decide +kernel
theorem d_Mo_isGone_120 : decode b_Mo_isGone 120 = .ok (.aload_n 0, 1) := by decide +kernel
theorem d_Mo_isGone_121 : decode b_Mo_isGone 121 = .ok (.getfield 75, 3) := by decide +kernel
theorem d_Mo_isGone_124 : decode b_Mo_isGone 124 = .ok (.iload 7, 2) := by decide +kernel
theorem d_Mo_isGone_126 : decode b_Mo_isGone 126 = .ok (.iaload, 1) := by decide +kernel
theorem d_Mo_isGone_127 : decode b_Mo_isGone 127 = .ok (.if_icmp .ne 23, 3) := by decide +kernel
theorem d_Mo_isGone_150 : decode b_Mo_isGone 150 = .ok (.aload_n 0, 1) := by decide +kernel
theorem d_Mo_isGone_151 : decode b_Mo_isGone 151 = .ok (.iload 6, 2) := by decide +kernel
theorem d_Mo_isGone_153 : decode b_Mo_isGone 153 = .ok (.invokevirtual 263, 3) := by decide +kernel
theorem d_Mo_isGone_156 : decode b_Mo_isGone 156 = .ok (.ireturn, 1) := by decide +kernel
theorem d_Mo_isGone_130 : decode b_Mo_isGone 130 = .ok (.aload_n 0, 1) := by decide +kernel
theorem d_Mo_isGone_131 : decode b_Mo_isGone 131 = .ok (.iload 6, 2) := by decide +kernel
theorem d_Mo_isGone_133 : decode b_Mo_isGone 133 = .ok (.bipush 10, 2) := by decide +kernel
theorem d_Mo_isGone_135 : decode b_Mo_isGone 135 = .ok (.iadd, 1) := by decide +kernel
theorem d_Mo_isGone_136 : decode b_Mo_isGone 136 = .ok (.iconst 4, 1) := by decide +kernel
theorem d_Mo_isGone_137 : decode b_Mo_isGone 137 = .ok (.invokevirtual 266, 3) := by decide +kernel
theorem d_Mo_isGone_140 : decode b_Mo_isGone 140 = .ok (.aload_n 0, 1) := by decide +kernel
theorem d_Mo_isGone_141 : decode b_Mo_isGone 141 = .ok (.getfield 72, 3) := by decide +kernel
theorem d_Mo_isGone_144 : decode b_Mo_isGone 144 = .ok (.iload 7, 2) := by decide +kernel
theorem d_Mo_isGone_146 : decode b_Mo_isGone 146 = .ok (.iaload, 1) := by decide +kernel
theorem d_Mo_isGone_147 : decode b_Mo_isGone 147 = .ok (.if_icmp .eq 10, 3) := by decide +kernel
theorem d_Mo_isGone_157 : decode b_Mo_isGone 157 = .ok (.goto 38, 3) := by decide +kernel
theorem d_Mo_isGone_91 : decode b_Mo_isGone 91 = .ok (.iload_n 3, 1) := by decide +kernel
theorem d_Mo_isGone_92 : decode b_Mo_isGone 92 = .ok (.ifCond .eq 7, 3) := by decide +kernel
theorem d_Mo_isGone_99 : decode b_Mo_isGone 99 = .ok (.iload_n 1, 1) := by decide +kernel
theorem d_Mo_isGone_100 : decode b_Mo_isGone 100 = .ok (.goto 9, 3) := by decide +kernel
theorem d_Mo_isGone_95 : decode b_Mo_isGone 95 = .ok (.iload_n 1, 1) := by decide +kernel
theorem d_Mo_isGone_96 : decode b_Mo_isGone 96 = .ok (.ifCond .ne 7, 3) := by decide +kernel
theorem d_Mo_isGone_103 : decode b_Mo_isGone 103 = .ok (.aload_n 0, 1) := by decide +kernel
theorem d_Mo_isGone_104 : decode b_Mo_isGone 104 = .ok (.getfield 66, 3) := by decide +kernel
theorem d_Mo_isGone_107 : decode b_Mo_isGone 107 = .ok (.iload_n 1, 1) := by decide +kernel
theorem d_Mo_isGone_108 : decode b_Mo_isGone 108 = .ok (.iaload, 1) := by decide +kernel
theorem d_Mo_isGone_84 : decode b_Mo_isGone 84 = .ok (.iconst 0, 1) := by decide +kernel
theorem d_Mo_isGone_85 : decode b_Mo_isGone 85 = .ok (.ireturn, 1) := by decide +kernel
theorem d_Mo_isGone_68 : decode b_Mo_isGone 68 = .ok (.iload_n 3, 1) := by decide +kernel
theorem d_Mo_isGone_69 : decode b_Mo_isGone 69 = .ok (.iconst 2, 1) := by decide +kernel
theorem d_Mo_isGone_70 : decode b_Mo_isGone 70 = .ok (.if_icmp .ge 7, 3) := by decide +kernel
theorem d_Mo_isGone_77 : decode b_Mo_isGone 77 = .ok (.iconst 2, 1) := by decide +kernel
theorem d_Mo_isGone_73 : decode b_Mo_isGone 73 = .ok (.iload_n 3, 1) := by decide +kernel
theorem d_Mo_isGone_74 : decode b_Mo_isGone 74 = .ok (.goto 4, 3) := by decide +kernel
theorem d_Mo_isGone_41 : decode b_Mo_isGone 41 = .ok (.iload 5, 2) := by decide +kernel
theorem d_Mo_isGone_43 : decode b_Mo_isGone 43 = .ok (.iload 5, 2) := by decide +kernel
theorem d_Mo_isGone_45 : decode b_Mo_isGone 45 = .ok (.sipush 2048, 3) := by decide +kernel
theorem d_Mo_isGone_48 : decode b_Mo_isGone 48 = .ok (.irem, 1) := by decide +kernel
theorem d_Mo_isGone_49 : decode b_Mo_isGone 49 = .ok (.isub, 1) := by decide +kernel
theorem d_Mo_isGone_50 : decode b_Mo_isGone 50 = .ok (.sipush 2048, 3) := by decide +kernel
theorem d_Mo_isGone_53 : decode b_Mo_isGone 53 = .ok (.iadd, 1) := by decide +kernel
theorem d_Mo_isGone_54 : decode b_Mo_isGone 54 = .ok (.istore 5, 2) := by decide +kernel
theorem d_Mo_isGone_56 : decode b_Mo_isGone 56 = .ok (.goto (-37), 3) := by decide +kernel
set_option maxHeartbeats 4000000 in
set_option maxRecDepth 100000 in
theorem m_begin (l : Launch) (D : va_G) (t : Nat → ClassId) (G : hG) (ak av : Nat → Nat) (h : hM) (τ : tM) (n : Nat) (m9 : Nat) (k9 : Int32) (ab9 : Int32) (p9 : Int32) (z9 : Int32) (A : Nat → Nat) (th sd lo le wr ma nu di pl se wg op : Int32) (hn : n ≤ 200) (hT : TI τ t n h) (T_m9 : τ m9 = (20, 0)) (Z_z9 : zb z9) (F_m9 : h m9 = some (.inr (9, mf A n th sd lo le wr ma nu di pl se wg op))) (hA : ∀ i, i < 28 → τ (A i) = (30, i)) (hmk : mOk sd lo ma se op) (hk0 : 0 ≤ k9.toInt) (hk1 : k9.toInt < 31) (ha0 : -1 ≤ ab9.toInt) (ha1 : ab9.toInt < 31) (hp0 : 0 ≤ p9.toInt) (hp1 : p9.toInt < 409600) (hrec : recQ (aI h (A 0)) sd p9 n) : Met l y_Mo_begin (.code y_Mo_begin b_Mo_begin 7 none :: lw_g) { frames := 2, cells := 0, slots := 0, locals := 45 } (hP (kE D t G ak av) D vwCl G h [.ref m9, .int k9, .int ab9, .int p9, .int z9]) (hQv D vwCl G (fun h' => TI τ t n h' ∧ kf τ [(30, 17), (30, 18), (30, 19), (30, 20), (30, 21), (30, 22)] [] h h' ∧ (∃ sz fr : Int32, aI h' (A 17) = upd (aI h (A 17)) k9.toInt.toNat ab9 ∧ aI h' (A 19) = upd (aI h (A 19)) k9.toInt.toNat sz ∧ aI h' (A 20) = upd (aI h (A 20)) k9.toInt.toNat fr ∧ (0 ≤ sz.toInt ∧ 0 ≤ fr.toInt ∧ fr.toInt * 2048 + sz.toInt ≤ 2048 * n)))) 0 0 G.P := by
  refine Met.ofW (cc := b_Mo_begin) (maxL := 7) (ret := none) (by decide) rfl ?_
  intro p e s m args below meth c s₁ Bd hml hv
  obtain ⟨ha, hE, hH⟩ := hv
  have hx := Bd.exec
  have hb := Bd.bytes
  have hr := Bd.returns
  have hts : ∀ w ∈ lw_g, w.before args s = true := fun w hw => atoms_spec (ws := (.code y_Mo_begin b_Mo_begin 7 none :: lw_g)) Bd.pre w (List.mem_cons_of_mem _ hw)
  have hown : s.vm.findClass R_Mo = some m.cls := findClass_of_methodNamed Bd.named
  have hlocks := Bd.notSynchronized
  have hK := hE.1
  have hH0 := hH
  have hLo : hLc G.P [] := hLc_nil
  have hz : s.heap.size ≤ s.heap.size := Nat.le_refl _
  have hl := lv_entry [.ref m9, .int k9, .int ab9, .int p9, .int z9] (n := 7) (Nat.le_of_ble_eq_true rfl)
  rw [show entryFrame m args 7 = F0 m 0 ((lg_sl [.ref m9, .int k9, .int ab9, .int p9, .int z9] ++ List.replicate (7 - (lg_sl [.ref m9, .int k9, .int ab9, .int p9, .int z9]).length) Slot.unset).toArray) [] from (by rw [ha]; exact lg_entry_eq m [.ref m9, .int k9, .int ab9, .int p9, .int z9] 7)]
  generalize (lg_sl [.ref m9, .int k9, .int ab9, .int p9, .int z9] ++ List.replicate (7 - (lg_sl [.ref m9, .int k9, .int ab9, .int p9, .int z9]).length) Slot.unset).toArray = ls at hl ⊢
  have hl : lv_has ls 7 [(0, .ref m9), (1, .int k9), (2, .int ab9), (3, .int p9), (4, .int z9)] := hl
  have hkf : kf τ [(30, 17), (30, 18), (30, 19), (30, 20), (30, 21), (30, 22)] [] h h := kf_rf
  obtain ⟨hsd, hlo, hma, hse, hop⟩ := id hmk
  have inI : (nI n).toInt = n := nI_toInt (by omega)
  obtain ⟨g_1, F_A0, c_2⟩ := TI_arB (L := 819200) hT (hA 0 (by decide)) rfl rfl
  obtain ⟨g_3, F_A17⟩ := TI_arI (L := 31) hT (hA 17 (by decide)) rfl rfl
  obtain ⟨g_4, F_A19⟩ := TI_arI (L := 31) hT (hA 19 (by decide)) rfl rfl
  obtain ⟨g_5, F_A20⟩ := TI_arI (L := 31) hT (hA 20 (by decide)) rfl rfl
  have h17e := aI_of F_A17
  have h19e := aI_of F_A19
  have h20e := aI_of F_A20
  rw [aI_of F_A0] at hrec
  obtain ⟨qle, qid, qsz, qfr, q1, q2, q3, q4, ⟨q5, q6, q7, q8, q9⟩, q10⟩ := hrec
  refine lv_aload_n hx hb d_Mo_begin_0 rfl (lv_at hl 0 rfl) ?_
  refine hm_get (ci := 9) (v := .ref (A 17)) (C := R_Mo) (T := F_Mo) (N := 41) hx hb hts ig_Mo hown hK hH F_m9 rfl 29 (by decide) (hts _ mw_760) (fun _ h9 => h9) rfl d_Mo_begin_1 ?_
  refine lv_iload_n hx hb d_Mo_begin_4 rfl (lv_at hl 1 rfl) ?_
  refine lv_iload_n hx hb d_Mo_begin_5 rfl (lv_at hl 2 rfl) ?_
  refine hm_iast hx hb hK hH hLo 2 F_A17 rfl (iIn (by omega) (by omega)) d_Mo_begin_6 (fun H_6 locs hH z_7 hLo => ?_)
  have hz : s.heap.size ≤ H_6.size := by rw [z_7]; exact hz
  obtain ⟨h_8, e_9⟩ : ∃ z, z = hu h (A 17) (.inl ((t 2), 31, .inl (upd g_3 k9.toNatClampNeg ab9))) := ⟨_, rfl⟩
  have hH : hm D vwCl G h_8 H_6 := by rw [e_9]; exact hH
  have F_m9 : h_8 m9 = some (.inr (9, mf A n th sd lo le wr ma nu di pl se wg op)) := by rw [e_9, hu_n (tne T_m9 (hA 17 (by decide)) (by decide))]; exact F_m9
  have F_A0 : h_8 (A 0) = some (.inl ((t 0), 819200, .inl g_1)) := by rw [e_9, hu_n (tneF (hA 0 (by decide)) (hA 17 (by decide)) (by decide))]; exact F_A0
  have F_A19 : h_8 (A 19) = some (.inl ((t 2), 31, .inl g_4)) := by rw [e_9, hu_n (tneF (hA 19 (by decide)) (hA 17 (by decide)) (by decide))]; exact F_A19
  have F_A20 : h_8 (A 20) = some (.inl ((t 2), 31, .inl g_5)) := by rw [e_9, hu_n (tneF (hA 20 (by decide)) (hA 17 (by decide)) (by decide))]; exact F_A20
  have F_A17 : h_8 (A 17) = some (.inl ((t 2), 31, .inl (upd g_3 k9.toNatClampNeg ab9))) := by rw [e_9]; exact hu_s _ _ _
  have hT : TI τ t n h_8 := by rw [e_9]; exact TI_put hT (hA 17 (by decide)) (by decide) (ok_I rfl rfl)
  have hkf : kf τ [(30, 17), (30, 18), (30, 19), (30, 20), (30, 21), (30, 22)] [] h h_8 := by rw [e_9]; exact kf_put hkf (hA 17 (by decide)) List.mem_cons_self
  obtain ⟨g_10, e_11⟩ : ∃ z, z = upd g_3 k9.toNatClampNeg ab9 := ⟨_, rfl⟩
  rw [← e_11] at F_A17
  refine lv_aload_n hx hb d_Mo_begin_7 rfl (lv_at hl 0 rfl) ?_
  refine hm_get (ci := 9) (v := .ref (A 18)) (C := R_Mo) (T := F_Mo) (N := 41) hx hb hts ig_Mo hown hK hH F_m9 rfl 30 (by decide) (hts _ mw_761) (fun _ h9 => h9) rfl d_Mo_begin_8 ?_
  refine lv_iload_n hx hb d_Mo_begin_11 rfl (lv_at hl 1 rfl) ?_
  refine hm_cut (α := Int32) (fun df9 ls H locs HH => (lv_has ls 7 [(0, .ref m9), (1, .int k9), (2, .int ab9), (3, .int p9), (4, .int z9)]) ∧ (hm D vwCl G HH H) ∧ (s.heap.size ≤ H.size) ∧ (hLc G.P locs) ∧ (h_8 = HH) ∧ (zb df9)) 29 (fun df9 => [.int df9, .int k9, .ref (A 18)]) ?_ (fun J29 => ?_)
  · skip
    rintro df9 ls H locs HH ⟨hl, hH, hz, hLo, rfl, P_df9⟩
    obtain ⟨g_12, F_A18, c_13⟩ := TI_arZ (L := 31) hT (hA 18 (by decide)) rfl rfl
    refine hm_zast hx hb hK hH hLo 1 F_A18 rfl (iIn (by omega) (by omega)) d_Mo_begin_29 (fun H_14 locs hH z_15 hLo => ?_)
    have hz : s.heap.size ≤ H_14.size := by rw [z_15]; exact hz
    rw [zb_nar (v := df9) P_df9] at hH
    obtain ⟨h_16, e_17⟩ : ∃ z, z = hu h_8 (A 18) (.inl ((t 1), 31, .inl (upd g_12 k9.toNatClampNeg df9))) := ⟨_, rfl⟩
    have hH : hm D vwCl G h_16 H_14 := by rw [e_17]; exact hH
    have F_m9 : h_16 m9 = some (.inr (9, mf A n th sd lo le wr ma nu di pl se wg op)) := by rw [e_17, hu_n (tne T_m9 (hA 18 (by decide)) (by decide))]; exact F_m9
    have F_A0 : h_16 (A 0) = some (.inl ((t 0), 819200, .inl g_1)) := by rw [e_17, hu_n (tneF (hA 0 (by decide)) (hA 18 (by decide)) (by decide))]; exact F_A0
    have F_A17 : h_16 (A 17) = some (.inl ((t 2), 31, .inl g_10)) := by rw [e_17, hu_n (tneF (hA 17 (by decide)) (hA 18 (by decide)) (by decide))]; exact F_A17
    have F_A19 : h_16 (A 19) = some (.inl ((t 2), 31, .inl g_4)) := by rw [e_17, hu_n (tneF (hA 19 (by decide)) (hA 18 (by decide)) (by decide))]; exact F_A19
    have F_A20 : h_16 (A 20) = some (.inl ((t 2), 31, .inl g_5)) := by rw [e_17, hu_n (tneF (hA 20 (by decide)) (hA 18 (by decide)) (by decide))]; exact F_A20
    have F_A18 : h_16 (A 18) = some (.inl ((t 1), 31, .inl (upd g_12 k9.toNatClampNeg df9))) := by rw [e_17]; exact hu_s _ _ _
    have hT : TI τ t n h_16 := by rw [e_17]; exact TI_put hT (hA 18 (by decide)) (by decide) (ok_Z rfl rfl (zbF_up c_13 P_df9))
    have hkf : kf τ [(30, 17), (30, 18), (30, 19), (30, 20), (30, 21), (30, 22)] [] h h_16 := by rw [e_17]; exact kf_put hkf (hA 18 (by decide)) (List.mem_cons_of_mem _ List.mem_cons_self)
    obtain ⟨g_18, e_19⟩ : ∃ z, z = upd g_12 k9.toNatClampNeg df9 := ⟨_, rfl⟩
    rw [← e_19] at F_A18
    have c_20 : zbF g_18 := by rw [e_19]; exact (zbF_up c_13 P_df9)
    refine lv_aload_n hx hb d_Mo_begin_30 rfl (lv_at hl 0 rfl) ?_
    refine hm_get (ci := 9) (v := .ref (A 19)) (C := R_Mo) (T := F_Mo) (N := 41) hx hb hts ig_Mo hown hK hH F_m9 rfl 31 (by decide) (hts _ mw_762) (fun _ h9 => h9) rfl d_Mo_begin_31 ?_
    refine lv_iload_n hx hb d_Mo_begin_34 rfl (lv_at hl 1 rfl) ?_
    refine lv_aload_n hx hb d_Mo_begin_35 rfl (lv_at hl 0 rfl) ?_
    refine lv_iload_n hx hb d_Mo_begin_36 rfl (lv_at hl 3 rfl) ?_
    refine lv_bipush (v := 10) hx hb d_Mo_begin_37 (by decide) ?_
    refine lv_iadd hx hb d_Mo_begin_39 ?_
    refine lv_topi (fun v_21 e_22 => ?_)
    refine lv_iconst (v := 4) hx hb d_Mo_begin_40 (by decide) ?_
    have is_23 : v_21.toInt = p9.toInt + 10 := by rw [e_22]; exact iAddK 10 rfl (by omega) (by omega)
    refine hm_callPi (va_runV (As := [.int v_21, .int 4]) (b := m9) (rest := [.int k9, .ref (A 19)]) ⟨hx, hb, hml, hown, hts⟩ (m_lowAt l D t G ak av h_16 τ n m9 v_21 4 A th sd lo le wr ma nu di pl se wg op   hn hT T_m9  F_m9 hA ⟨hsd, hlo, (by omega), ⟨by omega, by omega⟩, ⟨by omega, by omega⟩⟩ (by have l0 : (4 : Int32).toInt = 4 := rfl; omega) (by have l0 : (4 : Int32).toInt = 4 := rfl; omega) (by have l0 : (4 : Int32).toInt = 4 := rfl; omega)) ⟨cw9B 2 hts mw_742 mw_743 mw_579 rfl rfl (by decide +kernel) ⟨Nat.le_of_ble_eq_true rfl, Nat.le_of_ble_eq_true rfl⟩, hts _ mw_744, hts _ mw_745⟩ (hP_V (q := (R_Mo, F_Mo, 41)) kE_ok hE hK hH F_m9 rfl) rfl rfl hl.1 rfl (lv_room (Nat.le_of_ble_eq_true rfl)) d_Mo_begin_41 ⟨Nat.le_of_ble_eq_true rfl, Nat.le_of_ble_eq_true rfl⟩) (fun r_24 h_25 H_26 hp_28  hH z_27 => ?_)
    have hz : s.heap.size ≤ H_26.size := Nat.le_trans hz z_27
    obtain ⟨xp_29, rfl⟩ := hp_28
    have el_30 : r_24 = loF g_1 sd v_21 4 0 := by rw [aI_of F_A0] at xp_29; exact xp_29
    have esz : r_24 = qsz := by rw [el_30, e_22]; exact q3
    refine hm_iast hx hb hK hH hLo 2 F_A19 rfl (iIn (by omega) (by omega)) d_Mo_begin_44 (fun H_31 locs hH z_32 hLo => ?_)
    have hz : s.heap.size ≤ H_31.size := by rw [z_32]; exact hz
    obtain ⟨h_33, e_34⟩ : ∃ z, z = hu h_16 (A 19) (.inl ((t 2), 31, .inl (upd g_4 k9.toNatClampNeg r_24))) := ⟨_, rfl⟩
    have hH : hm D vwCl G h_33 H_31 := by rw [e_34]; exact hH
    have F_m9 : h_33 m9 = some (.inr (9, mf A n th sd lo le wr ma nu di pl se wg op)) := by rw [e_34, hu_n (tne T_m9 (hA 19 (by decide)) (by decide))]; exact F_m9
    have F_A0 : h_33 (A 0) = some (.inl ((t 0), 819200, .inl g_1)) := by rw [e_34, hu_n (tneF (hA 0 (by decide)) (hA 19 (by decide)) (by decide))]; exact F_A0
    have F_A17 : h_33 (A 17) = some (.inl ((t 2), 31, .inl g_10)) := by rw [e_34, hu_n (tneF (hA 17 (by decide)) (hA 19 (by decide)) (by decide))]; exact F_A17
    have F_A20 : h_33 (A 20) = some (.inl ((t 2), 31, .inl g_5)) := by rw [e_34, hu_n (tneF (hA 20 (by decide)) (hA 19 (by decide)) (by decide))]; exact F_A20
    have F_A18 : h_33 (A 18) = some (.inl ((t 1), 31, .inl g_18)) := by rw [e_34, hu_n (tneF (hA 18 (by decide)) (hA 19 (by decide)) (by decide))]; exact F_A18
    have F_A19 : h_33 (A 19) = some (.inl ((t 2), 31, .inl (upd g_4 k9.toNatClampNeg r_24))) := by rw [e_34]; exact hu_s _ _ _
    have hT : TI τ t n h_33 := by rw [e_34]; exact TI_put hT (hA 19 (by decide)) (by decide) (ok_I rfl rfl)
    have hkf : kf τ [(30, 17), (30, 18), (30, 19), (30, 20), (30, 21), (30, 22)] [] h h_33 := by rw [e_34]; exact kf_put hkf (hA 19 (by decide)) (List.mem_cons_of_mem _ (List.mem_cons_of_mem _ List.mem_cons_self))
    obtain ⟨g_35, e_36⟩ : ∃ z, z = upd g_4 k9.toNatClampNeg r_24 := ⟨_, rfl⟩
    rw [← e_36] at F_A19
    refine lv_aload_n hx hb d_Mo_begin_45 rfl (lv_at hl 0 rfl) ?_
    refine hm_get (ci := 9) (v := .ref (A 20)) (C := R_Mo) (T := F_Mo) (N := 41) hx hb hts ig_Mo hown hK hH F_m9 rfl 32 (by decide) (hts _ mw_763) (fun _ h9 => h9) rfl d_Mo_begin_46 ?_
    refine lv_iload_n hx hb d_Mo_begin_49 rfl (lv_at hl 1 rfl) ?_
    refine lv_aload_n hx hb d_Mo_begin_50 rfl (lv_at hl 0 rfl) ?_
    refine lv_iload_n hx hb d_Mo_begin_51 rfl (lv_at hl 3 rfl) ?_
    refine lv_iconst (v := 2) hx hb d_Mo_begin_52 (by decide) ?_
    refine lv_iadd hx hb d_Mo_begin_53 ?_
    refine lv_topi (fun v_37 e_38 => ?_)
    refine lv_iconst (v := 4) hx hb d_Mo_begin_54 (by decide) ?_
    have is_39 : v_37.toInt = p9.toInt + 2 := by rw [e_38]; exact iAddK 2 rfl (by omega) (by omega)
    refine hm_callPi (va_runV (As := [.int v_37, .int 4]) (b := m9) (rest := [.int k9, .ref (A 20)]) ⟨hx, hb, hml, hown, hts⟩ (m_lowAt l D t G ak av h_33 τ n m9 v_37 4 A th sd lo le wr ma nu di pl se wg op   hn hT T_m9  F_m9 hA ⟨hsd, hlo, (by omega), ⟨by omega, by omega⟩, ⟨by omega, by omega⟩⟩ (by have l0 : (4 : Int32).toInt = 4 := rfl; omega) (by have l0 : (4 : Int32).toInt = 4 := rfl; omega) (by have l0 : (4 : Int32).toInt = 4 := rfl; omega)) ⟨cw9B 2 hts mw_742 mw_743 mw_579 rfl rfl (by decide +kernel) ⟨Nat.le_of_ble_eq_true rfl, Nat.le_of_ble_eq_true rfl⟩, hts _ mw_744, hts _ mw_745⟩ (hP_V (q := (R_Mo, F_Mo, 41)) kE_ok hE hK hH F_m9 rfl) rfl rfl hl.1 rfl (lv_room (Nat.le_of_ble_eq_true rfl)) d_Mo_begin_55 ⟨Nat.le_of_ble_eq_true rfl, Nat.le_of_ble_eq_true rfl⟩) (fun r_40 h_41 H_42 hp_44  hH z_43 => ?_)
    have hz : s.heap.size ≤ H_42.size := Nat.le_trans hz z_43
    obtain ⟨xp_45, rfl⟩ := hp_44
    have el_46 : r_40 = loF g_1 sd v_37 4 0 := by rw [aI_of F_A0] at xp_45; exact xp_45
    have efr : r_40 = qfr := by rw [el_46, e_38]; exact q4
    refine hm_iast hx hb hK hH hLo 2 F_A20 rfl (iIn (by omega) (by omega)) d_Mo_begin_58 (fun H_47 locs hH z_48 hLo => ?_)
    have hz : s.heap.size ≤ H_47.size := by rw [z_48]; exact hz
    obtain ⟨h_49, e_50⟩ : ∃ z, z = hu h_33 (A 20) (.inl ((t 2), 31, .inl (upd g_5 k9.toNatClampNeg r_40))) := ⟨_, rfl⟩
    have hH : hm D vwCl G h_49 H_47 := by rw [e_50]; exact hH
    have F_m9 : h_49 m9 = some (.inr (9, mf A n th sd lo le wr ma nu di pl se wg op)) := by rw [e_50, hu_n (tne T_m9 (hA 20 (by decide)) (by decide))]; exact F_m9
    have F_A0 : h_49 (A 0) = some (.inl ((t 0), 819200, .inl g_1)) := by rw [e_50, hu_n (tneF (hA 0 (by decide)) (hA 20 (by decide)) (by decide))]; exact F_A0
    have F_A17 : h_49 (A 17) = some (.inl ((t 2), 31, .inl g_10)) := by rw [e_50, hu_n (tneF (hA 17 (by decide)) (hA 20 (by decide)) (by decide))]; exact F_A17
    have F_A19 : h_49 (A 19) = some (.inl ((t 2), 31, .inl g_35)) := by rw [e_50, hu_n (tneF (hA 19 (by decide)) (hA 20 (by decide)) (by decide))]; exact F_A19
    have F_A18 : h_49 (A 18) = some (.inl ((t 1), 31, .inl g_18)) := by rw [e_50, hu_n (tneF (hA 18 (by decide)) (hA 20 (by decide)) (by decide))]; exact F_A18
    have F_A20 : h_49 (A 20) = some (.inl ((t 2), 31, .inl (upd g_5 k9.toNatClampNeg r_40))) := by rw [e_50]; exact hu_s _ _ _
    have hT : TI τ t n h_49 := by rw [e_50]; exact TI_put hT (hA 20 (by decide)) (by decide) (ok_I rfl rfl)
    have hkf : kf τ [(30, 17), (30, 18), (30, 19), (30, 20), (30, 21), (30, 22)] [] h h_49 := by rw [e_50]; exact kf_put hkf (hA 20 (by decide)) (List.mem_cons_of_mem _ (List.mem_cons_of_mem _ (List.mem_cons_of_mem _ List.mem_cons_self)))
    obtain ⟨g_51, e_52⟩ : ∃ z, z = upd g_5 k9.toNatClampNeg r_40 := ⟨_, rfl⟩
    rw [← e_52] at F_A20
    refine lv_aload_n hx hb d_Mo_begin_59 rfl (lv_at hl 0 rfl) ?_
    refine hm_get (ci := 9) (v := .ref (A 22)) (C := R_Mo) (T := F_Mo) (N := 41) hx hb hts ig_Mo hown hK hH F_m9 rfl 34 (by decide) (hts _ mw_764) (fun _ h9 => h9) rfl d_Mo_begin_60 ?_
    refine lv_iload_n hx hb d_Mo_begin_63 rfl (lv_at hl 1 rfl) ?_
    refine hm_cut (α := Int32) (fun dp9 ls H locs HH => (lv_has ls 7 [(0, .ref m9), (1, .int k9), (2, .int ab9), (3, .int p9), (4, .int z9)]) ∧ (hm D vwCl G HH H) ∧ (s.heap.size ≤ H.size) ∧ (hLc G.P locs) ∧ (h_49 = HH)) 80 (fun dp9 => [.int dp9, .int k9, .ref (A 22)]) ?_ (fun J80 => ?_)
    · skip
      rintro dp9 ls H locs HH ⟨hl, hH, hz, hLo, rfl⟩
      obtain ⟨g_53, F_A22⟩ := TI_arI (L := 31) hT (hA 22 (by decide)) rfl rfl
      refine hm_iast hx hb hK hH hLo 2 F_A22 rfl (iIn (by omega) (by omega)) d_Mo_begin_80 (fun H_54 locs hH z_55 hLo => ?_)
      have hz : s.heap.size ≤ H_54.size := by rw [z_55]; exact hz
      obtain ⟨h_56, e_57⟩ : ∃ z, z = hu h_49 (A 22) (.inl ((t 2), 31, .inl (upd g_53 k9.toNatClampNeg dp9))) := ⟨_, rfl⟩
      have hH : hm D vwCl G h_56 H_54 := by rw [e_57]; exact hH
      have F_m9 : h_56 m9 = some (.inr (9, mf A n th sd lo le wr ma nu di pl se wg op)) := by rw [e_57, hu_n (tne T_m9 (hA 22 (by decide)) (by decide))]; exact F_m9
      have F_A0 : h_56 (A 0) = some (.inl ((t 0), 819200, .inl g_1)) := by rw [e_57, hu_n (tneF (hA 0 (by decide)) (hA 22 (by decide)) (by decide))]; exact F_A0
      have F_A17 : h_56 (A 17) = some (.inl ((t 2), 31, .inl g_10)) := by rw [e_57, hu_n (tneF (hA 17 (by decide)) (hA 22 (by decide)) (by decide))]; exact F_A17
      have F_A19 : h_56 (A 19) = some (.inl ((t 2), 31, .inl g_35)) := by rw [e_57, hu_n (tneF (hA 19 (by decide)) (hA 22 (by decide)) (by decide))]; exact F_A19
      have F_A20 : h_56 (A 20) = some (.inl ((t 2), 31, .inl g_51)) := by rw [e_57, hu_n (tneF (hA 20 (by decide)) (hA 22 (by decide)) (by decide))]; exact F_A20
      have F_A18 : h_56 (A 18) = some (.inl ((t 1), 31, .inl g_18)) := by rw [e_57, hu_n (tneF (hA 18 (by decide)) (hA 22 (by decide)) (by decide))]; exact F_A18
      have F_A22 : h_56 (A 22) = some (.inl ((t 2), 31, .inl (upd g_53 k9.toNatClampNeg dp9))) := by rw [e_57]; exact hu_s _ _ _
      have hT : TI τ t n h_56 := by rw [e_57]; exact TI_put hT (hA 22 (by decide)) (by decide) (ok_I rfl rfl)
      have hkf : kf τ [(30, 17), (30, 18), (30, 19), (30, 20), (30, 21), (30, 22)] [] h h_56 := by rw [e_57]; exact kf_put hkf (hA 22 (by decide)) (List.mem_cons_of_mem _ (List.mem_cons_of_mem _ (List.mem_cons_of_mem _ (List.mem_cons_of_mem _ (List.mem_cons_of_mem _ List.mem_cons_self)))))
      obtain ⟨g_58, e_59⟩ : ∃ z, z = upd g_53 k9.toNatClampNeg dp9 := ⟨_, rfl⟩
      rw [← e_59] at F_A22
      refine lv_aload_n hx hb d_Mo_begin_81 rfl (lv_at hl 0 rfl) ?_
      refine hm_get (ci := 9) (v := .ref (A 21)) (C := R_Mo) (T := F_Mo) (N := 41) hx hb hts ig_Mo hown hK hH F_m9 rfl 33 (by decide) (hts _ mw_765) (fun _ h9 => h9) rfl d_Mo_begin_82 ?_
      refine lv_iload_n hx hb d_Mo_begin_85 rfl (lv_at hl 1 rfl) ?_
      refine lv_lconst (v := 0) hx hb d_Mo_begin_86 (by decide) ?_
      obtain ⟨g_60, F_A21⟩ := TI_arJ (L := 31) hT (hA 21 (by decide)) rfl rfl
      refine hm_last hx hb hK hH hLo 3 F_A21 rfl (iIn (by omega) (by omega)) d_Mo_begin_87 (fun H_61 locs hH z_62 hLo => ?_)
      have hz : s.heap.size ≤ H_61.size := by rw [z_62]; exact hz
      obtain ⟨h_63, e_64⟩ : ∃ z, z = hu h_56 (A 21) (.inl ((t 3), 31, .inr (.inl (vp_updL g_60 k9.toNatClampNeg (0 : Int64))))) := ⟨_, rfl⟩
      have hH : hm D vwCl G h_63 H_61 := by rw [e_64]; exact hH
      have F_m9 : h_63 m9 = some (.inr (9, mf A n th sd lo le wr ma nu di pl se wg op)) := by rw [e_64, hu_n (tne T_m9 (hA 21 (by decide)) (by decide))]; exact F_m9
      have F_A0 : h_63 (A 0) = some (.inl ((t 0), 819200, .inl g_1)) := by rw [e_64, hu_n (tneF (hA 0 (by decide)) (hA 21 (by decide)) (by decide))]; exact F_A0
      have F_A17 : h_63 (A 17) = some (.inl ((t 2), 31, .inl g_10)) := by rw [e_64, hu_n (tneF (hA 17 (by decide)) (hA 21 (by decide)) (by decide))]; exact F_A17
      have F_A19 : h_63 (A 19) = some (.inl ((t 2), 31, .inl g_35)) := by rw [e_64, hu_n (tneF (hA 19 (by decide)) (hA 21 (by decide)) (by decide))]; exact F_A19
      have F_A20 : h_63 (A 20) = some (.inl ((t 2), 31, .inl g_51)) := by rw [e_64, hu_n (tneF (hA 20 (by decide)) (hA 21 (by decide)) (by decide))]; exact F_A20
      have F_A18 : h_63 (A 18) = some (.inl ((t 1), 31, .inl g_18)) := by rw [e_64, hu_n (tneF (hA 18 (by decide)) (hA 21 (by decide)) (by decide))]; exact F_A18
      have F_A22 : h_63 (A 22) = some (.inl ((t 2), 31, .inl g_58)) := by rw [e_64, hu_n (tneF (hA 22 (by decide)) (hA 21 (by decide)) (by decide))]; exact F_A22
      have F_A21 : h_63 (A 21) = some (.inl ((t 3), 31, .inr (.inl (vp_updL g_60 k9.toNatClampNeg (0 : Int64))))) := by rw [e_64]; exact hu_s _ _ _
      have hT : TI τ t n h_63 := by rw [e_64]; exact TI_put hT (hA 21 (by decide)) (by decide) (ok_J rfl rfl)
      have hkf : kf τ [(30, 17), (30, 18), (30, 19), (30, 20), (30, 21), (30, 22)] [] h h_63 := by rw [e_64]; exact kf_put hkf (hA 21 (by decide)) (List.mem_cons_of_mem _ (List.mem_cons_of_mem _ (List.mem_cons_of_mem _ (List.mem_cons_of_mem _ List.mem_cons_self))))
      obtain ⟨g_65, e_66⟩ : ∃ z, z = vp_updL g_60 k9.toNatClampNeg (0 : Int64) := ⟨_, rfl⟩
      rw [← e_66] at F_A21
      refine hm_cut (α := Int32) (fun nn9 ls H locs HH => (lv_has ls 7 [(0, .ref m9), (1, .int k9), (2, .int ab9), (3, .int p9), (4, .int z9)]) ∧ (hm D vwCl G HH H) ∧ (s.heap.size ≤ H.size) ∧ (hLc G.P locs) ∧ (h_63 = HH) ∧ (nn9.toInt ≤ qid.toInt)) 127 (fun nn9 => [.int nn9]) ?_ (fun J127 => ?_)
      · skip
        rintro nn9 ls H locs HH ⟨hl, hH, hz, hLo, rfl, hnn⟩
        refine lv_istore (lv' := [(5, .int nn9), (0, .ref m9), (1, .int k9), (2, .int ab9), (3, .int p9), (4, .int z9)]) hx hb d_Mo_begin_127 hl (by decide) rfl (fun ls hl => ?_)
        refine lv_iconst (v := 0) hx hb d_Mo_begin_129 (by decide) ?_
        refine lv_istore (lv' := [(6, .int 0), (5, .int nn9), (0, .ref m9), (1, .int k9), (2, .int ab9), (3, .int p9), (4, .int z9)]) hx hb d_Mo_begin_130 hl (by decide) rfl (fun ls hl => ?_)
        refine hm_loop (fun k132 ls H locs hh132 => ∃ (i9 : Int32), k132 = mU i9 ∧ lv_has ls 7 [(0, .ref m9), (1, .int k9), (2, .int ab9), (3, .int p9), (4, .int z9), (5, .int nn9), (6, .int i9)] ∧ hm D vwCl G hh132 H ∧ s.heap.size ≤ H.size ∧ hLc G.P locs ∧ hh132 m9 = some (.inr (9, mf A n th sd lo le wr ma nu di pl se wg op)) ∧ hh132 (A 0) = some (.inl ((t 0), 819200, .inl g_1)) ∧ hh132 (A 17) = some (.inl ((t 2), 31, .inl g_10)) ∧ hh132 (A 19) = some (.inl ((t 2), 31, .inl g_35)) ∧ hh132 (A 20) = some (.inl ((t 2), 31, .inl g_51)) ∧ (TI τ t n hh132) ∧ (kf τ [(30, 17), (30, 18), (30, 19), (30, 20), (30, 21), (30, 22)] [] h hh132) ∧ (0 ≤ i9.toInt)) ?_ (hh := h_63) ⟨0, rfl, (lv_sub hl [2, 3, 4, 5, 6, 1, 0] rfl), hH, hz, hLo, F_m9, F_A0, F_A17, F_A19, F_A20, hT, hkf, (by decide)⟩
        rintro k132 ls H locs hh132 ⟨i9, hk132, hl, hH, hz, hLo, F_m9, F_A0, F_A17, F_A19, F_A20, hT, hkf, I_i9⟩ ih132
        refine lv_iload hx hb d_Mo_begin_132 (lv_at hl 6 rfl) ?_
        refine lv_iload hx hb d_Mo_begin_134 (lv_at hl 5 rfl) ?_
        refine lv_icmp_ge (tgt := 173) hx hb d_Mo_begin_136 (by decide) (fun hc_67 => ?_) (fun hc_67 => ?_)
        · skip
          have ic_68 : nn9.toInt ≤ i9.toInt := iLe hc_67
          exact W.vret hx hb hr (fun t9 ht hW => ⟨hh132, rfl, ⟨hT, hkf, ⟨qsz, qfr, by rw [aI_of F_A17, h17e, e_11, clN], by rw [aI_of F_A19, h19e, e_36, esz, clN], by rw [aI_of F_A20, h20e, e_52, efr, clN], q10⟩⟩, by rw [ht]; exact hH, by rw [ht]; exact hz⟩) hLo d_Mo_begin_173
        · skip
          have ic_69 : i9.toInt < nn9.toInt := iNe hc_67
          have iu_70 : nn9.toInt < 2147483648 := iUp _
          refine lv_aload_n hx hb d_Mo_begin_139 rfl (lv_at hl 0 rfl) ?_
          refine hm_get (ci := 9) (v := .ref (A 21)) (C := R_Mo) (T := F_Mo) (N := 41) hx hb hts ig_Mo hown hK hH F_m9 rfl 33 (by decide) (hts _ mw_765) (fun _ h9 => h9) rfl d_Mo_begin_140 ?_
          refine lv_iload_n hx hb d_Mo_begin_143 rfl (lv_at hl 1 rfl) ?_
          refine lv_aload_n hx hb d_Mo_begin_144 rfl (lv_at hl 0 rfl) ?_
          refine hm_get (ci := 9) (v := .ref (A 21)) (C := R_Mo) (T := F_Mo) (N := 41) hx hb hts ig_Mo hown hK hH F_m9 rfl 33 (by decide) (hts _ mw_765) (fun _ h9 => h9) rfl d_Mo_begin_145 ?_
          refine lv_iload_n hx hb d_Mo_begin_148 rfl (lv_at hl 1 rfl) ?_
          obtain ⟨g_71, F_A21⟩ := TI_arJ (L := 31) hT (hA 21 (by decide)) rfl rfl
          refine hm_lald hx hb hK hH 3 F_A21 rfl (iIn (by omega) (by omega)) d_Mo_begin_149 ?_
          refine lv_topl (fun v_72 e_73 => ?_)
          refine lv_bipush (v := 8) hx hb d_Mo_begin_150 (by decide) ?_
          refine lv_lshl (v := v_72 <<< ((8 : Int32).toInt64 &&& 63)) hx hb d_Mo_begin_152 rfl ?_
          refine lv_topl (fun v_74 e_75 => ?_)
          refine lv_aload_n hx hb d_Mo_begin_153 rfl (lv_at hl 0 rfl) ?_
          refine lv_iload_n hx hb d_Mo_begin_154 rfl (lv_at hl 3 rfl) ?_
          refine lv_bipush (v := 33) hx hb d_Mo_begin_155 (by decide) ?_
          refine lv_iadd hx hb d_Mo_begin_157 ?_
          refine lv_topi (fun v_76 e_77 => ?_)
          refine lv_iload hx hb d_Mo_begin_158 (lv_at hl 6 rfl) ?_
          refine lv_iadd hx hb d_Mo_begin_160 ?_
          refine lv_topi (fun v_78 e_79 => ?_)
          have is_80 : v_76.toInt = p9.toInt + 33 := by rw [e_77]; exact iAddK 33 rfl (by omega) (by omega)
          have is_81 : v_78.toInt = v_76.toInt + i9.toInt := by rw [e_79]; exact iAdd (by omega) (by omega)
          refine hm_callPi (va_runV (As := [.int v_78]) (b := m9) (rest := [.long v_74, .int k9, .ref (A 21)]) ⟨hx, hb, hml, hown, hts⟩ (m_get l D t G ak av hh132 τ n m9 v_78 A th sd lo le wr ma nu di pl se wg op   hn hT T_m9  F_m9 hA ⟨hsd, hlo, (by omega), ⟨by omega, by omega⟩, ⟨by omega, by omega⟩⟩ (by omega) (by omega)) ⟨cw9B 1 hts mw_698 mw_699 mw_579 rfl rfl (by decide +kernel) ⟨Nat.le_of_ble_eq_true rfl, Nat.le_of_ble_eq_true rfl⟩, hts _ mw_700, hts _ mw_701⟩ (hP_V (q := (R_Mo, F_Mo, 41)) kE_ok hE hK hH F_m9 rfl) rfl rfl hl.1 rfl (lv_room (Nat.le_of_ble_eq_true rfl)) d_Mo_begin_161 ⟨Nat.le_of_ble_eq_true rfl, Nat.le_of_ble_eq_true rfl⟩) (fun r_82 h_83 H_84 hp_86  hH z_85 => ?_)
          have hz : s.heap.size ≤ H_84.size := Nat.le_trans hz z_85
          obtain ⟨xp_87, rfl⟩ := hp_86
          obtain ⟨ia_88, eg_89⟩ := xp_87
          rw [aI_of F_A0] at eg_89
          refine lv_i2l (v := r_82.toInt64) hx hb d_Mo_begin_164 rfl ?_
          refine lv_lor hx hb d_Mo_begin_165 ?_
          refine lv_topl (fun v_90 e_91 => ?_)
          refine hm_last hx hb hK hH hLo 3 F_A21 rfl (iIn (by omega) (by omega)) d_Mo_begin_166 (fun H_92 locs hH z_93 hLo => ?_)
          have hz : s.heap.size ≤ H_92.size := by rw [z_93]; exact hz
          obtain ⟨h_94, e_95⟩ : ∃ z, z = hu hh132 (A 21) (.inl ((t 3), 31, .inr (.inl (vp_updL g_71 k9.toNatClampNeg v_90)))) := ⟨_, rfl⟩
          have hH : hm D vwCl G h_94 H_92 := by rw [e_95]; exact hH
          have F_m9 : h_94 m9 = some (.inr (9, mf A n th sd lo le wr ma nu di pl se wg op)) := by rw [e_95, hu_n (tne T_m9 (hA 21 (by decide)) (by decide))]; exact F_m9
          have F_A0 : h_94 (A 0) = some (.inl ((t 0), 819200, .inl g_1)) := by rw [e_95, hu_n (tneF (hA 0 (by decide)) (hA 21 (by decide)) (by decide))]; exact F_A0
          have F_A17 : h_94 (A 17) = some (.inl ((t 2), 31, .inl g_10)) := by rw [e_95, hu_n (tneF (hA 17 (by decide)) (hA 21 (by decide)) (by decide))]; exact F_A17
          have F_A19 : h_94 (A 19) = some (.inl ((t 2), 31, .inl g_35)) := by rw [e_95, hu_n (tneF (hA 19 (by decide)) (hA 21 (by decide)) (by decide))]; exact F_A19
          have F_A20 : h_94 (A 20) = some (.inl ((t 2), 31, .inl g_51)) := by rw [e_95, hu_n (tneF (hA 20 (by decide)) (hA 21 (by decide)) (by decide))]; exact F_A20
          have F_A21 : h_94 (A 21) = some (.inl ((t 3), 31, .inr (.inl (vp_updL g_71 k9.toNatClampNeg v_90)))) := by rw [e_95]; exact hu_s _ _ _
          have hT : TI τ t n h_94 := by rw [e_95]; exact TI_put hT (hA 21 (by decide)) (by decide) (ok_J rfl rfl)
          have hkf : kf τ [(30, 17), (30, 18), (30, 19), (30, 20), (30, 21), (30, 22)] [] h h_94 := by rw [e_95]; exact kf_put hkf (hA 21 (by decide)) (List.mem_cons_of_mem _ (List.mem_cons_of_mem _ (List.mem_cons_of_mem _ (List.mem_cons_of_mem _ List.mem_cons_self))))
          obtain ⟨g_96, e_97⟩ : ∃ z, z = vp_updL g_71 k9.toNatClampNeg v_90 := ⟨_, rfl⟩
          rw [← e_97] at F_A21
          obtain ⟨j_98, e_99⟩ : ∃ z : Int32, z = i9 + 1 := ⟨_, rfl⟩
          refine lv_iinc (v := j_98) (lv' := [(6, .int j_98), (0, .ref m9), (1, .int k9), (2, .int ab9), (3, .int p9), (4, .int z9), (5, .int nn9)]) hx hb d_Mo_begin_167 hl (k := 6) rfl e_99.symm (by decide) rfl (fun ls hl => ?_)
          refine lv_goto (tgt := 132) hx hb d_Mo_begin_170 (by decide) ?_
          have is_100 : j_98.toInt = i9.toInt + 1 := by rw [e_99]; exact iAddK 1 rfl (by omega) (by omega)
          exact ih132 (mU j_98) ls _ locs _ (by rw [hk132]; exact mU_lt (by omega)) ⟨j_98, rfl, (lv_sub hl [1, 2, 3, 4, 5, 6, 0] rfl), hH, hz, hLo, F_m9, F_A0, F_A17, F_A19, F_A20, hT, hkf, (by omega)⟩
      · skip
        refine lv_iload hx hb d_Mo_begin_88 (lv_at hl 4 rfl) ?_
        refine lv_if_eq (tgt := 97) hx hb d_Mo_begin_90 (by decide) (fun hc_101 => ?_) (fun hc_101 => ?_)
        · skip
          have ic_102 : z9.toInt = 0 := congrArg Int32.toInt hc_101
          refine lv_aload_n hx hb d_Mo_begin_97 rfl (lv_at hl 0 rfl) ?_
          refine hm_get (ci := 9) (v := .ref (A 18)) (C := R_Mo) (T := F_Mo) (N := 41) hx hb hts ig_Mo hown hK hH F_m9 rfl 30 (by decide) (hts _ mw_761) (fun _ h9 => h9) rfl d_Mo_begin_98 ?_
          refine lv_iload_n hx hb d_Mo_begin_101 rfl (lv_at hl 1 rfl) ?_
          refine hm_zald hx hb hK hH 1 F_A18 rfl (iIn (by omega) (by omega)) d_Mo_begin_102 ?_
          refine lv_topi (fun v_103 e_104 => ?_)
          have c_105 : zb v_103 := by rw [e_104]; exact c_20 _
          refine lv_if_eq (tgt := 117) hx hb d_Mo_begin_103 (by decide) (fun hc_106 => ?_) (fun hc_106 => ?_)
          · skip
            have ic_107 : v_103.toInt = 0 := congrArg Int32.toInt hc_106
            refine lv_aload_n hx hb d_Mo_begin_117 rfl (lv_at hl 0 rfl) ?_
            refine lv_iload_n hx hb d_Mo_begin_118 rfl (lv_at hl 3 rfl) ?_
            refine lv_bipush (v := 32) hx hb d_Mo_begin_119 (by decide) ?_
            refine lv_iadd hx hb d_Mo_begin_121 ?_
            refine lv_topi (fun v_108 e_109 => ?_)
            have is_110 : v_108.toInt = p9.toInt + 32 := by rw [e_109]; exact iAddK 32 rfl (by omega) (by omega)
            refine hm_callPi (va_runV (As := [.int v_108]) (b := m9) (rest := []) ⟨hx, hb, hml, hown, hts⟩ (m_get l D t G ak av h_63 τ n m9 v_108 A th sd lo le wr ma nu di pl se wg op   hn hT T_m9  F_m9 hA ⟨hsd, hlo, (by omega), ⟨by omega, by omega⟩, ⟨by omega, by omega⟩⟩ (by omega) (by omega)) ⟨cw9B 1 hts mw_698 mw_699 mw_579 rfl rfl (by decide +kernel) ⟨Nat.le_of_ble_eq_true rfl, Nat.le_of_ble_eq_true rfl⟩, hts _ mw_700, hts _ mw_701⟩ (hP_V (q := (R_Mo, F_Mo, 41)) kE_ok hE hK hH F_m9 rfl) rfl rfl hl.1 rfl (lv_room (Nat.le_of_ble_eq_true rfl)) d_Mo_begin_122 ⟨Nat.le_of_ble_eq_true rfl, Nat.le_of_ble_eq_true rfl⟩) (fun r_111 h_112 H_113 hp_115  hH z_114 => ?_)
            have hz : s.heap.size ≤ H_113.size := Nat.le_trans hz z_114
            obtain ⟨xp_116, rfl⟩ := hp_115
            obtain ⟨ia_117, eg_118⟩ := xp_116
            rw [aI_of F_A0] at eg_118
            have eid : r_111 = qid := by rw [eg_118, e_109]; exact q2
            have ieid := congrArg Int32.toInt eid
            refine lv_iconst (v := 3) hx hb d_Mo_begin_125 (by decide) ?_
            refine lv_isub hx hb d_Mo_begin_126 ?_
            refine lv_topi (fun v_119 e_120 => ?_)
            have is_121 : v_119.toInt = r_111.toInt - 3 := by rw [e_120]; exact iDecS 3 rfl (by decide) (by omega)
            exact J127 v_119 _ _ _ _ ⟨(lv_sub hl [0, 1, 2, 3, 4] rfl), hH, hz, hLo, rfl, (by omega)⟩
          · skip
            refine lv_aload_n hx hb d_Mo_begin_106 rfl (lv_at hl 0 rfl) ?_
            refine lv_iload_n hx hb d_Mo_begin_107 rfl (lv_at hl 3 rfl) ?_
            refine lv_bipush (v := 32) hx hb d_Mo_begin_108 (by decide) ?_
            refine lv_iadd hx hb d_Mo_begin_110 ?_
            refine lv_topi (fun v_122 e_123 => ?_)
            have is_124 : v_122.toInt = p9.toInt + 32 := by rw [e_123]; exact iAddK 32 rfl (by omega) (by omega)
            refine hm_callPi (va_runV (As := [.int v_122]) (b := m9) (rest := []) ⟨hx, hb, hml, hown, hts⟩ (m_get l D t G ak av h_63 τ n m9 v_122 A th sd lo le wr ma nu di pl se wg op   hn hT T_m9  F_m9 hA ⟨hsd, hlo, (by omega), ⟨by omega, by omega⟩, ⟨by omega, by omega⟩⟩ (by omega) (by omega)) ⟨cw9B 1 hts mw_698 mw_699 mw_579 rfl rfl (by decide +kernel) ⟨Nat.le_of_ble_eq_true rfl, Nat.le_of_ble_eq_true rfl⟩, hts _ mw_700, hts _ mw_701⟩ (hP_V (q := (R_Mo, F_Mo, 41)) kE_ok hE hK hH F_m9 rfl) rfl rfl hl.1 rfl (lv_room (Nat.le_of_ble_eq_true rfl)) d_Mo_begin_111 ⟨Nat.le_of_ble_eq_true rfl, Nat.le_of_ble_eq_true rfl⟩) (fun r_125 h_126 H_127 hp_129  hH z_128 => ?_)
            have hz : s.heap.size ≤ H_127.size := Nat.le_trans hz z_128
            obtain ⟨xp_130, rfl⟩ := hp_129
            obtain ⟨ia_131, eg_132⟩ := xp_130
            rw [aI_of F_A0] at eg_132
            have eid : r_125 = qid := by rw [eg_132, e_123]; exact q2
            have ieid := congrArg Int32.toInt eid
            refine lv_goto (tgt := 127) hx hb d_Mo_begin_114 (by decide) ?_
            exact J127 r_125 _ _ _ _ ⟨(lv_sub hl [0, 1, 2, 3, 4] rfl), hH, hz, hLo, rfl, (by omega)⟩
        · skip
          refine lv_iconst (v := 0) hx hb d_Mo_begin_93 (by decide) ?_
          refine lv_goto (tgt := 127) hx hb d_Mo_begin_94 (by decide) ?_
          exact J127 0 _ _ _ _ ⟨(lv_sub hl [0, 1, 2, 3, 4] rfl), hH, hz, hLo, rfl, (by rw [show (0 : Int32).toInt = 0 from rfl]; omega)⟩
    · skip
      refine lv_iload_n hx hb d_Mo_begin_64 rfl (lv_at hl 2 rfl) ?_
      refine lv_if_ge (tgt := 72) hx hb d_Mo_begin_65 (by decide) (fun hc_133 => ?_) (fun hc_133 => ?_)
      · skip
        have ic_134 : 0 ≤ ab9.toInt := iLe hc_133
        refine lv_aload_n hx hb d_Mo_begin_72 rfl (lv_at hl 0 rfl) ?_
        refine hm_get (ci := 9) (v := .ref (A 22)) (C := R_Mo) (T := F_Mo) (N := 41) hx hb hts ig_Mo hown hK hH F_m9 rfl 34 (by decide) (hts _ mw_764) (fun _ h9 => h9) rfl d_Mo_begin_73 ?_
        refine lv_iload_n hx hb d_Mo_begin_76 rfl (lv_at hl 2 rfl) ?_
        obtain ⟨g_135, F_A22⟩ := TI_arI (L := 31) hT (hA 22 (by decide)) rfl rfl
        refine hm_iald hx hb hK hH 2 F_A22 rfl (iIn (by omega) (by omega)) d_Mo_begin_77 ?_
        refine lv_topi (fun v_136 e_137 => ?_)
        refine lv_iconst (v := 1) hx hb d_Mo_begin_78 (by decide) ?_
        refine lv_iadd hx hb d_Mo_begin_79 ?_
        refine lv_topi (fun v_138 e_139 => ?_)
        exact J80 v_138 _ _ _ _ ⟨(lv_sub hl [0, 1, 2, 3, 4] rfl), hH, hz, hLo, rfl⟩
      · skip
        have ic_140 : ab9.toInt < 0 := iNe hc_133
        refine lv_iconst (v := 0) hx hb d_Mo_begin_68 (by decide) ?_
        refine lv_goto (tgt := 80) hx hb d_Mo_begin_69 (by decide) ?_
        exact J80 0 _ _ _ _ ⟨(lv_sub hl [0, 1, 2, 3, 4] rfl), hH, hz, hLo, rfl⟩
  · skip
    refine lv_aload_n hx hb d_Mo_begin_12 rfl (lv_at hl 0 rfl) ?_
    refine lv_iload_n hx hb d_Mo_begin_13 rfl (lv_at hl 3 rfl) ?_
    refine lv_bipush (v := 25) hx hb d_Mo_begin_14 (by decide) ?_
    refine lv_iadd hx hb d_Mo_begin_16 ?_
    refine lv_topi (fun v_141 e_142 => ?_)
    have is_143 : v_141.toInt = p9.toInt + 25 := by rw [e_142]; exact iAddK 25 rfl (by omega) (by omega)
    refine hm_callPi (va_runV (As := [.int v_141]) (b := m9) (rest := [.int k9, .ref (A 18)]) ⟨hx, hb, hml, hown, hts⟩ (m_get l D t G ak av h_8 τ n m9 v_141 A th sd lo le wr ma nu di pl se wg op   hn hT T_m9  F_m9 hA ⟨hsd, hlo, (by omega), ⟨by omega, by omega⟩, ⟨by omega, by omega⟩⟩ (by omega) (by omega)) ⟨cw9B 1 hts mw_698 mw_699 mw_579 rfl rfl (by decide +kernel) ⟨Nat.le_of_ble_eq_true rfl, Nat.le_of_ble_eq_true rfl⟩, hts _ mw_700, hts _ mw_701⟩ (hP_V (q := (R_Mo, F_Mo, 41)) kE_ok hE hK hH F_m9 rfl) rfl rfl hl.1 rfl (lv_room (Nat.le_of_ble_eq_true rfl)) d_Mo_begin_17 ⟨Nat.le_of_ble_eq_true rfl, Nat.le_of_ble_eq_true rfl⟩) (fun r_144 h_145 H_146 hp_148  hH z_147 => ?_)
    have hz : s.heap.size ≤ H_146.size := Nat.le_trans hz z_147
    obtain ⟨xp_149, rfl⟩ := hp_148
    obtain ⟨ia_150, eg_151⟩ := xp_149
    rw [aI_of F_A0] at eg_151
    refine lv_iconst (v := 2) hx hb d_Mo_begin_20 (by decide) ?_
    refine lv_icmp_ne (tgt := 28) hx hb d_Mo_begin_21 (by decide) (fun hc_152 => ?_) (fun hc_152 => ?_)
    · skip
      refine lv_iconst (v := 0) hx hb d_Mo_begin_28 (by decide) ?_
      exact J29 0 _ _ _ _ ⟨(lv_sub hl [0, 1, 2, 3, 4] rfl), hH, hz, hLo, rfl, zb0⟩
    · skip
      have ic_153 : r_144.toInt = 2 := congrArg Int32.toInt hc_152
      refine lv_iconst (v := 1) hx hb d_Mo_begin_24 (by decide) ?_
      refine lv_goto (tgt := 29) hx hb d_Mo_begin_25 (by decide) ?_
      exact J29 1 _ _ _ _ ⟨(lv_sub hl [0, 1, 2, 3, 4] rfl), hH, hz, hLo, rfl, zb1⟩

set_option maxHeartbeats 4000000 in
set_option maxRecDepth 100000 in
theorem m_isNew (l : Launch) (D : va_G) (t : Nat → ClassId) (G : hG) (ak av : Nat → Nat) (h : hM) (τ : tM) (n : Nat) (m9 : Nat) (d9 : Int32) (r9 : Int32) (b9 : Int32) (A : Nat → Nat) (th sd lo le wr ma nu di pl se wg op : Int32) (hn : n ≤ 200) (hT : TI τ t n h) (T_m9 : τ m9 = (20, 0)) (F_m9 : h m9 = some (.inr (9, mf A n th sd lo le wr ma nu di pl se wg op))) (hA : ∀ i, i < 28 → τ (A i) = (30, i)) (hmk : mOk sd lo ma se op) (hSq : seQ (aI h (A 17)) (aI h (A 19)) (aI h (A 20)) se.toInt.toNat n) (hd0 : 0 ≤ d9.toInt) (hd1 : d9.toInt < se.toInt) (hb0 : -1 ≤ b9.toInt) (hb1 : b9.toInt < se.toInt) (hp0 : 0 ≤ r9.toInt) (hp1 : r9.toInt < 409600) (hrec : recQ (aI h (A 0)) sd r9 n) : Met l y_Mo_isNew (.code y_Mo_isNew b_Mo_isNew 6 (some .boolean) :: lw_g) { frames := 4, cells := 0, slots := 0, locals := 95 } (hP (kE D t G ak av) D vwCl G h [.ref m9, .int d9, .int r9, .int b9]) (hQi D vwCl G (fun r h' => zb r ∧ TI τ t n h' ∧ kf τ [(30, 17), (30, 18), (30, 19), (30, 20), (30, 21), (30, 22)] [] h h' ∧ ((r = 1 → se.toInt < 30 ∧ seQ (aI h' (A 17)) (aI h' (A 19)) (aI h' (A 20)) (se.toInt.toNat + 1) n) ∧ seQ (aI h' (A 17)) (aI h' (A 19)) (aI h' (A 20)) se.toInt.toNat n ∧ ∀ q, q < se.toInt.toNat → aI h' (A 19) q = aI h (A 19) q))) 0 0 G.P := by
  refine Met.ofW (cc := b_Mo_isNew) (maxL := 6) (ret := (some .boolean)) (by decide) rfl ?_
  intro p e s m args below meth c s₁ Bd hml hv
  obtain ⟨ha, hE, hH⟩ := hv
  have hx := Bd.exec
  have hb := Bd.bytes
  have hr := Bd.returns
  have hts : ∀ w ∈ lw_g, w.before args s = true := fun w hw => atoms_spec (ws := (.code y_Mo_isNew b_Mo_isNew 6 (some .boolean) :: lw_g)) Bd.pre w (List.mem_cons_of_mem _ hw)
  have hown : s.vm.findClass R_Mo = some m.cls := findClass_of_methodNamed Bd.named
  have hlocks := Bd.notSynchronized
  have hK := hE.1
  have hH0 := hH
  have hLo : hLc G.P [] := hLc_nil
  have hz : s.heap.size ≤ s.heap.size := Nat.le_refl _
  have hl := lv_entry [.ref m9, .int d9, .int r9, .int b9] (n := 6) (Nat.le_of_ble_eq_true rfl)
  rw [show entryFrame m args 6 = F0 m 0 ((lg_sl [.ref m9, .int d9, .int r9, .int b9] ++ List.replicate (6 - (lg_sl [.ref m9, .int d9, .int r9, .int b9]).length) Slot.unset).toArray) [] from (by rw [ha]; exact lg_entry_eq m [.ref m9, .int d9, .int r9, .int b9] 6)]
  generalize (lg_sl [.ref m9, .int d9, .int r9, .int b9] ++ List.replicate (6 - (lg_sl [.ref m9, .int d9, .int r9, .int b9]).length) Slot.unset).toArray = ls at hl ⊢
  have hl : lv_has ls 6 [(0, .ref m9), (1, .int d9), (2, .int r9), (3, .int b9)] := hl
  have hkf : kf τ [(30, 17), (30, 18), (30, 19), (30, 20), (30, 21), (30, 22)] [] h h := kf_rf
  obtain ⟨hsd, hlo, hma, hse, hop⟩ := id hmk
  have inI : (nI n).toInt = n := nI_toInt (by omega)
  obtain ⟨g_1, F_A17⟩ := TI_arI (L := 31) hT (hA 17 (by decide)) rfl rfl
  obtain ⟨g_2, F_A19⟩ := TI_arI (L := 31) hT (hA 19 (by decide)) rfl rfl
  obtain ⟨g_3, F_A20⟩ := TI_arI (L := 31) hT (hA 20 (by decide)) rfl rfl
  have h17e := aI_of F_A17
  have h19e := aI_of F_A19
  have h20e := aI_of F_A20
  rw [aI_of F_A17, aI_of F_A19, aI_of F_A20] at hSq
  refine lv_aload_n hx hb d_Mo_isNew_0 rfl (lv_at hl 0 rfl) ?_
  refine hm_get (ci := 9) (v := .int se) (C := R_Mo) (T := F_Mo) (N := 41) hx hb hts ig_Mo hown hK hH F_m9 rfl 27 (by decide) (hts _ mw_766) (fun _ h9 => h9) rfl d_Mo_isNew_1 ?_
  refine lv_bipush (v := 30) hx hb d_Mo_isNew_4 (by decide) ?_
  refine lv_icmp_ne (tgt := 11) hx hb d_Mo_isNew_6 (by decide) (fun hc_4 => ?_) (fun hc_4 => ?_)
  · skip
    have hse9 : se.toInt < 30 := by
      have hq : ¬ se.toInt = 30 := fun z => hc_4 (Int32.toInt_inj.mp (by rw [z]; rfl))
      omega
    refine lv_aload_n hx hb d_Mo_isNew_11 rfl (lv_at hl 0 rfl) ?_
    refine lv_aload_n hx hb d_Mo_isNew_12 rfl (lv_at hl 0 rfl) ?_
    refine hm_get (ci := 9) (v := .int se) (C := R_Mo) (T := F_Mo) (N := 41) hx hb hts ig_Mo hown hK hH F_m9 rfl 27 (by decide) (hts _ mw_766) (fun _ h9 => h9) rfl d_Mo_isNew_13 ?_
    refine lv_iload_n hx hb d_Mo_isNew_16 rfl (lv_at hl 1 rfl) ?_
    refine lv_iload_n hx hb d_Mo_isNew_17 rfl (lv_at hl 2 rfl) ?_
    refine lv_iconst (v := 0) hx hb d_Mo_isNew_18 (by decide) ?_
    refine hm_callv (va_runV (As := [.int se, .int d9, .int r9, .int 0]) (b := m9) (rest := []) ⟨hx, hb, hml, hown, hts⟩ (m_begin l D t G ak av h τ n m9 se d9 r9 (0 : Int32) A th sd lo le wr ma nu di pl se wg op   hn hT T_m9 zb0  F_m9 hA ⟨hsd, hlo, (by omega), ⟨by omega, by omega⟩, ⟨by omega, by omega⟩⟩ (by omega) (by omega) (by omega) (by omega) hp0 hp1 hrec) ⟨cw9B 4 hts mw_767 mw_768 mw_579 rfl rfl (by decide +kernel) ⟨Nat.le_of_ble_eq_true rfl, Nat.le_of_ble_eq_true rfl⟩, hts _ mw_769, hts _ mw_770⟩ (hP_V (q := (R_Mo, F_Mo, 41)) kE_ok hE hK hH F_m9 rfl) rfl rfl hl.1 rfl (lv_room (Nat.le_of_ble_eq_true rfl)) d_Mo_isNew_19 ⟨Nat.le_of_ble_eq_true rfl, Nat.le_of_ble_eq_true rfl⟩) hLo (fun h_5 H_6 locs hp_8 hH z_7 hLo => ?_)
    have hz : s.heap.size ≤ H_6.size := Nat.le_trans hz z_7
    have hT0 := hT
    obtain ⟨hT, kf_10, xp_9⟩ := hp_8
    have F_m9 : h_5 m9 = some (.inr (9, mf A n th sd lo le wr ma nu di pl se wg op)) := kf_at kf_10 T_m9 (by decide) (tnc (by decide) (tnc (by decide) (tnc (by decide) (tnc (by decide) (tnc (by decide) (tnc (by decide) tn0)))))) nm0 F_m9
    have hkf : kf τ [(30, 17), (30, 18), (30, 19), (30, 20), (30, 21), (30, 22)] [] h h_5 := kf_tr hkf kf_10 (List.forall_mem_cons.mpr ⟨List.mem_cons_self, List.forall_mem_cons.mpr ⟨(List.mem_cons_of_mem _ List.mem_cons_self), List.forall_mem_cons.mpr ⟨(List.mem_cons_of_mem _ (List.mem_cons_of_mem _ List.mem_cons_self)), List.forall_mem_cons.mpr ⟨(List.mem_cons_of_mem _ (List.mem_cons_of_mem _ (List.mem_cons_of_mem _ List.mem_cons_self))), List.forall_mem_cons.mpr ⟨(List.mem_cons_of_mem _ (List.mem_cons_of_mem _ (List.mem_cons_of_mem _ (List.mem_cons_of_mem _ List.mem_cons_self)))), List.forall_mem_cons.mpr ⟨(List.mem_cons_of_mem _ (List.mem_cons_of_mem _ (List.mem_cons_of_mem _ (List.mem_cons_of_mem _ (List.mem_cons_of_mem _ List.mem_cons_self))))), List.forall_mem_nil _⟩⟩⟩⟩⟩⟩) (List.forall_mem_nil _)
    obtain ⟨sz7, fr7, b1, b2, b3, b4⟩ := xp_9
    rw [h17e] at b1
    rw [h19e] at b2
    rw [h20e] at b3
    obtain ⟨g_11, F_A17⟩ := TI_arI (L := 31) hT (hA 17 (by decide)) rfl rfl
    obtain ⟨g_12, F_A19⟩ := TI_arI (L := 31) hT (hA 19 (by decide)) rfl rfl
    obtain ⟨g_13, F_A20⟩ := TI_arI (L := 31) hT (hA 20 (by decide)) rfl rfl
    rw [aI_of F_A17] at b1
    rw [aI_of F_A19] at b2
    rw [aI_of F_A20] at b3
    have hS1 : seQ g_11 g_12 g_13 (se.toInt.toNat + 1) n := by rw [b1, b2, b3]; exact seQ_s hSq ⟨by omega, by omega⟩ b4
    refine lv_aload_n hx hb d_Mo_isNew_22 rfl (lv_at hl 0 rfl) ?_
    refine hm_get (ci := 9) (v := .int se) (C := R_Mo) (T := F_Mo) (N := 41) hx hb hts ig_Mo hown hK hH F_m9 rfl 27 (by decide) (hts _ mw_766) (fun _ h9 => h9) rfl d_Mo_isNew_23 ?_
    refine lv_istore (lv' := [(4, .int se), (0, .ref m9), (1, .int d9), (2, .int r9), (3, .int b9)]) hx hb d_Mo_isNew_26 hl (by decide) rfl (fun ls hl => ?_)
    refine lv_iload_n hx hb d_Mo_isNew_28 rfl (lv_at hl 4 rfl) ?_
    refine lv_if_lt (tgt := 66) hx hb d_Mo_isNew_29 (by decide) (fun hc_14 => ?_) (fun hc_14 => ?_)
    · skip
      have ic_15 : b9.toInt < 0 := iLt hc_14
      refine lv_aload_n hx hb d_Mo_isNew_66 rfl (lv_at hl 1 rfl) ?_
      refine hm_get (ci := 9) (v := .ref (A 18)) (C := R_Mo) (T := F_Mo) (N := 41) hx hb hts ig_Mo hown hK hH F_m9 rfl 30 (by decide) (hts _ mw_761) (fun _ h9 => h9) rfl d_Mo_isNew_67 ?_
      refine lv_iload hx hb d_Mo_isNew_70 (lv_at hl 0 rfl) ?_
      obtain ⟨g_16, F_A18, c_17⟩ := TI_arZ (L := 31) hT (hA 18 (by decide)) rfl rfl
      refine hm_zald hx hb hK hH 1 F_A18 rfl (iIn (by omega) (by omega)) d_Mo_isNew_72 ?_
      refine lv_topi (fun v_18 e_19 => ?_)
      have c_20 : zb v_18 := by rw [e_19]; exact c_17 _
      refine lv_if_ne (tgt := 78) hx hb d_Mo_isNew_73 (by decide) (fun hc_21 => ?_) (fun hc_21 => ?_)
      · skip
        refine lv_aload_n hx hb d_Mo_isNew_78 rfl (lv_at hl 1 rfl) ?_
        refine hm_get (ci := 9) (v := .ref (A 22)) (C := R_Mo) (T := F_Mo) (N := 41) hx hb hts ig_Mo hown hK hH F_m9 rfl 34 (by decide) (hts _ mw_764) (fun _ h9 => h9) rfl d_Mo_isNew_79 ?_
        refine lv_iload hx hb d_Mo_isNew_82 (lv_at hl 0 rfl) ?_
        obtain ⟨g_22, F_A22⟩ := TI_arI (L := 31) hT (hA 22 (by decide)) rfl rfl
        refine hm_iald hx hb hK hH 2 F_A22 rfl (iIn (by omega) (by omega)) d_Mo_isNew_84 ?_
        refine lv_topi (fun v_23 e_24 => ?_)
        refine lv_bipush (v := 6) hx hb d_Mo_isNew_85 (by decide) ?_
        refine lv_icmp_le (tgt := 92) hx hb d_Mo_isNew_87 (by decide) (fun hc_25 => ?_) (fun hc_25 => ?_)
        · skip
          have ic_26 : v_23.toInt ≤ 6 := iLe hc_25
          refine lv_iconst (v := 0) hx hb d_Mo_isNew_92 (by decide) ?_
          refine lv_istore (lv' := [(5, .int 0), (4, .int se), (0, .ref m9), (1, .int d9), (2, .int r9), (3, .int b9)]) hx hb d_Mo_isNew_93 hl (by decide) rfl (fun ls hl => ?_)
          refine hm_loop (fun k95 ls H locs hh95 => ∃ (i9 : Int32), k95 = mU i9 ∧ lv_has ls 6 [(0, .ref m9), (1, .int d9), (2, .int r9), (3, .int b9), (4, .int se), (5, .int i9)] ∧ hm D vwCl G hh95 H ∧ s.heap.size ≤ H.size ∧ hLc G.P locs ∧ hh95 m9 = some (.inr (9, mf A n th sd lo le wr ma nu di pl se wg op)) ∧ hh95 (A 17) = some (.inl ((t 2), 31, .inl g_11)) ∧ hh95 (A 19) = some (.inl ((t 2), 31, .inl g_12)) ∧ hh95 (A 20) = some (.inl ((t 2), 31, .inl g_13)) ∧ (TI τ t n hh95) ∧ (kf τ [(30, 17), (30, 18), (30, 19), (30, 20), (30, 21), (30, 22)] [] h hh95) ∧ (0 ≤ i9.toInt)) ?_ (hh := h_5) ⟨0, rfl, (lv_sub hl [2, 3, 4, 5, 1, 0] rfl), hH, hz, hLo, F_m9, F_A17, F_A19, F_A20, hT, hkf, (by decide)⟩
          rintro k95 ls H locs hh95 ⟨i9, hk95, hl, hH, hz, hLo, F_m9, F_A17, F_A19, F_A20, hT, hkf, I_i9⟩ ih95
          refine lv_iload hx hb d_Mo_isNew_95 (lv_at hl 5 rfl) ?_
          refine lv_iload hx hb d_Mo_isNew_97 (lv_at hl 4 rfl) ?_
          refine lv_icmp_ge (tgt := 178) hx hb d_Mo_isNew_99 (by decide) (fun hc_27 => ?_) (fun hc_27 => ?_)
          · skip
            have ic_28 : se.toInt ≤ i9.toInt := iLe hc_27
            refine lv_iconst (v := 1) hx hb d_Mo_isNew_178 (by decide) ?_
            exact W.zret (v := 1) hx hb hr (by decide) (fun t9 ht hW => ⟨1, hh95, rfl, ⟨zb1, hT, hkf, ⟨(fun _ => ⟨hse9, (by rw [aI_of F_A17, aI_of F_A19, aI_of F_A20]; exact hS1)⟩), (by rw [aI_of F_A17, aI_of F_A19, aI_of F_A20]; exact (seQ_u hS1 (by omega))), (fun q hq => by rw [aI_of F_A19, h19e, b2, upd_n _ (by omega)])⟩⟩, by rw [ht]; exact hH, by rw [ht]; exact hz⟩) hLo d_Mo_isNew_179
          · skip
            have ic_29 : i9.toInt < se.toInt := iNe hc_27
            have iu_30 : se.toInt < 2147483648 := iUp _
            refine lv_aload_n hx hb d_Mo_isNew_102 rfl (lv_at hl 0 rfl) ?_
            refine hm_get (ci := 9) (v := .ref (A 18)) (C := R_Mo) (T := F_Mo) (N := 41) hx hb hts ig_Mo hown hK hH F_m9 rfl 30 (by decide) (hts _ mw_761) (fun _ h9 => h9) rfl d_Mo_isNew_103 ?_
            refine lv_iload hx hb d_Mo_isNew_106 (lv_at hl 5 rfl) ?_
            obtain ⟨g_31, F_A18, c_32⟩ := TI_arZ (L := 31) hT (hA 18 (by decide)) rfl rfl
            refine hm_zald hx hb hK hH 1 F_A18 rfl (iIn (by omega) (by omega)) d_Mo_isNew_108 ?_
            refine lv_topi (fun v_33 e_34 => ?_)
            have c_35 : zb v_33 := by rw [e_34]; exact c_32 _
            refine lv_if_eq (tgt := 172) hx hb d_Mo_isNew_109 (by decide) (fun hc_36 => ?_) (fun hc_36 => ?_)
            · skip
              have ic_37 : v_33.toInt = 0 := congrArg Int32.toInt hc_36
              obtain ⟨j_38, e_39⟩ : ∃ z : Int32, z = i9 + 1 := ⟨_, rfl⟩
              refine lv_iinc (v := j_38) (lv' := [(5, .int j_38), (0, .ref m9), (1, .int d9), (2, .int r9), (3, .int b9), (4, .int se)]) hx hb d_Mo_isNew_172 hl (k := 5) rfl e_39.symm (by decide) rfl (fun ls hl => ?_)
              refine lv_goto (tgt := 95) hx hb d_Mo_isNew_175 (by decide) ?_
              have is_40 : j_38.toInt = i9.toInt + 1 := by rw [e_39]; exact iAddK 1 rfl (by omega) (by omega)
              exact ih95 (mU j_38) ls _ locs _ (by rw [hk95]; exact mU_lt (by omega)) ⟨j_38, rfl, (lv_sub hl [1, 2, 3, 4, 5, 0] rfl), hH, hz, hLo, F_m9, F_A17, F_A19, F_A20, hT, hkf, (by omega)⟩
            · skip
              refine lv_aload_n hx hb d_Mo_isNew_112 rfl (lv_at hl 0 rfl) ?_
              refine hm_get (ci := 9) (v := .ref (A 20)) (C := R_Mo) (T := F_Mo) (N := 41) hx hb hts ig_Mo hown hK hH F_m9 rfl 32 (by decide) (hts _ mw_763) (fun _ h9 => h9) rfl d_Mo_isNew_113 ?_
              refine lv_iload hx hb d_Mo_isNew_116 (lv_at hl 4 rfl) ?_
              refine hm_iald hx hb hK hH 2 F_A20 rfl (iIn (by omega) (by omega)) d_Mo_isNew_118 ?_
              refine lv_topi (fun v_41 e_42 => ?_)
              refine lv_aload_n hx hb d_Mo_isNew_119 rfl (lv_at hl 0 rfl) ?_
              refine hm_get (ci := 9) (v := .ref (A 20)) (C := R_Mo) (T := F_Mo) (N := 41) hx hb hts ig_Mo hown hK hH F_m9 rfl 32 (by decide) (hts _ mw_763) (fun _ h9 => h9) rfl d_Mo_isNew_120 ?_
              refine lv_iload hx hb d_Mo_isNew_123 (lv_at hl 5 rfl) ?_
              refine hm_iald hx hb hK hH 2 F_A20 rfl (iIn (by omega) (by omega)) d_Mo_isNew_125 ?_
              refine lv_topi (fun v_43 e_44 => ?_)
              refine lv_aload_n hx hb d_Mo_isNew_126 rfl (lv_at hl 0 rfl) ?_
              refine hm_get (ci := 9) (v := .ref (A 19)) (C := R_Mo) (T := F_Mo) (N := 41) hx hb hts ig_Mo hown hK hH F_m9 rfl 31 (by decide) (hts _ mw_762) (fun _ h9 => h9) rfl d_Mo_isNew_127 ?_
              refine lv_iload hx hb d_Mo_isNew_130 (lv_at hl 5 rfl) ?_
              refine hm_iald hx hb hK hH 2 F_A19 rfl (iIn (by omega) (by omega)) d_Mo_isNew_132 ?_
              refine lv_topi (fun v_45 e_46 => ?_)
              refine lv_sipush (v := 2048) hx hb d_Mo_isNew_133 (by decide) ?_
              refine lv_idiv hx hb d_Mo_isNew_136 (by decide) ?_
              refine lv_topi (fun v_47 e_48 => ?_)
              have id_49 : 0 ≤ v_45.toInt → v_47.toInt = v_45.toInt / 2048 := fun h9 => by rw [e_48]; exact i_div (d := 2048) (by decide) h9
              refine lv_iadd hx hb d_Mo_isNew_137 ?_
              refine lv_topi (fun v_50 e_51 => ?_)
              refine lv_icmp_ge (tgt := 172) hx hb d_Mo_isNew_138 (by decide) (fun hc_52 => ?_) (fun hc_52 => ?_)
              · skip
                have ic_53 : v_50.toInt ≤ v_41.toInt := iLe hc_52
                obtain ⟨j_54, e_55⟩ : ∃ z : Int32, z = i9 + 1 := ⟨_, rfl⟩
                refine lv_iinc (v := j_54) (lv' := [(5, .int j_54), (0, .ref m9), (1, .int d9), (2, .int r9), (3, .int b9), (4, .int se)]) hx hb d_Mo_isNew_172 hl (k := 5) rfl e_55.symm (by decide) rfl (fun ls hl => ?_)
                refine lv_goto (tgt := 95) hx hb d_Mo_isNew_175 (by decide) ?_
                have is_56 : j_54.toInt = i9.toInt + 1 := by rw [e_55]; exact iAddK 1 rfl (by omega) (by omega)
                exact ih95 (mU j_54) ls _ locs _ (by rw [hk95]; exact mU_lt (by omega)) ⟨j_54, rfl, (lv_sub hl [1, 2, 3, 4, 5, 0] rfl), hH, hz, hLo, F_m9, F_A17, F_A19, F_A20, hT, hkf, (by omega)⟩
              · skip
                have ic_57 : v_41.toInt < v_50.toInt := iNe hc_52
                have iu_58 : v_50.toInt < 2147483648 := iUp _
                refine lv_aload_n hx hb d_Mo_isNew_141 rfl (lv_at hl 0 rfl) ?_
                refine hm_get (ci := 9) (v := .ref (A 20)) (C := R_Mo) (T := F_Mo) (N := 41) hx hb hts ig_Mo hown hK hH F_m9 rfl 32 (by decide) (hts _ mw_763) (fun _ h9 => h9) rfl d_Mo_isNew_142 ?_
                refine lv_iload hx hb d_Mo_isNew_145 (lv_at hl 5 rfl) ?_
                refine hm_iald hx hb hK hH 2 F_A20 rfl (iIn (by omega) (by omega)) d_Mo_isNew_147 ?_
                refine lv_topi (fun v_59 e_60 => ?_)
                obtain rfl : v_43 = v_59 := (e_60.trans (e_44.symm)).symm
                refine lv_aload_n hx hb d_Mo_isNew_148 rfl (lv_at hl 0 rfl) ?_
                refine hm_get (ci := 9) (v := .ref (A 20)) (C := R_Mo) (T := F_Mo) (N := 41) hx hb hts ig_Mo hown hK hH F_m9 rfl 32 (by decide) (hts _ mw_763) (fun _ h9 => h9) rfl d_Mo_isNew_149 ?_
                refine lv_iload hx hb d_Mo_isNew_152 (lv_at hl 4 rfl) ?_
                refine hm_iald hx hb hK hH 2 F_A20 rfl (iIn (by omega) (by omega)) d_Mo_isNew_154 ?_
                refine lv_topi (fun v_61 e_62 => ?_)
                obtain rfl : v_41 = v_61 := (e_62.trans (e_42.symm)).symm
                refine lv_aload_n hx hb d_Mo_isNew_155 rfl (lv_at hl 0 rfl) ?_
                refine hm_get (ci := 9) (v := .ref (A 19)) (C := R_Mo) (T := F_Mo) (N := 41) hx hb hts ig_Mo hown hK hH F_m9 rfl 31 (by decide) (hts _ mw_762) (fun _ h9 => h9) rfl d_Mo_isNew_156 ?_
                refine lv_iload hx hb d_Mo_isNew_159 (lv_at hl 4 rfl) ?_
                refine hm_iald hx hb hK hH 2 F_A19 rfl (iIn (by omega) (by omega)) d_Mo_isNew_161 ?_
                refine lv_topi (fun v_63 e_64 => ?_)
                refine lv_sipush (v := 2048) hx hb d_Mo_isNew_162 (by decide) ?_
                refine lv_idiv hx hb d_Mo_isNew_165 (by decide) ?_
                refine lv_topi (fun v_65 e_66 => ?_)
                have id_67 : 0 ≤ v_63.toInt → v_65.toInt = v_63.toInt / 2048 := fun h9 => by rw [e_66]; exact i_div (d := 2048) (by decide) h9
                refine lv_iadd hx hb d_Mo_isNew_166 ?_
                refine lv_topi (fun v_68 e_69 => ?_)
                refine lv_icmp_ge (tgt := 172) hx hb d_Mo_isNew_167 (by decide) (fun hc_70 => ?_) (fun hc_70 => ?_)
                · skip
                  have ic_71 : v_68.toInt ≤ v_43.toInt := iLe hc_70
                  obtain ⟨j_72, e_73⟩ : ∃ z : Int32, z = i9 + 1 := ⟨_, rfl⟩
                  refine lv_iinc (v := j_72) (lv' := [(5, .int j_72), (0, .ref m9), (1, .int d9), (2, .int r9), (3, .int b9), (4, .int se)]) hx hb d_Mo_isNew_172 hl (k := 5) rfl e_73.symm (by decide) rfl (fun ls hl => ?_)
                  refine lv_goto (tgt := 95) hx hb d_Mo_isNew_175 (by decide) ?_
                  have is_74 : j_72.toInt = i9.toInt + 1 := by rw [e_73]; exact iAddK 1 rfl (by omega) (by omega)
                  exact ih95 (mU j_72) ls _ locs _ (by rw [hk95]; exact mU_lt (by omega)) ⟨j_72, rfl, (lv_sub hl [1, 2, 3, 4, 5, 0] rfl), hH, hz, hLo, F_m9, F_A17, F_A19, F_A20, hT, hkf, (by omega)⟩
                · skip
                  have ic_75 : v_43.toInt < v_68.toInt := iNe hc_70
                  have iu_76 : v_68.toInt < 2147483648 := iUp _
                  refine lv_iconst (v := 0) hx hb d_Mo_isNew_170 (by decide) ?_
                  exact W.zret (v := 0) hx hb hr (by decide) (fun t9 ht hW => ⟨0, hh95, rfl, ⟨zb0, hT, hkf, ⟨(fun z => absurd z (by decide)), (by rw [aI_of F_A17, aI_of F_A19, aI_of F_A20]; exact (seQ_u hS1 (by omega))), (fun q hq => by rw [aI_of F_A19, h19e, b2, upd_n _ (by omega)])⟩⟩, by rw [ht]; exact hH, by rw [ht]; exact hz⟩) hLo d_Mo_isNew_171
        · skip
          have ic_77 : 6 < v_23.toInt := iNe hc_25
          have iu_78 : v_23.toInt < 2147483648 := iUp _
          refine lv_iconst (v := 0) hx hb d_Mo_isNew_90 (by decide) ?_
          exact W.zret (v := 0) hx hb hr (by decide) (fun t9 ht hW => ⟨0, h_5, rfl, ⟨zb0, hT, hkf, ⟨(fun z => absurd z (by decide)), (by rw [aI_of F_A17, aI_of F_A19, aI_of F_A20]; exact (seQ_u hS1 (by omega))), (fun q hq => by rw [aI_of F_A19, h19e, b2, upd_n _ (by omega)])⟩⟩, by rw [ht]; exact hH, by rw [ht]; exact hz⟩) hLo d_Mo_isNew_91
      · skip
        have ic_79 : v_18.toInt = 0 := congrArg Int32.toInt hc_21
        refine lv_iconst (v := 1) hx hb d_Mo_isNew_76 (by decide) ?_
        exact W.zret (v := 1) hx hb hr (by decide) (fun t9 ht hW => ⟨1, h_5, rfl, ⟨zb1, hT, hkf, ⟨(fun _ => ⟨hse9, (by rw [aI_of F_A17, aI_of F_A19, aI_of F_A20]; exact hS1)⟩), (by rw [aI_of F_A17, aI_of F_A19, aI_of F_A20]; exact (seQ_u hS1 (by omega))), (fun q hq => by rw [aI_of F_A19, h19e, b2, upd_n _ (by omega)])⟩⟩, by rw [ht]; exact hH, by rw [ht]; exact hz⟩) hLo d_Mo_isNew_77
    · skip
      have ic_80 : 0 ≤ b9.toInt := iNl hc_14
      refine lv_aload_n hx hb d_Mo_isNew_32 rfl (lv_at hl 1 rfl) ?_
      refine hm_get (ci := 9) (v := .ref (A 21)) (C := R_Mo) (T := F_Mo) (N := 41) hx hb hts ig_Mo hown hK hH F_m9 rfl 33 (by decide) (hts _ mw_765) (fun _ h9 => h9) rfl d_Mo_isNew_33 ?_
      refine lv_iload_n hx hb d_Mo_isNew_36 rfl (lv_at hl 4 rfl) ?_
      obtain ⟨g_81, F_A21⟩ := TI_arJ (L := 31) hT (hA 21 (by decide)) rfl rfl
      refine hm_lald hx hb hK hH 3 F_A21 rfl (iIn (by omega) (by omega)) d_Mo_isNew_37 ?_
      refine lv_topl (fun v_82 e_83 => ?_)
      refine lv_aload_n hx hb d_Mo_isNew_38 rfl (lv_at hl 1 rfl) ?_
      refine hm_get (ci := 9) (v := .ref (A 18)) (C := R_Mo) (T := F_Mo) (N := 41) hx hb hts ig_Mo hown hK hH F_m9 rfl 30 (by decide) (hts _ mw_761) (fun _ h9 => h9) rfl d_Mo_isNew_39 ?_
      refine lv_iload_n hx hb d_Mo_isNew_42 rfl (lv_at hl 4 rfl) ?_
      obtain ⟨g_84, F_A18, c_85⟩ := TI_arZ (L := 31) hT (hA 18 (by decide)) rfl rfl
      refine hm_zald hx hb hK hH 1 F_A18 rfl (iIn (by omega) (by omega)) d_Mo_isNew_43 ?_
      refine lv_topi (fun v_86 e_87 => ?_)
      have c_88 : zb v_86 := by rw [e_87]; exact c_85 _
      refine lv_aload_n hx hb d_Mo_isNew_44 rfl (lv_at hl 1 rfl) ?_
      refine hm_get (ci := 9) (v := .ref (A 21)) (C := R_Mo) (T := F_Mo) (N := 41) hx hb hts ig_Mo hown hK hH F_m9 rfl 33 (by decide) (hts _ mw_765) (fun _ h9 => h9) rfl d_Mo_isNew_45 ?_
      refine lv_iload hx hb d_Mo_isNew_48 (lv_at hl 0 rfl) ?_
      refine hm_lald hx hb hK hH 3 F_A21 rfl (iIn (by omega) (by omega)) d_Mo_isNew_50 ?_
      refine lv_topl (fun v_89 e_90 => ?_)
      refine lv_aload_n hx hb d_Mo_isNew_51 rfl (lv_at hl 1 rfl) ?_
      refine hm_get (ci := 9) (v := .ref (A 18)) (C := R_Mo) (T := F_Mo) (N := 41) hx hb hts ig_Mo hown hK hH F_m9 rfl 30 (by decide) (hts _ mw_761) (fun _ h9 => h9) rfl d_Mo_isNew_52 ?_
      refine lv_iload hx hb d_Mo_isNew_55 (lv_at hl 0 rfl) ?_
      refine hm_zald hx hb hK hH 1 F_A18 rfl (iIn (by omega) (by omega)) d_Mo_isNew_57 ?_
      refine lv_topi (fun v_91 e_92 => ?_)
      have c_93 : zb v_91 := by rw [e_92]; exact c_85 _
      refine hm_callPi (va_runS (As := [.long v_82, .int v_86, .long v_89, .int v_91]) (rest := []) ⟨hx, hb, hml, hown, hts⟩ (m_compare l D t G ak av h_5 τ n v_82 v_86 v_89 v_91    hn hT c_88 c_93   ) ⟨cw9B 4 hts mw_643 mw_644 mw_579 rfl rfl (by decide +kernel) ⟨Nat.le_of_ble_eq_true rfl, Nat.le_of_ble_eq_true rfl⟩, hts _ mw_645⟩ (hP_S kE_ok hE hH) rfl rfl hl.1 rfl (lv_room (Nat.le_of_ble_eq_true rfl)) d_Mo_isNew_58 ⟨Nat.le_of_ble_eq_true rfl, Nat.le_of_ble_eq_true rfl⟩) (fun r_94 h_95 H_96 hp_98  hH z_97 => ?_)
      have hz : s.heap.size ≤ H_96.size := Nat.le_trans hz z_97
      obtain ⟨xp_99, rfl⟩ := hp_98
      refine lv_if_lt (tgt := 66) hx hb d_Mo_isNew_61 (by decide) (fun hc_100 => ?_) (fun hc_100 => ?_)
      · skip
        have ic_101 : r_94.toInt < 0 := iLt hc_100
        refine lv_aload_n hx hb d_Mo_isNew_66 rfl (lv_at hl 1 rfl) ?_
        refine hm_get (ci := 9) (v := .ref (A 18)) (C := R_Mo) (T := F_Mo) (N := 41) hx hb hts ig_Mo hown hK hH F_m9 rfl 30 (by decide) (hts _ mw_761) (fun _ h9 => h9) rfl d_Mo_isNew_67 ?_
        refine lv_iload hx hb d_Mo_isNew_70 (lv_at hl 0 rfl) ?_
        refine hm_zald hx hb hK hH 1 F_A18 rfl (iIn (by omega) (by omega)) d_Mo_isNew_72 ?_
        refine lv_topi (fun v_102 e_103 => ?_)
        obtain rfl : v_91 = v_102 := (e_103.trans (e_92.symm)).symm
        refine lv_if_ne (tgt := 78) hx hb d_Mo_isNew_73 (by decide) (fun hc_104 => ?_) (fun hc_104 => ?_)
        · skip
          refine lv_aload_n hx hb d_Mo_isNew_78 rfl (lv_at hl 1 rfl) ?_
          refine hm_get (ci := 9) (v := .ref (A 22)) (C := R_Mo) (T := F_Mo) (N := 41) hx hb hts ig_Mo hown hK hH F_m9 rfl 34 (by decide) (hts _ mw_764) (fun _ h9 => h9) rfl d_Mo_isNew_79 ?_
          refine lv_iload hx hb d_Mo_isNew_82 (lv_at hl 0 rfl) ?_
          obtain ⟨g_105, F_A22⟩ := TI_arI (L := 31) hT (hA 22 (by decide)) rfl rfl
          refine hm_iald hx hb hK hH 2 F_A22 rfl (iIn (by omega) (by omega)) d_Mo_isNew_84 ?_
          refine lv_topi (fun v_106 e_107 => ?_)
          refine lv_bipush (v := 6) hx hb d_Mo_isNew_85 (by decide) ?_
          refine lv_icmp_le (tgt := 92) hx hb d_Mo_isNew_87 (by decide) (fun hc_108 => ?_) (fun hc_108 => ?_)
          · skip
            have ic_109 : v_106.toInt ≤ 6 := iLe hc_108
            refine lv_iconst (v := 0) hx hb d_Mo_isNew_92 (by decide) ?_
            refine lv_istore (lv' := [(5, .int 0), (4, .int se), (0, .ref m9), (1, .int d9), (2, .int r9), (3, .int b9)]) hx hb d_Mo_isNew_93 hl (by decide) rfl (fun ls hl => ?_)
            refine hm_loop (fun k95 ls H locs hh95 => ∃ (i9 : Int32), k95 = mU i9 ∧ lv_has ls 6 [(0, .ref m9), (1, .int d9), (2, .int r9), (3, .int b9), (4, .int se), (5, .int i9)] ∧ hm D vwCl G hh95 H ∧ s.heap.size ≤ H.size ∧ hLc G.P locs ∧ hh95 m9 = some (.inr (9, mf A n th sd lo le wr ma nu di pl se wg op)) ∧ hh95 (A 17) = some (.inl ((t 2), 31, .inl g_11)) ∧ hh95 (A 19) = some (.inl ((t 2), 31, .inl g_12)) ∧ hh95 (A 20) = some (.inl ((t 2), 31, .inl g_13)) ∧ (TI τ t n hh95) ∧ (kf τ [(30, 17), (30, 18), (30, 19), (30, 20), (30, 21), (30, 22)] [] h hh95) ∧ (0 ≤ i9.toInt)) ?_ (hh := h_5) ⟨0, rfl, (lv_sub hl [2, 3, 4, 5, 1, 0] rfl), hH, hz, hLo, F_m9, F_A17, F_A19, F_A20, hT, hkf, (by decide)⟩
            rintro k95 ls H locs hh95 ⟨i9, hk95, hl, hH, hz, hLo, F_m9, F_A17, F_A19, F_A20, hT, hkf, I_i9⟩ ih95
            refine lv_iload hx hb d_Mo_isNew_95 (lv_at hl 5 rfl) ?_
            refine lv_iload hx hb d_Mo_isNew_97 (lv_at hl 4 rfl) ?_
            refine lv_icmp_ge (tgt := 178) hx hb d_Mo_isNew_99 (by decide) (fun hc_110 => ?_) (fun hc_110 => ?_)
            · skip
              have ic_111 : se.toInt ≤ i9.toInt := iLe hc_110
              refine lv_iconst (v := 1) hx hb d_Mo_isNew_178 (by decide) ?_
              exact W.zret (v := 1) hx hb hr (by decide) (fun t9 ht hW => ⟨1, hh95, rfl, ⟨zb1, hT, hkf, ⟨(fun _ => ⟨hse9, (by rw [aI_of F_A17, aI_of F_A19, aI_of F_A20]; exact hS1)⟩), (by rw [aI_of F_A17, aI_of F_A19, aI_of F_A20]; exact (seQ_u hS1 (by omega))), (fun q hq => by rw [aI_of F_A19, h19e, b2, upd_n _ (by omega)])⟩⟩, by rw [ht]; exact hH, by rw [ht]; exact hz⟩) hLo d_Mo_isNew_179
            · skip
              have ic_112 : i9.toInt < se.toInt := iNe hc_110
              have iu_113 : se.toInt < 2147483648 := iUp _
              refine lv_aload_n hx hb d_Mo_isNew_102 rfl (lv_at hl 0 rfl) ?_
              refine hm_get (ci := 9) (v := .ref (A 18)) (C := R_Mo) (T := F_Mo) (N := 41) hx hb hts ig_Mo hown hK hH F_m9 rfl 30 (by decide) (hts _ mw_761) (fun _ h9 => h9) rfl d_Mo_isNew_103 ?_
              refine lv_iload hx hb d_Mo_isNew_106 (lv_at hl 5 rfl) ?_
              obtain ⟨g_114, F_A18, c_115⟩ := TI_arZ (L := 31) hT (hA 18 (by decide)) rfl rfl
              refine hm_zald hx hb hK hH 1 F_A18 rfl (iIn (by omega) (by omega)) d_Mo_isNew_108 ?_
              refine lv_topi (fun v_116 e_117 => ?_)
              have c_118 : zb v_116 := by rw [e_117]; exact c_115 _
              refine lv_if_eq (tgt := 172) hx hb d_Mo_isNew_109 (by decide) (fun hc_119 => ?_) (fun hc_119 => ?_)
              · skip
                have ic_120 : v_116.toInt = 0 := congrArg Int32.toInt hc_119
                obtain ⟨j_121, e_122⟩ : ∃ z : Int32, z = i9 + 1 := ⟨_, rfl⟩
                refine lv_iinc (v := j_121) (lv' := [(5, .int j_121), (0, .ref m9), (1, .int d9), (2, .int r9), (3, .int b9), (4, .int se)]) hx hb d_Mo_isNew_172 hl (k := 5) rfl e_122.symm (by decide) rfl (fun ls hl => ?_)
                refine lv_goto (tgt := 95) hx hb d_Mo_isNew_175 (by decide) ?_
                have is_123 : j_121.toInt = i9.toInt + 1 := by rw [e_122]; exact iAddK 1 rfl (by omega) (by omega)
                exact ih95 (mU j_121) ls _ locs _ (by rw [hk95]; exact mU_lt (by omega)) ⟨j_121, rfl, (lv_sub hl [1, 2, 3, 4, 5, 0] rfl), hH, hz, hLo, F_m9, F_A17, F_A19, F_A20, hT, hkf, (by omega)⟩
              · skip
                refine lv_aload_n hx hb d_Mo_isNew_112 rfl (lv_at hl 0 rfl) ?_
                refine hm_get (ci := 9) (v := .ref (A 20)) (C := R_Mo) (T := F_Mo) (N := 41) hx hb hts ig_Mo hown hK hH F_m9 rfl 32 (by decide) (hts _ mw_763) (fun _ h9 => h9) rfl d_Mo_isNew_113 ?_
                refine lv_iload hx hb d_Mo_isNew_116 (lv_at hl 4 rfl) ?_
                refine hm_iald hx hb hK hH 2 F_A20 rfl (iIn (by omega) (by omega)) d_Mo_isNew_118 ?_
                refine lv_topi (fun v_124 e_125 => ?_)
                refine lv_aload_n hx hb d_Mo_isNew_119 rfl (lv_at hl 0 rfl) ?_
                refine hm_get (ci := 9) (v := .ref (A 20)) (C := R_Mo) (T := F_Mo) (N := 41) hx hb hts ig_Mo hown hK hH F_m9 rfl 32 (by decide) (hts _ mw_763) (fun _ h9 => h9) rfl d_Mo_isNew_120 ?_
                refine lv_iload hx hb d_Mo_isNew_123 (lv_at hl 5 rfl) ?_
                refine hm_iald hx hb hK hH 2 F_A20 rfl (iIn (by omega) (by omega)) d_Mo_isNew_125 ?_
                refine lv_topi (fun v_126 e_127 => ?_)
                refine lv_aload_n hx hb d_Mo_isNew_126 rfl (lv_at hl 0 rfl) ?_
                refine hm_get (ci := 9) (v := .ref (A 19)) (C := R_Mo) (T := F_Mo) (N := 41) hx hb hts ig_Mo hown hK hH F_m9 rfl 31 (by decide) (hts _ mw_762) (fun _ h9 => h9) rfl d_Mo_isNew_127 ?_
                refine lv_iload hx hb d_Mo_isNew_130 (lv_at hl 5 rfl) ?_
                refine hm_iald hx hb hK hH 2 F_A19 rfl (iIn (by omega) (by omega)) d_Mo_isNew_132 ?_
                refine lv_topi (fun v_128 e_129 => ?_)
                refine lv_sipush (v := 2048) hx hb d_Mo_isNew_133 (by decide) ?_
                refine lv_idiv hx hb d_Mo_isNew_136 (by decide) ?_
                refine lv_topi (fun v_130 e_131 => ?_)
                have id_132 : 0 ≤ v_128.toInt → v_130.toInt = v_128.toInt / 2048 := fun h9 => by rw [e_131]; exact i_div (d := 2048) (by decide) h9
                refine lv_iadd hx hb d_Mo_isNew_137 ?_
                refine lv_topi (fun v_133 e_134 => ?_)
                refine lv_icmp_ge (tgt := 172) hx hb d_Mo_isNew_138 (by decide) (fun hc_135 => ?_) (fun hc_135 => ?_)
                · skip
                  have ic_136 : v_133.toInt ≤ v_124.toInt := iLe hc_135
                  obtain ⟨j_137, e_138⟩ : ∃ z : Int32, z = i9 + 1 := ⟨_, rfl⟩
                  refine lv_iinc (v := j_137) (lv' := [(5, .int j_137), (0, .ref m9), (1, .int d9), (2, .int r9), (3, .int b9), (4, .int se)]) hx hb d_Mo_isNew_172 hl (k := 5) rfl e_138.symm (by decide) rfl (fun ls hl => ?_)
                  refine lv_goto (tgt := 95) hx hb d_Mo_isNew_175 (by decide) ?_
                  have is_139 : j_137.toInt = i9.toInt + 1 := by rw [e_138]; exact iAddK 1 rfl (by omega) (by omega)
                  exact ih95 (mU j_137) ls _ locs _ (by rw [hk95]; exact mU_lt (by omega)) ⟨j_137, rfl, (lv_sub hl [1, 2, 3, 4, 5, 0] rfl), hH, hz, hLo, F_m9, F_A17, F_A19, F_A20, hT, hkf, (by omega)⟩
                · skip
                  have ic_140 : v_124.toInt < v_133.toInt := iNe hc_135
                  have iu_141 : v_133.toInt < 2147483648 := iUp _
                  refine lv_aload_n hx hb d_Mo_isNew_141 rfl (lv_at hl 0 rfl) ?_
                  refine hm_get (ci := 9) (v := .ref (A 20)) (C := R_Mo) (T := F_Mo) (N := 41) hx hb hts ig_Mo hown hK hH F_m9 rfl 32 (by decide) (hts _ mw_763) (fun _ h9 => h9) rfl d_Mo_isNew_142 ?_
                  refine lv_iload hx hb d_Mo_isNew_145 (lv_at hl 5 rfl) ?_
                  refine hm_iald hx hb hK hH 2 F_A20 rfl (iIn (by omega) (by omega)) d_Mo_isNew_147 ?_
                  refine lv_topi (fun v_142 e_143 => ?_)
                  obtain rfl : v_126 = v_142 := (e_143.trans (e_127.symm)).symm
                  refine lv_aload_n hx hb d_Mo_isNew_148 rfl (lv_at hl 0 rfl) ?_
                  refine hm_get (ci := 9) (v := .ref (A 20)) (C := R_Mo) (T := F_Mo) (N := 41) hx hb hts ig_Mo hown hK hH F_m9 rfl 32 (by decide) (hts _ mw_763) (fun _ h9 => h9) rfl d_Mo_isNew_149 ?_
                  refine lv_iload hx hb d_Mo_isNew_152 (lv_at hl 4 rfl) ?_
                  refine hm_iald hx hb hK hH 2 F_A20 rfl (iIn (by omega) (by omega)) d_Mo_isNew_154 ?_
                  refine lv_topi (fun v_144 e_145 => ?_)
                  obtain rfl : v_124 = v_144 := (e_145.trans (e_125.symm)).symm
                  refine lv_aload_n hx hb d_Mo_isNew_155 rfl (lv_at hl 0 rfl) ?_
                  refine hm_get (ci := 9) (v := .ref (A 19)) (C := R_Mo) (T := F_Mo) (N := 41) hx hb hts ig_Mo hown hK hH F_m9 rfl 31 (by decide) (hts _ mw_762) (fun _ h9 => h9) rfl d_Mo_isNew_156 ?_
                  refine lv_iload hx hb d_Mo_isNew_159 (lv_at hl 4 rfl) ?_
                  refine hm_iald hx hb hK hH 2 F_A19 rfl (iIn (by omega) (by omega)) d_Mo_isNew_161 ?_
                  refine lv_topi (fun v_146 e_147 => ?_)
                  refine lv_sipush (v := 2048) hx hb d_Mo_isNew_162 (by decide) ?_
                  refine lv_idiv hx hb d_Mo_isNew_165 (by decide) ?_
                  refine lv_topi (fun v_148 e_149 => ?_)
                  have id_150 : 0 ≤ v_146.toInt → v_148.toInt = v_146.toInt / 2048 := fun h9 => by rw [e_149]; exact i_div (d := 2048) (by decide) h9
                  refine lv_iadd hx hb d_Mo_isNew_166 ?_
                  refine lv_topi (fun v_151 e_152 => ?_)
                  refine lv_icmp_ge (tgt := 172) hx hb d_Mo_isNew_167 (by decide) (fun hc_153 => ?_) (fun hc_153 => ?_)
                  · skip
                    have ic_154 : v_151.toInt ≤ v_126.toInt := iLe hc_153
                    obtain ⟨j_155, e_156⟩ : ∃ z : Int32, z = i9 + 1 := ⟨_, rfl⟩
                    refine lv_iinc (v := j_155) (lv' := [(5, .int j_155), (0, .ref m9), (1, .int d9), (2, .int r9), (3, .int b9), (4, .int se)]) hx hb d_Mo_isNew_172 hl (k := 5) rfl e_156.symm (by decide) rfl (fun ls hl => ?_)
                    refine lv_goto (tgt := 95) hx hb d_Mo_isNew_175 (by decide) ?_
                    have is_157 : j_155.toInt = i9.toInt + 1 := by rw [e_156]; exact iAddK 1 rfl (by omega) (by omega)
                    exact ih95 (mU j_155) ls _ locs _ (by rw [hk95]; exact mU_lt (by omega)) ⟨j_155, rfl, (lv_sub hl [1, 2, 3, 4, 5, 0] rfl), hH, hz, hLo, F_m9, F_A17, F_A19, F_A20, hT, hkf, (by omega)⟩
                  · skip
                    have ic_158 : v_126.toInt < v_151.toInt := iNe hc_153
                    have iu_159 : v_151.toInt < 2147483648 := iUp _
                    refine lv_iconst (v := 0) hx hb d_Mo_isNew_170 (by decide) ?_
                    exact W.zret (v := 0) hx hb hr (by decide) (fun t9 ht hW => ⟨0, hh95, rfl, ⟨zb0, hT, hkf, ⟨(fun z => absurd z (by decide)), (by rw [aI_of F_A17, aI_of F_A19, aI_of F_A20]; exact (seQ_u hS1 (by omega))), (fun q hq => by rw [aI_of F_A19, h19e, b2, upd_n _ (by omega)])⟩⟩, by rw [ht]; exact hH, by rw [ht]; exact hz⟩) hLo d_Mo_isNew_171
          · skip
            have ic_160 : 6 < v_106.toInt := iNe hc_108
            have iu_161 : v_106.toInt < 2147483648 := iUp _
            refine lv_iconst (v := 0) hx hb d_Mo_isNew_90 (by decide) ?_
            exact W.zret (v := 0) hx hb hr (by decide) (fun t9 ht hW => ⟨0, h_5, rfl, ⟨zb0, hT, hkf, ⟨(fun z => absurd z (by decide)), (by rw [aI_of F_A17, aI_of F_A19, aI_of F_A20]; exact (seQ_u hS1 (by omega))), (fun q hq => by rw [aI_of F_A19, h19e, b2, upd_n _ (by omega)])⟩⟩, by rw [ht]; exact hH, by rw [ht]; exact hz⟩) hLo d_Mo_isNew_91
        · skip
          have ic_162 : v_91.toInt = 0 := congrArg Int32.toInt hc_104
          refine lv_iconst (v := 1) hx hb d_Mo_isNew_76 (by decide) ?_
          exact W.zret (v := 1) hx hb hr (by decide) (fun t9 ht hW => ⟨1, h_5, rfl, ⟨zb1, hT, hkf, ⟨(fun _ => ⟨hse9, (by rw [aI_of F_A17, aI_of F_A19, aI_of F_A20]; exact hS1)⟩), (by rw [aI_of F_A17, aI_of F_A19, aI_of F_A20]; exact (seQ_u hS1 (by omega))), (fun q hq => by rw [aI_of F_A19, h19e, b2, upd_n _ (by omega)])⟩⟩, by rw [ht]; exact hH, by rw [ht]; exact hz⟩) hLo d_Mo_isNew_77
      · skip
        have ic_163 : 0 ≤ r_94.toInt := iNl hc_100
        refine lv_iconst (v := 0) hx hb d_Mo_isNew_64 (by decide) ?_
        exact W.zret (v := 0) hx hb hr (by decide) (fun t9 ht hW => ⟨0, h_5, rfl, ⟨zb0, hT, hkf, ⟨(fun z => absurd z (by decide)), (by rw [aI_of F_A17, aI_of F_A19, aI_of F_A20]; exact (seQ_u hS1 (by omega))), (fun q hq => by rw [aI_of F_A19, h19e, b2, upd_n _ (by omega)])⟩⟩, by rw [ht]; exact hH, by rw [ht]; exact hz⟩) hLo d_Mo_isNew_65
  · skip
    have ic_164 : se.toInt = 30 := congrArg Int32.toInt hc_4
    refine lv_iconst (v := 0) hx hb d_Mo_isNew_9 (by decide) ?_
    exact W.zret (v := 0) hx hb hr (by decide) (fun t9 ht hW => ⟨0, h, rfl, ⟨zb0, hT, hkf, ⟨fun z => absurd z (by decide), (by rw [aI_of F_A17, aI_of F_A19, aI_of F_A20]; exact hSq), fun _ _ => rfl⟩⟩, by rw [ht]; exact hH, by rw [ht]; exact hz⟩) hLo d_Mo_isNew_10

set_option maxHeartbeats 4000000 in
set_option maxRecDepth 100000 in
theorem m_isGone (l : Launch) (D : va_G) (t : Nat → ClassId) (G : hG) (ak av : Nat → Nat) (h : hM) (τ : tM) (n : Nat) (m9 : Nat) (d9 : Int32) (A : Nat → Nat) (th sd lo le wr ma nu di pl se wg op : Int32) (hn : n ≤ 200) (hT : TI τ t n h) (T_m9 : τ m9 = (20, 0)) (F_m9 : h m9 = some (.inr (9, mf A n th sd lo le wr ma nu di pl se wg op))) (hA : ∀ i, i < 28 → τ (A i) = (30, i)) (hmk : mOk sd lo ma se op) (hSq : seQ (aI h (A 17)) (aI h (A 19)) (aI h (A 20)) se.toInt.toNat n) (hd0 : 0 ≤ d9.toInt) (hd1 : d9.toInt < se.toInt) : Met l y_Mo_isGone (.code y_Mo_isGone b_Mo_isGone 8 (some .boolean) :: lw_g) { frames := 5, cells := 0, slots := 0, locals := 120 } (hP (kE D t G ak av) D vwCl G h [.ref m9, .int d9]) (hQi D vwCl G (fun r h' => zb r ∧ TI τ t n h' ∧ kf τ [(30, 17), (30, 18), (30, 19), (30, 20), (30, 21), (30, 22)] [m9] h h' ∧ (∃ (se' : Int32) (wg' : Int32), h' m9 = some (.inr (9, mf A n th sd lo le wr ma nu di pl se' wg' op)) ∧ mOk sd lo ma se' op ∧ (seQ (aI h' (A 17)) (aI h' (A 19)) (aI h' (A 20)) se'.toInt.toNat n ∧ se.toInt ≤ se'.toInt ∧ (r = 0 → 0 ≤ wg'.toInt))))) 0 0 G.P := by
  refine Met.ofW (cc := b_Mo_isGone) (maxL := 8) (ret := (some .boolean)) (by decide) rfl ?_
  intro p e s m args below meth c s₁ Bd hml hv
  obtain ⟨ha, hE, hH⟩ := hv
  have hx := Bd.exec
  have hb := Bd.bytes
  have hr := Bd.returns
  have hts : ∀ w ∈ lw_g, w.before args s = true := fun w hw => atoms_spec (ws := (.code y_Mo_isGone b_Mo_isGone 8 (some .boolean) :: lw_g)) Bd.pre w (List.mem_cons_of_mem _ hw)
  have hown : s.vm.findClass R_Mo = some m.cls := findClass_of_methodNamed Bd.named
  have hlocks := Bd.notSynchronized
  have hK := hE.1
  have hH0 := hH
  have hLo : hLc G.P [] := hLc_nil
  have hz : s.heap.size ≤ s.heap.size := Nat.le_refl _
  have hl := lv_entry [.ref m9, .int d9] (n := 8) (Nat.le_of_ble_eq_true rfl)
  rw [show entryFrame m args 8 = F0 m 0 ((lg_sl [.ref m9, .int d9] ++ List.replicate (8 - (lg_sl [.ref m9, .int d9]).length) Slot.unset).toArray) [] from (by rw [ha]; exact lg_entry_eq m [.ref m9, .int d9] 8)]
  generalize (lg_sl [.ref m9, .int d9] ++ List.replicate (8 - (lg_sl [.ref m9, .int d9]).length) Slot.unset).toArray = ls at hl ⊢
  have hl : lv_has ls 8 [(0, .ref m9), (1, .int d9)] := hl
  have hkf : kf τ [(30, 17), (30, 18), (30, 19), (30, 20), (30, 21), (30, 22)] [m9] h h := kf_rf
  obtain ⟨hsd, hlo, hma, hse, hop⟩ := id hmk
  have inI : (nI n).toInt = n := nI_toInt (by omega)
  obtain ⟨g_1, F_A0, c_2⟩ := TI_arB (L := 819200) hT (hA 0 (by decide)) rfl rfl
  obtain ⟨sz0, hsz0⟩ : ∃ z, aI h (A 19) d9.toInt.toNat = z := ⟨_, rfl⟩
  obtain ⟨sc0, hsc0⟩ : ∃ z, aI h (A 20) d9.toInt.toNat = z := ⟨_, rfl⟩
  have hv0 := seQ_at hSq hd0 hd1
  rw [hsz0, hsc0] at hv0
  obtain ⟨-, -, v1, v2, v3⟩ := hv0
  obtain ⟨g_3, F_A17⟩ := TI_arI (L := 31) hT (hA 17 (by decide)) rfl rfl
  obtain ⟨g_4, F_A19⟩ := TI_arI (L := 31) hT (hA 19 (by decide)) rfl rfl
  obtain ⟨g_5, F_A20⟩ := TI_arI (L := 31) hT (hA 20 (by decide)) rfl rfl
  rw [aI_of F_A20] at hsc0
  rw [aI_of F_A19] at hsz0
  rw [aI_of F_A17, aI_of F_A19, aI_of F_A20] at hSq
  refine lv_sipush (v := 2048) hx hb d_Mo_isGone_0 (by decide) ?_
  refine lv_aload_n hx hb d_Mo_isGone_3 rfl (lv_at hl 0 rfl) ?_
  refine hm_get (ci := 9) (v := .ref (A 20)) (C := R_Mo) (T := F_Mo) (N := 41) hx hb hts ig_Mo hown hK hH F_m9 rfl 32 (by decide) (hts _ mw_763) (fun _ h9 => h9) rfl d_Mo_isGone_4 ?_
  refine lv_iload_n hx hb d_Mo_isGone_7 rfl (lv_at hl 1 rfl) ?_
  refine hm_iald hx hb hK hH 2 F_A20 rfl (iIn (by omega) (by omega)) d_Mo_isGone_8 ?_
  refine lv_topi (fun v_6 e_7 => ?_)
  have esc : v_6 = sc0 := e_7.trans hsc0
  have iesc := congrArg Int32.toInt esc
  refine lv_imul hx hb d_Mo_isGone_9 ?_
  refine lv_topi (fun v_8 e_9 => ?_)
  refine lv_istore_n (lv' := [(2, .int v_8), (0, .ref m9), (1, .int d9)]) hx hb d_Mo_isGone_10 rfl hl (by decide) rfl (fun ls hl => ?_)
  refine lv_iconst (v := 0) hx hb d_Mo_isGone_11 (by decide) ?_
  refine lv_istore_n (lv' := [(3, .int 0), (2, .int v_8), (0, .ref m9), (1, .int d9)]) hx hb d_Mo_isGone_12 rfl hl (by decide) rfl (fun ls hl => ?_)
  refine lv_iconst (v := -1) hx hb d_Mo_isGone_13 (by decide) ?_
  refine lv_istore (lv' := [(4, .int (-1)), (3, .int 0), (2, .int v_8), (0, .ref m9), (1, .int d9)]) hx hb d_Mo_isGone_14 hl (by decide) rfl (fun ls hl => ?_)
  refine lv_iconst (v := 0) hx hb d_Mo_isGone_16 (by decide) ?_
  refine lv_istore (lv' := [(5, .int 0), (4, .int (-1)), (3, .int 0), (2, .int v_8), (0, .ref m9), (1, .int d9)]) hx hb d_Mo_isGone_17 hl (by decide) rfl (fun ls hl => ?_)
  refine hm_loop (fun k19 ls H locs hh19 => ∃ (rc9 : Int32) (be9 : Int32) (pp : Int32) (se8 : Int32) (wg8 : Int32), k19 = mU pp ∧ lv_has ls 8 [(0, .ref m9), (1, .int d9), (2, .int v_8), (3, .int rc9), (4, .int be9), (5, .int pp)] ∧ hm D vwCl G hh19 H ∧ s.heap.size ≤ H.size ∧ hLc G.P locs ∧ hh19 (A 0) = some (.inl ((t 0), 819200, .inl g_1)) ∧ (TI τ t n hh19) ∧ (kf τ [(30, 17), (30, 18), (30, 19), (30, 20), (30, 21), (30, 22)] [m9] h hh19) ∧ (hh19 m9 = some (.inr (9, mf A n th sd lo le wr ma nu di pl se8 wg8 op))) ∧ ((0 ≤ rc9.toInt ∧ rc9.toInt ≤ pp.toInt) ∧ (-1 ≤ be9.toInt ∧ be9.toInt < se8.toInt) ∧ 0 ≤ pp.toInt ∧ pp.toInt ≤ 420000 ∧ se.toInt ≤ se8.toInt ∧ se8.toInt ≤ 30) ∧ (seQ (aI hh19 (A 17)) (aI hh19 (A 19)) (aI hh19 (A 20)) se8.toInt.toNat n) ∧ (aI hh19 (A 19) d9.toInt.toNat = sz0)) ?_ (hh := h) ⟨0, (-1), 0, se, wg, rfl, (lv_sub hl [4, 5, 3, 2, 1, 0] rfl), hH, hz, hLo, F_A0, hT, hkf, F_m9, ⟨by decide, ⟨by decide, by rw [show (-1 : Int32).toInt = -1 from rfl]; omega⟩, by decide, by decide, by omega, by omega⟩, (by rw [aI_of F_A17, aI_of F_A19, aI_of F_A20]; exact hSq), (by rw [aI_of F_A19]; exact hsz0)⟩
  rintro k19 ls H locs hh19 ⟨rc9, be9, pp, se8, wg8, hk19, hl, hH, hz, hLo, F_A0, hT, hkf, F_m9, I_pp, hSq, hz9⟩ ih19
  obtain ⟨g_10, F_A17⟩ := TI_arI (L := 31) hT (hA 17 (by decide)) rfl rfl
  obtain ⟨g_11, F_A19⟩ := TI_arI (L := 31) hT (hA 19 (by decide)) rfl rfl
  obtain ⟨g_12, F_A20⟩ := TI_arI (L := 31) hT (hA 20 (by decide)) rfl rfl
  rw [aI_of F_A17, aI_of F_A19, aI_of F_A20] at hSq
  rw [aI_of F_A19] at hz9
  refine lv_iload hx hb d_Mo_isGone_19 (lv_at hl 5 rfl) ?_
  refine lv_aload_n hx hb d_Mo_isGone_21 rfl (lv_at hl 0 rfl) ?_
  refine hm_get (ci := 9) (v := .ref (A 19)) (C := R_Mo) (T := F_Mo) (N := 41) hx hb hts ig_Mo hown hK hH F_m9 rfl 31 (by decide) (hts _ mw_762) (fun _ h9 => h9) rfl d_Mo_isGone_22 ?_
  refine lv_iload_n hx hb d_Mo_isGone_25 rfl (lv_at hl 1 rfl) ?_
  refine hm_iald hx hb hK hH 2 F_A19 rfl (iIn (by omega) (by omega)) d_Mo_isGone_26 ?_
  refine lv_topi (fun v_13 e_14 => ?_)
  have esv : v_13 = sz0 := e_14.trans hz9
  have iesv := congrArg Int32.toInt esv
  refine lv_icmp_ge (tgt := 212) hx hb d_Mo_isGone_27 (by decide) (fun hc_15 => ?_) (fun hc_15 => ?_)
  · skip
    have ic_16 : v_13.toInt ≤ pp.toInt := iLe hc_15
    refine lv_iload_n hx hb d_Mo_isGone_212 rfl (lv_at hl 3 rfl) ?_
    refine lv_iconst (v := 1) hx hb d_Mo_isGone_213 (by decide) ?_
    refine lv_icmp_gt (tgt := 225) hx hb d_Mo_isGone_214 (by decide) (fun hc_17 => ?_) (fun hc_17 => ?_)
    · skip
      have ic_18 : 1 < rc9.toInt := iLt hc_17
      have iu_19 : rc9.toInt < 2147483648 := iUp _
      refine lv_iconst (v := 1) hx hb d_Mo_isGone_225 (by decide) ?_
      refine lv_goto (tgt := 230) hx hb d_Mo_isGone_226 (by decide) ?_
      exact W.zret (v := 1) hx hb hr (by decide) (fun t9 ht hW => ⟨1, hh19, rfl, ⟨zb1, hT, hkf, ⟨se8, wg8, F_m9, ⟨hsd, hlo, (by omega), ⟨by omega, by omega⟩, ⟨by omega, by omega⟩⟩, ⟨(by rw [aI_of F_A17, aI_of F_A19, aI_of F_A20]; exact hSq), by omega, fun z => absurd z (by decide)⟩⟩⟩, by rw [ht]; exact hH, by rw [ht]; exact hz⟩) hLo d_Mo_isGone_230
    · skip
      have ic_20 : rc9.toInt ≤ 1 := iNl hc_17
      refine lv_aload_n hx hb d_Mo_isGone_217 rfl (lv_at hl 0 rfl) ?_
      refine lv_iload_n hx hb d_Mo_isGone_218 rfl (lv_at hl 2 rfl) ?_
      have is_21 : v_8.toInt = 2048 * v_6.toInt := by rw [e_9]; exact iMulL 2048 rfl (by omega) (by omega)
      refine hm_calli (va_runV (As := [.int v_8]) (b := m9) (rest := []) ⟨hx, hb, hml, hown, hts⟩ (m_no l D t G ak av hh19 τ n m9 v_8 A th sd lo le wr ma nu di pl se8 wg8 op   hn hT T_m9  F_m9 hA ⟨hsd, hlo, (by omega), ⟨by omega, by omega⟩, ⟨by omega, by omega⟩⟩ (by omega)) ⟨cw9B 1 hts mw_738 mw_739 mw_579 rfl rfl (by decide +kernel) ⟨Nat.le_of_ble_eq_true rfl, Nat.le_of_ble_eq_true rfl⟩, hts _ mw_740, hts _ mw_741⟩ (hP_V (q := (R_Mo, F_Mo, 41)) kE_ok hE hK hH F_m9 rfl) rfl rfl hl.1 rfl (lv_room (Nat.le_of_ble_eq_true rfl)) d_Mo_isGone_219 ⟨Nat.le_of_ble_eq_true rfl, Nat.le_of_ble_eq_true rfl⟩) hLo (fun r_22 h_23 H_24 locs hp_26 hH z_25 hLo => ?_)
      have hz : s.heap.size ≤ H_24.size := Nat.le_trans hz z_25
      have hT0 := hT
      obtain ⟨c_27, hT, kf_29, xp_28⟩ := hp_26
      have F_A0 : h_23 (A 0) = some (.inl ((t 0), 819200, .inl g_1)) := kf_at kf_29 (hA 0 (by decide)) (by decide) tn0 (nmc (tne (hA 0 (by decide)) T_m9 (by decide)) nm0) F_A0
      have F_A17 : h_23 (A 17) = some (.inl ((t 2), 31, .inl g_10)) := kf_at kf_29 (hA 17 (by decide)) (by decide) tn0 (nmc (tne (hA 17 (by decide)) T_m9 (by decide)) nm0) F_A17
      have F_A19 : h_23 (A 19) = some (.inl ((t 2), 31, .inl g_11)) := kf_at kf_29 (hA 19 (by decide)) (by decide) tn0 (nmc (tne (hA 19 (by decide)) T_m9 (by decide)) nm0) F_A19
      have F_A20 : h_23 (A 20) = some (.inl ((t 2), 31, .inl g_12)) := kf_at kf_29 (hA 20 (by decide)) (by decide) tn0 (nmc (tne (hA 20 (by decide)) T_m9 (by decide)) nm0) F_A20
      have hkf : kf τ [(30, 17), (30, 18), (30, 19), (30, 20), (30, 21), (30, 22)] [m9] h h_23 := kf_tr hkf kf_29 (List.forall_mem_nil _) (List.forall_mem_cons.mpr ⟨Or.inl (by simp), List.forall_mem_nil _⟩)
      obtain ⟨wg_30, F_m9, mk_31, xq_32⟩ := xp_28
      obtain ⟨m_33, m_34, m_35, m_36, m_37⟩ := mk_31
      obtain ⟨hr0, hw0⟩ := xq_32
      subst hr0
      refine lv_if_eq (tgt := 229) hx hb d_Mo_isGone_222 (by decide) (fun hc_38 => ?_) (fun hc_38 => absurd hc_38 (by decide))
      refine lv_iconst (v := 0) hx hb d_Mo_isGone_229 (by decide) ?_
      exact W.zret (v := 0) hx hb hr (by decide) (fun t9 ht hW => ⟨0, h_23, rfl, ⟨zb0, hT, hkf, ⟨se8, wg_30, F_m9, ⟨m_33, m_34, (by omega), ⟨by omega, by omega⟩, ⟨by omega, by omega⟩⟩, ⟨(by rw [aI_of F_A17, aI_of F_A19, aI_of F_A20]; exact hSq), by omega, fun _ => hw0⟩⟩⟩, by rw [ht]; exact hH, by rw [ht]; exact hz⟩) hLo d_Mo_isGone_230
  · skip
    have ic_39 : pp.toInt < v_13.toInt := iNe hc_15
    have iu_40 : v_13.toInt < 2147483648 := iUp _
    have is_41 : v_8.toInt = 2048 * v_6.toInt := by rw [e_9]; exact iMulL 2048 rfl (by omega) (by omega)
    refine lv_aload_n hx hb d_Mo_isGone_30 rfl (lv_at hl 0 rfl) ?_
    refine lv_iload_n hx hb d_Mo_isGone_31 rfl (lv_at hl 2 rfl) ?_
    refine lv_iload hx hb d_Mo_isGone_32 (lv_at hl 5 rfl) ?_
    refine lv_iadd hx hb d_Mo_isGone_34 ?_
    refine lv_topi (fun v_42 e_43 => ?_)
    have is_44 : v_42.toInt = v_8.toInt + pp.toInt := by rw [e_43]; exact iAdd (by omega) (by omega)
    refine hm_callPi (va_runV (As := [.int v_42]) (b := m9) (rest := []) ⟨hx, hb, hml, hown, hts⟩ (m_get l D t G ak av hh19 τ n m9 v_42 A th sd lo le wr ma nu di pl se8 wg8 op   hn hT T_m9  F_m9 hA ⟨hsd, hlo, (by omega), ⟨by omega, by omega⟩, ⟨by omega, by omega⟩⟩ (by omega) (by omega)) ⟨cw9B 1 hts mw_698 mw_699 mw_579 rfl rfl (by decide +kernel) ⟨Nat.le_of_ble_eq_true rfl, Nat.le_of_ble_eq_true rfl⟩, hts _ mw_700, hts _ mw_701⟩ (hP_V (q := (R_Mo, F_Mo, 41)) kE_ok hE hK hH F_m9 rfl) rfl rfl hl.1 rfl (lv_room (Nat.le_of_ble_eq_true rfl)) d_Mo_isGone_35 ⟨Nat.le_of_ble_eq_true rfl, Nat.le_of_ble_eq_true rfl⟩) (fun r_45 h_46 H_47 hp_49  hH z_48 => ?_)
    have hz : s.heap.size ≤ H_47.size := Nat.le_trans hz z_48
    obtain ⟨xp_50, rfl⟩ := hp_49
    obtain ⟨ia_51, eg_52⟩ := xp_50
    rw [aI_of F_A0] at eg_52
    refine lv_if_ne (tgt := 59) hx hb d_Mo_isGone_38 (by decide) (fun hc_53 => ?_) (fun hc_53 => ?_)
    · skip
      refine lv_iload_n hx hb d_Mo_isGone_59 rfl (lv_at hl 2 rfl) ?_
      refine lv_iload hx hb d_Mo_isGone_60 (lv_at hl 5 rfl) ?_
      refine lv_iadd hx hb d_Mo_isGone_62 ?_
      refine lv_topi (fun v_54 e_55 => ?_)
      obtain rfl : v_42 = v_54 := (e_55.trans (e_43.symm)).symm
      refine lv_istore (lv' := [(6, .int v_42), (0, .ref m9), (1, .int d9), (2, .int v_8), (3, .int rc9), (4, .int be9), (5, .int pp)]) hx hb d_Mo_isGone_63 hl (by decide) rfl (fun ls hl => ?_)
      refine lv_aload_n hx hb d_Mo_isGone_65 rfl (lv_at hl 1 rfl) ?_
      refine lv_iload hx hb d_Mo_isGone_66 (lv_at hl 0 rfl) ?_
      refine hm_cut (α := Int32) (fun so9 ls H locs HH => (lv_has ls 8 [(0, .ref m9), (1, .int d9), (2, .int v_8), (3, .int rc9), (4, .int be9), (5, .int pp), (6, .int v_42)]) ∧ (hm D vwCl G HH H) ∧ (s.heap.size ≤ H.size) ∧ (hLc G.P locs) ∧ (hh19 = HH)) 78 (fun so9 => [.int so9, .int v_42, .ref m9]) ?_ (fun J78 => ?_)
      · skip
        rintro so9 ls H locs HH ⟨hl, hH, hz, hLo, rfl⟩
        have h0o := aI_of F_A0
        refine hm_calli (va_runV (As := [.int v_42, .int so9]) (b := m9) (rest := []) ⟨hx, hb, hml, hown, hts⟩ (m_isRec l D t G ak av hh19 τ n m9 v_42 so9 A th sd lo le wr ma nu di pl se8 wg8 op   hn hT T_m9  F_m9 hA ⟨hsd, hlo, (by omega), ⟨by omega, by omega⟩, ⟨by omega, by omega⟩⟩ (by omega) (by omega)) ⟨cw9B 2 hts mw_771 mw_772 mw_579 rfl rfl (by decide +kernel) ⟨Nat.le_of_ble_eq_true rfl, Nat.le_of_ble_eq_true rfl⟩, hts _ mw_773, hts _ mw_774⟩ (hP_V (q := (R_Mo, F_Mo, 41)) kE_ok hE hK hH F_m9 rfl) rfl rfl hl.1 rfl (lv_room (Nat.le_of_ble_eq_true rfl)) d_Mo_isGone_78 ⟨Nat.le_of_ble_eq_true rfl, Nat.le_of_ble_eq_true rfl⟩) hLo (fun r_56 h_57 H_58 locs hp_60 hH z_59 hLo => ?_)
        have hz : s.heap.size ≤ H_58.size := Nat.le_trans hz z_59
        have hT0 := hT
        obtain ⟨c_61, hT, kf_63, xp_62⟩ := hp_60
        have F_A0 : h_57 (A 0) = some (.inl ((t 0), 819200, .inl g_1)) := kf_at kf_63 (hA 0 (by decide)) (by decide) tn0 (nmc (tne (hA 0 (by decide)) T_m9 (by decide)) nm0) F_A0
        have F_A17 : h_57 (A 17) = some (.inl ((t 2), 31, .inl g_10)) := kf_at kf_63 (hA 17 (by decide)) (by decide) tn0 (nmc (tne (hA 17 (by decide)) T_m9 (by decide)) nm0) F_A17
        have F_A19 : h_57 (A 19) = some (.inl ((t 2), 31, .inl g_11)) := kf_at kf_63 (hA 19 (by decide)) (by decide) tn0 (nmc (tne (hA 19 (by decide)) T_m9 (by decide)) nm0) F_A19
        have F_A20 : h_57 (A 20) = some (.inl ((t 2), 31, .inl g_12)) := kf_at kf_63 (hA 20 (by decide)) (by decide) tn0 (nmc (tne (hA 20 (by decide)) T_m9 (by decide)) nm0) F_A20
        have hkf : kf τ [(30, 17), (30, 18), (30, 19), (30, 20), (30, 21), (30, 22)] [m9] h h_57 := kf_tr hkf kf_63 (List.forall_mem_nil _) (List.forall_mem_cons.mpr ⟨Or.inl (by simp), List.forall_mem_nil _⟩)
        obtain ⟨wg_64, F_m9, mk_65, xq_66⟩ := xp_62
        obtain ⟨m_67, m_68, m_69, m_70, m_71⟩ := mk_65
        rw [h0o] at xq_66
        refine lv_if_ne (tgt := 86) hx hb d_Mo_isGone_81 (by decide) (fun hc_72 => ?_) (fun hc_72 => ?_)
        · skip
          have hrec := xq_66.1 (c_61.resolve_left hc_72)
          obtain ⟨qle, qid, qsz, qfr, q1, q2, q3, q4, ⟨q5, q6, q7, q8, q9⟩, q10⟩ := id hrec
          refine lv_iload_n hx hb d_Mo_isGone_86 rfl (lv_at hl 3 rfl) ?_
          refine lv_iconst (v := 2) hx hb d_Mo_isGone_87 (by decide) ?_
          refine lv_icmp_ge (tgt := 160) hx hb d_Mo_isGone_88 (by decide) (fun hc_73 => ?_) (fun hc_73 => ?_)
          · skip
            have ic_74 : 2 ≤ rc9.toInt := iLe hc_73
            refine lv_aload_n hx hb d_Mo_isGone_160 rfl (lv_at hl 0 rfl) ?_
            refine lv_iload_n hx hb d_Mo_isGone_161 rfl (lv_at hl 1 rfl) ?_
            refine lv_iload hx hb d_Mo_isGone_162 (lv_at hl 6 rfl) ?_
            refine lv_iload hx hb d_Mo_isGone_164 (lv_at hl 4 rfl) ?_
            have h19o := aI_of F_A19
            refine hm_calli (va_runV (As := [.int d9, .int v_42, .int be9]) (b := m9) (rest := []) ⟨hx, hb, hml, hown, hts⟩ (m_isNew l D t G ak av h_57 τ n m9 d9 v_42 be9 A th sd lo le wr ma nu di pl se8 wg_64 op   hn hT T_m9  F_m9 hA ⟨m_67, m_68, (by omega), ⟨by omega, by omega⟩, ⟨by omega, by omega⟩⟩ (by rw [aI_of F_A17, aI_of F_A19, aI_of F_A20]; exact hSq) hd0 (by omega) (by omega) (by omega) (by omega) (by omega) (by rw [aI_of F_A0]; exact hrec)) ⟨cw9B 3 hts mw_775 mw_776 mw_579 rfl rfl (by decide +kernel) ⟨Nat.le_of_ble_eq_true rfl, Nat.le_of_ble_eq_true rfl⟩, hts _ mw_777, hts _ mw_778⟩ (hP_V (q := (R_Mo, F_Mo, 41)) kE_ok hE hK hH F_m9 rfl) rfl rfl hl.1 rfl (lv_room (Nat.le_of_ble_eq_true rfl)) d_Mo_isGone_166 ⟨Nat.le_of_ble_eq_true rfl, Nat.le_of_ble_eq_true rfl⟩) hLo (fun r_75 h_76 H_77 locs hp_79 hH z_78 hLo => ?_)
            have hz : s.heap.size ≤ H_77.size := Nat.le_trans hz z_78
            have hT0 := hT
            obtain ⟨c_80, hT, kf_82, xp_81⟩ := hp_79
            have F_A0 : h_76 (A 0) = some (.inl ((t 0), 819200, .inl g_1)) := kf_at kf_82 (hA 0 (by decide)) (by decide) (tncF (by decide) (tncF (by decide) (tncF (by decide) (tncF (by decide) (tncF (by decide) (tncF (by decide) tn0)))))) nm0 F_A0
            have F_m9 : h_76 m9 = some (.inr (9, mf A n th sd lo le wr ma nu di pl se8 wg_64 op)) := kf_at kf_82 T_m9 (by decide) (tnc (by decide) (tnc (by decide) (tnc (by decide) (tnc (by decide) (tnc (by decide) (tnc (by decide) tn0)))))) nm0 F_m9
            have hkf : kf τ [(30, 17), (30, 18), (30, 19), (30, 20), (30, 21), (30, 22)] [m9] h h_76 := kf_tr hkf kf_82 (List.forall_mem_cons.mpr ⟨List.mem_cons_self, List.forall_mem_cons.mpr ⟨(List.mem_cons_of_mem _ List.mem_cons_self), List.forall_mem_cons.mpr ⟨(List.mem_cons_of_mem _ (List.mem_cons_of_mem _ List.mem_cons_self)), List.forall_mem_cons.mpr ⟨(List.mem_cons_of_mem _ (List.mem_cons_of_mem _ (List.mem_cons_of_mem _ List.mem_cons_self))), List.forall_mem_cons.mpr ⟨(List.mem_cons_of_mem _ (List.mem_cons_of_mem _ (List.mem_cons_of_mem _ (List.mem_cons_of_mem _ List.mem_cons_self)))), List.forall_mem_cons.mpr ⟨(List.mem_cons_of_mem _ (List.mem_cons_of_mem _ (List.mem_cons_of_mem _ (List.mem_cons_of_mem _ (List.mem_cons_of_mem _ List.mem_cons_self))))), List.forall_mem_nil _⟩⟩⟩⟩⟩⟩) (List.forall_mem_nil _)
            obtain ⟨xa1, xa2, xa3⟩ := xp_81
            obtain ⟨g_83, F_A17⟩ := TI_arI (L := 31) hT (hA 17 (by decide)) rfl rfl
            obtain ⟨g_84, F_A19⟩ := TI_arI (L := 31) hT (hA 19 (by decide)) rfl rfl
            obtain ⟨g_85, F_A20⟩ := TI_arI (L := 31) hT (hA 20 (by decide)) rfl rfl
            rw [aI_of F_A17, aI_of F_A19, aI_of F_A20] at xa1
            rw [aI_of F_A17, aI_of F_A19, aI_of F_A20] at xa2
            rw [aI_of F_A19, h19o] at xa3
            have hSq := xa2
            have hz9 := (xa3 d9.toInt.toNat (toN_lt hd0 (by omega))).trans hz9
            refine lv_if_ne (tgt := 179) hx hb d_Mo_isGone_169 (by decide) (fun hc_86 => ?_) (fun hc_86 => ?_)
            · skip
              obtain ⟨ise9, hSq⟩ := xa1 (c_80.resolve_left hc_86)
              refine lv_aload_n hx hb d_Mo_isGone_179 rfl (lv_at hl 0 rfl) ?_
              refine hm_get (ci := 9) (v := .int se8) (C := R_Mo) (T := F_Mo) (N := 41) hx hb hts ig_Mo hown hK hH F_m9 rfl 27 (by decide) (hts _ mw_766) (fun _ h9 => h9) rfl d_Mo_isGone_180 ?_
              refine lv_istore (lv' := [(4, .int se8), (0, .ref m9), (1, .int d9), (2, .int v_8), (3, .int rc9), (5, .int pp), (6, .int v_42)]) hx hb d_Mo_isGone_183 hl (by decide) rfl (fun ls hl => ?_)
              refine lv_aload_n hx hb d_Mo_isGone_185 rfl (lv_at hl 1 rfl) ?_
              refine lv_dup hx hb d_Mo_isGone_186 rfl ?_
              refine hm_get (ci := 9) (v := .int se8) (C := R_Mo) (T := F_Mo) (N := 41) hx hb hts ig_Mo hown hK hH F_m9 rfl 27 (by decide) (hts _ mw_766) (fun _ h9 => h9) rfl d_Mo_isGone_187 ?_
              refine lv_iconst (v := 1) hx hb d_Mo_isGone_190 (by decide) ?_
              refine lv_iadd hx hb d_Mo_isGone_191 ?_
              refine lv_topi (fun v_87 e_88 => ?_)
              refine hm_put (ci := 9) (v := .int v_87) (ty := .int) (C := R_Mo) (T := F_Mo) (N := 41) hx hb hts ig_Mo t_Mo tk_Mo nm_Mo hown hK hH hLo F_m9 rfl 27 (by decide) (hts _ mw_766) (fun _ h9 => h9) rfl (by decide +kernel) rfl rfl (Nat.le_of_ble_eq_true rfl) d_Mo_isGone_192 (fun H_89 locs hH z_90 hLo => ?_)
              have hz : s.heap.size ≤ H_89.size := by rw [z_90]; exact hz
              obtain ⟨h_91, e_92⟩ : ∃ z, z = hu h_76 m9 (.inr (9, mf A n th sd lo le wr ma nu di pl v_87 wg_64 op)) := ⟨_, rfl⟩
              have hH : hm D vwCl G h_91 H_89 := by rw [e_92]; exact hH
              have F_A0 : h_91 (A 0) = some (.inl ((t 0), 819200, .inl g_1)) := by rw [e_92, hu_n (tne (hA 0 (by decide)) T_m9 (by decide))]; exact F_A0
              have F_A17 : h_91 (A 17) = some (.inl ((t 2), 31, .inl g_83)) := by rw [e_92, hu_n (tne (hA 17 (by decide)) T_m9 (by decide))]; exact F_A17
              have F_A19 : h_91 (A 19) = some (.inl ((t 2), 31, .inl g_84)) := by rw [e_92, hu_n (tne (hA 19 (by decide)) T_m9 (by decide))]; exact F_A19
              have F_A20 : h_91 (A 20) = some (.inl ((t 2), 31, .inl g_85)) := by rw [e_92, hu_n (tne (hA 20 (by decide)) T_m9 (by decide))]; exact F_A20
              have F_m9 : h_91 m9 = some (.inr (9, mf A n th sd lo le wr ma nu di pl v_87 wg_64 op)) := by rw [e_92]; exact hu_s _ _ _
              have hT : TI τ t n h_91 := by rw [e_92]; exact TI_put hT T_m9 (by decide) ⟨_, rfl⟩
              have hkf : kf τ [(30, 17), (30, 18), (30, 19), (30, 20), (30, 21), (30, 22)] [m9] h h_91 := by rw [e_92]; exact kf_putM hkf (by simp)
              obtain ⟨j_93, e_94⟩ : ∃ z : Int32, z = rc9 + 1 := ⟨_, rfl⟩
              refine lv_iinc (v := j_93) (lv' := [(3, .int j_93), (4, .int se8), (0, .ref m9), (1, .int d9), (2, .int v_8), (5, .int pp), (6, .int v_42)]) hx hb d_Mo_isGone_195 hl (k := 4) rfl e_94.symm (by decide) rfl (fun ls hl => ?_)
              refine lv_iload hx hb d_Mo_isGone_198 (lv_at hl 5 rfl) ?_
              refine lv_aload_n hx hb d_Mo_isGone_200 rfl (lv_at hl 2 rfl) ?_
              refine lv_iload hx hb d_Mo_isGone_201 (lv_at hl 6 rfl) ?_
              have is_95 : v_87.toInt = se8.toInt + 1 := by rw [e_88]; exact iAddK 1 rfl (by omega) (by omega)
              refine hm_callPi (va_runV (As := [.int v_42]) (b := m9) (rest := [.int pp]) ⟨hx, hb, hml, hown, hts⟩ (m_get l D t G ak av h_91 τ n m9 v_42 A th sd lo le wr ma nu di pl v_87 wg_64 op   hn hT T_m9  F_m9 hA ⟨m_67, m_68, (by omega), ⟨by omega, by omega⟩, ⟨by omega, by omega⟩⟩ (by omega) (by omega)) ⟨cw9B 1 hts mw_698 mw_699 mw_579 rfl rfl (by decide +kernel) ⟨Nat.le_of_ble_eq_true rfl, Nat.le_of_ble_eq_true rfl⟩, hts _ mw_700, hts _ mw_701⟩ (hP_V (q := (R_Mo, F_Mo, 41)) kE_ok hE hK hH F_m9 rfl) rfl rfl hl.1 rfl (lv_room (Nat.le_of_ble_eq_true rfl)) d_Mo_isGone_203 ⟨Nat.le_of_ble_eq_true rfl, Nat.le_of_ble_eq_true rfl⟩) (fun r_96 h_97 H_98 hp_100  hH z_99 => ?_)
              have hz : s.heap.size ≤ H_98.size := Nat.le_trans hz z_99
              obtain ⟨xp_101, rfl⟩ := hp_100
              obtain ⟨ia_102, eg_103⟩ := xp_101
              rw [aI_of F_A0] at eg_103
              have ele : r_96 = qle := eg_103.trans q1
              have iele := congrArg Int32.toInt ele
              refine lv_iadd hx hb d_Mo_isGone_206 ?_
              refine lv_topi (fun v_104 e_105 => ?_)
              refine lv_istore (lv' := [(5, .int v_104), (3, .int j_93), (4, .int se8), (0, .ref m9), (1, .int d9), (2, .int v_8), (6, .int v_42)]) hx hb d_Mo_isGone_207 hl (by decide) rfl (fun ls hl => ?_)
              refine lv_goto (tgt := 19) hx hb d_Mo_isGone_209 (by decide) ?_
              have is_106 : j_93.toInt = rc9.toInt + 1 := by rw [e_94]; exact iAddK 1 rfl (by omega) (by omega)
              have is_107 : v_104.toInt = pp.toInt + r_96.toInt := by rw [e_105]; exact iAdd (by omega) (by omega)
              exact ih19 (mU v_104) ls _ locs _ (by rw [hk19]; exact mU_lt (by omega)) ⟨j_93, se8, v_104, v_87, wg_64, rfl, (lv_sub hl [3, 4, 5, 1, 2, 0] rfl), hH, hz, hLo, F_A0, hT, hkf, F_m9, ⟨by omega, by omega, by omega, by omega, by omega, by omega⟩, (by rw [aI_of F_A17, aI_of F_A19, aI_of F_A20, show v_87.toInt.toNat = se8.toInt.toNat + 1 by omega]; exact hSq), (by rw [aI_of F_A19]; exact hz9)⟩
            · skip
              have ic_108 : r_75.toInt = 0 := congrArg Int32.toInt hc_86
              refine lv_aload_n hx hb d_Mo_isGone_172 rfl (lv_at hl 0 rfl) ?_
              refine lv_iload hx hb d_Mo_isGone_173 (lv_at hl 6 rfl) ?_
              refine hm_calli (va_runV (As := [.int v_42]) (b := m9) (rest := []) ⟨hx, hb, hml, hown, hts⟩ (m_no l D t G ak av h_76 τ n m9 v_42 A th sd lo le wr ma nu di pl se8 wg_64 op   hn hT T_m9  F_m9 hA ⟨m_67, m_68, (by omega), ⟨by omega, by omega⟩, ⟨by omega, by omega⟩⟩ (by omega)) ⟨cw9B 1 hts mw_738 mw_739 mw_579 rfl rfl (by decide +kernel) ⟨Nat.le_of_ble_eq_true rfl, Nat.le_of_ble_eq_true rfl⟩, hts _ mw_740, hts _ mw_741⟩ (hP_V (q := (R_Mo, F_Mo, 41)) kE_ok hE hK hH F_m9 rfl) rfl rfl hl.1 rfl (lv_room (Nat.le_of_ble_eq_true rfl)) d_Mo_isGone_175 ⟨Nat.le_of_ble_eq_true rfl, Nat.le_of_ble_eq_true rfl⟩) hLo (fun r_109 h_110 H_111 locs hp_113 hH z_112 hLo => ?_)
              have hz : s.heap.size ≤ H_111.size := Nat.le_trans hz z_112
              have hT0 := hT
              obtain ⟨c_114, hT, kf_116, xp_115⟩ := hp_113
              have F_A0 : h_110 (A 0) = some (.inl ((t 0), 819200, .inl g_1)) := kf_at kf_116 (hA 0 (by decide)) (by decide) tn0 (nmc (tne (hA 0 (by decide)) T_m9 (by decide)) nm0) F_A0
              have F_A17 : h_110 (A 17) = some (.inl ((t 2), 31, .inl g_83)) := kf_at kf_116 (hA 17 (by decide)) (by decide) tn0 (nmc (tne (hA 17 (by decide)) T_m9 (by decide)) nm0) F_A17
              have F_A19 : h_110 (A 19) = some (.inl ((t 2), 31, .inl g_84)) := kf_at kf_116 (hA 19 (by decide)) (by decide) tn0 (nmc (tne (hA 19 (by decide)) T_m9 (by decide)) nm0) F_A19
              have F_A20 : h_110 (A 20) = some (.inl ((t 2), 31, .inl g_85)) := kf_at kf_116 (hA 20 (by decide)) (by decide) tn0 (nmc (tne (hA 20 (by decide)) T_m9 (by decide)) nm0) F_A20
              have hkf : kf τ [(30, 17), (30, 18), (30, 19), (30, 20), (30, 21), (30, 22)] [m9] h h_110 := kf_tr hkf kf_116 (List.forall_mem_nil _) (List.forall_mem_cons.mpr ⟨Or.inl (by simp), List.forall_mem_nil _⟩)
              obtain ⟨wg_117, F_m9, mk_118, xq_119⟩ := xp_115
              obtain ⟨m_120, m_121, m_122, m_123, m_124⟩ := mk_118
              obtain ⟨hr0, hw0⟩ := xq_119
              subst hr0
              exact W.zret (v := 0) hx hb hr (by decide) (fun t9 ht hW => ⟨0, h_110, rfl, ⟨zb0, hT, hkf, ⟨se8, wg_117, F_m9, ⟨m_120, m_121, (by omega), ⟨by omega, by omega⟩, ⟨by omega, by omega⟩⟩, ⟨(by rw [aI_of F_A17, aI_of F_A19, aI_of F_A20]; exact hSq), by omega, fun _ => hw0⟩⟩⟩, by rw [ht]; exact hH, by rw [ht]; exact hz⟩) hLo d_Mo_isGone_178
          · skip
            have ic_125 : rc9.toInt < 2 := iNe hc_73
            refine hm_cut (α := Int32) (fun of9 ls H locs HH => (lv_has ls 8 [(0, .ref m9), (1, .int d9), (2, .int v_8), (3, .int rc9), (4, .int be9), (5, .int pp), (6, .int v_42)]) ∧ (hm D vwCl G HH H) ∧ (s.heap.size ≤ H.size) ∧ (hLc G.P locs) ∧ (h_57 = HH) ∧ (0 ≤ of9.toInt ∧ of9.toInt < 31)) 109 (fun of9 => [.int of9]) ?_ (fun J109 => ?_)
            · skip
              rintro of9 ls H locs HH ⟨hl, hH, hz, hLo, rfl, hof⟩
              refine lv_istore (lv' := [(7, .int of9), (0, .ref m9), (1, .int d9), (2, .int v_8), (3, .int rc9), (4, .int be9), (5, .int pp), (6, .int v_42)]) hx hb d_Mo_isGone_109 hl (by decide) rfl (fun ls hl => ?_)
              refine lv_aload_n hx hb d_Mo_isGone_111 rfl (lv_at hl 1 rfl) ?_
              refine lv_iload hx hb d_Mo_isGone_112 (lv_at hl 7 rfl) ?_
              refine lv_iconst (v := 2) hx hb d_Mo_isGone_114 (by decide) ?_
              refine lv_iadd hx hb d_Mo_isGone_115 ?_
              refine lv_topi (fun v_126 e_127 => ?_)
              refine lv_iconst (v := 4) hx hb d_Mo_isGone_116 (by decide) ?_
              have is_128 : v_126.toInt = v_42.toInt + 2 := by rw [e_127]; exact iAddK 2 rfl (by omega) (by omega)
              refine hm_callPi (va_runV (As := [.int v_126, .int 4]) (b := m9) (rest := []) ⟨hx, hb, hml, hown, hts⟩ (m_lowAt l D t G ak av h_57 τ n m9 v_126 4 A th sd lo le wr ma nu di pl se8 wg_64 op   hn hT T_m9  F_m9 hA ⟨m_67, m_68, (by omega), ⟨by omega, by omega⟩, ⟨by omega, by omega⟩⟩ (by have l0 : (4 : Int32).toInt = 4 := rfl; omega) (by have l0 : (4 : Int32).toInt = 4 := rfl; omega) (by have l0 : (4 : Int32).toInt = 4 := rfl; omega)) ⟨cw9B 2 hts mw_742 mw_743 mw_579 rfl rfl (by decide +kernel) ⟨Nat.le_of_ble_eq_true rfl, Nat.le_of_ble_eq_true rfl⟩, hts _ mw_744, hts _ mw_745⟩ (hP_V (q := (R_Mo, F_Mo, 41)) kE_ok hE hK hH F_m9 rfl) rfl rfl hl.1 rfl (lv_room (Nat.le_of_ble_eq_true rfl)) d_Mo_isGone_117 ⟨Nat.le_of_ble_eq_true rfl, Nat.le_of_ble_eq_true rfl⟩) (fun r_129 h_130 H_131 hp_133  hH z_132 => ?_)
              have hz : s.heap.size ≤ H_131.size := Nat.le_trans hz z_132
              obtain ⟨xp_134, rfl⟩ := hp_133
              have el_135 : r_129 = loF g_1 sd v_126 4 0 := by rw [aI_of F_A0] at xp_134; exact xp_134
              refine lv_aload_n hx hb d_Mo_isGone_120 rfl (lv_at hl 1 rfl) ?_
              refine hm_get (ci := 9) (v := .ref (A 20)) (C := R_Mo) (T := F_Mo) (N := 41) hx hb hts ig_Mo hown hK hH F_m9 rfl 32 (by decide) (hts _ mw_763) (fun _ h9 => h9) rfl d_Mo_isGone_121 ?_
              refine lv_iload hx hb d_Mo_isGone_124 (lv_at hl 0 rfl) ?_
              refine hm_iald hx hb hK hH 2 F_A20 rfl (iIn (by omega) (by omega)) d_Mo_isGone_126 ?_
              refine lv_topi (fun v_136 e_137 => ?_)
              refine lv_icmp_ne (tgt := 150) hx hb d_Mo_isGone_127 (by decide) (fun hc_138 => ?_) (fun hc_138 => ?_)
              · skip
                refine lv_aload_n hx hb d_Mo_isGone_150 rfl (lv_at hl 1 rfl) ?_
                refine lv_iload hx hb d_Mo_isGone_151 (lv_at hl 7 rfl) ?_
                refine hm_calli (va_runV (As := [.int v_42]) (b := m9) (rest := []) ⟨hx, hb, hml, hown, hts⟩ (m_no l D t G ak av h_57 τ n m9 v_42 A th sd lo le wr ma nu di pl se8 wg_64 op   hn hT T_m9  F_m9 hA ⟨m_67, m_68, (by omega), ⟨by omega, by omega⟩, ⟨by omega, by omega⟩⟩ (by omega)) ⟨cw9B 1 hts mw_738 mw_739 mw_579 rfl rfl (by decide +kernel) ⟨Nat.le_of_ble_eq_true rfl, Nat.le_of_ble_eq_true rfl⟩, hts _ mw_740, hts _ mw_741⟩ (hP_V (q := (R_Mo, F_Mo, 41)) kE_ok hE hK hH F_m9 rfl) rfl rfl hl.1 rfl (lv_room (Nat.le_of_ble_eq_true rfl)) d_Mo_isGone_153 ⟨Nat.le_of_ble_eq_true rfl, Nat.le_of_ble_eq_true rfl⟩) hLo (fun r_139 h_140 H_141 locs hp_143 hH z_142 hLo => ?_)
                have hz : s.heap.size ≤ H_141.size := Nat.le_trans hz z_142
                have hT0 := hT
                obtain ⟨c_144, hT, kf_146, xp_145⟩ := hp_143
                have F_A0 : h_140 (A 0) = some (.inl ((t 0), 819200, .inl g_1)) := kf_at kf_146 (hA 0 (by decide)) (by decide) tn0 (nmc (tne (hA 0 (by decide)) T_m9 (by decide)) nm0) F_A0
                have F_A17 : h_140 (A 17) = some (.inl ((t 2), 31, .inl g_10)) := kf_at kf_146 (hA 17 (by decide)) (by decide) tn0 (nmc (tne (hA 17 (by decide)) T_m9 (by decide)) nm0) F_A17
                have F_A19 : h_140 (A 19) = some (.inl ((t 2), 31, .inl g_11)) := kf_at kf_146 (hA 19 (by decide)) (by decide) tn0 (nmc (tne (hA 19 (by decide)) T_m9 (by decide)) nm0) F_A19
                have F_A20 : h_140 (A 20) = some (.inl ((t 2), 31, .inl g_12)) := kf_at kf_146 (hA 20 (by decide)) (by decide) tn0 (nmc (tne (hA 20 (by decide)) T_m9 (by decide)) nm0) F_A20
                have hkf : kf τ [(30, 17), (30, 18), (30, 19), (30, 20), (30, 21), (30, 22)] [m9] h h_140 := kf_tr hkf kf_146 (List.forall_mem_nil _) (List.forall_mem_cons.mpr ⟨Or.inl (by simp), List.forall_mem_nil _⟩)
                obtain ⟨wg_147, F_m9, mk_148, xq_149⟩ := xp_145
                obtain ⟨m_150, m_151, m_152, m_153, m_154⟩ := mk_148
                obtain ⟨hr0, hw0⟩ := xq_149
                subst hr0
                exact W.zret (v := 0) hx hb hr (by decide) (fun t9 ht hW => ⟨0, h_140, rfl, ⟨zb0, hT, hkf, ⟨se8, wg_147, F_m9, ⟨m_150, m_151, (by omega), ⟨by omega, by omega⟩, ⟨by omega, by omega⟩⟩, ⟨(by rw [aI_of F_A17, aI_of F_A19, aI_of F_A20]; exact hSq), by omega, fun _ => hw0⟩⟩⟩, by rw [ht]; exact hH, by rw [ht]; exact hz⟩) hLo d_Mo_isGone_156
              · skip
                have ic_155 : r_129.toInt = v_136.toInt := congrArg Int32.toInt hc_138
                refine lv_aload_n hx hb d_Mo_isGone_130 rfl (lv_at hl 1 rfl) ?_
                refine lv_iload hx hb d_Mo_isGone_131 (lv_at hl 7 rfl) ?_
                refine lv_bipush (v := 10) hx hb d_Mo_isGone_133 (by decide) ?_
                refine lv_iadd hx hb d_Mo_isGone_135 ?_
                refine lv_topi (fun v_156 e_157 => ?_)
                refine lv_iconst (v := 4) hx hb d_Mo_isGone_136 (by decide) ?_
                have is_158 : v_156.toInt = v_42.toInt + 10 := by rw [e_157]; exact iAddK 10 rfl (by omega) (by omega)
                refine hm_callPi (va_runV (As := [.int v_156, .int 4]) (b := m9) (rest := []) ⟨hx, hb, hml, hown, hts⟩ (m_lowAt l D t G ak av h_57 τ n m9 v_156 4 A th sd lo le wr ma nu di pl se8 wg_64 op   hn hT T_m9  F_m9 hA ⟨m_67, m_68, (by omega), ⟨by omega, by omega⟩, ⟨by omega, by omega⟩⟩ (by have l0 : (4 : Int32).toInt = 4 := rfl; omega) (by have l0 : (4 : Int32).toInt = 4 := rfl; omega) (by have l0 : (4 : Int32).toInt = 4 := rfl; omega)) ⟨cw9B 2 hts mw_742 mw_743 mw_579 rfl rfl (by decide +kernel) ⟨Nat.le_of_ble_eq_true rfl, Nat.le_of_ble_eq_true rfl⟩, hts _ mw_744, hts _ mw_745⟩ (hP_V (q := (R_Mo, F_Mo, 41)) kE_ok hE hK hH F_m9 rfl) rfl rfl hl.1 rfl (lv_room (Nat.le_of_ble_eq_true rfl)) d_Mo_isGone_137 ⟨Nat.le_of_ble_eq_true rfl, Nat.le_of_ble_eq_true rfl⟩) (fun r_159 h_160 H_161 hp_163  hH z_162 => ?_)
                have hz : s.heap.size ≤ H_161.size := Nat.le_trans hz z_162
                obtain ⟨xp_164, rfl⟩ := hp_163
                have el_165 : r_159 = loF g_1 sd v_156 4 0 := by rw [aI_of F_A0] at xp_164; exact xp_164
                refine lv_aload_n hx hb d_Mo_isGone_140 rfl (lv_at hl 1 rfl) ?_
                refine hm_get (ci := 9) (v := .ref (A 19)) (C := R_Mo) (T := F_Mo) (N := 41) hx hb hts ig_Mo hown hK hH F_m9 rfl 31 (by decide) (hts _ mw_762) (fun _ h9 => h9) rfl d_Mo_isGone_141 ?_
                refine lv_iload hx hb d_Mo_isGone_144 (lv_at hl 0 rfl) ?_
                refine hm_iald hx hb hK hH 2 F_A19 rfl (iIn (by omega) (by omega)) d_Mo_isGone_146 ?_
                refine lv_topi (fun v_166 e_167 => ?_)
                refine lv_icmp_eq (tgt := 157) hx hb d_Mo_isGone_147 (by decide) (fun hc_168 => ?_) (fun hc_168 => ?_)
                · skip
                  have ic_169 : r_159.toInt = v_166.toInt := congrArg Int32.toInt hc_168
                  refine lv_goto (tgt := 195) hx hb d_Mo_isGone_157 (by decide) ?_
                  obtain ⟨j_170, e_171⟩ : ∃ z : Int32, z = rc9 + 1 := ⟨_, rfl⟩
                  refine lv_iinc (v := j_170) (lv' := [(3, .int j_170), (7, .int of9), (0, .ref m9), (1, .int d9), (2, .int v_8), (4, .int be9), (5, .int pp), (6, .int v_42)]) hx hb d_Mo_isGone_195 hl (k := 4) rfl e_171.symm (by decide) rfl (fun ls hl => ?_)
                  refine lv_iload hx hb d_Mo_isGone_198 (lv_at hl 6 rfl) ?_
                  refine lv_aload_n hx hb d_Mo_isGone_200 rfl (lv_at hl 2 rfl) ?_
                  refine lv_iload hx hb d_Mo_isGone_201 (lv_at hl 7 rfl) ?_
                  refine hm_callPi (va_runV (As := [.int v_42]) (b := m9) (rest := [.int pp]) ⟨hx, hb, hml, hown, hts⟩ (m_get l D t G ak av h_57 τ n m9 v_42 A th sd lo le wr ma nu di pl se8 wg_64 op   hn hT T_m9  F_m9 hA ⟨m_67, m_68, (by omega), ⟨by omega, by omega⟩, ⟨by omega, by omega⟩⟩ (by omega) (by omega)) ⟨cw9B 1 hts mw_698 mw_699 mw_579 rfl rfl (by decide +kernel) ⟨Nat.le_of_ble_eq_true rfl, Nat.le_of_ble_eq_true rfl⟩, hts _ mw_700, hts _ mw_701⟩ (hP_V (q := (R_Mo, F_Mo, 41)) kE_ok hE hK hH F_m9 rfl) rfl rfl hl.1 rfl (lv_room (Nat.le_of_ble_eq_true rfl)) d_Mo_isGone_203 ⟨Nat.le_of_ble_eq_true rfl, Nat.le_of_ble_eq_true rfl⟩) (fun r_172 h_173 H_174 hp_176  hH z_175 => ?_)
                  have hz : s.heap.size ≤ H_174.size := Nat.le_trans hz z_175
                  obtain ⟨xp_177, rfl⟩ := hp_176
                  obtain ⟨ia_178, eg_179⟩ := xp_177
                  rw [aI_of F_A0] at eg_179
                  have ele : r_172 = qle := eg_179.trans q1
                  have iele := congrArg Int32.toInt ele
                  refine lv_iadd hx hb d_Mo_isGone_206 ?_
                  refine lv_topi (fun v_180 e_181 => ?_)
                  refine lv_istore (lv' := [(5, .int v_180), (3, .int j_170), (7, .int of9), (0, .ref m9), (1, .int d9), (2, .int v_8), (4, .int be9), (6, .int v_42)]) hx hb d_Mo_isGone_207 hl (by decide) rfl (fun ls hl => ?_)
                  refine lv_goto (tgt := 19) hx hb d_Mo_isGone_209 (by decide) ?_
                  have is_182 : j_170.toInt = rc9.toInt + 1 := by rw [e_171]; exact iAddK 1 rfl (by omega) (by omega)
                  have is_183 : v_180.toInt = pp.toInt + r_172.toInt := by rw [e_181]; exact iAdd (by omega) (by omega)
                  exact ih19 (mU v_180) ls _ locs _ (by rw [hk19]; exact mU_lt (by omega)) ⟨j_170, be9, v_180, se8, wg_64, rfl, (lv_sub hl [3, 4, 5, 1, 6, 0] rfl), hH, hz, hLo, F_A0, hT, hkf, F_m9, ⟨by omega, by omega, by omega, by omega, by omega, by omega⟩, (by rw [aI_of F_A17, aI_of F_A19, aI_of F_A20]; exact hSq), (by rw [aI_of F_A19]; exact hz9)⟩
                · skip
                  refine lv_aload_n hx hb d_Mo_isGone_150 rfl (lv_at hl 1 rfl) ?_
                  refine lv_iload hx hb d_Mo_isGone_151 (lv_at hl 7 rfl) ?_
                  refine hm_calli (va_runV (As := [.int v_42]) (b := m9) (rest := []) ⟨hx, hb, hml, hown, hts⟩ (m_no l D t G ak av h_57 τ n m9 v_42 A th sd lo le wr ma nu di pl se8 wg_64 op   hn hT T_m9  F_m9 hA ⟨m_67, m_68, (by omega), ⟨by omega, by omega⟩, ⟨by omega, by omega⟩⟩ (by omega)) ⟨cw9B 1 hts mw_738 mw_739 mw_579 rfl rfl (by decide +kernel) ⟨Nat.le_of_ble_eq_true rfl, Nat.le_of_ble_eq_true rfl⟩, hts _ mw_740, hts _ mw_741⟩ (hP_V (q := (R_Mo, F_Mo, 41)) kE_ok hE hK hH F_m9 rfl) rfl rfl hl.1 rfl (lv_room (Nat.le_of_ble_eq_true rfl)) d_Mo_isGone_153 ⟨Nat.le_of_ble_eq_true rfl, Nat.le_of_ble_eq_true rfl⟩) hLo (fun r_184 h_185 H_186 locs hp_188 hH z_187 hLo => ?_)
                  have hz : s.heap.size ≤ H_186.size := Nat.le_trans hz z_187
                  have hT0 := hT
                  obtain ⟨c_189, hT, kf_191, xp_190⟩ := hp_188
                  have F_A0 : h_185 (A 0) = some (.inl ((t 0), 819200, .inl g_1)) := kf_at kf_191 (hA 0 (by decide)) (by decide) tn0 (nmc (tne (hA 0 (by decide)) T_m9 (by decide)) nm0) F_A0
                  have F_A17 : h_185 (A 17) = some (.inl ((t 2), 31, .inl g_10)) := kf_at kf_191 (hA 17 (by decide)) (by decide) tn0 (nmc (tne (hA 17 (by decide)) T_m9 (by decide)) nm0) F_A17
                  have F_A19 : h_185 (A 19) = some (.inl ((t 2), 31, .inl g_11)) := kf_at kf_191 (hA 19 (by decide)) (by decide) tn0 (nmc (tne (hA 19 (by decide)) T_m9 (by decide)) nm0) F_A19
                  have F_A20 : h_185 (A 20) = some (.inl ((t 2), 31, .inl g_12)) := kf_at kf_191 (hA 20 (by decide)) (by decide) tn0 (nmc (tne (hA 20 (by decide)) T_m9 (by decide)) nm0) F_A20
                  have hkf : kf τ [(30, 17), (30, 18), (30, 19), (30, 20), (30, 21), (30, 22)] [m9] h h_185 := kf_tr hkf kf_191 (List.forall_mem_nil _) (List.forall_mem_cons.mpr ⟨Or.inl (by simp), List.forall_mem_nil _⟩)
                  obtain ⟨wg_192, F_m9, mk_193, xq_194⟩ := xp_190
                  obtain ⟨m_195, m_196, m_197, m_198, m_199⟩ := mk_193
                  obtain ⟨hr0, hw0⟩ := xq_194
                  subst hr0
                  exact W.zret (v := 0) hx hb hr (by decide) (fun t9 ht hW => ⟨0, h_185, rfl, ⟨zb0, hT, hkf, ⟨se8, wg_192, F_m9, ⟨m_195, m_196, (by omega), ⟨by omega, by omega⟩, ⟨by omega, by omega⟩⟩, ⟨(by rw [aI_of F_A17, aI_of F_A19, aI_of F_A20]; exact hSq), by omega, fun _ => hw0⟩⟩⟩, by rw [ht]; exact hH, by rw [ht]; exact hz⟩) hLo d_Mo_isGone_156
            · skip
              refine lv_iload_n hx hb d_Mo_isGone_91 rfl (lv_at hl 3 rfl) ?_
              refine lv_if_eq (tgt := 99) hx hb d_Mo_isGone_92 (by decide) (fun hc_200 => ?_) (fun hc_200 => ?_)
              · skip
                have ic_201 : rc9.toInt = 0 := congrArg Int32.toInt hc_200
                refine lv_iload_n hx hb d_Mo_isGone_99 rfl (lv_at hl 1 rfl) ?_
                refine lv_goto (tgt := 109) hx hb d_Mo_isGone_100 (by decide) ?_
                exact J109 d9 _ _ _ _ ⟨(lv_sub hl [0, 1, 2, 3, 4, 5, 6] rfl), hH, hz, hLo, rfl, ⟨by omega, by omega⟩⟩
              · skip
                refine lv_iload_n hx hb d_Mo_isGone_95 rfl (lv_at hl 1 rfl) ?_
                refine lv_if_ne (tgt := 103) hx hb d_Mo_isGone_96 (by decide) (fun hc_202 => ?_) (fun hc_202 => ?_)
                · skip
                  refine lv_aload_n hx hb d_Mo_isGone_103 rfl (lv_at hl 0 rfl) ?_
                  refine hm_get (ci := 9) (v := .ref (A 17)) (C := R_Mo) (T := F_Mo) (N := 41) hx hb hts ig_Mo hown hK hH F_m9 rfl 29 (by decide) (hts _ mw_760) (fun _ h9 => h9) rfl d_Mo_isGone_104 ?_
                  refine lv_iload_n hx hb d_Mo_isGone_107 rfl (lv_at hl 1 rfl) ?_
                  refine hm_iald hx hb hK hH 2 F_A17 rfl (iIn (by omega) (by omega)) d_Mo_isGone_108 ?_
                  refine lv_topi (fun v_203 e_204 => ?_)
                  have hab := seQ_at hSq hd0 (by omega)
                  rw [← clN, ← e_204] at hab
                  have hab2 := hab.2.1 (fun z => hc_202 (Int32.toInt_inj.mp (by rw [z]; rfl)))
                  have hab1 := hab.1.1
                  exact J109 v_203 _ _ _ _ ⟨(lv_sub hl [0, 1, 2, 3, 4, 5, 6] rfl), hH, hz, hLo, rfl, ⟨by omega, by omega⟩⟩
                · skip
                  have ic_205 : d9.toInt = 0 := congrArg Int32.toInt hc_202
                  refine lv_iload_n hx hb d_Mo_isGone_99 rfl (lv_at hl 1 rfl) ?_
                  refine lv_goto (tgt := 109) hx hb d_Mo_isGone_100 (by decide) ?_
                  exact J109 d9 _ _ _ _ ⟨(lv_sub hl [0, 1, 2, 3, 4, 5, 6] rfl), hH, hz, hLo, rfl, ⟨by omega, by omega⟩⟩
        · skip
          have ic_206 : r_56.toInt = 0 := congrArg Int32.toInt hc_72
          have hw0 := xq_66.2 hc_72
          refine lv_iconst (v := 0) hx hb d_Mo_isGone_84 (by decide) ?_
          exact W.zret (v := 0) hx hb hr (by decide) (fun t9 ht hW => ⟨0, h_57, rfl, ⟨zb0, hT, hkf, ⟨se8, wg_64, F_m9, ⟨m_67, m_68, (by omega), ⟨by omega, by omega⟩, ⟨by omega, by omega⟩⟩, ⟨(by rw [aI_of F_A17, aI_of F_A19, aI_of F_A20]; exact hSq), by omega, fun _ => hw0⟩⟩⟩, by rw [ht]; exact hH, by rw [ht]; exact hz⟩) hLo d_Mo_isGone_85
      · skip
        refine lv_iload_n hx hb d_Mo_isGone_68 rfl (lv_at hl 4 rfl) ?_
        refine lv_iconst (v := 2) hx hb d_Mo_isGone_69 (by decide) ?_
        refine lv_icmp_ge (tgt := 77) hx hb d_Mo_isGone_70 (by decide) (fun hc_207 => ?_) (fun hc_207 => ?_)
        · skip
          have ic_208 : 2 ≤ rc9.toInt := iLe hc_207
          refine lv_iconst (v := 2) hx hb d_Mo_isGone_77 (by decide) ?_
          exact J78 2 _ _ _ _ ⟨(lv_sub hl [1, 2, 3, 4, 5, 6, 0] rfl), hH, hz, hLo, rfl⟩
        · skip
          have ic_209 : rc9.toInt < 2 := iNe hc_207
          refine lv_iload_n hx hb d_Mo_isGone_73 rfl (lv_at hl 4 rfl) ?_
          refine lv_goto (tgt := 78) hx hb d_Mo_isGone_74 (by decide) ?_
          exact J78 rc9 _ _ _ _ ⟨(lv_sub hl [1, 2, 3, 4, 5, 6, 0] rfl), hH, hz, hLo, rfl⟩
    · skip
      have ic_210 : r_45.toInt = 0 := congrArg Int32.toInt hc_53
      refine lv_iload hx hb d_Mo_isGone_41 (lv_at hl 5 rfl) ?_
      refine lv_iload hx hb d_Mo_isGone_43 (lv_at hl 5 rfl) ?_
      refine lv_sipush (v := 2048) hx hb d_Mo_isGone_45 (by decide) ?_
      refine lv_irem hx hb d_Mo_isGone_48 (by decide) ?_
      refine lv_topi (fun v_211 e_212 => ?_)
      have id_213 : 0 ≤ pp.toInt → v_211.toInt = pp.toInt % 2048 := fun h9 => by rw [e_212]; exact i_mod (d := 2048) (by decide) h9
      have irm := id_213 (by omega)
      refine lv_isub hx hb d_Mo_isGone_49 ?_
      refine lv_topi (fun v_214 e_215 => ?_)
      refine lv_sipush (v := 2048) hx hb d_Mo_isGone_50 (by decide) ?_
      refine lv_iadd hx hb d_Mo_isGone_53 ?_
      refine lv_topi (fun v_216 e_217 => ?_)
      refine lv_istore (lv' := [(5, .int v_216), (0, .ref m9), (1, .int d9), (2, .int v_8), (3, .int rc9), (4, .int be9)]) hx hb d_Mo_isGone_54 hl (by decide) rfl (fun ls hl => ?_)
      refine lv_goto (tgt := 19) hx hb d_Mo_isGone_56 (by decide) ?_
      have is_218 : v_214.toInt = pp.toInt - v_211.toInt := by rw [e_215]; exact iSub (by omega) (by omega)
      have is_219 : v_216.toInt = v_214.toInt + 2048 := by rw [e_217]; exact iAddK 2048 rfl (by omega) (by omega)
      exact ih19 (mU v_216) ls _ locs _ (by rw [hk19]; exact mU_lt (by omega)) ⟨rc9, be9, v_216, se8, wg8, rfl, (lv_sub hl [1, 2, 3, 4, 5, 0] rfl), hH, hz, hLo, F_A0, hT, hkf, F_m9, ⟨by omega, by omega, by omega, by omega, by omega, by omega⟩, (by rw [aI_of F_A17, aI_of F_A19, aI_of F_A20]; exact hSq), (by rw [aI_of F_A19]; exact hz9)⟩
