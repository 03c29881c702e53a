set_option maxRecDepth 100000 in
theorem mw_599 : Cond.code y_Mo_told b_Mo_told 6 (some .long) ∈ lw_g := lw_gin (List.mem_append_right _ (List.mem_of_getElem? (i := 1064) rfl)) (by decide +kernel)
set_option maxRecDepth 100000 in
theorem mw_600 : Cond.methodLink R_Mo 135 y_Mo_told ∈ lw_g := lw_gin (List.mem_append_right _ (List.mem_of_getElem? (i := 1062) rfl)) (by decide +kernel)
set_option maxRecDepth 100000 in
theorem mw_601 : Cond.static y_Mo_told ∈ lw_g := lw_gin (List.mem_append_right _ (List.mem_of_getElem? (i := 1063) rfl)) (by decide +kernel)
set_option maxRecDepth 100000 in
theorem mw_602 : Cond.code y_Mo_isNode b_Mo_isNode 2 (some .boolean) ∈ lw_g := lw_gin (List.mem_append_right _ (List.mem_of_getElem? (i := 1072) rfl)) (by decide +kernel)
set_option maxRecDepth 100000 in
theorem mw_603 : Cond.methodLink R_Mo 139 y_Mo_isNode ∈ lw_g := lw_gin (List.mem_append_right _ (List.mem_of_getElem? (i := 1069) rfl)) (by decide +kernel)
set_option maxRecDepth 100000 in
theorem mw_604 : Cond.instanceMethod y_Mo_isNode ∈ lw_g := lw_gin (List.mem_append_right _ (List.mem_of_getElem? (i := 1071) rfl)) (by decide +kernel)
set_option maxRecDepth 100000 in
theorem mw_605 : Cond.selects R_Mo y_Mo_isNode y_Mo_isNode ∈ lw_g := lw_gin (List.mem_append_left _ (List.mem_of_getElem? (i := 29) rfl)) (by decide +kernel)
set_option maxRecDepth 100000 in
theorem mw_606 : Cond.fieldLink R_Mo 27 "WriteOnceDiscModel" "isDirectory" "[Z" ∈ lw_g := lw_gin (List.mem_append_right _ (List.mem_of_getElem? (i := 929) rfl)) (by decide +kernel)
set_option maxRecDepth 100000 in
theorem mw_607 : Cond.code y_Mo_namedIn b_Mo_namedIn 5 (some .int) ∈ lw_g := lw_gin (List.mem_append_right _ (List.mem_of_getElem? (i := 1080) rfl)) (by decide +kernel)
set_option maxRecDepth 100000 in
theorem mw_608 : Cond.methodLink R_Mo 146 y_Mo_namedIn ∈ lw_g := lw_gin (List.mem_append_right _ (List.mem_of_getElem? (i := 1077) rfl)) (by decide +kernel)
set_option maxRecDepth 100000 in
theorem mw_609 : Cond.instanceMethod y_Mo_namedIn ∈ lw_g := lw_gin (List.mem_append_right _ (List.mem_of_getElem? (i := 1079) rfl)) (by decide +kernel)
set_option maxRecDepth 100000 in
theorem mw_610 : Cond.selects R_Mo y_Mo_namedIn y_Mo_namedIn ∈ lw_g := lw_gin (List.mem_append_left _ (List.mem_of_getElem? (i := 31) rfl)) (by decide +kernel)
set_option maxRecDepth 100000 in
theorem mw_611 : Cond.code y_Mo_alive b_Mo_alive 3 (some .int) ∈ lw_g := lw_gin (List.mem_append_right _ (List.mem_of_getElem? (i := 1084) rfl)) (by decide +kernel)
set_option maxRecDepth 100000 in
theorem mw_612 : Cond.methodLink R_Mo 150 y_Mo_alive ∈ lw_g := lw_gin (List.mem_append_right _ (List.mem_of_getElem? (i := 1081) rfl)) (by decide +kernel)
set_option maxRecDepth 100000 in
theorem mw_613 : Cond.instanceMethod y_Mo_alive ∈ lw_g := lw_gin (List.mem_append_right _ (List.mem_of_getElem? (i := 1083) rfl)) (by decide +kernel)
set_option maxRecDepth 100000 in
theorem mw_614 : Cond.selects R_Mo y_Mo_alive y_Mo_alive ∈ lw_g := lw_gin (List.mem_append_left _ (List.mem_of_getElem? (i := 32) rfl)) (by decide +kernel)
set_option maxRecDepth 100000 in
theorem mw_615 : Cond.fieldLink R_Mo 38 "WriteOnceDiscModel" "size" "[I" ∈ lw_g := lw_gin (List.mem_append_right _ (List.mem_of_getElem? (i := 932) rfl)) (by decide +kernel)
set_option maxRecDepth 100000 in
theorem mw_616 : Cond.fieldLink R_Mo 41 "WriteOnceDiscModel" "seed" "[I" ∈ lw_g := lw_gin (List.mem_append_right _ (List.mem_of_getElem? (i := 933) rfl)) (by decide +kernel)
set_option maxRecDepth 100000 in
theorem mw_617 : Cond.fieldLink R_Mo 44 "WriteOnceDiscModel" "isWritten" "[Z" ∈ lw_g := lw_gin (List.mem_append_right _ (List.mem_of_getElem? (i := 934) rfl)) (by decide +kernel)
set_option maxRecDepth 100000 in
theorem mw_618 : Cond.fieldLink R_Mo 47 "WriteOnceDiscModel" "extent" "[I" ∈ lw_g := lw_gin (List.mem_append_right _ (List.mem_of_getElem? (i := 935) rfl)) (by decide +kernel)
set_option maxRecDepth 100000 in
theorem mw_619 : Cond.code y_Mo_depthOf b_Mo_depthOf 4 (some .int) ∈ lw_g := lw_gin (List.mem_append_right _ (List.mem_of_getElem? (i := 1076) rfl)) (by decide +kernel)
set_option maxRecDepth 100000 in
theorem mw_620 : Cond.methodLink R_Mo 142 y_Mo_depthOf ∈ lw_g := lw_gin (List.mem_append_right _ (List.mem_of_getElem? (i := 1073) rfl)) (by decide +kernel)
set_option maxRecDepth 100000 in
theorem mw_621 : Cond.instanceMethod y_Mo_depthOf ∈ lw_g := lw_gin (List.mem_append_right _ (List.mem_of_getElem? (i := 1075) rfl)) (by decide +kernel)
set_option maxRecDepth 100000 in
theorem mw_622 : Cond.selects R_Mo y_Mo_depthOf y_Mo_depthOf ∈ lw_g := lw_gin (List.mem_append_left _ (List.mem_of_getElem? (i := 30) rfl)) (by decide +kernel)
set_option maxRecDepth 100000 in
theorem mw_623 : Cond.code y_Mo_add b_Mo_add 11 (some .int) ∈ lw_g := lw_gin (List.mem_append_right _ (List.mem_of_getElem? (i := 1061) rfl)) (by decide +kernel)
set_option maxRecDepth 100000 in
theorem mw_624 : Cond.methodLink R_Mo 154 y_Mo_add ∈ lw_g := lw_gin (List.mem_append_right _ (List.mem_of_getElem? (i := 1058) rfl)) (by decide +kernel)
set_option maxRecDepth 100000 in
theorem mw_625 : Cond.instanceMethod y_Mo_add ∈ lw_g := lw_gin (List.mem_append_right _ (List.mem_of_getElem? (i := 1060) rfl)) (by decide +kernel)
set_option maxRecDepth 100000 in
theorem mw_626 : Cond.selects R_Mo y_Mo_add y_Mo_add ∈ lw_g := lw_gin (List.mem_append_left _ (List.mem_of_getElem? (i := 28) rfl)) (by decide +kernel)
set_option maxRecDepth 100000 in
theorem mw_627 : Cond.code y_Mo_isContent b_Mo_isContent 2 (some .boolean) ∈ lw_g := lw_gin (List.mem_append_right _ (List.mem_of_getElem? (i := 1091) rfl)) (by decide +kernel)
set_option maxRecDepth 100000 in
theorem mw_628 : Cond.methodLink R_Mo 158 y_Mo_isContent ∈ lw_g := lw_gin (List.mem_append_right _ (List.mem_of_getElem? (i := 1089) rfl)) (by decide +kernel)
set_option maxRecDepth 100000 in
theorem mw_629 : Cond.static y_Mo_isContent ∈ lw_g := lw_gin (List.mem_append_right _ (List.mem_of_getElem? (i := 1090) rfl)) (by decide +kernel)
set_option maxRecDepth 100000 in
theorem mw_630 : Cond.code y_Mo_liesIn b_Mo_liesIn 4 (some .boolean) ∈ lw_g := lw_gin (List.mem_append_right _ (List.mem_of_getElem? (i := 1107) rfl)) (by decide +kernel)
set_option maxRecDepth 100000 in
theorem mw_631 : Cond.methodLink R_Mo 162 y_Mo_liesIn ∈ lw_g := lw_gin (List.mem_append_right _ (List.mem_of_getElem? (i := 1104) rfl)) (by decide +kernel)
set_option maxRecDepth 100000 in
theorem mw_632 : Cond.instanceMethod y_Mo_liesIn ∈ lw_g := lw_gin (List.mem_append_right _ (List.mem_of_getElem? (i := 1106) rfl)) (by decide +kernel)
set_option maxRecDepth 100000 in
theorem mw_633 : Cond.selects R_Mo y_Mo_liesIn y_Mo_liesIn ∈ lw_g := lw_gin (List.mem_append_left _ (List.mem_of_getElem? (i := 33) rfl)) (by decide +kernel)
theorem d_Mo_add_0 : decode b_Mo_add 0 = .ok (.aload_n 0, 1) := by decide +kernel
theorem d_Mo_add_1 : decode b_Mo_add 1 = .ok (.getfield 125, 3) := by decide +kernel
theorem d_Mo_add_4 : decode b_Mo_add 4 = .ok (.ifCond .eq 6, 3) := by decide +kernel
theorem d_Mo_add_10 : decode b_Mo_add 10 = .ok (.lload_n 2, 1) := by decide +kernel
theorem d_Mo_add_11 : decode b_Mo_add 11 = .ok (.invokestatic 135, 3) := by decide +kernel
theorem d_Mo_add_14 : decode b_Mo_add 14 = .ok (.lstore 8, 2) := by decide +kernel
theorem d_Mo_add_16 : decode b_Mo_add 16 = .ok (.iload 7, 2) := by decide +kernel
theorem d_Mo_add_18 : decode b_Mo_add 18 = .ok (.ifCond .eq 44, 3) := by decide +kernel
theorem d_Mo_add_62 : decode b_Mo_add 62 = .ok (.bipush (-2), 2) := by decide +kernel
theorem d_Mo_add_64 : decode b_Mo_add 64 = .ok (.ireturn, 1) := by decide +kernel
theorem d_Mo_add_21 : decode b_Mo_add 21 = .ok (.aload_n 0, 1) := by decide +kernel
theorem d_Mo_add_22 : decode b_Mo_add 22 = .ok (.iload_n 1, 1) := by decide +kernel
theorem d_Mo_add_23 : decode b_Mo_add 23 = .ok (.invokevirtual 139, 3) := by decide +kernel
theorem d_Mo_add_26 : decode b_Mo_add 26 = .ok (.ifCond .eq 36, 3) := by decide +kernel
theorem d_Mo_add_29 : decode b_Mo_add 29 = .ok (.aload_n 0, 1) := by decide +kernel
theorem d_Mo_add_30 : decode b_Mo_add 30 = .ok (.getfield 27, 3) := by decide +kernel
theorem d_Mo_add_33 : decode b_Mo_add 33 = .ok (.iload_n 1, 1) := by decide +kernel
theorem d_Mo_add_34 : decode b_Mo_add 34 = .ok (.baload, 1) := by decide +kernel
theorem d_Mo_add_35 : decode b_Mo_add 35 = .ok (.ifCond .eq 27, 3) := by decide +kernel
theorem d_Mo_add_38 : decode b_Mo_add 38 = .ok (.lload 8, 2) := by decide +kernel
theorem d_Mo_add_40 : decode b_Mo_add 40 = .ok (.lconst 0, 1) := by decide +kernel
theorem d_Mo_add_41 : decode b_Mo_add 41 = .ok (.lcmp, 1) := by decide +kernel
theorem d_Mo_add_42 : decode b_Mo_add 42 = .ok (.ifCond .eq 20, 3) := by decide +kernel
theorem d_Mo_add_45 : decode b_Mo_add 45 = .ok (.iload 4, 2) := by decide +kernel
theorem d_Mo_add_47 : decode b_Mo_add 47 = .ok (.ifCond .eq 18, 3) := by decide +kernel
theorem d_Mo_add_65 : decode b_Mo_add 65 = .ok (.aload_n 0, 1) := by decide +kernel
theorem d_Mo_add_66 : decode b_Mo_add 66 = .ok (.iload_n 1, 1) := by decide +kernel
theorem d_Mo_add_67 : decode b_Mo_add 67 = .ok (.lload 8, 2) := by decide +kernel
theorem d_Mo_add_69 : decode b_Mo_add 69 = .ok (.invokevirtual 146, 3) := by decide +kernel
theorem d_Mo_add_72 : decode b_Mo_add 72 = .ok (.ifCond .lt 6, 3) := by decide +kernel
theorem d_Mo_add_78 : decode b_Mo_add 78 = .ok (.aload_n 0, 1) := by decide +kernel
theorem d_Mo_add_79 : decode b_Mo_add 79 = .ok (.invokevirtual 150, 3) := by decide +kernel
theorem d_Mo_add_82 : decode b_Mo_add 82 = .ok (.bipush 30, 2) := by decide +kernel
theorem d_Mo_add_84 : decode b_Mo_add 84 = .ok (.if_icmp .ne 6, 3) := by decide +kernel
theorem d_Mo_add_90 : decode b_Mo_add 90 = .ok (.aload_n 0, 1) := by decide +kernel
theorem d_Mo_add_91 : decode b_Mo_add 91 = .ok (.getfield 112, 3) := by decide +kernel
theorem d_Mo_add_94 : decode b_Mo_add 94 = .ok (.istore 10, 2) := by decide +kernel
theorem d_Mo_add_96 : decode b_Mo_add 96 = .ok (.aload_n 0, 1) := by decide +kernel
theorem d_Mo_add_97 : decode b_Mo_add 97 = .ok (.dup, 1) := by decide +kernel
theorem d_Mo_add_98 : decode b_Mo_add 98 = .ok (.getfield 112, 3) := by decide +kernel
theorem d_Mo_add_101 : decode b_Mo_add 101 = .ok (.iconst 1, 1) := by decide +kernel
theorem d_Mo_add_102 : decode b_Mo_add 102 = .ok (.iadd, 1) := by decide +kernel
theorem d_Mo_add_103 : decode b_Mo_add 103 = .ok (.putfield 112, 3) := by decide +kernel
theorem d_Mo_add_106 : decode b_Mo_add 106 = .ok (.aload_n 0, 1) := by decide +kernel
theorem d_Mo_add_107 : decode b_Mo_add 107 = .ok (.getfield 24, 3) := by decide +kernel
theorem d_Mo_add_110 : decode b_Mo_add 110 = .ok (.iload 10, 2) := by decide +kernel
theorem d_Mo_add_112 : decode b_Mo_add 112 = .ok (.iconst 1, 1) := by decide +kernel
theorem d_Mo_add_113 : decode b_Mo_add 113 = .ok (.bastore, 1) := by decide +kernel
theorem d_Mo_add_114 : decode b_Mo_add 114 = .ok (.aload_n 0, 1) := by decide +kernel
theorem d_Mo_add_115 : decode b_Mo_add 115 = .ok (.getfield 27, 3) := by decide +kernel
theorem d_Mo_add_118 : decode b_Mo_add 118 = .ok (.iload 10, 2) := by decide +kernel
theorem d_Mo_add_120 : decode b_Mo_add 120 = .ok (.iload 4, 2) := by decide +kernel
theorem d_Mo_add_122 : decode b_Mo_add 122 = .ok (.bastore, 1) := by decide +kernel
theorem d_Mo_add_123 : decode b_Mo_add 123 = .ok (.aload_n 0, 1) := by decide +kernel
theorem d_Mo_add_124 : decode b_Mo_add 124 = .ok (.getfield 30, 3) := by decide +kernel
theorem d_Mo_add_127 : decode b_Mo_add 127 = .ok (.iload 10, 2) := by decide +kernel
theorem d_Mo_add_129 : decode b_Mo_add 129 = .ok (.iload_n 1, 1) := by decide +kernel
theorem d_Mo_add_130 : decode b_Mo_add 130 = .ok (.iastore, 1) := by decide +kernel
theorem d_Mo_add_131 : decode b_Mo_add 131 = .ok (.aload_n 0, 1) := by decide +kernel
theorem d_Mo_add_132 : decode b_Mo_add 132 = .ok (.getfield 34, 3) := by decide +kernel
theorem d_Mo_add_135 : decode b_Mo_add 135 = .ok (.iload 10, 2) := by decide +kernel
theorem d_Mo_add_137 : decode b_Mo_add 137 = .ok (.lload 8, 2) := by decide +kernel
theorem d_Mo_add_139 : decode b_Mo_add 139 = .ok (.lastore, 1) := by decide +kernel
theorem d_Mo_add_140 : decode b_Mo_add 140 = .ok (.aload_n 0, 1) := by decide +kernel
theorem d_Mo_add_141 : decode b_Mo_add 141 = .ok (.getfield 38, 3) := by decide +kernel
theorem d_Mo_add_144 : decode b_Mo_add 144 = .ok (.iload 10, 2) := by decide +kernel
theorem d_Mo_add_146 : decode b_Mo_add 146 = .ok (.iload 5, 2) := by decide +kernel
theorem d_Mo_add_148 : decode b_Mo_add 148 = .ok (.iastore, 1) := by decide +kernel
theorem d_Mo_add_149 : decode b_Mo_add 149 = .ok (.aload_n 0, 1) := by decide +kernel
theorem d_Mo_add_150 : decode b_Mo_add 150 = .ok (.getfield 41, 3) := by decide +kernel
theorem d_Mo_add_153 : decode b_Mo_add 153 = .ok (.iload 10, 2) := by decide +kernel
theorem d_Mo_add_155 : decode b_Mo_add 155 = .ok (.iload 6, 2) := by decide +kernel
theorem d_Mo_add_157 : decode b_Mo_add 157 = .ok (.iastore, 1) := by decide +kernel
theorem d_Mo_add_158 : decode b_Mo_add 158 = .ok (.aload_n 0, 1) := by decide +kernel
theorem d_Mo_add_159 : decode b_Mo_add 159 = .ok (.getfield 44, 3) := by decide +kernel
theorem d_Mo_add_162 : decode b_Mo_add 162 = .ok (.iload 10, 2) := by decide +kernel
theorem d_Mo_add_164 : decode b_Mo_add 164 = .ok (.iconst 0, 1) := by decide +kernel
theorem d_Mo_add_165 : decode b_Mo_add 165 = .ok (.bastore, 1) := by decide +kernel
theorem d_Mo_add_166 : decode b_Mo_add 166 = .ok (.aload_n 0, 1) := by decide +kernel
theorem d_Mo_add_167 : decode b_Mo_add 167 = .ok (.getfield 47, 3) := by decide +kernel
theorem d_Mo_add_170 : decode b_Mo_add 170 = .ok (.iload 10, 2) := by decide +kernel
theorem d_Mo_add_172 : decode b_Mo_add 172 = .ok (.iconst 0, 1) := by decide +kernel
theorem d_Mo_add_173 : decode b_Mo_add 173 = .ok (.iastore, 1) := by decide +kernel
theorem d_Mo_add_174 : decode b_Mo_add 174 = .ok (.iload 10, 2) := by decide +kernel
theorem d_Mo_add_176 : decode b_Mo_add 176 = .ok (.ireturn, 1) := by decide +kernel
theorem d_Mo_add_87 : decode b_Mo_add 87 = .ok (.bipush (-3), 2) := by decide +kernel
theorem d_Mo_add_89 : decode b_Mo_add 89 = .ok (.ireturn, 1) := by decide +kernel
theorem d_Mo_add_75 : decode b_Mo_add 75 = .ok (.bipush (-5), 2) := by decide +kernel
theorem d_Mo_add_77 : decode b_Mo_add 77 = .ok (.ireturn, 1) := by decide +kernel
theorem d_Mo_add_50 : decode b_Mo_add 50 = .ok (.aload_n 0, 1) := by decide +kernel
theorem d_Mo_add_51 : decode b_Mo_add 51 = .ok (.iload_n 1, 1) := by decide +kernel
theorem d_Mo_add_52 : decode b_Mo_add 52 = .ok (.invokevirtual 142, 3) := by decide +kernel
theorem d_Mo_add_55 : decode b_Mo_add 55 = .ok (.iconst 1, 1) := by decide +kernel
theorem d_Mo_add_56 : decode b_Mo_add 56 = .ok (.iadd, 1) := by decide +kernel
theorem d_Mo_add_57 : decode b_Mo_add 57 = .ok (.bipush 6, 2) := by decide +kernel
theorem d_Mo_add_59 : decode b_Mo_add 59 = .ok (.if_icmp .le 6, 3) := by decide +kernel
theorem d_Mo_add_7 : decode b_Mo_add 7 = .ok (.bipush (-4), 2) := by decide +kernel
theorem d_Mo_add_9 : decode b_Mo_add 9 = .ok (.ireturn, 1) := by decide +kernel
theorem d_Mo_directory_0 : decode b_Mo_directory 0 = .ok (.aload_n 0, 1) := by decide +kernel
theorem d_Mo_directory_1 : decode b_Mo_directory 1 = .ok (.iconst 0, 1) := by decide +kernel
theorem d_Mo_directory_2 : decode b_Mo_directory 2 = .ok (.putfield 109, 3) := by decide +kernel
theorem d_Mo_directory_5 : decode b_Mo_directory 5 = .ok (.aload_n 0, 1) := by decide +kernel
theorem d_Mo_directory_6 : decode b_Mo_directory 6 = .ok (.iload_n 1, 1) := by decide +kernel
theorem d_Mo_directory_7 : decode b_Mo_directory 7 = .ok (.lload_n 2, 1) := by decide +kernel
theorem d_Mo_directory_8 : decode b_Mo_directory 8 = .ok (.iconst 1, 1) := by decide +kernel
theorem d_Mo_directory_9 : decode b_Mo_directory 9 = .ok (.iconst 0, 1) := by decide +kernel
theorem d_Mo_directory_10 : decode b_Mo_directory 10 = .ok (.iconst 0, 1) := by decide +kernel
theorem d_Mo_directory_11 : decode b_Mo_directory 11 = .ok (.iconst 1, 1) := by decide +kernel
theorem d_Mo_directory_12 : decode b_Mo_directory 12 = .ok (.invokevirtual 154, 3) := by decide +kernel
theorem d_Mo_directory_15 : decode b_Mo_directory 15 = .ok (.ireturn, 1) := by decide +kernel
theorem d_Mo_file_0 : decode b_Mo_file 0 = .ok (.aload_n 0, 1) := by decide +kernel
theorem d_Mo_file_1 : decode b_Mo_file 1 = .ok (.iconst 0, 1) := by decide +kernel
theorem d_Mo_file_2 : decode b_Mo_file 2 = .ok (.putfield 109, 3) := by decide +kernel
theorem d_Mo_file_5 : decode b_Mo_file 5 = .ok (.aload_n 0, 1) := by decide +kernel
theorem d_Mo_file_6 : decode b_Mo_file 6 = .ok (.iload_n 1, 1) := by decide +kernel
theorem d_Mo_file_7 : decode b_Mo_file 7 = .ok (.lload_n 2, 1) := by decide +kernel
theorem d_Mo_file_8 : decode b_Mo_file 8 = .ok (.iconst 0, 1) := by decide +kernel
theorem d_Mo_file_9 : decode b_Mo_file 9 = .ok (.iload 4, 2) := by decide +kernel
theorem d_Mo_file_11 : decode b_Mo_file 11 = .ok (.iload 5, 2) := by decide +kernel
theorem d_Mo_file_13 : decode b_Mo_file 13 = .ok (.iload 4, 2) := by decide +kernel
theorem d_Mo_file_15 : decode b_Mo_file 15 = .ok (.iload 5, 2) := by decide +kernel
theorem d_Mo_file_17 : decode b_Mo_file 17 = .ok (.invokestatic 158, 3) := by decide +kernel
theorem d_Mo_file_20 : decode b_Mo_file 20 = .ok (.invokevirtual 154, 3) := by decide +kernel
theorem d_Mo_file_23 : decode b_Mo_file 23 = .ok (.ireturn, 1) := by decide +kernel
theorem d_Mo_replace_0 : decode b_Mo_replace 0 = .ok (.aload_n 0, 1) := by decide +kernel
theorem d_Mo_replace_1 : decode b_Mo_replace 1 = .ok (.iconst 0, 1) := by decide +kernel
theorem d_Mo_replace_2 : decode b_Mo_replace 2 = .ok (.putfield 109, 3) := by decide +kernel
theorem d_Mo_replace_5 : decode b_Mo_replace 5 = .ok (.aload_n 0, 1) := by decide +kernel
theorem d_Mo_replace_6 : decode b_Mo_replace 6 = .ok (.getfield 125, 3) := by decide +kernel
theorem d_Mo_replace_9 : decode b_Mo_replace 9 = .ok (.ifCond .eq 6, 3) := by decide +kernel
theorem d_Mo_replace_15 : decode b_Mo_replace 15 = .ok (.aload_n 0, 1) := by decide +kernel
theorem d_Mo_replace_16 : decode b_Mo_replace 16 = .ok (.iload_n 1, 1) := by decide +kernel
theorem d_Mo_replace_17 : decode b_Mo_replace 17 = .ok (.invokevirtual 139, 3) := by decide +kernel
theorem d_Mo_replace_20 : decode b_Mo_replace 20 = .ok (.ifCond .eq 20, 3) := by decide +kernel
theorem d_Mo_replace_40 : decode b_Mo_replace 40 = .ok (.bipush (-2), 2) := by decide +kernel
theorem d_Mo_replace_42 : decode b_Mo_replace 42 = .ok (.ireturn, 1) := by decide +kernel
theorem d_Mo_replace_23 : decode b_Mo_replace 23 = .ok (.aload_n 0, 1) := by decide +kernel
theorem d_Mo_replace_24 : decode b_Mo_replace 24 = .ok (.getfield 27, 3) := by decide +kernel
theorem d_Mo_replace_27 : decode b_Mo_replace 27 = .ok (.iload_n 1, 1) := by decide +kernel
theorem d_Mo_replace_28 : decode b_Mo_replace 28 = .ok (.baload, 1) := by decide +kernel
theorem d_Mo_replace_29 : decode b_Mo_replace 29 = .ok (.ifCond .ne 11, 3) := by decide +kernel
theorem d_Mo_replace_32 : decode b_Mo_replace 32 = .ok (.iload_n 2, 1) := by decide +kernel
theorem d_Mo_replace_33 : decode b_Mo_replace 33 = .ok (.iload_n 3, 1) := by decide +kernel
theorem d_Mo_replace_34 : decode b_Mo_replace 34 = .ok (.invokestatic 158, 3) := by decide +kernel
theorem d_Mo_replace_37 : decode b_Mo_replace 37 = .ok (.ifCond .ne 6, 3) := by decide +kernel
theorem d_Mo_replace_43 : decode b_Mo_replace 43 = .ok (.aload_n 0, 1) := by decide +kernel
theorem d_Mo_replace_44 : decode b_Mo_replace 44 = .ok (.getfield 38, 3) := by decide +kernel
theorem d_Mo_replace_47 : decode b_Mo_replace 47 = .ok (.iload_n 1, 1) := by decide +kernel
theorem d_Mo_replace_48 : decode b_Mo_replace 48 = .ok (.iload_n 2, 1) := by decide +kernel
theorem d_Mo_replace_49 : decode b_Mo_replace 49 = .ok (.iastore, 1) := by decide +kernel
theorem d_Mo_replace_50 : decode b_Mo_replace 50 = .ok (.aload_n 0, 1) := by decide +kernel
theorem d_Mo_replace_51 : decode b_Mo_replace 51 = .ok (.getfield 41, 3) := by decide +kernel
theorem d_Mo_replace_54 : decode b_Mo_replace 54 = .ok (.iload_n 1, 1) := by decide +kernel
theorem d_Mo_replace_55 : decode b_Mo_replace 55 = .ok (.iload_n 3, 1) := by decide +kernel
theorem d_Mo_replace_56 : decode b_Mo_replace 56 = .ok (.iastore, 1) := by decide +kernel
theorem d_Mo_replace_57 : decode b_Mo_replace 57 = .ok (.aload_n 0, 1) := by decide +kernel
theorem d_Mo_replace_58 : decode b_Mo_replace 58 = .ok (.getfield 44, 3) := by decide +kernel
theorem d_Mo_replace_61 : decode b_Mo_replace 61 = .ok (.iload_n 1, 1) := by decide +kernel
theorem d_Mo_replace_62 : decode b_Mo_replace 62 = .ok (.iconst 0, 1) := by decide +kernel
theorem d_Mo_replace_63 : decode b_Mo_replace 63 = .ok (.bastore, 1) := by decide +kernel
theorem d_Mo_replace_64 : decode b_Mo_replace 64 = .ok (.aload_n 0, 1) := by decide +kernel
theorem d_Mo_replace_65 : decode b_Mo_replace 65 = .ok (.getfield 47, 3) := by decide +kernel
theorem d_Mo_replace_68 : decode b_Mo_replace 68 = .ok (.iload_n 1, 1) := by decide +kernel
theorem d_Mo_replace_69 : decode b_Mo_replace 69 = .ok (.iconst 0, 1) := by decide +kernel
theorem d_Mo_replace_70 : decode b_Mo_replace 70 = .ok (.iastore, 1) := by decide +kernel
theorem d_Mo_replace_71 : decode b_Mo_replace 71 = .ok (.iconst 0, 1) := by decide +kernel
theorem d_Mo_replace_72 : decode b_Mo_replace 72 = .ok (.ireturn, 1) := by decide +kernel
theorem d_Mo_replace_12 : decode b_Mo_replace 12 = .ok (.bipush (-4), 2) := by decide +kernel
theorem d_Mo_replace_14 : decode b_Mo_replace 14 = .ok (.ireturn, 1) := by decide +kernel
theorem d_Mo_remove_0 : decode b_Mo_remove 0 = .ok (.aload_n 0, 1) := by decide +kernel
theorem d_Mo_remove_1 : decode b_Mo_remove 1 = .ok (.iconst 0, 1) := by decide +kernel
theorem d_Mo_remove_2 : decode b_Mo_remove 2 = .ok (.putfield 109, 3) := by decide +kernel
theorem d_Mo_remove_5 : decode b_Mo_remove 5 = .ok (.aload_n 0, 1) := by decide +kernel
theorem d_Mo_remove_6 : decode b_Mo_remove 6 = .ok (.getfield 125, 3) := by decide +kernel
theorem d_Mo_remove_9 : decode b_Mo_remove 9 = .ok (.ifCond .eq 6, 3) := by decide +kernel
theorem d_Mo_remove_15 : decode b_Mo_remove 15 = .ok (.aload_n 0, 1) := by decide +kernel
theorem d_Mo_remove_16 : decode b_Mo_remove 16 = .ok (.iload_n 1, 1) := by decide +kernel
theorem d_Mo_remove_17 : decode b_Mo_remove 17 = .ok (.invokevirtual 139, 3) := by decide +kernel
theorem d_Mo_remove_20 : decode b_Mo_remove 20 = .ok (.ifCond .eq 7, 3) := by decide +kernel
theorem d_Mo_remove_27 : decode b_Mo_remove 27 = .ok (.bipush (-2), 2) := by decide +kernel
theorem d_Mo_remove_29 : decode b_Mo_remove 29 = .ok (.ireturn, 1) := by decide +kernel
theorem d_Mo_remove_23 : decode b_Mo_remove 23 = .ok (.iload_n 1, 1) := by decide +kernel
theorem d_Mo_remove_24 : decode b_Mo_remove 24 = .ok (.ifCond .ne 6, 3) := by decide +kernel
theorem d_Mo_remove_30 : decode b_Mo_remove 30 = .ok (.iconst 1, 1) := by decide +kernel
theorem d_Mo_remove_31 : decode b_Mo_remove 31 = .ok (.istore_n 2, 1) := by decide +kernel
theorem d_Mo_remove_32 : decode b_Mo_remove 32 = .ok (.iload_n 2, 1) := by decide +kernel
theorem d_Mo_remove_33 : decode b_Mo_remove 33 = .ok (.aload_n 0, 1) := by decide +kernel
theorem d_Mo_remove_34 : decode b_Mo_remove 34 = .ok (.getfield 112, 3) := by decide +kernel
theorem d_Mo_remove_37 : decode b_Mo_remove 37 = .ok (.if_icmp .ge 31, 3) := by decide +kernel
theorem d_Mo_remove_68 : decode b_Mo_remove 68 = .ok (.aload_n 0, 1) := by decide +kernel
theorem d_Mo_remove_69 : decode b_Mo_remove 69 = .ok (.getfield 24, 3) := by decide +kernel
theorem d_Mo_remove_72 : decode b_Mo_remove 72 = .ok (.iload_n 1, 1) := by decide +kernel
theorem d_Mo_remove_73 : decode b_Mo_remove 73 = .ok (.iconst 0, 1) := by decide +kernel
theorem d_Mo_remove_74 : decode b_Mo_remove 74 = .ok (.bastore, 1) := by decide +kernel
theorem d_Mo_remove_75 : decode b_Mo_remove 75 = .ok (.iconst 0, 1) := by decide +kernel
theorem d_Mo_remove_76 : decode b_Mo_remove 76 = .ok (.ireturn, 1) := by decide +kernel
theorem d_Mo_remove_40 : decode b_Mo_remove 40 = .ok (.aload_n 0, 1) := by decide +kernel
theorem d_Mo_remove_41 : decode b_Mo_remove 41 = .ok (.getfield 24, 3) := by decide +kernel
theorem d_Mo_remove_44 : decode b_Mo_remove 44 = .ok (.iload_n 2, 1) := by decide +kernel
theorem d_Mo_remove_45 : decode b_Mo_remove 45 = .ok (.baload, 1) := by decide +kernel
theorem d_Mo_remove_46 : decode b_Mo_remove 46 = .ok (.ifCond .eq 16, 3) := by decide +kernel
theorem d_Mo_remove_62 : decode b_Mo_remove 62 = .ok (.iinc 2 1, 3) := by decide +kernel
theorem d_Mo_remove_65 : decode b_Mo_remove 65 = .ok (.goto (-33), 3) := by decide +kernel
theorem d_Mo_remove_49 : decode b_Mo_remove 49 = .ok (.aload_n 0, 1) := by decide +kernel
theorem d_Mo_remove_50 : decode b_Mo_remove 50 = .ok (.getfield 30, 3) := by decide +kernel
theorem d_Mo_remove_53 : decode b_Mo_remove 53 = .ok (.iload_n 2, 1) := by decide +kernel
theorem d_Mo_remove_54 : decode b_Mo_remove 54 = .ok (.iaload, 1) := by decide +kernel
theorem d_Mo_remove_55 : decode b_Mo_remove 55 = .ok (.iload_n 1, 1) := by decide +kernel
theorem d_Mo_remove_56 : decode b_Mo_remove 56 = .ok (.if_icmp .ne 6, 3) := by decide +kernel
theorem d_Mo_remove_59 : decode b_Mo_remove 59 = .ok (.bipush (-2), 2) := by decide +kernel
theorem d_Mo_remove_61 : decode b_Mo_remove 61 = .ok (.ireturn, 1) := by decide +kernel
theorem d_Mo_remove_12 : decode b_Mo_remove 12 = .ok (.bipush (-4), 2) := by decide +kernel
theorem d_Mo_remove_14 : decode b_Mo_remove 14 = .ok (.ireturn, 1) := by decide +kernel
theorem d_Mo_rename_0 : decode b_Mo_rename 0 = .ok (.aload_n 0, 1) := by decide +kernel
theorem d_Mo_rename_1 : decode b_Mo_rename 1 = .ok (.iconst 0, 1) := by decide +kernel
theorem d_Mo_rename_2 : decode b_Mo_rename 2 = .ok (.putfield 109, 3) := by decide +kernel
theorem d_Mo_rename_5 : decode b_Mo_rename 5 = .ok (.aload_n 0, 1) := by decide +kernel
theorem d_Mo_rename_6 : decode b_Mo_rename 6 = .ok (.getfield 125, 3) := by decide +kernel
theorem d_Mo_rename_9 : decode b_Mo_rename 9 = .ok (.ifCond .eq 6, 3) := by decide +kernel
theorem d_Mo_rename_15 : decode b_Mo_rename 15 = .ok (.lload_n 3, 1) := by decide +kernel
theorem d_Mo_rename_16 : decode b_Mo_rename 16 = .ok (.invokestatic 135, 3) := by decide +kernel
theorem d_Mo_rename_19 : decode b_Mo_rename 19 = .ok (.lstore 5, 2) := by decide +kernel
theorem d_Mo_rename_21 : decode b_Mo_rename 21 = .ok (.aload_n 0, 1) := by decide +kernel
theorem d_Mo_rename_22 : decode b_Mo_rename 22 = .ok (.iload_n 1, 1) := by decide +kernel
theorem d_Mo_rename_23 : decode b_Mo_rename 23 = .ok (.invokevirtual 139, 3) := by decide +kernel
theorem d_Mo_rename_26 : decode b_Mo_rename 26 = .ok (.ifCond .eq 40, 3) := by decide +kernel
theorem d_Mo_rename_66 : decode b_Mo_rename 66 = .ok (.bipush (-2), 2) := by decide +kernel
theorem d_Mo_rename_68 : decode b_Mo_rename 68 = .ok (.ireturn, 1) := by decide +kernel
theorem d_Mo_rename_29 : decode b_Mo_rename 29 = .ok (.iload_n 1, 1) := by decide +kernel
theorem d_Mo_rename_30 : decode b_Mo_rename 30 = .ok (.ifCond .eq 36, 3) := by decide +kernel
theorem d_Mo_rename_33 : decode b_Mo_rename 33 = .ok (.aload_n 0, 1) := by decide +kernel
theorem d_Mo_rename_34 : decode b_Mo_rename 34 = .ok (.iload_n 2, 1) := by decide +kernel
theorem d_Mo_rename_35 : decode b_Mo_rename 35 = .ok (.invokevirtual 139, 3) := by decide +kernel
theorem d_Mo_rename_38 : decode b_Mo_rename 38 = .ok (.ifCond .eq 28, 3) := by decide +kernel
theorem d_Mo_rename_41 : decode b_Mo_rename 41 = .ok (.aload_n 0, 1) := by decide +kernel
theorem d_Mo_rename_42 : decode b_Mo_rename 42 = .ok (.getfield 27, 3) := by decide +kernel
theorem d_Mo_rename_45 : decode b_Mo_rename 45 = .ok (.iload_n 2, 1) := by decide +kernel
theorem d_Mo_rename_46 : decode b_Mo_rename 46 = .ok (.baload, 1) := by decide +kernel
theorem d_Mo_rename_47 : decode b_Mo_rename 47 = .ok (.ifCond .eq 19, 3) := by decide +kernel
theorem d_Mo_rename_50 : decode b_Mo_rename 50 = .ok (.lload 5, 2) := by decide +kernel
theorem d_Mo_rename_52 : decode b_Mo_rename 52 = .ok (.lconst 0, 1) := by decide +kernel
theorem d_Mo_rename_53 : decode b_Mo_rename 53 = .ok (.lcmp, 1) := by decide +kernel
theorem d_Mo_rename_54 : decode b_Mo_rename 54 = .ok (.ifCond .eq 12, 3) := by decide +kernel
theorem d_Mo_rename_57 : decode b_Mo_rename 57 = .ok (.aload_n 0, 1) := by decide +kernel
theorem d_Mo_rename_58 : decode b_Mo_rename 58 = .ok (.iload_n 2, 1) := by decide +kernel
theorem d_Mo_rename_59 : decode b_Mo_rename 59 = .ok (.iload_n 1, 1) := by decide +kernel
theorem d_Mo_rename_60 : decode b_Mo_rename 60 = .ok (.invokevirtual 162, 3) := by decide +kernel
theorem d_Mo_rename_63 : decode b_Mo_rename 63 = .ok (.ifCond .eq 6, 3) := by decide +kernel
theorem d_Mo_rename_69 : decode b_Mo_rename 69 = .ok (.aload_n 0, 1) := by decide +kernel
theorem d_Mo_rename_70 : decode b_Mo_rename 70 = .ok (.iload_n 2, 1) := by decide +kernel
theorem d_Mo_rename_71 : decode b_Mo_rename 71 = .ok (.invokevirtual 142, 3) := by decide +kernel
theorem d_Mo_rename_74 : decode b_Mo_rename 74 = .ok (.iconst 1, 1) := by decide +kernel
theorem d_Mo_rename_75 : decode b_Mo_rename 75 = .ok (.iadd, 1) := by decide +kernel
theorem d_Mo_rename_76 : decode b_Mo_rename 76 = .ok (.aload_n 0, 1) := by decide +kernel
theorem d_Mo_rename_77 : decode b_Mo_rename 77 = .ok (.iload_n 1, 1) := by decide +kernel
theorem d_Mo_rename_78 : decode b_Mo_rename 78 = .ok (.invokevirtual 142, 3) := by decide +kernel
theorem d_Mo_rename_81 : decode b_Mo_rename 81 = .ok (.isub, 1) := by decide +kernel
theorem d_Mo_rename_82 : decode b_Mo_rename 82 = .ok (.istore 7, 2) := by decide +kernel
theorem d_Mo_rename_84 : decode b_Mo_rename 84 = .ok (.iconst 1, 1) := by decide +kernel
theorem d_Mo_rename_85 : decode b_Mo_rename 85 = .ok (.istore 8, 2) := by decide +kernel
theorem d_Mo_rename_87 : decode b_Mo_rename 87 = .ok (.iload 8, 2) := by decide +kernel
theorem d_Mo_rename_89 : decode b_Mo_rename 89 = .ok (.aload_n 0, 1) := by decide +kernel
theorem d_Mo_rename_90 : decode b_Mo_rename 90 = .ok (.getfield 112, 3) := by decide +kernel
theorem d_Mo_rename_93 : decode b_Mo_rename 93 = .ok (.if_icmp .ge 56, 3) := by decide +kernel
theorem d_Mo_rename_149 : decode b_Mo_rename 149 = .ok (.iconst 1, 1) := by decide +kernel
theorem d_Mo_rename_150 : decode b_Mo_rename 150 = .ok (.istore 8, 2) := by decide +kernel
theorem d_Mo_rename_152 : decode b_Mo_rename 152 = .ok (.iload 8, 2) := by decide +kernel
theorem d_Mo_rename_154 : decode b_Mo_rename 154 = .ok (.aload_n 0, 1) := by decide +kernel
theorem d_Mo_rename_155 : decode b_Mo_rename 155 = .ok (.getfield 112, 3) := by decide +kernel
theorem d_Mo_rename_158 : decode b_Mo_rename 158 = .ok (.if_icmp .ge 52, 3) := by decide +kernel
theorem d_Mo_rename_210 : decode b_Mo_rename 210 = .ok (.aload_n 0, 1) := by decide +kernel
theorem d_Mo_rename_211 : decode b_Mo_rename 211 = .ok (.getfield 30, 3) := by decide +kernel
theorem d_Mo_rename_214 : decode b_Mo_rename 214 = .ok (.iload_n 1, 1) := by decide +kernel
theorem d_Mo_rename_215 : decode b_Mo_rename 215 = .ok (.iload_n 2, 1) := by decide +kernel
theorem d_Mo_rename_216 : decode b_Mo_rename 216 = .ok (.iastore, 1) := by decide +kernel
theorem d_Mo_rename_217 : decode b_Mo_rename 217 = .ok (.aload_n 0, 1) := by decide +kernel
theorem d_Mo_rename_218 : decode b_Mo_rename 218 = .ok (.getfield 34, 3) := by decide +kernel
theorem d_Mo_rename_221 : decode b_Mo_rename 221 = .ok (.iload_n 1, 1) := by decide +kernel
theorem d_Mo_rename_222 : decode b_Mo_rename 222 = .ok (.lload 5, 2) := by decide +kernel
theorem d_Mo_rename_224 : decode b_Mo_rename 224 = .ok (.lastore, 1) := by decide +kernel
theorem d_Mo_rename_225 : decode b_Mo_rename 225 = .ok (.iconst 0, 1) := by decide +kernel
theorem d_Mo_rename_226 : decode b_Mo_rename 226 = .ok (.ireturn, 1) := by decide +kernel
theorem d_Mo_rename_161 : decode b_Mo_rename 161 = .ok (.iload 8, 2) := by decide +kernel
theorem d_Mo_rename_163 : decode b_Mo_rename 163 = .ok (.iload_n 1, 1) := by decide +kernel
theorem d_Mo_rename_164 : decode b_Mo_rename 164 = .ok (.if_icmp .eq 40, 3) := by decide +kernel
theorem d_Mo_rename_204 : decode b_Mo_rename 204 = .ok (.iinc 8 1, 3) := by decide +kernel
theorem d_Mo_rename_207 : decode b_Mo_rename 207 = .ok (.goto (-55), 3) := by decide +kernel
theorem d_Mo_rename_167 : decode b_Mo_rename 167 = .ok (.aload_n 0, 1) := by decide +kernel
theorem d_Mo_rename_168 : decode b_Mo_rename 168 = .ok (.getfield 24, 3) := by decide +kernel
theorem d_Mo_rename_171 : decode b_Mo_rename 171 = .ok (.iload 8, 2) := by decide +kernel
theorem d_Mo_rename_173 : decode b_Mo_rename 173 = .ok (.baload, 1) := by decide +kernel
theorem d_Mo_rename_174 : decode b_Mo_rename 174 = .ok (.ifCond .eq 30, 3) := by decide +kernel
theorem d_Mo_rename_177 : decode b_Mo_rename 177 = .ok (.aload_n 0, 1) := by decide +kernel
theorem d_Mo_rename_178 : decode b_Mo_rename 178 = .ok (.getfield 30, 3) := by decide +kernel
theorem d_Mo_rename_181 : decode b_Mo_rename 181 = .ok (.iload 8, 2) := by decide +kernel
theorem d_Mo_rename_183 : decode b_Mo_rename 183 = .ok (.iaload, 1) := by decide +kernel
theorem d_Mo_rename_184 : decode b_Mo_rename 184 = .ok (.iload_n 2, 1) := by decide +kernel
theorem d_Mo_rename_185 : decode b_Mo_rename 185 = .ok (.if_icmp .ne 19, 3) := by decide +kernel
theorem d_Mo_rename_188 : decode b_Mo_rename 188 = .ok (.aload_n 0, 1) := by decide +kernel
theorem d_Mo_rename_189 : decode b_Mo_rename 189 = .ok (.getfield 34, 3) := by decide +kernel
theorem d_Mo_rename_192 : decode b_Mo_rename 192 = .ok (.iload 8, 2) := by decide +kernel
theorem d_Mo_rename_194 : decode b_Mo_rename 194 = .ok (.laload, 1) := by decide +kernel
theorem d_Mo_rename_195 : decode b_Mo_rename 195 = .ok (.lload 5, 2) := by decide +kernel
theorem d_Mo_rename_197 : decode b_Mo_rename 197 = .ok (.lcmp, 1) := by decide +kernel
theorem d_Mo_rename_198 : decode b_Mo_rename 198 = .ok (.ifCond .ne 6, 3) := by decide +kernel
theorem d_Mo_rename_201 : decode b_Mo_rename 201 = .ok (.bipush (-5), 2) := by decide +kernel
theorem d_Mo_rename_203 : decode b_Mo_rename 203 = .ok (.ireturn, 1) := by decide +kernel
theorem d_Mo_rename_96 : decode b_Mo_rename 96 = .ok (.aload_n 0, 1) := by decide +kernel
theorem d_Mo_rename_97 : decode b_Mo_rename 97 = .ok (.getfield 24, 3) := by decide +kernel
theorem d_Mo_rename_100 : decode b_Mo_rename 100 = .ok (.iload 8, 2) := by decide +kernel
theorem d_Mo_rename_102 : decode b_Mo_rename 102 = .ok (.baload, 1) := by decide +kernel
theorem d_Mo_rename_103 : decode b_Mo_rename 103 = .ok (.ifCond .eq 40, 3) := by decide +kernel
theorem d_Mo_rename_143 : decode b_Mo_rename 143 = .ok (.iinc 8 1, 3) := by decide +kernel
theorem d_Mo_rename_146 : decode b_Mo_rename 146 = .ok (.goto (-59), 3) := by decide +kernel
theorem d_Mo_rename_106 : decode b_Mo_rename 106 = .ok (.aload_n 0, 1) := by decide +kernel
theorem d_Mo_rename_107 : decode b_Mo_rename 107 = .ok (.getfield 27, 3) := by decide +kernel
theorem d_Mo_rename_110 : decode b_Mo_rename 110 = .ok (.iload 8, 2) := by decide +kernel
theorem d_Mo_rename_112 : decode b_Mo_rename 112 = .ok (.baload, 1) := by decide +kernel
theorem d_Mo_rename_113 : decode b_Mo_rename 113 = .ok (.ifCond .eq 30, 3) := by decide +kernel
theorem d_Mo_rename_116 : decode b_Mo_rename 116 = .ok (.aload_n 0, 1) := by decide +kernel
theorem d_Mo_rename_117 : decode b_Mo_rename 117 = .ok (.iload 8, 2) := by decide +kernel
theorem d_Mo_rename_119 : decode b_Mo_rename 119 = .ok (.iload_n 1, 1) := by decide +kernel
theorem d_Mo_rename_120 : decode b_Mo_rename 120 = .ok (.invokevirtual 162, 3) := by decide +kernel
theorem d_Mo_rename_123 : decode b_Mo_rename 123 = .ok (.ifCond .eq 20, 3) := by decide +kernel
theorem d_Mo_rename_126 : decode b_Mo_rename 126 = .ok (.aload_n 0, 1) := by decide +kernel
theorem d_Mo_rename_127 : decode b_Mo_rename 127 = .ok (.iload 8, 2) := by decide +kernel
theorem d_Mo_rename_129 : decode b_Mo_rename 129 = .ok (.invokevirtual 142, 3) := by decide +kernel
theorem d_Mo_rename_132 : decode b_Mo_rename 132 = .ok (.iload 7, 2) := by decide +kernel
theorem d_Mo_rename_134 : decode b_Mo_rename 134 = .ok (.iadd, 1) := by decide +kernel
theorem d_Mo_rename_135 : decode b_Mo_rename 135 = .ok (.bipush 6, 2) := by decide +kernel
theorem d_Mo_rename_137 : decode b_Mo_rename 137 = .ok (.if_icmp .le 6, 3) := by decide +kernel
theorem d_Mo_rename_140 : decode b_Mo_rename 140 = .ok (.bipush (-2), 2) := by decide +kernel
theorem d_Mo_rename_142 : decode b_Mo_rename 142 = .ok (.ireturn, 1) := by decide +kernel
theorem d_Mo_rename_12 : decode b_Mo_rename 12 = .ok (.bipush (-4), 2) := by decide +kernel
theorem d_Mo_rename_14 : decode b_Mo_rename 14 = .ok (.ireturn, 1) := by decide +kernel
theorem d_Mo_tree_0 : decode b_Mo_tree 0 = .ok (.aload_n 0, 1) := by decide +kernel
theorem d_Mo_tree_1 : decode b_Mo_tree 1 = .ok (.aload_n 0, 1) := by decide +kernel
theorem d_Mo_tree_2 : decode b_Mo_tree 2 = .ok (.iload_n 1, 1) := by decide +kernel
theorem d_Mo_tree_3 : decode b_Mo_tree 3 = .ok (.invokevirtual 139, 3) := by decide +kernel
theorem d_Mo_tree_6 : decode b_Mo_tree 6 = .ok (.ifCond .eq 16, 3) := by decide +kernel
theorem d_Mo_tree_22 : decode b_Mo_tree 22 = .ok (.iconst 1, 1) := by decide +kernel
theorem d_Mo_tree_23 : decode b_Mo_tree 23 = .ok (.putfield 109, 3) := by decide +kernel
theorem d_Mo_tree_26 : decode b_Mo_tree 26 = .ok (.aload_n 0, 1) := by decide +kernel
theorem d_Mo_tree_27 : decode b_Mo_tree 27 = .ok (.getfield 109, 3) := by decide +kernel
theorem d_Mo_tree_30 : decode b_Mo_tree 30 = .ok (.iconst 1, 1) := by decide +kernel
theorem d_Mo_tree_31 : decode b_Mo_tree 31 = .ok (.if_icmp .ne 5, 3) := by decide +kernel
theorem d_Mo_tree_34 : decode b_Mo_tree 34 = .ok (.iconst 0, 1) := by decide +kernel
theorem d_Mo_tree_35 : decode b_Mo_tree 35 = .ok (.ireturn, 1) := by decide +kernel
theorem d_Mo_tree_9 : decode b_Mo_tree 9 = .ok (.iload_n 2, 1) := by decide +kernel
theorem d_Mo_tree_10 : decode b_Mo_tree 10 = .ok (.iconst 0, 1) := by decide +kernel
theorem d_Mo_tree_11 : decode b_Mo_tree 11 = .ok (.iconst 4, 1) := by decide +kernel
theorem d_Mo_tree_12 : decode b_Mo_tree 12 = .ok (.invokestatic 118, 3) := by decide +kernel
theorem d_Mo_tree_15 : decode b_Mo_tree 15 = .ok (.ifCond .eq 7, 3) := by decide +kernel
theorem d_Mo_tree_18 : decode b_Mo_tree 18 = .ok (.iconst 0, 1) := by decide +kernel
theorem d_Mo_tree_19 : decode b_Mo_tree 19 = .ok (.goto 4, 3) := by decide +kernel
theorem d_Mo_tree_36 : decode b_Mo_tree 36 = .ok (.iload_n 2, 1) := by decide +kernel
theorem d_Mo_tree_37 : decode b_Mo_tree 37 = .ok (.ifCond .ne 12, 3) := by decide +kernel
theorem d_Mo_tree_49 : decode b_Mo_tree 49 = .ok (.iload_n 2, 1) := by decide +kernel
theorem d_Mo_tree_50 : decode b_Mo_tree 50 = .ok (.iconst 1, 1) := by decide +kernel
theorem d_Mo_tree_51 : decode b_Mo_tree 51 = .ok (.if_icmp .ne 20, 3) := by decide +kernel
theorem d_Mo_tree_71 : decode b_Mo_tree 71 = .ok (.iload_n 2, 1) := by decide +kernel
theorem d_Mo_tree_72 : decode b_Mo_tree 72 = .ok (.iconst 2, 1) := by decide +kernel
theorem d_Mo_tree_73 : decode b_Mo_tree 73 = .ok (.if_icmp .ne 12, 3) := by decide +kernel
theorem d_Mo_tree_85 : decode b_Mo_tree 85 = .ok (.iload_n 2, 1) := by decide +kernel
theorem d_Mo_tree_86 : decode b_Mo_tree 86 = .ok (.iconst 3, 1) := by decide +kernel
theorem d_Mo_tree_87 : decode b_Mo_tree 87 = .ok (.if_icmp .ne 12, 3) := by decide +kernel
theorem d_Mo_tree_99 : decode b_Mo_tree 99 = .ok (.aload_n 0, 1) := by decide +kernel
theorem d_Mo_tree_100 : decode b_Mo_tree 100 = .ok (.getfield 47, 3) := by decide +kernel
theorem d_Mo_tree_103 : decode b_Mo_tree 103 = .ok (.iload_n 1, 1) := by decide +kernel
theorem d_Mo_tree_104 : decode b_Mo_tree 104 = .ok (.iaload, 1) := by decide +kernel
theorem d_Mo_tree_105 : decode b_Mo_tree 105 = .ok (.ireturn, 1) := by decide +kernel
theorem d_Mo_tree_90 : decode b_Mo_tree 90 = .ok (.aload_n 0, 1) := by decide +kernel
theorem d_Mo_tree_91 : decode b_Mo_tree 91 = .ok (.getfield 41, 3) := by decide +kernel
theorem d_Mo_tree_94 : decode b_Mo_tree 94 = .ok (.iload_n 1, 1) := by decide +kernel
theorem d_Mo_tree_95 : decode b_Mo_tree 95 = .ok (.iaload, 1) := by decide +kernel
theorem d_Mo_tree_96 : decode b_Mo_tree 96 = .ok (.goto 9, 3) := by decide +kernel
theorem d_Mo_tree_76 : decode b_Mo_tree 76 = .ok (.aload_n 0, 1) := by decide +kernel
theorem d_Mo_tree_77 : decode b_Mo_tree 77 = .ok (.getfield 38, 3) := by decide +kernel
theorem d_Mo_tree_80 : decode b_Mo_tree 80 = .ok (.iload_n 1, 1) := by decide +kernel
theorem d_Mo_tree_81 : decode b_Mo_tree 81 = .ok (.iaload, 1) := by decide +kernel
theorem d_Mo_tree_82 : decode b_Mo_tree 82 = .ok (.goto 23, 3) := by decide +kernel
theorem d_Mo_tree_54 : decode b_Mo_tree 54 = .ok (.aload_n 0, 1) := by decide +kernel
theorem d_Mo_tree_55 : decode b_Mo_tree 55 = .ok (.getfield 27, 3) := by decide +kernel
theorem d_Mo_tree_58 : decode b_Mo_tree 58 = .ok (.iload_n 1, 1) := by decide +kernel
theorem d_Mo_tree_59 : decode b_Mo_tree 59 = .ok (.baload, 1) := by decide +kernel
theorem d_Mo_tree_60 : decode b_Mo_tree 60 = .ok (.ifCond .eq 7, 3) := by decide +kernel
theorem d_Mo_tree_67 : decode b_Mo_tree 67 = .ok (.iconst 1, 1) := by decide +kernel
theorem d_Mo_tree_68 : decode b_Mo_tree 68 = .ok (.goto 37, 3) := by decide +kernel
theorem d_Mo_tree_63 : decode b_Mo_tree 63 = .ok (.iconst 0, 1) := by decide +kernel
theorem d_Mo_tree_64 : decode b_Mo_tree 64 = .ok (.goto 41, 3) := by decide +kernel
theorem d_Mo_tree_40 : decode b_Mo_tree 40 = .ok (.aload_n 0, 1) := by decide +kernel
theorem d_Mo_tree_41 : decode b_Mo_tree 41 = .ok (.getfield 30, 3) := by decide +kernel
theorem d_Mo_tree_44 : decode b_Mo_tree 44 = .ok (.iload_n 1, 1) := by decide +kernel
theorem d_Mo_tree_45 : decode b_Mo_tree 45 = .ok (.iaload, 1) := by decide +kernel
theorem d_Mo_tree_46 : decode b_Mo_tree 46 = .ok (.goto 59, 3) := by decide +kernel
set_option maxHeartbeats 4000000 in
set_option maxRecDepth 100000 in
theorem m_add (l : Launch) (D : va_G) (t : Nat → ClassId) (G : hG) (ak av : Nat → Nat) (h : hM) (τ : tM) (n : Nat) (m9 : Nat) (d9 : Int32) (w9 : Int64) (z9 : Int32) (sz9 : Int32) (sd9 : Int32) (z8 : Int32) (A : Nat → Nat) (th sd lo le wr ma nu di pl se wg op : Int32) (hn : n ≤ 200) (hT : TI τ t n h) (T_m9 : τ m9 = (20, 0)) (Z_z9 : zb z9) (Z_z8 : zb z8) (F_m9 : h m9 = some (.inr (9, mf A n th sd lo le wr ma nu di pl se wg op))) (hA : ∀ i, i < 28 → τ (A i) = (30, i)) (hmk : mOk sd lo ma se op) (hTm : treeM (aI h (A 4)) (aI h (A 6)) ma.toInt.toNat) (hEx : exM (aI h (A 4)) (aI h (A 5)) (aI h (A 8)) (aI h (A 10)) (aI h (A 11)) ma.toInt.toNat n) (hm7 : ma.toInt < 700) (hsz9 : z8 = 1 → 0 ≤ sz9.toInt ∧ sz9.toInt ≤ 6000) : Met l y_Mo_add (.code y_Mo_add b_Mo_add 11 (some .int) :: lw_g) { frames := 2, cells := 0, slots := 0, locals := 45 } (hP (kE D t G ak av) D vwCl G h [.ref m9, .int d9, .long w9, .int z9, .int sz9, .int sd9, .int z8]) (hQi D vwCl G (fun r h' => TI τ t n h' ∧ kf τ [(30, 4), (30, 5), (30, 6), (30, 7), (30, 8), (30, 9), (30, 10), (30, 11)] [m9] h h' ∧ (∃ (ma' : Int32), h' m9 = some (.inr (9, mf A n th sd lo le wr ma' nu di pl se wg op)) ∧ mOk sd lo ma' se op ∧ (ma'.toInt ≤ ma.toInt + 1 ∧ (treeM (aI h' (A 4)) (aI h' (A 6)) ma'.toInt.toNat ∧ exM (aI h' (A 4)) (aI h' (A 5)) (aI h' (A 8)) (aI h' (A 10)) (aI h' (A 11)) ma'.toInt.toNat n))))) 0 0 G.P := by
  refine Met.ofW (cc := b_Mo_add) (maxL := 11) (ret := (some .int)) (by decide) rfl ?_
  intro p e s m args below meth c s₁ Bd hml hv
  obtain ⟨ha, hE, hH⟩ := hv
  have hx := Bd.exec
  have hb := Bd.bytes
  have hr := Bd.returns
  have hts : ∀ w ∈ lw_g, w.before args s = true := fun w hw => atoms_spec (ws := (.code y_Mo_add b_Mo_add 11 (some .int) :: lw_g)) Bd.pre w (List.mem_cons_of_mem _ hw)
  have hown : s.vm.findClass R_Mo = some m.cls := findClass_of_methodNamed Bd.named
  have hlocks := Bd.notSynchronized
  have hK := hE.1
  have hH0 := hH
  have hLo : hLc G.P [] := hLc_nil
  have hz : s.heap.size ≤ s.heap.size := Nat.le_refl _
  have hl := lv_entry [.ref m9, .int d9, .long w9, .int z9, .int sz9, .int sd9, .int z8] (n := 11) (Nat.le_of_ble_eq_true rfl)
  rw [show entryFrame m args 11 = F0 m 0 ((lg_sl [.ref m9, .int d9, .long w9, .int z9, .int sz9, .int sd9, .int z8] ++ List.replicate (11 - (lg_sl [.ref m9, .int d9, .long w9, .int z9, .int sz9, .int sd9, .int z8]).length) Slot.unset).toArray) [] from (by rw [ha]; exact lg_entry_eq m [.ref m9, .int d9, .long w9, .int z9, .int sz9, .int sd9, .int z8] 11)]
  generalize (lg_sl [.ref m9, .int d9, .long w9, .int z9, .int sz9, .int sd9, .int z8] ++ List.replicate (11 - (lg_sl [.ref m9, .int d9, .long w9, .int z9, .int sz9, .int sd9, .int z8]).length) Slot.unset).toArray = ls at hl ⊢
  have hl : lv_has ls 11 [(0, .ref m9), (1, .int d9), (2, .long w9), (4, .int z9), (5, .int sz9), (6, .int sd9), (7, .int z8)] := hl
  have hkf : kf τ [(30, 4), (30, 5), (30, 6), (30, 7), (30, 8), (30, 9), (30, 10), (30, 11)] [m9] h h := kf_rf
  obtain ⟨hsd, hlo, hma, hse, hop⟩ := id hmk
  have inI : (nI n).toInt = n := nI_toInt (by omega)
  obtain ⟨g_1, F_A4, c_2⟩ := TI_arZ (L := 700) hT (hA 4 (by decide)) rfl rfl
  obtain ⟨g_3, F_A5, c_4⟩ := TI_arZ (L := 700) hT (hA 5 (by decide)) rfl rfl
  obtain ⟨g_5, F_A6⟩ := TI_arI (L := 700) hT (hA 6 (by decide)) rfl rfl
  obtain ⟨g_6, F_A8⟩ := TI_arI (L := 700) hT (hA 8 (by decide)) rfl rfl
  obtain ⟨g_7, F_A10, c_8⟩ := TI_arZ (L := 700) hT (hA 10 (by decide)) rfl rfl
  obtain ⟨g_9, F_A11⟩ := TI_arI (L := 700) hT (hA 11 (by decide)) rfl rfl
  rw [aI_of F_A4, aI_of F_A6] at hTm
  rw [aI_of F_A4, aI_of F_A5, aI_of F_A8, aI_of F_A10, aI_of F_A11] at hEx
  refine lv_aload_n hx hb d_Mo_add_0 rfl (lv_at hl 0 rfl) ?_
  refine hm_get (ci := 9) (v := .int lo) (C := R_Mo) (T := F_Mo) (N := 41) hx hb hts ig_Mo hown hK hH F_m9 rfl 6 (by decide) (hts _ mw_593) (fun _ h9 => h9) rfl d_Mo_add_1 ?_
  refine lv_if_eq (tgt := 10) hx hb d_Mo_add_4 (by decide) (fun hc_10 => ?_) (fun hc_10 => ?_)
  · skip
    have ic_11 : lo.toInt = 0 := congrArg Int32.toInt hc_10
    refine lv_lload_n hx hb d_Mo_add_10 rfl (lv_at hl 2 rfl) ?_
    refine hm_callPl (va_runS (As := [.long w9]) (rest := []) ⟨hx, hb, hml, hown, hts⟩ (m_told l D t G ak av h τ n w9    hn hT    ) ⟨cw9B 1 hts mw_599 mw_600 mw_579 rfl rfl (by decide +kernel) ⟨Nat.le_of_ble_eq_true rfl, Nat.le_of_ble_eq_true rfl⟩, hts _ mw_601⟩ (hP_S kE_ok hE hH) rfl rfl hl.1 rfl (lv_room (Nat.le_of_ble_eq_true rfl)) d_Mo_add_11 ⟨Nat.le_of_ble_eq_true rfl, Nat.le_of_ble_eq_true rfl⟩) (fun r_12 h_13 H_14 hp_16  hH z_15 => ?_)
    have hz : s.heap.size ≤ H_14.size := Nat.le_trans hz z_15
    obtain rfl := hp_16
    refine lv_lstore (lv' := [(8, .long r_12), (0, .ref m9), (1, .int d9), (2, .long w9), (4, .int z9), (5, .int sz9), (6, .int sd9), (7, .int z8)]) hx hb d_Mo_add_14 hl (by decide) rfl (fun ls hl => ?_)
    refine lv_iload hx hb d_Mo_add_16 (lv_at hl 7 rfl) ?_
    refine lv_if_eq (tgt := 62) hx hb d_Mo_add_18 (by decide) (fun hc_18 => ?_) (fun hc_18 => ?_)
    · skip
      have ic_19 : z8.toInt = 0 := congrArg Int32.toInt hc_18
      refine lv_bipush (v := -2) hx hb d_Mo_add_62 (by decide) ?_
      exact W.iret (v := (-2)) hx hb hr (fun t9 ht hW => ⟨(-2), h, rfl, ⟨hT, hkf, ⟨ma, F_m9, ⟨hsd, hlo, (by omega), ⟨by omega, by omega⟩, ⟨by omega, by omega⟩⟩, ⟨by omega, ⟨by rw [aI_of F_A4, aI_of F_A6]; exact hTm, by rw [aI_of F_A4, aI_of F_A5, aI_of F_A8, aI_of F_A10, aI_of F_A11]; exact hEx⟩⟩⟩⟩, by rw [ht]; exact hH, by rw [ht]; exact hz⟩) hLo d_Mo_add_64
    · skip
      refine lv_aload_n hx hb d_Mo_add_21 rfl (lv_at hl 1 rfl) ?_
      refine lv_iload_n hx hb d_Mo_add_22 rfl (lv_at hl 2 rfl) ?_
      refine hm_callPi (va_runV (As := [.int d9]) (b := m9) (rest := []) ⟨hx, hb, hml, hown, hts⟩ (m_isNode l D t G ak av h τ n m9 d9 A th sd lo le wr ma nu di pl se wg op   hn hT T_m9  F_m9 hA ⟨hsd, hlo, (by omega), ⟨by omega, by omega⟩, ⟨by omega, by omega⟩⟩ ) ⟨cw9B 1 hts mw_602 mw_603 mw_579 rfl rfl (by decide +kernel) ⟨Nat.le_of_ble_eq_true rfl, Nat.le_of_ble_eq_true rfl⟩, hts _ mw_604, hts _ mw_605⟩ (hP_V (q := (R_Mo, F_Mo, 41)) kE_ok hE hK hH F_m9 rfl) rfl rfl hl.1 rfl (lv_room (Nat.le_of_ble_eq_true rfl)) d_Mo_add_23 ⟨Nat.le_of_ble_eq_true rfl, Nat.le_of_ble_eq_true rfl⟩) (fun r_20 h_21 H_22 hp_24  hH z_23 => ?_)
      have hz : s.heap.size ≤ H_22.size := Nat.le_trans hz z_23
      obtain ⟨c_25, xp_26, rfl⟩ := hp_24
      rcases c_25 with rfl | rfl
      · skip
        refine lv_if_eq (tgt := 62) hx hb d_Mo_add_26 (by decide) (fun hc_27 => ?_) (fun hc_27 => absurd hc_27 (by decide))
        refine lv_bipush (v := -2) hx hb d_Mo_add_62 (by decide) ?_
        exact W.iret (v := (-2)) hx hb hr (fun t9 ht hW => ⟨(-2), h, rfl, ⟨hT, hkf, ⟨ma, F_m9, ⟨hsd, hlo, (by omega), ⟨by omega, by omega⟩, ⟨by omega, by omega⟩⟩, ⟨by omega, ⟨by rw [aI_of F_A4, aI_of F_A6]; exact hTm, by rw [aI_of F_A4, aI_of F_A5, aI_of F_A8, aI_of F_A10, aI_of F_A11]; exact hEx⟩⟩⟩⟩, by rw [ht]; exact hH, by rw [ht]; exact hz⟩) hLo d_Mo_add_64
      · skip
        obtain ⟨in1, in2, in3⟩ := xp_26 rfl
        rw [aI_of F_A4] at in3
        refine lv_if_eq (tgt := 62) hx hb d_Mo_add_26 (by decide) (fun hc_28 => absurd hc_28 (by decide)) (fun hc_28 => ?_)
        refine lv_aload_n hx hb d_Mo_add_29 rfl (lv_at hl 1 rfl) ?_
        refine hm_get (ci := 9) (v := .ref (A 5)) (C := R_Mo) (T := F_Mo) (N := 41) hx hb hts ig_Mo hown hK hH F_m9 rfl 12 (by decide) (hts _ mw_606) (fun _ h9 => h9) rfl d_Mo_add_30 ?_
        refine lv_iload_n hx hb d_Mo_add_33 rfl (lv_at hl 2 rfl) ?_
        refine hm_zald hx hb hK hH 1 F_A5 rfl (iIn (by omega) (by omega)) d_Mo_add_34 ?_
        refine lv_topi (fun v_29 e_30 => ?_)
        have c_31 : zb v_29 := by rw [e_30]; exact c_4 _
        refine lv_if_eq (tgt := 62) hx hb d_Mo_add_35 (by decide) (fun hc_32 => ?_) (fun hc_32 => ?_)
        · skip
          have ic_33 : v_29.toInt = 0 := congrArg Int32.toInt hc_32
          refine lv_bipush (v := -2) hx hb d_Mo_add_62 (by decide) ?_
          exact W.iret (v := (-2)) hx hb hr (fun t9 ht hW => ⟨(-2), h, rfl, ⟨hT, hkf, ⟨ma, F_m9, ⟨hsd, hlo, (by omega), ⟨by omega, by omega⟩, ⟨by omega, by omega⟩⟩, ⟨by omega, ⟨by rw [aI_of F_A4, aI_of F_A6]; exact hTm, by rw [aI_of F_A4, aI_of F_A5, aI_of F_A8, aI_of F_A10, aI_of F_A11]; exact hEx⟩⟩⟩⟩, by rw [ht]; exact hH, by rw [ht]; exact hz⟩) hLo d_Mo_add_64
        · skip
          refine lv_lload hx hb d_Mo_add_38 (lv_at hl 0 rfl) ?_
          refine lv_lconst (v := 0) hx hb d_Mo_add_40 (by decide) ?_
          refine W.lcmp hx hb d_Mo_add_41 ?_
          refine lv_if_eq (tgt := 62) hx hb d_Mo_add_42 (by decide) (fun hc_34 => ?_) (fun hc_34 => ?_)
          · skip
            refine lv_bipush (v := -2) hx hb d_Mo_add_62 (by decide) ?_
            exact W.iret (v := (-2)) hx hb hr (fun t9 ht hW => ⟨(-2), h, rfl, ⟨hT, hkf, ⟨ma, F_m9, ⟨hsd, hlo, (by omega), ⟨by omega, by omega⟩, ⟨by omega, by omega⟩⟩, ⟨by omega, ⟨by rw [aI_of F_A4, aI_of F_A6]; exact hTm, by rw [aI_of F_A4, aI_of F_A5, aI_of F_A8, aI_of F_A10, aI_of F_A11]; exact hEx⟩⟩⟩⟩, by rw [ht]; exact hH, by rw [ht]; exact hz⟩) hLo d_Mo_add_64
          · skip
            refine lv_iload hx hb d_Mo_add_45 (lv_at hl 4 rfl) ?_
            refine lv_if_eq (tgt := 65) hx hb d_Mo_add_47 (by decide) (fun hc_35 => ?_) (fun hc_35 => ?_)
            · skip
              have ic_36 : z9.toInt = 0 := congrArg Int32.toInt hc_35
              refine lv_aload_n hx hb d_Mo_add_65 rfl (lv_at hl 1 rfl) ?_
              refine lv_iload_n hx hb d_Mo_add_66 rfl (lv_at hl 2 rfl) ?_
              refine lv_lload hx hb d_Mo_add_67 (lv_at hl 0 rfl) ?_
              refine hm_callPi (va_runV (As := [.int d9, .long r_12]) (b := m9) (rest := []) ⟨hx, hb, hml, hown, hts⟩ (m_named l D t G ak av h τ n m9 d9 r_12 A th sd lo le wr ma nu di pl se wg op   hn hT T_m9  F_m9 hA ⟨hsd, hlo, (by omega), ⟨by omega, by omega⟩, ⟨by omega, by omega⟩⟩ ) ⟨cw9B 2 hts mw_607 mw_608 mw_579 rfl rfl (by decide +kernel) ⟨Nat.le_of_ble_eq_true rfl, Nat.le_of_ble_eq_true rfl⟩, hts _ mw_609, hts _ mw_610⟩ (hP_V (q := (R_Mo, F_Mo, 41)) kE_ok hE hK hH F_m9 rfl) rfl rfl hl.1 rfl (lv_room (Nat.le_of_ble_eq_true rfl)) d_Mo_add_69 ⟨Nat.le_of_ble_eq_true rfl, Nat.le_of_ble_eq_true rfl⟩) (fun r_37 h_38 H_39 hp_41  hH z_40 => ?_)
              have hz : s.heap.size ≤ H_39.size := Nat.le_trans hz z_40
              obtain rfl := hp_41
              refine lv_if_lt (tgt := 78) hx hb d_Mo_add_72 (by decide) (fun hc_43 => ?_) (fun hc_43 => ?_)
              · skip
                have ic_44 : r_37.toInt < 0 := iLt hc_43
                refine lv_aload_n hx hb d_Mo_add_78 rfl (lv_at hl 1 rfl) ?_
                refine hm_callPi (va_runV (As := []) (b := m9) (rest := []) ⟨hx, hb, hml, hown, hts⟩ (m_alive l D t G ak av h τ n m9 A th sd lo le wr ma nu di pl se wg op   hn hT T_m9  F_m9 hA ⟨hsd, hlo, (by omega), ⟨by omega, by omega⟩, ⟨by omega, by omega⟩⟩ ) ⟨cw9B 0 hts mw_611 mw_612 mw_579 rfl rfl (by decide +kernel) ⟨Nat.le_of_ble_eq_true rfl, Nat.le_of_ble_eq_true rfl⟩, hts _ mw_613, hts _ mw_614⟩ (hP_V (q := (R_Mo, F_Mo, 41)) kE_ok hE hK hH F_m9 rfl) rfl rfl hl.1 rfl (lv_room (Nat.le_of_ble_eq_true rfl)) d_Mo_add_79 ⟨Nat.le_of_ble_eq_true rfl, Nat.le_of_ble_eq_true rfl⟩) (fun r_45 h_46 H_47 hp_49  hH z_48 => ?_)
                have hz : s.heap.size ≤ H_47.size := Nat.le_trans hz z_48
                obtain ⟨xp_50, rfl⟩ := hp_49
                rw [aI_of F_A4] at xp_50
                refine lv_bipush (v := 30) hx hb d_Mo_add_82 (by decide) ?_
                refine lv_icmp_ne (tgt := 90) hx hb d_Mo_add_84 (by decide) (fun hc_51 => ?_) (fun hc_51 => ?_)
                · skip
                  have hal9 : ¬ r_45.toInt = 30 := fun z => hc_51 (Int32.toInt_inj.mp (by rw [z]; rfl))
                  refine lv_aload_n hx hb d_Mo_add_90 rfl (lv_at hl 1 rfl) ?_
                  refine hm_get (ci := 9) (v := .int ma) (C := R_Mo) (T := F_Mo) (N := 41) hx hb hts ig_Mo hown hK hH F_m9 rfl 10 (by decide) (hts _ mw_595) (fun _ h9 => h9) rfl d_Mo_add_91 ?_
                  refine lv_istore (lv' := [(10, .int ma), (8, .long r_12), (0, .ref m9), (1, .int d9), (2, .long w9), (4, .int z9), (5, .int sz9), (6, .int sd9), (7, .int z8)]) hx hb d_Mo_add_94 hl (by decide) rfl (fun ls hl => ?_)
                  refine lv_aload_n hx hb d_Mo_add_96 rfl (lv_at hl 2 rfl) ?_
                  refine lv_dup hx hb d_Mo_add_97 rfl ?_
                  refine hm_get (ci := 9) (v := .int ma) (C := R_Mo) (T := F_Mo) (N := 41) hx hb hts ig_Mo hown hK hH F_m9 rfl 10 (by decide) (hts _ mw_595) (fun _ h9 => h9) rfl d_Mo_add_98 ?_
                  refine lv_iconst (v := 1) hx hb d_Mo_add_101 (by decide) ?_
                  refine lv_iadd hx hb d_Mo_add_102 ?_
                  refine lv_topi (fun v_52 e_53 => ?_)
                  refine hm_put (ci := 9) (v := .int v_52) (ty := .int) (C := R_Mo) (T := F_Mo) (N := 41) hx hb hts ig_Mo t_Mo tk_Mo nm_Mo hown hK hH hLo F_m9 rfl 10 (by decide) (hts _ mw_595) (fun _ h9 => h9) rfl (by decide +kernel) rfl rfl (Nat.le_of_ble_eq_true rfl) d_Mo_add_103 (fun H_54 locs hH z_55 hLo => ?_)
                  have hz : s.heap.size ≤ H_54.size := by rw [z_55]; exact hz
                  obtain ⟨h_56, e_57⟩ : ∃ z, z = hu h m9 (.inr (9, mf A n th sd lo le wr v_52 nu di pl se wg op)) := ⟨_, rfl⟩
                  have hH : hm D vwCl G h_56 H_54 := by rw [e_57]; exact hH
                  have F_A4 : h_56 (A 4) = some (.inl ((t 1), 700, .inl g_1)) := by rw [e_57, hu_n (tne (hA 4 (by decide)) T_m9 (by decide))]; exact F_A4
                  have F_A5 : h_56 (A 5) = some (.inl ((t 1), 700, .inl g_3)) := by rw [e_57, hu_n (tne (hA 5 (by decide)) T_m9 (by decide))]; exact F_A5
                  have F_A6 : h_56 (A 6) = some (.inl ((t 2), 700, .inl g_5)) := by rw [e_57, hu_n (tne (hA 6 (by decide)) T_m9 (by decide))]; exact F_A6
                  have F_A8 : h_56 (A 8) = some (.inl ((t 2), 700, .inl g_6)) := by rw [e_57, hu_n (tne (hA 8 (by decide)) T_m9 (by decide))]; exact F_A8
                  have F_A10 : h_56 (A 10) = some (.inl ((t 1), 700, .inl g_7)) := by rw [e_57, hu_n (tne (hA 10 (by decide)) T_m9 (by decide))]; exact F_A10
                  have F_A11 : h_56 (A 11) = some (.inl ((t 2), 700, .inl g_9)) := by rw [e_57, hu_n (tne (hA 11 (by decide)) T_m9 (by decide))]; exact F_A11
                  have F_m9 : h_56 m9 = some (.inr (9, mf A n th sd lo le wr v_52 nu di pl se wg op)) := by rw [e_57]; exact hu_s _ _ _
                  have hT : TI τ t n h_56 := by rw [e_57]; exact TI_put hT T_m9 (by decide) ⟨_, rfl⟩
                  have hkf : kf τ [(30, 4), (30, 5), (30, 6), (30, 7), (30, 8), (30, 9), (30, 10), (30, 11)] [m9] h h_56 := by rw [e_57]; exact kf_putM hkf (by simp)
                  refine lv_aload_n hx hb d_Mo_add_106 rfl (lv_at hl 2 rfl) ?_
                  refine hm_get (ci := 9) (v := .ref (A 4)) (C := R_Mo) (T := F_Mo) (N := 41) hx hb hts ig_Mo hown hK hH F_m9 rfl 11 (by decide) (hts _ mw_596) (fun _ h9 => h9) rfl d_Mo_add_107 ?_
                  refine lv_iload hx hb d_Mo_add_110 (lv_at hl 0 rfl) ?_
                  refine lv_iconst (v := 1) hx hb d_Mo_add_112 (by decide) ?_
                  refine hm_zast hx hb hK hH hLo 1 F_A4 rfl (iIn (by omega) (by omega)) d_Mo_add_113 (fun H_58 locs hH z_59 hLo => ?_)
                  have hz : s.heap.size ≤ H_58.size := by rw [z_59]; exact hz
                  rw [zb_nar (v := 1) zb1] at hH
                  obtain ⟨h_60, e_61⟩ : ∃ z, z = hu h_56 (A 4) (.inl ((t 1), 700, .inl (upd g_1 ma.toNatClampNeg (1 : Int32)))) := ⟨_, rfl⟩
                  have hH : hm D vwCl G h_60 H_58 := by rw [e_61]; exact hH
                  have F_m9 : h_60 m9 = some (.inr (9, mf A n th sd lo le wr v_52 nu di pl se wg op)) := by rw [e_61, hu_n (tne T_m9 (hA 4 (by decide)) (by decide))]; exact F_m9
                  have F_A5 : h_60 (A 5) = some (.inl ((t 1), 700, .inl g_3)) := by rw [e_61, hu_n (tneF (hA 5 (by decide)) (hA 4 (by decide)) (by decide))]; exact F_A5
                  have F_A6 : h_60 (A 6) = some (.inl ((t 2), 700, .inl g_5)) := by rw [e_61, hu_n (tneF (hA 6 (by decide)) (hA 4 (by decide)) (by decide))]; exact F_A6
                  have F_A8 : h_60 (A 8) = some (.inl ((t 2), 700, .inl g_6)) := by rw [e_61, hu_n (tneF (hA 8 (by decide)) (hA 4 (by decide)) (by decide))]; exact F_A8
                  have F_A10 : h_60 (A 10) = some (.inl ((t 1), 700, .inl g_7)) := by rw [e_61, hu_n (tneF (hA 10 (by decide)) (hA 4 (by decide)) (by decide))]; exact F_A10
                  have F_A11 : h_60 (A 11) = some (.inl ((t 2), 700, .inl g_9)) := by rw [e_61, hu_n (tneF (hA 11 (by decide)) (hA 4 (by decide)) (by decide))]; exact F_A11
                  have F_A4 : h_60 (A 4) = some (.inl ((t 1), 700, .inl (upd g_1 ma.toNatClampNeg (1 : Int32)))) := by rw [e_61]; exact hu_s _ _ _
                  have hT : TI τ t n h_60 := by rw [e_61]; exact TI_put hT (hA 4 (by decide)) (by decide) (ok_Z rfl rfl (zbF_up c_2 zb1))
                  have hkf : kf τ [(30, 4), (30, 5), (30, 6), (30, 7), (30, 8), (30, 9), (30, 10), (30, 11)] [m9] h h_60 := by rw [e_61]; exact kf_put hkf (hA 4 (by decide)) List.mem_cons_self
                  obtain ⟨g_62, e_63⟩ : ∃ z, z = upd g_1 ma.toNatClampNeg (1 : Int32) := ⟨_, rfl⟩
                  rw [← e_63] at F_A4
                  have c_64 : zbF g_62 := by rw [e_63]; exact (zbF_up c_2 zb1)
                  refine lv_aload_n hx hb d_Mo_add_114 rfl (lv_at hl 2 rfl) ?_
                  refine hm_get (ci := 9) (v := .ref (A 5)) (C := R_Mo) (T := F_Mo) (N := 41) hx hb hts ig_Mo hown hK hH F_m9 rfl 12 (by decide) (hts _ mw_606) (fun _ h9 => h9) rfl d_Mo_add_115 ?_
                  refine lv_iload hx hb d_Mo_add_118 (lv_at hl 0 rfl) ?_
                  refine lv_iload hx hb d_Mo_add_120 (lv_at hl 5 rfl) ?_
                  refine hm_zast hx hb hK hH hLo 1 F_A5 rfl (iIn (by omega) (by omega)) d_Mo_add_122 (fun H_65 locs hH z_66 hLo => ?_)
                  have hz : s.heap.size ≤ H_65.size := by rw [z_66]; exact hz
                  rw [zb_nar (v := z9) Z_z9] at hH
                  obtain ⟨h_67, e_68⟩ : ∃ z, z = hu h_60 (A 5) (.inl ((t 1), 700, .inl (upd g_3 ma.toNatClampNeg z9))) := ⟨_, rfl⟩
                  have hH : hm D vwCl G h_67 H_65 := by rw [e_68]; exact hH
                  have F_m9 : h_67 m9 = some (.inr (9, mf A n th sd lo le wr v_52 nu di pl se wg op)) := by rw [e_68, hu_n (tne T_m9 (hA 5 (by decide)) (by decide))]; exact F_m9
                  have F_A4 : h_67 (A 4) = some (.inl ((t 1), 700, .inl g_62)) := by rw [e_68, hu_n (tneF (hA 4 (by decide)) (hA 5 (by decide)) (by decide))]; exact F_A4
                  have F_A6 : h_67 (A 6) = some (.inl ((t 2), 700, .inl g_5)) := by rw [e_68, hu_n (tneF (hA 6 (by decide)) (hA 5 (by decide)) (by decide))]; exact F_A6
                  have F_A8 : h_67 (A 8) = some (.inl ((t 2), 700, .inl g_6)) := by rw [e_68, hu_n (tneF (hA 8 (by decide)) (hA 5 (by decide)) (by decide))]; exact F_A8
                  have F_A10 : h_67 (A 10) = some (.inl ((t 1), 700, .inl g_7)) := by rw [e_68, hu_n (tneF (hA 10 (by decide)) (hA 5 (by decide)) (by decide))]; exact F_A10
                  have F_A11 : h_67 (A 11) = some (.inl ((t 2), 700, .inl g_9)) := by rw [e_68, hu_n (tneF (hA 11 (by decide)) (hA 5 (by decide)) (by decide))]; exact F_A11
                  have F_A5 : h_67 (A 5) = some (.inl ((t 1), 700, .inl (upd g_3 ma.toNatClampNeg z9))) := by rw [e_68]; exact hu_s _ _ _
                  have hT : TI τ t n h_67 := by rw [e_68]; exact TI_put hT (hA 5 (by decide)) (by decide) (ok_Z rfl rfl (zbF_up c_4 Z_z9))
                  have hkf : kf τ [(30, 4), (30, 5), (30, 6), (30, 7), (30, 8), (30, 9), (30, 10), (30, 11)] [m9] h h_67 := by rw [e_68]; exact kf_put hkf (hA 5 (by decide)) (List.mem_cons_of_mem _ List.mem_cons_self)
                  obtain ⟨g_69, e_70⟩ : ∃ z, z = upd g_3 ma.toNatClampNeg z9 := ⟨_, rfl⟩
                  rw [← e_70] at F_A5
                  have c_71 : zbF g_69 := by rw [e_70]; exact (zbF_up c_4 Z_z9)
                  refine lv_aload_n hx hb d_Mo_add_123 rfl (lv_at hl 2 rfl) ?_
                  refine hm_get (ci := 9) (v := .ref (A 6)) (C := R_Mo) (T := F_Mo) (N := 41) hx hb hts ig_Mo hown hK hH F_m9 rfl 13 (by decide) (hts _ mw_597) (fun _ h9 => h9) rfl d_Mo_add_124 ?_
                  refine lv_iload hx hb d_Mo_add_127 (lv_at hl 0 rfl) ?_
                  refine lv_iload_n hx hb d_Mo_add_129 rfl (lv_at hl 3 rfl) ?_
                  refine hm_iast hx hb hK hH hLo 2 F_A6 rfl (iIn (by omega) (by omega)) d_Mo_add_130 (fun H_72 locs hH z_73 hLo => ?_)
                  have hz : s.heap.size ≤ H_72.size := by rw [z_73]; exact hz
                  obtain ⟨h_74, e_75⟩ : ∃ z, z = hu h_67 (A 6) (.inl ((t 2), 700, .inl (upd g_5 ma.toNatClampNeg d9))) := ⟨_, rfl⟩
                  have hH : hm D vwCl G h_74 H_72 := by rw [e_75]; exact hH
                  have F_m9 : h_74 m9 = some (.inr (9, mf A n th sd lo le wr v_52 nu di pl se wg op)) := by rw [e_75, hu_n (tne T_m9 (hA 6 (by decide)) (by decide))]; exact F_m9
                  have F_A4 : h_74 (A 4) = some (.inl ((t 1), 700, .inl g_62)) := by rw [e_75, hu_n (tneF (hA 4 (by decide)) (hA 6 (by decide)) (by decide))]; exact F_A4
                  have F_A5 : h_74 (A 5) = some (.inl ((t 1), 700, .inl g_69)) := by rw [e_75, hu_n (tneF (hA 5 (by decide)) (hA 6 (by decide)) (by decide))]; exact F_A5
                  have F_A8 : h_74 (A 8) = some (.inl ((t 2), 700, .inl g_6)) := by rw [e_75, hu_n (tneF (hA 8 (by decide)) (hA 6 (by decide)) (by decide))]; exact F_A8
                  have F_A10 : h_74 (A 10) = some (.inl ((t 1), 700, .inl g_7)) := by rw [e_75, hu_n (tneF (hA 10 (by decide)) (hA 6 (by decide)) (by decide))]; exact F_A10
                  have F_A11 : h_74 (A 11) = some (.inl ((t 2), 700, .inl g_9)) := by rw [e_75, hu_n (tneF (hA 11 (by decide)) (hA 6 (by decide)) (by decide))]; exact F_A11
                  have F_A6 : h_74 (A 6) = some (.inl ((t 2), 700, .inl (upd g_5 ma.toNatClampNeg d9))) := by rw [e_75]; exact hu_s _ _ _
                  have hT : TI τ t n h_74 := by rw [e_75]; exact TI_put hT (hA 6 (by decide)) (by decide) (ok_I rfl rfl)
                  have hkf : kf τ [(30, 4), (30, 5), (30, 6), (30, 7), (30, 8), (30, 9), (30, 10), (30, 11)] [m9] h h_74 := by rw [e_75]; exact kf_put hkf (hA 6 (by decide)) (List.mem_cons_of_mem _ (List.mem_cons_of_mem _ List.mem_cons_self))
                  obtain ⟨g_76, e_77⟩ : ∃ z, z = upd g_5 ma.toNatClampNeg d9 := ⟨_, rfl⟩
                  rw [← e_77] at F_A6
                  refine lv_aload_n hx hb d_Mo_add_131 rfl (lv_at hl 2 rfl) ?_
                  refine hm_get (ci := 9) (v := .ref (A 7)) (C := R_Mo) (T := F_Mo) (N := 41) hx hb hts ig_Mo hown hK hH F_m9 rfl 14 (by decide) (hts _ mw_598) (fun _ h9 => h9) rfl d_Mo_add_132 ?_
                  refine lv_iload hx hb d_Mo_add_135 (lv_at hl 0 rfl) ?_
                  refine lv_lload hx hb d_Mo_add_137 (lv_at hl 1 rfl) ?_
                  obtain ⟨g_78, F_A7⟩ := TI_arJ (L := 700) hT (hA 7 (by decide)) rfl rfl
                  refine hm_last hx hb hK hH hLo 3 F_A7 rfl (iIn (by omega) (by omega)) d_Mo_add_139 (fun H_79 locs hH z_80 hLo => ?_)
                  have hz : s.heap.size ≤ H_79.size := by rw [z_80]; exact hz
                  obtain ⟨h_81, e_82⟩ : ∃ z, z = hu h_74 (A 7) (.inl ((t 3), 700, .inr (.inl (vp_updL g_78 ma.toNatClampNeg r_12)))) := ⟨_, rfl⟩
                  have hH : hm D vwCl G h_81 H_79 := by rw [e_82]; exact hH
                  have F_m9 : h_81 m9 = some (.inr (9, mf A n th sd lo le wr v_52 nu di pl se wg op)) := by rw [e_82, hu_n (tne T_m9 (hA 7 (by decide)) (by decide))]; exact F_m9
                  have F_A4 : h_81 (A 4) = some (.inl ((t 1), 700, .inl g_62)) := by rw [e_82, hu_n (tneF (hA 4 (by decide)) (hA 7 (by decide)) (by decide))]; exact F_A4
                  have F_A5 : h_81 (A 5) = some (.inl ((t 1), 700, .inl g_69)) := by rw [e_82, hu_n (tneF (hA 5 (by decide)) (hA 7 (by decide)) (by decide))]; exact F_A5
                  have F_A6 : h_81 (A 6) = some (.inl ((t 2), 700, .inl g_76)) := by rw [e_82, hu_n (tneF (hA 6 (by decide)) (hA 7 (by decide)) (by decide))]; exact F_A6
                  have F_A8 : h_81 (A 8) = some (.inl ((t 2), 700, .inl g_6)) := by rw [e_82, hu_n (tneF (hA 8 (by decide)) (hA 7 (by decide)) (by decide))]; exact F_A8
                  have F_A10 : h_81 (A 10) = some (.inl ((t 1), 700, .inl g_7)) := by rw [e_82, hu_n (tneF (hA 10 (by decide)) (hA 7 (by decide)) (by decide))]; exact F_A10
                  have F_A11 : h_81 (A 11) = some (.inl ((t 2), 700, .inl g_9)) := by rw [e_82, hu_n (tneF (hA 11 (by decide)) (hA 7 (by decide)) (by decide))]; exact F_A11
                  have F_A7 : h_81 (A 7) = some (.inl ((t 3), 700, .inr (.inl (vp_updL g_78 ma.toNatClampNeg r_12)))) := by rw [e_82]; exact hu_s _ _ _
                  have hT : TI τ t n h_81 := by rw [e_82]; exact TI_put hT (hA 7 (by decide)) (by decide) (ok_J rfl rfl)
                  have hkf : kf τ [(30, 4), (30, 5), (30, 6), (30, 7), (30, 8), (30, 9), (30, 10), (30, 11)] [m9] h h_81 := by rw [e_82]; exact kf_put hkf (hA 7 (by decide)) (List.mem_cons_of_mem _ (List.mem_cons_of_mem _ (List.mem_cons_of_mem _ List.mem_cons_self)))
                  obtain ⟨g_83, e_84⟩ : ∃ z, z = vp_updL g_78 ma.toNatClampNeg r_12 := ⟨_, rfl⟩
                  rw [← e_84] at F_A7
                  refine lv_aload_n hx hb d_Mo_add_140 rfl (lv_at hl 2 rfl) ?_
                  refine hm_get (ci := 9) (v := .ref (A 8)) (C := R_Mo) (T := F_Mo) (N := 41) hx hb hts ig_Mo hown hK hH F_m9 rfl 15 (by decide) (hts _ mw_615) (fun _ h9 => h9) rfl d_Mo_add_141 ?_
                  refine lv_iload hx hb d_Mo_add_144 (lv_at hl 0 rfl) ?_
                  refine lv_iload hx hb d_Mo_add_146 (lv_at hl 6 rfl) ?_
                  refine hm_iast hx hb hK hH hLo 2 F_A8 rfl (iIn (by omega) (by omega)) d_Mo_add_148 (fun H_85 locs hH z_86 hLo => ?_)
                  have hz : s.heap.size ≤ H_85.size := by rw [z_86]; exact hz
                  obtain ⟨h_87, e_88⟩ : ∃ z, z = hu h_81 (A 8) (.inl ((t 2), 700, .inl (upd g_6 ma.toNatClampNeg sz9))) := ⟨_, rfl⟩
                  have hH : hm D vwCl G h_87 H_85 := by rw [e_88]; exact hH
                  have F_m9 : h_87 m9 = some (.inr (9, mf A n th sd lo le wr v_52 nu di pl se wg op)) := by rw [e_88, hu_n (tne T_m9 (hA 8 (by decide)) (by decide))]; exact F_m9
                  have F_A4 : h_87 (A 4) = some (.inl ((t 1), 700, .inl g_62)) := by rw [e_88, hu_n (tneF (hA 4 (by decide)) (hA 8 (by decide)) (by decide))]; exact F_A4
                  have F_A5 : h_87 (A 5) = some (.inl ((t 1), 700, .inl g_69)) := by rw [e_88, hu_n (tneF (hA 5 (by decide)) (hA 8 (by decide)) (by decide))]; exact F_A5
                  have F_A6 : h_87 (A 6) = some (.inl ((t 2), 700, .inl g_76)) := by rw [e_88, hu_n (tneF (hA 6 (by decide)) (hA 8 (by decide)) (by decide))]; exact F_A6
                  have F_A10 : h_87 (A 10) = some (.inl ((t 1), 700, .inl g_7)) := by rw [e_88, hu_n (tneF (hA 10 (by decide)) (hA 8 (by decide)) (by decide))]; exact F_A10
                  have F_A11 : h_87 (A 11) = some (.inl ((t 2), 700, .inl g_9)) := by rw [e_88, hu_n (tneF (hA 11 (by decide)) (hA 8 (by decide)) (by decide))]; exact F_A11
                  have F_A7 : h_87 (A 7) = some (.inl ((t 3), 700, .inr (.inl g_83))) := by rw [e_88, hu_n (tneF (hA 7 (by decide)) (hA 8 (by decide)) (by decide))]; exact F_A7
                  have F_A8 : h_87 (A 8) = some (.inl ((t 2), 700, .inl (upd g_6 ma.toNatClampNeg sz9))) := by rw [e_88]; exact hu_s _ _ _
                  have hT : TI τ t n h_87 := by rw [e_88]; exact TI_put hT (hA 8 (by decide)) (by decide) (ok_I rfl rfl)
                  have hkf : kf τ [(30, 4), (30, 5), (30, 6), (30, 7), (30, 8), (30, 9), (30, 10), (30, 11)] [m9] h h_87 := by rw [e_88]; exact kf_put hkf (hA 8 (by decide)) (List.mem_cons_of_mem _ (List.mem_cons_of_mem _ (List.mem_cons_of_mem _ (List.mem_cons_of_mem _ List.mem_cons_self))))
                  obtain ⟨g_89, e_90⟩ : ∃ z, z = upd g_6 ma.toNatClampNeg sz9 := ⟨_, rfl⟩
                  rw [← e_90] at F_A8
                  refine lv_aload_n hx hb d_Mo_add_149 rfl (lv_at hl 2 rfl) ?_
                  refine hm_get (ci := 9) (v := .ref (A 9)) (C := R_Mo) (T := F_Mo) (N := 41) hx hb hts ig_Mo hown hK hH F_m9 rfl 16 (by decide) (hts _ mw_616) (fun _ h9 => h9) rfl d_Mo_add_150 ?_
                  refine lv_iload hx hb d_Mo_add_153 (lv_at hl 0 rfl) ?_
                  refine lv_iload hx hb d_Mo_add_155 (lv_at hl 7 rfl) ?_
                  obtain ⟨g_91, F_A9⟩ := TI_arI (L := 700) hT (hA 9 (by decide)) rfl rfl
                  refine hm_iast hx hb hK hH hLo 2 F_A9 rfl (iIn (by omega) (by omega)) d_Mo_add_157 (fun H_92 locs hH z_93 hLo => ?_)
                  have hz : s.heap.size ≤ H_92.size := by rw [z_93]; exact hz
                  obtain ⟨h_94, e_95⟩ : ∃ z, z = hu h_87 (A 9) (.inl ((t 2), 700, .inl (upd g_91 ma.toNatClampNeg sd9))) := ⟨_, rfl⟩
                  have hH : hm D vwCl G h_94 H_92 := by rw [e_95]; exact hH
                  have F_m9 : h_94 m9 = some (.inr (9, mf A n th sd lo le wr v_52 nu di pl se wg op)) := by rw [e_95, hu_n (tne T_m9 (hA 9 (by decide)) (by decide))]; exact F_m9
                  have F_A4 : h_94 (A 4) = some (.inl ((t 1), 700, .inl g_62)) := by rw [e_95, hu_n (tneF (hA 4 (by decide)) (hA 9 (by decide)) (by decide))]; exact F_A4
                  have F_A5 : h_94 (A 5) = some (.inl ((t 1), 700, .inl g_69)) := by rw [e_95, hu_n (tneF (hA 5 (by decide)) (hA 9 (by decide)) (by decide))]; exact F_A5
                  have F_A6 : h_94 (A 6) = some (.inl ((t 2), 700, .inl g_76)) := by rw [e_95, hu_n (tneF (hA 6 (by decide)) (hA 9 (by decide)) (by decide))]; exact F_A6
                  have F_A8 : h_94 (A 8) = some (.inl ((t 2), 700, .inl g_89)) := by rw [e_95, hu_n (tneF (hA 8 (by decide)) (hA 9 (by decide)) (by decide))]; exact F_A8
                  have F_A10 : h_94 (A 10) = some (.inl ((t 1), 700, .inl g_7)) := by rw [e_95, hu_n (tneF (hA 10 (by decide)) (hA 9 (by decide)) (by decide))]; exact F_A10
                  have F_A11 : h_94 (A 11) = some (.inl ((t 2), 700, .inl g_9)) := by rw [e_95, hu_n (tneF (hA 11 (by decide)) (hA 9 (by decide)) (by decide))]; exact F_A11
                  have F_A7 : h_94 (A 7) = some (.inl ((t 3), 700, .inr (.inl g_83))) := by rw [e_95, hu_n (tneF (hA 7 (by decide)) (hA 9 (by decide)) (by decide))]; exact F_A7
                  have F_A9 : h_94 (A 9) = some (.inl ((t 2), 700, .inl (upd g_91 ma.toNatClampNeg sd9))) := by rw [e_95]; exact hu_s _ _ _
                  have hT : TI τ t n h_94 := by rw [e_95]; exact TI_put hT (hA 9 (by decide)) (by decide) (ok_I rfl rfl)
                  have hkf : kf τ [(30, 4), (30, 5), (30, 6), (30, 7), (30, 8), (30, 9), (30, 10), (30, 11)] [m9] h h_94 := by rw [e_95]; exact kf_put hkf (hA 9 (by decide)) (List.mem_cons_of_mem _ (List.mem_cons_of_mem _ (List.mem_cons_of_mem _ (List.mem_cons_of_mem _ (List.mem_cons_of_mem _ List.mem_cons_self)))))
                  obtain ⟨g_96, e_97⟩ : ∃ z, z = upd g_91 ma.toNatClampNeg sd9 := ⟨_, rfl⟩
                  rw [← e_97] at F_A9
                  refine lv_aload_n hx hb d_Mo_add_158 rfl (lv_at hl 2 rfl) ?_
                  refine hm_get (ci := 9) (v := .ref (A 10)) (C := R_Mo) (T := F_Mo) (N := 41) hx hb hts ig_Mo hown hK hH F_m9 rfl 17 (by decide) (hts _ mw_617) (fun _ h9 => h9) rfl d_Mo_add_159 ?_
                  refine lv_iload hx hb d_Mo_add_162 (lv_at hl 0 rfl) ?_
                  refine lv_iconst (v := 0) hx hb d_Mo_add_164 (by decide) ?_
                  refine hm_zast hx hb hK hH hLo 1 F_A10 rfl (iIn (by omega) (by omega)) d_Mo_add_165 (fun H_98 locs hH z_99 hLo => ?_)
                  have hz : s.heap.size ≤ H_98.size := by rw [z_99]; exact hz
                  rw [zb_nar (v := 0) zb0] at hH
                  obtain ⟨h_100, e_101⟩ : ∃ z, z = hu h_94 (A 10) (.inl ((t 1), 700, .inl (upd g_7 ma.toNatClampNeg (0 : Int32)))) := ⟨_, rfl⟩
                  have hH : hm D vwCl G h_100 H_98 := by rw [e_101]; exact hH
                  have F_m9 : h_100 m9 = some (.inr (9, mf A n th sd lo le wr v_52 nu di pl se wg op)) := by rw [e_101, hu_n (tne T_m9 (hA 10 (by decide)) (by decide))]; exact F_m9
                  have F_A4 : h_100 (A 4) = some (.inl ((t 1), 700, .inl g_62)) := by rw [e_101, hu_n (tneF (hA 4 (by decide)) (hA 10 (by decide)) (by decide))]; exact F_A4
                  have F_A5 : h_100 (A 5) = some (.inl ((t 1), 700, .inl g_69)) := by rw [e_101, hu_n (tneF (hA 5 (by decide)) (hA 10 (by decide)) (by decide))]; exact F_A5
                  have F_A6 : h_100 (A 6) = some (.inl ((t 2), 700, .inl g_76)) := by rw [e_101, hu_n (tneF (hA 6 (by decide)) (hA 10 (by decide)) (by decide))]; exact F_A6
                  have F_A8 : h_100 (A 8) = some (.inl ((t 2), 700, .inl g_89)) := by rw [e_101, hu_n (tneF (hA 8 (by decide)) (hA 10 (by decide)) (by decide))]; exact F_A8
                  have F_A11 : h_100 (A 11) = some (.inl ((t 2), 700, .inl g_9)) := by rw [e_101, hu_n (tneF (hA 11 (by decide)) (hA 10 (by decide)) (by decide))]; exact F_A11
                  have F_A7 : h_100 (A 7) = some (.inl ((t 3), 700, .inr (.inl g_83))) := by rw [e_101, hu_n (tneF (hA 7 (by decide)) (hA 10 (by decide)) (by decide))]; exact F_A7
                  have F_A9 : h_100 (A 9) = some (.inl ((t 2), 700, .inl g_96)) := by rw [e_101, hu_n (tneF (hA 9 (by decide)) (hA 10 (by decide)) (by decide))]; exact F_A9
                  have F_A10 : h_100 (A 10) = some (.inl ((t 1), 700, .inl (upd g_7 ma.toNatClampNeg (0 : Int32)))) := by rw [e_101]; exact hu_s _ _ _
                  have hT : TI τ t n h_100 := by rw [e_101]; exact TI_put hT (hA 10 (by decide)) (by decide) (ok_Z rfl rfl (zbF_up c_8 zb0))
                  have hkf : kf τ [(30, 4), (30, 5), (30, 6), (30, 7), (30, 8), (30, 9), (30, 10), (30, 11)] [m9] h h_100 := by rw [e_101]; exact kf_put hkf (hA 10 (by decide)) (List.mem_cons_of_mem _ (List.mem_cons_of_mem _ (List.mem_cons_of_mem _ (List.mem_cons_of_mem _ (List.mem_cons_of_mem _ (List.mem_cons_of_mem _ List.mem_cons_self))))))
                  obtain ⟨g_102, e_103⟩ : ∃ z, z = upd g_7 ma.toNatClampNeg (0 : Int32) := ⟨_, rfl⟩
                  rw [← e_103] at F_A10
                  have c_104 : zbF g_102 := by rw [e_103]; exact (zbF_up c_8 zb0)
                  refine lv_aload_n hx hb d_Mo_add_166 rfl (lv_at hl 2 rfl) ?_
                  refine hm_get (ci := 9) (v := .ref (A 11)) (C := R_Mo) (T := F_Mo) (N := 41) hx hb hts ig_Mo hown hK hH F_m9 rfl 18 (by decide) (hts _ mw_618) (fun _ h9 => h9) rfl d_Mo_add_167 ?_
                  refine lv_iload hx hb d_Mo_add_170 (lv_at hl 0 rfl) ?_
                  refine lv_iconst (v := 0) hx hb d_Mo_add_172 (by decide) ?_
                  refine hm_iast hx hb hK hH hLo 2 F_A11 rfl (iIn (by omega) (by omega)) d_Mo_add_173 (fun H_105 locs hH z_106 hLo => ?_)
                  have hz : s.heap.size ≤ H_105.size := by rw [z_106]; exact hz
                  obtain ⟨h_107, e_108⟩ : ∃ z, z = hu h_100 (A 11) (.inl ((t 2), 700, .inl (upd g_9 ma.toNatClampNeg (0 : Int32)))) := ⟨_, rfl⟩
                  have hH : hm D vwCl G h_107 H_105 := by rw [e_108]; exact hH
                  have F_m9 : h_107 m9 = some (.inr (9, mf A n th sd lo le wr v_52 nu di pl se wg op)) := by rw [e_108, hu_n (tne T_m9 (hA 11 (by decide)) (by decide))]; exact F_m9
                  have F_A4 : h_107 (A 4) = some (.inl ((t 1), 700, .inl g_62)) := by rw [e_108, hu_n (tneF (hA 4 (by decide)) (hA 11 (by decide)) (by decide))]; exact F_A4
                  have F_A5 : h_107 (A 5) = some (.inl ((t 1), 700, .inl g_69)) := by rw [e_108, hu_n (tneF (hA 5 (by decide)) (hA 11 (by decide)) (by decide))]; exact F_A5
                  have F_A6 : h_107 (A 6) = some (.inl ((t 2), 700, .inl g_76)) := by rw [e_108, hu_n (tneF (hA 6 (by decide)) (hA 11 (by decide)) (by decide))]; exact F_A6
                  have F_A8 : h_107 (A 8) = some (.inl ((t 2), 700, .inl g_89)) := by rw [e_108, hu_n (tneF (hA 8 (by decide)) (hA 11 (by decide)) (by decide))]; exact F_A8
                  have F_A10 : h_107 (A 10) = some (.inl ((t 1), 700, .inl g_102)) := by rw [e_108, hu_n (tneF (hA 10 (by decide)) (hA 11 (by decide)) (by decide))]; exact F_A10
                  have F_A7 : h_107 (A 7) = some (.inl ((t 3), 700, .inr (.inl g_83))) := by rw [e_108, hu_n (tneF (hA 7 (by decide)) (hA 11 (by decide)) (by decide))]; exact F_A7
                  have F_A9 : h_107 (A 9) = some (.inl ((t 2), 700, .inl g_96)) := by rw [e_108, hu_n (tneF (hA 9 (by decide)) (hA 11 (by decide)) (by decide))]; exact F_A9
                  have F_A11 : h_107 (A 11) = some (.inl ((t 2), 700, .inl (upd g_9 ma.toNatClampNeg (0 : Int32)))) := by rw [e_108]; exact hu_s _ _ _
                  have hT : TI τ t n h_107 := by rw [e_108]; exact TI_put hT (hA 11 (by decide)) (by decide) (ok_I rfl rfl)
                  have hkf : kf τ [(30, 4), (30, 5), (30, 6), (30, 7), (30, 8), (30, 9), (30, 10), (30, 11)] [m9] h h_107 := by rw [e_108]; exact kf_put hkf (hA 11 (by decide)) (List.mem_cons_of_mem _ (List.mem_cons_of_mem _ (List.mem_cons_of_mem _ (List.mem_cons_of_mem _ (List.mem_cons_of_mem _ (List.mem_cons_of_mem _ (List.mem_cons_of_mem _ List.mem_cons_self)))))))
                  obtain ⟨g_109, e_110⟩ : ∃ z, z = upd g_9 ma.toNatClampNeg (0 : Int32) := ⟨_, rfl⟩
                  rw [← e_110] at F_A11
                  refine lv_iload hx hb d_Mo_add_174 (lv_at hl 0 rfl) ?_
                  have is_111 : v_52.toInt = ma.toInt + 1 := by rw [e_53]; exact iAddK 1 rfl (by omega) (by omega)
                  have hcn9 : cntP (alB g_1) ma.toInt.toNat < 30 := by have := hTm.2.2.1; omega
                  have hmm : v_52.toInt.toNat = ma.toInt.toNat + 1 := by omega
                  exact W.iret (v := ma) hx hb hr (fun t9 ht hW => ⟨ma, h_107, rfl, ⟨hT, hkf, ⟨v_52, F_m9, ⟨hsd, hlo, (by omega), ⟨by omega, by omega⟩, ⟨by omega, by omega⟩⟩, ⟨by omega, ⟨by rw [aI_of F_A4, aI_of F_A6]; exact (by rw [hmm, e_63, e_77, clN]; exact treeM_add hTm ⟨by omega, in3⟩ hcn9 (by omega)), by rw [aI_of F_A4, aI_of F_A5, aI_of F_A8, aI_of F_A10, aI_of F_A11]; exact (by rw [hmm, e_63, e_70, e_90, e_103, e_110, clN]; exact exM_add hEx (hsz9 (by
                    rcases Z_z8 with hq | hq
                    · exact absurd hq hc_18
                    · exact hq)))⟩⟩⟩⟩, by rw [ht]; exact hH, by rw [ht]; exact hz⟩) hLo d_Mo_add_176
                · skip
                  have ic_112 : r_45.toInt = 30 := congrArg Int32.toInt hc_51
                  refine lv_bipush (v := -3) hx hb d_Mo_add_87 (by decide) ?_
                  exact W.iret (v := (-3)) hx hb hr (fun t9 ht hW => ⟨(-3), h, rfl, ⟨hT, hkf, ⟨ma, F_m9, ⟨hsd, hlo, (by omega), ⟨by omega, by omega⟩, ⟨by omega, by omega⟩⟩, ⟨by omega, ⟨by rw [aI_of F_A4, aI_of F_A6]; exact hTm, by rw [aI_of F_A4, aI_of F_A5, aI_of F_A8, aI_of F_A10, aI_of F_A11]; exact hEx⟩⟩⟩⟩, by rw [ht]; exact hH, by rw [ht]; exact hz⟩) hLo d_Mo_add_89
              · skip
                have ic_113 : 0 ≤ r_37.toInt := iNl hc_43
                refine lv_bipush (v := -5) hx hb d_Mo_add_75 (by decide) ?_
                exact W.iret (v := (-5)) hx hb hr (fun t9 ht hW => ⟨(-5), h, rfl, ⟨hT, hkf, ⟨ma, F_m9, ⟨hsd, hlo, (by omega), ⟨by omega, by omega⟩, ⟨by omega, by omega⟩⟩, ⟨by omega, ⟨by rw [aI_of F_A4, aI_of F_A6]; exact hTm, by rw [aI_of F_A4, aI_of F_A5, aI_of F_A8, aI_of F_A10, aI_of F_A11]; exact hEx⟩⟩⟩⟩, by rw [ht]; exact hH, by rw [ht]; exact hz⟩) hLo d_Mo_add_77
            · skip
              refine lv_aload_n hx hb d_Mo_add_50 rfl (lv_at hl 1 rfl) ?_
              refine lv_iload_n hx hb d_Mo_add_51 rfl (lv_at hl 2 rfl) ?_
              refine hm_callPi (va_runV (As := [.int d9]) (b := m9) (rest := []) ⟨hx, hb, hml, hown, hts⟩ (m_depth l D t G ak av h τ n m9 d9 A th sd lo le wr ma nu di pl se wg op   hn hT T_m9  F_m9 hA ⟨hsd, hlo, (by omega), ⟨by omega, by omega⟩, ⟨by omega, by omega⟩⟩ (by rw [aI_of F_A4, aI_of F_A6]; exact hTm) (by omega) (by rw [aI_of F_A4]; exact ⟨by omega, in3⟩)) ⟨cw9B 1 hts mw_619 mw_620 mw_579 rfl rfl (by decide +kernel) ⟨Nat.le_of_ble_eq_true rfl, Nat.le_of_ble_eq_true rfl⟩, hts _ mw_621, hts _ mw_622⟩ (hP_V (q := (R_Mo, F_Mo, 41)) kE_ok hE hK hH F_m9 rfl) rfl rfl hl.1 rfl (lv_room (Nat.le_of_ble_eq_true rfl)) d_Mo_add_52 ⟨Nat.le_of_ble_eq_true rfl, Nat.le_of_ble_eq_true rfl⟩) (fun r_114 h_115 H_116 hp_118  hH z_117 => ?_)
              have hz : s.heap.size ≤ H_116.size := Nat.le_trans hz z_117
              obtain rfl := hp_118
              refine lv_iconst (v := 1) hx hb d_Mo_add_55 (by decide) ?_
              refine lv_iadd hx hb d_Mo_add_56 ?_
              refine lv_topi (fun v_120 e_121 => ?_)
              refine lv_bipush (v := 6) hx hb d_Mo_add_57 (by decide) ?_
              refine lv_icmp_le (tgt := 65) hx hb d_Mo_add_59 (by decide) (fun hc_122 => ?_) (fun hc_122 => ?_)
              · skip
                have ic_123 : v_120.toInt ≤ 6 := iLe hc_122
                refine lv_aload_n hx hb d_Mo_add_65 rfl (lv_at hl 1 rfl) ?_
                refine lv_iload_n hx hb d_Mo_add_66 rfl (lv_at hl 2 rfl) ?_
                refine lv_lload hx hb d_Mo_add_67 (lv_at hl 0 rfl) ?_
                refine hm_callPi (va_runV (As := [.int d9, .long r_12]) (b := m9) (rest := []) ⟨hx, hb, hml, hown, hts⟩ (m_named l D t G ak av h τ n m9 d9 r_12 A th sd lo le wr ma nu di pl se wg op   hn hT T_m9  F_m9 hA ⟨hsd, hlo, (by omega), ⟨by omega, by omega⟩, ⟨by omega, by omega⟩⟩ ) ⟨cw9B 2 hts mw_607 mw_608 mw_579 rfl rfl (by decide +kernel) ⟨Nat.le_of_ble_eq_true rfl, Nat.le_of_ble_eq_true rfl⟩, hts _ mw_609, hts _ mw_610⟩ (hP_V (q := (R_Mo, F_Mo, 41)) kE_ok hE hK hH F_m9 rfl) rfl rfl hl.1 rfl (lv_room (Nat.le_of_ble_eq_true rfl)) d_Mo_add_69 ⟨Nat.le_of_ble_eq_true rfl, Nat.le_of_ble_eq_true rfl⟩) (fun r_124 h_125 H_126 hp_128  hH z_127 => ?_)
                have hz : s.heap.size ≤ H_126.size := Nat.le_trans hz z_127
                obtain rfl := hp_128
                refine lv_if_lt (tgt := 78) hx hb d_Mo_add_72 (by decide) (fun hc_130 => ?_) (fun hc_130 => ?_)
                · skip
                  have ic_131 : r_124.toInt < 0 := iLt hc_130
                  refine lv_aload_n hx hb d_Mo_add_78 rfl (lv_at hl 1 rfl) ?_
                  refine hm_callPi (va_runV (As := []) (b := m9) (rest := []) ⟨hx, hb, hml, hown, hts⟩ (m_alive l D t G ak av h τ n m9 A th sd lo le wr ma nu di pl se wg op   hn hT T_m9  F_m9 hA ⟨hsd, hlo, (by omega), ⟨by omega, by omega⟩, ⟨by omega, by omega⟩⟩ ) ⟨cw9B 0 hts mw_611 mw_612 mw_579 rfl rfl (by decide +kernel) ⟨Nat.le_of_ble_eq_true rfl, Nat.le_of_ble_eq_true rfl⟩, hts _ mw_613, hts _ mw_614⟩ (hP_V (q := (R_Mo, F_Mo, 41)) kE_ok hE hK hH F_m9 rfl) rfl rfl hl.1 rfl (lv_room (Nat.le_of_ble_eq_true rfl)) d_Mo_add_79 ⟨Nat.le_of_ble_eq_true rfl, Nat.le_of_ble_eq_true rfl⟩) (fun r_132 h_133 H_134 hp_136  hH z_135 => ?_)
                  have hz : s.heap.size ≤ H_134.size := Nat.le_trans hz z_135
                  obtain ⟨xp_137, rfl⟩ := hp_136
                  rw [aI_of F_A4] at xp_137
                  refine lv_bipush (v := 30) hx hb d_Mo_add_82 (by decide) ?_
                  refine lv_icmp_ne (tgt := 90) hx hb d_Mo_add_84 (by decide) (fun hc_138 => ?_) (fun hc_138 => ?_)
                  · skip
                    have hal9 : ¬ r_132.toInt = 30 := fun z => hc_138 (Int32.toInt_inj.mp (by rw [z]; rfl))
                    refine lv_aload_n hx hb d_Mo_add_90 rfl (lv_at hl 1 rfl) ?_
                    refine hm_get (ci := 9) (v := .int ma) (C := R_Mo) (T := F_Mo) (N := 41) hx hb hts ig_Mo hown hK hH F_m9 rfl 10 (by decide) (hts _ mw_595) (fun _ h9 => h9) rfl d_Mo_add_91 ?_
                    refine lv_istore (lv' := [(10, .int ma), (8, .long r_12), (0, .ref m9), (1, .int d9), (2, .long w9), (4, .int z9), (5, .int sz9), (6, .int sd9), (7, .int z8)]) hx hb d_Mo_add_94 hl (by decide) rfl (fun ls hl => ?_)
                    refine lv_aload_n hx hb d_Mo_add_96 rfl (lv_at hl 2 rfl) ?_
                    refine lv_dup hx hb d_Mo_add_97 rfl ?_
                    refine hm_get (ci := 9) (v := .int ma) (C := R_Mo) (T := F_Mo) (N := 41) hx hb hts ig_Mo hown hK hH F_m9 rfl 10 (by decide) (hts _ mw_595) (fun _ h9 => h9) rfl d_Mo_add_98 ?_
                    refine lv_iconst (v := 1) hx hb d_Mo_add_101 (by decide) ?_
                    refine lv_iadd hx hb d_Mo_add_102 ?_
                    refine lv_topi (fun v_139 e_140 => ?_)
                    refine hm_put (ci := 9) (v := .int v_139) (ty := .int) (C := R_Mo) (T := F_Mo) (N := 41) hx hb hts ig_Mo t_Mo tk_Mo nm_Mo hown hK hH hLo F_m9 rfl 10 (by decide) (hts _ mw_595) (fun _ h9 => h9) rfl (by decide +kernel) rfl rfl (Nat.le_of_ble_eq_true rfl) d_Mo_add_103 (fun H_141 locs hH z_142 hLo => ?_)
                    have hz : s.heap.size ≤ H_141.size := by rw [z_142]; exact hz
                    obtain ⟨h_143, e_144⟩ : ∃ z, z = hu h m9 (.inr (9, mf A n th sd lo le wr v_139 nu di pl se wg op)) := ⟨_, rfl⟩
                    have hH : hm D vwCl G h_143 H_141 := by rw [e_144]; exact hH
                    have F_A4 : h_143 (A 4) = some (.inl ((t 1), 700, .inl g_1)) := by rw [e_144, hu_n (tne (hA 4 (by decide)) T_m9 (by decide))]; exact F_A4
                    have F_A5 : h_143 (A 5) = some (.inl ((t 1), 700, .inl g_3)) := by rw [e_144, hu_n (tne (hA 5 (by decide)) T_m9 (by decide))]; exact F_A5
                    have F_A6 : h_143 (A 6) = some (.inl ((t 2), 700, .inl g_5)) := by rw [e_144, hu_n (tne (hA 6 (by decide)) T_m9 (by decide))]; exact F_A6
                    have F_A8 : h_143 (A 8) = some (.inl ((t 2), 700, .inl g_6)) := by rw [e_144, hu_n (tne (hA 8 (by decide)) T_m9 (by decide))]; exact F_A8
                    have F_A10 : h_143 (A 10) = some (.inl ((t 1), 700, .inl g_7)) := by rw [e_144, hu_n (tne (hA 10 (by decide)) T_m9 (by decide))]; exact F_A10
                    have F_A11 : h_143 (A 11) = some (.inl ((t 2), 700, .inl g_9)) := by rw [e_144, hu_n (tne (hA 11 (by decide)) T_m9 (by decide))]; exact F_A11
                    have F_m9 : h_143 m9 = some (.inr (9, mf A n th sd lo le wr v_139 nu di pl se wg op)) := by rw [e_144]; exact hu_s _ _ _
                    have hT : TI τ t n h_143 := by rw [e_144]; exact TI_put hT T_m9 (by decide) ⟨_, rfl⟩
                    have hkf : kf τ [(30, 4), (30, 5), (30, 6), (30, 7), (30, 8), (30, 9), (30, 10), (30, 11)] [m9] h h_143 := by rw [e_144]; exact kf_putM hkf (by simp)
                    refine lv_aload_n hx hb d_Mo_add_106 rfl (lv_at hl 2 rfl) ?_
                    refine hm_get (ci := 9) (v := .ref (A 4)) (C := R_Mo) (T := F_Mo) (N := 41) hx hb hts ig_Mo hown hK hH F_m9 rfl 11 (by decide) (hts _ mw_596) (fun _ h9 => h9) rfl d_Mo_add_107 ?_
                    refine lv_iload hx hb d_Mo_add_110 (lv_at hl 0 rfl) ?_
                    refine lv_iconst (v := 1) hx hb d_Mo_add_112 (by decide) ?_
                    refine hm_zast hx hb hK hH hLo 1 F_A4 rfl (iIn (by omega) (by omega)) d_Mo_add_113 (fun H_145 locs hH z_146 hLo => ?_)
                    have hz : s.heap.size ≤ H_145.size := by rw [z_146]; exact hz
                    rw [zb_nar (v := 1) zb1] at hH
                    obtain ⟨h_147, e_148⟩ : ∃ z, z = hu h_143 (A 4) (.inl ((t 1), 700, .inl (upd g_1 ma.toNatClampNeg (1 : Int32)))) := ⟨_, rfl⟩
                    have hH : hm D vwCl G h_147 H_145 := by rw [e_148]; exact hH
                    have F_m9 : h_147 m9 = some (.inr (9, mf A n th sd lo le wr v_139 nu di pl se wg op)) := by rw [e_148, hu_n (tne T_m9 (hA 4 (by decide)) (by decide))]; exact F_m9
                    have F_A5 : h_147 (A 5) = some (.inl ((t 1), 700, .inl g_3)) := by rw [e_148, hu_n (tneF (hA 5 (by decide)) (hA 4 (by decide)) (by decide))]; exact F_A5
                    have F_A6 : h_147 (A 6) = some (.inl ((t 2), 700, .inl g_5)) := by rw [e_148, hu_n (tneF (hA 6 (by decide)) (hA 4 (by decide)) (by decide))]; exact F_A6
                    have F_A8 : h_147 (A 8) = some (.inl ((t 2), 700, .inl g_6)) := by rw [e_148, hu_n (tneF (hA 8 (by decide)) (hA 4 (by decide)) (by decide))]; exact F_A8
                    have F_A10 : h_147 (A 10) = some (.inl ((t 1), 700, .inl g_7)) := by rw [e_148, hu_n (tneF (hA 10 (by decide)) (hA 4 (by decide)) (by decide))]; exact F_A10
                    have F_A11 : h_147 (A 11) = some (.inl ((t 2), 700, .inl g_9)) := by rw [e_148, hu_n (tneF (hA 11 (by decide)) (hA 4 (by decide)) (by decide))]; exact F_A11
                    have F_A4 : h_147 (A 4) = some (.inl ((t 1), 700, .inl (upd g_1 ma.toNatClampNeg (1 : Int32)))) := by rw [e_148]; exact hu_s _ _ _
                    have hT : TI τ t n h_147 := by rw [e_148]; exact TI_put hT (hA 4 (by decide)) (by decide) (ok_Z rfl rfl (zbF_up c_2 zb1))
                    have hkf : kf τ [(30, 4), (30, 5), (30, 6), (30, 7), (30, 8), (30, 9), (30, 10), (30, 11)] [m9] h h_147 := by rw [e_148]; exact kf_put hkf (hA 4 (by decide)) List.mem_cons_self
                    obtain ⟨g_149, e_150⟩ : ∃ z, z = upd g_1 ma.toNatClampNeg (1 : Int32) := ⟨_, rfl⟩
                    rw [← e_150] at F_A4
                    have c_151 : zbF g_149 := by rw [e_150]; exact (zbF_up c_2 zb1)
                    refine lv_aload_n hx hb d_Mo_add_114 rfl (lv_at hl 2 rfl) ?_
                    refine hm_get (ci := 9) (v := .ref (A 5)) (C := R_Mo) (T := F_Mo) (N := 41) hx hb hts ig_Mo hown hK hH F_m9 rfl 12 (by decide) (hts _ mw_606) (fun _ h9 => h9) rfl d_Mo_add_115 ?_
                    refine lv_iload hx hb d_Mo_add_118 (lv_at hl 0 rfl) ?_
                    refine lv_iload hx hb d_Mo_add_120 (lv_at hl 5 rfl) ?_
                    refine hm_zast hx hb hK hH hLo 1 F_A5 rfl (iIn (by omega) (by omega)) d_Mo_add_122 (fun H_152 locs hH z_153 hLo => ?_)
                    have hz : s.heap.size ≤ H_152.size := by rw [z_153]; exact hz
                    rw [zb_nar (v := z9) Z_z9] at hH
                    obtain ⟨h_154, e_155⟩ : ∃ z, z = hu h_147 (A 5) (.inl ((t 1), 700, .inl (upd g_3 ma.toNatClampNeg z9))) := ⟨_, rfl⟩
                    have hH : hm D vwCl G h_154 H_152 := by rw [e_155]; exact hH
                    have F_m9 : h_154 m9 = some (.inr (9, mf A n th sd lo le wr v_139 nu di pl se wg op)) := by rw [e_155, hu_n (tne T_m9 (hA 5 (by decide)) (by decide))]; exact F_m9
                    have F_A4 : h_154 (A 4) = some (.inl ((t 1), 700, .inl g_149)) := by rw [e_155, hu_n (tneF (hA 4 (by decide)) (hA 5 (by decide)) (by decide))]; exact F_A4
                    have F_A6 : h_154 (A 6) = some (.inl ((t 2), 700, .inl g_5)) := by rw [e_155, hu_n (tneF (hA 6 (by decide)) (hA 5 (by decide)) (by decide))]; exact F_A6
                    have F_A8 : h_154 (A 8) = some (.inl ((t 2), 700, .inl g_6)) := by rw [e_155, hu_n (tneF (hA 8 (by decide)) (hA 5 (by decide)) (by decide))]; exact F_A8
                    have F_A10 : h_154 (A 10) = some (.inl ((t 1), 700, .inl g_7)) := by rw [e_155, hu_n (tneF (hA 10 (by decide)) (hA 5 (by decide)) (by decide))]; exact F_A10
                    have F_A11 : h_154 (A 11) = some (.inl ((t 2), 700, .inl g_9)) := by rw [e_155, hu_n (tneF (hA 11 (by decide)) (hA 5 (by decide)) (by decide))]; exact F_A11
                    have F_A5 : h_154 (A 5) = some (.inl ((t 1), 700, .inl (upd g_3 ma.toNatClampNeg z9))) := by rw [e_155]; exact hu_s _ _ _
                    have hT : TI τ t n h_154 := by rw [e_155]; exact TI_put hT (hA 5 (by decide)) (by decide) (ok_Z rfl rfl (zbF_up c_4 Z_z9))
                    have hkf : kf τ [(30, 4), (30, 5), (30, 6), (30, 7), (30, 8), (30, 9), (30, 10), (30, 11)] [m9] h h_154 := by rw [e_155]; exact kf_put hkf (hA 5 (by decide)) (List.mem_cons_of_mem _ List.mem_cons_self)
                    obtain ⟨g_156, e_157⟩ : ∃ z, z = upd g_3 ma.toNatClampNeg z9 := ⟨_, rfl⟩
                    rw [← e_157] at F_A5
                    have c_158 : zbF g_156 := by rw [e_157]; exact (zbF_up c_4 Z_z9)
                    refine lv_aload_n hx hb d_Mo_add_123 rfl (lv_at hl 2 rfl) ?_
                    refine hm_get (ci := 9) (v := .ref (A 6)) (C := R_Mo) (T := F_Mo) (N := 41) hx hb hts ig_Mo hown hK hH F_m9 rfl 13 (by decide) (hts _ mw_597) (fun _ h9 => h9) rfl d_Mo_add_124 ?_
                    refine lv_iload hx hb d_Mo_add_127 (lv_at hl 0 rfl) ?_
                    refine lv_iload_n hx hb d_Mo_add_129 rfl (lv_at hl 3 rfl) ?_
                    refine hm_iast hx hb hK hH hLo 2 F_A6 rfl (iIn (by omega) (by omega)) d_Mo_add_130 (fun H_159 locs hH z_160 hLo => ?_)
                    have hz : s.heap.size ≤ H_159.size := by rw [z_160]; exact hz
                    obtain ⟨h_161, e_162⟩ : ∃ z, z = hu h_154 (A 6) (.inl ((t 2), 700, .inl (upd g_5 ma.toNatClampNeg d9))) := ⟨_, rfl⟩
                    have hH : hm D vwCl G h_161 H_159 := by rw [e_162]; exact hH
                    have F_m9 : h_161 m9 = some (.inr (9, mf A n th sd lo le wr v_139 nu di pl se wg op)) := by rw [e_162, hu_n (tne T_m9 (hA 6 (by decide)) (by decide))]; exact F_m9
                    have F_A4 : h_161 (A 4) = some (.inl ((t 1), 700, .inl g_149)) := by rw [e_162, hu_n (tneF (hA 4 (by decide)) (hA 6 (by decide)) (by decide))]; exact F_A4
                    have F_A5 : h_161 (A 5) = some (.inl ((t 1), 700, .inl g_156)) := by rw [e_162, hu_n (tneF (hA 5 (by decide)) (hA 6 (by decide)) (by decide))]; exact F_A5
                    have F_A8 : h_161 (A 8) = some (.inl ((t 2), 700, .inl g_6)) := by rw [e_162, hu_n (tneF (hA 8 (by decide)) (hA 6 (by decide)) (by decide))]; exact F_A8
                    have F_A10 : h_161 (A 10) = some (.inl ((t 1), 700, .inl g_7)) := by rw [e_162, hu_n (tneF (hA 10 (by decide)) (hA 6 (by decide)) (by decide))]; exact F_A10
                    have F_A11 : h_161 (A 11) = some (.inl ((t 2), 700, .inl g_9)) := by rw [e_162, hu_n (tneF (hA 11 (by decide)) (hA 6 (by decide)) (by decide))]; exact F_A11
                    have F_A6 : h_161 (A 6) = some (.inl ((t 2), 700, .inl (upd g_5 ma.toNatClampNeg d9))) := by rw [e_162]; exact hu_s _ _ _
                    have hT : TI τ t n h_161 := by rw [e_162]; exact TI_put hT (hA 6 (by decide)) (by decide) (ok_I rfl rfl)
                    have hkf : kf τ [(30, 4), (30, 5), (30, 6), (30, 7), (30, 8), (30, 9), (30, 10), (30, 11)] [m9] h h_161 := by rw [e_162]; exact kf_put hkf (hA 6 (by decide)) (List.mem_cons_of_mem _ (List.mem_cons_of_mem _ List.mem_cons_self))
                    obtain ⟨g_163, e_164⟩ : ∃ z, z = upd g_5 ma.toNatClampNeg d9 := ⟨_, rfl⟩
                    rw [← e_164] at F_A6
                    refine lv_aload_n hx hb d_Mo_add_131 rfl (lv_at hl 2 rfl) ?_
                    refine hm_get (ci := 9) (v := .ref (A 7)) (C := R_Mo) (T := F_Mo) (N := 41) hx hb hts ig_Mo hown hK hH F_m9 rfl 14 (by decide) (hts _ mw_598) (fun _ h9 => h9) rfl d_Mo_add_132 ?_
                    refine lv_iload hx hb d_Mo_add_135 (lv_at hl 0 rfl) ?_
                    refine lv_lload hx hb d_Mo_add_137 (lv_at hl 1 rfl) ?_
                    obtain ⟨g_165, F_A7⟩ := TI_arJ (L := 700) hT (hA 7 (by decide)) rfl rfl
                    refine hm_last hx hb hK hH hLo 3 F_A7 rfl (iIn (by omega) (by omega)) d_Mo_add_139 (fun H_166 locs hH z_167 hLo => ?_)
                    have hz : s.heap.size ≤ H_166.size := by rw [z_167]; exact hz
                    obtain ⟨h_168, e_169⟩ : ∃ z, z = hu h_161 (A 7) (.inl ((t 3), 700, .inr (.inl (vp_updL g_165 ma.toNatClampNeg r_12)))) := ⟨_, rfl⟩
                    have hH : hm D vwCl G h_168 H_166 := by rw [e_169]; exact hH
                    have F_m9 : h_168 m9 = some (.inr (9, mf A n th sd lo le wr v_139 nu di pl se wg op)) := by rw [e_169, hu_n (tne T_m9 (hA 7 (by decide)) (by decide))]; exact F_m9
                    have F_A4 : h_168 (A 4) = some (.inl ((t 1), 700, .inl g_149)) := by rw [e_169, hu_n (tneF (hA 4 (by decide)) (hA 7 (by decide)) (by decide))]; exact F_A4
                    have F_A5 : h_168 (A 5) = some (.inl ((t 1), 700, .inl g_156)) := by rw [e_169, hu_n (tneF (hA 5 (by decide)) (hA 7 (by decide)) (by decide))]; exact F_A5
                    have F_A6 : h_168 (A 6) = some (.inl ((t 2), 700, .inl g_163)) := by rw [e_169, hu_n (tneF (hA 6 (by decide)) (hA 7 (by decide)) (by decide))]; exact F_A6
                    have F_A8 : h_168 (A 8) = some (.inl ((t 2), 700, .inl g_6)) := by rw [e_169, hu_n (tneF (hA 8 (by decide)) (hA 7 (by decide)) (by decide))]; exact F_A8
                    have F_A10 : h_168 (A 10) = some (.inl ((t 1), 700, .inl g_7)) := by rw [e_169, hu_n (tneF (hA 10 (by decide)) (hA 7 (by decide)) (by decide))]; exact F_A10
                    have F_A11 : h_168 (A 11) = some (.inl ((t 2), 700, .inl g_9)) := by rw [e_169, hu_n (tneF (hA 11 (by decide)) (hA 7 (by decide)) (by decide))]; exact F_A11
                    have F_A7 : h_168 (A 7) = some (.inl ((t 3), 700, .inr (.inl (vp_updL g_165 ma.toNatClampNeg r_12)))) := by rw [e_169]; exact hu_s _ _ _
                    have hT : TI τ t n h_168 := by rw [e_169]; exact TI_put hT (hA 7 (by decide)) (by decide) (ok_J rfl rfl)
                    have hkf : kf τ [(30, 4), (30, 5), (30, 6), (30, 7), (30, 8), (30, 9), (30, 10), (30, 11)] [m9] h h_168 := by rw [e_169]; exact kf_put hkf (hA 7 (by decide)) (List.mem_cons_of_mem _ (List.mem_cons_of_mem _ (List.mem_cons_of_mem _ List.mem_cons_self)))
                    obtain ⟨g_170, e_171⟩ : ∃ z, z = vp_updL g_165 ma.toNatClampNeg r_12 := ⟨_, rfl⟩
                    rw [← e_171] at F_A7
                    refine lv_aload_n hx hb d_Mo_add_140 rfl (lv_at hl 2 rfl) ?_
                    refine hm_get (ci := 9) (v := .ref (A 8)) (C := R_Mo) (T := F_Mo) (N := 41) hx hb hts ig_Mo hown hK hH F_m9 rfl 15 (by decide) (hts _ mw_615) (fun _ h9 => h9) rfl d_Mo_add_141 ?_
                    refine lv_iload hx hb d_Mo_add_144 (lv_at hl 0 rfl) ?_
                    refine lv_iload hx hb d_Mo_add_146 (lv_at hl 6 rfl) ?_
                    refine hm_iast hx hb hK hH hLo 2 F_A8 rfl (iIn (by omega) (by omega)) d_Mo_add_148 (fun H_172 locs hH z_173 hLo => ?_)
                    have hz : s.heap.size ≤ H_172.size := by rw [z_173]; exact hz
                    obtain ⟨h_174, e_175⟩ : ∃ z, z = hu h_168 (A 8) (.inl ((t 2), 700, .inl (upd g_6 ma.toNatClampNeg sz9))) := ⟨_, rfl⟩
                    have hH : hm D vwCl G h_174 H_172 := by rw [e_175]; exact hH
                    have F_m9 : h_174 m9 = some (.inr (9, mf A n th sd lo le wr v_139 nu di pl se wg op)) := by rw [e_175, hu_n (tne T_m9 (hA 8 (by decide)) (by decide))]; exact F_m9
                    have F_A4 : h_174 (A 4) = some (.inl ((t 1), 700, .inl g_149)) := by rw [e_175, hu_n (tneF (hA 4 (by decide)) (hA 8 (by decide)) (by decide))]; exact F_A4
                    have F_A5 : h_174 (A 5) = some (.inl ((t 1), 700, .inl g_156)) := by rw [e_175, hu_n (tneF (hA 5 (by decide)) (hA 8 (by decide)) (by decide))]; exact F_A5
                    have F_A6 : h_174 (A 6) = some (.inl ((t 2), 700, .inl g_163)) := by rw [e_175, hu_n (tneF (hA 6 (by decide)) (hA 8 (by decide)) (by decide))]; exact F_A6
                    have F_A10 : h_174 (A 10) = some (.inl ((t 1), 700, .inl g_7)) := by rw [e_175, hu_n (tneF (hA 10 (by decide)) (hA 8 (by decide)) (by decide))]; exact F_A10
                    have F_A11 : h_174 (A 11) = some (.inl ((t 2), 700, .inl g_9)) := by rw [e_175, hu_n (tneF (hA 11 (by decide)) (hA 8 (by decide)) (by decide))]; exact F_A11
                    have F_A7 : h_174 (A 7) = some (.inl ((t 3), 700, .inr (.inl g_170))) := by rw [e_175, hu_n (tneF (hA 7 (by decide)) (hA 8 (by decide)) (by decide))]; exact F_A7
                    have F_A8 : h_174 (A 8) = some (.inl ((t 2), 700, .inl (upd g_6 ma.toNatClampNeg sz9))) := by rw [e_175]; exact hu_s _ _ _
                    have hT : TI τ t n h_174 := by rw [e_175]; exact TI_put hT (hA 8 (by decide)) (by decide) (ok_I rfl rfl)
                    have hkf : kf τ [(30, 4), (30, 5), (30, 6), (30, 7), (30, 8), (30, 9), (30, 10), (30, 11)] [m9] h h_174 := by rw [e_175]; exact kf_put hkf (hA 8 (by decide)) (List.mem_cons_of_mem _ (List.mem_cons_of_mem _ (List.mem_cons_of_mem _ (List.mem_cons_of_mem _ List.mem_cons_self))))
                    obtain ⟨g_176, e_177⟩ : ∃ z, z = upd g_6 ma.toNatClampNeg sz9 := ⟨_, rfl⟩
                    rw [← e_177] at F_A8
                    refine lv_aload_n hx hb d_Mo_add_149 rfl (lv_at hl 2 rfl) ?_
                    refine hm_get (ci := 9) (v := .ref (A 9)) (C := R_Mo) (T := F_Mo) (N := 41) hx hb hts ig_Mo hown hK hH F_m9 rfl 16 (by decide) (hts _ mw_616) (fun _ h9 => h9) rfl d_Mo_add_150 ?_
                    refine lv_iload hx hb d_Mo_add_153 (lv_at hl 0 rfl) ?_
                    refine lv_iload hx hb d_Mo_add_155 (lv_at hl 7 rfl) ?_
                    obtain ⟨g_178, F_A9⟩ := TI_arI (L := 700) hT (hA 9 (by decide)) rfl rfl
                    refine hm_iast hx hb hK hH hLo 2 F_A9 rfl (iIn (by omega) (by omega)) d_Mo_add_157 (fun H_179 locs hH z_180 hLo => ?_)
                    have hz : s.heap.size ≤ H_179.size := by rw [z_180]; exact hz
                    obtain ⟨h_181, e_182⟩ : ∃ z, z = hu h_174 (A 9) (.inl ((t 2), 700, .inl (upd g_178 ma.toNatClampNeg sd9))) := ⟨_, rfl⟩
                    have hH : hm D vwCl G h_181 H_179 := by rw [e_182]; exact hH
                    have F_m9 : h_181 m9 = some (.inr (9, mf A n th sd lo le wr v_139 nu di pl se wg op)) := by rw [e_182, hu_n (tne T_m9 (hA 9 (by decide)) (by decide))]; exact F_m9
                    have F_A4 : h_181 (A 4) = some (.inl ((t 1), 700, .inl g_149)) := by rw [e_182, hu_n (tneF (hA 4 (by decide)) (hA 9 (by decide)) (by decide))]; exact F_A4
                    have F_A5 : h_181 (A 5) = some (.inl ((t 1), 700, .inl g_156)) := by rw [e_182, hu_n (tneF (hA 5 (by decide)) (hA 9 (by decide)) (by decide))]; exact F_A5
                    have F_A6 : h_181 (A 6) = some (.inl ((t 2), 700, .inl g_163)) := by rw [e_182, hu_n (tneF (hA 6 (by decide)) (hA 9 (by decide)) (by decide))]; exact F_A6
                    have F_A8 : h_181 (A 8) = some (.inl ((t 2), 700, .inl g_176)) := by rw [e_182, hu_n (tneF (hA 8 (by decide)) (hA 9 (by decide)) (by decide))]; exact F_A8
                    have F_A10 : h_181 (A 10) = some (.inl ((t 1), 700, .inl g_7)) := by rw [e_182, hu_n (tneF (hA 10 (by decide)) (hA 9 (by decide)) (by decide))]; exact F_A10
                    have F_A11 : h_181 (A 11) = some (.inl ((t 2), 700, .inl g_9)) := by rw [e_182, hu_n (tneF (hA 11 (by decide)) (hA 9 (by decide)) (by decide))]; exact F_A11
                    have F_A7 : h_181 (A 7) = some (.inl ((t 3), 700, .inr (.inl g_170))) := by rw [e_182, hu_n (tneF (hA 7 (by decide)) (hA 9 (by decide)) (by decide))]; exact F_A7
                    have F_A9 : h_181 (A 9) = some (.inl ((t 2), 700, .inl (upd g_178 ma.toNatClampNeg sd9))) := by rw [e_182]; exact hu_s _ _ _
                    have hT : TI τ t n h_181 := by rw [e_182]; exact TI_put hT (hA 9 (by decide)) (by decide) (ok_I rfl rfl)
                    have hkf : kf τ [(30, 4), (30, 5), (30, 6), (30, 7), (30, 8), (30, 9), (30, 10), (30, 11)] [m9] h h_181 := by rw [e_182]; exact kf_put hkf (hA 9 (by decide)) (List.mem_cons_of_mem _ (List.mem_cons_of_mem _ (List.mem_cons_of_mem _ (List.mem_cons_of_mem _ (List.mem_cons_of_mem _ List.mem_cons_self)))))
                    obtain ⟨g_183, e_184⟩ : ∃ z, z = upd g_178 ma.toNatClampNeg sd9 := ⟨_, rfl⟩
                    rw [← e_184] at F_A9
                    refine lv_aload_n hx hb d_Mo_add_158 rfl (lv_at hl 2 rfl) ?_
                    refine hm_get (ci := 9) (v := .ref (A 10)) (C := R_Mo) (T := F_Mo) (N := 41) hx hb hts ig_Mo hown hK hH F_m9 rfl 17 (by decide) (hts _ mw_617) (fun _ h9 => h9) rfl d_Mo_add_159 ?_
                    refine lv_iload hx hb d_Mo_add_162 (lv_at hl 0 rfl) ?_
                    refine lv_iconst (v := 0) hx hb d_Mo_add_164 (by decide) ?_
                    refine hm_zast hx hb hK hH hLo 1 F_A10 rfl (iIn (by omega) (by omega)) d_Mo_add_165 (fun H_185 locs hH z_186 hLo => ?_)
                    have hz : s.heap.size ≤ H_185.size := by rw [z_186]; exact hz
                    rw [zb_nar (v := 0) zb0] at hH
                    obtain ⟨h_187, e_188⟩ : ∃ z, z = hu h_181 (A 10) (.inl ((t 1), 700, .inl (upd g_7 ma.toNatClampNeg (0 : Int32)))) := ⟨_, rfl⟩
                    have hH : hm D vwCl G h_187 H_185 := by rw [e_188]; exact hH
                    have F_m9 : h_187 m9 = some (.inr (9, mf A n th sd lo le wr v_139 nu di pl se wg op)) := by rw [e_188, hu_n (tne T_m9 (hA 10 (by decide)) (by decide))]; exact F_m9
                    have F_A4 : h_187 (A 4) = some (.inl ((t 1), 700, .inl g_149)) := by rw [e_188, hu_n (tneF (hA 4 (by decide)) (hA 10 (by decide)) (by decide))]; exact F_A4
                    have F_A5 : h_187 (A 5) = some (.inl ((t 1), 700, .inl g_156)) := by rw [e_188, hu_n (tneF (hA 5 (by decide)) (hA 10 (by decide)) (by decide))]; exact F_A5
                    have F_A6 : h_187 (A 6) = some (.inl ((t 2), 700, .inl g_163)) := by rw [e_188, hu_n (tneF (hA 6 (by decide)) (hA 10 (by decide)) (by decide))]; exact F_A6
                    have F_A8 : h_187 (A 8) = some (.inl ((t 2), 700, .inl g_176)) := by rw [e_188, hu_n (tneF (hA 8 (by decide)) (hA 10 (by decide)) (by decide))]; exact F_A8
                    have F_A11 : h_187 (A 11) = some (.inl ((t 2), 700, .inl g_9)) := by rw [e_188, hu_n (tneF (hA 11 (by decide)) (hA 10 (by decide)) (by decide))]; exact F_A11
                    have F_A7 : h_187 (A 7) = some (.inl ((t 3), 700, .inr (.inl g_170))) := by rw [e_188, hu_n (tneF (hA 7 (by decide)) (hA 10 (by decide)) (by decide))]; exact F_A7
                    have F_A9 : h_187 (A 9) = some (.inl ((t 2), 700, .inl g_183)) := by rw [e_188, hu_n (tneF (hA 9 (by decide)) (hA 10 (by decide)) (by decide))]; exact F_A9
                    have F_A10 : h_187 (A 10) = some (.inl ((t 1), 700, .inl (upd g_7 ma.toNatClampNeg (0 : Int32)))) := by rw [e_188]; exact hu_s _ _ _
                    have hT : TI τ t n h_187 := by rw [e_188]; exact TI_put hT (hA 10 (by decide)) (by decide) (ok_Z rfl rfl (zbF_up c_8 zb0))
                    have hkf : kf τ [(30, 4), (30, 5), (30, 6), (30, 7), (30, 8), (30, 9), (30, 10), (30, 11)] [m9] h h_187 := by rw [e_188]; exact kf_put hkf (hA 10 (by decide)) (List.mem_cons_of_mem _ (List.mem_cons_of_mem _ (List.mem_cons_of_mem _ (List.mem_cons_of_mem _ (List.mem_cons_of_mem _ (List.mem_cons_of_mem _ List.mem_cons_self))))))
                    obtain ⟨g_189, e_190⟩ : ∃ z, z = upd g_7 ma.toNatClampNeg (0 : Int32) := ⟨_, rfl⟩
                    rw [← e_190] at F_A10
                    have c_191 : zbF g_189 := by rw [e_190]; exact (zbF_up c_8 zb0)
                    refine lv_aload_n hx hb d_Mo_add_166 rfl (lv_at hl 2 rfl) ?_
                    refine hm_get (ci := 9) (v := .ref (A 11)) (C := R_Mo) (T := F_Mo) (N := 41) hx hb hts ig_Mo hown hK hH F_m9 rfl 18 (by decide) (hts _ mw_618) (fun _ h9 => h9) rfl d_Mo_add_167 ?_
                    refine lv_iload hx hb d_Mo_add_170 (lv_at hl 0 rfl) ?_
                    refine lv_iconst (v := 0) hx hb d_Mo_add_172 (by decide) ?_
                    refine hm_iast hx hb hK hH hLo 2 F_A11 rfl (iIn (by omega) (by omega)) d_Mo_add_173 (fun H_192 locs hH z_193 hLo => ?_)
                    have hz : s.heap.size ≤ H_192.size := by rw [z_193]; exact hz
                    obtain ⟨h_194, e_195⟩ : ∃ z, z = hu h_187 (A 11) (.inl ((t 2), 700, .inl (upd g_9 ma.toNatClampNeg (0 : Int32)))) := ⟨_, rfl⟩
                    have hH : hm D vwCl G h_194 H_192 := by rw [e_195]; exact hH
                    have F_m9 : h_194 m9 = some (.inr (9, mf A n th sd lo le wr v_139 nu di pl se wg op)) := by rw [e_195, hu_n (tne T_m9 (hA 11 (by decide)) (by decide))]; exact F_m9
                    have F_A4 : h_194 (A 4) = some (.inl ((t 1), 700, .inl g_149)) := by rw [e_195, hu_n (tneF (hA 4 (by decide)) (hA 11 (by decide)) (by decide))]; exact F_A4
                    have F_A5 : h_194 (A 5) = some (.inl ((t 1), 700, .inl g_156)) := by rw [e_195, hu_n (tneF (hA 5 (by decide)) (hA 11 (by decide)) (by decide))]; exact F_A5
                    have F_A6 : h_194 (A 6) = some (.inl ((t 2), 700, .inl g_163)) := by rw [e_195, hu_n (tneF (hA 6 (by decide)) (hA 11 (by decide)) (by decide))]; exact F_A6
                    have F_A8 : h_194 (A 8) = some (.inl ((t 2), 700, .inl g_176)) := by rw [e_195, hu_n (tneF (hA 8 (by decide)) (hA 11 (by decide)) (by decide))]; exact F_A8
                    have F_A10 : h_194 (A 10) = some (.inl ((t 1), 700, .inl g_189)) := by rw [e_195, hu_n (tneF (hA 10 (by decide)) (hA 11 (by decide)) (by decide))]; exact F_A10
                    have F_A7 : h_194 (A 7) = some (.inl ((t 3), 700, .inr (.inl g_170))) := by rw [e_195, hu_n (tneF (hA 7 (by decide)) (hA 11 (by decide)) (by decide))]; exact F_A7
                    have F_A9 : h_194 (A 9) = some (.inl ((t 2), 700, .inl g_183)) := by rw [e_195, hu_n (tneF (hA 9 (by decide)) (hA 11 (by decide)) (by decide))]; exact F_A9
                    have F_A11 : h_194 (A 11) = some (.inl ((t 2), 700, .inl (upd g_9 ma.toNatClampNeg (0 : Int32)))) := by rw [e_195]; exact hu_s _ _ _
                    have hT : TI τ t n h_194 := by rw [e_195]; exact TI_put hT (hA 11 (by decide)) (by decide) (ok_I rfl rfl)
                    have hkf : kf τ [(30, 4), (30, 5), (30, 6), (30, 7), (30, 8), (30, 9), (30, 10), (30, 11)] [m9] h h_194 := by rw [e_195]; exact kf_put hkf (hA 11 (by decide)) (List.mem_cons_of_mem _ (List.mem_cons_of_mem _ (List.mem_cons_of_mem _ (List.mem_cons_of_mem _ (List.mem_cons_of_mem _ (List.mem_cons_of_mem _ (List.mem_cons_of_mem _ List.mem_cons_self)))))))
                    obtain ⟨g_196, e_197⟩ : ∃ z, z = upd g_9 ma.toNatClampNeg (0 : Int32) := ⟨_, rfl⟩
                    rw [← e_197] at F_A11
                    refine lv_iload hx hb d_Mo_add_174 (lv_at hl 0 rfl) ?_
                    have is_198 : v_139.toInt = ma.toInt + 1 := by rw [e_140]; exact iAddK 1 rfl (by omega) (by omega)
                    have hcn9 : cntP (alB g_1) ma.toInt.toNat < 30 := by have := hTm.2.2.1; omega
                    have hmm : v_139.toInt.toNat = ma.toInt.toNat + 1 := by omega
                    exact W.iret (v := ma) hx hb hr (fun t9 ht hW => ⟨ma, h_194, rfl, ⟨hT, hkf, ⟨v_139, F_m9, ⟨hsd, hlo, (by omega), ⟨by omega, by omega⟩, ⟨by omega, by omega⟩⟩, ⟨by omega, ⟨by rw [aI_of F_A4, aI_of F_A6]; exact (by rw [hmm, e_150, e_164, clN]; exact treeM_add hTm ⟨by omega, in3⟩ hcn9 (by omega)), by rw [aI_of F_A4, aI_of F_A5, aI_of F_A8, aI_of F_A10, aI_of F_A11]; exact (by rw [hmm, e_150, e_157, e_177, e_190, e_197, clN]; exact exM_add hEx (hsz9 (by
                      rcases Z_z8 with hq | hq
                      · exact absurd hq hc_18
                      · exact hq)))⟩⟩⟩⟩, by rw [ht]; exact hH, by rw [ht]; exact hz⟩) hLo d_Mo_add_176
                  · skip
                    have ic_199 : r_132.toInt = 30 := congrArg Int32.toInt hc_138
                    refine lv_bipush (v := -3) hx hb d_Mo_add_87 (by decide) ?_
                    exact W.iret (v := (-3)) hx hb hr (fun t9 ht hW => ⟨(-3), h, rfl, ⟨hT, hkf, ⟨ma, F_m9, ⟨hsd, hlo, (by omega), ⟨by omega, by omega⟩, ⟨by omega, by omega⟩⟩, ⟨by omega, ⟨by rw [aI_of F_A4, aI_of F_A6]; exact hTm, by rw [aI_of F_A4, aI_of F_A5, aI_of F_A8, aI_of F_A10, aI_of F_A11]; exact hEx⟩⟩⟩⟩, by rw [ht]; exact hH, by rw [ht]; exact hz⟩) hLo d_Mo_add_89
                · skip
                  have ic_200 : 0 ≤ r_124.toInt := iNl hc_130
                  refine lv_bipush (v := -5) hx hb d_Mo_add_75 (by decide) ?_
                  exact W.iret (v := (-5)) hx hb hr (fun t9 ht hW => ⟨(-5), h, rfl, ⟨hT, hkf, ⟨ma, F_m9, ⟨hsd, hlo, (by omega), ⟨by omega, by omega⟩, ⟨by omega, by omega⟩⟩, ⟨by omega, ⟨by rw [aI_of F_A4, aI_of F_A6]; exact hTm, by rw [aI_of F_A4, aI_of F_A5, aI_of F_A8, aI_of F_A10, aI_of F_A11]; exact hEx⟩⟩⟩⟩, by rw [ht]; exact hH, by rw [ht]; exact hz⟩) hLo d_Mo_add_77
              · skip
                have ic_201 : 6 < v_120.toInt := iNe hc_122
                have iu_202 : v_120.toInt < 2147483648 := iUp _
                refine lv_bipush (v := -2) hx hb d_Mo_add_62 (by decide) ?_
                exact W.iret (v := (-2)) hx hb hr (fun t9 ht hW => ⟨(-2), h, rfl, ⟨hT, hkf, ⟨ma, F_m9, ⟨hsd, hlo, (by omega), ⟨by omega, by omega⟩, ⟨by omega, by omega⟩⟩, ⟨by omega, ⟨by rw [aI_of F_A4, aI_of F_A6]; exact hTm, by rw [aI_of F_A4, aI_of F_A5, aI_of F_A8, aI_of F_A10, aI_of F_A11]; exact hEx⟩⟩⟩⟩, by rw [ht]; exact hH, by rw [ht]; exact hz⟩) hLo d_Mo_add_64
  · skip
    refine lv_bipush (v := -4) hx hb d_Mo_add_7 (by decide) ?_
    exact W.iret (v := (-4)) hx hb hr (fun t9 ht hW => ⟨(-4), h, rfl, ⟨hT, hkf, ⟨ma, F_m9, ⟨hsd, hlo, (by omega), ⟨by omega, by omega⟩, ⟨by omega, by omega⟩⟩, ⟨by omega, ⟨by rw [aI_of F_A4, aI_of F_A6]; exact hTm, by rw [aI_of F_A4, aI_of F_A5, aI_of F_A8, aI_of F_A10, aI_of F_A11]; exact hEx⟩⟩⟩⟩, by rw [ht]; exact hH, by rw [ht]; exact hz⟩) hLo d_Mo_add_9

set_option maxHeartbeats 4000000 in
set_option maxRecDepth 100000 in
theorem m_dir (l : Launch) (D : va_G) (t : Nat → ClassId) (G : hG) (ak av : Nat → Nat) (h : hM) (τ : tM) (n : Nat) (m9 : Nat) (d9 : Int32) (w9 : Int64) (A : Nat → Nat) (th sd lo le wr ma nu di pl se wg op : Int32) (hn : n ≤ 200) (hT : TI τ t n h) (T_m9 : τ m9 = (20, 0)) (F_m9 : h m9 = some (.inr (9, mf A n th sd lo le wr ma nu di pl se wg op))) (hA : ∀ i, i < 28 → τ (A i) = (30, i)) (hmk : mOk sd lo ma se op) (hTm : treeM (aI h (A 4)) (aI h (A 6)) ma.toInt.toNat) (hEx : exM (aI h (A 4)) (aI h (A 5)) (aI h (A 8)) (aI h (A 10)) (aI h (A 11)) ma.toInt.toNat n) (hm7 : ma.toInt < 700) : Met l y_Mo_directory (.code y_Mo_directory b_Mo_directory 4 (some .int) :: lw_g) { frames := 3, cells := 0, slots := 0, locals := 75 } (hP (kE D t G ak av) D vwCl G h [.ref m9, .int d9, .long w9]) (hQi D vwCl G (fun r h' => TI τ t n h' ∧ kf τ [(30, 4), (30, 5), (30, 6), (30, 7), (30, 8), (30, 9), (30, 10), (30, 11)] [m9] h h' ∧ (∃ (th' : Int32) (ma' : Int32), h' m9 = some (.inr (9, mf A n th' sd lo le wr ma' nu di pl se wg op)) ∧ mOk sd lo ma' se op ∧ (ma'.toInt ≤ ma.toInt + 1 ∧ (treeM (aI h' (A 4)) (aI h' (A 6)) ma'.toInt.toNat ∧ exM (aI h' (A 4)) (aI h' (A 5)) (aI h' (A 8)) (aI h' (A 10)) (aI h' (A 11)) ma'.toInt.toNat n))))) 0 0 G.P := by
  refine Met.ofW (cc := b_Mo_directory) (maxL := 4) (ret := (some .int)) (by decide) rfl ?_
  intro p e s m args below meth c s₁ Bd hml hv
  obtain ⟨ha, hE, hH⟩ := hv
  have hx := Bd.exec
  have hb := Bd.bytes
  have hr := Bd.returns
  have hts : ∀ w ∈ lw_g, w.before args s = true := fun w hw => atoms_spec (ws := (.code y_Mo_directory b_Mo_directory 4 (some .int) :: lw_g)) Bd.pre w (List.mem_cons_of_mem _ hw)
  have hown : s.vm.findClass R_Mo = some m.cls := findClass_of_methodNamed Bd.named
  have hlocks := Bd.notSynchronized
  have hK := hE.1
  have hH0 := hH
  have hLo : hLc G.P [] := hLc_nil
  have hz : s.heap.size ≤ s.heap.size := Nat.le_refl _
  have hl := lv_entry [.ref m9, .int d9, .long w9] (n := 4) (Nat.le_of_ble_eq_true rfl)
  rw [show entryFrame m args 4 = F0 m 0 ((lg_sl [.ref m9, .int d9, .long w9] ++ List.replicate (4 - (lg_sl [.ref m9, .int d9, .long w9]).length) Slot.unset).toArray) [] from (by rw [ha]; exact lg_entry_eq m [.ref m9, .int d9, .long w9] 4)]
  generalize (lg_sl [.ref m9, .int d9, .long w9] ++ List.replicate (4 - (lg_sl [.ref m9, .int d9, .long w9]).length) Slot.unset).toArray = ls at hl ⊢
  have hl : lv_has ls 4 [(0, .ref m9), (1, .int d9), (2, .long w9)] := hl
  have hkf : kf τ [(30, 4), (30, 5), (30, 6), (30, 7), (30, 8), (30, 9), (30, 10), (30, 11)] [m9] h h := kf_rf
  obtain ⟨hsd, hlo, hma, hse, hop⟩ := id hmk
  have inI : (nI n).toInt = n := nI_toInt (by omega)
  obtain ⟨g_1, F_A4, c_2⟩ := TI_arZ (L := 700) hT (hA 4 (by decide)) rfl rfl
  obtain ⟨g_3, F_A5, c_4⟩ := TI_arZ (L := 700) hT (hA 5 (by decide)) rfl rfl
  obtain ⟨g_5, F_A6⟩ := TI_arI (L := 700) hT (hA 6 (by decide)) rfl rfl
  obtain ⟨g_6, F_A8⟩ := TI_arI (L := 700) hT (hA 8 (by decide)) rfl rfl
  obtain ⟨g_7, F_A10, c_8⟩ := TI_arZ (L := 700) hT (hA 10 (by decide)) rfl rfl
  obtain ⟨g_9, F_A11⟩ := TI_arI (L := 700) hT (hA 11 (by decide)) rfl rfl
  rw [aI_of F_A4, aI_of F_A6] at hTm
  rw [aI_of F_A4, aI_of F_A5, aI_of F_A8, aI_of F_A10, aI_of F_A11] at hEx
  refine lv_aload_n hx hb d_Mo_directory_0 rfl (lv_at hl 0 rfl) ?_
  refine lv_iconst (v := 0) hx hb d_Mo_directory_1 (by decide) ?_
  refine hm_put (ci := 9) (v := .int 0) (ty := .int) (C := R_Mo) (T := F_Mo) (N := 41) hx hb hts ig_Mo t_Mo tk_Mo nm_Mo hown hK hH hLo F_m9 rfl 0 (by decide) (hts _ mw_594) (fun _ h9 => h9) rfl (by decide +kernel) rfl rfl (Nat.le_of_ble_eq_true rfl) d_Mo_directory_2 (fun H_10 locs hH z_11 hLo => ?_)
  have hz : s.heap.size ≤ H_10.size := by rw [z_11]; exact hz
  obtain ⟨h_12, e_13⟩ : ∃ z, z = hu h m9 (.inr (9, mf A n 0 sd lo le wr ma nu di pl se wg op)) := ⟨_, rfl⟩
  have hH : hm D vwCl G h_12 H_10 := by rw [e_13]; exact hH
  have F_A4 : h_12 (A 4) = some (.inl ((t 1), 700, .inl g_1)) := by rw [e_13, hu_n (tne (hA 4 (by decide)) T_m9 (by decide))]; exact F_A4
  have F_A5 : h_12 (A 5) = some (.inl ((t 1), 700, .inl g_3)) := by rw [e_13, hu_n (tne (hA 5 (by decide)) T_m9 (by decide))]; exact F_A5
  have F_A6 : h_12 (A 6) = some (.inl ((t 2), 700, .inl g_5)) := by rw [e_13, hu_n (tne (hA 6 (by decide)) T_m9 (by decide))]; exact F_A6
  have F_A8 : h_12 (A 8) = some (.inl ((t 2), 700, .inl g_6)) := by rw [e_13, hu_n (tne (hA 8 (by decide)) T_m9 (by decide))]; exact F_A8
  have F_A10 : h_12 (A 10) = some (.inl ((t 1), 700, .inl g_7)) := by rw [e_13, hu_n (tne (hA 10 (by decide)) T_m9 (by decide))]; exact F_A10
  have F_A11 : h_12 (A 11) = some (.inl ((t 2), 700, .inl g_9)) := by rw [e_13, hu_n (tne (hA 11 (by decide)) T_m9 (by decide))]; exact F_A11
  have F_m9 : h_12 m9 = some (.inr (9, mf A n 0 sd lo le wr ma nu di pl se wg op)) := by rw [e_13]; exact hu_s _ _ _
  have hT : TI τ t n h_12 := by rw [e_13]; exact TI_put hT T_m9 (by decide) ⟨_, rfl⟩
  have hkf : kf τ [(30, 4), (30, 5), (30, 6), (30, 7), (30, 8), (30, 9), (30, 10), (30, 11)] [m9] h h_12 := by rw [e_13]; exact kf_putM hkf (by simp)
  refine lv_aload_n hx hb d_Mo_directory_5 rfl (lv_at hl 0 rfl) ?_
  refine lv_iload_n hx hb d_Mo_directory_6 rfl (lv_at hl 1 rfl) ?_
  refine lv_lload_n hx hb d_Mo_directory_7 rfl (lv_at hl 2 rfl) ?_
  refine lv_iconst (v := 1) hx hb d_Mo_directory_8 (by decide) ?_
  refine lv_iconst (v := 0) hx hb d_Mo_directory_9 (by decide) ?_
  refine lv_iconst (v := 0) hx hb d_Mo_directory_10 (by decide) ?_
  refine lv_iconst (v := 1) hx hb d_Mo_directory_11 (by decide) ?_
  refine hm_calli (va_runV (As := [.int d9, .long w9, .int 1, .int 0, .int 0, .int 1]) (b := m9) (rest := []) ⟨hx, hb, hml, hown, hts⟩ (m_add l D t G ak av h_12 τ n m9 d9 w9 (1 : Int32) 0 0 (1 : Int32) A (0 : Int32) sd lo le wr ma nu di pl se wg op   hn hT T_m9 zb1 zb1  F_m9 hA ⟨hsd, hlo, (by omega), ⟨by omega, by omega⟩, ⟨by omega, by omega⟩⟩ (by rw [aI_of F_A4, aI_of F_A6]; exact hTm) (by rw [aI_of F_A4, aI_of F_A5, aI_of F_A8, aI_of F_A10, aI_of F_A11]; exact hEx) hm7 (fun _ => ⟨by decide, by decide⟩)) ⟨cw9B 6 hts mw_623 mw_624 mw_579 rfl rfl (by decide +kernel) ⟨Nat.le_of_ble_eq_true rfl, Nat.le_of_ble_eq_true rfl⟩, hts _ mw_625, hts _ mw_626⟩ (hP_V (q := (R_Mo, F_Mo, 41)) kE_ok hE hK hH F_m9 rfl) rfl rfl hl.1 rfl (lv_room (Nat.le_of_ble_eq_true rfl)) d_Mo_directory_12 ⟨Nat.le_of_ble_eq_true rfl, Nat.le_of_ble_eq_true rfl⟩) hLo (fun r_14 h_15 H_16 locs hp_18 hH z_17 hLo => ?_)
  have hz : s.heap.size ≤ H_16.size := Nat.le_trans hz z_17
  have hT0 := hT
  obtain ⟨hT, kf_20, xp_19⟩ := hp_18
  have hkf : kf τ [(30, 4), (30, 5), (30, 6), (30, 7), (30, 8), (30, 9), (30, 10), (30, 11)] [m9] h h_15 := kf_tr hkf kf_20 (List.forall_mem_cons.mpr ⟨List.mem_cons_self, List.forall_mem_cons.mpr ⟨(List.mem_cons_of_mem _ List.mem_cons_self), List.forall_mem_cons.mpr ⟨(List.mem_cons_of_mem _ (List.mem_cons_of_mem _ List.mem_cons_self)), List.forall_mem_cons.mpr ⟨(List.mem_cons_of_mem _ (List.mem_cons_of_mem _ (List.mem_cons_of_mem _ List.mem_cons_self))), List.forall_mem_cons.mpr ⟨(List.mem_cons_of_mem _ (List.mem_cons_of_mem _ (List.mem_cons_of_mem _ (List.mem_cons_of_mem _ List.mem_cons_self)))), List.forall_mem_cons.mpr ⟨(List.mem_cons_of_mem _ (List.mem_cons_of_mem _ (List.mem_cons_of_mem _ (List.mem_cons_of_mem _ (List.mem_cons_of_mem _ List.mem_cons_self))))), List.forall_mem_cons.mpr ⟨(List.mem_cons_of_mem _ (List.mem_cons_of_mem _ (List.mem_cons_of_mem _ (List.mem_cons_of_mem _ (List.mem_cons_of_mem _ (List.mem_cons_of_mem _ List.mem_cons_self)))))), List.forall_mem_cons.mpr ⟨(List.mem_cons_of_mem _ (List.mem_cons_of_mem _ (List.mem_cons_of_mem _ (List.mem_cons_of_mem _ (List.mem_cons_of_mem _ (List.mem_cons_of_mem _ (List.mem_cons_of_mem _ List.mem_cons_self))))))), List.forall_mem_nil _⟩⟩⟩⟩⟩⟩⟩⟩) (List.forall_mem_cons.mpr ⟨Or.inl (by simp), List.forall_mem_nil _⟩)
  obtain ⟨ma_21, F_m9, mk_22, xq_23⟩ := xp_19
  obtain ⟨m_24, m_25, m_26, m_27, m_28⟩ := mk_22
  exact W.iret (v := r_14) hx hb hr (fun t9 ht hW => ⟨r_14, h_15, rfl, ⟨hT, hkf, ⟨(0 : Int32), ma_21, F_m9, ⟨m_24, m_25, (by omega), ⟨by omega, by omega⟩, ⟨by omega, by omega⟩⟩, xq_23⟩⟩, by rw [ht]; exact hH, by rw [ht]; exact hz⟩) hLo d_Mo_directory_15

set_option maxHeartbeats 4000000 in
set_option maxRecDepth 100000 in
theorem m_file (l : Launch) (D : va_G) (t : Nat → ClassId) (G : hG) (ak av : Nat → Nat) (h : hM) (τ : tM) (n : Nat) (m9 : Nat) (d9 : Int32) (w9 : Int64) (sz9 : Int32) (sd9 : Int32) (A : Nat → Nat) (th sd lo le wr ma nu di pl se wg op : Int32) (hn : n ≤ 200) (hT : TI τ t n h) (T_m9 : τ m9 = (20, 0)) (F_m9 : h m9 = some (.inr (9, mf A n th sd lo le wr ma nu di pl se wg op))) (hA : ∀ i, i < 28 → τ (A i) = (30, i)) (hmk : mOk sd lo ma se op) (hTm : treeM (aI h (A 4)) (aI h (A 6)) ma.toInt.toNat) (hEx : exM (aI h (A 4)) (aI h (A 5)) (aI h (A 8)) (aI h (A 10)) (aI h (A 11)) ma.toInt.toNat n) (hm7 : ma.toInt < 700) : Met l y_Mo_file (.code y_Mo_file b_Mo_file 6 (some .int) :: lw_g) { frames := 3, cells := 0, slots := 0, locals := 75 } (hP (kE D t G ak av) D vwCl G h [.ref m9, .int d9, .long w9, .int sz9, .int sd9]) (hQi D vwCl G (fun r h' => TI τ t n h' ∧ kf τ [(30, 4), (30, 5), (30, 6), (30, 7), (30, 8), (30, 9), (30, 10), (30, 11)] [m9] h h' ∧ (∃ (th' : Int32) (ma' : Int32), h' m9 = some (.inr (9, mf A n th' sd lo le wr ma' nu di pl se wg op)) ∧ mOk sd lo ma' se op ∧ (ma'.toInt ≤ ma.toInt + 1 ∧ (treeM (aI h' (A 4)) (aI h' (A 6)) ma'.toInt.toNat ∧ exM (aI h' (A 4)) (aI h' (A 5)) (aI h' (A 8)) (aI h' (A 10)) (aI h' (A 11)) ma'.toInt.toNat n))))) 0 0 G.P := by
  refine Met.ofW (cc := b_Mo_file) (maxL := 6) (ret := (some .int)) (by decide) rfl ?_
  intro p e s m args below meth c s₁ Bd hml hv
  obtain ⟨ha, hE, hH⟩ := hv
  have hx := Bd.exec
  have hb := Bd.bytes
  have hr := Bd.returns
  have hts : ∀ w ∈ lw_g, w.before args s = true := fun w hw => atoms_spec (ws := (.code y_Mo_file b_Mo_file 6 (some .int) :: lw_g)) Bd.pre w (List.mem_cons_of_mem _ hw)
  have hown : s.vm.findClass R_Mo = some m.cls := findClass_of_methodNamed Bd.named
  have hlocks := Bd.notSynchronized
  have hK := hE.1
  have hH0 := hH
  have hLo : hLc G.P [] := hLc_nil
  have hz : s.heap.size ≤ s.heap.size := Nat.le_refl _
  have hl := lv_entry [.ref m9, .int d9, .long w9, .int sz9, .int sd9] (n := 6) (Nat.le_of_ble_eq_true rfl)
  rw [show entryFrame m args 6 = F0 m 0 ((lg_sl [.ref m9, .int d9, .long w9, .int sz9, .int sd9] ++ List.replicate (6 - (lg_sl [.ref m9, .int d9, .long w9, .int sz9, .int sd9]).length) Slot.unset).toArray) [] from (by rw [ha]; exact lg_entry_eq m [.ref m9, .int d9, .long w9, .int sz9, .int sd9] 6)]
  generalize (lg_sl [.ref m9, .int d9, .long w9, .int sz9, .int sd9] ++ List.replicate (6 - (lg_sl [.ref m9, .int d9, .long w9, .int sz9, .int sd9]).length) Slot.unset).toArray = ls at hl ⊢
  have hl : lv_has ls 6 [(0, .ref m9), (1, .int d9), (2, .long w9), (4, .int sz9), (5, .int sd9)] := hl
  have hkf : kf τ [(30, 4), (30, 5), (30, 6), (30, 7), (30, 8), (30, 9), (30, 10), (30, 11)] [m9] h h := kf_rf
  obtain ⟨hsd, hlo, hma, hse, hop⟩ := id hmk
  have inI : (nI n).toInt = n := nI_toInt (by omega)
  obtain ⟨g_1, F_A4, c_2⟩ := TI_arZ (L := 700) hT (hA 4 (by decide)) rfl rfl
  obtain ⟨g_3, F_A5, c_4⟩ := TI_arZ (L := 700) hT (hA 5 (by decide)) rfl rfl
  obtain ⟨g_5, F_A6⟩ := TI_arI (L := 700) hT (hA 6 (by decide)) rfl rfl
  obtain ⟨g_6, F_A8⟩ := TI_arI (L := 700) hT (hA 8 (by decide)) rfl rfl
  obtain ⟨g_7, F_A10, c_8⟩ := TI_arZ (L := 700) hT (hA 10 (by decide)) rfl rfl
  obtain ⟨g_9, F_A11⟩ := TI_arI (L := 700) hT (hA 11 (by decide)) rfl rfl
  rw [aI_of F_A4, aI_of F_A6] at hTm
  rw [aI_of F_A4, aI_of F_A5, aI_of F_A8, aI_of F_A10, aI_of F_A11] at hEx
  refine lv_aload_n hx hb d_Mo_file_0 rfl (lv_at hl 0 rfl) ?_
  refine lv_iconst (v := 0) hx hb d_Mo_file_1 (by decide) ?_
  refine hm_put (ci := 9) (v := .int 0) (ty := .int) (C := R_Mo) (T := F_Mo) (N := 41) hx hb hts ig_Mo t_Mo tk_Mo nm_Mo hown hK hH hLo F_m9 rfl 0 (by decide) (hts _ mw_594) (fun _ h9 => h9) rfl (by decide +kernel) rfl rfl (Nat.le_of_ble_eq_true rfl) d_Mo_file_2 (fun H_10 locs hH z_11 hLo => ?_)
  have hz : s.heap.size ≤ H_10.size := by rw [z_11]; exact hz
  obtain ⟨h_12, e_13⟩ : ∃ z, z = hu h m9 (.inr (9, mf A n 0 sd lo le wr ma nu di pl se wg op)) := ⟨_, rfl⟩
  have hH : hm D vwCl G h_12 H_10 := by rw [e_13]; exact hH
  have F_A4 : h_12 (A 4) = some (.inl ((t 1), 700, .inl g_1)) := by rw [e_13, hu_n (tne (hA 4 (by decide)) T_m9 (by decide))]; exact F_A4
  have F_A5 : h_12 (A 5) = some (.inl ((t 1), 700, .inl g_3)) := by rw [e_13, hu_n (tne (hA 5 (by decide)) T_m9 (by decide))]; exact F_A5
  have F_A6 : h_12 (A 6) = some (.inl ((t 2), 700, .inl g_5)) := by rw [e_13, hu_n (tne (hA 6 (by decide)) T_m9 (by decide))]; exact F_A6
  have F_A8 : h_12 (A 8) = some (.inl ((t 2), 700, .inl g_6)) := by rw [e_13, hu_n (tne (hA 8 (by decide)) T_m9 (by decide))]; exact F_A8
  have F_A10 : h_12 (A 10) = some (.inl ((t 1), 700, .inl g_7)) := by rw [e_13, hu_n (tne (hA 10 (by decide)) T_m9 (by decide))]; exact F_A10
  have F_A11 : h_12 (A 11) = some (.inl ((t 2), 700, .inl g_9)) := by rw [e_13, hu_n (tne (hA 11 (by decide)) T_m9 (by decide))]; exact F_A11
  have F_m9 : h_12 m9 = some (.inr (9, mf A n 0 sd lo le wr ma nu di pl se wg op)) := by rw [e_13]; exact hu_s _ _ _
  have hT : TI τ t n h_12 := by rw [e_13]; exact TI_put hT T_m9 (by decide) ⟨_, rfl⟩
  have hkf : kf τ [(30, 4), (30, 5), (30, 6), (30, 7), (30, 8), (30, 9), (30, 10), (30, 11)] [m9] h h_12 := by rw [e_13]; exact kf_putM hkf (by simp)
  refine lv_aload_n hx hb d_Mo_file_5 rfl (lv_at hl 0 rfl) ?_
  refine lv_iload_n hx hb d_Mo_file_6 rfl (lv_at hl 1 rfl) ?_
  refine lv_lload_n hx hb d_Mo_file_7 rfl (lv_at hl 2 rfl) ?_
  refine lv_iconst (v := 0) hx hb d_Mo_file_8 (by decide) ?_
  refine lv_iload hx hb d_Mo_file_9 (lv_at hl 3 rfl) ?_
  refine lv_iload hx hb d_Mo_file_11 (lv_at hl 4 rfl) ?_
  refine lv_iload hx hb d_Mo_file_13 (lv_at hl 3 rfl) ?_
  refine lv_iload hx hb d_Mo_file_15 (lv_at hl 4 rfl) ?_
  refine hm_callPi (va_runS (As := [.int sz9, .int sd9]) (rest := [.int sd9, .int sz9, .int 0, .long w9, .int d9, .ref m9]) ⟨hx, hb, hml, hown, hts⟩ (m_content l D t G ak av h_12 τ n sz9 sd9    hn hT    ) ⟨cw9B 2 hts mw_627 mw_628 mw_579 rfl rfl (by decide +kernel) ⟨Nat.le_of_ble_eq_true rfl, Nat.le_of_ble_eq_true rfl⟩, hts _ mw_629⟩ (hP_S kE_ok hE hH) rfl rfl hl.1 rfl (lv_room (Nat.le_of_ble_eq_true rfl)) d_Mo_file_17 ⟨Nat.le_of_ble_eq_true rfl, Nat.le_of_ble_eq_true rfl⟩) (fun r_14 h_15 H_16 hp_18  hH z_17 => ?_)
  have hz : s.heap.size ≤ H_16.size := Nat.le_trans hz z_17
  obtain ⟨c_19, xp_20, rfl⟩ := hp_18
  refine hm_calli (va_runV (As := [.int d9, .long w9, .int 0, .int sz9, .int sd9, .int r_14]) (b := m9) (rest := []) ⟨hx, hb, hml, hown, hts⟩ (m_add l D t G ak av h_12 τ n m9 d9 w9 (0 : Int32) sz9 sd9 r_14 A (0 : Int32) sd lo le wr ma nu di pl se wg op   hn hT T_m9 zb0 c_19  F_m9 hA ⟨hsd, hlo, (by omega), ⟨by omega, by omega⟩, ⟨by omega, by omega⟩⟩ (by rw [aI_of F_A4, aI_of F_A6]; exact hTm) (by rw [aI_of F_A4, aI_of F_A5, aI_of F_A8, aI_of F_A10, aI_of F_A11]; exact hEx) hm7 xp_20) ⟨cw9B 6 hts mw_623 mw_624 mw_579 rfl rfl (by decide +kernel) ⟨Nat.le_of_ble_eq_true rfl, Nat.le_of_ble_eq_true rfl⟩, hts _ mw_625, hts _ mw_626⟩ (hP_V (q := (R_Mo, F_Mo, 41)) kE_ok hE hK hH F_m9 rfl) rfl rfl hl.1 rfl (lv_room (Nat.le_of_ble_eq_true rfl)) d_Mo_file_20 ⟨Nat.le_of_ble_eq_true rfl, Nat.le_of_ble_eq_true rfl⟩) hLo (fun r_21 h_22 H_23 locs hp_25 hH z_24 hLo => ?_)
  have hz : s.heap.size ≤ H_23.size := Nat.le_trans hz z_24
  have hT0 := hT
  obtain ⟨hT, kf_27, xp_26⟩ := hp_25
  have hkf : kf τ [(30, 4), (30, 5), (30, 6), (30, 7), (30, 8), (30, 9), (30, 10), (30, 11)] [m9] h h_22 := kf_tr hkf kf_27 (List.forall_mem_cons.mpr ⟨List.mem_cons_self, List.forall_mem_cons.mpr ⟨(List.mem_cons_of_mem _ List.mem_cons_self), List.forall_mem_cons.mpr ⟨(List.mem_cons_of_mem _ (List.mem_cons_of_mem _ List.mem_cons_self)), List.forall_mem_cons.mpr ⟨(List.mem_cons_of_mem _ (List.mem_cons_of_mem _ (List.mem_cons_of_mem _ List.mem_cons_self))), List.forall_mem_cons.mpr ⟨(List.mem_cons_of_mem _ (List.mem_cons_of_mem _ (List.mem_cons_of_mem _ (List.mem_cons_of_mem _ List.mem_cons_self)))), List.forall_mem_cons.mpr ⟨(List.mem_cons_of_mem _ (List.mem_cons_of_mem _ (List.mem_cons_of_mem _ (List.mem_cons_of_mem _ (List.mem_cons_of_mem _ List.mem_cons_self))))), List.forall_mem_cons.mpr ⟨(List.mem_cons_of_mem _ (List.mem_cons_of_mem _ (List.mem_cons_of_mem _ (List.mem_cons_of_mem _ (List.mem_cons_of_mem _ (List.mem_cons_of_mem _ List.mem_cons_self)))))), List.forall_mem_cons.mpr ⟨(List.mem_cons_of_mem _ (List.mem_cons_of_mem _ (List.mem_cons_of_mem _ (List.mem_cons_of_mem _ (List.mem_cons_of_mem _ (List.mem_cons_of_mem _ (List.mem_cons_of_mem _ List.mem_cons_self))))))), List.forall_mem_nil _⟩⟩⟩⟩⟩⟩⟩⟩) (List.forall_mem_cons.mpr ⟨Or.inl (by simp), List.forall_mem_nil _⟩)
  obtain ⟨ma_28, F_m9, mk_29, xq_30⟩ := xp_26
  obtain ⟨m_31, m_32, m_33, m_34, m_35⟩ := mk_29
  exact W.iret (v := r_21) hx hb hr (fun t9 ht hW => ⟨r_21, h_22, rfl, ⟨hT, hkf, ⟨(0 : Int32), ma_28, F_m9, ⟨m_31, m_32, (by omega), ⟨by omega, by omega⟩, ⟨by omega, by omega⟩⟩, xq_30⟩⟩, by rw [ht]; exact hH, by rw [ht]; exact hz⟩) hLo d_Mo_file_23

set_option maxHeartbeats 4000000 in
set_option maxRecDepth 100000 in
theorem m_replace (l : Launch) (D : va_G) (t : Nat → ClassId) (G : hG) (ak av : Nat → Nat) (h : hM) (τ : tM) (n : Nat) (m9 : Nat) (k9 : Int32) (sz9 : Int32) (sd9 : Int32) (A : Nat → Nat) (th sd lo le wr ma nu di pl se wg op : Int32) (hn : n ≤ 200) (hT : TI τ t n h) (T_m9 : τ m9 = (20, 0)) (F_m9 : h m9 = some (.inr (9, mf A n th sd lo le wr ma nu di pl se wg op))) (hA : ∀ i, i < 28 → τ (A i) = (30, i)) (hmk : mOk sd lo ma se op) (hTm : treeM (aI h (A 4)) (aI h (A 6)) ma.toInt.toNat) (hEx : exM (aI h (A 4)) (aI h (A 5)) (aI h (A 8)) (aI h (A 10)) (aI h (A 11)) ma.toInt.toNat n) : Met l y_Mo_replace (.code y_Mo_replace b_Mo_replace 4 (some .int) :: lw_g) { frames := 2, cells := 0, slots := 0, locals := 43 } (hP (kE D t G ak av) D vwCl G h [.ref m9, .int k9, .int sz9, .int sd9]) (hQi D vwCl G (fun r h' => TI τ t n h' ∧ kf τ [(30, 8), (30, 9), (30, 10), (30, 11)] [m9] h h' ∧ (∃ (th' : Int32), h' m9 = some (.inr (9, mf A n th' sd lo le wr ma nu di pl se wg op)) ∧ mOk sd lo ma se op ∧ (treeM (aI h' (A 4)) (aI h' (A 6)) ma.toInt.toNat ∧ exM (aI h' (A 4)) (aI h' (A 5)) (aI h' (A 8)) (aI h' (A 10)) (aI h' (A 11)) ma.toInt.toNat n)))) 0 0 G.P := by
  refine Met.ofW (cc := b_Mo_replace) (maxL := 4) (ret := (some .int)) (by decide) rfl ?_
  intro p e s m args below meth c s₁ Bd hml hv
  obtain ⟨ha, hE, hH⟩ := hv
  have hx := Bd.exec
  have hb := Bd.bytes
  have hr := Bd.returns
  have hts : ∀ w ∈ lw_g, w.before args s = true := fun w hw => atoms_spec (ws := (.code y_Mo_replace b_Mo_replace 4 (some .int) :: lw_g)) Bd.pre w (List.mem_cons_of_mem _ hw)
  have hown : s.vm.findClass R_Mo = some m.cls := findClass_of_methodNamed Bd.named
  have hlocks := Bd.notSynchronized
  have hK := hE.1
  have hH0 := hH
  have hLo : hLc G.P [] := hLc_nil
  have hz : s.heap.size ≤ s.heap.size := Nat.le_refl _
  have hl := lv_entry [.ref m9, .int k9, .int sz9, .int sd9] (n := 4) (Nat.le_of_ble_eq_true rfl)
  rw [show entryFrame m args 4 = F0 m 0 ((lg_sl [.ref m9, .int k9, .int sz9, .int sd9] ++ List.replicate (4 - (lg_sl [.ref m9, .int k9, .int sz9, .int sd9]).length) Slot.unset).toArray) [] from (by rw [ha]; exact lg_entry_eq m [.ref m9, .int k9, .int sz9, .int sd9] 4)]
  generalize (lg_sl [.ref m9, .int k9, .int sz9, .int sd9] ++ List.replicate (4 - (lg_sl [.ref m9, .int k9, .int sz9, .int sd9]).length) Slot.unset).toArray = ls at hl ⊢
  have hl : lv_has ls 4 [(0, .ref m9), (1, .int k9), (2, .int sz9), (3, .int sd9)] := hl
  have hkf : kf τ [(30, 8), (30, 9), (30, 10), (30, 11)] [m9] h h := kf_rf
  obtain ⟨hsd, hlo, hma, hse, hop⟩ := id hmk
  have inI : (nI n).toInt = n := nI_toInt (by omega)
  obtain ⟨g_1, F_A4, c_2⟩ := TI_arZ (L := 700) hT (hA 4 (by decide)) rfl rfl
  obtain ⟨g_3, F_A5, c_4⟩ := TI_arZ (L := 700) hT (hA 5 (by decide)) rfl rfl
  obtain ⟨g_5, F_A6⟩ := TI_arI (L := 700) hT (hA 6 (by decide)) rfl rfl
  obtain ⟨g_6, F_A8⟩ := TI_arI (L := 700) hT (hA 8 (by decide)) rfl rfl
  obtain ⟨g_7, F_A10, c_8⟩ := TI_arZ (L := 700) hT (hA 10 (by decide)) rfl rfl
  obtain ⟨g_9, F_A11⟩ := TI_arI (L := 700) hT (hA 11 (by decide)) rfl rfl
  rw [aI_of F_A4, aI_of F_A6] at hTm
  rw [aI_of F_A4, aI_of F_A5, aI_of F_A8, aI_of F_A10, aI_of F_A11] at hEx
  refine lv_aload_n hx hb d_Mo_replace_0 rfl (lv_at hl 0 rfl) ?_
  refine lv_iconst (v := 0) hx hb d_Mo_replace_1 (by decide) ?_
  refine hm_put (ci := 9) (v := .int 0) (ty := .int) (C := R_Mo) (T := F_Mo) (N := 41) hx hb hts ig_Mo t_Mo tk_Mo nm_Mo hown hK hH hLo F_m9 rfl 0 (by decide) (hts _ mw_594) (fun _ h9 => h9) rfl (by decide +kernel) rfl rfl (Nat.le_of_ble_eq_true rfl) d_Mo_replace_2 (fun H_10 locs hH z_11 hLo => ?_)
  have hz : s.heap.size ≤ H_10.size := by rw [z_11]; exact hz
  obtain ⟨h_12, e_13⟩ : ∃ z, z = hu h m9 (.inr (9, mf A n 0 sd lo le wr ma nu di pl se wg op)) := ⟨_, rfl⟩
  have hH : hm D vwCl G h_12 H_10 := by rw [e_13]; exact hH
  have F_A4 : h_12 (A 4) = some (.inl ((t 1), 700, .inl g_1)) := by rw [e_13, hu_n (tne (hA 4 (by decide)) T_m9 (by decide))]; exact F_A4
  have F_A5 : h_12 (A 5) = some (.inl ((t 1), 700, .inl g_3)) := by rw [e_13, hu_n (tne (hA 5 (by decide)) T_m9 (by decide))]; exact F_A5
  have F_A6 : h_12 (A 6) = some (.inl ((t 2), 700, .inl g_5)) := by rw [e_13, hu_n (tne (hA 6 (by decide)) T_m9 (by decide))]; exact F_A6
  have F_A8 : h_12 (A 8) = some (.inl ((t 2), 700, .inl g_6)) := by rw [e_13, hu_n (tne (hA 8 (by decide)) T_m9 (by decide))]; exact F_A8
  have F_A10 : h_12 (A 10) = some (.inl ((t 1), 700, .inl g_7)) := by rw [e_13, hu_n (tne (hA 10 (by decide)) T_m9 (by decide))]; exact F_A10
  have F_A11 : h_12 (A 11) = some (.inl ((t 2), 700, .inl g_9)) := by rw [e_13, hu_n (tne (hA 11 (by decide)) T_m9 (by decide))]; exact F_A11
  have F_m9 : h_12 m9 = some (.inr (9, mf A n 0 sd lo le wr ma nu di pl se wg op)) := by rw [e_13]; exact hu_s _ _ _
  have hT : TI τ t n h_12 := by rw [e_13]; exact TI_put hT T_m9 (by decide) ⟨_, rfl⟩
  have hkf : kf τ [(30, 8), (30, 9), (30, 10), (30, 11)] [m9] h h_12 := by rw [e_13]; exact kf_putM hkf (by simp)
  refine lv_aload_n hx hb d_Mo_replace_5 rfl (lv_at hl 0 rfl) ?_
  refine hm_get (ci := 9) (v := .int lo) (C := R_Mo) (T := F_Mo) (N := 41) hx hb hts ig_Mo hown hK hH F_m9 rfl 6 (by decide) (hts _ mw_593) (fun _ h9 => h9) rfl d_Mo_replace_6 ?_
  refine lv_if_eq (tgt := 15) hx hb d_Mo_replace_9 (by decide) (fun hc_14 => ?_) (fun hc_14 => ?_)
  · skip
    have ic_15 : lo.toInt = 0 := congrArg Int32.toInt hc_14
    refine lv_aload_n hx hb d_Mo_replace_15 rfl (lv_at hl 0 rfl) ?_
    refine lv_iload_n hx hb d_Mo_replace_16 rfl (lv_at hl 1 rfl) ?_
    refine hm_callPi (va_runV (As := [.int k9]) (b := m9) (rest := []) ⟨hx, hb, hml, hown, hts⟩ (m_isNode l D t G ak av h_12 τ n m9 k9 A (0 : Int32) sd lo le wr ma nu di pl se wg op   hn hT T_m9  F_m9 hA ⟨hsd, hlo, (by omega), ⟨by omega, by omega⟩, ⟨by omega, by omega⟩⟩ ) ⟨cw9B 1 hts mw_602 mw_603 mw_579 rfl rfl (by decide +kernel) ⟨Nat.le_of_ble_eq_true rfl, Nat.le_of_ble_eq_true rfl⟩, hts _ mw_604, hts _ mw_605⟩ (hP_V (q := (R_Mo, F_Mo, 41)) kE_ok hE hK hH F_m9 rfl) rfl rfl hl.1 rfl (lv_room (Nat.le_of_ble_eq_true rfl)) d_Mo_replace_17 ⟨Nat.le_of_ble_eq_true rfl, Nat.le_of_ble_eq_true rfl⟩) (fun r_16 h_17 H_18 hp_20  hH z_19 => ?_)
    have hz : s.heap.size ≤ H_18.size := Nat.le_trans hz z_19
    obtain ⟨c_21, xp_22, rfl⟩ := hp_20
    rcases c_21 with rfl | rfl
    · skip
      refine lv_if_eq (tgt := 40) hx hb d_Mo_replace_20 (by decide) (fun hc_23 => ?_) (fun hc_23 => absurd hc_23 (by decide))
      refine lv_bipush (v := -2) hx hb d_Mo_replace_40 (by decide) ?_
      exact W.iret (v := (-2)) hx hb hr (fun t9 ht hW => ⟨(-2), h_12, rfl, ⟨hT, hkf, ⟨(0 : Int32), F_m9, ⟨hsd, hlo, (by omega), ⟨by omega, by omega⟩, ⟨by omega, by omega⟩⟩, ⟨by rw [aI_of F_A4, aI_of F_A6]; exact hTm, by rw [aI_of F_A4, aI_of F_A5, aI_of F_A8, aI_of F_A10, aI_of F_A11]; exact hEx⟩⟩⟩, by rw [ht]; exact hH, by rw [ht]; exact hz⟩) hLo d_Mo_replace_42
    · skip
      obtain ⟨in1, in2, in3⟩ := xp_22 rfl
      rw [aI_of F_A4] at in3
      refine lv_if_eq (tgt := 40) hx hb d_Mo_replace_20 (by decide) (fun hc_24 => absurd hc_24 (by decide)) (fun hc_24 => ?_)
      refine lv_aload_n hx hb d_Mo_replace_23 rfl (lv_at hl 0 rfl) ?_
      refine hm_get (ci := 9) (v := .ref (A 5)) (C := R_Mo) (T := F_Mo) (N := 41) hx hb hts ig_Mo hown hK hH F_m9 rfl 12 (by decide) (hts _ mw_606) (fun _ h9 => h9) rfl d_Mo_replace_24 ?_
      refine lv_iload_n hx hb d_Mo_replace_27 rfl (lv_at hl 1 rfl) ?_
      refine hm_zald hx hb hK hH 1 F_A5 rfl (iIn (by omega) (by omega)) d_Mo_replace_28 ?_
      refine lv_topi (fun v_25 e_26 => ?_)
      have c_27 : zb v_25 := by rw [e_26]; exact c_4 _
      refine lv_if_ne (tgt := 40) hx hb d_Mo_replace_29 (by decide) (fun hc_28 => ?_) (fun hc_28 => ?_)
      · skip
        refine lv_bipush (v := -2) hx hb d_Mo_replace_40 (by decide) ?_
        exact W.iret (v := (-2)) hx hb hr (fun t9 ht hW => ⟨(-2), h_12, rfl, ⟨hT, hkf, ⟨(0 : Int32), F_m9, ⟨hsd, hlo, (by omega), ⟨by omega, by omega⟩, ⟨by omega, by omega⟩⟩, ⟨by rw [aI_of F_A4, aI_of F_A6]; exact hTm, by rw [aI_of F_A4, aI_of F_A5, aI_of F_A8, aI_of F_A10, aI_of F_A11]; exact hEx⟩⟩⟩, by rw [ht]; exact hH, by rw [ht]; exact hz⟩) hLo d_Mo_replace_42
      · skip
        have ic_29 : v_25.toInt = 0 := congrArg Int32.toInt hc_28
        refine lv_iload_n hx hb d_Mo_replace_32 rfl (lv_at hl 2 rfl) ?_
        refine lv_iload_n hx hb d_Mo_replace_33 rfl (lv_at hl 3 rfl) ?_
        refine hm_callPi (va_runS (As := [.int sz9, .int sd9]) (rest := []) ⟨hx, hb, hml, hown, hts⟩ (m_content l D t G ak av h_12 τ n sz9 sd9    hn hT    ) ⟨cw9B 2 hts mw_627 mw_628 mw_579 rfl rfl (by decide +kernel) ⟨Nat.le_of_ble_eq_true rfl, Nat.le_of_ble_eq_true rfl⟩, hts _ mw_629⟩ (hP_S kE_ok hE hH) rfl rfl hl.1 rfl (lv_room (Nat.le_of_ble_eq_true rfl)) d_Mo_replace_34 ⟨Nat.le_of_ble_eq_true rfl, Nat.le_of_ble_eq_true rfl⟩) (fun r_30 h_31 H_32 hp_34  hH z_33 => ?_)
        have hz : s.heap.size ≤ H_32.size := Nat.le_trans hz z_33
        obtain ⟨c_35, xp_36, rfl⟩ := hp_34
        rcases c_35 with rfl | rfl
        · skip
          refine lv_if_ne (tgt := 43) hx hb d_Mo_replace_37 (by decide) (fun hc_37 => absurd hc_37 (by decide)) (fun hc_37 => ?_)
          refine lv_bipush (v := -2) hx hb d_Mo_replace_40 (by decide) ?_
          exact W.iret (v := (-2)) hx hb hr (fun t9 ht hW => ⟨(-2), h_12, rfl, ⟨hT, hkf, ⟨(0 : Int32), F_m9, ⟨hsd, hlo, (by omega), ⟨by omega, by omega⟩, ⟨by omega, by omega⟩⟩, ⟨by rw [aI_of F_A4, aI_of F_A6]; exact hTm, by rw [aI_of F_A4, aI_of F_A5, aI_of F_A8, aI_of F_A10, aI_of F_A11]; exact hEx⟩⟩⟩, by rw [ht]; exact hH, by rw [ht]; exact hz⟩) hLo d_Mo_replace_42
        · skip
          have hcz9 := xp_36 rfl
          refine lv_if_ne (tgt := 43) hx hb d_Mo_replace_37 (by decide) (fun hc_38 => ?_) (fun hc_38 => absurd hc_38 (by decide))
          refine lv_aload_n hx hb d_Mo_replace_43 rfl (lv_at hl 0 rfl) ?_
          refine hm_get (ci := 9) (v := .ref (A 8)) (C := R_Mo) (T := F_Mo) (N := 41) hx hb hts ig_Mo hown hK hH F_m9 rfl 15 (by decide) (hts _ mw_615) (fun _ h9 => h9) rfl d_Mo_replace_44 ?_
          refine lv_iload_n hx hb d_Mo_replace_47 rfl (lv_at hl 1 rfl) ?_
          refine lv_iload_n hx hb d_Mo_replace_48 rfl (lv_at hl 2 rfl) ?_
          refine hm_iast hx hb hK hH hLo 2 F_A8 rfl (iIn (by omega) (by omega)) d_Mo_replace_49 (fun H_39 locs hH z_40 hLo => ?_)
          have hz : s.heap.size ≤ H_39.size := by rw [z_40]; exact hz
          obtain ⟨h_41, e_42⟩ : ∃ z, z = hu h_12 (A 8) (.inl ((t 2), 700, .inl (upd g_6 k9.toNatClampNeg sz9))) := ⟨_, rfl⟩
          have hH : hm D vwCl G h_41 H_39 := by rw [e_42]; exact hH
          have F_m9 : h_41 m9 = some (.inr (9, mf A n 0 sd lo le wr ma nu di pl se wg op)) := by rw [e_42, hu_n (tne T_m9 (hA 8 (by decide)) (by decide))]; exact F_m9
          have F_A4 : h_41 (A 4) = some (.inl ((t 1), 700, .inl g_1)) := by rw [e_42, hu_n (tneF (hA 4 (by decide)) (hA 8 (by decide)) (by decide))]; exact F_A4
          have F_A5 : h_41 (A 5) = some (.inl ((t 1), 700, .inl g_3)) := by rw [e_42, hu_n (tneF (hA 5 (by decide)) (hA 8 (by decide)) (by decide))]; exact F_A5
          have F_A6 : h_41 (A 6) = some (.inl ((t 2), 700, .inl g_5)) := by rw [e_42, hu_n (tneF (hA 6 (by decide)) (hA 8 (by decide)) (by decide))]; exact F_A6
          have F_A10 : h_41 (A 10) = some (.inl ((t 1), 700, .inl g_7)) := by rw [e_42, hu_n (tneF (hA 10 (by decide)) (hA 8 (by decide)) (by decide))]; exact F_A10
          have F_A11 : h_41 (A 11) = some (.inl ((t 2), 700, .inl g_9)) := by rw [e_42, hu_n (tneF (hA 11 (by decide)) (hA 8 (by decide)) (by decide))]; exact F_A11
          have F_A8 : h_41 (A 8) = some (.inl ((t 2), 700, .inl (upd g_6 k9.toNatClampNeg sz9))) := by rw [e_42]; exact hu_s _ _ _
          have hT : TI τ t n h_41 := by rw [e_42]; exact TI_put hT (hA 8 (by decide)) (by decide) (ok_I rfl rfl)
          have hkf : kf τ [(30, 8), (30, 9), (30, 10), (30, 11)] [m9] h h_41 := by rw [e_42]; exact kf_put hkf (hA 8 (by decide)) List.mem_cons_self
          obtain ⟨g_43, e_44⟩ : ∃ z, z = upd g_6 k9.toNatClampNeg sz9 := ⟨_, rfl⟩
          rw [← e_44] at F_A8
          refine lv_aload_n hx hb d_Mo_replace_50 rfl (lv_at hl 0 rfl) ?_
          refine hm_get (ci := 9) (v := .ref (A 9)) (C := R_Mo) (T := F_Mo) (N := 41) hx hb hts ig_Mo hown hK hH F_m9 rfl 16 (by decide) (hts _ mw_616) (fun _ h9 => h9) rfl d_Mo_replace_51 ?_
          refine lv_iload_n hx hb d_Mo_replace_54 rfl (lv_at hl 1 rfl) ?_
          refine lv_iload_n hx hb d_Mo_replace_55 rfl (lv_at hl 3 rfl) ?_
          obtain ⟨g_45, F_A9⟩ := TI_arI (L := 700) hT (hA 9 (by decide)) rfl rfl
          refine hm_iast hx hb hK hH hLo 2 F_A9 rfl (iIn (by omega) (by omega)) d_Mo_replace_56 (fun H_46 locs hH z_47 hLo => ?_)
          have hz : s.heap.size ≤ H_46.size := by rw [z_47]; exact hz
          obtain ⟨h_48, e_49⟩ : ∃ z, z = hu h_41 (A 9) (.inl ((t 2), 700, .inl (upd g_45 k9.toNatClampNeg sd9))) := ⟨_, rfl⟩
          have hH : hm D vwCl G h_48 H_46 := by rw [e_49]; exact hH
          have F_m9 : h_48 m9 = some (.inr (9, mf A n 0 sd lo le wr ma nu di pl se wg op)) := by rw [e_49, hu_n (tne T_m9 (hA 9 (by decide)) (by decide))]; exact F_m9
          have F_A4 : h_48 (A 4) = some (.inl ((t 1), 700, .inl g_1)) := by rw [e_49, hu_n (tneF (hA 4 (by decide)) (hA 9 (by decide)) (by decide))]; exact F_A4
          have F_A5 : h_48 (A 5) = some (.inl ((t 1), 700, .inl g_3)) := by rw [e_49, hu_n (tneF (hA 5 (by decide)) (hA 9 (by decide)) (by decide))]; exact F_A5
          have F_A6 : h_48 (A 6) = some (.inl ((t 2), 700, .inl g_5)) := by rw [e_49, hu_n (tneF (hA 6 (by decide)) (hA 9 (by decide)) (by decide))]; exact F_A6
          have F_A8 : h_48 (A 8) = some (.inl ((t 2), 700, .inl g_43)) := by rw [e_49, hu_n (tneF (hA 8 (by decide)) (hA 9 (by decide)) (by decide))]; exact F_A8
          have F_A10 : h_48 (A 10) = some (.inl ((t 1), 700, .inl g_7)) := by rw [e_49, hu_n (tneF (hA 10 (by decide)) (hA 9 (by decide)) (by decide))]; exact F_A10
          have F_A11 : h_48 (A 11) = some (.inl ((t 2), 700, .inl g_9)) := by rw [e_49, hu_n (tneF (hA 11 (by decide)) (hA 9 (by decide)) (by decide))]; exact F_A11
          have F_A9 : h_48 (A 9) = some (.inl ((t 2), 700, .inl (upd g_45 k9.toNatClampNeg sd9))) := by rw [e_49]; exact hu_s _ _ _
          have hT : TI τ t n h_48 := by rw [e_49]; exact TI_put hT (hA 9 (by decide)) (by decide) (ok_I rfl rfl)
          have hkf : kf τ [(30, 8), (30, 9), (30, 10), (30, 11)] [m9] h h_48 := by rw [e_49]; exact kf_put hkf (hA 9 (by decide)) (List.mem_cons_of_mem _ List.mem_cons_self)
          obtain ⟨g_50, e_51⟩ : ∃ z, z = upd g_45 k9.toNatClampNeg sd9 := ⟨_, rfl⟩
          rw [← e_51] at F_A9
          refine lv_aload_n hx hb d_Mo_replace_57 rfl (lv_at hl 0 rfl) ?_
          refine hm_get (ci := 9) (v := .ref (A 10)) (C := R_Mo) (T := F_Mo) (N := 41) hx hb hts ig_Mo hown hK hH F_m9 rfl 17 (by decide) (hts _ mw_617) (fun _ h9 => h9) rfl d_Mo_replace_58 ?_
          refine lv_iload_n hx hb d_Mo_replace_61 rfl (lv_at hl 1 rfl) ?_
          refine lv_iconst (v := 0) hx hb d_Mo_replace_62 (by decide) ?_
          refine hm_zast hx hb hK hH hLo 1 F_A10 rfl (iIn (by omega) (by omega)) d_Mo_replace_63 (fun H_52 locs hH z_53 hLo => ?_)
          have hz : s.heap.size ≤ H_52.size := by rw [z_53]; exact hz
          rw [zb_nar (v := 0) zb0] at hH
          obtain ⟨h_54, e_55⟩ : ∃ z, z = hu h_48 (A 10) (.inl ((t 1), 700, .inl (upd g_7 k9.toNatClampNeg (0 : Int32)))) := ⟨_, rfl⟩
          have hH : hm D vwCl G h_54 H_52 := by rw [e_55]; exact hH
          have F_m9 : h_54 m9 = some (.inr (9, mf A n 0 sd lo le wr ma nu di pl se wg op)) := by rw [e_55, hu_n (tne T_m9 (hA 10 (by decide)) (by decide))]; exact F_m9
          have F_A4 : h_54 (A 4) = some (.inl ((t 1), 700, .inl g_1)) := by rw [e_55, hu_n (tneF (hA 4 (by decide)) (hA 10 (by decide)) (by decide))]; exact F_A4
          have F_A5 : h_54 (A 5) = some (.inl ((t 1), 700, .inl g_3)) := by rw [e_55, hu_n (tneF (hA 5 (by decide)) (hA 10 (by decide)) (by decide))]; exact F_A5
          have F_A6 : h_54 (A 6) = some (.inl ((t 2), 700, .inl g_5)) := by rw [e_55, hu_n (tneF (hA 6 (by decide)) (hA 10 (by decide)) (by decide))]; exact F_A6
          have F_A8 : h_54 (A 8) = some (.inl ((t 2), 700, .inl g_43)) := by rw [e_55, hu_n (tneF (hA 8 (by decide)) (hA 10 (by decide)) (by decide))]; exact F_A8
          have F_A11 : h_54 (A 11) = some (.inl ((t 2), 700, .inl g_9)) := by rw [e_55, hu_n (tneF (hA 11 (by decide)) (hA 10 (by decide)) (by decide))]; exact F_A11
          have F_A9 : h_54 (A 9) = some (.inl ((t 2), 700, .inl g_50)) := by rw [e_55, hu_n (tneF (hA 9 (by decide)) (hA 10 (by decide)) (by decide))]; exact F_A9
          have F_A10 : h_54 (A 10) = some (.inl ((t 1), 700, .inl (upd g_7 k9.toNatClampNeg (0 : Int32)))) := by rw [e_55]; exact hu_s _ _ _
          have hT : TI τ t n h_54 := by rw [e_55]; exact TI_put hT (hA 10 (by decide)) (by decide) (ok_Z rfl rfl (zbF_up c_8 zb0))
          have hkf : kf τ [(30, 8), (30, 9), (30, 10), (30, 11)] [m9] h h_54 := by rw [e_55]; exact kf_put hkf (hA 10 (by decide)) (List.mem_cons_of_mem _ (List.mem_cons_of_mem _ List.mem_cons_self))
          obtain ⟨g_56, e_57⟩ : ∃ z, z = upd g_7 k9.toNatClampNeg (0 : Int32) := ⟨_, rfl⟩
          rw [← e_57] at F_A10
          have c_58 : zbF g_56 := by rw [e_57]; exact (zbF_up c_8 zb0)
          refine lv_aload_n hx hb d_Mo_replace_64 rfl (lv_at hl 0 rfl) ?_
          refine hm_get (ci := 9) (v := .ref (A 11)) (C := R_Mo) (T := F_Mo) (N := 41) hx hb hts ig_Mo hown hK hH F_m9 rfl 18 (by decide) (hts _ mw_618) (fun _ h9 => h9) rfl d_Mo_replace_65 ?_
          refine lv_iload_n hx hb d_Mo_replace_68 rfl (lv_at hl 1 rfl) ?_
          refine lv_iconst (v := 0) hx hb d_Mo_replace_69 (by decide) ?_
          refine hm_iast hx hb hK hH hLo 2 F_A11 rfl (iIn (by omega) (by omega)) d_Mo_replace_70 (fun H_59 locs hH z_60 hLo => ?_)
          have hz : s.heap.size ≤ H_59.size := by rw [z_60]; exact hz
          obtain ⟨h_61, e_62⟩ : ∃ z, z = hu h_54 (A 11) (.inl ((t 2), 700, .inl (upd g_9 k9.toNatClampNeg (0 : Int32)))) := ⟨_, rfl⟩
          have hH : hm D vwCl G h_61 H_59 := by rw [e_62]; exact hH
          have F_m9 : h_61 m9 = some (.inr (9, mf A n 0 sd lo le wr ma nu di pl se wg op)) := by rw [e_62, hu_n (tne T_m9 (hA 11 (by decide)) (by decide))]; exact F_m9
          have F_A4 : h_61 (A 4) = some (.inl ((t 1), 700, .inl g_1)) := by rw [e_62, hu_n (tneF (hA 4 (by decide)) (hA 11 (by decide)) (by decide))]; exact F_A4
          have F_A5 : h_61 (A 5) = some (.inl ((t 1), 700, .inl g_3)) := by rw [e_62, hu_n (tneF (hA 5 (by decide)) (hA 11 (by decide)) (by decide))]; exact F_A5
          have F_A6 : h_61 (A 6) = some (.inl ((t 2), 700, .inl g_5)) := by rw [e_62, hu_n (tneF (hA 6 (by decide)) (hA 11 (by decide)) (by decide))]; exact F_A6
          have F_A8 : h_61 (A 8) = some (.inl ((t 2), 700, .inl g_43)) := by rw [e_62, hu_n (tneF (hA 8 (by decide)) (hA 11 (by decide)) (by decide))]; exact F_A8
          have F_A10 : h_61 (A 10) = some (.inl ((t 1), 700, .inl g_56)) := by rw [e_62, hu_n (tneF (hA 10 (by decide)) (hA 11 (by decide)) (by decide))]; exact F_A10
          have F_A9 : h_61 (A 9) = some (.inl ((t 2), 700, .inl g_50)) := by rw [e_62, hu_n (tneF (hA 9 (by decide)) (hA 11 (by decide)) (by decide))]; exact F_A9
          have F_A11 : h_61 (A 11) = some (.inl ((t 2), 700, .inl (upd g_9 k9.toNatClampNeg (0 : Int32)))) := by rw [e_62]; exact hu_s _ _ _
          have hT : TI τ t n h_61 := by rw [e_62]; exact TI_put hT (hA 11 (by decide)) (by decide) (ok_I rfl rfl)
          have hkf : kf τ [(30, 8), (30, 9), (30, 10), (30, 11)] [m9] h h_61 := by rw [e_62]; exact kf_put hkf (hA 11 (by decide)) (List.mem_cons_of_mem _ (List.mem_cons_of_mem _ (List.mem_cons_of_mem _ List.mem_cons_self)))
          obtain ⟨g_63, e_64⟩ : ∃ z, z = upd g_9 k9.toNatClampNeg (0 : Int32) := ⟨_, rfl⟩
          rw [← e_64] at F_A11
          refine lv_iconst (v := 0) hx hb d_Mo_replace_71 (by decide) ?_
          exact W.iret (v := 0) hx hb hr (fun t9 ht hW => ⟨0, h_61, rfl, ⟨hT, hkf, ⟨(0 : Int32), F_m9, ⟨hsd, hlo, (by omega), ⟨by omega, by omega⟩, ⟨by omega, by omega⟩⟩, ⟨by rw [aI_of F_A4, aI_of F_A6]; exact hTm, by rw [aI_of F_A4, aI_of F_A5, aI_of F_A8, aI_of F_A10, aI_of F_A11]; exact (by rw [e_44, e_57, e_64, clN]; exact exM_put hEx hcz9)⟩⟩⟩, by rw [ht]; exact hH, by rw [ht]; exact hz⟩) hLo d_Mo_replace_72
  · skip
    refine lv_bipush (v := -4) hx hb d_Mo_replace_12 (by decide) ?_
    exact W.iret (v := (-4)) hx hb hr (fun t9 ht hW => ⟨(-4), h_12, rfl, ⟨hT, hkf, ⟨(0 : Int32), F_m9, ⟨hsd, hlo, (by omega), ⟨by omega, by omega⟩, ⟨by omega, by omega⟩⟩, ⟨by rw [aI_of F_A4, aI_of F_A6]; exact hTm, by rw [aI_of F_A4, aI_of F_A5, aI_of F_A8, aI_of F_A10, aI_of F_A11]; exact hEx⟩⟩⟩, by rw [ht]; exact hH, by rw [ht]; exact hz⟩) hLo d_Mo_replace_14

set_option maxHeartbeats 4000000 in
set_option maxRecDepth 100000 in
theorem m_remove (l : Launch) (D : va_G) (t : Nat → ClassId) (G : hG) (ak av : Nat → Nat) (h : hM) (τ : tM) (n : Nat) (m9 : Nat) (k9 : Int32) (A : Nat → Nat) (th sd lo le wr ma nu di pl se wg op : Int32) (hn : n ≤ 200) (hT : TI τ t n h) (T_m9 : τ m9 = (20, 0)) (F_m9 : h m9 = some (.inr (9, mf A n th sd lo le wr ma nu di pl se wg op))) (hA : ∀ i, i < 28 → τ (A i) = (30, i)) (hmk : mOk sd lo ma se op) (hTm : treeM (aI h (A 4)) (aI h (A 6)) ma.toInt.toNat) (hEx : exM (aI h (A 4)) (aI h (A 5)) (aI h (A 8)) (aI h (A 10)) (aI h (A 11)) ma.toInt.toNat n) : Met l y_Mo_remove (.code y_Mo_remove b_Mo_remove 3 (some .int) :: lw_g) { frames := 1, cells := 0, slots := 0, locals := 21 } (hP (kE D t G ak av) D vwCl G h [.ref m9, .int k9]) (hQi D vwCl G (fun r h' => TI τ t n h' ∧ kf τ [(30, 4)] [m9] h h' ∧ (∃ (th' : Int32), h' m9 = some (.inr (9, mf A n th' sd lo le wr ma nu di pl se wg op)) ∧ mOk sd lo ma se op ∧ (treeM (aI h' (A 4)) (aI h' (A 6)) ma.toInt.toNat ∧ exM (aI h' (A 4)) (aI h' (A 5)) (aI h' (A 8)) (aI h' (A 10)) (aI h' (A 11)) ma.toInt.toNat n)))) 0 0 G.P := by
  refine Met.ofW (cc := b_Mo_remove) (maxL := 3) (ret := (some .int)) (by decide) rfl ?_
  intro p e s m args below meth c s₁ Bd hml hv
  obtain ⟨ha, hE, hH⟩ := hv
  have hx := Bd.exec
  have hb := Bd.bytes
  have hr := Bd.returns
  have hts : ∀ w ∈ lw_g, w.before args s = true := fun w hw => atoms_spec (ws := (.code y_Mo_remove b_Mo_remove 3 (some .int) :: lw_g)) Bd.pre w (List.mem_cons_of_mem _ hw)
  have hown : s.vm.findClass R_Mo = some m.cls := findClass_of_methodNamed Bd.named
  have hlocks := Bd.notSynchronized
  have hK := hE.1
  have hH0 := hH
  have hLo : hLc G.P [] := hLc_nil
  have hz : s.heap.size ≤ s.heap.size := Nat.le_refl _
  have hl := lv_entry [.ref m9, .int k9] (n := 3) (Nat.le_of_ble_eq_true rfl)
  rw [show entryFrame m args 3 = F0 m 0 ((lg_sl [.ref m9, .int k9] ++ List.replicate (3 - (lg_sl [.ref m9, .int k9]).length) Slot.unset).toArray) [] from (by rw [ha]; exact lg_entry_eq m [.ref m9, .int k9] 3)]
  generalize (lg_sl [.ref m9, .int k9] ++ List.replicate (3 - (lg_sl [.ref m9, .int k9]).length) Slot.unset).toArray = ls at hl ⊢
  have hl : lv_has ls 3 [(0, .ref m9), (1, .int k9)] := hl
  have hkf : kf τ [(30, 4)] [m9] h h := kf_rf
  obtain ⟨hsd, hlo, hma, hse, hop⟩ := id hmk
  have inI : (nI n).toInt = n := nI_toInt (by omega)
  obtain ⟨g_1, F_A4, c_2⟩ := TI_arZ (L := 700) hT (hA 4 (by decide)) rfl rfl
  obtain ⟨g_3, F_A5, c_4⟩ := TI_arZ (L := 700) hT (hA 5 (by decide)) rfl rfl
  obtain ⟨g_5, F_A6⟩ := TI_arI (L := 700) hT (hA 6 (by decide)) rfl rfl
  obtain ⟨g_6, F_A8⟩ := TI_arI (L := 700) hT (hA 8 (by decide)) rfl rfl
  obtain ⟨g_7, F_A10, c_8⟩ := TI_arZ (L := 700) hT (hA 10 (by decide)) rfl rfl
  obtain ⟨g_9, F_A11⟩ := TI_arI (L := 700) hT (hA 11 (by decide)) rfl rfl
  rw [aI_of F_A4, aI_of F_A6] at hTm
  rw [aI_of F_A4, aI_of F_A5, aI_of F_A8, aI_of F_A10, aI_of F_A11] at hEx
  refine lv_aload_n hx hb d_Mo_remove_0 rfl (lv_at hl 0 rfl) ?_
  refine lv_iconst (v := 0) hx hb d_Mo_remove_1 (by decide) ?_
  refine hm_put (ci := 9) (v := .int 0) (ty := .int) (C := R_Mo) (T := F_Mo) (N := 41) hx hb hts ig_Mo t_Mo tk_Mo nm_Mo hown hK hH hLo F_m9 rfl 0 (by decide) (hts _ mw_594) (fun _ h9 => h9) rfl (by decide +kernel) rfl rfl (Nat.le_of_ble_eq_true rfl) d_Mo_remove_2 (fun H_10 locs hH z_11 hLo => ?_)
  have hz : s.heap.size ≤ H_10.size := by rw [z_11]; exact hz
  obtain ⟨h_12, e_13⟩ : ∃ z, z = hu h m9 (.inr (9, mf A n 0 sd lo le wr ma nu di pl se wg op)) := ⟨_, rfl⟩
  have hH : hm D vwCl G h_12 H_10 := by rw [e_13]; exact hH
  have F_A4 : h_12 (A 4) = some (.inl ((t 1), 700, .inl g_1)) := by rw [e_13, hu_n (tne (hA 4 (by decide)) T_m9 (by decide))]; exact F_A4
  have F_A5 : h_12 (A 5) = some (.inl ((t 1), 700, .inl g_3)) := by rw [e_13, hu_n (tne (hA 5 (by decide)) T_m9 (by decide))]; exact F_A5
  have F_A6 : h_12 (A 6) = some (.inl ((t 2), 700, .inl g_5)) := by rw [e_13, hu_n (tne (hA 6 (by decide)) T_m9 (by decide))]; exact F_A6
  have F_A8 : h_12 (A 8) = some (.inl ((t 2), 700, .inl g_6)) := by rw [e_13, hu_n (tne (hA 8 (by decide)) T_m9 (by decide))]; exact F_A8
  have F_A10 : h_12 (A 10) = some (.inl ((t 1), 700, .inl g_7)) := by rw [e_13, hu_n (tne (hA 10 (by decide)) T_m9 (by decide))]; exact F_A10
  have F_A11 : h_12 (A 11) = some (.inl ((t 2), 700, .inl g_9)) := by rw [e_13, hu_n (tne (hA 11 (by decide)) T_m9 (by decide))]; exact F_A11
  have F_m9 : h_12 m9 = some (.inr (9, mf A n 0 sd lo le wr ma nu di pl se wg op)) := by rw [e_13]; exact hu_s _ _ _
  have hT : TI τ t n h_12 := by rw [e_13]; exact TI_put hT T_m9 (by decide) ⟨_, rfl⟩
  have hkf : kf τ [(30, 4)] [m9] h h_12 := by rw [e_13]; exact kf_putM hkf (by simp)
  refine lv_aload_n hx hb d_Mo_remove_5 rfl (lv_at hl 0 rfl) ?_
  refine hm_get (ci := 9) (v := .int lo) (C := R_Mo) (T := F_Mo) (N := 41) hx hb hts ig_Mo hown hK hH F_m9 rfl 6 (by decide) (hts _ mw_593) (fun _ h9 => h9) rfl d_Mo_remove_6 ?_
  refine lv_if_eq (tgt := 15) hx hb d_Mo_remove_9 (by decide) (fun hc_14 => ?_) (fun hc_14 => ?_)
  · skip
    have ic_15 : lo.toInt = 0 := congrArg Int32.toInt hc_14
    refine lv_aload_n hx hb d_Mo_remove_15 rfl (lv_at hl 0 rfl) ?_
    refine lv_iload_n hx hb d_Mo_remove_16 rfl (lv_at hl 1 rfl) ?_
    refine hm_callPi (va_runV (As := [.int k9]) (b := m9) (rest := []) ⟨hx, hb, hml, hown, hts⟩ (m_isNode l D t G ak av h_12 τ n m9 k9 A (0 : Int32) sd lo le wr ma nu di pl se wg op   hn hT T_m9  F_m9 hA ⟨hsd, hlo, (by omega), ⟨by omega, by omega⟩, ⟨by omega, by omega⟩⟩ ) ⟨cw9B 1 hts mw_602 mw_603 mw_579 rfl rfl (by decide +kernel) ⟨Nat.le_of_ble_eq_true rfl, Nat.le_of_ble_eq_true rfl⟩, hts _ mw_604, hts _ mw_605⟩ (hP_V (q := (R_Mo, F_Mo, 41)) kE_ok hE hK hH F_m9 rfl) rfl rfl hl.1 rfl (lv_room (Nat.le_of_ble_eq_true rfl)) d_Mo_remove_17 ⟨Nat.le_of_ble_eq_true rfl, Nat.le_of_ble_eq_true rfl⟩) (fun r_16 h_17 H_18 hp_20  hH z_19 => ?_)
    have hz : s.heap.size ≤ H_18.size := Nat.le_trans hz z_19
    obtain ⟨c_21, xp_22, rfl⟩ := hp_20
    rcases c_21 with rfl | rfl
    · skip
      refine lv_if_eq (tgt := 27) hx hb d_Mo_remove_20 (by decide) (fun hc_23 => ?_) (fun hc_23 => absurd hc_23 (by decide))
      refine lv_bipush (v := -2) hx hb d_Mo_remove_27 (by decide) ?_
      exact W.iret (v := (-2)) hx hb hr (fun t9 ht hW => ⟨(-2), h_12, rfl, ⟨hT, hkf, ⟨(0 : Int32), F_m9, ⟨hsd, hlo, (by omega), ⟨by omega, by omega⟩, ⟨by omega, by omega⟩⟩, ⟨by rw [aI_of F_A4, aI_of F_A6]; exact hTm, by rw [aI_of F_A4, aI_of F_A5, aI_of F_A8, aI_of F_A10, aI_of F_A11]; exact hEx⟩⟩⟩, by rw [ht]; exact hH, by rw [ht]; exact hz⟩) hLo d_Mo_remove_29
    · skip
      obtain ⟨in1, in2, in3⟩ := xp_22 rfl
      rw [aI_of F_A4] at in3
      refine lv_if_eq (tgt := 27) hx hb d_Mo_remove_20 (by decide) (fun hc_24 => absurd hc_24 (by decide)) (fun hc_24 => ?_)
      refine lv_iload_n hx hb d_Mo_remove_23 rfl (lv_at hl 1 rfl) ?_
      refine lv_if_ne (tgt := 30) hx hb d_Mo_remove_24 (by decide) (fun hc_25 => ?_) (fun hc_25 => ?_)
      · skip
        have hk0 := hc_25
        refine lv_iconst (v := 1) hx hb d_Mo_remove_30 (by decide) ?_
        refine lv_istore_n (lv' := [(2, .int 1), (0, .ref m9), (1, .int k9)]) hx hb d_Mo_remove_31 rfl hl (by decide) rfl (fun ls hl => ?_)
        refine hm_loop (fun k32 ls H locs hh32 => ∃ (i9 : Int32), k32 = mU i9 ∧ lv_has ls 3 [(0, .ref m9), (1, .int k9), (2, .int i9)] ∧ hm D vwCl G hh32 H ∧ s.heap.size ≤ H.size ∧ hLc G.P locs ∧ hh32 m9 = some (.inr (9, mf A n 0 sd lo le wr ma nu di pl se wg op)) ∧ hh32 (A 4) = some (.inl ((t 1), 700, .inl g_1)) ∧ hh32 (A 5) = some (.inl ((t 1), 700, .inl g_3)) ∧ hh32 (A 6) = some (.inl ((t 2), 700, .inl g_5)) ∧ hh32 (A 8) = some (.inl ((t 2), 700, .inl g_6)) ∧ hh32 (A 10) = some (.inl ((t 1), 700, .inl g_7)) ∧ hh32 (A 11) = some (.inl ((t 2), 700, .inl g_9)) ∧ (TI τ t n hh32) ∧ (kf τ [(30, 4)] [m9] h hh32) ∧ (0 ≤ i9.toInt) ∧ (∀ q : Nat, q < i9.toInt.toNat → lvM g_1 ma.toInt.toNat q → q ≠ 0 → (g_5 q).toInt ≠ k9.toInt.toNat)) ?_ (hh := h_12) ⟨1, rfl, (lv_sub hl [1, 2, 0] rfl), hH, hz, hLo, F_m9, F_A4, F_A5, F_A6, F_A8, F_A10, F_A11, hT, hkf, (by decide), (fun q hq _ h0 => absurd (show q < 1 from hq) (by omega))⟩
        rintro k32 ls H locs hh32 ⟨i9, hk32, hl, hH, hz, hLo, F_m9, F_A4, F_A5, F_A6, F_A8, F_A10, F_A11, hT, hkf, I_i9, hN9⟩ ih32
        refine lv_iload_n hx hb d_Mo_remove_32 rfl (lv_at hl 2 rfl) ?_
        refine lv_aload_n hx hb d_Mo_remove_33 rfl (lv_at hl 0 rfl) ?_
        refine hm_get (ci := 9) (v := .int ma) (C := R_Mo) (T := F_Mo) (N := 41) hx hb hts ig_Mo hown hK hH F_m9 rfl 10 (by decide) (hts _ mw_595) (fun _ h9 => h9) rfl d_Mo_remove_34 ?_
        refine lv_icmp_ge (tgt := 68) hx hb d_Mo_remove_37 (by decide) (fun hc_26 => ?_) (fun hc_26 => ?_)
        · skip
          have ic_27 : ma.toInt ≤ i9.toInt := iLe hc_26
          refine lv_aload_n hx hb d_Mo_remove_68 rfl (lv_at hl 0 rfl) ?_
          refine hm_get (ci := 9) (v := .ref (A 4)) (C := R_Mo) (T := F_Mo) (N := 41) hx hb hts ig_Mo hown hK hH F_m9 rfl 11 (by decide) (hts _ mw_596) (fun _ h9 => h9) rfl d_Mo_remove_69 ?_
          refine lv_iload_n hx hb d_Mo_remove_72 rfl (lv_at hl 1 rfl) ?_
          refine lv_iconst (v := 0) hx hb d_Mo_remove_73 (by decide) ?_
          refine hm_zast hx hb hK hH hLo 1 F_A4 rfl (iIn (by omega) (by omega)) d_Mo_remove_74 (fun H_28 locs hH z_29 hLo => ?_)
          have hz : s.heap.size ≤ H_28.size := by rw [z_29]; exact hz
          rw [zb_nar (v := 0) zb0] at hH
          obtain ⟨h_30, e_31⟩ : ∃ z, z = hu hh32 (A 4) (.inl ((t 1), 700, .inl (upd g_1 k9.toNatClampNeg (0 : Int32)))) := ⟨_, rfl⟩
          have hH : hm D vwCl G h_30 H_28 := by rw [e_31]; exact hH
          have F_m9 : h_30 m9 = some (.inr (9, mf A n 0 sd lo le wr ma nu di pl se wg op)) := by rw [e_31, hu_n (tne T_m9 (hA 4 (by decide)) (by decide))]; exact F_m9
          have F_A5 : h_30 (A 5) = some (.inl ((t 1), 700, .inl g_3)) := by rw [e_31, hu_n (tneF (hA 5 (by decide)) (hA 4 (by decide)) (by decide))]; exact F_A5
          have F_A6 : h_30 (A 6) = some (.inl ((t 2), 700, .inl g_5)) := by rw [e_31, hu_n (tneF (hA 6 (by decide)) (hA 4 (by decide)) (by decide))]; exact F_A6
          have F_A8 : h_30 (A 8) = some (.inl ((t 2), 700, .inl g_6)) := by rw [e_31, hu_n (tneF (hA 8 (by decide)) (hA 4 (by decide)) (by decide))]; exact F_A8
          have F_A10 : h_30 (A 10) = some (.inl ((t 1), 700, .inl g_7)) := by rw [e_31, hu_n (tneF (hA 10 (by decide)) (hA 4 (by decide)) (by decide))]; exact F_A10
          have F_A11 : h_30 (A 11) = some (.inl ((t 2), 700, .inl g_9)) := by rw [e_31, hu_n (tneF (hA 11 (by decide)) (hA 4 (by decide)) (by decide))]; exact F_A11
          have F_A4 : h_30 (A 4) = some (.inl ((t 1), 700, .inl (upd g_1 k9.toNatClampNeg (0 : Int32)))) := by rw [e_31]; exact hu_s _ _ _
          have hT : TI τ t n h_30 := by rw [e_31]; exact TI_put hT (hA 4 (by decide)) (by decide) (ok_Z rfl rfl (zbF_up c_2 zb0))
          have hkf : kf τ [(30, 4)] [m9] h h_30 := by rw [e_31]; exact kf_put hkf (hA 4 (by decide)) List.mem_cons_self
          obtain ⟨g_32, e_33⟩ : ∃ z, z = upd g_1 k9.toNatClampNeg (0 : Int32) := ⟨_, rfl⟩
          rw [← e_33] at F_A4
          have c_34 : zbF g_32 := by rw [e_33]; exact (zbF_up c_2 zb0)
          refine lv_iconst (v := 0) hx hb d_Mo_remove_75 (by decide) ?_
          exact W.iret (v := 0) hx hb hr (fun t9 ht hW => ⟨0, h_30, rfl, ⟨hT, hkf, ⟨(0 : Int32), F_m9, ⟨hsd, hlo, (by omega), ⟨by omega, by omega⟩, ⟨by omega, by omega⟩⟩, ⟨by rw [aI_of F_A4, aI_of F_A6]; exact (by rw [e_33, clN]; exact treeM_drop hTm (fun z => hk0 (Int32.toInt_inj.mp (by show k9.toInt = 0; omega))) (fun q hq h0 => hN9 q (by have := hq.1; omega) hq h0)), by rw [aI_of F_A4, aI_of F_A5, aI_of F_A8, aI_of F_A10, aI_of F_A11]; exact (by rw [e_33, clN]; exact exM_drop hEx)⟩⟩⟩, by rw [ht]; exact hH, by rw [ht]; exact hz⟩) hLo d_Mo_remove_76
        · skip
          have ic_35 : i9.toInt < ma.toInt := iNe hc_26
          have iu_36 : ma.toInt < 2147483648 := iUp _
          refine lv_aload_n hx hb d_Mo_remove_40 rfl (lv_at hl 0 rfl) ?_
          refine hm_get (ci := 9) (v := .ref (A 4)) (C := R_Mo) (T := F_Mo) (N := 41) hx hb hts ig_Mo hown hK hH F_m9 rfl 11 (by decide) (hts _ mw_596) (fun _ h9 => h9) rfl d_Mo_remove_41 ?_
          refine lv_iload_n hx hb d_Mo_remove_44 rfl (lv_at hl 2 rfl) ?_
          refine hm_zald hx hb hK hH 1 F_A4 rfl (iIn (by omega) (by omega)) d_Mo_remove_45 ?_
          refine lv_topi (fun v_37 e_38 => ?_)
          have c_39 : zb v_37 := by rw [e_38]; exact c_2 _
          refine lv_if_eq (tgt := 62) hx hb d_Mo_remove_46 (by decide) (fun hc_40 => ?_) (fun hc_40 => ?_)
          · skip
            have ic_41 : v_37.toInt = 0 := congrArg Int32.toInt hc_40
            obtain ⟨j_42, e_43⟩ : ∃ z : Int32, z = i9 + 1 := ⟨_, rfl⟩
            refine lv_iinc (v := j_42) (lv' := [(2, .int j_42), (0, .ref m9), (1, .int k9)]) hx hb d_Mo_remove_62 hl (k := 2) rfl e_43.symm (by decide) rfl (fun ls hl => ?_)
            refine lv_goto (tgt := 32) hx hb d_Mo_remove_65 (by decide) ?_
            have is_44 : j_42.toInt = i9.toInt + 1 := by rw [e_43]; exact iAddK 1 rfl (by omega) (by omega)
            exact ih32 (mU j_42) ls _ locs _ (by rw [hk32]; exact mU_lt (by omega)) ⟨j_42, rfl, (lv_sub hl [1, 2, 0] rfl), hH, hz, hLo, F_m9, F_A4, F_A5, F_A6, F_A8, F_A10, F_A11, hT, hkf, (by omega), (no_ch (a := 0) (b := 0) I_i9 (by omega) hN9 (Or.inl (fun z => by rw [← clN, ← e_38, hc_40] at z; exact absurd z (by decide))))⟩
          · skip
            refine lv_aload_n hx hb d_Mo_remove_49 rfl (lv_at hl 0 rfl) ?_
            refine hm_get (ci := 9) (v := .ref (A 6)) (C := R_Mo) (T := F_Mo) (N := 41) hx hb hts ig_Mo hown hK hH F_m9 rfl 13 (by decide) (hts _ mw_597) (fun _ h9 => h9) rfl d_Mo_remove_50 ?_
            refine lv_iload_n hx hb d_Mo_remove_53 rfl (lv_at hl 2 rfl) ?_
            refine hm_iald hx hb hK hH 2 F_A6 rfl (iIn (by omega) (by omega)) d_Mo_remove_54 ?_
            refine lv_topi (fun v_45 e_46 => ?_)
            refine lv_iload_n hx hb d_Mo_remove_55 rfl (lv_at hl 1 rfl) ?_
            refine lv_icmp_ne (tgt := 62) hx hb d_Mo_remove_56 (by decide) (fun hc_47 => ?_) (fun hc_47 => ?_)
            · skip
              obtain ⟨j_48, e_49⟩ : ∃ z : Int32, z = i9 + 1 := ⟨_, rfl⟩
              refine lv_iinc (v := j_48) (lv' := [(2, .int j_48), (0, .ref m9), (1, .int k9)]) hx hb d_Mo_remove_62 hl (k := 2) rfl e_49.symm (by decide) rfl (fun ls hl => ?_)
              refine lv_goto (tgt := 32) hx hb d_Mo_remove_65 (by decide) ?_
              have is_50 : j_48.toInt = i9.toInt + 1 := by rw [e_49]; exact iAddK 1 rfl (by omega) (by omega)
              exact ih32 (mU j_48) ls _ locs _ (by rw [hk32]; exact mU_lt (by omega)) ⟨j_48, rfl, (lv_sub hl [1, 2, 0] rfl), hH, hz, hLo, F_m9, F_A4, F_A5, F_A6, F_A8, F_A10, F_A11, hT, hkf, (by omega), (no_ch (a := 0) (b := 0) I_i9 (by omega) hN9 (Or.inr (fun z => hc_47 (Int32.toInt_inj.mp (by rw [e_46, clN]; omega)))))⟩
            · skip
              have ic_51 : v_45.toInt = k9.toInt := congrArg Int32.toInt hc_47
              refine lv_bipush (v := -2) hx hb d_Mo_remove_59 (by decide) ?_
              exact W.iret (v := (-2)) hx hb hr (fun t9 ht hW => ⟨(-2), hh32, rfl, ⟨hT, hkf, ⟨(0 : Int32), F_m9, ⟨hsd, hlo, (by omega), ⟨by omega, by omega⟩, ⟨by omega, by omega⟩⟩, ⟨by rw [aI_of F_A4, aI_of F_A6]; exact hTm, by rw [aI_of F_A4, aI_of F_A5, aI_of F_A8, aI_of F_A10, aI_of F_A11]; exact hEx⟩⟩⟩, by rw [ht]; exact hH, by rw [ht]; exact hz⟩) hLo d_Mo_remove_61
      · skip
        have ic_52 : k9.toInt = 0 := congrArg Int32.toInt hc_25
        refine lv_bipush (v := -2) hx hb d_Mo_remove_27 (by decide) ?_
        exact W.iret (v := (-2)) hx hb hr (fun t9 ht hW => ⟨(-2), h_12, rfl, ⟨hT, hkf, ⟨(0 : Int32), F_m9, ⟨hsd, hlo, (by omega), ⟨by omega, by omega⟩, ⟨by omega, by omega⟩⟩, ⟨by rw [aI_of F_A4, aI_of F_A6]; exact hTm, by rw [aI_of F_A4, aI_of F_A5, aI_of F_A8, aI_of F_A10, aI_of F_A11]; exact hEx⟩⟩⟩, by rw [ht]; exact hH, by rw [ht]; exact hz⟩) hLo d_Mo_remove_29
  · skip
    refine lv_bipush (v := -4) hx hb d_Mo_remove_12 (by decide) ?_
    exact W.iret (v := (-4)) hx hb hr (fun t9 ht hW => ⟨(-4), h_12, rfl, ⟨hT, hkf, ⟨(0 : Int32), F_m9, ⟨hsd, hlo, (by omega), ⟨by omega, by omega⟩, ⟨by omega, by omega⟩⟩, ⟨by rw [aI_of F_A4, aI_of F_A6]; exact hTm, by rw [aI_of F_A4, aI_of F_A5, aI_of F_A8, aI_of F_A10, aI_of F_A11]; exact hEx⟩⟩⟩, by rw [ht]; exact hH, by rw [ht]; exact hz⟩) hLo d_Mo_remove_14

set_option maxHeartbeats 4000000 in
set_option maxRecDepth 100000 in
theorem m_rename (l : Launch) (D : va_G) (t : Nat → ClassId) (G : hG) (ak av : Nat → Nat) (h : hM) (τ : tM) (n : Nat) (m9 : Nat) (k9 : Int32) (d9 : Int32) (w9 : Int64) (A : Nat → Nat) (th sd lo le wr ma nu di pl se wg op : Int32) (hn : n ≤ 200) (hT : TI τ t n h) (T_m9 : τ m9 = (20, 0)) (F_m9 : h m9 = some (.inr (9, mf A n th sd lo le wr ma nu di pl se wg op))) (hA : ∀ i, i < 28 → τ (A i) = (30, i)) (hmk : mOk sd lo ma se op) (hTm : treeM (aI h (A 4)) (aI h (A 6)) ma.toInt.toNat) (hEx : exM (aI h (A 4)) (aI h (A 5)) (aI h (A 8)) (aI h (A 10)) (aI h (A 11)) ma.toInt.toNat n) : Met l y_Mo_rename (.code y_Mo_rename b_Mo_rename 9 (some .int) :: lw_g) { frames := 2, cells := 0, slots := 0, locals := 45 } (hP (kE D t G ak av) D vwCl G h [.ref m9, .int k9, .int d9, .long w9]) (hQi D vwCl G (fun r h' => TI τ t n h' ∧ kf τ [(30, 6), (30, 7)] [m9] h h' ∧ (∃ (th' : Int32), h' m9 = some (.inr (9, mf A n th' sd lo le wr ma nu di pl se wg op)) ∧ mOk sd lo ma se op ∧ (treeM (aI h' (A 4)) (aI h' (A 6)) ma.toInt.toNat ∧ exM (aI h' (A 4)) (aI h' (A 5)) (aI h' (A 8)) (aI h' (A 10)) (aI h' (A 11)) ma.toInt.toNat n)))) 0 0 G.P := by
  refine Met.ofW (cc := b_Mo_rename) (maxL := 9) (ret := (some .int)) (by decide) rfl ?_
  intro p e s m args below meth c s₁ Bd hml hv
  obtain ⟨ha, hE, hH⟩ := hv
  have hx := Bd.exec
  have hb := Bd.bytes
  have hr := Bd.returns
  have hts : ∀ w ∈ lw_g, w.before args s = true := fun w hw => atoms_spec (ws := (.code y_Mo_rename b_Mo_rename 9 (some .int) :: lw_g)) Bd.pre w (List.mem_cons_of_mem _ hw)
  have hown : s.vm.findClass R_Mo = some m.cls := findClass_of_methodNamed Bd.named
  have hlocks := Bd.notSynchronized
  have hK := hE.1
  have hH0 := hH
  have hLo : hLc G.P [] := hLc_nil
  have hz : s.heap.size ≤ s.heap.size := Nat.le_refl _
  have hl := lv_entry [.ref m9, .int k9, .int d9, .long w9] (n := 9) (Nat.le_of_ble_eq_true rfl)
  rw [show entryFrame m args 9 = F0 m 0 ((lg_sl [.ref m9, .int k9, .int d9, .long w9] ++ List.replicate (9 - (lg_sl [.ref m9, .int k9, .int d9, .long w9]).length) Slot.unset).toArray) [] from (by rw [ha]; exact lg_entry_eq m [.ref m9, .int k9, .int d9, .long w9] 9)]
  generalize (lg_sl [.ref m9, .int k9, .int d9, .long w9] ++ List.replicate (9 - (lg_sl [.ref m9, .int k9, .int d9, .long w9]).length) Slot.unset).toArray = ls at hl ⊢
  have hl : lv_has ls 9 [(0, .ref m9), (1, .int k9), (2, .int d9), (3, .long w9)] := hl
  have hkf : kf τ [(30, 6), (30, 7)] [m9] h h := kf_rf
  obtain ⟨hsd, hlo, hma, hse, hop⟩ := id hmk
  have inI : (nI n).toInt = n := nI_toInt (by omega)
  obtain ⟨g_1, F_A4, c_2⟩ := TI_arZ (L := 700) hT (hA 4 (by decide)) rfl rfl
  obtain ⟨g_3, F_A5, c_4⟩ := TI_arZ (L := 700) hT (hA 5 (by decide)) rfl rfl
  obtain ⟨g_5, F_A6⟩ := TI_arI (L := 700) hT (hA 6 (by decide)) rfl rfl
  obtain ⟨g_6, F_A8⟩ := TI_arI (L := 700) hT (hA 8 (by decide)) rfl rfl
  obtain ⟨g_7, F_A10, c_8⟩ := TI_arZ (L := 700) hT (hA 10 (by decide)) rfl rfl
  obtain ⟨g_9, F_A11⟩ := TI_arI (L := 700) hT (hA 11 (by decide)) rfl rfl
  rw [aI_of F_A4, aI_of F_A6] at hTm
  rw [aI_of F_A4, aI_of F_A5, aI_of F_A8, aI_of F_A10, aI_of F_A11] at hEx
  refine lv_aload_n hx hb d_Mo_rename_0 rfl (lv_at hl 0 rfl) ?_
  refine lv_iconst (v := 0) hx hb d_Mo_rename_1 (by decide) ?_
  refine hm_put (ci := 9) (v := .int 0) (ty := .int) (C := R_Mo) (T := F_Mo) (N := 41) hx hb hts ig_Mo t_Mo tk_Mo nm_Mo hown hK hH hLo F_m9 rfl 0 (by decide) (hts _ mw_594) (fun _ h9 => h9) rfl (by decide +kernel) rfl rfl (Nat.le_of_ble_eq_true rfl) d_Mo_rename_2 (fun H_10 locs hH z_11 hLo => ?_)
  have hz : s.heap.size ≤ H_10.size := by rw [z_11]; exact hz
  obtain ⟨h_12, e_13⟩ : ∃ z, z = hu h m9 (.inr (9, mf A n 0 sd lo le wr ma nu di pl se wg op)) := ⟨_, rfl⟩
  have hH : hm D vwCl G h_12 H_10 := by rw [e_13]; exact hH
  have F_A4 : h_12 (A 4) = some (.inl ((t 1), 700, .inl g_1)) := by rw [e_13, hu_n (tne (hA 4 (by decide)) T_m9 (by decide))]; exact F_A4
  have F_A5 : h_12 (A 5) = some (.inl ((t 1), 700, .inl g_3)) := by rw [e_13, hu_n (tne (hA 5 (by decide)) T_m9 (by decide))]; exact F_A5
  have F_A6 : h_12 (A 6) = some (.inl ((t 2), 700, .inl g_5)) := by rw [e_13, hu_n (tne (hA 6 (by decide)) T_m9 (by decide))]; exact F_A6
  have F_A8 : h_12 (A 8) = some (.inl ((t 2), 700, .inl g_6)) := by rw [e_13, hu_n (tne (hA 8 (by decide)) T_m9 (by decide))]; exact F_A8
  have F_A10 : h_12 (A 10) = some (.inl ((t 1), 700, .inl g_7)) := by rw [e_13, hu_n (tne (hA 10 (by decide)) T_m9 (by decide))]; exact F_A10
  have F_A11 : h_12 (A 11) = some (.inl ((t 2), 700, .inl g_9)) := by rw [e_13, hu_n (tne (hA 11 (by decide)) T_m9 (by decide))]; exact F_A11
  have F_m9 : h_12 m9 = some (.inr (9, mf A n 0 sd lo le wr ma nu di pl se wg op)) := by rw [e_13]; exact hu_s _ _ _
  have hT : TI τ t n h_12 := by rw [e_13]; exact TI_put hT T_m9 (by decide) ⟨_, rfl⟩
  have hkf : kf τ [(30, 6), (30, 7)] [m9] h h_12 := by rw [e_13]; exact kf_putM hkf (by simp)
  refine lv_aload_n hx hb d_Mo_rename_5 rfl (lv_at hl 0 rfl) ?_
  refine hm_get (ci := 9) (v := .int lo) (C := R_Mo) (T := F_Mo) (N := 41) hx hb hts ig_Mo hown hK hH F_m9 rfl 6 (by decide) (hts _ mw_593) (fun _ h9 => h9) rfl d_Mo_rename_6 ?_
  refine lv_if_eq (tgt := 15) hx hb d_Mo_rename_9 (by decide) (fun hc_14 => ?_) (fun hc_14 => ?_)
  · skip
    have ic_15 : lo.toInt = 0 := congrArg Int32.toInt hc_14
    refine lv_lload_n hx hb d_Mo_rename_15 rfl (lv_at hl 3 rfl) ?_
    refine hm_callPl (va_runS (As := [.long w9]) (rest := []) ⟨hx, hb, hml, hown, hts⟩ (m_told l D t G ak av h_12 τ n w9    hn hT    ) ⟨cw9B 1 hts mw_599 mw_600 mw_579 rfl rfl (by decide +kernel) ⟨Nat.le_of_ble_eq_true rfl, Nat.le_of_ble_eq_true rfl⟩, hts _ mw_601⟩ (hP_S kE_ok hE hH) rfl rfl hl.1 rfl (lv_room (Nat.le_of_ble_eq_true rfl)) d_Mo_rename_16 ⟨Nat.le_of_ble_eq_true rfl, Nat.le_of_ble_eq_true rfl⟩) (fun r_16 h_17 H_18 hp_20  hH z_19 => ?_)
    have hz : s.heap.size ≤ H_18.size := Nat.le_trans hz z_19
    obtain rfl := hp_20
    refine lv_lstore (lv' := [(5, .long r_16), (0, .ref m9), (1, .int k9), (2, .int d9), (3, .long w9)]) hx hb d_Mo_rename_19 hl (by decide) rfl (fun ls hl => ?_)
    refine lv_aload_n hx hb d_Mo_rename_21 rfl (lv_at hl 1 rfl) ?_
    refine lv_iload_n hx hb d_Mo_rename_22 rfl (lv_at hl 2 rfl) ?_
    refine hm_callPi (va_runV (As := [.int k9]) (b := m9) (rest := []) ⟨hx, hb, hml, hown, hts⟩ (m_isNode l D t G ak av h_12 τ n m9 k9 A (0 : Int32) sd lo le wr ma nu di pl se wg op   hn hT T_m9  F_m9 hA ⟨hsd, hlo, (by omega), ⟨by omega, by omega⟩, ⟨by omega, by omega⟩⟩ ) ⟨cw9B 1 hts mw_602 mw_603 mw_579 rfl rfl (by decide +kernel) ⟨Nat.le_of_ble_eq_true rfl, Nat.le_of_ble_eq_true rfl⟩, hts _ mw_604, hts _ mw_605⟩ (hP_V (q := (R_Mo, F_Mo, 41)) kE_ok hE hK hH F_m9 rfl) rfl rfl hl.1 rfl (lv_room (Nat.le_of_ble_eq_true rfl)) d_Mo_rename_23 ⟨Nat.le_of_ble_eq_true rfl, Nat.le_of_ble_eq_true rfl⟩) (fun r_22 h_23 H_24 hp_26  hH z_25 => ?_)
    have hz : s.heap.size ≤ H_24.size := Nat.le_trans hz z_25
    obtain ⟨c_27, xp_28, rfl⟩ := hp_26
    rcases c_27 with rfl | rfl
    · skip
      refine lv_if_eq (tgt := 66) hx hb d_Mo_rename_26 (by decide) (fun hc_29 => ?_) (fun hc_29 => absurd hc_29 (by decide))
      refine lv_bipush (v := -2) hx hb d_Mo_rename_66 (by decide) ?_
      exact W.iret (v := (-2)) hx hb hr (fun t9 ht hW => ⟨(-2), h_12, rfl, ⟨hT, hkf, ⟨(0 : Int32), F_m9, ⟨hsd, hlo, (by omega), ⟨by omega, by omega⟩, ⟨by omega, by omega⟩⟩, ⟨by rw [aI_of F_A4, aI_of F_A6]; exact hTm, by rw [aI_of F_A4, aI_of F_A5, aI_of F_A8, aI_of F_A10, aI_of F_A11]; exact hEx⟩⟩⟩, by rw [ht]; exact hH, by rw [ht]; exact hz⟩) hLo d_Mo_rename_68
    · skip
      obtain ⟨kn1, kn2, kn3⟩ := xp_28 rfl
      rw [aI_of F_A4] at kn3
      refine lv_if_eq (tgt := 66) hx hb d_Mo_rename_26 (by decide) (fun hc_30 => absurd hc_30 (by decide)) (fun hc_30 => ?_)
      refine lv_iload_n hx hb d_Mo_rename_29 rfl (lv_at hl 2 rfl) ?_
      refine lv_if_eq (tgt := 66) hx hb d_Mo_rename_30 (by decide) (fun hc_31 => ?_) (fun hc_31 => ?_)
      · skip
        have ic_32 : k9.toInt = 0 := congrArg Int32.toInt hc_31
        refine lv_bipush (v := -2) hx hb d_Mo_rename_66 (by decide) ?_
        exact W.iret (v := (-2)) hx hb hr (fun t9 ht hW => ⟨(-2), h_12, rfl, ⟨hT, hkf, ⟨(0 : Int32), F_m9, ⟨hsd, hlo, (by omega), ⟨by omega, by omega⟩, ⟨by omega, by omega⟩⟩, ⟨by rw [aI_of F_A4, aI_of F_A6]; exact hTm, by rw [aI_of F_A4, aI_of F_A5, aI_of F_A8, aI_of F_A10, aI_of F_A11]; exact hEx⟩⟩⟩, by rw [ht]; exact hH, by rw [ht]; exact hz⟩) hLo d_Mo_rename_68
      · skip
        have hk0 := hc_31
        refine lv_aload_n hx hb d_Mo_rename_33 rfl (lv_at hl 1 rfl) ?_
        refine lv_iload_n hx hb d_Mo_rename_34 rfl (lv_at hl 3 rfl) ?_
        refine hm_callPi (va_runV (As := [.int d9]) (b := m9) (rest := []) ⟨hx, hb, hml, hown, hts⟩ (m_isNode l D t G ak av h_12 τ n m9 d9 A (0 : Int32) sd lo le wr ma nu di pl se wg op   hn hT T_m9  F_m9 hA ⟨hsd, hlo, (by omega), ⟨by omega, by omega⟩, ⟨by omega, by omega⟩⟩ ) ⟨cw9B 1 hts mw_602 mw_603 mw_579 rfl rfl (by decide +kernel) ⟨Nat.le_of_ble_eq_true rfl, Nat.le_of_ble_eq_true rfl⟩, hts _ mw_604, hts _ mw_605⟩ (hP_V (q := (R_Mo, F_Mo, 41)) kE_ok hE hK hH F_m9 rfl) rfl rfl hl.1 rfl (lv_room (Nat.le_of_ble_eq_true rfl)) d_Mo_rename_35 ⟨Nat.le_of_ble_eq_true rfl, Nat.le_of_ble_eq_true rfl⟩) (fun r_33 h_34 H_35 hp_37  hH z_36 => ?_)
        have hz : s.heap.size ≤ H_35.size := Nat.le_trans hz z_36
        obtain ⟨c_38, xp_39, rfl⟩ := hp_37
        rcases c_38 with rfl | rfl
        · skip
          refine lv_if_eq (tgt := 66) hx hb d_Mo_rename_38 (by decide) (fun hc_40 => ?_) (fun hc_40 => absurd hc_40 (by decide))
          refine lv_bipush (v := -2) hx hb d_Mo_rename_66 (by decide) ?_
          exact W.iret (v := (-2)) hx hb hr (fun t9 ht hW => ⟨(-2), h_12, rfl, ⟨hT, hkf, ⟨(0 : Int32), F_m9, ⟨hsd, hlo, (by omega), ⟨by omega, by omega⟩, ⟨by omega, by omega⟩⟩, ⟨by rw [aI_of F_A4, aI_of F_A6]; exact hTm, by rw [aI_of F_A4, aI_of F_A5, aI_of F_A8, aI_of F_A10, aI_of F_A11]; exact hEx⟩⟩⟩, by rw [ht]; exact hH, by rw [ht]; exact hz⟩) hLo d_Mo_rename_68
        · skip
          obtain ⟨dn1, dn2, dn3⟩ := xp_39 rfl
          rw [aI_of F_A4] at dn3
          refine lv_if_eq (tgt := 66) hx hb d_Mo_rename_38 (by decide) (fun hc_41 => absurd hc_41 (by decide)) (fun hc_41 => ?_)
          refine lv_aload_n hx hb d_Mo_rename_41 rfl (lv_at hl 1 rfl) ?_
          refine hm_get (ci := 9) (v := .ref (A 5)) (C := R_Mo) (T := F_Mo) (N := 41) hx hb hts ig_Mo hown hK hH F_m9 rfl 12 (by decide) (hts _ mw_606) (fun _ h9 => h9) rfl d_Mo_rename_42 ?_
          refine lv_iload_n hx hb d_Mo_rename_45 rfl (lv_at hl 3 rfl) ?_
          refine hm_zald hx hb hK hH 1 F_A5 rfl (iIn (by omega) (by omega)) d_Mo_rename_46 ?_
          refine lv_topi (fun v_42 e_43 => ?_)
          have c_44 : zb v_42 := by rw [e_43]; exact c_4 _
          refine lv_if_eq (tgt := 66) hx hb d_Mo_rename_47 (by decide) (fun hc_45 => ?_) (fun hc_45 => ?_)
          · skip
            have ic_46 : v_42.toInt = 0 := congrArg Int32.toInt hc_45
            refine lv_bipush (v := -2) hx hb d_Mo_rename_66 (by decide) ?_
            exact W.iret (v := (-2)) hx hb hr (fun t9 ht hW => ⟨(-2), h_12, rfl, ⟨hT, hkf, ⟨(0 : Int32), F_m9, ⟨hsd, hlo, (by omega), ⟨by omega, by omega⟩, ⟨by omega, by omega⟩⟩, ⟨by rw [aI_of F_A4, aI_of F_A6]; exact hTm, by rw [aI_of F_A4, aI_of F_A5, aI_of F_A8, aI_of F_A10, aI_of F_A11]; exact hEx⟩⟩⟩, by rw [ht]; exact hH, by rw [ht]; exact hz⟩) hLo d_Mo_rename_68
          · skip
            refine lv_lload hx hb d_Mo_rename_50 (lv_at hl 0 rfl) ?_
            refine lv_lconst (v := 0) hx hb d_Mo_rename_52 (by decide) ?_
            refine W.lcmp hx hb d_Mo_rename_53 ?_
            refine lv_if_eq (tgt := 66) hx hb d_Mo_rename_54 (by decide) (fun hc_47 => ?_) (fun hc_47 => ?_)
            · skip
              refine lv_bipush (v := -2) hx hb d_Mo_rename_66 (by decide) ?_
              exact W.iret (v := (-2)) hx hb hr (fun t9 ht hW => ⟨(-2), h_12, rfl, ⟨hT, hkf, ⟨(0 : Int32), F_m9, ⟨hsd, hlo, (by omega), ⟨by omega, by omega⟩, ⟨by omega, by omega⟩⟩, ⟨by rw [aI_of F_A4, aI_of F_A6]; exact hTm, by rw [aI_of F_A4, aI_of F_A5, aI_of F_A8, aI_of F_A10, aI_of F_A11]; exact hEx⟩⟩⟩, by rw [ht]; exact hH, by rw [ht]; exact hz⟩) hLo d_Mo_rename_68
            · skip
              refine lv_aload_n hx hb d_Mo_rename_57 rfl (lv_at hl 1 rfl) ?_
              refine lv_iload_n hx hb d_Mo_rename_58 rfl (lv_at hl 3 rfl) ?_
              refine lv_iload_n hx hb d_Mo_rename_59 rfl (lv_at hl 2 rfl) ?_
              refine hm_callPi (va_runV (As := [.int d9, .int k9]) (b := m9) (rest := []) ⟨hx, hb, hml, hown, hts⟩ (m_lies l D t G ak av h_12 τ n m9 d9 k9 A (0 : Int32) sd lo le wr ma nu di pl se wg op   hn hT T_m9  F_m9 hA ⟨hsd, hlo, (by omega), ⟨by omega, by omega⟩, ⟨by omega, by omega⟩⟩ (by rw [aI_of F_A4, aI_of F_A6]; exact hTm) (by omega) (by rw [aI_of F_A4]; exact ⟨by omega, dn3⟩) (by omega)) ⟨cw9B 2 hts mw_630 mw_631 mw_579 rfl rfl (by decide +kernel) ⟨Nat.le_of_ble_eq_true rfl, Nat.le_of_ble_eq_true rfl⟩, hts _ mw_632, hts _ mw_633⟩ (hP_V (q := (R_Mo, F_Mo, 41)) kE_ok hE hK hH F_m9 rfl) rfl rfl hl.1 rfl (lv_room (Nat.le_of_ble_eq_true rfl)) d_Mo_rename_60 ⟨Nat.le_of_ble_eq_true rfl, Nat.le_of_ble_eq_true rfl⟩) (fun r_48 h_49 H_50 hp_52  hH z_51 => ?_)
              have hz : s.heap.size ≤ H_50.size := Nat.le_trans hz z_51
              obtain ⟨c_53, xp_54, rfl⟩ := hp_52
              rcases c_53 with rfl | rfl
              · skip
                obtain ⟨jN, hjN⟩ := xp_54 rfl
                rw [aI_of F_A6] at hjN
                refine lv_if_eq (tgt := 69) hx hb d_Mo_rename_63 (by decide) (fun hc_55 => ?_) (fun hc_55 => absurd hc_55 (by decide))
                refine lv_aload_n hx hb d_Mo_rename_69 rfl (lv_at hl 1 rfl) ?_
                refine lv_iload_n hx hb d_Mo_rename_70 rfl (lv_at hl 3 rfl) ?_
                refine hm_callPi (va_runV (As := [.int d9]) (b := m9) (rest := []) ⟨hx, hb, hml, hown, hts⟩ (m_depth l D t G ak av h_12 τ n m9 d9 A (0 : Int32) sd lo le wr ma nu di pl se wg op   hn hT T_m9  F_m9 hA ⟨hsd, hlo, (by omega), ⟨by omega, by omega⟩, ⟨by omega, by omega⟩⟩ (by rw [aI_of F_A4, aI_of F_A6]; exact hTm) (by omega) (by rw [aI_of F_A4]; exact ⟨by omega, dn3⟩)) ⟨cw9B 1 hts mw_619 mw_620 mw_579 rfl rfl (by decide +kernel) ⟨Nat.le_of_ble_eq_true rfl, Nat.le_of_ble_eq_true rfl⟩, hts _ mw_621, hts _ mw_622⟩ (hP_V (q := (R_Mo, F_Mo, 41)) kE_ok hE hK hH F_m9 rfl) rfl rfl hl.1 rfl (lv_room (Nat.le_of_ble_eq_true rfl)) d_Mo_rename_71 ⟨Nat.le_of_ble_eq_true rfl, Nat.le_of_ble_eq_true rfl⟩) (fun r_56 h_57 H_58 hp_60  hH z_59 => ?_)
                have hz : s.heap.size ≤ H_58.size := Nat.le_trans hz z_59
                obtain rfl := hp_60
                refine lv_iconst (v := 1) hx hb d_Mo_rename_74 (by decide) ?_
                refine lv_iadd hx hb d_Mo_rename_75 ?_
                refine lv_topi (fun v_62 e_63 => ?_)
                refine lv_aload_n hx hb d_Mo_rename_76 rfl (lv_at hl 1 rfl) ?_
                refine lv_iload_n hx hb d_Mo_rename_77 rfl (lv_at hl 2 rfl) ?_
                refine hm_callPi (va_runV (As := [.int k9]) (b := m9) (rest := [.int v_62]) ⟨hx, hb, hml, hown, hts⟩ (m_depth l D t G ak av h_12 τ n m9 k9 A (0 : Int32) sd lo le wr ma nu di pl se wg op   hn hT T_m9  F_m9 hA ⟨hsd, hlo, (by omega), ⟨by omega, by omega⟩, ⟨by omega, by omega⟩⟩ (by rw [aI_of F_A4, aI_of F_A6]; exact hTm) (by omega) (by rw [aI_of F_A4]; exact ⟨by omega, kn3⟩)) ⟨cw9B 1 hts mw_619 mw_620 mw_579 rfl rfl (by decide +kernel) ⟨Nat.le_of_ble_eq_true rfl, Nat.le_of_ble_eq_true rfl⟩, hts _ mw_621, hts _ mw_622⟩ (hP_V (q := (R_Mo, F_Mo, 41)) kE_ok hE hK hH F_m9 rfl) rfl rfl hl.1 rfl (lv_room (Nat.le_of_ble_eq_true rfl)) d_Mo_rename_78 ⟨Nat.le_of_ble_eq_true rfl, Nat.le_of_ble_eq_true rfl⟩) (fun r_64 h_65 H_66 hp_68  hH z_67 => ?_)
                have hz : s.heap.size ≤ H_66.size := Nat.le_trans hz z_67
                obtain rfl := hp_68
                refine lv_isub hx hb d_Mo_rename_81 ?_
                refine lv_topi (fun v_70 e_71 => ?_)
                refine lv_istore (lv' := [(7, .int v_70), (5, .long r_16), (0, .ref m9), (1, .int k9), (2, .int d9), (3, .long w9)]) hx hb d_Mo_rename_82 hl (by decide) rfl (fun ls hl => ?_)
                refine lv_iconst (v := 1) hx hb d_Mo_rename_84 (by decide) ?_
                refine lv_istore (lv' := [(8, .int 1), (7, .int v_70), (5, .long r_16), (0, .ref m9), (1, .int k9), (2, .int d9), (3, .long w9)]) hx hb d_Mo_rename_85 hl (by decide) rfl (fun ls hl => ?_)
                refine hm_loop (fun k87 ls H locs hh87 => ∃ (i9 : Int32), k87 = mU i9 ∧ lv_has ls 9 [(0, .ref m9), (1, .int k9), (2, .int d9), (3, .long w9), (5, .long r_16), (7, .int v_70), (8, .int i9)] ∧ hm D vwCl G hh87 H ∧ s.heap.size ≤ H.size ∧ hLc G.P locs ∧ hh87 m9 = some (.inr (9, mf A n 0 sd lo le wr ma nu di pl se wg op)) ∧ hh87 (A 4) = some (.inl ((t 1), 700, .inl g_1)) ∧ hh87 (A 5) = some (.inl ((t 1), 700, .inl g_3)) ∧ hh87 (A 6) = some (.inl ((t 2), 700, .inl g_5)) ∧ hh87 (A 8) = some (.inl ((t 2), 700, .inl g_6)) ∧ hh87 (A 10) = some (.inl ((t 1), 700, .inl g_7)) ∧ hh87 (A 11) = some (.inl ((t 2), 700, .inl g_9)) ∧ (TI τ t n hh87) ∧ (kf τ [(30, 6), (30, 7)] [m9] h hh87) ∧ (0 ≤ i9.toInt)) ?_ (hh := h_12) ⟨1, rfl, (lv_sub hl [3, 4, 5, 6, 2, 1, 0] rfl), hH, hz, hLo, F_m9, F_A4, F_A5, F_A6, F_A8, F_A10, F_A11, hT, hkf, (by decide)⟩
                rintro k87 ls H locs hh87 ⟨i9, hk87, hl, hH, hz, hLo, F_m9, F_A4, F_A5, F_A6, F_A8, F_A10, F_A11, hT, hkf, I_i9⟩ ih87
                refine lv_iload hx hb d_Mo_rename_87 (lv_at hl 6 rfl) ?_
                refine lv_aload_n hx hb d_Mo_rename_89 rfl (lv_at hl 0 rfl) ?_
                refine hm_get (ci := 9) (v := .int ma) (C := R_Mo) (T := F_Mo) (N := 41) hx hb hts ig_Mo hown hK hH F_m9 rfl 10 (by decide) (hts _ mw_595) (fun _ h9 => h9) rfl d_Mo_rename_90 ?_
                refine lv_icmp_ge (tgt := 149) hx hb d_Mo_rename_93 (by decide) (fun hc_72 => ?_) (fun hc_72 => ?_)
                · skip
                  have ic_73 : ma.toInt ≤ i9.toInt := iLe hc_72
                  refine lv_iconst (v := 1) hx hb d_Mo_rename_149 (by decide) ?_
                  refine lv_istore (lv' := [(8, .int 1), (0, .ref m9), (1, .int k9), (2, .int d9), (3, .long w9), (5, .long r_16), (7, .int v_70)]) hx hb d_Mo_rename_150 hl (by decide) rfl (fun ls hl => ?_)
                  refine hm_loop (fun k152 ls H locs hh152 => ∃ (i9 : Int32), k152 = mU i9 ∧ lv_has ls 9 [(0, .ref m9), (1, .int k9), (2, .int d9), (3, .long w9), (5, .long r_16), (7, .int v_70), (8, .int i9)] ∧ hm D vwCl G hh152 H ∧ s.heap.size ≤ H.size ∧ hLc G.P locs ∧ hh152 m9 = some (.inr (9, mf A n 0 sd lo le wr ma nu di pl se wg op)) ∧ hh152 (A 4) = some (.inl ((t 1), 700, .inl g_1)) ∧ hh152 (A 5) = some (.inl ((t 1), 700, .inl g_3)) ∧ hh152 (A 6) = some (.inl ((t 2), 700, .inl g_5)) ∧ hh152 (A 8) = some (.inl ((t 2), 700, .inl g_6)) ∧ hh152 (A 10) = some (.inl ((t 1), 700, .inl g_7)) ∧ hh152 (A 11) = some (.inl ((t 2), 700, .inl g_9)) ∧ (TI τ t n hh152) ∧ (kf τ [(30, 6), (30, 7)] [m9] h hh152) ∧ (0 ≤ i9.toInt)) ?_ (hh := hh87) ⟨1, rfl, (lv_sub hl [1, 2, 3, 4, 5, 6, 0] rfl), hH, hz, hLo, F_m9, F_A4, F_A5, F_A6, F_A8, F_A10, F_A11, hT, hkf, (by decide)⟩
                  rintro k152 ls H locs hh152 ⟨i9, hk152, hl, hH, hz, hLo, F_m9, F_A4, F_A5, F_A6, F_A8, F_A10, F_A11, hT, hkf, I_i9⟩ ih152
                  refine lv_iload hx hb d_Mo_rename_152 (lv_at hl 6 rfl) ?_
                  refine lv_aload_n hx hb d_Mo_rename_154 rfl (lv_at hl 0 rfl) ?_
                  refine hm_get (ci := 9) (v := .int ma) (C := R_Mo) (T := F_Mo) (N := 41) hx hb hts ig_Mo hown hK hH F_m9 rfl 10 (by decide) (hts _ mw_595) (fun _ h9 => h9) rfl d_Mo_rename_155 ?_
                  refine lv_icmp_ge (tgt := 210) hx hb d_Mo_rename_158 (by decide) (fun hc_74 => ?_) (fun hc_74 => ?_)
                  · skip
                    have ic_75 : ma.toInt ≤ i9.toInt := iLe hc_74
                    refine lv_aload_n hx hb d_Mo_rename_210 rfl (lv_at hl 0 rfl) ?_
                    refine hm_get (ci := 9) (v := .ref (A 6)) (C := R_Mo) (T := F_Mo) (N := 41) hx hb hts ig_Mo hown hK hH F_m9 rfl 13 (by decide) (hts _ mw_597) (fun _ h9 => h9) rfl d_Mo_rename_211 ?_
                    refine lv_iload_n hx hb d_Mo_rename_214 rfl (lv_at hl 1 rfl) ?_
                    refine lv_iload_n hx hb d_Mo_rename_215 rfl (lv_at hl 2 rfl) ?_
                    refine hm_iast hx hb hK hH hLo 2 F_A6 rfl (iIn (by omega) (by omega)) d_Mo_rename_216 (fun H_76 locs hH z_77 hLo => ?_)
                    have hz : s.heap.size ≤ H_76.size := by rw [z_77]; exact hz
                    obtain ⟨h_78, e_79⟩ : ∃ z, z = hu hh152 (A 6) (.inl ((t 2), 700, .inl (upd g_5 k9.toNatClampNeg d9))) := ⟨_, rfl⟩
                    have hH : hm D vwCl G h_78 H_76 := by rw [e_79]; exact hH
                    have F_m9 : h_78 m9 = some (.inr (9, mf A n 0 sd lo le wr ma nu di pl se wg op)) := by rw [e_79, hu_n (tne T_m9 (hA 6 (by decide)) (by decide))]; exact F_m9
                    have F_A4 : h_78 (A 4) = some (.inl ((t 1), 700, .inl g_1)) := by rw [e_79, hu_n (tneF (hA 4 (by decide)) (hA 6 (by decide)) (by decide))]; exact F_A4
                    have F_A5 : h_78 (A 5) = some (.inl ((t 1), 700, .inl g_3)) := by rw [e_79, hu_n (tneF (hA 5 (by decide)) (hA 6 (by decide)) (by decide))]; exact F_A5
                    have F_A8 : h_78 (A 8) = some (.inl ((t 2), 700, .inl g_6)) := by rw [e_79, hu_n (tneF (hA 8 (by decide)) (hA 6 (by decide)) (by decide))]; exact F_A8
                    have F_A10 : h_78 (A 10) = some (.inl ((t 1), 700, .inl g_7)) := by rw [e_79, hu_n (tneF (hA 10 (by decide)) (hA 6 (by decide)) (by decide))]; exact F_A10
                    have F_A11 : h_78 (A 11) = some (.inl ((t 2), 700, .inl g_9)) := by rw [e_79, hu_n (tneF (hA 11 (by decide)) (hA 6 (by decide)) (by decide))]; exact F_A11
                    have F_A6 : h_78 (A 6) = some (.inl ((t 2), 700, .inl (upd g_5 k9.toNatClampNeg d9))) := by rw [e_79]; exact hu_s _ _ _
                    have hT : TI τ t n h_78 := by rw [e_79]; exact TI_put hT (hA 6 (by decide)) (by decide) (ok_I rfl rfl)
                    have hkf : kf τ [(30, 6), (30, 7)] [m9] h h_78 := by rw [e_79]; exact kf_put hkf (hA 6 (by decide)) List.mem_cons_self
                    obtain ⟨g_80, e_81⟩ : ∃ z, z = upd g_5 k9.toNatClampNeg d9 := ⟨_, rfl⟩
                    rw [← e_81] at F_A6
                    refine lv_aload_n hx hb d_Mo_rename_217 rfl (lv_at hl 0 rfl) ?_
                    refine hm_get (ci := 9) (v := .ref (A 7)) (C := R_Mo) (T := F_Mo) (N := 41) hx hb hts ig_Mo hown hK hH F_m9 rfl 14 (by decide) (hts _ mw_598) (fun _ h9 => h9) rfl d_Mo_rename_218 ?_
                    refine lv_iload_n hx hb d_Mo_rename_221 rfl (lv_at hl 1 rfl) ?_
                    refine lv_lload hx hb d_Mo_rename_222 (lv_at hl 4 rfl) ?_
                    obtain ⟨g_82, F_A7⟩ := TI_arJ (L := 700) hT (hA 7 (by decide)) rfl rfl
                    refine hm_last hx hb hK hH hLo 3 F_A7 rfl (iIn (by omega) (by omega)) d_Mo_rename_224 (fun H_83 locs hH z_84 hLo => ?_)
                    have hz : s.heap.size ≤ H_83.size := by rw [z_84]; exact hz
                    obtain ⟨h_85, e_86⟩ : ∃ z, z = hu h_78 (A 7) (.inl ((t 3), 700, .inr (.inl (vp_updL g_82 k9.toNatClampNeg r_16)))) := ⟨_, rfl⟩
                    have hH : hm D vwCl G h_85 H_83 := by rw [e_86]; exact hH
                    have F_m9 : h_85 m9 = some (.inr (9, mf A n 0 sd lo le wr ma nu di pl se wg op)) := by rw [e_86, hu_n (tne T_m9 (hA 7 (by decide)) (by decide))]; exact F_m9
                    have F_A4 : h_85 (A 4) = some (.inl ((t 1), 700, .inl g_1)) := by rw [e_86, hu_n (tneF (hA 4 (by decide)) (hA 7 (by decide)) (by decide))]; exact F_A4
                    have F_A5 : h_85 (A 5) = some (.inl ((t 1), 700, .inl g_3)) := by rw [e_86, hu_n (tneF (hA 5 (by decide)) (hA 7 (by decide)) (by decide))]; exact F_A5
                    have F_A6 : h_85 (A 6) = some (.inl ((t 2), 700, .inl g_80)) := by rw [e_86, hu_n (tneF (hA 6 (by decide)) (hA 7 (by decide)) (by decide))]; exact F_A6
                    have F_A8 : h_85 (A 8) = some (.inl ((t 2), 700, .inl g_6)) := by rw [e_86, hu_n (tneF (hA 8 (by decide)) (hA 7 (by decide)) (by decide))]; exact F_A8
                    have F_A10 : h_85 (A 10) = some (.inl ((t 1), 700, .inl g_7)) := by rw [e_86, hu_n (tneF (hA 10 (by decide)) (hA 7 (by decide)) (by decide))]; exact F_A10
                    have F_A11 : h_85 (A 11) = some (.inl ((t 2), 700, .inl g_9)) := by rw [e_86, hu_n (tneF (hA 11 (by decide)) (hA 7 (by decide)) (by decide))]; exact F_A11
                    have F_A7 : h_85 (A 7) = some (.inl ((t 3), 700, .inr (.inl (vp_updL g_82 k9.toNatClampNeg r_16)))) := by rw [e_86]; exact hu_s _ _ _
                    have hT : TI τ t n h_85 := by rw [e_86]; exact TI_put hT (hA 7 (by decide)) (by decide) (ok_J rfl rfl)
                    have hkf : kf τ [(30, 6), (30, 7)] [m9] h h_85 := by rw [e_86]; exact kf_put hkf (hA 7 (by decide)) (List.mem_cons_of_mem _ List.mem_cons_self)
                    obtain ⟨g_87, e_88⟩ : ∃ z, z = vp_updL g_82 k9.toNatClampNeg r_16 := ⟨_, rfl⟩
                    rw [← e_88] at F_A7
                    refine lv_iconst (v := 0) hx hb d_Mo_rename_225 (by decide) ?_
                    exact W.iret (v := 0) hx hb hr (fun t9 ht hW => ⟨0, h_85, rfl, ⟨hT, hkf, ⟨(0 : Int32), F_m9, ⟨hsd, hlo, (by omega), ⟨by omega, by omega⟩, ⟨by omega, by omega⟩⟩, ⟨by rw [aI_of F_A4, aI_of F_A6]; exact (by rw [e_81, clN]; exact treeM_move hTm ⟨by omega, dn3⟩ (fun z => hk0 (Int32.toInt_inj.mp (by show k9.toInt = 0; omega))) (by omega) hjN), by rw [aI_of F_A4, aI_of F_A5, aI_of F_A8, aI_of F_A10, aI_of F_A11]; exact hEx⟩⟩⟩, by rw [ht]; exact hH, by rw [ht]; exact hz⟩) hLo d_Mo_rename_226
                  · skip
                    have ic_89 : i9.toInt < ma.toInt := iNe hc_74
                    have iu_90 : ma.toInt < 2147483648 := iUp _
                    refine lv_iload hx hb d_Mo_rename_161 (lv_at hl 6 rfl) ?_
                    refine lv_iload_n hx hb d_Mo_rename_163 rfl (lv_at hl 1 rfl) ?_
                    refine lv_icmp_eq (tgt := 204) hx hb d_Mo_rename_164 (by decide) (fun hc_91 => ?_) (fun hc_91 => ?_)
                    · skip
                      have ic_92 : i9.toInt = k9.toInt := congrArg Int32.toInt hc_91
                      obtain ⟨j_93, e_94⟩ : ∃ z : Int32, z = i9 + 1 := ⟨_, rfl⟩
                      refine lv_iinc (v := j_93) (lv' := [(8, .int j_93), (0, .ref m9), (1, .int k9), (2, .int d9), (3, .long w9), (5, .long r_16), (7, .int v_70)]) hx hb d_Mo_rename_204 hl (k := 6) rfl e_94.symm (by decide) rfl (fun ls hl => ?_)
                      refine lv_goto (tgt := 152) hx hb d_Mo_rename_207 (by decide) ?_
                      have is_95 : j_93.toInt = i9.toInt + 1 := by rw [e_94]; exact iAddK 1 rfl (by omega) (by omega)
                      exact ih152 (mU j_93) ls _ locs _ (by rw [hk152]; exact mU_lt (by omega)) ⟨j_93, rfl, (lv_sub hl [1, 2, 3, 4, 5, 6, 0] rfl), hH, hz, hLo, F_m9, F_A4, F_A5, F_A6, F_A8, F_A10, F_A11, hT, hkf, (by omega)⟩
                    · skip
                      refine lv_aload_n hx hb d_Mo_rename_167 rfl (lv_at hl 0 rfl) ?_
                      refine hm_get (ci := 9) (v := .ref (A 4)) (C := R_Mo) (T := F_Mo) (N := 41) hx hb hts ig_Mo hown hK hH F_m9 rfl 11 (by decide) (hts _ mw_596) (fun _ h9 => h9) rfl d_Mo_rename_168 ?_
                      refine lv_iload hx hb d_Mo_rename_171 (lv_at hl 6 rfl) ?_
                      refine hm_zald hx hb hK hH 1 F_A4 rfl (iIn (by omega) (by omega)) d_Mo_rename_173 ?_
                      refine lv_topi (fun v_96 e_97 => ?_)
                      have c_98 : zb v_96 := by rw [e_97]; exact c_2 _
                      refine lv_if_eq (tgt := 204) hx hb d_Mo_rename_174 (by decide) (fun hc_99 => ?_) (fun hc_99 => ?_)
                      · skip
                        have ic_100 : v_96.toInt = 0 := congrArg Int32.toInt hc_99
                        obtain ⟨j_101, e_102⟩ : ∃ z : Int32, z = i9 + 1 := ⟨_, rfl⟩
                        refine lv_iinc (v := j_101) (lv' := [(8, .int j_101), (0, .ref m9), (1, .int k9), (2, .int d9), (3, .long w9), (5, .long r_16), (7, .int v_70)]) hx hb d_Mo_rename_204 hl (k := 6) rfl e_102.symm (by decide) rfl (fun ls hl => ?_)
                        refine lv_goto (tgt := 152) hx hb d_Mo_rename_207 (by decide) ?_
                        have is_103 : j_101.toInt = i9.toInt + 1 := by rw [e_102]; exact iAddK 1 rfl (by omega) (by omega)
                        exact ih152 (mU j_101) ls _ locs _ (by rw [hk152]; exact mU_lt (by omega)) ⟨j_101, rfl, (lv_sub hl [1, 2, 3, 4, 5, 6, 0] rfl), hH, hz, hLo, F_m9, F_A4, F_A5, F_A6, F_A8, F_A10, F_A11, hT, hkf, (by omega)⟩
                      · skip
                        refine lv_aload_n hx hb d_Mo_rename_177 rfl (lv_at hl 0 rfl) ?_
                        refine hm_get (ci := 9) (v := .ref (A 6)) (C := R_Mo) (T := F_Mo) (N := 41) hx hb hts ig_Mo hown hK hH F_m9 rfl 13 (by decide) (hts _ mw_597) (fun _ h9 => h9) rfl d_Mo_rename_178 ?_
                        refine lv_iload hx hb d_Mo_rename_181 (lv_at hl 6 rfl) ?_
                        refine hm_iald hx hb hK hH 2 F_A6 rfl (iIn (by omega) (by omega)) d_Mo_rename_183 ?_
                        refine lv_topi (fun v_104 e_105 => ?_)
                        refine lv_iload_n hx hb d_Mo_rename_184 rfl (lv_at hl 2 rfl) ?_
                        refine lv_icmp_ne (tgt := 204) hx hb d_Mo_rename_185 (by decide) (fun hc_106 => ?_) (fun hc_106 => ?_)
                        · skip
                          obtain ⟨j_107, e_108⟩ : ∃ z : Int32, z = i9 + 1 := ⟨_, rfl⟩
                          refine lv_iinc (v := j_107) (lv' := [(8, .int j_107), (0, .ref m9), (1, .int k9), (2, .int d9), (3, .long w9), (5, .long r_16), (7, .int v_70)]) hx hb d_Mo_rename_204 hl (k := 6) rfl e_108.symm (by decide) rfl (fun ls hl => ?_)
                          refine lv_goto (tgt := 152) hx hb d_Mo_rename_207 (by decide) ?_
                          have is_109 : j_107.toInt = i9.toInt + 1 := by rw [e_108]; exact iAddK 1 rfl (by omega) (by omega)
                          exact ih152 (mU j_107) ls _ locs _ (by rw [hk152]; exact mU_lt (by omega)) ⟨j_107, rfl, (lv_sub hl [1, 2, 3, 4, 5, 6, 0] rfl), hH, hz, hLo, F_m9, F_A4, F_A5, F_A6, F_A8, F_A10, F_A11, hT, hkf, (by omega)⟩
                        · skip
                          have ic_110 : v_104.toInt = d9.toInt := congrArg Int32.toInt hc_106
                          refine lv_aload_n hx hb d_Mo_rename_188 rfl (lv_at hl 0 rfl) ?_
                          refine hm_get (ci := 9) (v := .ref (A 7)) (C := R_Mo) (T := F_Mo) (N := 41) hx hb hts ig_Mo hown hK hH F_m9 rfl 14 (by decide) (hts _ mw_598) (fun _ h9 => h9) rfl d_Mo_rename_189 ?_
                          refine lv_iload hx hb d_Mo_rename_192 (lv_at hl 6 rfl) ?_
                          obtain ⟨g_111, F_A7⟩ := TI_arJ (L := 700) hT (hA 7 (by decide)) rfl rfl
                          refine hm_lald hx hb hK hH 3 F_A7 rfl (iIn (by omega) (by omega)) d_Mo_rename_194 ?_
                          refine lv_topl (fun v_112 e_113 => ?_)
                          refine lv_lload hx hb d_Mo_rename_195 (lv_at hl 4 rfl) ?_
                          refine W.lcmp hx hb d_Mo_rename_197 ?_
                          refine lv_if_ne (tgt := 204) hx hb d_Mo_rename_198 (by decide) (fun hc_114 => ?_) (fun hc_114 => ?_)
                          · skip
                            obtain ⟨j_115, e_116⟩ : ∃ z : Int32, z = i9 + 1 := ⟨_, rfl⟩
                            refine lv_iinc (v := j_115) (lv' := [(8, .int j_115), (0, .ref m9), (1, .int k9), (2, .int d9), (3, .long w9), (5, .long r_16), (7, .int v_70)]) hx hb d_Mo_rename_204 hl (k := 6) rfl e_116.symm (by decide) rfl (fun ls hl => ?_)
                            refine lv_goto (tgt := 152) hx hb d_Mo_rename_207 (by decide) ?_
                            have is_117 : j_115.toInt = i9.toInt + 1 := by rw [e_116]; exact iAddK 1 rfl (by omega) (by omega)
                            exact ih152 (mU j_115) ls _ locs _ (by rw [hk152]; exact mU_lt (by omega)) ⟨j_115, rfl, (lv_sub hl [1, 2, 3, 4, 5, 6, 0] rfl), hH, hz, hLo, F_m9, F_A4, F_A5, F_A6, F_A8, F_A10, F_A11, hT, hkf, (by omega)⟩
                          · skip
                            refine lv_bipush (v := -5) hx hb d_Mo_rename_201 (by decide) ?_
                            exact W.iret (v := (-5)) hx hb hr (fun t9 ht hW => ⟨(-5), hh152, rfl, ⟨hT, hkf, ⟨(0 : Int32), F_m9, ⟨hsd, hlo, (by omega), ⟨by omega, by omega⟩, ⟨by omega, by omega⟩⟩, ⟨by rw [aI_of F_A4, aI_of F_A6]; exact hTm, by rw [aI_of F_A4, aI_of F_A5, aI_of F_A8, aI_of F_A10, aI_of F_A11]; exact hEx⟩⟩⟩, by rw [ht]; exact hH, by rw [ht]; exact hz⟩) hLo d_Mo_rename_203
                · skip
                  have ic_118 : i9.toInt < ma.toInt := iNe hc_72
                  have iu_119 : ma.toInt < 2147483648 := iUp _
                  refine lv_aload_n hx hb d_Mo_rename_96 rfl (lv_at hl 0 rfl) ?_
                  refine hm_get (ci := 9) (v := .ref (A 4)) (C := R_Mo) (T := F_Mo) (N := 41) hx hb hts ig_Mo hown hK hH F_m9 rfl 11 (by decide) (hts _ mw_596) (fun _ h9 => h9) rfl d_Mo_rename_97 ?_
                  refine lv_iload hx hb d_Mo_rename_100 (lv_at hl 6 rfl) ?_
                  refine hm_zald hx hb hK hH 1 F_A4 rfl (iIn (by omega) (by omega)) d_Mo_rename_102 ?_
                  refine lv_topi (fun v_120 e_121 => ?_)
                  have c_122 : zb v_120 := by rw [e_121]; exact c_2 _
                  refine lv_if_eq (tgt := 143) hx hb d_Mo_rename_103 (by decide) (fun hc_123 => ?_) (fun hc_123 => ?_)
                  · skip
                    have ic_124 : v_120.toInt = 0 := congrArg Int32.toInt hc_123
                    obtain ⟨j_125, e_126⟩ : ∃ z : Int32, z = i9 + 1 := ⟨_, rfl⟩
                    refine lv_iinc (v := j_125) (lv' := [(8, .int j_125), (0, .ref m9), (1, .int k9), (2, .int d9), (3, .long w9), (5, .long r_16), (7, .int v_70)]) hx hb d_Mo_rename_143 hl (k := 6) rfl e_126.symm (by decide) rfl (fun ls hl => ?_)
                    refine lv_goto (tgt := 87) hx hb d_Mo_rename_146 (by decide) ?_
                    have is_127 : j_125.toInt = i9.toInt + 1 := by rw [e_126]; exact iAddK 1 rfl (by omega) (by omega)
                    exact ih87 (mU j_125) ls _ locs _ (by rw [hk87]; exact mU_lt (by omega)) ⟨j_125, rfl, (lv_sub hl [1, 2, 3, 4, 5, 6, 0] rfl), hH, hz, hLo, F_m9, F_A4, F_A5, F_A6, F_A8, F_A10, F_A11, hT, hkf, (by omega)⟩
                  · skip
                    refine lv_aload_n hx hb d_Mo_rename_106 rfl (lv_at hl 0 rfl) ?_
                    refine hm_get (ci := 9) (v := .ref (A 5)) (C := R_Mo) (T := F_Mo) (N := 41) hx hb hts ig_Mo hown hK hH F_m9 rfl 12 (by decide) (hts _ mw_606) (fun _ h9 => h9) rfl d_Mo_rename_107 ?_
                    refine lv_iload hx hb d_Mo_rename_110 (lv_at hl 6 rfl) ?_
                    refine hm_zald hx hb hK hH 1 F_A5 rfl (iIn (by omega) (by omega)) d_Mo_rename_112 ?_
                    refine lv_topi (fun v_128 e_129 => ?_)
                    have c_130 : zb v_128 := by rw [e_129]; exact c_4 _
                    refine lv_if_eq (tgt := 143) hx hb d_Mo_rename_113 (by decide) (fun hc_131 => ?_) (fun hc_131 => ?_)
                    · skip
                      have ic_132 : v_128.toInt = 0 := congrArg Int32.toInt hc_131
                      obtain ⟨j_133, e_134⟩ : ∃ z : Int32, z = i9 + 1 := ⟨_, rfl⟩
                      refine lv_iinc (v := j_133) (lv' := [(8, .int j_133), (0, .ref m9), (1, .int k9), (2, .int d9), (3, .long w9), (5, .long r_16), (7, .int v_70)]) hx hb d_Mo_rename_143 hl (k := 6) rfl e_134.symm (by decide) rfl (fun ls hl => ?_)
                      refine lv_goto (tgt := 87) hx hb d_Mo_rename_146 (by decide) ?_
                      have is_135 : j_133.toInt = i9.toInt + 1 := by rw [e_134]; exact iAddK 1 rfl (by omega) (by omega)
                      exact ih87 (mU j_133) ls _ locs _ (by rw [hk87]; exact mU_lt (by omega)) ⟨j_133, rfl, (lv_sub hl [1, 2, 3, 4, 5, 6, 0] rfl), hH, hz, hLo, F_m9, F_A4, F_A5, F_A6, F_A8, F_A10, F_A11, hT, hkf, (by omega)⟩
                    · skip
                      refine lv_aload_n hx hb d_Mo_rename_116 rfl (lv_at hl 0 rfl) ?_
                      refine lv_iload hx hb d_Mo_rename_117 (lv_at hl 6 rfl) ?_
                      refine lv_iload_n hx hb d_Mo_rename_119 rfl (lv_at hl 1 rfl) ?_
                      refine hm_callPi (va_runV (As := [.int i9, .int k9]) (b := m9) (rest := []) ⟨hx, hb, hml, hown, hts⟩ (m_lies l D t G ak av hh87 τ n m9 i9 k9 A (0 : Int32) sd lo le wr ma nu di pl se wg op   hn hT T_m9  F_m9 hA ⟨hsd, hlo, (by omega), ⟨by omega, by omega⟩, ⟨by omega, by omega⟩⟩ (by rw [aI_of F_A4, aI_of F_A6]; exact hTm) (by omega) (by rw [aI_of F_A4]; exact ⟨by omega, by rw [← clN, ← e_121]; exact c_122.resolve_left hc_123⟩) (by omega)) ⟨cw9B 2 hts mw_630 mw_631 mw_579 rfl rfl (by decide +kernel) ⟨Nat.le_of_ble_eq_true rfl, Nat.le_of_ble_eq_true rfl⟩, hts _ mw_632, hts _ mw_633⟩ (hP_V (q := (R_Mo, F_Mo, 41)) kE_ok hE hK hH F_m9 rfl) rfl rfl hl.1 rfl (lv_room (Nat.le_of_ble_eq_true rfl)) d_Mo_rename_120 ⟨Nat.le_of_ble_eq_true rfl, Nat.le_of_ble_eq_true rfl⟩) (fun r_136 h_137 H_138 hp_140  hH z_139 => ?_)
                      have hz : s.heap.size ≤ H_138.size := Nat.le_trans hz z_139
                      obtain ⟨c_141, xp_142, rfl⟩ := hp_140
                      refine lv_if_eq (tgt := 143) hx hb d_Mo_rename_123 (by decide) (fun hc_143 => ?_) (fun hc_143 => ?_)
                      · skip
                        have ic_144 : r_136.toInt = 0 := congrArg Int32.toInt hc_143
                        obtain ⟨j_145, e_146⟩ : ∃ z : Int32, z = i9 + 1 := ⟨_, rfl⟩
                        refine lv_iinc (v := j_145) (lv' := [(8, .int j_145), (0, .ref m9), (1, .int k9), (2, .int d9), (3, .long w9), (5, .long r_16), (7, .int v_70)]) hx hb d_Mo_rename_143 hl (k := 6) rfl e_146.symm (by decide) rfl (fun ls hl => ?_)
                        refine lv_goto (tgt := 87) hx hb d_Mo_rename_146 (by decide) ?_
                        have is_147 : j_145.toInt = i9.toInt + 1 := by rw [e_146]; exact iAddK 1 rfl (by omega) (by omega)
                        exact ih87 (mU j_145) ls _ locs _ (by rw [hk87]; exact mU_lt (by omega)) ⟨j_145, rfl, (lv_sub hl [1, 2, 3, 4, 5, 6, 0] rfl), hH, hz, hLo, F_m9, F_A4, F_A5, F_A6, F_A8, F_A10, F_A11, hT, hkf, (by omega)⟩
                      · skip
                        refine lv_aload_n hx hb d_Mo_rename_126 rfl (lv_at hl 0 rfl) ?_
                        refine lv_iload hx hb d_Mo_rename_127 (lv_at hl 6 rfl) ?_
                        refine hm_callPi (va_runV (As := [.int i9]) (b := m9) (rest := []) ⟨hx, hb, hml, hown, hts⟩ (m_depth l D t G ak av hh87 τ n m9 i9 A (0 : Int32) sd lo le wr ma nu di pl se wg op   hn hT T_m9  F_m9 hA ⟨hsd, hlo, (by omega), ⟨by omega, by omega⟩, ⟨by omega, by omega⟩⟩ (by rw [aI_of F_A4, aI_of F_A6]; exact hTm) (by omega) (by rw [aI_of F_A4]; exact ⟨by omega, by rw [← clN, ← e_121]; exact c_122.resolve_left hc_123⟩)) ⟨cw9B 1 hts mw_619 mw_620 mw_579 rfl rfl (by decide +kernel) ⟨Nat.le_of_ble_eq_true rfl, Nat.le_of_ble_eq_true rfl⟩, hts _ mw_621, hts _ mw_622⟩ (hP_V (q := (R_Mo, F_Mo, 41)) kE_ok hE hK hH F_m9 rfl) rfl rfl hl.1 rfl (lv_room (Nat.le_of_ble_eq_true rfl)) d_Mo_rename_129 ⟨Nat.le_of_ble_eq_true rfl, Nat.le_of_ble_eq_true rfl⟩) (fun r_148 h_149 H_150 hp_152  hH z_151 => ?_)
                        have hz : s.heap.size ≤ H_150.size := Nat.le_trans hz z_151
                        obtain rfl := hp_152
                        refine lv_iload hx hb d_Mo_rename_132 (lv_at hl 5 rfl) ?_
                        refine lv_iadd hx hb d_Mo_rename_134 ?_
                        refine lv_topi (fun v_154 e_155 => ?_)
                        refine lv_bipush (v := 6) hx hb d_Mo_rename_135 (by decide) ?_
                        refine lv_icmp_le (tgt := 143) hx hb d_Mo_rename_137 (by decide) (fun hc_156 => ?_) (fun hc_156 => ?_)
                        · skip
                          have ic_157 : v_154.toInt ≤ 6 := iLe hc_156
                          obtain ⟨j_158, e_159⟩ : ∃ z : Int32, z = i9 + 1 := ⟨_, rfl⟩
                          refine lv_iinc (v := j_158) (lv' := [(8, .int j_158), (0, .ref m9), (1, .int k9), (2, .int d9), (3, .long w9), (5, .long r_16), (7, .int v_70)]) hx hb d_Mo_rename_143 hl (k := 6) rfl e_159.symm (by decide) rfl (fun ls hl => ?_)
                          refine lv_goto (tgt := 87) hx hb d_Mo_rename_146 (by decide) ?_
                          have is_160 : j_158.toInt = i9.toInt + 1 := by rw [e_159]; exact iAddK 1 rfl (by omega) (by omega)
                          exact ih87 (mU j_158) ls _ locs _ (by rw [hk87]; exact mU_lt (by omega)) ⟨j_158, rfl, (lv_sub hl [1, 2, 3, 4, 5, 6, 0] rfl), hH, hz, hLo, F_m9, F_A4, F_A5, F_A6, F_A8, F_A10, F_A11, hT, hkf, (by omega)⟩
                        · skip
                          have ic_161 : 6 < v_154.toInt := iNe hc_156
                          have iu_162 : v_154.toInt < 2147483648 := iUp _
                          refine lv_bipush (v := -2) hx hb d_Mo_rename_140 (by decide) ?_
                          exact W.iret (v := (-2)) hx hb hr (fun t9 ht hW => ⟨(-2), hh87, rfl, ⟨hT, hkf, ⟨(0 : Int32), F_m9, ⟨hsd, hlo, (by omega), ⟨by omega, by omega⟩, ⟨by omega, by omega⟩⟩, ⟨by rw [aI_of F_A4, aI_of F_A6]; exact hTm, by rw [aI_of F_A4, aI_of F_A5, aI_of F_A8, aI_of F_A10, aI_of F_A11]; exact hEx⟩⟩⟩, by rw [ht]; exact hH, by rw [ht]; exact hz⟩) hLo d_Mo_rename_142
              · skip
                refine lv_if_eq (tgt := 69) hx hb d_Mo_rename_63 (by decide) (fun hc_163 => absurd hc_163 (by decide)) (fun hc_163 => ?_)
                refine lv_bipush (v := -2) hx hb d_Mo_rename_66 (by decide) ?_
                exact W.iret (v := (-2)) hx hb hr (fun t9 ht hW => ⟨(-2), h_12, rfl, ⟨hT, hkf, ⟨(0 : Int32), F_m9, ⟨hsd, hlo, (by omega), ⟨by omega, by omega⟩, ⟨by omega, by omega⟩⟩, ⟨by rw [aI_of F_A4, aI_of F_A6]; exact hTm, by rw [aI_of F_A4, aI_of F_A5, aI_of F_A8, aI_of F_A10, aI_of F_A11]; exact hEx⟩⟩⟩, by rw [ht]; exact hH, by rw [ht]; exact hz⟩) hLo d_Mo_rename_68
  · skip
    refine lv_bipush (v := -4) hx hb d_Mo_rename_12 (by decide) ?_
    exact W.iret (v := (-4)) hx hb hr (fun t9 ht hW => ⟨(-4), h_12, rfl, ⟨hT, hkf, ⟨(0 : Int32), F_m9, ⟨hsd, hlo, (by omega), ⟨by omega, by omega⟩, ⟨by omega, by omega⟩⟩, ⟨by rw [aI_of F_A4, aI_of F_A6]; exact hTm, by rw [aI_of F_A4, aI_of F_A5, aI_of F_A8, aI_of F_A10, aI_of F_A11]; exact hEx⟩⟩⟩, by rw [ht]; exact hH, by rw [ht]; exact hz⟩) hLo d_Mo_rename_14

set_option maxHeartbeats 4000000 in
set_option maxRecDepth 100000 in
theorem m_tree (l : Launch) (D : va_G) (t : Nat → ClassId) (G : hG) (ak av : Nat → Nat) (h : hM) (τ : tM) (n : Nat) (m9 : Nat) (k9 : Int32) (w9 : Int32) (A : Nat → Nat) (th sd lo le wr ma nu di pl se wg op : Int32) (hn : n ≤ 200) (hT : TI τ t n h) (T_m9 : τ m9 = (20, 0)) (F_m9 : h m9 = some (.inr (9, mf A n th sd lo le wr ma nu di pl se wg op))) (hA : ∀ i, i < 28 → τ (A i) = (30, i)) (hmk : mOk sd lo ma se op) : Met l y_Mo_tree (.code y_Mo_tree b_Mo_tree 3 (some .int) :: lw_g) { frames := 1, cells := 0, slots := 0, locals := 22 } (hP (kE D t G ak av) D vwCl G h [.ref m9, .int k9, .int w9]) (hQi D vwCl G (fun r h' => TI τ t n h' ∧ kf τ [] [m9] h h' ∧ (∃ (th' : Int32), h' m9 = some (.inr (9, mf A n th' sd lo le wr ma nu di pl se wg op)) ∧ mOk sd lo ma se op))) 0 0 G.P := by
  refine Met.ofW (cc := b_Mo_tree) (maxL := 3) (ret := (some .int)) (by decide) rfl ?_
  intro p e s m args below meth c s₁ Bd hml hv
  obtain ⟨ha, hE, hH⟩ := hv
  have hx := Bd.exec
  have hb := Bd.bytes
  have hr := Bd.returns
  have hts : ∀ w ∈ lw_g, w.before args s = true := fun w hw => atoms_spec (ws := (.code y_Mo_tree b_Mo_tree 3 (some .int) :: lw_g)) Bd.pre w (List.mem_cons_of_mem _ hw)
  have hown : s.vm.findClass R_Mo = some m.cls := findClass_of_methodNamed Bd.named
  have hlocks := Bd.notSynchronized
  have hK := hE.1
  have hH0 := hH
  have hLo : hLc G.P [] := hLc_nil
  have hz : s.heap.size ≤ s.heap.size := Nat.le_refl _
  have hl := lv_entry [.ref m9, .int k9, .int w9] (n := 3) (Nat.le_of_ble_eq_true rfl)
  rw [show entryFrame m args 3 = F0 m 0 ((lg_sl [.ref m9, .int k9, .int w9] ++ List.replicate (3 - (lg_sl [.ref m9, .int k9, .int w9]).length) Slot.unset).toArray) [] from (by rw [ha]; exact lg_entry_eq m [.ref m9, .int k9, .int w9] 3)]
  generalize (lg_sl [.ref m9, .int k9, .int w9] ++ List.replicate (3 - (lg_sl [.ref m9, .int k9, .int w9]).length) Slot.unset).toArray = ls at hl ⊢
  have hl : lv_has ls 3 [(0, .ref m9), (1, .int k9), (2, .int w9)] := hl
  have hkf : kf τ [] [m9] h h := kf_rf
  obtain ⟨hsd, hlo, hma, hse, hop⟩ := id hmk
  have inI : (nI n).toInt = n := nI_toInt (by omega)
  refine lv_aload_n hx hb d_Mo_tree_0 rfl (lv_at hl 0 rfl) ?_
  refine lv_aload_n hx hb d_Mo_tree_1 rfl (lv_at hl 0 rfl) ?_
  refine lv_iload_n hx hb d_Mo_tree_2 rfl (lv_at hl 1 rfl) ?_
  refine hm_callPi (va_runV (As := [.int k9]) (b := m9) (rest := [.ref m9]) ⟨hx, hb, hml, hown, hts⟩ (m_isNode l D t G ak av h τ n m9 k9 A th sd lo le wr ma nu di pl se wg op   hn hT T_m9  F_m9 hA ⟨hsd, hlo, (by omega), ⟨by omega, by omega⟩, ⟨by omega, by omega⟩⟩ ) ⟨cw9B 1 hts mw_602 mw_603 mw_579 rfl rfl (by decide +kernel) ⟨Nat.le_of_ble_eq_true rfl, Nat.le_of_ble_eq_true rfl⟩, hts _ mw_604, hts _ mw_605⟩ (hP_V (q := (R_Mo, F_Mo, 41)) kE_ok hE hK hH F_m9 rfl) rfl rfl hl.1 rfl (lv_room (Nat.le_of_ble_eq_true rfl)) d_Mo_tree_3 ⟨Nat.le_of_ble_eq_true rfl, Nat.le_of_ble_eq_true rfl⟩) (fun r_1 h_2 H_3 hp_5  hH z_4 => ?_)
  have hz : s.heap.size ≤ H_3.size := Nat.le_trans hz z_4
  obtain ⟨c_6, xp_7, rfl⟩ := hp_5
  rcases c_6 with rfl | rfl
  · skip
    refine lv_if_eq (tgt := 22) hx hb d_Mo_tree_6 (by decide) (fun hc_8 => ?_) (fun hc_8 => absurd hc_8 (by decide))
    refine lv_iconst (v := 1) hx hb d_Mo_tree_22 (by decide) ?_
    refine hm_put (ci := 9) (v := .int 1) (ty := .int) (C := R_Mo) (T := F_Mo) (N := 41) hx hb hts ig_Mo t_Mo tk_Mo nm_Mo hown hK hH hLo F_m9 rfl 0 (by decide) (hts _ mw_594) (fun _ h9 => h9) rfl (by decide +kernel) rfl rfl (Nat.le_of_ble_eq_true rfl) d_Mo_tree_23 (fun H_9 locs hH z_10 hLo => ?_)
    have hz : s.heap.size ≤ H_9.size := by rw [z_10]; exact hz
    obtain ⟨h_11, e_12⟩ : ∃ z, z = hu h m9 (.inr (9, mf A n 1 sd lo le wr ma nu di pl se wg op)) := ⟨_, rfl⟩
    have hH : hm D vwCl G h_11 H_9 := by rw [e_12]; exact hH
    have F_m9 : h_11 m9 = some (.inr (9, mf A n 1 sd lo le wr ma nu di pl se wg op)) := by rw [e_12]; exact hu_s _ _ _
    have hT : TI τ t n h_11 := by rw [e_12]; exact TI_put hT T_m9 (by decide) ⟨_, rfl⟩
    have hkf : kf τ [] [m9] h h_11 := by rw [e_12]; exact kf_putM hkf (by simp)
    refine lv_aload_n hx hb d_Mo_tree_26 rfl (lv_at hl 0 rfl) ?_
    refine hm_get (ci := 9) (v := .int 1) (C := R_Mo) (T := F_Mo) (N := 41) hx hb hts ig_Mo hown hK hH F_m9 rfl 0 (by decide) (hts _ mw_594) (fun _ h9 => h9) rfl d_Mo_tree_27 ?_
    refine lv_iconst (v := 1) hx hb d_Mo_tree_30 (by decide) ?_
    refine lv_icmp_ne (tgt := 36) hx hb d_Mo_tree_31 (by decide) (fun hc_13 => absurd hc_13 (by decide)) (fun hc_13 => ?_)
    refine lv_iconst (v := 0) hx hb d_Mo_tree_34 (by decide) ?_
    exact W.iret (v := 0) hx hb hr (fun t9 ht hW => ⟨0, h_11, rfl, ⟨hT, hkf, ⟨(1 : Int32), F_m9, ⟨hsd, hlo, (by omega), ⟨by omega, by omega⟩, ⟨by omega, by omega⟩⟩⟩⟩, by rw [ht]; exact hH, by rw [ht]; exact hz⟩) hLo d_Mo_tree_35
  · skip
    obtain ⟨in1, in2, in3⟩ := xp_7 rfl
    refine lv_if_eq (tgt := 22) hx hb d_Mo_tree_6 (by decide) (fun hc_14 => absurd hc_14 (by decide)) (fun hc_14 => ?_)
    refine lv_iload_n hx hb d_Mo_tree_9 rfl (lv_at hl 2 rfl) ?_
    refine lv_iconst (v := 0) hx hb d_Mo_tree_10 (by decide) ?_
    refine lv_iconst (v := 4) hx hb d_Mo_tree_11 (by decide) ?_
    refine hm_callPi (va_runS (As := [.int w9, .int 0, .int 4]) (rest := [.ref m9]) ⟨hx, hb, hml, hown, hts⟩ (m_in l D t G ak av h τ n w9 0 4    hn hT    ) ⟨cw9B 3 hts mw_582 mw_583 mw_579 rfl rfl (by decide +kernel) ⟨Nat.le_of_ble_eq_true rfl, Nat.le_of_ble_eq_true rfl⟩, hts _ mw_584⟩ (hP_S kE_ok hE hH) rfl rfl hl.1 rfl (lv_room (Nat.le_of_ble_eq_true rfl)) d_Mo_tree_12 ⟨Nat.le_of_ble_eq_true rfl, Nat.le_of_ble_eq_true rfl⟩) (fun r_15 h_16 H_17 hp_19  hH z_18 => ?_)
    have hz : s.heap.size ≤ H_17.size := Nat.le_trans hz z_18
    obtain ⟨c_20, xp_21, rfl⟩ := hp_19
    have il_22 : (0 : Int32).toInt = 0 := rfl
    have il_23 : (4 : Int32).toInt = 4 := rfl
    rcases xp_21 with ⟨rfl, ix9⟩ | ⟨rfl, ix9, iy9⟩
    · skip
      refine lv_if_eq (tgt := 22) hx hb d_Mo_tree_15 (by decide) (fun hc_24 => ?_) (fun hc_24 => absurd hc_24 (by decide))
      refine lv_iconst (v := 1) hx hb d_Mo_tree_22 (by decide) ?_
      refine hm_put (ci := 9) (v := .int 1) (ty := .int) (C := R_Mo) (T := F_Mo) (N := 41) hx hb hts ig_Mo t_Mo tk_Mo nm_Mo hown hK hH hLo F_m9 rfl 0 (by decide) (hts _ mw_594) (fun _ h9 => h9) rfl (by decide +kernel) rfl rfl (Nat.le_of_ble_eq_true rfl) d_Mo_tree_23 (fun H_25 locs hH z_26 hLo => ?_)
      have hz : s.heap.size ≤ H_25.size := by rw [z_26]; exact hz
      obtain ⟨h_27, e_28⟩ : ∃ z, z = hu h m9 (.inr (9, mf A n 1 sd lo le wr ma nu di pl se wg op)) := ⟨_, rfl⟩
      have hH : hm D vwCl G h_27 H_25 := by rw [e_28]; exact hH
      have F_m9 : h_27 m9 = some (.inr (9, mf A n 1 sd lo le wr ma nu di pl se wg op)) := by rw [e_28]; exact hu_s _ _ _
      have hT : TI τ t n h_27 := by rw [e_28]; exact TI_put hT T_m9 (by decide) ⟨_, rfl⟩
      have hkf : kf τ [] [m9] h h_27 := by rw [e_28]; exact kf_putM hkf (by simp)
      refine lv_aload_n hx hb d_Mo_tree_26 rfl (lv_at hl 0 rfl) ?_
      refine hm_get (ci := 9) (v := .int 1) (C := R_Mo) (T := F_Mo) (N := 41) hx hb hts ig_Mo hown hK hH F_m9 rfl 0 (by decide) (hts _ mw_594) (fun _ h9 => h9) rfl d_Mo_tree_27 ?_
      refine lv_iconst (v := 1) hx hb d_Mo_tree_30 (by decide) ?_
      refine lv_icmp_ne (tgt := 36) hx hb d_Mo_tree_31 (by decide) (fun hc_29 => absurd hc_29 (by decide)) (fun hc_29 => ?_)
      refine lv_iconst (v := 0) hx hb d_Mo_tree_34 (by decide) ?_
      exact W.iret (v := 0) hx hb hr (fun t9 ht hW => ⟨0, h_27, rfl, ⟨hT, hkf, ⟨(1 : Int32), F_m9, ⟨hsd, hlo, (by omega), ⟨by omega, by omega⟩, ⟨by omega, by omega⟩⟩⟩⟩, by rw [ht]; exact hH, by rw [ht]; exact hz⟩) hLo d_Mo_tree_35
    · skip
      refine lv_if_eq (tgt := 22) hx hb d_Mo_tree_15 (by decide) (fun hc_30 => absurd hc_30 (by decide)) (fun hc_30 => ?_)
      refine lv_iconst (v := 0) hx hb d_Mo_tree_18 (by decide) ?_
      refine lv_goto (tgt := 23) hx hb d_Mo_tree_19 (by decide) ?_
      refine hm_put (ci := 9) (v := .int 0) (ty := .int) (C := R_Mo) (T := F_Mo) (N := 41) hx hb hts ig_Mo t_Mo tk_Mo nm_Mo hown hK hH hLo F_m9 rfl 0 (by decide) (hts _ mw_594) (fun _ h9 => h9) rfl (by decide +kernel) rfl rfl (Nat.le_of_ble_eq_true rfl) d_Mo_tree_23 (fun H_31 locs hH z_32 hLo => ?_)
      have hz : s.heap.size ≤ H_31.size := by rw [z_32]; exact hz
      obtain ⟨h_33, e_34⟩ : ∃ z, z = hu h m9 (.inr (9, mf A n 0 sd lo le wr ma nu di pl se wg op)) := ⟨_, rfl⟩
      have hH : hm D vwCl G h_33 H_31 := by rw [e_34]; exact hH
      have F_m9 : h_33 m9 = some (.inr (9, mf A n 0 sd lo le wr ma nu di pl se wg op)) := by rw [e_34]; exact hu_s _ _ _
      have hT : TI τ t n h_33 := by rw [e_34]; exact TI_put hT T_m9 (by decide) ⟨_, rfl⟩
      have hkf : kf τ [] [m9] h h_33 := by rw [e_34]; exact kf_putM hkf (by simp)
      refine lv_aload_n hx hb d_Mo_tree_26 rfl (lv_at hl 0 rfl) ?_
      refine hm_get (ci := 9) (v := .int 0) (C := R_Mo) (T := F_Mo) (N := 41) hx hb hts ig_Mo hown hK hH F_m9 rfl 0 (by decide) (hts _ mw_594) (fun _ h9 => h9) rfl d_Mo_tree_27 ?_
      refine lv_iconst (v := 1) hx hb d_Mo_tree_30 (by decide) ?_
      refine lv_icmp_ne (tgt := 36) hx hb d_Mo_tree_31 (by decide) (fun hc_35 => ?_) (fun hc_35 => absurd hc_35 (by decide))
      refine lv_iload_n hx hb d_Mo_tree_36 rfl (lv_at hl 2 rfl) ?_
      refine lv_if_ne (tgt := 49) hx hb d_Mo_tree_37 (by decide) (fun hc_36 => ?_) (fun hc_36 => ?_)
      · skip
        refine lv_iload_n hx hb d_Mo_tree_49 rfl (lv_at hl 2 rfl) ?_
        refine lv_iconst (v := 1) hx hb d_Mo_tree_50 (by decide) ?_
        refine lv_icmp_ne (tgt := 71) hx hb d_Mo_tree_51 (by decide) (fun hc_37 => ?_) (fun hc_37 => ?_)
        · skip
          refine lv_iload_n hx hb d_Mo_tree_71 rfl (lv_at hl 2 rfl) ?_
          refine lv_iconst (v := 2) hx hb d_Mo_tree_72 (by decide) ?_
          refine lv_icmp_ne (tgt := 85) hx hb d_Mo_tree_73 (by decide) (fun hc_38 => ?_) (fun hc_38 => ?_)
          · skip
            refine lv_iload_n hx hb d_Mo_tree_85 rfl (lv_at hl 2 rfl) ?_
            refine lv_iconst (v := 3) hx hb d_Mo_tree_86 (by decide) ?_
            refine lv_icmp_ne (tgt := 99) hx hb d_Mo_tree_87 (by decide) (fun hc_39 => ?_) (fun hc_39 => ?_)
            · skip
              refine lv_aload_n hx hb d_Mo_tree_99 rfl (lv_at hl 0 rfl) ?_
              refine hm_get (ci := 9) (v := .ref (A 11)) (C := R_Mo) (T := F_Mo) (N := 41) hx hb hts ig_Mo hown hK hH F_m9 rfl 18 (by decide) (hts _ mw_618) (fun _ h9 => h9) rfl d_Mo_tree_100 ?_
              refine lv_iload_n hx hb d_Mo_tree_103 rfl (lv_at hl 1 rfl) ?_
              obtain ⟨g_40, F_A11⟩ := TI_arI (L := 700) hT (hA 11 (by decide)) rfl rfl
              refine hm_iald hx hb hK hH 2 F_A11 rfl (iIn (by omega) (by omega)) d_Mo_tree_104 ?_
              refine lv_topi (fun v_41 e_42 => ?_)
              exact W.iret (v := v_41) hx hb hr (fun t9 ht hW => ⟨v_41, h_33, rfl, ⟨hT, hkf, ⟨(0 : Int32), F_m9, ⟨hsd, hlo, (by omega), ⟨by omega, by omega⟩, ⟨by omega, by omega⟩⟩⟩⟩, by rw [ht]; exact hH, by rw [ht]; exact hz⟩) hLo d_Mo_tree_105
            · skip
              have ic_43 : w9.toInt = 3 := congrArg Int32.toInt hc_39
              refine lv_aload_n hx hb d_Mo_tree_90 rfl (lv_at hl 0 rfl) ?_
              refine hm_get (ci := 9) (v := .ref (A 9)) (C := R_Mo) (T := F_Mo) (N := 41) hx hb hts ig_Mo hown hK hH F_m9 rfl 16 (by decide) (hts _ mw_616) (fun _ h9 => h9) rfl d_Mo_tree_91 ?_
              refine lv_iload_n hx hb d_Mo_tree_94 rfl (lv_at hl 1 rfl) ?_
              obtain ⟨g_44, F_A9⟩ := TI_arI (L := 700) hT (hA 9 (by decide)) rfl rfl
              refine hm_iald hx hb hK hH 2 F_A9 rfl (iIn (by omega) (by omega)) d_Mo_tree_95 ?_
              refine lv_topi (fun v_45 e_46 => ?_)
              refine lv_goto (tgt := 105) hx hb d_Mo_tree_96 (by decide) ?_
              exact W.iret (v := v_45) hx hb hr (fun t9 ht hW => ⟨v_45, h_33, rfl, ⟨hT, hkf, ⟨(0 : Int32), F_m9, ⟨hsd, hlo, (by omega), ⟨by omega, by omega⟩, ⟨by omega, by omega⟩⟩⟩⟩, by rw [ht]; exact hH, by rw [ht]; exact hz⟩) hLo d_Mo_tree_105
          · skip
            have ic_47 : w9.toInt = 2 := congrArg Int32.toInt hc_38
            refine lv_aload_n hx hb d_Mo_tree_76 rfl (lv_at hl 0 rfl) ?_
            refine hm_get (ci := 9) (v := .ref (A 8)) (C := R_Mo) (T := F_Mo) (N := 41) hx hb hts ig_Mo hown hK hH F_m9 rfl 15 (by decide) (hts _ mw_615) (fun _ h9 => h9) rfl d_Mo_tree_77 ?_
            refine lv_iload_n hx hb d_Mo_tree_80 rfl (lv_at hl 1 rfl) ?_
            obtain ⟨g_48, F_A8⟩ := TI_arI (L := 700) hT (hA 8 (by decide)) rfl rfl
            refine hm_iald hx hb hK hH 2 F_A8 rfl (iIn (by omega) (by omega)) d_Mo_tree_81 ?_
            refine lv_topi (fun v_49 e_50 => ?_)
            refine lv_goto (tgt := 105) hx hb d_Mo_tree_82 (by decide) ?_
            exact W.iret (v := v_49) hx hb hr (fun t9 ht hW => ⟨v_49, h_33, rfl, ⟨hT, hkf, ⟨(0 : Int32), F_m9, ⟨hsd, hlo, (by omega), ⟨by omega, by omega⟩, ⟨by omega, by omega⟩⟩⟩⟩, by rw [ht]; exact hH, by rw [ht]; exact hz⟩) hLo d_Mo_tree_105
        · skip
          have ic_51 : w9.toInt = 1 := congrArg Int32.toInt hc_37
          refine lv_aload_n hx hb d_Mo_tree_54 rfl (lv_at hl 0 rfl) ?_
          refine hm_get (ci := 9) (v := .ref (A 5)) (C := R_Mo) (T := F_Mo) (N := 41) hx hb hts ig_Mo hown hK hH F_m9 rfl 12 (by decide) (hts _ mw_606) (fun _ h9 => h9) rfl d_Mo_tree_55 ?_
          refine lv_iload_n hx hb d_Mo_tree_58 rfl (lv_at hl 1 rfl) ?_
          obtain ⟨g_52, F_A5, c_53⟩ := TI_arZ (L := 700) hT (hA 5 (by decide)) rfl rfl
          refine hm_zald hx hb hK hH 1 F_A5 rfl (iIn (by omega) (by omega)) d_Mo_tree_59 ?_
          refine lv_topi (fun v_54 e_55 => ?_)
          have c_56 : zb v_54 := by rw [e_55]; exact c_53 _
          refine lv_if_eq (tgt := 67) hx hb d_Mo_tree_60 (by decide) (fun hc_57 => ?_) (fun hc_57 => ?_)
          · skip
            have ic_58 : v_54.toInt = 0 := congrArg Int32.toInt hc_57
            refine lv_iconst (v := 1) hx hb d_Mo_tree_67 (by decide) ?_
            refine lv_goto (tgt := 105) hx hb d_Mo_tree_68 (by decide) ?_
            exact W.iret (v := 1) hx hb hr (fun t9 ht hW => ⟨1, h_33, rfl, ⟨hT, hkf, ⟨(0 : Int32), F_m9, ⟨hsd, hlo, (by omega), ⟨by omega, by omega⟩, ⟨by omega, by omega⟩⟩⟩⟩, by rw [ht]; exact hH, by rw [ht]; exact hz⟩) hLo d_Mo_tree_105
          · skip
            refine lv_iconst (v := 0) hx hb d_Mo_tree_63 (by decide) ?_
            refine lv_goto (tgt := 105) hx hb d_Mo_tree_64 (by decide) ?_
            exact W.iret (v := 0) hx hb hr (fun t9 ht hW => ⟨0, h_33, rfl, ⟨hT, hkf, ⟨(0 : Int32), F_m9, ⟨hsd, hlo, (by omega), ⟨by omega, by omega⟩, ⟨by omega, by omega⟩⟩⟩⟩, by rw [ht]; exact hH, by rw [ht]; exact hz⟩) hLo d_Mo_tree_105
      · skip
        have ic_59 : w9.toInt = 0 := congrArg Int32.toInt hc_36
        refine lv_aload_n hx hb d_Mo_tree_40 rfl (lv_at hl 0 rfl) ?_
        refine hm_get (ci := 9) (v := .ref (A 6)) (C := R_Mo) (T := F_Mo) (N := 41) hx hb hts ig_Mo hown hK hH F_m9 rfl 13 (by decide) (hts _ mw_597) (fun _ h9 => h9) rfl d_Mo_tree_41 ?_
        refine lv_iload_n hx hb d_Mo_tree_44 rfl (lv_at hl 1 rfl) ?_
        obtain ⟨g_60, F_A6⟩ := TI_arI (L := 700) hT (hA 6 (by decide)) rfl rfl
        refine hm_iald hx hb hK hH 2 F_A6 rfl (iIn (by omega) (by omega)) d_Mo_tree_45 ?_
        refine lv_topi (fun v_61 e_62 => ?_)
        refine lv_goto (tgt := 105) hx hb d_Mo_tree_46 (by decide) ?_
        exact W.iret (v := v_61) hx hb hr (fun t9 ht hW => ⟨v_61, h_33, rfl, ⟨hT, hkf, ⟨(0 : Int32), F_m9, ⟨hsd, hlo, (by omega), ⟨by omega, by omega⟩, ⟨by omega, by omega⟩⟩⟩⟩, by rw [ht]; exact hH, by rw [ht]; exact hz⟩) hLo d_Mo_tree_105
