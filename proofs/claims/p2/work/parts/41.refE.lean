set_option maxRecDepth 100000 in
theorem mw_646 : Cond.fieldLink R_Mo 54 "WriteOnceDiscModel" "plan" "[B" ∈ lw_g := lw_gin (List.mem_append_right _ (List.mem_of_getElem? (i := 938) rfl)) (by decide +kernel)
set_option maxRecDepth 100000 in
theorem mw_647 : Cond.code y_Mo_low b_Mo_low 5 none ∈ lw_g := lw_gin (List.mem_append_right _ (List.mem_of_getElem? (i := 1189) rfl)) (by decide +kernel)
set_option maxRecDepth 100000 in
theorem mw_648 : Cond.methodLink R_Mo 181 y_Mo_low ∈ lw_g := lw_gin (List.mem_append_right _ (List.mem_of_getElem? (i := 1186) rfl)) (by decide +kernel)
set_option maxRecDepth 100000 in
theorem mw_649 : Cond.instanceMethod y_Mo_low ∈ lw_g := lw_gin (List.mem_append_right _ (List.mem_of_getElem? (i := 1188) rfl)) (by decide +kernel)
set_option maxRecDepth 100000 in
theorem mw_650 : Cond.selects R_Mo y_Mo_low y_Mo_low ∈ lw_g := lw_gin (List.mem_append_left _ (List.mem_of_getElem? (i := 47) rfl)) (by decide +kernel)
set_option maxRecDepth 100000 in
theorem mw_651 : Cond.code y_Mo_high b_Mo_high 5 none ∈ lw_g := lw_gin (List.mem_append_right _ (List.mem_of_getElem? (i := 1193) rfl)) (by decide +kernel)
set_option maxRecDepth 100000 in
theorem mw_652 : Cond.methodLink R_Mo 185 y_Mo_high ∈ lw_g := lw_gin (List.mem_append_right _ (List.mem_of_getElem? (i := 1190) rfl)) (by decide +kernel)
set_option maxRecDepth 100000 in
theorem mw_653 : Cond.instanceMethod y_Mo_high ∈ lw_g := lw_gin (List.mem_append_right _ (List.mem_of_getElem? (i := 1192) rfl)) (by decide +kernel)
set_option maxRecDepth 100000 in
theorem mw_654 : Cond.selects R_Mo y_Mo_high y_Mo_high ∈ lw_g := lw_gin (List.mem_append_left _ (List.mem_of_getElem? (i := 48) rfl)) (by decide +kernel)
set_option maxRecDepth 100000 in
theorem mw_655 : Cond.code y_Mo_idSize b_Mo_idSize 3 (some .int) ∈ lw_g := lw_gin (List.mem_append_right _ (List.mem_of_getElem? (i := 1174) rfl)) (by decide +kernel)
set_option maxRecDepth 100000 in
theorem mw_656 : Cond.methodLink R_Mo 188 y_Mo_idSize ∈ lw_g := lw_gin (List.mem_append_right _ (List.mem_of_getElem? (i := 1172) rfl)) (by decide +kernel)
set_option maxRecDepth 100000 in
theorem mw_657 : Cond.static y_Mo_idSize ∈ lw_g := lw_gin (List.mem_append_right _ (List.mem_of_getElem? (i := 1173) rfl)) (by decide +kernel)
set_option maxRecDepth 100000 in
theorem mw_658 : Cond.code y_Mo_recordId b_Mo_recordId 3 (some .int) ∈ lw_g := lw_gin (List.mem_append_right _ (List.mem_of_getElem? (i := 1171) rfl)) (by decide +kernel)
set_option maxRecDepth 100000 in
theorem mw_659 : Cond.methodLink R_Mo 192 y_Mo_recordId ∈ lw_g := lw_gin (List.mem_append_right _ (List.mem_of_getElem? (i := 1168) rfl)) (by decide +kernel)
set_option maxRecDepth 100000 in
theorem mw_660 : Cond.instanceMethod y_Mo_recordId ∈ lw_g := lw_gin (List.mem_append_right _ (List.mem_of_getElem? (i := 1170) rfl)) (by decide +kernel)
set_option maxRecDepth 100000 in
theorem mw_661 : Cond.selects R_Mo y_Mo_recordId y_Mo_recordId ∈ lw_g := lw_gin (List.mem_append_left _ (List.mem_of_getElem? (i := 44) rfl)) (by decide +kernel)
set_option maxRecDepth 100000 in
theorem mw_662 : Cond.code y_Mo_even b_Mo_even 1 (some .int) ∈ lw_g := lw_gin (List.mem_append_right _ (List.mem_of_getElem? (i := 1177) rfl)) (by decide +kernel)
set_option maxRecDepth 100000 in
theorem mw_663 : Cond.methodLink R_Mo 196 y_Mo_even ∈ lw_g := lw_gin (List.mem_append_right _ (List.mem_of_getElem? (i := 1175) rfl)) (by decide +kernel)
set_option maxRecDepth 100000 in
theorem mw_664 : Cond.static y_Mo_even ∈ lw_g := lw_gin (List.mem_append_right _ (List.mem_of_getElem? (i := 1176) rfl)) (by decide +kernel)
set_option maxRecDepth 100000 in
theorem mw_665 : Cond.code y_Mo_both b_Mo_both 4 none ∈ lw_g := lw_gin (List.mem_append_right _ (List.mem_of_getElem? (i := 1185) rfl)) (by decide +kernel)
set_option maxRecDepth 100000 in
theorem mw_666 : Cond.methodLink R_Mo 199 y_Mo_both ∈ lw_g := lw_gin (List.mem_append_right _ (List.mem_of_getElem? (i := 1182) rfl)) (by decide +kernel)
set_option maxRecDepth 100000 in
theorem mw_667 : Cond.instanceMethod y_Mo_both ∈ lw_g := lw_gin (List.mem_append_right _ (List.mem_of_getElem? (i := 1184) rfl)) (by decide +kernel)
set_option maxRecDepth 100000 in
theorem mw_668 : Cond.selects R_Mo y_Mo_both y_Mo_both ∈ lw_g := lw_gin (List.mem_append_left _ (List.mem_of_getElem? (i := 46) rfl)) (by decide +kernel)
set_option maxRecDepth 100000 in
theorem mw_669 : Cond.fieldLink R_Mo 63 "WriteOnceDiscModel" "long0" "[I" ∈ lw_g := lw_gin (List.mem_append_right _ (List.mem_of_getElem? (i := 942) rfl)) (by decide +kernel)
set_option maxRecDepth 100000 in
theorem mw_670 : Cond.fieldLink R_Mo 60 "WriteOnceDiscModel" "at" "[I" ∈ lw_g := lw_gin (List.mem_append_right _ (List.mem_of_getElem? (i := 941) rfl)) (by decide +kernel)
set_option maxRecDepth 100000 in
theorem mw_671 : Cond.code y_Mo_record b_Mo_record 6 none ∈ lw_g := lw_gin (List.mem_append_right _ (List.mem_of_getElem? (i := 1181) rfl)) (by decide +kernel)
set_option maxRecDepth 100000 in
theorem mw_672 : Cond.methodLink R_Mo 205 y_Mo_record ∈ lw_g := lw_gin (List.mem_append_right _ (List.mem_of_getElem? (i := 1178) rfl)) (by decide +kernel)
set_option maxRecDepth 100000 in
theorem mw_673 : Cond.instanceMethod y_Mo_record ∈ lw_g := lw_gin (List.mem_append_right _ (List.mem_of_getElem? (i := 1180) rfl)) (by decide +kernel)
set_option maxRecDepth 100000 in
theorem mw_674 : Cond.selects R_Mo y_Mo_record y_Mo_record ∈ lw_g := lw_gin (List.mem_append_left _ (List.mem_of_getElem? (i := 45) rfl)) (by decide +kernel)
set_option maxRecDepth 100000 in
theorem mw_675 : Cond.code y_Mo_next b_Mo_next 5 (some .int) ∈ lw_g := lw_gin (List.mem_append_right _ (List.mem_of_getElem? (i := 1151) rfl)) (by decide +kernel)
set_option maxRecDepth 100000 in
theorem mw_676 : Cond.methodLink R_Mo 202 y_Mo_next ∈ lw_g := lw_gin (List.mem_append_right _ (List.mem_of_getElem? (i := 1148) rfl)) (by decide +kernel)
set_option maxRecDepth 100000 in
theorem mw_677 : Cond.instanceMethod y_Mo_next ∈ lw_g := lw_gin (List.mem_append_right _ (List.mem_of_getElem? (i := 1150) rfl)) (by decide +kernel)
set_option maxRecDepth 100000 in
theorem mw_678 : Cond.selects R_Mo y_Mo_next y_Mo_next ∈ lw_g := lw_gin (List.mem_append_left _ (List.mem_of_getElem? (i := 42) rfl)) (by decide +kernel)
theorem d_Mo_low_0 : decode b_Mo_low 0 = .ok (.iconst 0, 1) := by decide +kernel
theorem d_Mo_low_1 : decode b_Mo_low 1 = .ok (.istore 4, 2) := by decide +kernel
theorem d_Mo_low_3 : decode b_Mo_low 3 = .ok (.iload 4, 2) := by decide +kernel
theorem d_Mo_low_5 : decode b_Mo_low 5 = .ok (.iload_n 2, 1) := by decide +kernel
theorem d_Mo_low_6 : decode b_Mo_low 6 = .ok (.if_icmp .ge 26, 3) := by decide +kernel
theorem d_Mo_low_32 : decode b_Mo_low 32 = .ok (.return_, 1) := by decide +kernel
theorem d_Mo_low_9 : decode b_Mo_low 9 = .ok (.aload_n 0, 1) := by decide +kernel
theorem d_Mo_low_10 : decode b_Mo_low 10 = .ok (.getfield 54, 3) := by decide +kernel
theorem d_Mo_low_13 : decode b_Mo_low 13 = .ok (.iload_n 1, 1) := by decide +kernel
theorem d_Mo_low_14 : decode b_Mo_low 14 = .ok (.iload 4, 2) := by decide +kernel
theorem d_Mo_low_16 : decode b_Mo_low 16 = .ok (.iadd, 1) := by decide +kernel
theorem d_Mo_low_17 : decode b_Mo_low 17 = .ok (.iload_n 3, 1) := by decide +kernel
theorem d_Mo_low_18 : decode b_Mo_low 18 = .ok (.bipush 8, 2) := by decide +kernel
theorem d_Mo_low_20 : decode b_Mo_low 20 = .ok (.iload 4, 2) := by decide +kernel
theorem d_Mo_low_22 : decode b_Mo_low 22 = .ok (.imul, 1) := by decide +kernel
theorem d_Mo_low_23 : decode b_Mo_low 23 = .ok (.ishr, 1) := by decide +kernel
theorem d_Mo_low_24 : decode b_Mo_low 24 = .ok (.i2b, 1) := by decide +kernel
theorem d_Mo_low_25 : decode b_Mo_low 25 = .ok (.bastore, 1) := by decide +kernel
theorem d_Mo_low_26 : decode b_Mo_low 26 = .ok (.iinc 4 1, 3) := by decide +kernel
theorem d_Mo_low_29 : decode b_Mo_low 29 = .ok (.goto (-26), 3) := by decide +kernel
theorem d_Mo_high_0 : decode b_Mo_high 0 = .ok (.iconst 0, 1) := by decide +kernel
theorem d_Mo_high_1 : decode b_Mo_high 1 = .ok (.istore 4, 2) := by decide +kernel
theorem d_Mo_high_3 : decode b_Mo_high 3 = .ok (.iload 4, 2) := by decide +kernel
theorem d_Mo_high_5 : decode b_Mo_high 5 = .ok (.iload_n 2, 1) := by decide +kernel
theorem d_Mo_high_6 : decode b_Mo_high 6 = .ok (.if_icmp .ge 30, 3) := by decide +kernel
theorem d_Mo_high_36 : decode b_Mo_high 36 = .ok (.return_, 1) := by decide +kernel
theorem d_Mo_high_9 : decode b_Mo_high 9 = .ok (.aload_n 0, 1) := by decide +kernel
theorem d_Mo_high_10 : decode b_Mo_high 10 = .ok (.getfield 54, 3) := by decide +kernel
theorem d_Mo_high_13 : decode b_Mo_high 13 = .ok (.iload_n 1, 1) := by decide +kernel
theorem d_Mo_high_14 : decode b_Mo_high 14 = .ok (.iload 4, 2) := by decide +kernel
theorem d_Mo_high_16 : decode b_Mo_high 16 = .ok (.iadd, 1) := by decide +kernel
theorem d_Mo_high_17 : decode b_Mo_high 17 = .ok (.iload_n 3, 1) := by decide +kernel
theorem d_Mo_high_18 : decode b_Mo_high 18 = .ok (.bipush 8, 2) := by decide +kernel
theorem d_Mo_high_20 : decode b_Mo_high 20 = .ok (.iload_n 2, 1) := by decide +kernel
theorem d_Mo_high_21 : decode b_Mo_high 21 = .ok (.iconst 1, 1) := by decide +kernel
theorem d_Mo_high_22 : decode b_Mo_high 22 = .ok (.isub, 1) := by decide +kernel
theorem d_Mo_high_23 : decode b_Mo_high 23 = .ok (.iload 4, 2) := by decide +kernel
theorem d_Mo_high_25 : decode b_Mo_high 25 = .ok (.isub, 1) := by decide +kernel
theorem d_Mo_high_26 : decode b_Mo_high 26 = .ok (.imul, 1) := by decide +kernel
theorem d_Mo_high_27 : decode b_Mo_high 27 = .ok (.ishr, 1) := by decide +kernel
theorem d_Mo_high_28 : decode b_Mo_high 28 = .ok (.i2b, 1) := by decide +kernel
theorem d_Mo_high_29 : decode b_Mo_high 29 = .ok (.bastore, 1) := by decide +kernel
theorem d_Mo_high_30 : decode b_Mo_high 30 = .ok (.iinc 4 1, 3) := by decide +kernel
theorem d_Mo_high_33 : decode b_Mo_high 33 = .ok (.goto (-30), 3) := by decide +kernel
theorem d_Mo_both_0 : decode b_Mo_both 0 = .ok (.aload_n 0, 1) := by decide +kernel
theorem d_Mo_both_1 : decode b_Mo_both 1 = .ok (.iload_n 1, 1) := by decide +kernel
theorem d_Mo_both_2 : decode b_Mo_both 2 = .ok (.iload_n 2, 1) := by decide +kernel
theorem d_Mo_both_3 : decode b_Mo_both 3 = .ok (.iload_n 3, 1) := by decide +kernel
theorem d_Mo_both_4 : decode b_Mo_both 4 = .ok (.invokevirtual 181, 3) := by decide +kernel
theorem d_Mo_both_7 : decode b_Mo_both 7 = .ok (.aload_n 0, 1) := by decide +kernel
theorem d_Mo_both_8 : decode b_Mo_both 8 = .ok (.iload_n 1, 1) := by decide +kernel
theorem d_Mo_both_9 : decode b_Mo_both 9 = .ok (.iload_n 2, 1) := by decide +kernel
theorem d_Mo_both_10 : decode b_Mo_both 10 = .ok (.iadd, 1) := by decide +kernel
theorem d_Mo_both_11 : decode b_Mo_both 11 = .ok (.iload_n 2, 1) := by decide +kernel
theorem d_Mo_both_12 : decode b_Mo_both 12 = .ok (.iload_n 3, 1) := by decide +kernel
theorem d_Mo_both_13 : decode b_Mo_both 13 = .ok (.invokevirtual 185, 3) := by decide +kernel
theorem d_Mo_both_16 : decode b_Mo_both 16 = .ok (.return_, 1) := by decide +kernel
theorem d_Mo_recordId_0 : decode b_Mo_recordId 0 = .ok (.iload_n 1, 1) := by decide +kernel
theorem d_Mo_recordId_1 : decode b_Mo_recordId 1 = .ok (.iconst 2, 1) := by decide +kernel
theorem d_Mo_recordId_2 : decode b_Mo_recordId 2 = .ok (.if_icmp .ge 7, 3) := by decide +kernel
theorem d_Mo_recordId_9 : decode b_Mo_recordId 9 = .ok (.aload_n 0, 1) := by decide +kernel
theorem d_Mo_recordId_10 : decode b_Mo_recordId 10 = .ok (.getfield 34, 3) := by decide +kernel
theorem d_Mo_recordId_13 : decode b_Mo_recordId 13 = .ok (.iload_n 2, 1) := by decide +kernel
theorem d_Mo_recordId_14 : decode b_Mo_recordId 14 = .ok (.laload, 1) := by decide +kernel
theorem d_Mo_recordId_15 : decode b_Mo_recordId 15 = .ok (.aload_n 0, 1) := by decide +kernel
theorem d_Mo_recordId_16 : decode b_Mo_recordId 16 = .ok (.getfield 27, 3) := by decide +kernel
theorem d_Mo_recordId_19 : decode b_Mo_recordId 19 = .ok (.iload_n 2, 1) := by decide +kernel
theorem d_Mo_recordId_20 : decode b_Mo_recordId 20 = .ok (.baload, 1) := by decide +kernel
theorem d_Mo_recordId_21 : decode b_Mo_recordId 21 = .ok (.invokestatic 188, 3) := by decide +kernel
theorem d_Mo_recordId_24 : decode b_Mo_recordId 24 = .ok (.ireturn, 1) := by decide +kernel
theorem d_Mo_recordId_5 : decode b_Mo_recordId 5 = .ok (.iconst 1, 1) := by decide +kernel
theorem d_Mo_recordId_6 : decode b_Mo_recordId 6 = .ok (.goto 18, 3) := by decide +kernel
theorem d_Mo_record_0 : decode b_Mo_record 0 = .ok (.aload_n 0, 1) := by decide +kernel
theorem d_Mo_record_1 : decode b_Mo_record 1 = .ok (.iload_n 2, 1) := by decide +kernel
theorem d_Mo_record_2 : decode b_Mo_record 2 = .ok (.iload_n 3, 1) := by decide +kernel
theorem d_Mo_record_3 : decode b_Mo_record 3 = .ok (.invokevirtual 192, 3) := by decide +kernel
theorem d_Mo_record_6 : decode b_Mo_record 6 = .ok (.istore 4, 2) := by decide +kernel
theorem d_Mo_record_8 : decode b_Mo_record 8 = .ok (.aload_n 0, 1) := by decide +kernel
theorem d_Mo_record_9 : decode b_Mo_record 9 = .ok (.getfield 54, 3) := by decide +kernel
theorem d_Mo_record_12 : decode b_Mo_record 12 = .ok (.iload_n 1, 1) := by decide +kernel
theorem d_Mo_record_13 : decode b_Mo_record 13 = .ok (.bipush 33, 2) := by decide +kernel
theorem d_Mo_record_15 : decode b_Mo_record 15 = .ok (.iload 4, 2) := by decide +kernel
theorem d_Mo_record_17 : decode b_Mo_record 17 = .ok (.iadd, 1) := by decide +kernel
theorem d_Mo_record_18 : decode b_Mo_record 18 = .ok (.invokestatic 196, 3) := by decide +kernel
theorem d_Mo_record_21 : decode b_Mo_record 21 = .ok (.i2b, 1) := by decide +kernel
theorem d_Mo_record_22 : decode b_Mo_record 22 = .ok (.bastore, 1) := by decide +kernel
theorem d_Mo_record_23 : decode b_Mo_record 23 = .ok (.aload_n 0, 1) := by decide +kernel
theorem d_Mo_record_24 : decode b_Mo_record 24 = .ok (.iload_n 1, 1) := by decide +kernel
theorem d_Mo_record_25 : decode b_Mo_record 25 = .ok (.iconst 2, 1) := by decide +kernel
theorem d_Mo_record_26 : decode b_Mo_record 26 = .ok (.iadd, 1) := by decide +kernel
theorem d_Mo_record_27 : decode b_Mo_record 27 = .ok (.iconst 4, 1) := by decide +kernel
theorem d_Mo_record_52 : decode b_Mo_record 52 = .ok (.invokevirtual 199, 3) := by decide +kernel
theorem d_Mo_record_55 : decode b_Mo_record 55 = .ok (.aload_n 0, 1) := by decide +kernel
theorem d_Mo_record_56 : decode b_Mo_record 56 = .ok (.iload_n 1, 1) := by decide +kernel
theorem d_Mo_record_57 : decode b_Mo_record 57 = .ok (.bipush 10, 2) := by decide +kernel
theorem d_Mo_record_59 : decode b_Mo_record 59 = .ok (.iadd, 1) := by decide +kernel
theorem d_Mo_record_60 : decode b_Mo_record 60 = .ok (.iconst 4, 1) := by decide +kernel
theorem d_Mo_record_89 : decode b_Mo_record 89 = .ok (.invokevirtual 199, 3) := by decide +kernel
theorem d_Mo_record_92 : decode b_Mo_record 92 = .ok (.aload_n 0, 1) := by decide +kernel
theorem d_Mo_record_93 : decode b_Mo_record 93 = .ok (.getfield 54, 3) := by decide +kernel
theorem d_Mo_record_96 : decode b_Mo_record 96 = .ok (.iload_n 1, 1) := by decide +kernel
theorem d_Mo_record_97 : decode b_Mo_record 97 = .ok (.bipush 25, 2) := by decide +kernel
theorem d_Mo_record_99 : decode b_Mo_record 99 = .ok (.iadd, 1) := by decide +kernel
theorem d_Mo_record_114 : decode b_Mo_record 114 = .ok (.i2b, 1) := by decide +kernel
theorem d_Mo_record_115 : decode b_Mo_record 115 = .ok (.bastore, 1) := by decide +kernel
theorem d_Mo_record_116 : decode b_Mo_record 116 = .ok (.aload_n 0, 1) := by decide +kernel
theorem d_Mo_record_117 : decode b_Mo_record 117 = .ok (.iload_n 1, 1) := by decide +kernel
theorem d_Mo_record_118 : decode b_Mo_record 118 = .ok (.bipush 28, 2) := by decide +kernel
theorem d_Mo_record_120 : decode b_Mo_record 120 = .ok (.iadd, 1) := by decide +kernel
theorem d_Mo_record_121 : decode b_Mo_record 121 = .ok (.iconst 2, 1) := by decide +kernel
theorem d_Mo_record_122 : decode b_Mo_record 122 = .ok (.iconst 1, 1) := by decide +kernel
theorem d_Mo_record_123 : decode b_Mo_record 123 = .ok (.invokevirtual 199, 3) := by decide +kernel
theorem d_Mo_record_126 : decode b_Mo_record 126 = .ok (.aload_n 0, 1) := by decide +kernel
theorem d_Mo_record_127 : decode b_Mo_record 127 = .ok (.getfield 54, 3) := by decide +kernel
theorem d_Mo_record_130 : decode b_Mo_record 130 = .ok (.iload_n 1, 1) := by decide +kernel
theorem d_Mo_record_131 : decode b_Mo_record 131 = .ok (.bipush 32, 2) := by decide +kernel
theorem d_Mo_record_133 : decode b_Mo_record 133 = .ok (.iadd, 1) := by decide +kernel
theorem d_Mo_record_134 : decode b_Mo_record 134 = .ok (.iload 4, 2) := by decide +kernel
theorem d_Mo_record_136 : decode b_Mo_record 136 = .ok (.i2b, 1) := by decide +kernel
theorem d_Mo_record_137 : decode b_Mo_record 137 = .ok (.bastore, 1) := by decide +kernel
theorem d_Mo_record_138 : decode b_Mo_record 138 = .ok (.iconst 0, 1) := by decide +kernel
theorem d_Mo_record_139 : decode b_Mo_record 139 = .ok (.istore 5, 2) := by decide +kernel
theorem d_Mo_record_141 : decode b_Mo_record 141 = .ok (.iload 5, 2) := by decide +kernel
theorem d_Mo_record_143 : decode b_Mo_record 143 = .ok (.iload 4, 2) := by decide +kernel
theorem d_Mo_record_145 : decode b_Mo_record 145 = .ok (.if_icmp .ge 48, 3) := by decide +kernel
theorem d_Mo_record_193 : decode b_Mo_record 193 = .ok (.return_, 1) := by decide +kernel
theorem d_Mo_record_148 : decode b_Mo_record 148 = .ok (.aload_n 0, 1) := by decide +kernel
theorem d_Mo_record_149 : decode b_Mo_record 149 = .ok (.getfield 54, 3) := by decide +kernel
theorem d_Mo_record_152 : decode b_Mo_record 152 = .ok (.iload_n 1, 1) := by decide +kernel
theorem d_Mo_record_153 : decode b_Mo_record 153 = .ok (.bipush 33, 2) := by decide +kernel
theorem d_Mo_record_155 : decode b_Mo_record 155 = .ok (.iadd, 1) := by decide +kernel
theorem d_Mo_record_156 : decode b_Mo_record 156 = .ok (.iload 5, 2) := by decide +kernel
theorem d_Mo_record_158 : decode b_Mo_record 158 = .ok (.iadd, 1) := by decide +kernel
theorem d_Mo_record_159 : decode b_Mo_record 159 = .ok (.iload_n 2, 1) := by decide +kernel
theorem d_Mo_record_160 : decode b_Mo_record 160 = .ok (.iconst 2, 1) := by decide +kernel
theorem d_Mo_record_161 : decode b_Mo_record 161 = .ok (.if_icmp .ge 7, 3) := by decide +kernel
theorem d_Mo_record_168 : decode b_Mo_record 168 = .ok (.aload_n 0, 1) := by decide +kernel
theorem d_Mo_record_169 : decode b_Mo_record 169 = .ok (.getfield 34, 3) := by decide +kernel
theorem d_Mo_record_172 : decode b_Mo_record 172 = .ok (.iload_n 3, 1) := by decide +kernel
theorem d_Mo_record_173 : decode b_Mo_record 173 = .ok (.laload, 1) := by decide +kernel
theorem d_Mo_record_174 : decode b_Mo_record 174 = .ok (.aload_n 0, 1) := by decide +kernel
theorem d_Mo_record_175 : decode b_Mo_record 175 = .ok (.getfield 27, 3) := by decide +kernel
theorem d_Mo_record_178 : decode b_Mo_record 178 = .ok (.iload_n 3, 1) := by decide +kernel
theorem d_Mo_record_179 : decode b_Mo_record 179 = .ok (.baload, 1) := by decide +kernel
theorem d_Mo_record_180 : decode b_Mo_record 180 = .ok (.iload 5, 2) := by decide +kernel
theorem d_Mo_record_182 : decode b_Mo_record 182 = .ok (.invokestatic 173, 3) := by decide +kernel
theorem d_Mo_record_185 : decode b_Mo_record 185 = .ok (.i2b, 1) := by decide +kernel
theorem d_Mo_record_186 : decode b_Mo_record 186 = .ok (.bastore, 1) := by decide +kernel
theorem d_Mo_record_187 : decode b_Mo_record 187 = .ok (.iinc 5 1, 3) := by decide +kernel
theorem d_Mo_record_190 : decode b_Mo_record 190 = .ok (.goto (-49), 3) := by decide +kernel
theorem d_Mo_record_164 : decode b_Mo_record 164 = .ok (.iload_n 2, 1) := by decide +kernel
theorem d_Mo_record_165 : decode b_Mo_record 165 = .ok (.goto 20, 3) := by decide +kernel
theorem d_Mo_record_100 : decode b_Mo_record 100 = .ok (.aload_n 0, 1) := by decide +kernel
theorem d_Mo_record_101 : decode b_Mo_record 101 = .ok (.getfield 27, 3) := by decide +kernel
theorem d_Mo_record_104 : decode b_Mo_record 104 = .ok (.iload_n 3, 1) := by decide +kernel
theorem d_Mo_record_105 : decode b_Mo_record 105 = .ok (.baload, 1) := by decide +kernel
theorem d_Mo_record_106 : decode b_Mo_record 106 = .ok (.ifCond .eq 7, 3) := by decide +kernel
theorem d_Mo_record_113 : decode b_Mo_record 113 = .ok (.iconst 0, 1) := by decide +kernel
theorem d_Mo_record_109 : decode b_Mo_record 109 = .ok (.iconst 2, 1) := by decide +kernel
theorem d_Mo_record_110 : decode b_Mo_record 110 = .ok (.goto 4, 3) := by decide +kernel
theorem d_Mo_record_61 : decode b_Mo_record 61 = .ok (.aload_n 0, 1) := by decide +kernel
theorem d_Mo_record_62 : decode b_Mo_record 62 = .ok (.getfield 27, 3) := by decide +kernel
theorem d_Mo_record_65 : decode b_Mo_record 65 = .ok (.iload_n 3, 1) := by decide +kernel
theorem d_Mo_record_66 : decode b_Mo_record 66 = .ok (.baload, 1) := by decide +kernel
theorem d_Mo_record_67 : decode b_Mo_record 67 = .ok (.ifCond .eq 16, 3) := by decide +kernel
theorem d_Mo_record_83 : decode b_Mo_record 83 = .ok (.aload_n 0, 1) := by decide +kernel
theorem d_Mo_record_84 : decode b_Mo_record 84 = .ok (.getfield 38, 3) := by decide +kernel
theorem d_Mo_record_87 : decode b_Mo_record 87 = .ok (.iload_n 3, 1) := by decide +kernel
theorem d_Mo_record_88 : decode b_Mo_record 88 = .ok (.iaload, 1) := by decide +kernel
theorem d_Mo_record_70 : decode b_Mo_record 70 = .ok (.sipush 2048, 3) := by decide +kernel
theorem d_Mo_record_73 : decode b_Mo_record 73 = .ok (.aload_n 0, 1) := by decide +kernel
theorem d_Mo_record_74 : decode b_Mo_record 74 = .ok (.getfield 63, 3) := by decide +kernel
theorem d_Mo_record_77 : decode b_Mo_record 77 = .ok (.iload_n 3, 1) := by decide +kernel
theorem d_Mo_record_78 : decode b_Mo_record 78 = .ok (.iaload, 1) := by decide +kernel
theorem d_Mo_record_79 : decode b_Mo_record 79 = .ok (.imul, 1) := by decide +kernel
theorem d_Mo_record_80 : decode b_Mo_record 80 = .ok (.goto 9, 3) := by decide +kernel
theorem d_Mo_record_28 : decode b_Mo_record 28 = .ok (.aload_n 0, 1) := by decide +kernel
theorem d_Mo_record_29 : decode b_Mo_record 29 = .ok (.getfield 27, 3) := by decide +kernel
theorem d_Mo_record_32 : decode b_Mo_record 32 = .ok (.iload_n 3, 1) := by decide +kernel
theorem d_Mo_record_33 : decode b_Mo_record 33 = .ok (.baload, 1) := by decide +kernel
theorem d_Mo_record_34 : decode b_Mo_record 34 = .ok (.ifCond .eq 12, 3) := by decide +kernel
theorem d_Mo_record_46 : decode b_Mo_record 46 = .ok (.aload_n 0, 1) := by decide +kernel
theorem d_Mo_record_47 : decode b_Mo_record 47 = .ok (.getfield 47, 3) := by decide +kernel
theorem d_Mo_record_50 : decode b_Mo_record 50 = .ok (.iload_n 3, 1) := by decide +kernel
theorem d_Mo_record_51 : decode b_Mo_record 51 = .ok (.iaload, 1) := by decide +kernel
theorem d_Mo_record_37 : decode b_Mo_record 37 = .ok (.aload_n 0, 1) := by decide +kernel
theorem d_Mo_record_38 : decode b_Mo_record 38 = .ok (.getfield 60, 3) := by decide +kernel
theorem d_Mo_record_41 : decode b_Mo_record 41 = .ok (.iload_n 3, 1) := by decide +kernel
theorem d_Mo_record_42 : decode b_Mo_record 42 = .ok (.iaload, 1) := by decide +kernel
theorem d_Mo_record_43 : decode b_Mo_record 43 = .ok (.goto 9, 3) := by decide +kernel
theorem d_Mo_along_0 : decode b_Mo_along 0 = .ok (.iconst 0, 1) := by decide +kernel
theorem d_Mo_along_1 : decode b_Mo_along 1 = .ok (.istore 4, 2) := by decide +kernel
theorem d_Mo_along_3 : decode b_Mo_along 3 = .ok (.iconst 0, 1) := by decide +kernel
theorem d_Mo_along_4 : decode b_Mo_along 4 = .ok (.istore 5, 2) := by decide +kernel
theorem d_Mo_along_6 : decode b_Mo_along 6 = .ok (.iconst (-1), 1) := by decide +kernel
theorem d_Mo_along_7 : decode b_Mo_along 7 = .ok (.istore 6, 2) := by decide +kernel
theorem d_Mo_along_9 : decode b_Mo_along 9 = .ok (.iload 5, 2) := by decide +kernel
theorem d_Mo_along_11 : decode b_Mo_along 11 = .ok (.iconst 2, 1) := by decide +kernel
theorem d_Mo_along_12 : decode b_Mo_along 12 = .ok (.if_icmp .ne 20, 3) := by decide +kernel
theorem d_Mo_along_32 : decode b_Mo_along 32 = .ok (.iload 5, 2) := by decide +kernel
theorem d_Mo_along_34 : decode b_Mo_along 34 = .ok (.ifCond .eq 13, 3) := by decide +kernel
theorem d_Mo_along_47 : decode b_Mo_along 47 = .ok (.iload_n 1, 1) := by decide +kernel
theorem d_Mo_along_48 : decode b_Mo_along 48 = .ok (.goto 20, 3) := by decide +kernel
theorem d_Mo_along_68 : decode b_Mo_along 68 = .ok (.istore 7, 2) := by decide +kernel
theorem d_Mo_along_70 : decode b_Mo_along 70 = .ok (.bipush 33, 2) := by decide +kernel
theorem d_Mo_along_72 : decode b_Mo_along 72 = .ok (.aload_n 0, 1) := by decide +kernel
theorem d_Mo_along_73 : decode b_Mo_along 73 = .ok (.iload 5, 2) := by decide +kernel
theorem d_Mo_along_75 : decode b_Mo_along 75 = .ok (.iload 7, 2) := by decide +kernel
theorem d_Mo_along_77 : decode b_Mo_along 77 = .ok (.invokevirtual 192, 3) := by decide +kernel
theorem d_Mo_along_80 : decode b_Mo_along 80 = .ok (.iadd, 1) := by decide +kernel
theorem d_Mo_along_81 : decode b_Mo_along 81 = .ok (.invokestatic 196, 3) := by decide +kernel
theorem d_Mo_along_84 : decode b_Mo_along 84 = .ok (.istore 8, 2) := by decide +kernel
theorem d_Mo_along_86 : decode b_Mo_along 86 = .ok (.iload 4, 2) := by decide +kernel
theorem d_Mo_along_88 : decode b_Mo_along 88 = .ok (.sipush 2048, 3) := by decide +kernel
theorem d_Mo_along_91 : decode b_Mo_along 91 = .ok (.irem, 1) := by decide +kernel
theorem d_Mo_along_92 : decode b_Mo_along 92 = .ok (.iload 8, 2) := by decide +kernel
theorem d_Mo_along_94 : decode b_Mo_along 94 = .ok (.iadd, 1) := by decide +kernel
theorem d_Mo_along_95 : decode b_Mo_along 95 = .ok (.sipush 2048, 3) := by decide +kernel
theorem d_Mo_along_98 : decode b_Mo_along 98 = .ok (.if_icmp .le 18, 3) := by decide +kernel
theorem d_Mo_along_116 : decode b_Mo_along 116 = .ok (.iload_n 3, 1) := by decide +kernel
theorem d_Mo_along_117 : decode b_Mo_along 117 = .ok (.ifCond .eq 15, 3) := by decide +kernel
theorem d_Mo_along_132 : decode b_Mo_along 132 = .ok (.iload 4, 2) := by decide +kernel
theorem d_Mo_along_134 : decode b_Mo_along 134 = .ok (.iload 8, 2) := by decide +kernel
theorem d_Mo_along_136 : decode b_Mo_along 136 = .ok (.iadd, 1) := by decide +kernel
theorem d_Mo_along_137 : decode b_Mo_along 137 = .ok (.istore 4, 2) := by decide +kernel
theorem d_Mo_along_139 : decode b_Mo_along 139 = .ok (.iload 5, 2) := by decide +kernel
theorem d_Mo_along_141 : decode b_Mo_along 141 = .ok (.iconst 2, 1) := by decide +kernel
theorem d_Mo_along_142 : decode b_Mo_along 142 = .ok (.if_icmp .ge 10, 3) := by decide +kernel
theorem d_Mo_along_145 : decode b_Mo_along 145 = .ok (.iload 5, 2) := by decide +kernel
theorem d_Mo_along_147 : decode b_Mo_along 147 = .ok (.iconst 1, 1) := by decide +kernel
theorem d_Mo_along_148 : decode b_Mo_along 148 = .ok (.iadd, 1) := by decide +kernel
theorem d_Mo_along_149 : decode b_Mo_along 149 = .ok (.goto 4, 3) := by decide +kernel
theorem d_Mo_along_153 : decode b_Mo_along 153 = .ok (.istore 5, 2) := by decide +kernel
theorem d_Mo_along_155 : decode b_Mo_along 155 = .ok (.goto (-146), 3) := by decide +kernel
theorem d_Mo_along_120 : decode b_Mo_along 120 = .ok (.aload_n 0, 1) := by decide +kernel
theorem d_Mo_along_121 : decode b_Mo_along 121 = .ok (.iload_n 2, 1) := by decide +kernel
theorem d_Mo_along_122 : decode b_Mo_along 122 = .ok (.iload 4, 2) := by decide +kernel
theorem d_Mo_along_124 : decode b_Mo_along 124 = .ok (.iadd, 1) := by decide +kernel
theorem d_Mo_along_125 : decode b_Mo_along 125 = .ok (.iload 5, 2) := by decide +kernel
theorem d_Mo_along_127 : decode b_Mo_along 127 = .ok (.iload 7, 2) := by decide +kernel
theorem d_Mo_along_129 : decode b_Mo_along 129 = .ok (.invokevirtual 205, 3) := by decide +kernel
theorem d_Mo_along_37 : decode b_Mo_along 37 = .ok (.iload 5, 2) := by decide +kernel
theorem d_Mo_along_39 : decode b_Mo_along 39 = .ok (.iconst 1, 1) := by decide +kernel
theorem d_Mo_along_40 : decode b_Mo_along 40 = .ok (.if_icmp .ne 11, 3) := by decide +kernel
theorem d_Mo_along_43 : decode b_Mo_along 43 = .ok (.iload_n 1, 1) := by decide +kernel
theorem d_Mo_along_44 : decode b_Mo_along 44 = .ok (.ifCond .ne 7, 3) := by decide +kernel
theorem d_Mo_along_51 : decode b_Mo_along 51 = .ok (.iload 5, 2) := by decide +kernel
theorem d_Mo_along_53 : decode b_Mo_along 53 = .ok (.iconst 1, 1) := by decide +kernel
theorem d_Mo_along_54 : decode b_Mo_along 54 = .ok (.if_icmp .ne 12, 3) := by decide +kernel
theorem d_Mo_along_57 : decode b_Mo_along 57 = .ok (.aload_n 0, 1) := by decide +kernel
theorem d_Mo_along_58 : decode b_Mo_along 58 = .ok (.getfield 30, 3) := by decide +kernel
theorem d_Mo_along_61 : decode b_Mo_along 61 = .ok (.iload_n 1, 1) := by decide +kernel
theorem d_Mo_along_62 : decode b_Mo_along 62 = .ok (.iaload, 1) := by decide +kernel
theorem d_Mo_along_63 : decode b_Mo_along 63 = .ok (.goto 5, 3) := by decide +kernel
theorem d_Mo_along_15 : decode b_Mo_along 15 = .ok (.aload_n 0, 1) := by decide +kernel
theorem d_Mo_along_16 : decode b_Mo_along 16 = .ok (.iload_n 1, 1) := by decide +kernel
theorem d_Mo_along_17 : decode b_Mo_along 17 = .ok (.iload 6, 2) := by decide +kernel
theorem d_Mo_along_19 : decode b_Mo_along 19 = .ok (.invokevirtual 202, 3) := by decide +kernel
theorem d_Mo_along_22 : decode b_Mo_along 22 = .ok (.istore 6, 2) := by decide +kernel
theorem d_Mo_along_24 : decode b_Mo_along 24 = .ok (.iload 6, 2) := by decide +kernel
theorem d_Mo_along_26 : decode b_Mo_along 26 = .ok (.ifCond .ge 6, 3) := by decide +kernel
theorem d_Mo_along_66 : decode b_Mo_along 66 = .ok (.iload 6, 2) := by decide +kernel
theorem d_Mo_along_152 : decode b_Mo_along 152 = .ok (.iconst 2, 1) := by decide +kernel
theorem d_Mo_along_29 : decode b_Mo_along 29 = .ok (.iload 4, 2) := by decide +kernel
theorem d_Mo_along_31 : decode b_Mo_along 31 = .ok (.ireturn, 1) := by decide +kernel
/-- alI's own form for words that are numbers -/
noncomputable def meM (it di pa : Nat → Int32) (nm : Nat → Int64) (m : Nat) (d k : Int32) : Nat := if k.toInt < 0 then 0 else 1 + cntP (rmB it di pa nm d k) m
theorem me_next {it di pa : Nat → Int32} {nm : Nat → Int64} {m : Nat} {ma d k r : Int32} (hm : m = ma.toInt.toNat) (hk : 0 ≤ k.toInt) (h : nxP it di pa nm ma.toInt d k r) : meM it di pa nm m d r < meM it di pa nm m d k := by
  unfold meM
  rw [if_neg (show ¬ k.toInt < 0 by omega)]
  split
  · omega
  · have := rm_next hm h (by omega)
    omega
def kvP (it pa : Nat → Int32) (m : Int) (d k : Int32) : Prop := k = -1 ∨ (1 ≤ k.toInt ∧ k.toInt < m ∧ it k.toInt.toNat = 1 ∧ pa k.toInt.toNat = d)
theorem nx_kv {it di pa : Nat → Int32} {nm : Nat → Int64} {m : Int} {d b r : Int32} (h : nxP it di pa nm m d b r) : kvP it pa m d r := by
  rcases h with h | ⟨h1, h2, h3, h4, -⟩
  · exact Or.inl h
  · exact Or.inr ⟨h1, h2, h3, h4⟩
theorem kv_lt {it pa : Nat → Int32} {m : Int} {d k : Int32} (h : kvP it pa m d k) (hm : m ≤ 700) : k.toInt < 700 := by
  rcases h with rfl | h
  · decide
  · omega
theorem tab_d {it pa T : Nat → Int32} {m D : Nat} {i v ma : Int32} (hQ : tabQ it pa T m D) (hm : m = ma.toInt.toNat) (h7 : ma.toInt ≤ 700) (h0 : 0 ≤ i.toInt) (hi : i.toInt.toNat < D) (hv : v = T i.toNatClampNeg) : 0 ≤ v.toInt ∧ v.toInt < 700 ∧ (v.toInt = 0 ∨ lvM it m v.toInt.toNat) ∧ (¬ v.toInt = 0 → ∃ j, j < 30 ∧ T j = pa v.toInt.toNat) := by
  obtain ⟨-, h30, ⟨a0, a1, a2, -⟩, hu⟩ := hQ
  rw [clN] at hv
  subst hv
  have h1 := a1 _ hi
  by_cases hz : i.toInt.toNat = 0
  · rw [hz, a0]
    exact ⟨by decide, by decide, Or.inl rfl, fun z => absurd rfl z⟩
  · obtain ⟨⟨g1, g2⟩, g3⟩ := a2 _ (by omega) hi
    obtain ⟨j, j1, j2⟩ := hu _ (by omega) hi
    exact ⟨h1, by omega, Or.inr ⟨g1, g2⟩, fun _ => ⟨j, by omega, j2.symm⟩⟩
/-- where the directories lie -/
def atQ (T at0 : Nat → Int32) (b : Int) (D k : Nat) : Prop := ∀ j, j < k → b + 20 ≤ (at0 (T j).toInt.toNat).toInt ∧ (at0 (T j).toInt.toNat).toInt < b + 20 + D
theorem atQ_up {T at0 : Nat → Int32} {b : Int} {D k : Nat} {v s i i' : Int32} (h : atQ T at0 b D i.toInt.toNat) (h0 : 0 ≤ i.toInt) (hi : i'.toInt = i.toInt + 1) (hv : v = T i.toNatClampNeg) (hs : b + 20 ≤ s.toInt ∧ s.toInt < b + 20 + D) : atQ T (upd at0 v.toNatClampNeg s) b D i'.toInt.toNat := fun j hj => by
  rw [clN] at hv ⊢
  by_cases hjv : (T j).toInt.toNat = v.toInt.toNat
  · rw [hjv, upd_s]
    exact hs
  · rw [upd_n _ hjv]
    refine h j ?_
    by_cases hji : j = i.toInt.toNat
    · subst hji
      rw [hv] at hjv
      exact absurd rfl hjv
    · omega
theorem par_ok {it pa : Nat → Int32} {m : Nat} {ma v d : Int32} (hT : treeM it pa m) (hm : m = ma.toInt.toNat) (h7 : ma.toInt ≤ 700) (hd : d.toInt = 0 ∨ lvM it m d.toInt.toNat) (h0 : ¬ d.toInt = 0) (hd0 : 0 ≤ d.toInt) (hv : v = pa d.toNatClampNeg) : 0 ≤ v.toInt ∧ v.toInt < 700 := by
  rw [clN] at hv
  rcases hd with h | h
  · exact absurd h h0
  · have g1 := hT.2.1 _ h (by omega)
    have g2 := (hT.1 _ h).2 v.toInt.toNat (by unfold prM; rw [if_neg (by omega), hv])
    have := g2.1
    rw [← hv] at g1
    omega

set_option maxHeartbeats 4000000 in
set_option maxRecDepth 100000 in
theorem m_low (l : Launch) (D : va_G) (t : Nat → ClassId) (G : hG) (ak av : Nat → Nat) (h : hM) (τ : tM) (n : Nat) (m9 : Nat) (p9 : Int32) (c9 : Int32) (v9 : Int32) (A : Nat → Nat) (th sd lo le wr ma nu di pl se wg op : Int32) (hn : n ≤ 200) (hT : TI τ t n h) (T_m9 : τ m9 = (20, 0)) (F_m9 : h m9 = some (.inr (9, mf A n th sd lo le wr ma nu di pl se wg op))) (hA : ∀ i, i < 28 → τ (A i) = (30, i)) (hmk : mOk sd lo ma se op) (hp0 : 0 ≤ p9.toInt) (hp1 : p9.toInt + c9.toInt ≤ 163840) : Met l y_Mo_low (.code y_Mo_low b_Mo_low 5 none :: lw_g) { frames := 0, cells := 0, slots := 0, locals := 0 } (hP (kE D t G ak av) D vwCl G h [.ref m9, .int p9, .int c9, .int v9]) (hQv D vwCl G (fun h' => TI τ t n h' ∧ kf τ [(30, 13)] [] h h')) 0 0 G.P := by
  refine Met.ofW (cc := b_Mo_low) (maxL := 5) (ret := none) (by decide) rfl ?_
  intro p e s m args below meth c s₁ Bd hml hv
  obtain ⟨ha, hE, hH⟩ := hv
  have hx := Bd.exec
  have hb := Bd.bytes
  have hr := Bd.returns
  have hts : ∀ w ∈ lw_g, w.before args s = true := fun w hw => atoms_spec (ws := (.code y_Mo_low b_Mo_low 5 none :: lw_g)) Bd.pre w (List.mem_cons_of_mem _ hw)
  have hown : s.vm.findClass R_Mo = some m.cls := findClass_of_methodNamed Bd.named
  have hlocks := Bd.notSynchronized
  have hK := hE.1
  have hH0 := hH
  have hLo : hLc G.P [] := hLc_nil
  have hz : s.heap.size ≤ s.heap.size := Nat.le_refl _
  have hl := lv_entry [.ref m9, .int p9, .int c9, .int v9] (n := 5) (Nat.le_of_ble_eq_true rfl)
  rw [show entryFrame m args 5 = F0 m 0 ((lg_sl [.ref m9, .int p9, .int c9, .int v9] ++ List.replicate (5 - (lg_sl [.ref m9, .int p9, .int c9, .int v9]).length) Slot.unset).toArray) [] from (by rw [ha]; exact lg_entry_eq m [.ref m9, .int p9, .int c9, .int v9] 5)]
  generalize (lg_sl [.ref m9, .int p9, .int c9, .int v9] ++ List.replicate (5 - (lg_sl [.ref m9, .int p9, .int c9, .int v9]).length) Slot.unset).toArray = ls at hl ⊢
  have hl : lv_has ls 5 [(0, .ref m9), (1, .int p9), (2, .int c9), (3, .int v9)] := hl
  have hkf : kf τ [(30, 13)] [] h h := kf_rf
  obtain ⟨hsd, hlo, hma, hse, hop⟩ := id hmk
  have inI : (nI n).toInt = n := nI_toInt (by omega)
  refine lv_iconst (v := 0) hx hb d_Mo_low_0 (by decide) ?_
  refine lv_istore (lv' := [(4, .int 0), (0, .ref m9), (1, .int p9), (2, .int c9), (3, .int v9)]) hx hb d_Mo_low_1 hl (by decide) rfl (fun ls hl => ?_)
  refine hm_loop (fun k3 ls H locs hh3 => ∃ (i9 : Int32), k3 = mU i9 ∧ lv_has ls 5 [(0, .ref m9), (1, .int p9), (2, .int c9), (3, .int v9), (4, .int i9)] ∧ hm D vwCl G hh3 H ∧ s.heap.size ≤ H.size ∧ hLc G.P locs ∧ hh3 m9 = some (.inr (9, mf A n th sd lo le wr ma nu di pl se wg op)) ∧ (TI τ t n hh3) ∧ (kf τ [(30, 13)] [] h hh3) ∧ (0 ≤ i9.toInt)) ?_ (hh := h) ⟨0, rfl, (lv_sub hl [1, 2, 3, 4, 0] rfl), hH, hz, hLo, F_m9, hT, hkf, (by decide)⟩
  rintro k3 ls H locs hh3 ⟨i9, hk3, hl, hH, hz, hLo, F_m9, hT, hkf, I_i9⟩ ih3
  refine lv_iload hx hb d_Mo_low_3 (lv_at hl 4 rfl) ?_
  refine lv_iload_n hx hb d_Mo_low_5 rfl (lv_at hl 2 rfl) ?_
  refine lv_icmp_ge (tgt := 32) hx hb d_Mo_low_6 (by decide) (fun hc_1 => ?_) (fun hc_1 => ?_)
  · skip
    have ic_2 : c9.toInt ≤ i9.toInt := iLe hc_1
    exact W.vret hx hb hr (fun t9 ht hW => ⟨hh3, rfl, ⟨hT, hkf⟩, by rw [ht]; exact hH, by rw [ht]; exact hz⟩) hLo d_Mo_low_32
  · skip
    have ic_3 : i9.toInt < c9.toInt := iNe hc_1
    have iu_4 : c9.toInt < 2147483648 := iUp _
    refine lv_aload_n hx hb d_Mo_low_9 rfl (lv_at hl 0 rfl) ?_
    refine hm_get (ci := 9) (v := .ref (A 13)) (C := R_Mo) (T := F_Mo) (N := 41) hx hb hts ig_Mo hown hK hH F_m9 rfl 21 (by decide) (hts _ mw_646) (fun _ h9 => h9) rfl d_Mo_low_10 ?_
    refine lv_iload_n hx hb d_Mo_low_13 rfl (lv_at hl 1 rfl) ?_
    refine lv_iload hx hb d_Mo_low_14 (lv_at hl 4 rfl) ?_
    refine lv_iadd hx hb d_Mo_low_16 ?_
    refine lv_topi (fun v_5 e_6 => ?_)
    refine lv_iload_n hx hb d_Mo_low_17 rfl (lv_at hl 3 rfl) ?_
    refine lv_bipush (v := 8) hx hb d_Mo_low_18 (by decide) ?_
    refine lv_iload hx hb d_Mo_low_20 (lv_at hl 4 rfl) ?_
    refine lv_imul hx hb d_Mo_low_22 ?_
    refine lv_topi (fun v_7 e_8 => ?_)
    refine lv_ishr hx hb d_Mo_low_23 ?_
    refine lv_topi (fun v_9 e_10 => ?_)
    refine lv_i2b (v := v_9.toInt8.toInt32) hx hb d_Mo_low_24 rfl ?_
    obtain ⟨g_11, F_A13, c_12⟩ := TI_arB (L := 163840) hT (hA 13 (by decide)) rfl rfl
    have is_13 : v_5.toInt = p9.toInt + i9.toInt := by rw [e_6]; exact iAdd (by omega) (by omega)
    refine hm_bast hx hb hK hH hLo 0 F_A13 rfl (iIn (by omega) (by omega)) d_Mo_low_25 (fun H_14 locs hH z_15 hLo => ?_)
    have hz : s.heap.size ≤ H_14.size := by rw [z_15]; exact hz
    obtain ⟨h_16, e_17⟩ : ∃ z, z = hu hh3 (A 13) (.inl ((t 0), 163840, .inl (upd g_11 v_5.toNatClampNeg (vp_nar .byte v_9.toInt8.toInt32)))) := ⟨_, rfl⟩
    have hH : hm D vwCl G h_16 H_14 := by rw [e_17]; exact hH
    have F_m9 : h_16 m9 = some (.inr (9, mf A n th sd lo le wr ma nu di pl se wg op)) := by rw [e_17, hu_n (tne T_m9 (hA 13 (by decide)) (by decide))]; exact F_m9
    have F_A13 : h_16 (A 13) = some (.inl ((t 0), 163840, .inl (upd g_11 v_5.toNatClampNeg (vp_nar .byte v_9.toInt8.toInt32)))) := by rw [e_17]; exact hu_s _ _ _
    have hT : TI τ t n h_16 := by rw [e_17]; exact TI_put hT (hA 13 (by decide)) (by decide) (ok_B rfl rfl (sb_fitU c_12 (fitNar _)))
    have hkf : kf τ [(30, 13)] [] h h_16 := by rw [e_17]; exact kf_put hkf (hA 13 (by decide)) List.mem_cons_self
    obtain ⟨g_18, e_19⟩ : ∃ z, z = upd g_11 v_5.toNatClampNeg (vp_nar .byte v_9.toInt8.toInt32) := ⟨_, rfl⟩
    rw [← e_19] at F_A13
    have c_20 : sb_Fit g_18 := by rw [e_19]; exact (sb_fitU c_12 (fitNar _))
    obtain ⟨j_21, e_22⟩ : ∃ z : Int32, z = i9 + 1 := ⟨_, rfl⟩
    refine lv_iinc (v := j_21) (lv' := [(4, .int j_21), (0, .ref m9), (1, .int p9), (2, .int c9), (3, .int v9)]) hx hb d_Mo_low_26 hl (k := 4) rfl e_22.symm (by decide) rfl (fun ls hl => ?_)
    refine lv_goto (tgt := 3) hx hb d_Mo_low_29 (by decide) ?_
    have is_23 : j_21.toInt = i9.toInt + 1 := by rw [e_22]; exact iAddK 1 rfl (by omega) (by omega)
    exact ih3 (mU j_21) ls _ locs _ (by rw [hk3]; exact mU_lt (by omega)) ⟨j_21, rfl, (lv_sub hl [1, 2, 3, 4, 0] rfl), hH, hz, hLo, F_m9, hT, hkf, (by omega)⟩

set_option maxHeartbeats 4000000 in
set_option maxRecDepth 100000 in
theorem m_high (l : Launch) (D : va_G) (t : Nat → ClassId) (G : hG) (ak av : Nat → Nat) (h : hM) (τ : tM) (n : Nat) (m9 : Nat) (p9 : Int32) (c9 : Int32) (v9 : Int32) (A : Nat → Nat) (th sd lo le wr ma nu di pl se wg op : Int32) (hn : n ≤ 200) (hT : TI τ t n h) (T_m9 : τ m9 = (20, 0)) (F_m9 : h m9 = some (.inr (9, mf A n th sd lo le wr ma nu di pl se wg op))) (hA : ∀ i, i < 28 → τ (A i) = (30, i)) (hmk : mOk sd lo ma se op) (hp0 : 0 ≤ p9.toInt) (hp1 : p9.toInt + c9.toInt ≤ 163840) : Met l y_Mo_high (.code y_Mo_high b_Mo_high 5 none :: lw_g) { frames := 0, cells := 0, slots := 0, locals := 0 } (hP (kE D t G ak av) D vwCl G h [.ref m9, .int p9, .int c9, .int v9]) (hQv D vwCl G (fun h' => TI τ t n h' ∧ kf τ [(30, 13)] [] h h')) 0 0 G.P := by
  refine Met.ofW (cc := b_Mo_high) (maxL := 5) (ret := none) (by decide) rfl ?_
  intro p e s m args below meth c s₁ Bd hml hv
  obtain ⟨ha, hE, hH⟩ := hv
  have hx := Bd.exec
  have hb := Bd.bytes
  have hr := Bd.returns
  have hts : ∀ w ∈ lw_g, w.before args s = true := fun w hw => atoms_spec (ws := (.code y_Mo_high b_Mo_high 5 none :: lw_g)) Bd.pre w (List.mem_cons_of_mem _ hw)
  have hown : s.vm.findClass R_Mo = some m.cls := findClass_of_methodNamed Bd.named
  have hlocks := Bd.notSynchronized
  have hK := hE.1
  have hH0 := hH
  have hLo : hLc G.P [] := hLc_nil
  have hz : s.heap.size ≤ s.heap.size := Nat.le_refl _
  have hl := lv_entry [.ref m9, .int p9, .int c9, .int v9] (n := 5) (Nat.le_of_ble_eq_true rfl)
  rw [show entryFrame m args 5 = F0 m 0 ((lg_sl [.ref m9, .int p9, .int c9, .int v9] ++ List.replicate (5 - (lg_sl [.ref m9, .int p9, .int c9, .int v9]).length) Slot.unset).toArray) [] from (by rw [ha]; exact lg_entry_eq m [.ref m9, .int p9, .int c9, .int v9] 5)]
  generalize (lg_sl [.ref m9, .int p9, .int c9, .int v9] ++ List.replicate (5 - (lg_sl [.ref m9, .int p9, .int c9, .int v9]).length) Slot.unset).toArray = ls at hl ⊢
  have hl : lv_has ls 5 [(0, .ref m9), (1, .int p9), (2, .int c9), (3, .int v9)] := hl
  have hkf : kf τ [(30, 13)] [] h h := kf_rf
  obtain ⟨hsd, hlo, hma, hse, hop⟩ := id hmk
  have inI : (nI n).toInt = n := nI_toInt (by omega)
  refine lv_iconst (v := 0) hx hb d_Mo_high_0 (by decide) ?_
  refine lv_istore (lv' := [(4, .int 0), (0, .ref m9), (1, .int p9), (2, .int c9), (3, .int v9)]) hx hb d_Mo_high_1 hl (by decide) rfl (fun ls hl => ?_)
  refine hm_loop (fun k3 ls H locs hh3 => ∃ (i9 : Int32), k3 = mU i9 ∧ lv_has ls 5 [(0, .ref m9), (1, .int p9), (2, .int c9), (3, .int v9), (4, .int i9)] ∧ hm D vwCl G hh3 H ∧ s.heap.size ≤ H.size ∧ hLc G.P locs ∧ hh3 m9 = some (.inr (9, mf A n th sd lo le wr ma nu di pl se wg op)) ∧ (TI τ t n hh3) ∧ (kf τ [(30, 13)] [] h hh3) ∧ (0 ≤ i9.toInt)) ?_ (hh := h) ⟨0, rfl, (lv_sub hl [1, 2, 3, 4, 0] rfl), hH, hz, hLo, F_m9, hT, hkf, (by decide)⟩
  rintro k3 ls H locs hh3 ⟨i9, hk3, hl, hH, hz, hLo, F_m9, hT, hkf, I_i9⟩ ih3
  refine lv_iload hx hb d_Mo_high_3 (lv_at hl 4 rfl) ?_
  refine lv_iload_n hx hb d_Mo_high_5 rfl (lv_at hl 2 rfl) ?_
  refine lv_icmp_ge (tgt := 36) hx hb d_Mo_high_6 (by decide) (fun hc_1 => ?_) (fun hc_1 => ?_)
  · skip
    have ic_2 : c9.toInt ≤ i9.toInt := iLe hc_1
    exact W.vret hx hb hr (fun t9 ht hW => ⟨hh3, rfl, ⟨hT, hkf⟩, by rw [ht]; exact hH, by rw [ht]; exact hz⟩) hLo d_Mo_high_36
  · skip
    have ic_3 : i9.toInt < c9.toInt := iNe hc_1
    have iu_4 : c9.toInt < 2147483648 := iUp _
    refine lv_aload_n hx hb d_Mo_high_9 rfl (lv_at hl 0 rfl) ?_
    refine hm_get (ci := 9) (v := .ref (A 13)) (C := R_Mo) (T := F_Mo) (N := 41) hx hb hts ig_Mo hown hK hH F_m9 rfl 21 (by decide) (hts _ mw_646) (fun _ h9 => h9) rfl d_Mo_high_10 ?_
    refine lv_iload_n hx hb d_Mo_high_13 rfl (lv_at hl 1 rfl) ?_
    refine lv_iload hx hb d_Mo_high_14 (lv_at hl 4 rfl) ?_
    refine lv_iadd hx hb d_Mo_high_16 ?_
    refine lv_topi (fun v_5 e_6 => ?_)
    refine lv_iload_n hx hb d_Mo_high_17 rfl (lv_at hl 3 rfl) ?_
    refine lv_bipush (v := 8) hx hb d_Mo_high_18 (by decide) ?_
    refine lv_iload_n hx hb d_Mo_high_20 rfl (lv_at hl 2 rfl) ?_
    refine lv_iconst (v := 1) hx hb d_Mo_high_21 (by decide) ?_
    refine lv_isub hx hb d_Mo_high_22 ?_
    refine lv_topi (fun v_7 e_8 => ?_)
    refine lv_iload hx hb d_Mo_high_23 (lv_at hl 4 rfl) ?_
    refine lv_isub hx hb d_Mo_high_25 ?_
    refine lv_topi (fun v_9 e_10 => ?_)
    refine lv_imul hx hb d_Mo_high_26 ?_
    refine lv_topi (fun v_11 e_12 => ?_)
    refine lv_ishr hx hb d_Mo_high_27 ?_
    refine lv_topi (fun v_13 e_14 => ?_)
    refine lv_i2b (v := v_13.toInt8.toInt32) hx hb d_Mo_high_28 rfl ?_
    obtain ⟨g_15, F_A13, c_16⟩ := TI_arB (L := 163840) hT (hA 13 (by decide)) rfl rfl
    have is_17 : v_5.toInt = p9.toInt + i9.toInt := by rw [e_6]; exact iAdd (by omega) (by omega)
    refine hm_bast hx hb hK hH hLo 0 F_A13 rfl (iIn (by omega) (by omega)) d_Mo_high_29 (fun H_18 locs hH z_19 hLo => ?_)
    have hz : s.heap.size ≤ H_18.size := by rw [z_19]; exact hz
    obtain ⟨h_20, e_21⟩ : ∃ z, z = hu hh3 (A 13) (.inl ((t 0), 163840, .inl (upd g_15 v_5.toNatClampNeg (vp_nar .byte v_13.toInt8.toInt32)))) := ⟨_, rfl⟩
    have hH : hm D vwCl G h_20 H_18 := by rw [e_21]; exact hH
    have F_m9 : h_20 m9 = some (.inr (9, mf A n th sd lo le wr ma nu di pl se wg op)) := by rw [e_21, hu_n (tne T_m9 (hA 13 (by decide)) (by decide))]; exact F_m9
    have F_A13 : h_20 (A 13) = some (.inl ((t 0), 163840, .inl (upd g_15 v_5.toNatClampNeg (vp_nar .byte v_13.toInt8.toInt32)))) := by rw [e_21]; exact hu_s _ _ _
    have hT : TI τ t n h_20 := by rw [e_21]; exact TI_put hT (hA 13 (by decide)) (by decide) (ok_B rfl rfl (sb_fitU c_16 (fitNar _)))
    have hkf : kf τ [(30, 13)] [] h h_20 := by rw [e_21]; exact kf_put hkf (hA 13 (by decide)) List.mem_cons_self
    obtain ⟨g_22, e_23⟩ : ∃ z, z = upd g_15 v_5.toNatClampNeg (vp_nar .byte v_13.toInt8.toInt32) := ⟨_, rfl⟩
    rw [← e_23] at F_A13
    have c_24 : sb_Fit g_22 := by rw [e_23]; exact (sb_fitU c_16 (fitNar _))
    obtain ⟨j_25, e_26⟩ : ∃ z : Int32, z = i9 + 1 := ⟨_, rfl⟩
    refine lv_iinc (v := j_25) (lv' := [(4, .int j_25), (0, .ref m9), (1, .int p9), (2, .int c9), (3, .int v9)]) hx hb d_Mo_high_30 hl (k := 4) rfl e_26.symm (by decide) rfl (fun ls hl => ?_)
    refine lv_goto (tgt := 3) hx hb d_Mo_high_33 (by decide) ?_
    have is_27 : j_25.toInt = i9.toInt + 1 := by rw [e_26]; exact iAddK 1 rfl (by omega) (by omega)
    exact ih3 (mU j_25) ls _ locs _ (by rw [hk3]; exact mU_lt (by omega)) ⟨j_25, rfl, (lv_sub hl [1, 2, 3, 4, 0] rfl), hH, hz, hLo, F_m9, hT, hkf, (by omega)⟩

set_option maxHeartbeats 4000000 in
set_option maxRecDepth 100000 in
theorem m_both (l : Launch) (D : va_G) (t : Nat → ClassId) (G : hG) (ak av : Nat → Nat) (h : hM) (τ : tM) (n : Nat) (m9 : Nat) (p9 : Int32) (c9 : Int32) (v9 : Int32) (A : Nat → Nat) (th sd lo le wr ma nu di pl se wg op : Int32) (hn : n ≤ 200) (hT : TI τ t n h) (T_m9 : τ m9 = (20, 0)) (F_m9 : h m9 = some (.inr (9, mf A n th sd lo le wr ma nu di pl se wg op))) (hA : ∀ i, i < 28 → τ (A i) = (30, i)) (hmk : mOk sd lo ma se op) (hp0 : 0 ≤ p9.toInt) (hc0 : 0 ≤ c9.toInt) (hp1 : p9.toInt + 2 * c9.toInt ≤ 163840) : Met l y_Mo_both (.code y_Mo_both b_Mo_both 4 none :: lw_g) { frames := 1, cells := 0, slots := 0, locals := 24 } (hP (kE D t G ak av) D vwCl G h [.ref m9, .int p9, .int c9, .int v9]) (hQv D vwCl G (fun h' => TI τ t n h' ∧ kf τ [(30, 13)] [] h h')) 0 0 G.P := by
  refine Met.ofW (cc := b_Mo_both) (maxL := 4) (ret := none) (by decide) rfl ?_
  intro p e s m args below meth c s₁ Bd hml hv
  obtain ⟨ha, hE, hH⟩ := hv
  have hx := Bd.exec
  have hb := Bd.bytes
  have hr := Bd.returns
  have hts : ∀ w ∈ lw_g, w.before args s = true := fun w hw => atoms_spec (ws := (.code y_Mo_both b_Mo_both 4 none :: lw_g)) Bd.pre w (List.mem_cons_of_mem _ hw)
  have hown : s.vm.findClass R_Mo = some m.cls := findClass_of_methodNamed Bd.named
  have hlocks := Bd.notSynchronized
  have hK := hE.1
  have hH0 := hH
  have hLo : hLc G.P [] := hLc_nil
  have hz : s.heap.size ≤ s.heap.size := Nat.le_refl _
  have hl := lv_entry [.ref m9, .int p9, .int c9, .int v9] (n := 4) (Nat.le_of_ble_eq_true rfl)
  rw [show entryFrame m args 4 = F0 m 0 ((lg_sl [.ref m9, .int p9, .int c9, .int v9] ++ List.replicate (4 - (lg_sl [.ref m9, .int p9, .int c9, .int v9]).length) Slot.unset).toArray) [] from (by rw [ha]; exact lg_entry_eq m [.ref m9, .int p9, .int c9, .int v9] 4)]
  generalize (lg_sl [.ref m9, .int p9, .int c9, .int v9] ++ List.replicate (4 - (lg_sl [.ref m9, .int p9, .int c9, .int v9]).length) Slot.unset).toArray = ls at hl ⊢
  have hl : lv_has ls 4 [(0, .ref m9), (1, .int p9), (2, .int c9), (3, .int v9)] := hl
  have hkf : kf τ [(30, 13)] [] h h := kf_rf
  obtain ⟨hsd, hlo, hma, hse, hop⟩ := id hmk
  have inI : (nI n).toInt = n := nI_toInt (by omega)
  refine lv_aload_n hx hb d_Mo_both_0 rfl (lv_at hl 0 rfl) ?_
  refine lv_iload_n hx hb d_Mo_both_1 rfl (lv_at hl 1 rfl) ?_
  refine lv_iload_n hx hb d_Mo_both_2 rfl (lv_at hl 2 rfl) ?_
  refine lv_iload_n hx hb d_Mo_both_3 rfl (lv_at hl 3 rfl) ?_
  refine hm_callv (va_runV (As := [.int p9, .int c9, .int v9]) (b := m9) (rest := []) ⟨hx, hb, hml, hown, hts⟩ (m_low l D t G ak av h τ n m9 p9 c9 v9 A th sd lo le wr ma nu di pl se wg op   hn hT T_m9  F_m9 hA ⟨hsd, hlo, (by omega), ⟨by omega, by omega⟩, ⟨by omega, by omega⟩⟩ (by omega) (by omega)) ⟨cw9B 3 hts mw_647 mw_648 mw_579 rfl rfl (by decide +kernel) ⟨Nat.le_of_ble_eq_true rfl, Nat.le_of_ble_eq_true rfl⟩, hts _ mw_649, hts _ mw_650⟩ (hP_V (q := (R_Mo, F_Mo, 41)) kE_ok hE hK hH F_m9 rfl) rfl rfl hl.1 rfl (lv_room (Nat.le_of_ble_eq_true rfl)) d_Mo_both_4 ⟨Nat.le_of_ble_eq_true rfl, Nat.le_of_ble_eq_true rfl⟩) hLo (fun h_1 H_2 locs hp_4 hH z_3 hLo => ?_)
  have hz : s.heap.size ≤ H_2.size := Nat.le_trans hz z_3
  have hT0 := hT
  obtain ⟨hT, kf_6⟩ := hp_4
  have F_m9 : h_1 m9 = some (.inr (9, mf A n th sd lo le wr ma nu di pl se wg op)) := kf_at kf_6 T_m9 (by decide) (tnc (by decide) tn0) nm0 F_m9
  have hkf : kf τ [(30, 13)] [] h h_1 := kf_tr hkf kf_6 (List.forall_mem_cons.mpr ⟨List.mem_cons_self, List.forall_mem_nil _⟩) (List.forall_mem_nil _)
  refine lv_aload_n hx hb d_Mo_both_7 rfl (lv_at hl 0 rfl) ?_
  refine lv_iload_n hx hb d_Mo_both_8 rfl (lv_at hl 1 rfl) ?_
  refine lv_iload_n hx hb d_Mo_both_9 rfl (lv_at hl 2 rfl) ?_
  refine lv_iadd hx hb d_Mo_both_10 ?_
  refine lv_topi (fun v_7 e_8 => ?_)
  refine lv_iload_n hx hb d_Mo_both_11 rfl (lv_at hl 2 rfl) ?_
  refine lv_iload_n hx hb d_Mo_both_12 rfl (lv_at hl 3 rfl) ?_
  have is_9 : v_7.toInt = p9.toInt + c9.toInt := by rw [e_8]; exact iAdd (by omega) (by omega)
  refine hm_callv (va_runV (As := [.int v_7, .int c9, .int v9]) (b := m9) (rest := []) ⟨hx, hb, hml, hown, hts⟩ (m_high l D t G ak av h_1 τ n m9 v_7 c9 v9 A th sd lo le wr ma nu di pl se wg op   hn hT T_m9  F_m9 hA ⟨hsd, hlo, (by omega), ⟨by omega, by omega⟩, ⟨by omega, by omega⟩⟩ (by omega) (by omega)) ⟨cw9B 3 hts mw_651 mw_652 mw_579 rfl rfl (by decide +kernel) ⟨Nat.le_of_ble_eq_true rfl, Nat.le_of_ble_eq_true rfl⟩, hts _ mw_653, hts _ mw_654⟩ (hP_V (q := (R_Mo, F_Mo, 41)) kE_ok hE hK hH F_m9 rfl) rfl rfl hl.1 rfl (lv_room (Nat.le_of_ble_eq_true rfl)) d_Mo_both_13 ⟨Nat.le_of_ble_eq_true rfl, Nat.le_of_ble_eq_true rfl⟩) hLo (fun h_10 H_11 locs hp_13 hH z_12 hLo => ?_)
  have hz : s.heap.size ≤ H_11.size := Nat.le_trans hz z_12
  have hT0 := hT
  obtain ⟨hT, kf_15⟩ := hp_13
  have F_m9 : h_10 m9 = some (.inr (9, mf A n th sd lo le wr ma nu di pl se wg op)) := kf_at kf_15 T_m9 (by decide) (tnc (by decide) tn0) nm0 F_m9
  have hkf : kf τ [(30, 13)] [] h h_10 := kf_tr hkf kf_15 (List.forall_mem_cons.mpr ⟨List.mem_cons_self, List.forall_mem_nil _⟩) (List.forall_mem_nil _)
  exact W.vret hx hb hr (fun t9 ht hW => ⟨h_10, rfl, ⟨hT, hkf⟩, by rw [ht]; exact hH, by rw [ht]; exact hz⟩) hLo d_Mo_both_16

set_option maxHeartbeats 4000000 in
set_option maxRecDepth 100000 in
theorem m_recId (l : Launch) (D : va_G) (t : Nat → ClassId) (G : hG) (ak av : Nat → Nat) (h : hM) (τ : tM) (n : Nat) (m9 : Nat) (so9 : Int32) (k9 : Int32) (A : Nat → Nat) (th sd lo le wr ma nu di pl se wg op : Int32) (hn : n ≤ 200) (hT : TI τ t n h) (T_m9 : τ m9 = (20, 0)) (F_m9 : h m9 = some (.inr (9, mf A n th sd lo le wr ma nu di pl se wg op))) (hA : ∀ i, i < 28 → τ (A i) = (30, i)) (hmk : mOk sd lo ma se op) (hk0 : 0 ≤ k9.toInt) (hk1 : k9.toInt < 700) : Met l y_Mo_recordId (.code y_Mo_recordId b_Mo_recordId 3 (some .int) :: lw_g) { frames := 2, cells := 0, slots := 0, locals := 44 } (hP (kE D t G ak av) D vwCl G h [.ref m9, .int so9, .int k9]) (hQi D vwCl G (fun r h' => ((0 ≤ r.toInt ∧ r.toInt ≤ 11) ∧ (so9.toInt < 2 → r.toInt = 1)) ∧ h = h')) 0 0 nof := by
  refine Met.ofW (cc := b_Mo_recordId) (maxL := 3) (ret := (some .int)) (by decide) rfl ?_
  intro p e s m args below meth c s₁ Bd hml hv
  obtain ⟨ha, hE, hH⟩ := hv
  have hx := Bd.exec
  have hb := Bd.bytes
  have hr := Bd.returns
  have hts : ∀ w ∈ lw_g, w.before args s = true := fun w hw => atoms_spec (ws := (.code y_Mo_recordId b_Mo_recordId 3 (some .int) :: lw_g)) Bd.pre w (List.mem_cons_of_mem _ hw)
  have hown : s.vm.findClass R_Mo = some m.cls := findClass_of_methodNamed Bd.named
  have hlocks := Bd.notSynchronized
  have hK := hE.1
  have hH0 := hH
  have hLo : hLc nof [] := hLc_nil
  have hz : s.heap.size ≤ s.heap.size := Nat.le_refl _
  have hl := lv_entry [.ref m9, .int so9, .int k9] (n := 3) (Nat.le_of_ble_eq_true rfl)
  rw [show entryFrame m args 3 = F0 m 0 ((lg_sl [.ref m9, .int so9, .int k9] ++ List.replicate (3 - (lg_sl [.ref m9, .int so9, .int k9]).length) Slot.unset).toArray) [] from (by rw [ha]; exact lg_entry_eq m [.ref m9, .int so9, .int k9] 3)]
  generalize (lg_sl [.ref m9, .int so9, .int k9] ++ List.replicate (3 - (lg_sl [.ref m9, .int so9, .int k9]).length) Slot.unset).toArray = ls at hl ⊢
  have hl : lv_has ls 3 [(0, .ref m9), (1, .int so9), (2, .int k9)] := hl
  obtain ⟨hsd, hlo, hma, hse, hop⟩ := id hmk
  have inI : (nI n).toInt = n := nI_toInt (by omega)
  refine lv_iload_n hx hb d_Mo_recordId_0 rfl (lv_at hl 1 rfl) ?_
  refine lv_iconst (v := 2) hx hb d_Mo_recordId_1 (by decide) ?_
  refine lv_icmp_ge (tgt := 9) hx hb d_Mo_recordId_2 (by decide) (fun hc_1 => ?_) (fun hc_1 => ?_)
  · skip
    have ic_2 : 2 ≤ so9.toInt := iLe hc_1
    refine lv_aload_n hx hb d_Mo_recordId_9 rfl (lv_at hl 0 rfl) ?_
    refine hm_get (ci := 9) (v := .ref (A 7)) (C := R_Mo) (T := F_Mo) (N := 41) hx hb hts ig_Mo hown hK hH F_m9 rfl 14 (by decide) (hts _ mw_598) (fun _ h9 => h9) rfl d_Mo_recordId_10 ?_
    refine lv_iload_n hx hb d_Mo_recordId_13 rfl (lv_at hl 2 rfl) ?_
    obtain ⟨g_3, F_A7⟩ := TI_arJ (L := 700) hT (hA 7 (by decide)) rfl rfl
    refine hm_lald hx hb hK hH 3 F_A7 rfl (iIn (by omega) (by omega)) d_Mo_recordId_14 ?_
    refine lv_topl (fun v_4 e_5 => ?_)
    refine lv_aload_n hx hb d_Mo_recordId_15 rfl (lv_at hl 0 rfl) ?_
    refine hm_get (ci := 9) (v := .ref (A 5)) (C := R_Mo) (T := F_Mo) (N := 41) hx hb hts ig_Mo hown hK hH F_m9 rfl 12 (by decide) (hts _ mw_606) (fun _ h9 => h9) rfl d_Mo_recordId_16 ?_
    refine lv_iload_n hx hb d_Mo_recordId_19 rfl (lv_at hl 2 rfl) ?_
    obtain ⟨g_6, F_A5, c_7⟩ := TI_arZ (L := 700) hT (hA 5 (by decide)) rfl rfl
    refine hm_zald hx hb hK hH 1 F_A5 rfl (iIn (by omega) (by omega)) d_Mo_recordId_20 ?_
    refine lv_topi (fun v_8 e_9 => ?_)
    have c_10 : zb v_8 := by rw [e_9]; exact c_7 _
    refine hm_callPi (va_runS (As := [.long v_4, .int v_8]) (rest := []) ⟨hx, hb, hml, hown, hts⟩ (m_idSize l D t G ak av h τ n v_4 v_8    hn hT c_10   ) ⟨cw9B 2 hts mw_655 mw_656 mw_579 rfl rfl (by decide +kernel) ⟨Nat.le_of_ble_eq_true rfl, Nat.le_of_ble_eq_true rfl⟩, hts _ mw_657⟩ (hP_S kE_ok hE hH) rfl rfl hl.1 rfl (lv_room (Nat.le_of_ble_eq_true rfl)) d_Mo_recordId_21 ⟨Nat.le_of_ble_eq_true rfl, Nat.le_of_ble_eq_true rfl⟩) (fun r_11 h_12 H_13 hp_15  hH z_14 => ?_)
    have hz : s.heap.size ≤ H_13.size := Nat.le_trans hz z_14
    obtain ⟨xp_16, rfl⟩ := hp_15
    exact W.iret (v := r_11) hx hb hr (fun t9 ht hW => ⟨r_11, h, rfl, ⟨⟨⟨by omega, by omega⟩, fun z => absurd z (by omega)⟩, rfl⟩, by rw [ht]; exact hH, by rw [ht]; exact hz⟩) hLo d_Mo_recordId_24
  · skip
    have ic_17 : so9.toInt < 2 := iNe hc_1
    refine lv_iconst (v := 1) hx hb d_Mo_recordId_5 (by decide) ?_
    refine lv_goto (tgt := 24) hx hb d_Mo_recordId_6 (by decide) ?_
    exact W.iret (v := 1) hx hb hr (fun t9 ht hW => ⟨1, h, rfl, ⟨⟨⟨by decide, by decide⟩, fun _ => rfl⟩, rfl⟩, by rw [ht]; exact hH, by rw [ht]; exact hz⟩) hLo d_Mo_recordId_24

set_option maxHeartbeats 4000000 in
set_option maxRecDepth 100000 in
theorem m_record (l : Launch) (D : va_G) (t : Nat → ClassId) (G : hG) (ak av : Nat → Nat) (h : hM) (τ : tM) (n : Nat) (m9 : Nat) (p9 : Int32) (so9 : Int32) (k9 : Int32) (A : Nat → Nat) (th sd lo le wr ma nu di pl se wg op : Int32) (hn : n ≤ 200) (hT : TI τ t n h) (T_m9 : τ m9 = (20, 0)) (F_m9 : h m9 = some (.inr (9, mf A n th sd lo le wr ma nu di pl se wg op))) (hA : ∀ i, i < 28 → τ (A i) = (30, i)) (hmk : mOk sd lo ma se op) (hp0 : 0 ≤ p9.toInt) (hp1 : p9.toInt + 44 ≤ 163840) (hk0 : 0 ≤ k9.toInt) (hk1 : k9.toInt < 700) : Met l y_Mo_record (.code y_Mo_record b_Mo_record 6 none :: lw_g) { frames := 3, cells := 0, slots := 0, locals := 68 } (hP (kE D t G ak av) D vwCl G h [.ref m9, .int p9, .int so9, .int k9]) (hQv D vwCl G (fun h' => TI τ t n h' ∧ kf τ [(30, 13)] [] h h')) 0 0 G.P := by
  refine Met.ofW (cc := b_Mo_record) (maxL := 6) (ret := none) (by decide) rfl ?_
  intro p e s m args below meth c s₁ Bd hml hv
  obtain ⟨ha, hE, hH⟩ := hv
  have hx := Bd.exec
  have hb := Bd.bytes
  have hr := Bd.returns
  have hts : ∀ w ∈ lw_g, w.before args s = true := fun w hw => atoms_spec (ws := (.code y_Mo_record b_Mo_record 6 none :: lw_g)) Bd.pre w (List.mem_cons_of_mem _ hw)
  have hown : s.vm.findClass R_Mo = some m.cls := findClass_of_methodNamed Bd.named
  have hlocks := Bd.notSynchronized
  have hK := hE.1
  have hH0 := hH
  have hLo : hLc G.P [] := hLc_nil
  have hz : s.heap.size ≤ s.heap.size := Nat.le_refl _
  have hl := lv_entry [.ref m9, .int p9, .int so9, .int k9] (n := 6) (Nat.le_of_ble_eq_true rfl)
  rw [show entryFrame m args 6 = F0 m 0 ((lg_sl [.ref m9, .int p9, .int so9, .int k9] ++ List.replicate (6 - (lg_sl [.ref m9, .int p9, .int so9, .int k9]).length) Slot.unset).toArray) [] from (by rw [ha]; exact lg_entry_eq m [.ref m9, .int p9, .int so9, .int k9] 6)]
  generalize (lg_sl [.ref m9, .int p9, .int so9, .int k9] ++ List.replicate (6 - (lg_sl [.ref m9, .int p9, .int so9, .int k9]).length) Slot.unset).toArray = ls at hl ⊢
  have hl : lv_has ls 6 [(0, .ref m9), (1, .int p9), (2, .int so9), (3, .int k9)] := hl
  have hkf : kf τ [(30, 13)] [] h h := kf_rf
  obtain ⟨hsd, hlo, hma, hse, hop⟩ := id hmk
  have inI : (nI n).toInt = n := nI_toInt (by omega)
  refine lv_aload_n hx hb d_Mo_record_0 rfl (lv_at hl 0 rfl) ?_
  refine lv_iload_n hx hb d_Mo_record_1 rfl (lv_at hl 2 rfl) ?_
  refine lv_iload_n hx hb d_Mo_record_2 rfl (lv_at hl 3 rfl) ?_
  refine hm_callPi (va_runV (As := [.int so9, .int k9]) (b := m9) (rest := []) ⟨hx, hb, hml, hown, hts⟩ (m_recId l D t G ak av h τ n m9 so9 k9 A th sd lo le wr ma nu di pl se wg op   hn hT T_m9  F_m9 hA ⟨hsd, hlo, (by omega), ⟨by omega, by omega⟩, ⟨by omega, by omega⟩⟩ (by omega) (by omega)) ⟨cw9B 2 hts mw_658 mw_659 mw_579 rfl rfl (by decide +kernel) ⟨Nat.le_of_ble_eq_true rfl, Nat.le_of_ble_eq_true rfl⟩, hts _ mw_660, hts _ mw_661⟩ (hP_V (q := (R_Mo, F_Mo, 41)) kE_ok hE hK hH F_m9 rfl) rfl rfl hl.1 rfl (lv_room (Nat.le_of_ble_eq_true rfl)) d_Mo_record_3 ⟨Nat.le_of_ble_eq_true rfl, Nat.le_of_ble_eq_true rfl⟩) (fun r_1 h_2 H_3 hp_5  hH z_4 => ?_)
  have hz : s.heap.size ≤ H_3.size := Nat.le_trans hz z_4
  obtain ⟨xp_6, rfl⟩ := hp_5
  obtain ⟨ir1, ir2⟩ := xp_6
  refine lv_istore (lv' := [(4, .int r_1), (0, .ref m9), (1, .int p9), (2, .int so9), (3, .int k9)]) hx hb d_Mo_record_6 hl (by decide) rfl (fun ls hl => ?_)
  refine lv_aload_n hx hb d_Mo_record_8 rfl (lv_at hl 1 rfl) ?_
  refine hm_get (ci := 9) (v := .ref (A 13)) (C := R_Mo) (T := F_Mo) (N := 41) hx hb hts ig_Mo hown hK hH F_m9 rfl 21 (by decide) (hts _ mw_646) (fun _ h9 => h9) rfl d_Mo_record_9 ?_
  refine lv_iload_n hx hb d_Mo_record_12 rfl (lv_at hl 2 rfl) ?_
  refine lv_bipush (v := 33) hx hb d_Mo_record_13 (by decide) ?_
  refine lv_iload hx hb d_Mo_record_15 (lv_at hl 0 rfl) ?_
  refine lv_iadd hx hb d_Mo_record_17 ?_
  refine lv_topi (fun v_7 e_8 => ?_)
  have is_9 : v_7.toInt = 33 + r_1.toInt := by rw [e_8]; exact iAddL 33 rfl (by omega) (by omega)
  refine hm_callPi (va_runS (As := [.int v_7]) (rest := [.int p9, .ref (A 13)]) ⟨hx, hb, hml, hown, hts⟩ (m_even l D t G ak av h τ n v_7    hn hT    ) ⟨cw9B 1 hts mw_662 mw_663 mw_579 rfl rfl (by decide +kernel) ⟨Nat.le_of_ble_eq_true rfl, Nat.le_of_ble_eq_true rfl⟩, hts _ mw_664⟩ (hP_S kE_ok hE hH) rfl rfl hl.1 rfl (lv_room (Nat.le_of_ble_eq_true rfl)) d_Mo_record_18 ⟨Nat.le_of_ble_eq_true rfl, Nat.le_of_ble_eq_true rfl⟩) (fun r_10 h_11 H_12 hp_14  hH z_13 => ?_)
  have hz : s.heap.size ≤ H_12.size := Nat.le_trans hz z_13
  obtain ⟨xp_15, rfl⟩ := hp_14
  refine lv_i2b (v := r_10.toInt8.toInt32) hx hb d_Mo_record_21 rfl ?_
  obtain ⟨g_16, F_A13, c_17⟩ := TI_arB (L := 163840) hT (hA 13 (by decide)) rfl rfl
  refine hm_bast hx hb hK hH hLo 0 F_A13 rfl (iIn (by omega) (by omega)) d_Mo_record_22 (fun H_18 locs hH z_19 hLo => ?_)
  have hz : s.heap.size ≤ H_18.size := by rw [z_19]; exact hz
  obtain ⟨h_20, e_21⟩ : ∃ z, z = hu h (A 13) (.inl ((t 0), 163840, .inl (upd g_16 p9.toNatClampNeg (vp_nar .byte r_10.toInt8.toInt32)))) := ⟨_, rfl⟩
  have hH : hm D vwCl G h_20 H_18 := by rw [e_21]; exact hH
  have F_m9 : h_20 m9 = some (.inr (9, mf A n th sd lo le wr ma nu di pl se wg op)) := by rw [e_21, hu_n (tne T_m9 (hA 13 (by decide)) (by decide))]; exact F_m9
  have F_A13 : h_20 (A 13) = some (.inl ((t 0), 163840, .inl (upd g_16 p9.toNatClampNeg (vp_nar .byte r_10.toInt8.toInt32)))) := by rw [e_21]; exact hu_s _ _ _
  have hT : TI τ t n h_20 := by rw [e_21]; exact TI_put hT (hA 13 (by decide)) (by decide) (ok_B rfl rfl (sb_fitU c_17 (fitNar _)))
  have hkf : kf τ [(30, 13)] [] h h_20 := by rw [e_21]; exact kf_put hkf (hA 13 (by decide)) List.mem_cons_self
  obtain ⟨g_22, e_23⟩ : ∃ z, z = upd g_16 p9.toNatClampNeg (vp_nar .byte r_10.toInt8.toInt32) := ⟨_, rfl⟩
  rw [← e_23] at F_A13
  have c_24 : sb_Fit g_22 := by rw [e_23]; exact (sb_fitU c_17 (fitNar _))
  refine lv_aload_n hx hb d_Mo_record_23 rfl (lv_at hl 1 rfl) ?_
  refine lv_iload_n hx hb d_Mo_record_24 rfl (lv_at hl 2 rfl) ?_
  refine lv_iconst (v := 2) hx hb d_Mo_record_25 (by decide) ?_
  refine lv_iadd hx hb d_Mo_record_26 ?_
  refine lv_topi (fun v_25 e_26 => ?_)
  refine lv_iconst (v := 4) hx hb d_Mo_record_27 (by decide) ?_
  refine hm_cut (α := Int32) (fun tv9 ls H locs HH => (lv_has ls 6 [(0, .ref m9), (1, .int p9), (2, .int so9), (3, .int k9), (4, .int r_1)]) ∧ (hm D vwCl G HH H) ∧ (s.heap.size ≤ H.size) ∧ (hLc G.P locs) ∧ (h_20 = HH)) 52 (fun tv9 => [.int tv9, .int 4, .int v_25, .ref m9]) ?_ (fun J52 => ?_)
  · skip
    rintro tv9 ls H locs HH ⟨hl, hH, hz, hLo, rfl⟩
    have il_27 : (4 : Int32).toInt = 4 := rfl
    have is_28 : v_25.toInt = p9.toInt + 2 := by rw [e_26]; exact iAddK 2 rfl (by omega) (by omega)
    refine hm_callv (va_runV (As := [.int v_25, .int 4, .int tv9]) (b := m9) (rest := []) ⟨hx, hb, hml, hown, hts⟩ (m_both l D t G ak av h_20 τ n m9 v_25 4 tv9 A th sd lo le wr ma nu di pl se wg op   hn hT T_m9  F_m9 hA ⟨hsd, hlo, (by omega), ⟨by omega, by omega⟩, ⟨by omega, by omega⟩⟩ (by omega) (by omega) (by omega)) ⟨cw9B 3 hts mw_665 mw_666 mw_579 rfl rfl (by decide +kernel) ⟨Nat.le_of_ble_eq_true rfl, Nat.le_of_ble_eq_true rfl⟩, hts _ mw_667, hts _ mw_668⟩ (hP_V (q := (R_Mo, F_Mo, 41)) kE_ok hE hK hH F_m9 rfl) rfl rfl hl.1 rfl (lv_room (Nat.le_of_ble_eq_true rfl)) d_Mo_record_52 ⟨Nat.le_of_ble_eq_true rfl, Nat.le_of_ble_eq_true rfl⟩) hLo (fun h_29 H_30 locs hp_32 hH z_31 hLo => ?_)
    have hz : s.heap.size ≤ H_30.size := Nat.le_trans hz z_31
    have hT0 := hT
    obtain ⟨hT, kf_34⟩ := hp_32
    have F_m9 : h_29 m9 = some (.inr (9, mf A n th sd lo le wr ma nu di pl se wg op)) := kf_at kf_34 T_m9 (by decide) (tnc (by decide) tn0) nm0 F_m9
    have hkf : kf τ [(30, 13)] [] h h_29 := kf_tr hkf kf_34 (List.forall_mem_cons.mpr ⟨List.mem_cons_self, List.forall_mem_nil _⟩) (List.forall_mem_nil _)
    refine lv_aload_n hx hb d_Mo_record_55 rfl (lv_at hl 0 rfl) ?_
    refine lv_iload_n hx hb d_Mo_record_56 rfl (lv_at hl 1 rfl) ?_
    refine lv_bipush (v := 10) hx hb d_Mo_record_57 (by decide) ?_
    refine lv_iadd hx hb d_Mo_record_59 ?_
    refine lv_topi (fun v_35 e_36 => ?_)
    refine lv_iconst (v := 4) hx hb d_Mo_record_60 (by decide) ?_
    refine hm_cut (α := Int32) (fun tw9 ls H locs HH => (lv_has ls 6 [(0, .ref m9), (1, .int p9), (2, .int so9), (3, .int k9), (4, .int r_1)]) ∧ (hm D vwCl G HH H) ∧ (s.heap.size ≤ H.size) ∧ (hLc G.P locs) ∧ (h_29 = HH)) 89 (fun tw9 => [.int tw9, .int 4, .int v_35, .ref m9]) ?_ (fun J89 => ?_)
    · skip
      rintro tw9 ls H locs HH ⟨hl, hH, hz, hLo, rfl⟩
      have il_37 : (4 : Int32).toInt = 4 := rfl
      have is_38 : v_35.toInt = p9.toInt + 10 := by rw [e_36]; exact iAddK 10 rfl (by omega) (by omega)
      refine hm_callv (va_runV (As := [.int v_35, .int 4, .int tw9]) (b := m9) (rest := []) ⟨hx, hb, hml, hown, hts⟩ (m_both l D t G ak av h_29 τ n m9 v_35 4 tw9 A th sd lo le wr ma nu di pl se wg op   hn hT T_m9  F_m9 hA ⟨hsd, hlo, (by omega), ⟨by omega, by omega⟩, ⟨by omega, by omega⟩⟩ (by omega) (by omega) (by omega)) ⟨cw9B 3 hts mw_665 mw_666 mw_579 rfl rfl (by decide +kernel) ⟨Nat.le_of_ble_eq_true rfl, Nat.le_of_ble_eq_true rfl⟩, hts _ mw_667, hts _ mw_668⟩ (hP_V (q := (R_Mo, F_Mo, 41)) kE_ok hE hK hH F_m9 rfl) rfl rfl hl.1 rfl (lv_room (Nat.le_of_ble_eq_true rfl)) d_Mo_record_89 ⟨Nat.le_of_ble_eq_true rfl, Nat.le_of_ble_eq_true rfl⟩) hLo (fun h_39 H_40 locs hp_42 hH z_41 hLo => ?_)
      have hz : s.heap.size ≤ H_40.size := Nat.le_trans hz z_41
      have hT0 := hT
      obtain ⟨hT, kf_44⟩ := hp_42
      have F_m9 : h_39 m9 = some (.inr (9, mf A n th sd lo le wr ma nu di pl se wg op)) := kf_at kf_44 T_m9 (by decide) (tnc (by decide) tn0) nm0 F_m9
      have hkf : kf τ [(30, 13)] [] h h_39 := kf_tr hkf kf_44 (List.forall_mem_cons.mpr ⟨List.mem_cons_self, List.forall_mem_nil _⟩) (List.forall_mem_nil _)
      refine lv_aload_n hx hb d_Mo_record_92 rfl (lv_at hl 0 rfl) ?_
      refine hm_get (ci := 9) (v := .ref (A 13)) (C := R_Mo) (T := F_Mo) (N := 41) hx hb hts ig_Mo hown hK hH F_m9 rfl 21 (by decide) (hts _ mw_646) (fun _ h9 => h9) rfl d_Mo_record_93 ?_
      refine lv_iload_n hx hb d_Mo_record_96 rfl (lv_at hl 1 rfl) ?_
      refine lv_bipush (v := 25) hx hb d_Mo_record_97 (by decide) ?_
      refine lv_iadd hx hb d_Mo_record_99 ?_
      refine lv_topi (fun v_45 e_46 => ?_)
      refine hm_cut (α := Int32) (fun tx9 ls H locs HH => (lv_has ls 6 [(0, .ref m9), (1, .int p9), (2, .int so9), (3, .int k9), (4, .int r_1)]) ∧ (hm D vwCl G HH H) ∧ (s.heap.size ≤ H.size) ∧ (hLc G.P locs) ∧ (h_39 = HH)) 114 (fun tx9 => [.int tx9, .int v_45, .ref (A 13)]) ?_ (fun J114 => ?_)
      · skip
        rintro tx9 ls H locs HH ⟨hl, hH, hz, hLo, rfl⟩
        refine lv_i2b (v := tx9.toInt8.toInt32) hx hb d_Mo_record_114 rfl ?_
        obtain ⟨g_47, F_A13, c_48⟩ := TI_arB (L := 163840) hT (hA 13 (by decide)) rfl rfl
        have is_49 : v_45.toInt = p9.toInt + 25 := by rw [e_46]; exact iAddK 25 rfl (by omega) (by omega)
        refine hm_bast hx hb hK hH hLo 0 F_A13 rfl (iIn (by omega) (by omega)) d_Mo_record_115 (fun H_50 locs hH z_51 hLo => ?_)
        have hz : s.heap.size ≤ H_50.size := by rw [z_51]; exact hz
        obtain ⟨h_52, e_53⟩ : ∃ z, z = hu h_39 (A 13) (.inl ((t 0), 163840, .inl (upd g_47 v_45.toNatClampNeg (vp_nar .byte tx9.toInt8.toInt32)))) := ⟨_, rfl⟩
        have hH : hm D vwCl G h_52 H_50 := by rw [e_53]; exact hH
        have F_m9 : h_52 m9 = some (.inr (9, mf A n th sd lo le wr ma nu di pl se wg op)) := by rw [e_53, hu_n (tne T_m9 (hA 13 (by decide)) (by decide))]; exact F_m9
        have F_A13 : h_52 (A 13) = some (.inl ((t 0), 163840, .inl (upd g_47 v_45.toNatClampNeg (vp_nar .byte tx9.toInt8.toInt32)))) := by rw [e_53]; exact hu_s _ _ _
        have hT : TI τ t n h_52 := by rw [e_53]; exact TI_put hT (hA 13 (by decide)) (by decide) (ok_B rfl rfl (sb_fitU c_48 (fitNar _)))
        have hkf : kf τ [(30, 13)] [] h h_52 := by rw [e_53]; exact kf_put hkf (hA 13 (by decide)) List.mem_cons_self
        obtain ⟨g_54, e_55⟩ : ∃ z, z = upd g_47 v_45.toNatClampNeg (vp_nar .byte tx9.toInt8.toInt32) := ⟨_, rfl⟩
        rw [← e_55] at F_A13
        have c_56 : sb_Fit g_54 := by rw [e_55]; exact (sb_fitU c_48 (fitNar _))
        refine lv_aload_n hx hb d_Mo_record_116 rfl (lv_at hl 0 rfl) ?_
        refine lv_iload_n hx hb d_Mo_record_117 rfl (lv_at hl 1 rfl) ?_
        refine lv_bipush (v := 28) hx hb d_Mo_record_118 (by decide) ?_
        refine lv_iadd hx hb d_Mo_record_120 ?_
        refine lv_topi (fun v_57 e_58 => ?_)
        refine lv_iconst (v := 2) hx hb d_Mo_record_121 (by decide) ?_
        refine lv_iconst (v := 1) hx hb d_Mo_record_122 (by decide) ?_
        have il_59 : (2 : Int32).toInt = 2 := rfl
        have il_60 : (1 : Int32).toInt = 1 := rfl
        have is_61 : v_57.toInt = p9.toInt + 28 := by rw [e_58]; exact iAddK 28 rfl (by omega) (by omega)
        refine hm_callv (va_runV (As := [.int v_57, .int 2, .int 1]) (b := m9) (rest := []) ⟨hx, hb, hml, hown, hts⟩ (m_both l D t G ak av h_52 τ n m9 v_57 2 1 A th sd lo le wr ma nu di pl se wg op   hn hT T_m9  F_m9 hA ⟨hsd, hlo, (by omega), ⟨by omega, by omega⟩, ⟨by omega, by omega⟩⟩ (by omega) (by omega) (by omega)) ⟨cw9B 3 hts mw_665 mw_666 mw_579 rfl rfl (by decide +kernel) ⟨Nat.le_of_ble_eq_true rfl, Nat.le_of_ble_eq_true rfl⟩, hts _ mw_667, hts _ mw_668⟩ (hP_V (q := (R_Mo, F_Mo, 41)) kE_ok hE hK hH F_m9 rfl) rfl rfl hl.1 rfl (lv_room (Nat.le_of_ble_eq_true rfl)) d_Mo_record_123 ⟨Nat.le_of_ble_eq_true rfl, Nat.le_of_ble_eq_true rfl⟩) hLo (fun h_62 H_63 locs hp_65 hH z_64 hLo => ?_)
        have hz : s.heap.size ≤ H_63.size := Nat.le_trans hz z_64
        have hT0 := hT
        obtain ⟨hT, kf_67⟩ := hp_65
        have F_m9 : h_62 m9 = some (.inr (9, mf A n th sd lo le wr ma nu di pl se wg op)) := kf_at kf_67 T_m9 (by decide) (tnc (by decide) tn0) nm0 F_m9
        have hkf : kf τ [(30, 13)] [] h h_62 := kf_tr hkf kf_67 (List.forall_mem_cons.mpr ⟨List.mem_cons_self, List.forall_mem_nil _⟩) (List.forall_mem_nil _)
        refine lv_aload_n hx hb d_Mo_record_126 rfl (lv_at hl 0 rfl) ?_
        refine hm_get (ci := 9) (v := .ref (A 13)) (C := R_Mo) (T := F_Mo) (N := 41) hx hb hts ig_Mo hown hK hH F_m9 rfl 21 (by decide) (hts _ mw_646) (fun _ h9 => h9) rfl d_Mo_record_127 ?_
        refine lv_iload_n hx hb d_Mo_record_130 rfl (lv_at hl 1 rfl) ?_
        refine lv_bipush (v := 32) hx hb d_Mo_record_131 (by decide) ?_
        refine lv_iadd hx hb d_Mo_record_133 ?_
        refine lv_topi (fun v_68 e_69 => ?_)
        refine lv_iload hx hb d_Mo_record_134 (lv_at hl 4 rfl) ?_
        refine lv_i2b (v := r_1.toInt8.toInt32) hx hb d_Mo_record_136 rfl ?_
        obtain ⟨g_70, F_A13, c_71⟩ := TI_arB (L := 163840) hT (hA 13 (by decide)) rfl rfl
        have is_72 : v_68.toInt = p9.toInt + 32 := by rw [e_69]; exact iAddK 32 rfl (by omega) (by omega)
        refine hm_bast hx hb hK hH hLo 0 F_A13 rfl (iIn (by omega) (by omega)) d_Mo_record_137 (fun H_73 locs hH z_74 hLo => ?_)
        have hz : s.heap.size ≤ H_73.size := by rw [z_74]; exact hz
        obtain ⟨h_75, e_76⟩ : ∃ z, z = hu h_62 (A 13) (.inl ((t 0), 163840, .inl (upd g_70 v_68.toNatClampNeg (vp_nar .byte r_1.toInt8.toInt32)))) := ⟨_, rfl⟩
        have hH : hm D vwCl G h_75 H_73 := by rw [e_76]; exact hH
        have F_m9 : h_75 m9 = some (.inr (9, mf A n th sd lo le wr ma nu di pl se wg op)) := by rw [e_76, hu_n (tne T_m9 (hA 13 (by decide)) (by decide))]; exact F_m9
        have F_A13 : h_75 (A 13) = some (.inl ((t 0), 163840, .inl (upd g_70 v_68.toNatClampNeg (vp_nar .byte r_1.toInt8.toInt32)))) := by rw [e_76]; exact hu_s _ _ _
        have hT : TI τ t n h_75 := by rw [e_76]; exact TI_put hT (hA 13 (by decide)) (by decide) (ok_B rfl rfl (sb_fitU c_71 (fitNar _)))
        have hkf : kf τ [(30, 13)] [] h h_75 := by rw [e_76]; exact kf_put hkf (hA 13 (by decide)) List.mem_cons_self
        obtain ⟨g_77, e_78⟩ : ∃ z, z = upd g_70 v_68.toNatClampNeg (vp_nar .byte r_1.toInt8.toInt32) := ⟨_, rfl⟩
        rw [← e_78] at F_A13
        have c_79 : sb_Fit g_77 := by rw [e_78]; exact (sb_fitU c_71 (fitNar _))
        refine lv_iconst (v := 0) hx hb d_Mo_record_138 (by decide) ?_
        refine lv_istore (lv' := [(5, .int 0), (0, .ref m9), (1, .int p9), (2, .int so9), (3, .int k9), (4, .int r_1)]) hx hb d_Mo_record_139 hl (by decide) rfl (fun ls hl => ?_)
        refine hm_loop (fun k141 ls H locs hh141 => ∃ (i9 : Int32), k141 = mU i9 ∧ lv_has ls 6 [(0, .ref m9), (1, .int p9), (2, .int so9), (3, .int k9), (4, .int r_1), (5, .int i9)] ∧ hm D vwCl G hh141 H ∧ s.heap.size ≤ H.size ∧ hLc G.P locs ∧ hh141 m9 = some (.inr (9, mf A n th sd lo le wr ma nu di pl se wg op)) ∧ (TI τ t n hh141) ∧ (kf τ [(30, 13)] [] h hh141) ∧ (0 ≤ i9.toInt)) ?_ (hh := h_75) ⟨0, rfl, (lv_sub hl [1, 2, 3, 4, 5, 0] rfl), hH, hz, hLo, F_m9, hT, hkf, (by decide)⟩
        rintro k141 ls H locs hh141 ⟨i9, hk141, hl, hH, hz, hLo, F_m9, hT, hkf, I_i9⟩ ih141
        refine lv_iload hx hb d_Mo_record_141 (lv_at hl 5 rfl) ?_
        refine lv_iload hx hb d_Mo_record_143 (lv_at hl 4 rfl) ?_
        refine lv_icmp_ge (tgt := 193) hx hb d_Mo_record_145 (by decide) (fun hc_80 => ?_) (fun hc_80 => ?_)
        · skip
          have ic_81 : r_1.toInt ≤ i9.toInt := iLe hc_80
          exact W.vret hx hb hr (fun t9 ht hW => ⟨hh141, rfl, ⟨hT, hkf⟩, by rw [ht]; exact hH, by rw [ht]; exact hz⟩) hLo d_Mo_record_193
        · skip
          have ic_82 : i9.toInt < r_1.toInt := iNe hc_80
          have iu_83 : r_1.toInt < 2147483648 := iUp _
          refine lv_aload_n hx hb d_Mo_record_148 rfl (lv_at hl 0 rfl) ?_
          refine hm_get (ci := 9) (v := .ref (A 13)) (C := R_Mo) (T := F_Mo) (N := 41) hx hb hts ig_Mo hown hK hH F_m9 rfl 21 (by decide) (hts _ mw_646) (fun _ h9 => h9) rfl d_Mo_record_149 ?_
          refine lv_iload_n hx hb d_Mo_record_152 rfl (lv_at hl 1 rfl) ?_
          refine lv_bipush (v := 33) hx hb d_Mo_record_153 (by decide) ?_
          refine lv_iadd hx hb d_Mo_record_155 ?_
          refine lv_topi (fun v_84 e_85 => ?_)
          refine lv_iload hx hb d_Mo_record_156 (lv_at hl 5 rfl) ?_
          refine lv_iadd hx hb d_Mo_record_158 ?_
          refine lv_topi (fun v_86 e_87 => ?_)
          refine lv_iload_n hx hb d_Mo_record_159 rfl (lv_at hl 2 rfl) ?_
          refine lv_iconst (v := 2) hx hb d_Mo_record_160 (by decide) ?_
          refine lv_icmp_ge (tgt := 168) hx hb d_Mo_record_161 (by decide) (fun hc_88 => ?_) (fun hc_88 => ?_)
          · skip
            have ic_89 : 2 ≤ so9.toInt := iLe hc_88
            refine lv_aload_n hx hb d_Mo_record_168 rfl (lv_at hl 0 rfl) ?_
            refine hm_get (ci := 9) (v := .ref (A 7)) (C := R_Mo) (T := F_Mo) (N := 41) hx hb hts ig_Mo hown hK hH F_m9 rfl 14 (by decide) (hts _ mw_598) (fun _ h9 => h9) rfl d_Mo_record_169 ?_
            refine lv_iload_n hx hb d_Mo_record_172 rfl (lv_at hl 3 rfl) ?_
            obtain ⟨g_90, F_A7⟩ := TI_arJ (L := 700) hT (hA 7 (by decide)) rfl rfl
            refine hm_lald hx hb hK hH 3 F_A7 rfl (iIn (by omega) (by omega)) d_Mo_record_173 ?_
            refine lv_topl (fun v_91 e_92 => ?_)
            refine lv_aload_n hx hb d_Mo_record_174 rfl (lv_at hl 0 rfl) ?_
            refine hm_get (ci := 9) (v := .ref (A 5)) (C := R_Mo) (T := F_Mo) (N := 41) hx hb hts ig_Mo hown hK hH F_m9 rfl 12 (by decide) (hts _ mw_606) (fun _ h9 => h9) rfl d_Mo_record_175 ?_
            refine lv_iload_n hx hb d_Mo_record_178 rfl (lv_at hl 3 rfl) ?_
            obtain ⟨g_93, F_A5, c_94⟩ := TI_arZ (L := 700) hT (hA 5 (by decide)) rfl rfl
            refine hm_zald hx hb hK hH 1 F_A5 rfl (iIn (by omega) (by omega)) d_Mo_record_179 ?_
            refine lv_topi (fun v_95 e_96 => ?_)
            have c_97 : zb v_95 := by rw [e_96]; exact c_94 _
            refine lv_iload hx hb d_Mo_record_180 (lv_at hl 5 rfl) ?_
            refine hm_callPi (va_runS (As := [.long v_91, .int v_95, .int i9]) (rest := [.int v_86, .ref (A 13)]) ⟨hx, hb, hml, hown, hts⟩ (m_idByte l D t G ak av hh141 τ n v_91 v_95 i9    hn hT c_97   ) ⟨cw9B 3 hts mw_640 mw_641 mw_579 rfl rfl (by decide +kernel) ⟨Nat.le_of_ble_eq_true rfl, Nat.le_of_ble_eq_true rfl⟩, hts _ mw_642⟩ (hP_S kE_ok hE hH) rfl rfl hl.1 rfl (lv_room (Nat.le_of_ble_eq_true rfl)) d_Mo_record_182 ⟨Nat.le_of_ble_eq_true rfl, Nat.le_of_ble_eq_true rfl⟩) (fun r_98 h_99 H_100 hp_102  hH z_101 => ?_)
            have hz : s.heap.size ≤ H_100.size := Nat.le_trans hz z_101
            obtain ⟨xp_103, rfl⟩ := hp_102
            refine lv_i2b (v := r_98.toInt8.toInt32) hx hb d_Mo_record_185 rfl ?_
            obtain ⟨g_104, F_A13, c_105⟩ := TI_arB (L := 163840) hT (hA 13 (by decide)) rfl rfl
            have is_106 : v_84.toInt = p9.toInt + 33 := by rw [e_85]; exact iAddK 33 rfl (by omega) (by omega)
            have is_107 : v_86.toInt = v_84.toInt + i9.toInt := by rw [e_87]; exact iAdd (by omega) (by omega)
            refine hm_bast hx hb hK hH hLo 0 F_A13 rfl (iIn (by omega) (by omega)) d_Mo_record_186 (fun H_108 locs hH z_109 hLo => ?_)
            have hz : s.heap.size ≤ H_108.size := by rw [z_109]; exact hz
            obtain ⟨h_110, e_111⟩ : ∃ z, z = hu hh141 (A 13) (.inl ((t 0), 163840, .inl (upd g_104 v_86.toNatClampNeg (vp_nar .byte r_98.toInt8.toInt32)))) := ⟨_, rfl⟩
            have hH : hm D vwCl G h_110 H_108 := by rw [e_111]; exact hH
            have F_m9 : h_110 m9 = some (.inr (9, mf A n th sd lo le wr ma nu di pl se wg op)) := by rw [e_111, hu_n (tne T_m9 (hA 13 (by decide)) (by decide))]; exact F_m9
            have F_A7 : h_110 (A 7) = some (.inl ((t 3), 700, .inr (.inl g_90))) := by rw [e_111, hu_n (tneF (hA 7 (by decide)) (hA 13 (by decide)) (by decide))]; exact F_A7
            have F_A5 : h_110 (A 5) = some (.inl ((t 1), 700, .inl g_93)) := by rw [e_111, hu_n (tneF (hA 5 (by decide)) (hA 13 (by decide)) (by decide))]; exact F_A5
            have F_A13 : h_110 (A 13) = some (.inl ((t 0), 163840, .inl (upd g_104 v_86.toNatClampNeg (vp_nar .byte r_98.toInt8.toInt32)))) := by rw [e_111]; exact hu_s _ _ _
            have hT : TI τ t n h_110 := by rw [e_111]; exact TI_put hT (hA 13 (by decide)) (by decide) (ok_B rfl rfl (sb_fitU c_105 (fitNar _)))
            have hkf : kf τ [(30, 13)] [] h h_110 := by rw [e_111]; exact kf_put hkf (hA 13 (by decide)) List.mem_cons_self
            obtain ⟨g_112, e_113⟩ : ∃ z, z = upd g_104 v_86.toNatClampNeg (vp_nar .byte r_98.toInt8.toInt32) := ⟨_, rfl⟩
            rw [← e_113] at F_A13
            have c_114 : sb_Fit g_112 := by rw [e_113]; exact (sb_fitU c_105 (fitNar _))
            obtain ⟨j_115, e_116⟩ : ∃ z : Int32, z = i9 + 1 := ⟨_, rfl⟩
            refine lv_iinc (v := j_115) (lv' := [(5, .int j_115), (0, .ref m9), (1, .int p9), (2, .int so9), (3, .int k9), (4, .int r_1)]) hx hb d_Mo_record_187 hl (k := 5) rfl e_116.symm (by decide) rfl (fun ls hl => ?_)
            refine lv_goto (tgt := 141) hx hb d_Mo_record_190 (by decide) ?_
            have is_117 : j_115.toInt = i9.toInt + 1 := by rw [e_116]; exact iAddK 1 rfl (by omega) (by omega)
            exact ih141 (mU j_115) ls _ locs _ (by rw [hk141]; exact mU_lt (by omega)) ⟨j_115, rfl, (lv_sub hl [1, 2, 3, 4, 5, 0] rfl), hH, hz, hLo, F_m9, hT, hkf, (by omega)⟩
          · skip
            have ic_118 : so9.toInt < 2 := iNe hc_88
            refine lv_iload_n hx hb d_Mo_record_164 rfl (lv_at hl 2 rfl) ?_
            refine lv_goto (tgt := 185) hx hb d_Mo_record_165 (by decide) ?_
            refine lv_i2b (v := so9.toInt8.toInt32) hx hb d_Mo_record_185 rfl ?_
            obtain ⟨g_119, F_A13, c_120⟩ := TI_arB (L := 163840) hT (hA 13 (by decide)) rfl rfl
            have is_121 : v_84.toInt = p9.toInt + 33 := by rw [e_85]; exact iAddK 33 rfl (by omega) (by omega)
            have is_122 : v_86.toInt = v_84.toInt + i9.toInt := by rw [e_87]; exact iAdd (by omega) (by omega)
            refine hm_bast hx hb hK hH hLo 0 F_A13 rfl (iIn (by omega) (by omega)) d_Mo_record_186 (fun H_123 locs hH z_124 hLo => ?_)
            have hz : s.heap.size ≤ H_123.size := by rw [z_124]; exact hz
            obtain ⟨h_125, e_126⟩ : ∃ z, z = hu hh141 (A 13) (.inl ((t 0), 163840, .inl (upd g_119 v_86.toNatClampNeg (vp_nar .byte so9.toInt8.toInt32)))) := ⟨_, rfl⟩
            have hH : hm D vwCl G h_125 H_123 := by rw [e_126]; exact hH
            have F_m9 : h_125 m9 = some (.inr (9, mf A n th sd lo le wr ma nu di pl se wg op)) := by rw [e_126, hu_n (tne T_m9 (hA 13 (by decide)) (by decide))]; exact F_m9
            have F_A13 : h_125 (A 13) = some (.inl ((t 0), 163840, .inl (upd g_119 v_86.toNatClampNeg (vp_nar .byte so9.toInt8.toInt32)))) := by rw [e_126]; exact hu_s _ _ _
            have hT : TI τ t n h_125 := by rw [e_126]; exact TI_put hT (hA 13 (by decide)) (by decide) (ok_B rfl rfl (sb_fitU c_120 (fitNar _)))
            have hkf : kf τ [(30, 13)] [] h h_125 := by rw [e_126]; exact kf_put hkf (hA 13 (by decide)) List.mem_cons_self
            obtain ⟨g_127, e_128⟩ : ∃ z, z = upd g_119 v_86.toNatClampNeg (vp_nar .byte so9.toInt8.toInt32) := ⟨_, rfl⟩
            rw [← e_128] at F_A13
            have c_129 : sb_Fit g_127 := by rw [e_128]; exact (sb_fitU c_120 (fitNar _))
            obtain ⟨j_130, e_131⟩ : ∃ z : Int32, z = i9 + 1 := ⟨_, rfl⟩
            refine lv_iinc (v := j_130) (lv' := [(5, .int j_130), (0, .ref m9), (1, .int p9), (2, .int so9), (3, .int k9), (4, .int r_1)]) hx hb d_Mo_record_187 hl (k := 5) rfl e_131.symm (by decide) rfl (fun ls hl => ?_)
            refine lv_goto (tgt := 141) hx hb d_Mo_record_190 (by decide) ?_
            have is_132 : j_130.toInt = i9.toInt + 1 := by rw [e_131]; exact iAddK 1 rfl (by omega) (by omega)
            exact ih141 (mU j_130) ls _ locs _ (by rw [hk141]; exact mU_lt (by omega)) ⟨j_130, rfl, (lv_sub hl [1, 2, 3, 4, 5, 0] rfl), hH, hz, hLo, F_m9, hT, hkf, (by omega)⟩
      · skip
        refine lv_aload_n hx hb d_Mo_record_100 rfl (lv_at hl 0 rfl) ?_
        refine hm_get (ci := 9) (v := .ref (A 5)) (C := R_Mo) (T := F_Mo) (N := 41) hx hb hts ig_Mo hown hK hH F_m9 rfl 12 (by decide) (hts _ mw_606) (fun _ h9 => h9) rfl d_Mo_record_101 ?_
        refine lv_iload_n hx hb d_Mo_record_104 rfl (lv_at hl 3 rfl) ?_
        obtain ⟨g_133, F_A5, c_134⟩ := TI_arZ (L := 700) hT (hA 5 (by decide)) rfl rfl
        refine hm_zald hx hb hK hH 1 F_A5 rfl (iIn (by omega) (by omega)) d_Mo_record_105 ?_
        refine lv_topi (fun v_135 e_136 => ?_)
        have c_137 : zb v_135 := by rw [e_136]; exact c_134 _
        refine lv_if_eq (tgt := 113) hx hb d_Mo_record_106 (by decide) (fun hc_138 => ?_) (fun hc_138 => ?_)
        · skip
          have ic_139 : v_135.toInt = 0 := congrArg Int32.toInt hc_138
          refine lv_iconst (v := 0) hx hb d_Mo_record_113 (by decide) ?_
          exact J114 0 _ _ _ _ ⟨(lv_sub hl [0, 1, 2, 3, 4] rfl), hH, hz, hLo, rfl⟩
        · skip
          refine lv_iconst (v := 2) hx hb d_Mo_record_109 (by decide) ?_
          refine lv_goto (tgt := 114) hx hb d_Mo_record_110 (by decide) ?_
          exact J114 2 _ _ _ _ ⟨(lv_sub hl [0, 1, 2, 3, 4] rfl), hH, hz, hLo, rfl⟩
    · skip
      refine lv_aload_n hx hb d_Mo_record_61 rfl (lv_at hl 0 rfl) ?_
      refine hm_get (ci := 9) (v := .ref (A 5)) (C := R_Mo) (T := F_Mo) (N := 41) hx hb hts ig_Mo hown hK hH F_m9 rfl 12 (by decide) (hts _ mw_606) (fun _ h9 => h9) rfl d_Mo_record_62 ?_
      refine lv_iload_n hx hb d_Mo_record_65 rfl (lv_at hl 3 rfl) ?_
      obtain ⟨g_140, F_A5, c_141⟩ := TI_arZ (L := 700) hT (hA 5 (by decide)) rfl rfl
      refine hm_zald hx hb hK hH 1 F_A5 rfl (iIn (by omega) (by omega)) d_Mo_record_66 ?_
      refine lv_topi (fun v_142 e_143 => ?_)
      have c_144 : zb v_142 := by rw [e_143]; exact c_141 _
      refine lv_if_eq (tgt := 83) hx hb d_Mo_record_67 (by decide) (fun hc_145 => ?_) (fun hc_145 => ?_)
      · skip
        have ic_146 : v_142.toInt = 0 := congrArg Int32.toInt hc_145
        refine lv_aload_n hx hb d_Mo_record_83 rfl (lv_at hl 0 rfl) ?_
        refine hm_get (ci := 9) (v := .ref (A 8)) (C := R_Mo) (T := F_Mo) (N := 41) hx hb hts ig_Mo hown hK hH F_m9 rfl 15 (by decide) (hts _ mw_615) (fun _ h9 => h9) rfl d_Mo_record_84 ?_
        refine lv_iload_n hx hb d_Mo_record_87 rfl (lv_at hl 3 rfl) ?_
        obtain ⟨g_147, F_A8⟩ := TI_arI (L := 700) hT (hA 8 (by decide)) rfl rfl
        refine hm_iald hx hb hK hH 2 F_A8 rfl (iIn (by omega) (by omega)) d_Mo_record_88 ?_
        refine lv_topi (fun v_148 e_149 => ?_)
        exact J89 v_148 _ _ _ _ ⟨(lv_sub hl [0, 1, 2, 3, 4] rfl), hH, hz, hLo, rfl⟩
      · skip
        refine lv_sipush (v := 2048) hx hb d_Mo_record_70 (by decide) ?_
        refine lv_aload_n hx hb d_Mo_record_73 rfl (lv_at hl 0 rfl) ?_
        refine hm_get (ci := 9) (v := .ref (A 16)) (C := R_Mo) (T := F_Mo) (N := 41) hx hb hts ig_Mo hown hK hH F_m9 rfl 26 (by decide) (hts _ mw_669) (fun _ h9 => h9) rfl d_Mo_record_74 ?_
        refine lv_iload_n hx hb d_Mo_record_77 rfl (lv_at hl 3 rfl) ?_
        obtain ⟨g_150, F_A16⟩ := TI_arI (L := 700) hT (hA 16 (by decide)) rfl rfl
        refine hm_iald hx hb hK hH 2 F_A16 rfl (iIn (by omega) (by omega)) d_Mo_record_78 ?_
        refine lv_topi (fun v_151 e_152 => ?_)
        refine lv_imul hx hb d_Mo_record_79 ?_
        refine lv_topi (fun v_153 e_154 => ?_)
        refine lv_goto (tgt := 89) hx hb d_Mo_record_80 (by decide) ?_
        exact J89 v_153 _ _ _ _ ⟨(lv_sub hl [0, 1, 2, 3, 4] rfl), hH, hz, hLo, rfl⟩
  · skip
    refine lv_aload_n hx hb d_Mo_record_28 rfl (lv_at hl 1 rfl) ?_
    refine hm_get (ci := 9) (v := .ref (A 5)) (C := R_Mo) (T := F_Mo) (N := 41) hx hb hts ig_Mo hown hK hH F_m9 rfl 12 (by decide) (hts _ mw_606) (fun _ h9 => h9) rfl d_Mo_record_29 ?_
    refine lv_iload_n hx hb d_Mo_record_32 rfl (lv_at hl 4 rfl) ?_
    obtain ⟨g_155, F_A5, c_156⟩ := TI_arZ (L := 700) hT (hA 5 (by decide)) rfl rfl
    refine hm_zald hx hb hK hH 1 F_A5 rfl (iIn (by omega) (by omega)) d_Mo_record_33 ?_
    refine lv_topi (fun v_157 e_158 => ?_)
    have c_159 : zb v_157 := by rw [e_158]; exact c_156 _
    refine lv_if_eq (tgt := 46) hx hb d_Mo_record_34 (by decide) (fun hc_160 => ?_) (fun hc_160 => ?_)
    · skip
      have ic_161 : v_157.toInt = 0 := congrArg Int32.toInt hc_160
      refine lv_aload_n hx hb d_Mo_record_46 rfl (lv_at hl 1 rfl) ?_
      refine hm_get (ci := 9) (v := .ref (A 11)) (C := R_Mo) (T := F_Mo) (N := 41) hx hb hts ig_Mo hown hK hH F_m9 rfl 18 (by decide) (hts _ mw_618) (fun _ h9 => h9) rfl d_Mo_record_47 ?_
      refine lv_iload_n hx hb d_Mo_record_50 rfl (lv_at hl 4 rfl) ?_
      obtain ⟨g_162, F_A11⟩ := TI_arI (L := 700) hT (hA 11 (by decide)) rfl rfl
      refine hm_iald hx hb hK hH 2 F_A11 rfl (iIn (by omega) (by omega)) d_Mo_record_51 ?_
      refine lv_topi (fun v_163 e_164 => ?_)
      exact J52 v_163 _ _ _ _ ⟨(lv_sub hl [1, 2, 3, 4, 0] rfl), hH, hz, hLo, rfl⟩
    · skip
      refine lv_aload_n hx hb d_Mo_record_37 rfl (lv_at hl 1 rfl) ?_
      refine hm_get (ci := 9) (v := .ref (A 15)) (C := R_Mo) (T := F_Mo) (N := 41) hx hb hts ig_Mo hown hK hH F_m9 rfl 25 (by decide) (hts _ mw_670) (fun _ h9 => h9) rfl d_Mo_record_38 ?_
      refine lv_iload_n hx hb d_Mo_record_41 rfl (lv_at hl 4 rfl) ?_
      obtain ⟨g_165, F_A15⟩ := TI_arI (L := 700) hT (hA 15 (by decide)) rfl rfl
      refine hm_iald hx hb hK hH 2 F_A15 rfl (iIn (by omega) (by omega)) d_Mo_record_42 ?_
      refine lv_topi (fun v_166 e_167 => ?_)
      refine lv_goto (tgt := 52) hx hb d_Mo_record_43 (by decide) ?_
      exact J52 v_166 _ _ _ _ ⟨(lv_sub hl [1, 2, 3, 4, 0] rfl), hH, hz, hLo, rfl⟩

set_option maxHeartbeats 4000000 in
set_option maxRecDepth 100000 in
theorem m_along (l : Launch) (D : va_G) (t : Nat → ClassId) (G : hG) (ak av : Nat → Nat) (h : hM) (τ : tM) (n : Nat) (m9 : Nat) (d9 : Int32) (f9 : Int32) (z9 : Int32) (A : Nat → Nat) (th sd lo le wr ma nu di pl se wg op : Int32) (hn : n ≤ 200) (hT : TI τ t n h) (T_m9 : τ m9 = (20, 0)) (Z_z9 : zb z9) (F_m9 : h m9 = some (.inr (9, mf A n th sd lo le wr ma nu di pl se wg op))) (hA : ∀ i, i < 28 → τ (A i) = (30, i)) (hmk : mOk sd lo ma se op) (hTm : treeM (aI h (A 4)) (aI h (A 6)) ma.toInt.toNat) (hd0 : 0 ≤ d9.toInt) (hd1 : d9.toInt < 700) (hdl : d9.toInt = 0 ∨ lvM (aI h (A 4)) ma.toInt.toNat d9.toInt.toNat) (hfz : z9 = 1 → 0 ≤ f9.toInt ∧ f9.toInt + 2048 ≤ 163840) : Met l y_Mo_along (.code y_Mo_along b_Mo_along 9 (some .int) :: lw_g) { frames := 5, cells := 0, slots := 0, locals := 119 } (hP (kE D t G ak av) D vwCl G h [.ref m9, .int d9, .int f9, .int z9]) (hQi D vwCl G (fun r h' => TI τ t n h' ∧ kf τ [(30, 13)] [] h h' ∧ (68 ≤ r.toInt ∧ r.toInt ≤ 2048))) 0 0 G.P := by
  refine Met.ofW (cc := b_Mo_along) (maxL := 9) (ret := (some .int)) (by decide) rfl ?_
  intro p e s m args below meth c s₁ Bd hml hv
  obtain ⟨ha, hE, hH⟩ := hv
  have hx := Bd.exec
  have hb := Bd.bytes
  have hr := Bd.returns
  have hts : ∀ w ∈ lw_g, w.before args s = true := fun w hw => atoms_spec (ws := (.code y_Mo_along b_Mo_along 9 (some .int) :: lw_g)) Bd.pre w (List.mem_cons_of_mem _ hw)
  have hown : s.vm.findClass R_Mo = some m.cls := findClass_of_methodNamed Bd.named
  have hlocks := Bd.notSynchronized
  have hK := hE.1
  have hH0 := hH
  have hLo : hLc G.P [] := hLc_nil
  have hz : s.heap.size ≤ s.heap.size := Nat.le_refl _
  have hl := lv_entry [.ref m9, .int d9, .int f9, .int z9] (n := 9) (Nat.le_of_ble_eq_true rfl)
  rw [show entryFrame m args 9 = F0 m 0 ((lg_sl [.ref m9, .int d9, .int f9, .int z9] ++ List.replicate (9 - (lg_sl [.ref m9, .int d9, .int f9, .int z9]).length) Slot.unset).toArray) [] from (by rw [ha]; exact lg_entry_eq m [.ref m9, .int d9, .int f9, .int z9] 9)]
  generalize (lg_sl [.ref m9, .int d9, .int f9, .int z9] ++ List.replicate (9 - (lg_sl [.ref m9, .int d9, .int f9, .int z9]).length) Slot.unset).toArray = ls at hl ⊢
  have hl : lv_has ls 9 [(0, .ref m9), (1, .int d9), (2, .int f9), (3, .int z9)] := hl
  have hkf : kf τ [(30, 13)] [] h h := kf_rf
  obtain ⟨hsd, hlo, hma, hse, hop⟩ := id hmk
  have inI : (nI n).toInt = n := nI_toInt (by omega)
  obtain ⟨g_1, F_A4, c_2⟩ := TI_arZ (L := 700) hT (hA 4 (by decide)) rfl rfl
  obtain ⟨g_3, F_A5, c_4⟩ := TI_arZ (L := 700) hT (hA 5 (by decide)) rfl rfl
  obtain ⟨g_5, F_A6⟩ := TI_arI (L := 700) hT (hA 6 (by decide)) rfl rfl
  obtain ⟨g_6, F_A7⟩ := TI_arJ (L := 700) hT (hA 7 (by decide)) rfl rfl
  rw [aI_of F_A4, aI_of F_A6] at hTm
  rw [aI_of F_A4] at hdl
  refine lv_iconst (v := 0) hx hb d_Mo_along_0 (by decide) ?_
  refine lv_istore (lv' := [(4, .int 0), (0, .ref m9), (1, .int d9), (2, .int f9), (3, .int z9)]) hx hb d_Mo_along_1 hl (by decide) rfl (fun ls hl => ?_)
  refine lv_iconst (v := 0) hx hb d_Mo_along_3 (by decide) ?_
  refine lv_istore (lv' := [(5, .int 0), (4, .int 0), (0, .ref m9), (1, .int d9), (2, .int f9), (3, .int z9)]) hx hb d_Mo_along_4 hl (by decide) rfl (fun ls hl => ?_)
  refine lv_iconst (v := -1) hx hb d_Mo_along_6 (by decide) ?_
  refine lv_istore (lv' := [(6, .int (-1)), (5, .int 0), (4, .int 0), (0, .ref m9), (1, .int d9), (2, .int f9), (3, .int z9)]) hx hb d_Mo_along_7 hl (by decide) rfl (fun ls hl => ?_)
  refine hm_loop (fun k9 ls H locs hh9 => ∃ (pp : Int32) (so : Int32) (kb : Int32) (c9 : Nat), k9 = (2 - so.toInt).toNat + cntP (rmB g_1 g_3 g_5 g_6 d9 kb) ma.toInt.toNat ∧ lv_has ls 9 [(0, .ref m9), (1, .int d9), (2, .int f9), (3, .int z9), (4, .int pp), (5, .int so), (6, .int kb)] ∧ hm D vwCl G hh9 H ∧ s.heap.size ≤ H.size ∧ hLc G.P locs ∧ hh9 m9 = some (.inr (9, mf A n th sd lo le wr ma nu di pl se wg op)) ∧ hh9 (A 4) = some (.inl ((t 1), 700, .inl g_1)) ∧ hh9 (A 5) = some (.inl ((t 1), 700, .inl g_3)) ∧ hh9 (A 6) = some (.inl ((t 2), 700, .inl g_5)) ∧ hh9 (A 7) = some (.inl ((t 3), 700, .inr (.inl g_6))) ∧ (TI τ t n hh9) ∧ (kf τ [(30, 13)] [] h hh9) ∧ (alI g_1 g_3 g_5 g_6 ma.toInt.toNat d9 pp so kb c9) ∧ (kb.toInt < 700 ∧ -1 ≤ kb.toInt)) ?_ (hh := h) ⟨0, 0, (-1), 0, rfl, (lv_sub hl [3, 4, 5, 6, 2, 1, 0] rfl), hH, hz, hLo, F_m9, F_A4, F_A5, F_A6, F_A7, hT, hkf, (Or.inl ⟨rfl, rfl⟩), (by decide)⟩
  rintro k9 ls H locs hh9 ⟨pp, so, kb, c9, hk9, hl, hH, hz, hLo, F_m9, F_A4, F_A5, F_A6, F_A7, hT, hkf, hI, I_kb⟩ ih9
  have hrm := rm_30 (di := g_3) (nm := g_6) (d := d9) (b := kb) hTm
  rcases hI with ⟨iso, ipp⟩ | ⟨iso, ipp⟩ | ⟨iso, ip1, ip2, ip3⟩
  · skip
    refine lv_iload hx hb d_Mo_along_9 (lv_at hl 5 rfl) ?_
    refine lv_iconst (v := 2) hx hb d_Mo_along_11 (by decide) ?_
    refine lv_icmp_ne (tgt := 32) hx hb d_Mo_along_12 (by decide) (fun hc_7 => ?_) (fun hc_7 => ?_)
    · skip
      refine lv_iload hx hb d_Mo_along_32 (lv_at hl 5 rfl) ?_
      refine lv_if_eq (tgt := 47) hx hb d_Mo_along_34 (by decide) (fun hc_8 => ?_) (fun hc_8 => ?_)
      · skip
        have ic_9 : so.toInt = 0 := congrArg Int32.toInt hc_8
        refine lv_iload_n hx hb d_Mo_along_47 rfl (lv_at hl 1 rfl) ?_
        refine lv_goto (tgt := 68) hx hb d_Mo_along_48 (by decide) ?_
        refine lv_istore (lv' := [(7, .int d9), (0, .ref m9), (1, .int d9), (2, .int f9), (3, .int z9), (4, .int pp), (5, .int so), (6, .int kb)]) hx hb d_Mo_along_68 hl (by decide) rfl (fun ls hl => ?_)
        refine lv_bipush (v := 33) hx hb d_Mo_along_70 (by decide) ?_
        refine lv_aload_n hx hb d_Mo_along_72 rfl (lv_at hl 1 rfl) ?_
        refine lv_iload hx hb d_Mo_along_73 (lv_at hl 6 rfl) ?_
        refine lv_iload hx hb d_Mo_along_75 (lv_at hl 0 rfl) ?_
        refine hm_callPi (va_runV (As := [.int so, .int d9]) (b := m9) (rest := [.int 33]) ⟨hx, hb, hml, hown, hts⟩ (m_recId l D t G ak av hh9 τ n m9 so d9 A th sd lo le wr ma nu di pl se wg op   hn hT T_m9  F_m9 hA ⟨hsd, hlo, (by omega), ⟨by omega, by omega⟩, ⟨by omega, by omega⟩⟩ (by omega) (by omega)) ⟨cw9B 2 hts mw_658 mw_659 mw_579 rfl rfl (by decide +kernel) ⟨Nat.le_of_ble_eq_true rfl, Nat.le_of_ble_eq_true rfl⟩, hts _ mw_660, hts _ mw_661⟩ (hP_V (q := (R_Mo, F_Mo, 41)) kE_ok hE hK hH F_m9 rfl) rfl rfl hl.1 rfl (lv_room (Nat.le_of_ble_eq_true rfl)) d_Mo_along_77 ⟨Nat.le_of_ble_eq_true rfl, Nat.le_of_ble_eq_true rfl⟩) (fun r_10 h_11 H_12 hp_14  hH z_13 => ?_)
        have hz : s.heap.size ≤ H_12.size := Nat.le_trans hz z_13
        obtain ⟨xp_15, rfl⟩ := hp_14
        obtain ⟨ir1, ir2⟩ := xp_15
        refine lv_iadd hx hb d_Mo_along_80 ?_
        refine lv_topi (fun v_16 e_17 => ?_)
        have is_18 : v_16.toInt = 33 + r_10.toInt := by rw [e_17]; exact iAddL 33 rfl (by omega) (by omega)
        refine hm_callPi (va_runS (As := [.int v_16]) (rest := []) ⟨hx, hb, hml, hown, hts⟩ (m_even l D t G ak av hh9 τ n v_16    hn hT    ) ⟨cw9B 1 hts mw_662 mw_663 mw_579 rfl rfl (by decide +kernel) ⟨Nat.le_of_ble_eq_true rfl, Nat.le_of_ble_eq_true rfl⟩, hts _ mw_664⟩ (hP_S kE_ok hE hH) rfl rfl hl.1 rfl (lv_room (Nat.le_of_ble_eq_true rfl)) d_Mo_along_81 ⟨Nat.le_of_ble_eq_true rfl, Nat.le_of_ble_eq_true rfl⟩) (fun r_19 h_20 H_21 hp_23  hH z_22 => ?_)
        have hz : s.heap.size ≤ H_21.size := Nat.le_trans hz z_22
        obtain ⟨xp_24, rfl⟩ := hp_23
        have iev_25 := xp_24 (by omega) (by omega)
        refine lv_istore (lv' := [(8, .int r_19), (7, .int d9), (0, .ref m9), (1, .int d9), (2, .int f9), (3, .int z9), (4, .int pp), (5, .int so), (6, .int kb)]) hx hb d_Mo_along_84 hl (by decide) rfl (fun ls hl => ?_)
        refine lv_iload hx hb d_Mo_along_86 (lv_at hl 6 rfl) ?_
        refine lv_sipush (v := 2048) hx hb d_Mo_along_88 (by decide) ?_
        refine lv_irem hx hb d_Mo_along_91 (by decide) ?_
        refine lv_topi (fun v_26 e_27 => ?_)
        have id_28 : 0 ≤ pp.toInt → v_26.toInt = pp.toInt % 2048 := fun h9 => by rw [e_27]; exact i_mod (d := 2048) (by decide) h9
        have hpm := id_28 (by omega)
        refine lv_iload hx hb d_Mo_along_92 (lv_at hl 0 rfl) ?_
        refine lv_iadd hx hb d_Mo_along_94 ?_
        refine lv_topi (fun v_29 e_30 => ?_)
        refine lv_sipush (v := 2048) hx hb d_Mo_along_95 (by decide) ?_
        have is_31 : v_29.toInt = v_26.toInt + r_19.toInt := by rw [e_30]; exact iAdd (by omega) (by omega)
        refine lv_icmp_le (tgt := 116) hx hb d_Mo_along_98 (by decide) (fun hc_32 => ?_) (fun hc_32 => ?_)
        · skip
          have ic_33 : v_29.toInt ≤ 2048 := iLe hc_32
          refine lv_iload_n hx hb d_Mo_along_116 rfl (lv_at hl 5 rfl) ?_
          refine lv_if_eq (tgt := 132) hx hb d_Mo_along_117 (by decide) (fun hc_34 => ?_) (fun hc_34 => ?_)
          · skip
            have ic_35 : z9.toInt = 0 := congrArg Int32.toInt hc_34
            refine lv_iload hx hb d_Mo_along_132 (lv_at hl 6 rfl) ?_
            refine lv_iload hx hb d_Mo_along_134 (lv_at hl 0 rfl) ?_
            refine lv_iadd hx hb d_Mo_along_136 ?_
            refine lv_topi (fun v_36 e_37 => ?_)
            refine lv_istore (lv' := [(4, .int v_36), (8, .int r_19), (7, .int d9), (0, .ref m9), (1, .int d9), (2, .int f9), (3, .int z9), (5, .int so), (6, .int kb)]) hx hb d_Mo_along_137 hl (by decide) rfl (fun ls hl => ?_)
            refine lv_iload hx hb d_Mo_along_139 (lv_at hl 7 rfl) ?_
            refine lv_iconst (v := 2) hx hb d_Mo_along_141 (by decide) ?_
            refine lv_icmp_ge (tgt := 152) hx hb d_Mo_along_142 (by decide) (fun hc_38 => ?_) (fun hc_38 => ?_)
            · skip
              exfalso
              have hq9 := iLe hc_38
              rw [(show (2 : Int32).toInt = 2 from rfl)] at hq9
              omega
            · skip
              have ic_39 : so.toInt < 2 := iNe hc_38
              refine lv_iload hx hb d_Mo_along_145 (lv_at hl 7 rfl) ?_
              refine lv_iconst (v := 1) hx hb d_Mo_along_147 (by decide) ?_
              refine lv_iadd hx hb d_Mo_along_148 ?_
              refine lv_topi (fun v_40 e_41 => ?_)
              refine lv_goto (tgt := 153) hx hb d_Mo_along_149 (by decide) ?_
              refine lv_istore (lv' := [(5, .int v_40), (4, .int v_36), (8, .int r_19), (7, .int d9), (0, .ref m9), (1, .int d9), (2, .int f9), (3, .int z9), (6, .int kb)]) hx hb d_Mo_along_153 hl (by decide) rfl (fun ls hl => ?_)
              refine lv_goto (tgt := 9) hx hb d_Mo_along_155 (by decide) ?_
              have is_42 : v_36.toInt = pp.toInt + r_19.toInt := by rw [e_37]; exact iAdd (by omega) (by omega)
              have is_43 : v_40.toInt = so.toInt + 1 := by rw [e_41]; exact iAddK 1 rfl (by omega) (by omega)
              exact ih9 ((2 - v_40.toInt).toNat + cntP (rmB g_1 g_3 g_5 g_6 d9 kb) ma.toInt.toNat) ls _ locs _ (by rw [hk9]; omega) ⟨v_36, v_40, kb, c9, rfl, (lv_sub hl [4, 5, 6, 7, 1, 0, 8] rfl), hH, hz, hLo, F_m9, F_A4, F_A5, F_A6, F_A7, hT, hkf, (Or.inr (Or.inl ⟨by omega, by omega⟩)), ⟨by omega, by omega⟩⟩
          · skip
            have hfz9 := hfz (Z_z9.resolve_left hc_34)
            refine lv_aload_n hx hb d_Mo_along_120 rfl (lv_at hl 2 rfl) ?_
            refine lv_iload_n hx hb d_Mo_along_121 rfl (lv_at hl 4 rfl) ?_
            refine lv_iload hx hb d_Mo_along_122 (lv_at hl 6 rfl) ?_
            refine lv_iadd hx hb d_Mo_along_124 ?_
            refine lv_topi (fun v_44 e_45 => ?_)
            refine lv_iload hx hb d_Mo_along_125 (lv_at hl 7 rfl) ?_
            refine lv_iload hx hb d_Mo_along_127 (lv_at hl 1 rfl) ?_
            have is_46 : v_44.toInt = f9.toInt + pp.toInt := by rw [e_45]; exact iAdd (by omega) (by omega)
            refine hm_callv (va_runV (As := [.int v_44, .int so, .int d9]) (b := m9) (rest := []) ⟨hx, hb, hml, hown, hts⟩ (m_record l D t G ak av hh9 τ n m9 v_44 so d9 A th sd lo le wr ma nu di pl se wg op   hn hT T_m9  F_m9 hA ⟨hsd, hlo, (by omega), ⟨by omega, by omega⟩, ⟨by omega, by omega⟩⟩ (by omega) (by omega) (by omega) (by omega)) ⟨cw9B 3 hts mw_671 mw_672 mw_579 rfl rfl (by decide +kernel) ⟨Nat.le_of_ble_eq_true rfl, Nat.le_of_ble_eq_true rfl⟩, hts _ mw_673, hts _ mw_674⟩ (hP_V (q := (R_Mo, F_Mo, 41)) kE_ok hE hK hH F_m9 rfl) rfl rfl hl.1 rfl (lv_room (Nat.le_of_ble_eq_true rfl)) d_Mo_along_129 ⟨Nat.le_of_ble_eq_true rfl, Nat.le_of_ble_eq_true rfl⟩) hLo (fun h_47 H_48 locs hp_50 hH z_49 hLo => ?_)
            have hz : s.heap.size ≤ H_48.size := Nat.le_trans hz z_49
            have hT0 := hT
            obtain ⟨hT, kf_52⟩ := hp_50
            have F_m9 : h_47 m9 = some (.inr (9, mf A n th sd lo le wr ma nu di pl se wg op)) := kf_at kf_52 T_m9 (by decide) (tnc (by decide) tn0) nm0 F_m9
            have F_A4 : h_47 (A 4) = some (.inl ((t 1), 700, .inl g_1)) := kf_at kf_52 (hA 4 (by decide)) (by decide) (tncF (by decide) tn0) nm0 F_A4
            have F_A5 : h_47 (A 5) = some (.inl ((t 1), 700, .inl g_3)) := kf_at kf_52 (hA 5 (by decide)) (by decide) (tncF (by decide) tn0) nm0 F_A5
            have F_A6 : h_47 (A 6) = some (.inl ((t 2), 700, .inl g_5)) := kf_at kf_52 (hA 6 (by decide)) (by decide) (tncF (by decide) tn0) nm0 F_A6
            have F_A7 : h_47 (A 7) = some (.inl ((t 3), 700, .inr (.inl g_6))) := kf_at kf_52 (hA 7 (by decide)) (by decide) (tncF (by decide) tn0) nm0 F_A7
            have hkf : kf τ [(30, 13)] [] h h_47 := kf_tr hkf kf_52 (List.forall_mem_cons.mpr ⟨List.mem_cons_self, List.forall_mem_nil _⟩) (List.forall_mem_nil _)
            refine lv_iload hx hb d_Mo_along_132 (lv_at hl 6 rfl) ?_
            refine lv_iload hx hb d_Mo_along_134 (lv_at hl 0 rfl) ?_
            refine lv_iadd hx hb d_Mo_along_136 ?_
            refine lv_topi (fun v_53 e_54 => ?_)
            refine lv_istore (lv' := [(4, .int v_53), (8, .int r_19), (7, .int d9), (0, .ref m9), (1, .int d9), (2, .int f9), (3, .int z9), (5, .int so), (6, .int kb)]) hx hb d_Mo_along_137 hl (by decide) rfl (fun ls hl => ?_)
            refine lv_iload hx hb d_Mo_along_139 (lv_at hl 7 rfl) ?_
            refine lv_iconst (v := 2) hx hb d_Mo_along_141 (by decide) ?_
            refine lv_icmp_ge (tgt := 152) hx hb d_Mo_along_142 (by decide) (fun hc_55 => ?_) (fun hc_55 => ?_)
            · skip
              exfalso
              have hq9 := iLe hc_55
              rw [(show (2 : Int32).toInt = 2 from rfl)] at hq9
              omega
            · skip
              have ic_56 : so.toInt < 2 := iNe hc_55
              refine lv_iload hx hb d_Mo_along_145 (lv_at hl 7 rfl) ?_
              refine lv_iconst (v := 1) hx hb d_Mo_along_147 (by decide) ?_
              refine lv_iadd hx hb d_Mo_along_148 ?_
              refine lv_topi (fun v_57 e_58 => ?_)
              refine lv_goto (tgt := 153) hx hb d_Mo_along_149 (by decide) ?_
              refine lv_istore (lv' := [(5, .int v_57), (4, .int v_53), (8, .int r_19), (7, .int d9), (0, .ref m9), (1, .int d9), (2, .int f9), (3, .int z9), (6, .int kb)]) hx hb d_Mo_along_153 hl (by decide) rfl (fun ls hl => ?_)
              refine lv_goto (tgt := 9) hx hb d_Mo_along_155 (by decide) ?_
              have is_59 : v_53.toInt = pp.toInt + r_19.toInt := by rw [e_54]; exact iAdd (by omega) (by omega)
              have is_60 : v_57.toInt = so.toInt + 1 := by rw [e_58]; exact iAddK 1 rfl (by omega) (by omega)
              exact ih9 ((2 - v_57.toInt).toNat + cntP (rmB g_1 g_3 g_5 g_6 d9 kb) ma.toInt.toNat) ls _ locs _ (by rw [hk9]; omega) ⟨v_53, v_57, kb, c9, rfl, (lv_sub hl [4, 5, 6, 7, 1, 0, 8] rfl), hH, hz, hLo, F_m9, F_A4, F_A5, F_A6, F_A7, hT, hkf, (Or.inr (Or.inl ⟨by omega, by omega⟩)), ⟨by omega, by omega⟩⟩
        · skip
          exfalso
          have hq9 := iNe hc_32
          rw [(show (2048 : Int32).toInt = 2048 from rfl)] at hq9
          omega
      · skip
        exact absurd (show so = 0 from Int32.toInt_inj.mp (by rw [(show (0 : Int32).toInt = 0 from rfl)]; omega)) hc_8
    · skip
      exact absurd (congrArg Int32.toInt hc_7) (by rw [(show (2 : Int32).toInt = 2 from rfl)]; omega)
  · skip
    refine lv_iload hx hb d_Mo_along_9 (lv_at hl 5 rfl) ?_
    refine lv_iconst (v := 2) hx hb d_Mo_along_11 (by decide) ?_
    refine lv_icmp_ne (tgt := 32) hx hb d_Mo_along_12 (by decide) (fun hc_61 => ?_) (fun hc_61 => ?_)
    · skip
      refine lv_iload hx hb d_Mo_along_32 (lv_at hl 5 rfl) ?_
      refine lv_if_eq (tgt := 47) hx hb d_Mo_along_34 (by decide) (fun hc_62 => ?_) (fun hc_62 => ?_)
      · skip
        exact absurd (congrArg Int32.toInt hc_62) (by rw [(show (0 : Int32).toInt = 0 from rfl)]; omega)
      · skip
        refine lv_iload hx hb d_Mo_along_37 (lv_at hl 5 rfl) ?_
        refine lv_iconst (v := 1) hx hb d_Mo_along_39 (by decide) ?_
        refine lv_icmp_ne (tgt := 51) hx hb d_Mo_along_40 (by decide) (fun hc_63 => ?_) (fun hc_63 => ?_)
        · skip
          exact absurd (show so = 1 from Int32.toInt_inj.mp (by rw [(show (1 : Int32).toInt = 1 from rfl)]; omega)) hc_63
        · skip
          have ic_64 : so.toInt = 1 := congrArg Int32.toInt hc_63
          refine lv_iload_n hx hb d_Mo_along_43 rfl (lv_at hl 1 rfl) ?_
          refine lv_if_ne (tgt := 51) hx hb d_Mo_along_44 (by decide) (fun hc_65 => ?_) (fun hc_65 => ?_)
          · skip
            refine lv_iload hx hb d_Mo_along_51 (lv_at hl 5 rfl) ?_
            refine lv_iconst (v := 1) hx hb d_Mo_along_53 (by decide) ?_
            refine lv_icmp_ne (tgt := 66) hx hb d_Mo_along_54 (by decide) (fun hc_66 => ?_) (fun hc_66 => ?_)
            · skip
              exact absurd (show so = 1 from Int32.toInt_inj.mp (by rw [(show (1 : Int32).toInt = 1 from rfl)]; omega)) hc_66
            · skip
              have ic_67 : so.toInt = 1 := congrArg Int32.toInt hc_66
              refine lv_aload_n hx hb d_Mo_along_57 rfl (lv_at hl 0 rfl) ?_
              refine hm_get (ci := 9) (v := .ref (A 6)) (C := R_Mo) (T := F_Mo) (N := 41) hx hb hts ig_Mo hown hK hH F_m9 rfl 13 (by decide) (hts _ mw_597) (fun _ h9 => h9) rfl d_Mo_along_58 ?_
              refine lv_iload_n hx hb d_Mo_along_61 rfl (lv_at hl 1 rfl) ?_
              refine hm_iald hx hb hK hH 2 F_A6 rfl (iIn (by omega) (by omega)) d_Mo_along_62 ?_
              refine lv_topi (fun v_68 e_69 => ?_)
              have ipo := par_ok hTm rfl hma hdl (fun z => hc_65 (Int32.toInt_inj.mp (by rw [z]; rfl))) hd0 e_69
              refine lv_goto (tgt := 68) hx hb d_Mo_along_63 (by decide) ?_
              refine lv_istore (lv' := [(7, .int v_68), (0, .ref m9), (1, .int d9), (2, .int f9), (3, .int z9), (4, .int pp), (5, .int so), (6, .int kb)]) hx hb d_Mo_along_68 hl (by decide) rfl (fun ls hl => ?_)
              refine lv_bipush (v := 33) hx hb d_Mo_along_70 (by decide) ?_
              refine lv_aload_n hx hb d_Mo_along_72 rfl (lv_at hl 1 rfl) ?_
              refine lv_iload hx hb d_Mo_along_73 (lv_at hl 6 rfl) ?_
              refine lv_iload hx hb d_Mo_along_75 (lv_at hl 0 rfl) ?_
              refine hm_callPi (va_runV (As := [.int so, .int v_68]) (b := m9) (rest := [.int 33]) ⟨hx, hb, hml, hown, hts⟩ (m_recId l D t G ak av hh9 τ n m9 so v_68 A th sd lo le wr ma nu di pl se wg op   hn hT T_m9  F_m9 hA ⟨hsd, hlo, (by omega), ⟨by omega, by omega⟩, ⟨by omega, by omega⟩⟩ (by omega) (by omega)) ⟨cw9B 2 hts mw_658 mw_659 mw_579 rfl rfl (by decide +kernel) ⟨Nat.le_of_ble_eq_true rfl, Nat.le_of_ble_eq_true rfl⟩, hts _ mw_660, hts _ mw_661⟩ (hP_V (q := (R_Mo, F_Mo, 41)) kE_ok hE hK hH F_m9 rfl) rfl rfl hl.1 rfl (lv_room (Nat.le_of_ble_eq_true rfl)) d_Mo_along_77 ⟨Nat.le_of_ble_eq_true rfl, Nat.le_of_ble_eq_true rfl⟩) (fun r_70 h_71 H_72 hp_74  hH z_73 => ?_)
              have hz : s.heap.size ≤ H_72.size := Nat.le_trans hz z_73
              obtain ⟨xp_75, rfl⟩ := hp_74
              obtain ⟨ir1, ir2⟩ := xp_75
              refine lv_iadd hx hb d_Mo_along_80 ?_
              refine lv_topi (fun v_76 e_77 => ?_)
              have is_78 : v_76.toInt = 33 + r_70.toInt := by rw [e_77]; exact iAddL 33 rfl (by omega) (by omega)
              refine hm_callPi (va_runS (As := [.int v_76]) (rest := []) ⟨hx, hb, hml, hown, hts⟩ (m_even l D t G ak av hh9 τ n v_76    hn hT    ) ⟨cw9B 1 hts mw_662 mw_663 mw_579 rfl rfl (by decide +kernel) ⟨Nat.le_of_ble_eq_true rfl, Nat.le_of_ble_eq_true rfl⟩, hts _ mw_664⟩ (hP_S kE_ok hE hH) rfl rfl hl.1 rfl (lv_room (Nat.le_of_ble_eq_true rfl)) d_Mo_along_81 ⟨Nat.le_of_ble_eq_true rfl, Nat.le_of_ble_eq_true rfl⟩) (fun r_79 h_80 H_81 hp_83  hH z_82 => ?_)
              have hz : s.heap.size ≤ H_81.size := Nat.le_trans hz z_82
              obtain ⟨xp_84, rfl⟩ := hp_83
              have iev_85 := xp_84 (by omega) (by omega)
              refine lv_istore (lv' := [(8, .int r_79), (7, .int v_68), (0, .ref m9), (1, .int d9), (2, .int f9), (3, .int z9), (4, .int pp), (5, .int so), (6, .int kb)]) hx hb d_Mo_along_84 hl (by decide) rfl (fun ls hl => ?_)
              refine lv_iload hx hb d_Mo_along_86 (lv_at hl 6 rfl) ?_
              refine lv_sipush (v := 2048) hx hb d_Mo_along_88 (by decide) ?_
              refine lv_irem hx hb d_Mo_along_91 (by decide) ?_
              refine lv_topi (fun v_86 e_87 => ?_)
              have id_88 : 0 ≤ pp.toInt → v_86.toInt = pp.toInt % 2048 := fun h9 => by rw [e_87]; exact i_mod (d := 2048) (by decide) h9
              have hpm := id_88 (by omega)
              refine lv_iload hx hb d_Mo_along_92 (lv_at hl 0 rfl) ?_
              refine lv_iadd hx hb d_Mo_along_94 ?_
              refine lv_topi (fun v_89 e_90 => ?_)
              refine lv_sipush (v := 2048) hx hb d_Mo_along_95 (by decide) ?_
              have is_91 : v_89.toInt = v_86.toInt + r_79.toInt := by rw [e_90]; exact iAdd (by omega) (by omega)
              refine lv_icmp_le (tgt := 116) hx hb d_Mo_along_98 (by decide) (fun hc_92 => ?_) (fun hc_92 => ?_)
              · skip
                have ic_93 : v_89.toInt ≤ 2048 := iLe hc_92
                refine lv_iload_n hx hb d_Mo_along_116 rfl (lv_at hl 5 rfl) ?_
                refine lv_if_eq (tgt := 132) hx hb d_Mo_along_117 (by decide) (fun hc_94 => ?_) (fun hc_94 => ?_)
                · skip
                  have ic_95 : z9.toInt = 0 := congrArg Int32.toInt hc_94
                  refine lv_iload hx hb d_Mo_along_132 (lv_at hl 6 rfl) ?_
                  refine lv_iload hx hb d_Mo_along_134 (lv_at hl 0 rfl) ?_
                  refine lv_iadd hx hb d_Mo_along_136 ?_
                  refine lv_topi (fun v_96 e_97 => ?_)
                  refine lv_istore (lv' := [(4, .int v_96), (8, .int r_79), (7, .int v_68), (0, .ref m9), (1, .int d9), (2, .int f9), (3, .int z9), (5, .int so), (6, .int kb)]) hx hb d_Mo_along_137 hl (by decide) rfl (fun ls hl => ?_)
                  refine lv_iload hx hb d_Mo_along_139 (lv_at hl 7 rfl) ?_
                  refine lv_iconst (v := 2) hx hb d_Mo_along_141 (by decide) ?_
                  refine lv_icmp_ge (tgt := 152) hx hb d_Mo_along_142 (by decide) (fun hc_98 => ?_) (fun hc_98 => ?_)
                  · skip
                    exfalso
                    have hq9 := iLe hc_98
                    rw [(show (2 : Int32).toInt = 2 from rfl)] at hq9
                    omega
                  · skip
                    have ic_99 : so.toInt < 2 := iNe hc_98
                    refine lv_iload hx hb d_Mo_along_145 (lv_at hl 7 rfl) ?_
                    refine lv_iconst (v := 1) hx hb d_Mo_along_147 (by decide) ?_
                    refine lv_iadd hx hb d_Mo_along_148 ?_
                    refine lv_topi (fun v_100 e_101 => ?_)
                    refine lv_goto (tgt := 153) hx hb d_Mo_along_149 (by decide) ?_
                    refine lv_istore (lv' := [(5, .int v_100), (4, .int v_96), (8, .int r_79), (7, .int v_68), (0, .ref m9), (1, .int d9), (2, .int f9), (3, .int z9), (6, .int kb)]) hx hb d_Mo_along_153 hl (by decide) rfl (fun ls hl => ?_)
                    refine lv_goto (tgt := 9) hx hb d_Mo_along_155 (by decide) ?_
                    have is_102 : v_96.toInt = pp.toInt + r_79.toInt := by rw [e_97]; exact iAdd (by omega) (by omega)
                    have is_103 : v_100.toInt = so.toInt + 1 := by rw [e_101]; exact iAddK 1 rfl (by omega) (by omega)
                    exact ih9 ((2 - v_100.toInt).toNat + cntP (rmB g_1 g_3 g_5 g_6 d9 kb) ma.toInt.toNat) ls _ locs _ (by rw [hk9]; omega) ⟨v_96, v_100, kb, 0, rfl, (lv_sub hl [4, 5, 6, 7, 1, 0, 8] rfl), hH, hz, hLo, F_m9, F_A4, F_A5, F_A6, F_A7, hT, hkf, (Or.inr (Or.inr ⟨by omega, by omega, by omega, by omega⟩)), ⟨by omega, by omega⟩⟩
                · skip
                  have hfz9 := hfz (Z_z9.resolve_left hc_94)
                  refine lv_aload_n hx hb d_Mo_along_120 rfl (lv_at hl 2 rfl) ?_
                  refine lv_iload_n hx hb d_Mo_along_121 rfl (lv_at hl 4 rfl) ?_
                  refine lv_iload hx hb d_Mo_along_122 (lv_at hl 6 rfl) ?_
                  refine lv_iadd hx hb d_Mo_along_124 ?_
                  refine lv_topi (fun v_104 e_105 => ?_)
                  refine lv_iload hx hb d_Mo_along_125 (lv_at hl 7 rfl) ?_
                  refine lv_iload hx hb d_Mo_along_127 (lv_at hl 1 rfl) ?_
                  have is_106 : v_104.toInt = f9.toInt + pp.toInt := by rw [e_105]; exact iAdd (by omega) (by omega)
                  refine hm_callv (va_runV (As := [.int v_104, .int so, .int v_68]) (b := m9) (rest := []) ⟨hx, hb, hml, hown, hts⟩ (m_record l D t G ak av hh9 τ n m9 v_104 so v_68 A th sd lo le wr ma nu di pl se wg op   hn hT T_m9  F_m9 hA ⟨hsd, hlo, (by omega), ⟨by omega, by omega⟩, ⟨by omega, by omega⟩⟩ (by omega) (by omega) (by omega) (by omega)) ⟨cw9B 3 hts mw_671 mw_672 mw_579 rfl rfl (by decide +kernel) ⟨Nat.le_of_ble_eq_true rfl, Nat.le_of_ble_eq_true rfl⟩, hts _ mw_673, hts _ mw_674⟩ (hP_V (q := (R_Mo, F_Mo, 41)) kE_ok hE hK hH F_m9 rfl) rfl rfl hl.1 rfl (lv_room (Nat.le_of_ble_eq_true rfl)) d_Mo_along_129 ⟨Nat.le_of_ble_eq_true rfl, Nat.le_of_ble_eq_true rfl⟩) hLo (fun h_107 H_108 locs hp_110 hH z_109 hLo => ?_)
                  have hz : s.heap.size ≤ H_108.size := Nat.le_trans hz z_109
                  have hT0 := hT
                  obtain ⟨hT, kf_112⟩ := hp_110
                  have F_m9 : h_107 m9 = some (.inr (9, mf A n th sd lo le wr ma nu di pl se wg op)) := kf_at kf_112 T_m9 (by decide) (tnc (by decide) tn0) nm0 F_m9
                  have F_A4 : h_107 (A 4) = some (.inl ((t 1), 700, .inl g_1)) := kf_at kf_112 (hA 4 (by decide)) (by decide) (tncF (by decide) tn0) nm0 F_A4
                  have F_A5 : h_107 (A 5) = some (.inl ((t 1), 700, .inl g_3)) := kf_at kf_112 (hA 5 (by decide)) (by decide) (tncF (by decide) tn0) nm0 F_A5
                  have F_A6 : h_107 (A 6) = some (.inl ((t 2), 700, .inl g_5)) := kf_at kf_112 (hA 6 (by decide)) (by decide) (tncF (by decide) tn0) nm0 F_A6
                  have F_A7 : h_107 (A 7) = some (.inl ((t 3), 700, .inr (.inl g_6))) := kf_at kf_112 (hA 7 (by decide)) (by decide) (tncF (by decide) tn0) nm0 F_A7
                  have hkf : kf τ [(30, 13)] [] h h_107 := kf_tr hkf kf_112 (List.forall_mem_cons.mpr ⟨List.mem_cons_self, List.forall_mem_nil _⟩) (List.forall_mem_nil _)
                  refine lv_iload hx hb d_Mo_along_132 (lv_at hl 6 rfl) ?_
                  refine lv_iload hx hb d_Mo_along_134 (lv_at hl 0 rfl) ?_
                  refine lv_iadd hx hb d_Mo_along_136 ?_
                  refine lv_topi (fun v_113 e_114 => ?_)
                  refine lv_istore (lv' := [(4, .int v_113), (8, .int r_79), (7, .int v_68), (0, .ref m9), (1, .int d9), (2, .int f9), (3, .int z9), (5, .int so), (6, .int kb)]) hx hb d_Mo_along_137 hl (by decide) rfl (fun ls hl => ?_)
                  refine lv_iload hx hb d_Mo_along_139 (lv_at hl 7 rfl) ?_
                  refine lv_iconst (v := 2) hx hb d_Mo_along_141 (by decide) ?_
                  refine lv_icmp_ge (tgt := 152) hx hb d_Mo_along_142 (by decide) (fun hc_115 => ?_) (fun hc_115 => ?_)
                  · skip
                    exfalso
                    have hq9 := iLe hc_115
                    rw [(show (2 : Int32).toInt = 2 from rfl)] at hq9
                    omega
                  · skip
                    have ic_116 : so.toInt < 2 := iNe hc_115
                    refine lv_iload hx hb d_Mo_along_145 (lv_at hl 7 rfl) ?_
                    refine lv_iconst (v := 1) hx hb d_Mo_along_147 (by decide) ?_
                    refine lv_iadd hx hb d_Mo_along_148 ?_
                    refine lv_topi (fun v_117 e_118 => ?_)
                    refine lv_goto (tgt := 153) hx hb d_Mo_along_149 (by decide) ?_
                    refine lv_istore (lv' := [(5, .int v_117), (4, .int v_113), (8, .int r_79), (7, .int v_68), (0, .ref m9), (1, .int d9), (2, .int f9), (3, .int z9), (6, .int kb)]) hx hb d_Mo_along_153 hl (by decide) rfl (fun ls hl => ?_)
                    refine lv_goto (tgt := 9) hx hb d_Mo_along_155 (by decide) ?_
                    have is_119 : v_113.toInt = pp.toInt + r_79.toInt := by rw [e_114]; exact iAdd (by omega) (by omega)
                    have is_120 : v_117.toInt = so.toInt + 1 := by rw [e_118]; exact iAddK 1 rfl (by omega) (by omega)
                    exact ih9 ((2 - v_117.toInt).toNat + cntP (rmB g_1 g_3 g_5 g_6 d9 kb) ma.toInt.toNat) ls _ locs _ (by rw [hk9]; omega) ⟨v_113, v_117, kb, 0, rfl, (lv_sub hl [4, 5, 6, 7, 1, 0, 8] rfl), hH, hz, hLo, F_m9, F_A4, F_A5, F_A6, F_A7, hT, hkf, (Or.inr (Or.inr ⟨by omega, by omega, by omega, by omega⟩)), ⟨by omega, by omega⟩⟩
              · skip
                exfalso
                have hq9 := iNe hc_92
                rw [(show (2048 : Int32).toInt = 2048 from rfl)] at hq9
                omega
          · skip
            have ic_121 : d9.toInt = 0 := congrArg Int32.toInt hc_65
            refine lv_iload_n hx hb d_Mo_along_47 rfl (lv_at hl 1 rfl) ?_
            refine lv_goto (tgt := 68) hx hb d_Mo_along_48 (by decide) ?_
            refine lv_istore (lv' := [(7, .int d9), (0, .ref m9), (1, .int d9), (2, .int f9), (3, .int z9), (4, .int pp), (5, .int so), (6, .int kb)]) hx hb d_Mo_along_68 hl (by decide) rfl (fun ls hl => ?_)
            refine lv_bipush (v := 33) hx hb d_Mo_along_70 (by decide) ?_
            refine lv_aload_n hx hb d_Mo_along_72 rfl (lv_at hl 1 rfl) ?_
            refine lv_iload hx hb d_Mo_along_73 (lv_at hl 6 rfl) ?_
            refine lv_iload hx hb d_Mo_along_75 (lv_at hl 0 rfl) ?_
            refine hm_callPi (va_runV (As := [.int so, .int d9]) (b := m9) (rest := [.int 33]) ⟨hx, hb, hml, hown, hts⟩ (m_recId l D t G ak av hh9 τ n m9 so d9 A th sd lo le wr ma nu di pl se wg op   hn hT T_m9  F_m9 hA ⟨hsd, hlo, (by omega), ⟨by omega, by omega⟩, ⟨by omega, by omega⟩⟩ (by omega) (by omega)) ⟨cw9B 2 hts mw_658 mw_659 mw_579 rfl rfl (by decide +kernel) ⟨Nat.le_of_ble_eq_true rfl, Nat.le_of_ble_eq_true rfl⟩, hts _ mw_660, hts _ mw_661⟩ (hP_V (q := (R_Mo, F_Mo, 41)) kE_ok hE hK hH F_m9 rfl) rfl rfl hl.1 rfl (lv_room (Nat.le_of_ble_eq_true rfl)) d_Mo_along_77 ⟨Nat.le_of_ble_eq_true rfl, Nat.le_of_ble_eq_true rfl⟩) (fun r_122 h_123 H_124 hp_126  hH z_125 => ?_)
            have hz : s.heap.size ≤ H_124.size := Nat.le_trans hz z_125
            obtain ⟨xp_127, rfl⟩ := hp_126
            obtain ⟨ir1, ir2⟩ := xp_127
            refine lv_iadd hx hb d_Mo_along_80 ?_
            refine lv_topi (fun v_128 e_129 => ?_)
            have is_130 : v_128.toInt = 33 + r_122.toInt := by rw [e_129]; exact iAddL 33 rfl (by omega) (by omega)
            refine hm_callPi (va_runS (As := [.int v_128]) (rest := []) ⟨hx, hb, hml, hown, hts⟩ (m_even l D t G ak av hh9 τ n v_128    hn hT    ) ⟨cw9B 1 hts mw_662 mw_663 mw_579 rfl rfl (by decide +kernel) ⟨Nat.le_of_ble_eq_true rfl, Nat.le_of_ble_eq_true rfl⟩, hts _ mw_664⟩ (hP_S kE_ok hE hH) rfl rfl hl.1 rfl (lv_room (Nat.le_of_ble_eq_true rfl)) d_Mo_along_81 ⟨Nat.le_of_ble_eq_true rfl, Nat.le_of_ble_eq_true rfl⟩) (fun r_131 h_132 H_133 hp_135  hH z_134 => ?_)
            have hz : s.heap.size ≤ H_133.size := Nat.le_trans hz z_134
            obtain ⟨xp_136, rfl⟩ := hp_135
            have iev_137 := xp_136 (by omega) (by omega)
            refine lv_istore (lv' := [(8, .int r_131), (7, .int d9), (0, .ref m9), (1, .int d9), (2, .int f9), (3, .int z9), (4, .int pp), (5, .int so), (6, .int kb)]) hx hb d_Mo_along_84 hl (by decide) rfl (fun ls hl => ?_)
            refine lv_iload hx hb d_Mo_along_86 (lv_at hl 6 rfl) ?_
            refine lv_sipush (v := 2048) hx hb d_Mo_along_88 (by decide) ?_
            refine lv_irem hx hb d_Mo_along_91 (by decide) ?_
            refine lv_topi (fun v_138 e_139 => ?_)
            have id_140 : 0 ≤ pp.toInt → v_138.toInt = pp.toInt % 2048 := fun h9 => by rw [e_139]; exact i_mod (d := 2048) (by decide) h9
            have hpm := id_140 (by omega)
            refine lv_iload hx hb d_Mo_along_92 (lv_at hl 0 rfl) ?_
            refine lv_iadd hx hb d_Mo_along_94 ?_
            refine lv_topi (fun v_141 e_142 => ?_)
            refine lv_sipush (v := 2048) hx hb d_Mo_along_95 (by decide) ?_
            have is_143 : v_141.toInt = v_138.toInt + r_131.toInt := by rw [e_142]; exact iAdd (by omega) (by omega)
            refine lv_icmp_le (tgt := 116) hx hb d_Mo_along_98 (by decide) (fun hc_144 => ?_) (fun hc_144 => ?_)
            · skip
              have ic_145 : v_141.toInt ≤ 2048 := iLe hc_144
              refine lv_iload_n hx hb d_Mo_along_116 rfl (lv_at hl 5 rfl) ?_
              refine lv_if_eq (tgt := 132) hx hb d_Mo_along_117 (by decide) (fun hc_146 => ?_) (fun hc_146 => ?_)
              · skip
                have ic_147 : z9.toInt = 0 := congrArg Int32.toInt hc_146
                refine lv_iload hx hb d_Mo_along_132 (lv_at hl 6 rfl) ?_
                refine lv_iload hx hb d_Mo_along_134 (lv_at hl 0 rfl) ?_
                refine lv_iadd hx hb d_Mo_along_136 ?_
                refine lv_topi (fun v_148 e_149 => ?_)
                refine lv_istore (lv' := [(4, .int v_148), (8, .int r_131), (7, .int d9), (0, .ref m9), (1, .int d9), (2, .int f9), (3, .int z9), (5, .int so), (6, .int kb)]) hx hb d_Mo_along_137 hl (by decide) rfl (fun ls hl => ?_)
                refine lv_iload hx hb d_Mo_along_139 (lv_at hl 7 rfl) ?_
                refine lv_iconst (v := 2) hx hb d_Mo_along_141 (by decide) ?_
                refine lv_icmp_ge (tgt := 152) hx hb d_Mo_along_142 (by decide) (fun hc_150 => ?_) (fun hc_150 => ?_)
                · skip
                  exfalso
                  have hq9 := iLe hc_150
                  rw [(show (2 : Int32).toInt = 2 from rfl)] at hq9
                  omega
                · skip
                  have ic_151 : so.toInt < 2 := iNe hc_150
                  refine lv_iload hx hb d_Mo_along_145 (lv_at hl 7 rfl) ?_
                  refine lv_iconst (v := 1) hx hb d_Mo_along_147 (by decide) ?_
                  refine lv_iadd hx hb d_Mo_along_148 ?_
                  refine lv_topi (fun v_152 e_153 => ?_)
                  refine lv_goto (tgt := 153) hx hb d_Mo_along_149 (by decide) ?_
                  refine lv_istore (lv' := [(5, .int v_152), (4, .int v_148), (8, .int r_131), (7, .int d9), (0, .ref m9), (1, .int d9), (2, .int f9), (3, .int z9), (6, .int kb)]) hx hb d_Mo_along_153 hl (by decide) rfl (fun ls hl => ?_)
                  refine lv_goto (tgt := 9) hx hb d_Mo_along_155 (by decide) ?_
                  have is_154 : v_148.toInt = pp.toInt + r_131.toInt := by rw [e_149]; exact iAdd (by omega) (by omega)
                  have is_155 : v_152.toInt = so.toInt + 1 := by rw [e_153]; exact iAddK 1 rfl (by omega) (by omega)
                  exact ih9 ((2 - v_152.toInt).toNat + cntP (rmB g_1 g_3 g_5 g_6 d9 kb) ma.toInt.toNat) ls _ locs _ (by rw [hk9]; omega) ⟨v_148, v_152, kb, 0, rfl, (lv_sub hl [4, 5, 6, 7, 1, 0, 8] rfl), hH, hz, hLo, F_m9, F_A4, F_A5, F_A6, F_A7, hT, hkf, (Or.inr (Or.inr ⟨by omega, by omega, by omega, by omega⟩)), ⟨by omega, by omega⟩⟩
              · skip
                have hfz9 := hfz (Z_z9.resolve_left hc_146)
                refine lv_aload_n hx hb d_Mo_along_120 rfl (lv_at hl 2 rfl) ?_
                refine lv_iload_n hx hb d_Mo_along_121 rfl (lv_at hl 4 rfl) ?_
                refine lv_iload hx hb d_Mo_along_122 (lv_at hl 6 rfl) ?_
                refine lv_iadd hx hb d_Mo_along_124 ?_
                refine lv_topi (fun v_156 e_157 => ?_)
                refine lv_iload hx hb d_Mo_along_125 (lv_at hl 7 rfl) ?_
                refine lv_iload hx hb d_Mo_along_127 (lv_at hl 1 rfl) ?_
                have is_158 : v_156.toInt = f9.toInt + pp.toInt := by rw [e_157]; exact iAdd (by omega) (by omega)
                refine hm_callv (va_runV (As := [.int v_156, .int so, .int d9]) (b := m9) (rest := []) ⟨hx, hb, hml, hown, hts⟩ (m_record l D t G ak av hh9 τ n m9 v_156 so d9 A th sd lo le wr ma nu di pl se wg op   hn hT T_m9  F_m9 hA ⟨hsd, hlo, (by omega), ⟨by omega, by omega⟩, ⟨by omega, by omega⟩⟩ (by omega) (by omega) (by omega) (by omega)) ⟨cw9B 3 hts mw_671 mw_672 mw_579 rfl rfl (by decide +kernel) ⟨Nat.le_of_ble_eq_true rfl, Nat.le_of_ble_eq_true rfl⟩, hts _ mw_673, hts _ mw_674⟩ (hP_V (q := (R_Mo, F_Mo, 41)) kE_ok hE hK hH F_m9 rfl) rfl rfl hl.1 rfl (lv_room (Nat.le_of_ble_eq_true rfl)) d_Mo_along_129 ⟨Nat.le_of_ble_eq_true rfl, Nat.le_of_ble_eq_true rfl⟩) hLo (fun h_159 H_160 locs hp_162 hH z_161 hLo => ?_)
                have hz : s.heap.size ≤ H_160.size := Nat.le_trans hz z_161
                have hT0 := hT
                obtain ⟨hT, kf_164⟩ := hp_162
                have F_m9 : h_159 m9 = some (.inr (9, mf A n th sd lo le wr ma nu di pl se wg op)) := kf_at kf_164 T_m9 (by decide) (tnc (by decide) tn0) nm0 F_m9
                have F_A4 : h_159 (A 4) = some (.inl ((t 1), 700, .inl g_1)) := kf_at kf_164 (hA 4 (by decide)) (by decide) (tncF (by decide) tn0) nm0 F_A4
                have F_A5 : h_159 (A 5) = some (.inl ((t 1), 700, .inl g_3)) := kf_at kf_164 (hA 5 (by decide)) (by decide) (tncF (by decide) tn0) nm0 F_A5
                have F_A6 : h_159 (A 6) = some (.inl ((t 2), 700, .inl g_5)) := kf_at kf_164 (hA 6 (by decide)) (by decide) (tncF (by decide) tn0) nm0 F_A6
                have F_A7 : h_159 (A 7) = some (.inl ((t 3), 700, .inr (.inl g_6))) := kf_at kf_164 (hA 7 (by decide)) (by decide) (tncF (by decide) tn0) nm0 F_A7
                have hkf : kf τ [(30, 13)] [] h h_159 := kf_tr hkf kf_164 (List.forall_mem_cons.mpr ⟨List.mem_cons_self, List.forall_mem_nil _⟩) (List.forall_mem_nil _)
                refine lv_iload hx hb d_Mo_along_132 (lv_at hl 6 rfl) ?_
                refine lv_iload hx hb d_Mo_along_134 (lv_at hl 0 rfl) ?_
                refine lv_iadd hx hb d_Mo_along_136 ?_
                refine lv_topi (fun v_165 e_166 => ?_)
                refine lv_istore (lv' := [(4, .int v_165), (8, .int r_131), (7, .int d9), (0, .ref m9), (1, .int d9), (2, .int f9), (3, .int z9), (5, .int so), (6, .int kb)]) hx hb d_Mo_along_137 hl (by decide) rfl (fun ls hl => ?_)
                refine lv_iload hx hb d_Mo_along_139 (lv_at hl 7 rfl) ?_
                refine lv_iconst (v := 2) hx hb d_Mo_along_141 (by decide) ?_
                refine lv_icmp_ge (tgt := 152) hx hb d_Mo_along_142 (by decide) (fun hc_167 => ?_) (fun hc_167 => ?_)
                · skip
                  exfalso
                  have hq9 := iLe hc_167
                  rw [(show (2 : Int32).toInt = 2 from rfl)] at hq9
                  omega
                · skip
                  have ic_168 : so.toInt < 2 := iNe hc_167
                  refine lv_iload hx hb d_Mo_along_145 (lv_at hl 7 rfl) ?_
                  refine lv_iconst (v := 1) hx hb d_Mo_along_147 (by decide) ?_
                  refine lv_iadd hx hb d_Mo_along_148 ?_
                  refine lv_topi (fun v_169 e_170 => ?_)
                  refine lv_goto (tgt := 153) hx hb d_Mo_along_149 (by decide) ?_
                  refine lv_istore (lv' := [(5, .int v_169), (4, .int v_165), (8, .int r_131), (7, .int d9), (0, .ref m9), (1, .int d9), (2, .int f9), (3, .int z9), (6, .int kb)]) hx hb d_Mo_along_153 hl (by decide) rfl (fun ls hl => ?_)
                  refine lv_goto (tgt := 9) hx hb d_Mo_along_155 (by decide) ?_
                  have is_171 : v_165.toInt = pp.toInt + r_131.toInt := by rw [e_166]; exact iAdd (by omega) (by omega)
                  have is_172 : v_169.toInt = so.toInt + 1 := by rw [e_170]; exact iAddK 1 rfl (by omega) (by omega)
                  exact ih9 ((2 - v_169.toInt).toNat + cntP (rmB g_1 g_3 g_5 g_6 d9 kb) ma.toInt.toNat) ls _ locs _ (by rw [hk9]; omega) ⟨v_165, v_169, kb, 0, rfl, (lv_sub hl [4, 5, 6, 7, 1, 0, 8] rfl), hH, hz, hLo, F_m9, F_A4, F_A5, F_A6, F_A7, hT, hkf, (Or.inr (Or.inr ⟨by omega, by omega, by omega, by omega⟩)), ⟨by omega, by omega⟩⟩
            · skip
              exfalso
              have hq9 := iNe hc_144
              rw [(show (2048 : Int32).toInt = 2048 from rfl)] at hq9
              omega
    · skip
      exact absurd (congrArg Int32.toInt hc_61) (by rw [(show (2 : Int32).toInt = 2 from rfl)]; omega)
  · skip
    refine lv_iload hx hb d_Mo_along_9 (lv_at hl 5 rfl) ?_
    refine lv_iconst (v := 2) hx hb d_Mo_along_11 (by decide) ?_
    refine lv_icmp_ne (tgt := 32) hx hb d_Mo_along_12 (by decide) (fun hc_173 => ?_) (fun hc_173 => ?_)
    · skip
      exact absurd (show so = 2 from Int32.toInt_inj.mp (by rw [(show (2 : Int32).toInt = 2 from rfl)]; omega)) hc_173
    · skip
      have ic_174 : so.toInt = 2 := congrArg Int32.toInt hc_173
      refine lv_aload_n hx hb d_Mo_along_15 rfl (lv_at hl 0 rfl) ?_
      refine lv_iload_n hx hb d_Mo_along_16 rfl (lv_at hl 1 rfl) ?_
      refine lv_iload hx hb d_Mo_along_17 (lv_at hl 6 rfl) ?_
      refine hm_callPi (va_runV (As := [.int d9, .int kb]) (b := m9) (rest := []) ⟨hx, hb, hml, hown, hts⟩ (m_next l D t G ak av hh9 τ n m9 d9 kb A th sd lo le wr ma nu di pl se wg op   hn hT T_m9  F_m9 hA ⟨hsd, hlo, (by omega), ⟨by omega, by omega⟩, ⟨by omega, by omega⟩⟩ (by omega)) ⟨cw9B 2 hts mw_675 mw_676 mw_579 rfl rfl (by decide +kernel) ⟨Nat.le_of_ble_eq_true rfl, Nat.le_of_ble_eq_true rfl⟩, hts _ mw_677, hts _ mw_678⟩ (hP_V (q := (R_Mo, F_Mo, 41)) kE_ok hE hK hH F_m9 rfl) rfl rfl hl.1 rfl (lv_room (Nat.le_of_ble_eq_true rfl)) d_Mo_along_19 ⟨Nat.le_of_ble_eq_true rfl, Nat.le_of_ble_eq_true rfl⟩) (fun r_175 h_176 H_177 hp_179  hH z_178 => ?_)
      have hz : s.heap.size ≤ H_177.size := Nat.le_trans hz z_178
      obtain ⟨xp_180, rfl⟩ := hp_179
      rw [aI_of F_A4, aI_of F_A5, aI_of F_A6, aJ_of F_A7] at xp_180
      have hkv := nx_kv xp_180
      have ikv := kv_lt hkv hma
      refine lv_istore (lv' := [(6, .int r_175), (0, .ref m9), (1, .int d9), (2, .int f9), (3, .int z9), (4, .int pp), (5, .int so)]) hx hb d_Mo_along_22 hl (by decide) rfl (fun ls hl => ?_)
      refine lv_iload hx hb d_Mo_along_24 (lv_at hl 0 rfl) ?_
      refine lv_if_ge (tgt := 32) hx hb d_Mo_along_26 (by decide) (fun hc_181 => ?_) (fun hc_181 => ?_)
      · skip
        have ic_182 : 0 ≤ r_175.toInt := iLe hc_181
        have hrn := rm_next rfl xp_180 (by omega)
        refine lv_iload hx hb d_Mo_along_32 (lv_at hl 6 rfl) ?_
        refine lv_if_eq (tgt := 47) hx hb d_Mo_along_34 (by decide) (fun hc_183 => ?_) (fun hc_183 => ?_)
        · skip
          exact absurd (congrArg Int32.toInt hc_183) (by rw [(show (0 : Int32).toInt = 0 from rfl)]; omega)
        · skip
          refine lv_iload hx hb d_Mo_along_37 (lv_at hl 6 rfl) ?_
          refine lv_iconst (v := 1) hx hb d_Mo_along_39 (by decide) ?_
          refine lv_icmp_ne (tgt := 51) hx hb d_Mo_along_40 (by decide) (fun hc_184 => ?_) (fun hc_184 => ?_)
          · skip
            refine lv_iload hx hb d_Mo_along_51 (lv_at hl 6 rfl) ?_
            refine lv_iconst (v := 1) hx hb d_Mo_along_53 (by decide) ?_
            refine lv_icmp_ne (tgt := 66) hx hb d_Mo_along_54 (by decide) (fun hc_185 => ?_) (fun hc_185 => ?_)
            · skip
              refine lv_iload hx hb d_Mo_along_66 (lv_at hl 0 rfl) ?_
              refine lv_istore (lv' := [(7, .int r_175), (6, .int r_175), (0, .ref m9), (1, .int d9), (2, .int f9), (3, .int z9), (4, .int pp), (5, .int so)]) hx hb d_Mo_along_68 hl (by decide) rfl (fun ls hl => ?_)
              refine lv_bipush (v := 33) hx hb d_Mo_along_70 (by decide) ?_
              refine lv_aload_n hx hb d_Mo_along_72 rfl (lv_at hl 2 rfl) ?_
              refine lv_iload hx hb d_Mo_along_73 (lv_at hl 7 rfl) ?_
              refine lv_iload hx hb d_Mo_along_75 (lv_at hl 0 rfl) ?_
              refine hm_callPi (va_runV (As := [.int so, .int r_175]) (b := m9) (rest := [.int 33]) ⟨hx, hb, hml, hown, hts⟩ (m_recId l D t G ak av hh9 τ n m9 so r_175 A th sd lo le wr ma nu di pl se wg op   hn hT T_m9  F_m9 hA ⟨hsd, hlo, (by omega), ⟨by omega, by omega⟩, ⟨by omega, by omega⟩⟩ (by omega) (by omega)) ⟨cw9B 2 hts mw_658 mw_659 mw_579 rfl rfl (by decide +kernel) ⟨Nat.le_of_ble_eq_true rfl, Nat.le_of_ble_eq_true rfl⟩, hts _ mw_660, hts _ mw_661⟩ (hP_V (q := (R_Mo, F_Mo, 41)) kE_ok hE hK hH F_m9 rfl) rfl rfl hl.1 rfl (lv_room (Nat.le_of_ble_eq_true rfl)) d_Mo_along_77 ⟨Nat.le_of_ble_eq_true rfl, Nat.le_of_ble_eq_true rfl⟩) (fun r_186 h_187 H_188 hp_190  hH z_189 => ?_)
              have hz : s.heap.size ≤ H_188.size := Nat.le_trans hz z_189
              obtain ⟨xp_191, rfl⟩ := hp_190
              obtain ⟨ir1, ir2⟩ := xp_191
              refine lv_iadd hx hb d_Mo_along_80 ?_
              refine lv_topi (fun v_192 e_193 => ?_)
              have is_194 : v_192.toInt = 33 + r_186.toInt := by rw [e_193]; exact iAddL 33 rfl (by omega) (by omega)
              refine hm_callPi (va_runS (As := [.int v_192]) (rest := []) ⟨hx, hb, hml, hown, hts⟩ (m_even l D t G ak av hh9 τ n v_192    hn hT    ) ⟨cw9B 1 hts mw_662 mw_663 mw_579 rfl rfl (by decide +kernel) ⟨Nat.le_of_ble_eq_true rfl, Nat.le_of_ble_eq_true rfl⟩, hts _ mw_664⟩ (hP_S kE_ok hE hH) rfl rfl hl.1 rfl (lv_room (Nat.le_of_ble_eq_true rfl)) d_Mo_along_81 ⟨Nat.le_of_ble_eq_true rfl, Nat.le_of_ble_eq_true rfl⟩) (fun r_195 h_196 H_197 hp_199  hH z_198 => ?_)
              have hz : s.heap.size ≤ H_197.size := Nat.le_trans hz z_198
              obtain ⟨xp_200, rfl⟩ := hp_199
              have iev_201 := xp_200 (by omega) (by omega)
              refine lv_istore (lv' := [(8, .int r_195), (7, .int r_175), (6, .int r_175), (0, .ref m9), (1, .int d9), (2, .int f9), (3, .int z9), (4, .int pp), (5, .int so)]) hx hb d_Mo_along_84 hl (by decide) rfl (fun ls hl => ?_)
              refine lv_iload hx hb d_Mo_along_86 (lv_at hl 7 rfl) ?_
              refine lv_sipush (v := 2048) hx hb d_Mo_along_88 (by decide) ?_
              refine lv_irem hx hb d_Mo_along_91 (by decide) ?_
              refine lv_topi (fun v_202 e_203 => ?_)
              have id_204 : 0 ≤ pp.toInt → v_202.toInt = pp.toInt % 2048 := fun h9 => by rw [e_203]; exact i_mod (d := 2048) (by decide) h9
              have hpm := id_204 (by omega)
              refine lv_iload hx hb d_Mo_along_92 (lv_at hl 0 rfl) ?_
              refine lv_iadd hx hb d_Mo_along_94 ?_
              refine lv_topi (fun v_205 e_206 => ?_)
              refine lv_sipush (v := 2048) hx hb d_Mo_along_95 (by decide) ?_
              have is_207 : v_205.toInt = v_202.toInt + r_195.toInt := by rw [e_206]; exact iAdd (by omega) (by omega)
              refine lv_icmp_le (tgt := 116) hx hb d_Mo_along_98 (by decide) (fun hc_208 => ?_) (fun hc_208 => ?_)
              · skip
                have ic_209 : v_205.toInt ≤ 2048 := iLe hc_208
                refine lv_iload_n hx hb d_Mo_along_116 rfl (lv_at hl 6 rfl) ?_
                refine lv_if_eq (tgt := 132) hx hb d_Mo_along_117 (by decide) (fun hc_210 => ?_) (fun hc_210 => ?_)
                · skip
                  have ic_211 : z9.toInt = 0 := congrArg Int32.toInt hc_210
                  refine lv_iload hx hb d_Mo_along_132 (lv_at hl 7 rfl) ?_
                  refine lv_iload hx hb d_Mo_along_134 (lv_at hl 0 rfl) ?_
                  refine lv_iadd hx hb d_Mo_along_136 ?_
                  refine lv_topi (fun v_212 e_213 => ?_)
                  refine lv_istore (lv' := [(4, .int v_212), (8, .int r_195), (7, .int r_175), (6, .int r_175), (0, .ref m9), (1, .int d9), (2, .int f9), (3, .int z9), (5, .int so)]) hx hb d_Mo_along_137 hl (by decide) rfl (fun ls hl => ?_)
                  refine lv_iload hx hb d_Mo_along_139 (lv_at hl 8 rfl) ?_
                  refine lv_iconst (v := 2) hx hb d_Mo_along_141 (by decide) ?_
                  refine lv_icmp_ge (tgt := 152) hx hb d_Mo_along_142 (by decide) (fun hc_214 => ?_) (fun hc_214 => ?_)
                  · skip
                    have ic_215 : 2 ≤ so.toInt := iLe hc_214
                    refine lv_iconst (v := 2) hx hb d_Mo_along_152 (by decide) ?_
                    refine lv_topi (fun v_216 e_217 => ?_)
                    have i2s : v_216.toInt = 2 := by rw [e_217]; rfl
                    refine lv_istore (lv' := [(5, .int v_216), (4, .int v_212), (8, .int r_195), (7, .int r_175), (6, .int r_175), (0, .ref m9), (1, .int d9), (2, .int f9), (3, .int z9)]) hx hb d_Mo_along_153 hl (by decide) rfl (fun ls hl => ?_)
                    refine lv_goto (tgt := 9) hx hb d_Mo_along_155 (by decide) ?_
                    have is_218 : v_212.toInt = pp.toInt + r_195.toInt := by rw [e_213]; exact iAdd (by omega) (by omega)
                    exact ih9 ((2 - v_216.toInt).toNat + cntP (rmB g_1 g_3 g_5 g_6 d9 r_175) ma.toInt.toNat) ls _ locs _ (by rw [hk9]; omega) ⟨v_212, v_216, r_175, (c9 + 1), rfl, (lv_sub hl [5, 6, 7, 8, 1, 0, 4] rfl), hH, hz, hLo, F_m9, F_A4, F_A5, F_A6, F_A7, hT, hkf, (Or.inr (Or.inr ⟨by omega, by omega, by omega, by omega⟩)), ⟨by omega, by omega⟩⟩
                  · skip
                    exfalso
                    have hq9 := iNe hc_214
                    rw [(show (2 : Int32).toInt = 2 from rfl)] at hq9
                    omega
                · skip
                  have hfz9 := hfz (Z_z9.resolve_left hc_210)
                  refine lv_aload_n hx hb d_Mo_along_120 rfl (lv_at hl 3 rfl) ?_
                  refine lv_iload_n hx hb d_Mo_along_121 rfl (lv_at hl 5 rfl) ?_
                  refine lv_iload hx hb d_Mo_along_122 (lv_at hl 7 rfl) ?_
                  refine lv_iadd hx hb d_Mo_along_124 ?_
                  refine lv_topi (fun v_219 e_220 => ?_)
                  refine lv_iload hx hb d_Mo_along_125 (lv_at hl 8 rfl) ?_
                  refine lv_iload hx hb d_Mo_along_127 (lv_at hl 1 rfl) ?_
                  have is_221 : v_219.toInt = f9.toInt + pp.toInt := by rw [e_220]; exact iAdd (by omega) (by omega)
                  refine hm_callv (va_runV (As := [.int v_219, .int so, .int r_175]) (b := m9) (rest := []) ⟨hx, hb, hml, hown, hts⟩ (m_record l D t G ak av hh9 τ n m9 v_219 so r_175 A th sd lo le wr ma nu di pl se wg op   hn hT T_m9  F_m9 hA ⟨hsd, hlo, (by omega), ⟨by omega, by omega⟩, ⟨by omega, by omega⟩⟩ (by omega) (by omega) (by omega) (by omega)) ⟨cw9B 3 hts mw_671 mw_672 mw_579 rfl rfl (by decide +kernel) ⟨Nat.le_of_ble_eq_true rfl, Nat.le_of_ble_eq_true rfl⟩, hts _ mw_673, hts _ mw_674⟩ (hP_V (q := (R_Mo, F_Mo, 41)) kE_ok hE hK hH F_m9 rfl) rfl rfl hl.1 rfl (lv_room (Nat.le_of_ble_eq_true rfl)) d_Mo_along_129 ⟨Nat.le_of_ble_eq_true rfl, Nat.le_of_ble_eq_true rfl⟩) hLo (fun h_222 H_223 locs hp_225 hH z_224 hLo => ?_)
                  have hz : s.heap.size ≤ H_223.size := Nat.le_trans hz z_224
                  have hT0 := hT
                  obtain ⟨hT, kf_227⟩ := hp_225
                  have F_m9 : h_222 m9 = some (.inr (9, mf A n th sd lo le wr ma nu di pl se wg op)) := kf_at kf_227 T_m9 (by decide) (tnc (by decide) tn0) nm0 F_m9
                  have F_A4 : h_222 (A 4) = some (.inl ((t 1), 700, .inl g_1)) := kf_at kf_227 (hA 4 (by decide)) (by decide) (tncF (by decide) tn0) nm0 F_A4
                  have F_A5 : h_222 (A 5) = some (.inl ((t 1), 700, .inl g_3)) := kf_at kf_227 (hA 5 (by decide)) (by decide) (tncF (by decide) tn0) nm0 F_A5
                  have F_A6 : h_222 (A 6) = some (.inl ((t 2), 700, .inl g_5)) := kf_at kf_227 (hA 6 (by decide)) (by decide) (tncF (by decide) tn0) nm0 F_A6
                  have F_A7 : h_222 (A 7) = some (.inl ((t 3), 700, .inr (.inl g_6))) := kf_at kf_227 (hA 7 (by decide)) (by decide) (tncF (by decide) tn0) nm0 F_A7
                  have hkf : kf τ [(30, 13)] [] h h_222 := kf_tr hkf kf_227 (List.forall_mem_cons.mpr ⟨List.mem_cons_self, List.forall_mem_nil _⟩) (List.forall_mem_nil _)
                  refine lv_iload hx hb d_Mo_along_132 (lv_at hl 7 rfl) ?_
                  refine lv_iload hx hb d_Mo_along_134 (lv_at hl 0 rfl) ?_
                  refine lv_iadd hx hb d_Mo_along_136 ?_
                  refine lv_topi (fun v_228 e_229 => ?_)
                  refine lv_istore (lv' := [(4, .int v_228), (8, .int r_195), (7, .int r_175), (6, .int r_175), (0, .ref m9), (1, .int d9), (2, .int f9), (3, .int z9), (5, .int so)]) hx hb d_Mo_along_137 hl (by decide) rfl (fun ls hl => ?_)
                  refine lv_iload hx hb d_Mo_along_139 (lv_at hl 8 rfl) ?_
                  refine lv_iconst (v := 2) hx hb d_Mo_along_141 (by decide) ?_
                  refine lv_icmp_ge (tgt := 152) hx hb d_Mo_along_142 (by decide) (fun hc_230 => ?_) (fun hc_230 => ?_)
                  · skip
                    have ic_231 : 2 ≤ so.toInt := iLe hc_230
                    refine lv_iconst (v := 2) hx hb d_Mo_along_152 (by decide) ?_
                    refine lv_topi (fun v_232 e_233 => ?_)
                    have i2s : v_232.toInt = 2 := by rw [e_233]; rfl
                    refine lv_istore (lv' := [(5, .int v_232), (4, .int v_228), (8, .int r_195), (7, .int r_175), (6, .int r_175), (0, .ref m9), (1, .int d9), (2, .int f9), (3, .int z9)]) hx hb d_Mo_along_153 hl (by decide) rfl (fun ls hl => ?_)
                    refine lv_goto (tgt := 9) hx hb d_Mo_along_155 (by decide) ?_
                    have is_234 : v_228.toInt = pp.toInt + r_195.toInt := by rw [e_229]; exact iAdd (by omega) (by omega)
                    exact ih9 ((2 - v_232.toInt).toNat + cntP (rmB g_1 g_3 g_5 g_6 d9 r_175) ma.toInt.toNat) ls _ locs _ (by rw [hk9]; omega) ⟨v_228, v_232, r_175, (c9 + 1), rfl, (lv_sub hl [5, 6, 7, 8, 1, 0, 4] rfl), hH, hz, hLo, F_m9, F_A4, F_A5, F_A6, F_A7, hT, hkf, (Or.inr (Or.inr ⟨by omega, by omega, by omega, by omega⟩)), ⟨by omega, by omega⟩⟩
                  · skip
                    exfalso
                    have hq9 := iNe hc_230
                    rw [(show (2 : Int32).toInt = 2 from rfl)] at hq9
                    omega
              · skip
                exfalso
                have hq9 := iNe hc_208
                rw [(show (2048 : Int32).toInt = 2048 from rfl)] at hq9
                omega
            · skip
              exact absurd (congrArg Int32.toInt hc_185) (by rw [(show (1 : Int32).toInt = 1 from rfl)]; omega)
          · skip
            exact absurd (congrArg Int32.toInt hc_184) (by rw [(show (1 : Int32).toInt = 1 from rfl)]; omega)
      · skip
        have ic_235 : r_175.toInt < 0 := iNe hc_181
        refine lv_iload hx hb d_Mo_along_29 (lv_at hl 5 rfl) ?_
        exact W.iret (v := pp) hx hb hr (fun t9 ht hW => ⟨pp, hh9, rfl, ⟨hT, hkf, ⟨by omega, by omega⟩⟩, by rw [ht]; exact hH, by rw [ht]; exact hz⟩) hLo d_Mo_along_31
