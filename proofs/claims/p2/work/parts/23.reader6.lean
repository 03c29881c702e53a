set_option maxRecDepth 100000 in
theorem mw_396 : Cond.code y_Me_high b_Me_high 5 (some .int) ∈ lw_g := lw_gin (List.mem_append_right _ (List.mem_of_getElem? (i := 666) rfl)) (by decide +kernel)
set_option maxRecDepth 100000 in
theorem mw_397 : Cond.methodLink R_Re 98 y_Me_high ∈ lw_g := lw_gin (List.mem_append_right _ (List.mem_of_getElem? (i := 663) rfl)) (by decide +kernel)
set_option maxRecDepth 100000 in
theorem mw_398 : Cond.instanceMethod y_Me_high ∈ lw_g := lw_gin (List.mem_append_right _ (List.mem_of_getElem? (i := 664) rfl)) (by decide +kernel)
set_option maxRecDepth 100000 in
theorem mw_399 : Cond.selects R_Me y_Me_high y_Me_high ∈ lw_g := lw_gin (List.mem_append_right _ (List.mem_of_getElem? (i := 665) rfl)) (by decide +kernel)
set_option maxRecDepth 100000 in
theorem mw_400 : Cond.methodLink R_Re 174 y_Pg_fillWithPathTable ∈ lw_g := lw_gin (List.mem_append_right _ (List.mem_of_getElem? (i := 719) rfl)) (by decide +kernel)
set_option maxRecDepth 100000 in
theorem mw_401 : Cond.code y_Re_hasTable b_Re_hasTable 5 (some .boolean) ∈ lw_g := lw_gin (List.mem_append_right _ (List.mem_of_getElem? (i := 723) rfl)) (by decide +kernel)
set_option maxRecDepth 100000 in
theorem mw_402 : Cond.methodLink R_Re 178 y_Re_hasTable ∈ lw_g := lw_gin (List.mem_append_right _ (List.mem_of_getElem? (i := 720) rfl)) (by decide +kernel)
set_option maxRecDepth 100000 in
theorem mw_403 : Cond.instanceMethod y_Re_hasTable ∈ lw_g := lw_gin (List.mem_append_right _ (List.mem_of_getElem? (i := 722) rfl)) (by decide +kernel)
set_option maxRecDepth 100000 in
theorem mw_404 : Cond.selects R_Re y_Re_hasTable y_Re_hasTable ∈ lw_g := lw_gin (List.mem_append_left _ (List.mem_of_getElem? (i := 24) rfl)) (by decide +kernel)
theorem d_Re_hasDescriptor_0 : decode b_Re_hasDescriptor 0 = .ok (.iload_n 1, 1) := by decide +kernel
theorem d_Re_hasDescriptor_1 : decode b_Re_hasDescriptor 1 = .ok (.bipush 16, 2) := by decide +kernel
theorem d_Re_hasDescriptor_3 : decode b_Re_hasDescriptor 3 = .ok (.iadd, 1) := by decide +kernel
theorem d_Re_hasDescriptor_4 : decode b_Re_hasDescriptor 4 = .ok (.sipush 2048, 3) := by decide +kernel
theorem d_Re_hasDescriptor_7 : decode b_Re_hasDescriptor 7 = .ok (.imul, 1) := by decide +kernel
theorem d_Re_hasDescriptor_8 : decode b_Re_hasDescriptor 8 = .ok (.istore_n 2, 1) := by decide +kernel
theorem d_Re_hasDescriptor_9 : decode b_Re_hasDescriptor 9 = .ok (.aload_n 0, 1) := by decide +kernel
theorem d_Re_hasDescriptor_10 : decode b_Re_hasDescriptor 10 = .ok (.getfield 27, 3) := by decide +kernel
theorem d_Re_hasDescriptor_13 : decode b_Re_hasDescriptor 13 = .ok (.iload_n 2, 1) := by decide +kernel
theorem d_Re_hasDescriptor_14 : decode b_Re_hasDescriptor 14 = .ok (.sipush 128, 3) := by decide +kernel
theorem d_Re_hasDescriptor_17 : decode b_Re_hasDescriptor 17 = .ok (.iadd, 1) := by decide +kernel
theorem d_Re_hasDescriptor_18 : decode b_Re_hasDescriptor 18 = .ok (.iconst 2, 1) := by decide +kernel
theorem d_Re_hasDescriptor_19 : decode b_Re_hasDescriptor 19 = .ok (.invokevirtual 91, 3) := by decide +kernel
theorem d_Re_hasDescriptor_22 : decode b_Re_hasDescriptor 22 = .ok (.sipush 2048, 3) := by decide +kernel
theorem d_Re_hasDescriptor_25 : decode b_Re_hasDescriptor 25 = .ok (.if_icmp .ne 19, 3) := by decide +kernel
theorem d_Re_hasDescriptor_44 : decode b_Re_hasDescriptor 44 = .ok (.aload_n 0, 1) := by decide +kernel
theorem d_Re_hasDescriptor_45 : decode b_Re_hasDescriptor 45 = .ok (.iload_n 2, 1) := by decide +kernel
theorem d_Re_hasDescriptor_46 : decode b_Re_hasDescriptor 46 = .ok (.sipush 128, 3) := by decide +kernel
theorem d_Re_hasDescriptor_49 : decode b_Re_hasDescriptor 49 = .ok (.iadd, 1) := by decide +kernel
theorem d_Re_hasDescriptor_50 : decode b_Re_hasDescriptor 50 = .ok (.invokevirtual 74, 3) := by decide +kernel
theorem d_Re_hasDescriptor_53 : decode b_Re_hasDescriptor 53 = .ok (.ireturn, 1) := by decide +kernel
theorem d_Re_hasDescriptor_28 : decode b_Re_hasDescriptor 28 = .ok (.aload_n 0, 1) := by decide +kernel
theorem d_Re_hasDescriptor_29 : decode b_Re_hasDescriptor 29 = .ok (.getfield 27, 3) := by decide +kernel
theorem d_Re_hasDescriptor_32 : decode b_Re_hasDescriptor 32 = .ok (.iload_n 2, 1) := by decide +kernel
theorem d_Re_hasDescriptor_33 : decode b_Re_hasDescriptor 33 = .ok (.sipush 128, 3) := by decide +kernel
theorem d_Re_hasDescriptor_36 : decode b_Re_hasDescriptor 36 = .ok (.iadd, 1) := by decide +kernel
theorem d_Re_hasDescriptor_37 : decode b_Re_hasDescriptor 37 = .ok (.iconst 2, 1) := by decide +kernel
theorem d_Re_hasDescriptor_38 : decode b_Re_hasDescriptor 38 = .ok (.invokevirtual 95, 3) := by decide +kernel
theorem d_Re_hasDescriptor_41 : decode b_Re_hasDescriptor 41 = .ok (.ifCond .ne 13, 3) := by decide +kernel
theorem d_Re_hasDescriptor_54 : decode b_Re_hasDescriptor 54 = .ok (.aload_n 0, 1) := by decide +kernel
theorem d_Re_hasDescriptor_55 : decode b_Re_hasDescriptor 55 = .ok (.getfield 27, 3) := by decide +kernel
theorem d_Re_hasDescriptor_58 : decode b_Re_hasDescriptor 58 = .ok (.iload_n 2, 1) := by decide +kernel
theorem d_Re_hasDescriptor_59 : decode b_Re_hasDescriptor 59 = .ok (.sipush 132, 3) := by decide +kernel
theorem d_Re_hasDescriptor_62 : decode b_Re_hasDescriptor 62 = .ok (.iadd, 1) := by decide +kernel
theorem d_Re_hasDescriptor_63 : decode b_Re_hasDescriptor 63 = .ok (.iconst 4, 1) := by decide +kernel
theorem d_Re_hasDescriptor_64 : decode b_Re_hasDescriptor 64 = .ok (.invokevirtual 91, 3) := by decide +kernel
theorem d_Re_hasDescriptor_67 : decode b_Re_hasDescriptor 67 = .ok (.istore_n 3, 1) := by decide +kernel
theorem d_Re_hasDescriptor_68 : decode b_Re_hasDescriptor 68 = .ok (.iload_n 3, 1) := by decide +kernel
theorem d_Re_hasDescriptor_69 : decode b_Re_hasDescriptor 69 = .ok (.ifCond .lt 26, 3) := by decide +kernel
theorem d_Re_hasDescriptor_95 : decode b_Re_hasDescriptor 95 = .ok (.aload_n 0, 1) := by decide +kernel
theorem d_Re_hasDescriptor_96 : decode b_Re_hasDescriptor 96 = .ok (.iload_n 2, 1) := by decide +kernel
theorem d_Re_hasDescriptor_97 : decode b_Re_hasDescriptor 97 = .ok (.sipush 132, 3) := by decide +kernel
theorem d_Re_hasDescriptor_100 : decode b_Re_hasDescriptor 100 = .ok (.iadd, 1) := by decide +kernel
theorem d_Re_hasDescriptor_101 : decode b_Re_hasDescriptor 101 = .ok (.invokevirtual 74, 3) := by decide +kernel
theorem d_Re_hasDescriptor_104 : decode b_Re_hasDescriptor 104 = .ok (.ireturn, 1) := by decide +kernel
theorem d_Re_hasDescriptor_72 : decode b_Re_hasDescriptor 72 = .ok (.iload_n 3, 1) := by decide +kernel
theorem d_Re_hasDescriptor_73 : decode b_Re_hasDescriptor 73 = .ok (.sipush 2048, 3) := by decide +kernel
theorem d_Re_hasDescriptor_76 : decode b_Re_hasDescriptor 76 = .ok (.if_icmp .gt 19, 3) := by decide +kernel
theorem d_Re_hasDescriptor_79 : decode b_Re_hasDescriptor 79 = .ok (.aload_n 0, 1) := by decide +kernel
theorem d_Re_hasDescriptor_80 : decode b_Re_hasDescriptor 80 = .ok (.getfield 27, 3) := by decide +kernel
theorem d_Re_hasDescriptor_83 : decode b_Re_hasDescriptor 83 = .ok (.iload_n 2, 1) := by decide +kernel
theorem d_Re_hasDescriptor_84 : decode b_Re_hasDescriptor 84 = .ok (.sipush 132, 3) := by decide +kernel
theorem d_Re_hasDescriptor_87 : decode b_Re_hasDescriptor 87 = .ok (.iadd, 1) := by decide +kernel
theorem d_Re_hasDescriptor_88 : decode b_Re_hasDescriptor 88 = .ok (.iconst 4, 1) := by decide +kernel
theorem d_Re_hasDescriptor_89 : decode b_Re_hasDescriptor 89 = .ok (.invokevirtual 95, 3) := by decide +kernel
theorem d_Re_hasDescriptor_92 : decode b_Re_hasDescriptor 92 = .ok (.ifCond .ne 13, 3) := by decide +kernel
theorem d_Re_hasDescriptor_105 : decode b_Re_hasDescriptor 105 = .ok (.aload_n 0, 1) := by decide +kernel
theorem d_Re_hasDescriptor_106 : decode b_Re_hasDescriptor 106 = .ok (.getfield 27, 3) := by decide +kernel
theorem d_Re_hasDescriptor_109 : decode b_Re_hasDescriptor 109 = .ok (.iload_n 2, 1) := by decide +kernel
theorem d_Re_hasDescriptor_110 : decode b_Re_hasDescriptor 110 = .ok (.sipush 140, 3) := by decide +kernel
theorem d_Re_hasDescriptor_113 : decode b_Re_hasDescriptor 113 = .ok (.iadd, 1) := by decide +kernel
theorem d_Re_hasDescriptor_114 : decode b_Re_hasDescriptor 114 = .ok (.iconst 4, 1) := by decide +kernel
theorem d_Re_hasDescriptor_115 : decode b_Re_hasDescriptor 115 = .ok (.invokevirtual 91, 3) := by decide +kernel
theorem d_Re_hasDescriptor_118 : decode b_Re_hasDescriptor 118 = .ok (.iload_n 1, 1) := by decide +kernel
theorem d_Re_hasDescriptor_119 : decode b_Re_hasDescriptor 119 = .ok (.bipush 18, 2) := by decide +kernel
theorem d_Re_hasDescriptor_121 : decode b_Re_hasDescriptor 121 = .ok (.iadd, 1) := by decide +kernel
theorem d_Re_hasDescriptor_122 : decode b_Re_hasDescriptor 122 = .ok (.if_icmp .eq 13, 3) := by decide +kernel
theorem d_Re_hasDescriptor_135 : decode b_Re_hasDescriptor 135 = .ok (.aload_n 0, 1) := by decide +kernel
theorem d_Re_hasDescriptor_136 : decode b_Re_hasDescriptor 136 = .ok (.getfield 27, 3) := by decide +kernel
theorem d_Re_hasDescriptor_139 : decode b_Re_hasDescriptor 139 = .ok (.iload_n 2, 1) := by decide +kernel
theorem d_Re_hasDescriptor_140 : decode b_Re_hasDescriptor 140 = .ok (.sipush 148, 3) := by decide +kernel
theorem d_Re_hasDescriptor_143 : decode b_Re_hasDescriptor 143 = .ok (.iadd, 1) := by decide +kernel
theorem d_Re_hasDescriptor_144 : decode b_Re_hasDescriptor 144 = .ok (.iconst 4, 1) := by decide +kernel
theorem d_Re_hasDescriptor_145 : decode b_Re_hasDescriptor 145 = .ok (.invokevirtual 98, 3) := by decide +kernel
theorem d_Re_hasDescriptor_148 : decode b_Re_hasDescriptor 148 = .ok (.iload_n 1, 1) := by decide +kernel
theorem d_Re_hasDescriptor_149 : decode b_Re_hasDescriptor 149 = .ok (.bipush 19, 2) := by decide +kernel
theorem d_Re_hasDescriptor_151 : decode b_Re_hasDescriptor 151 = .ok (.iadd, 1) := by decide +kernel
theorem d_Re_hasDescriptor_152 : decode b_Re_hasDescriptor 152 = .ok (.if_icmp .eq 13, 3) := by decide +kernel
theorem d_Re_hasDescriptor_165 : decode b_Re_hasDescriptor 165 = .ok (.aload_n 0, 1) := by decide +kernel
theorem d_Re_hasDescriptor_166 : decode b_Re_hasDescriptor 166 = .ok (.iload_n 2, 1) := by decide +kernel
theorem d_Re_hasDescriptor_167 : decode b_Re_hasDescriptor 167 = .ok (.sipush 156, 3) := by decide +kernel
theorem d_Re_hasDescriptor_170 : decode b_Re_hasDescriptor 170 = .ok (.iadd, 1) := by decide +kernel
theorem d_Re_hasDescriptor_171 : decode b_Re_hasDescriptor 171 = .ok (.aload_n 0, 1) := by decide +kernel
theorem d_Re_hasDescriptor_172 : decode b_Re_hasDescriptor 172 = .ok (.getfield 31, 3) := by decide +kernel
theorem d_Re_hasDescriptor_175 : decode b_Re_hasDescriptor 175 = .ok (.getfield 54, 3) := by decide +kernel
theorem d_Re_hasDescriptor_178 : decode b_Re_hasDescriptor 178 = .ok (.iconst 0, 1) := by decide +kernel
theorem d_Re_hasDescriptor_179 : decode b_Re_hasDescriptor 179 = .ok (.aaload, 1) := by decide +kernel
theorem d_Re_hasDescriptor_180 : decode b_Re_hasDescriptor 180 = .ok (.invokevirtual 101, 3) := by decide +kernel
theorem d_Re_hasDescriptor_183 : decode b_Re_hasDescriptor 183 = .ok (.ifCond .eq 16, 3) := by decide +kernel
theorem d_Re_hasDescriptor_199 : decode b_Re_hasDescriptor 199 = .ok (.aload_n 0, 1) := by decide +kernel
theorem d_Re_hasDescriptor_200 : decode b_Re_hasDescriptor 200 = .ok (.iload_n 2, 1) := by decide +kernel
theorem d_Re_hasDescriptor_201 : decode b_Re_hasDescriptor 201 = .ok (.sipush 156, 3) := by decide +kernel
theorem d_Re_hasDescriptor_204 : decode b_Re_hasDescriptor 204 = .ok (.iadd, 1) := by decide +kernel
theorem d_Re_hasDescriptor_205 : decode b_Re_hasDescriptor 205 = .ok (.invokevirtual 74, 3) := by decide +kernel
theorem d_Re_hasDescriptor_208 : decode b_Re_hasDescriptor 208 = .ok (.ifCond .eq 7, 3) := by decide +kernel
theorem d_Re_hasDescriptor_215 : decode b_Re_hasDescriptor 215 = .ok (.iconst 0, 1) := by decide +kernel
theorem d_Re_hasDescriptor_216 : decode b_Re_hasDescriptor 216 = .ok (.ireturn, 1) := by decide +kernel
theorem d_Re_hasDescriptor_186 : decode b_Re_hasDescriptor 186 = .ok (.aload_n 0, 1) := by decide +kernel
theorem d_Re_hasDescriptor_187 : decode b_Re_hasDescriptor 187 = .ok (.iload_n 2, 1) := by decide +kernel
theorem d_Re_hasDescriptor_188 : decode b_Re_hasDescriptor 188 = .ok (.sipush 156, 3) := by decide +kernel
theorem d_Re_hasDescriptor_191 : decode b_Re_hasDescriptor 191 = .ok (.iadd, 1) := by decide +kernel
theorem d_Re_hasDescriptor_192 : decode b_Re_hasDescriptor 192 = .ok (.iconst 0, 1) := by decide +kernel
theorem d_Re_hasDescriptor_193 : decode b_Re_hasDescriptor 193 = .ok (.invokevirtual 105, 3) := by decide +kernel
theorem d_Re_hasDescriptor_196 : decode b_Re_hasDescriptor 196 = .ok (.ifCond .ne 15, 3) := by decide +kernel
theorem d_Re_hasDescriptor_211 : decode b_Re_hasDescriptor 211 = .ok (.iconst 1, 1) := by decide +kernel
theorem d_Re_hasDescriptor_212 : decode b_Re_hasDescriptor 212 = .ok (.goto 4, 3) := by decide +kernel
theorem d_Re_hasDescriptor_155 : decode b_Re_hasDescriptor 155 = .ok (.aload_n 0, 1) := by decide +kernel
theorem d_Re_hasDescriptor_156 : decode b_Re_hasDescriptor 156 = .ok (.iload_n 2, 1) := by decide +kernel
theorem d_Re_hasDescriptor_157 : decode b_Re_hasDescriptor 157 = .ok (.sipush 148, 3) := by decide +kernel
theorem d_Re_hasDescriptor_160 : decode b_Re_hasDescriptor 160 = .ok (.iadd, 1) := by decide +kernel
theorem d_Re_hasDescriptor_161 : decode b_Re_hasDescriptor 161 = .ok (.invokevirtual 74, 3) := by decide +kernel
theorem d_Re_hasDescriptor_164 : decode b_Re_hasDescriptor 164 = .ok (.ireturn, 1) := by decide +kernel
theorem d_Re_hasDescriptor_125 : decode b_Re_hasDescriptor 125 = .ok (.aload_n 0, 1) := by decide +kernel
theorem d_Re_hasDescriptor_126 : decode b_Re_hasDescriptor 126 = .ok (.iload_n 2, 1) := by decide +kernel
theorem d_Re_hasDescriptor_127 : decode b_Re_hasDescriptor 127 = .ok (.sipush 140, 3) := by decide +kernel
theorem d_Re_hasDescriptor_130 : decode b_Re_hasDescriptor 130 = .ok (.iadd, 1) := by decide +kernel
theorem d_Re_hasDescriptor_131 : decode b_Re_hasDescriptor 131 = .ok (.invokevirtual 74, 3) := by decide +kernel
theorem d_Re_hasDescriptor_134 : decode b_Re_hasDescriptor 134 = .ok (.ireturn, 1) := by decide +kernel
theorem d_Re_hasPathTables_0 : decode b_Re_hasPathTables 0 = .ok (.aload_n 0, 1) := by decide +kernel
theorem d_Re_hasPathTables_1 : decode b_Re_hasPathTables 1 = .ok (.getfield 14, 3) := by decide +kernel
theorem d_Re_hasPathTables_4 : decode b_Re_hasPathTables 4 = .ok (.aload_n 0, 1) := by decide +kernel
theorem d_Re_hasPathTables_5 : decode b_Re_hasPathTables 5 = .ok (.getfield 31, 3) := by decide +kernel
theorem d_Re_hasPathTables_8 : decode b_Re_hasPathTables 8 = .ok (.getfield 54, 3) := by decide +kernel
theorem d_Re_hasPathTables_11 : decode b_Re_hasPathTables 11 = .ok (.aload_n 0, 1) := by decide +kernel
theorem d_Re_hasPathTables_12 : decode b_Re_hasPathTables 12 = .ok (.getfield 31, 3) := by decide +kernel
theorem d_Re_hasPathTables_15 : decode b_Re_hasPathTables 15 = .ok (.getfield 51, 3) := by decide +kernel
theorem d_Re_hasPathTables_18 : decode b_Re_hasPathTables 18 = .ok (.iconst 1, 1) := by decide +kernel
theorem d_Re_hasPathTables_19 : decode b_Re_hasPathTables 19 = .ok (.invokevirtual 174, 3) := by decide +kernel
theorem d_Re_hasPathTables_22 : decode b_Re_hasPathTables 22 = .ok (.istore_n 2, 1) := by decide +kernel
theorem d_Re_hasPathTables_23 : decode b_Re_hasPathTables 23 = .ok (.aload_n 0, 1) := by decide +kernel
theorem d_Re_hasPathTables_24 : decode b_Re_hasPathTables 24 = .ok (.iload_n 1, 1) := by decide +kernel
theorem d_Re_hasPathTables_25 : decode b_Re_hasPathTables 25 = .ok (.bipush 18, 2) := by decide +kernel
theorem d_Re_hasPathTables_27 : decode b_Re_hasPathTables 27 = .ok (.iadd, 1) := by decide +kernel
theorem d_Re_hasPathTables_28 : decode b_Re_hasPathTables 28 = .ok (.iload_n 2, 1) := by decide +kernel
theorem d_Re_hasPathTables_29 : decode b_Re_hasPathTables 29 = .ok (.invokevirtual 178, 3) := by decide +kernel
theorem d_Re_hasPathTables_32 : decode b_Re_hasPathTables 32 = .ok (.ifCond .ne 5, 3) := by decide +kernel
theorem d_Re_hasPathTables_37 : decode b_Re_hasPathTables 37 = .ok (.aload_n 0, 1) := by decide +kernel
theorem d_Re_hasPathTables_38 : decode b_Re_hasPathTables 38 = .ok (.getfield 14, 3) := by decide +kernel
theorem d_Re_hasPathTables_41 : decode b_Re_hasPathTables 41 = .ok (.aload_n 0, 1) := by decide +kernel
theorem d_Re_hasPathTables_42 : decode b_Re_hasPathTables 42 = .ok (.getfield 31, 3) := by decide +kernel
theorem d_Re_hasPathTables_45 : decode b_Re_hasPathTables 45 = .ok (.getfield 54, 3) := by decide +kernel
theorem d_Re_hasPathTables_48 : decode b_Re_hasPathTables 48 = .ok (.aload_n 0, 1) := by decide +kernel
theorem d_Re_hasPathTables_49 : decode b_Re_hasPathTables 49 = .ok (.getfield 31, 3) := by decide +kernel
theorem d_Re_hasPathTables_52 : decode b_Re_hasPathTables 52 = .ok (.getfield 51, 3) := by decide +kernel
theorem d_Re_hasPathTables_55 : decode b_Re_hasPathTables 55 = .ok (.iconst 0, 1) := by decide +kernel
theorem d_Re_hasPathTables_56 : decode b_Re_hasPathTables 56 = .ok (.invokevirtual 174, 3) := by decide +kernel
theorem d_Re_hasPathTables_59 : decode b_Re_hasPathTables 59 = .ok (.pop, 1) := by decide +kernel
theorem d_Re_hasPathTables_60 : decode b_Re_hasPathTables 60 = .ok (.aload_n 0, 1) := by decide +kernel
theorem d_Re_hasPathTables_61 : decode b_Re_hasPathTables 61 = .ok (.iload_n 1, 1) := by decide +kernel
theorem d_Re_hasPathTables_62 : decode b_Re_hasPathTables 62 = .ok (.bipush 19, 2) := by decide +kernel
theorem d_Re_hasPathTables_64 : decode b_Re_hasPathTables 64 = .ok (.iadd, 1) := by decide +kernel
theorem d_Re_hasPathTables_65 : decode b_Re_hasPathTables 65 = .ok (.iload_n 2, 1) := by decide +kernel
theorem d_Re_hasPathTables_66 : decode b_Re_hasPathTables 66 = .ok (.invokevirtual 178, 3) := by decide +kernel
theorem d_Re_hasPathTables_69 : decode b_Re_hasPathTables 69 = .ok (.ifCond .ne 5, 3) := by decide +kernel
theorem d_Re_hasPathTables_74 : decode b_Re_hasPathTables 74 = .ok (.iload_n 1, 1) := by decide +kernel
theorem d_Re_hasPathTables_75 : decode b_Re_hasPathTables 75 = .ok (.bipush 16, 2) := by decide +kernel
theorem d_Re_hasPathTables_77 : decode b_Re_hasPathTables 77 = .ok (.iadd, 1) := by decide +kernel
theorem d_Re_hasPathTables_78 : decode b_Re_hasPathTables 78 = .ok (.sipush 2048, 3) := by decide +kernel
theorem d_Re_hasPathTables_81 : decode b_Re_hasPathTables 81 = .ok (.imul, 1) := by decide +kernel
theorem d_Re_hasPathTables_82 : decode b_Re_hasPathTables 82 = .ok (.sipush 132, 3) := by decide +kernel
theorem d_Re_hasPathTables_85 : decode b_Re_hasPathTables 85 = .ok (.iadd, 1) := by decide +kernel
theorem d_Re_hasPathTables_86 : decode b_Re_hasPathTables 86 = .ok (.istore_n 3, 1) := by decide +kernel
theorem d_Re_hasPathTables_87 : decode b_Re_hasPathTables 87 = .ok (.aload_n 0, 1) := by decide +kernel
theorem d_Re_hasPathTables_88 : decode b_Re_hasPathTables 88 = .ok (.getfield 27, 3) := by decide +kernel
theorem d_Re_hasPathTables_91 : decode b_Re_hasPathTables 91 = .ok (.iload_n 3, 1) := by decide +kernel
theorem d_Re_hasPathTables_92 : decode b_Re_hasPathTables 92 = .ok (.iconst 4, 1) := by decide +kernel
theorem d_Re_hasPathTables_93 : decode b_Re_hasPathTables 93 = .ok (.invokevirtual 91, 3) := by decide +kernel
theorem d_Re_hasPathTables_96 : decode b_Re_hasPathTables 96 = .ok (.iload_n 2, 1) := by decide +kernel
theorem d_Re_hasPathTables_97 : decode b_Re_hasPathTables 97 = .ok (.if_icmp .eq 11, 3) := by decide +kernel
theorem d_Re_hasPathTables_108 : decode b_Re_hasPathTables 108 = .ok (.iconst 1, 1) := by decide +kernel
theorem d_Re_hasPathTables_109 : decode b_Re_hasPathTables 109 = .ok (.goto 4, 3) := by decide +kernel
theorem d_Re_hasPathTables_113 : decode b_Re_hasPathTables 113 = .ok (.ireturn, 1) := by decide +kernel
theorem d_Re_hasPathTables_100 : decode b_Re_hasPathTables 100 = .ok (.aload_n 0, 1) := by decide +kernel
theorem d_Re_hasPathTables_101 : decode b_Re_hasPathTables 101 = .ok (.iload_n 3, 1) := by decide +kernel
theorem d_Re_hasPathTables_102 : decode b_Re_hasPathTables 102 = .ok (.invokevirtual 74, 3) := by decide +kernel
theorem d_Re_hasPathTables_105 : decode b_Re_hasPathTables 105 = .ok (.ifCond .eq 7, 3) := by decide +kernel
theorem d_Re_hasPathTables_112 : decode b_Re_hasPathTables 112 = .ok (.iconst 0, 1) := by decide +kernel
theorem d_Re_hasPathTables_72 : decode b_Re_hasPathTables 72 = .ok (.iconst 0, 1) := by decide +kernel
theorem d_Re_hasPathTables_73 : decode b_Re_hasPathTables 73 = .ok (.ireturn, 1) := by decide +kernel
theorem d_Re_hasPathTables_35 : decode b_Re_hasPathTables 35 = .ok (.iconst 0, 1) := by decide +kernel
theorem d_Re_hasPathTables_36 : decode b_Re_hasPathTables 36 = .ok (.ireturn, 1) := by decide +kernel
set_option maxHeartbeats 4000000 in
set_option maxRecDepth 100000 in
theorem t_hasDesc (l : Launch) (D : va_G) (t : Nat → ClassId) (G : hG) (ak av : Nat → Nat) (h : hM) (τ : tM) (n : Nat) (r9 : Nat) (b8 : Int32) (tb td md nd : Nat) (wp : Int32) (s8 o8 : Nat) (sl8 : Nat → Option Nat) (hn : n ≤ 200) (hT : TI τ t n h) (T_r9 : τ r9 = (6, 0)) (F_r9 : h r9 = some (.inr (5, [.ref tb, .ref td, .ref md, .ref nd, .int wp]))) (hRN : RN t h nd s8 o8 sl8 1) : Met l y_Re_hasDescriptor (.code y_Re_hasDescriptor b_Re_hasDescriptor 4 (some .boolean) :: lw_g) { frames := 3, cells := 0, slots := 0, locals := 71 } (hP (kE D t G ak av) D vwCl G h [.ref r9, .int b8]) (hQi D vwCl G (fun r h' => zb r ∧ TI τ t n h' ∧ kf τ [(10, 1)] [r9] h h' ∧ ((∃ wp', h' r9 = some (.inr (5, [.ref tb, .ref td, .ref md, .ref nd, .int wp']))) ∧ RN t h' nd s8 o8 sl8 1 ∧ (r = 1 → RD t n h' nd s8 o8 sl8 1)))) 0 0 G.P := by
  refine Met.ofW (cc := b_Re_hasDescriptor) (maxL := 4) (ret := (some .boolean)) (by decide) rfl ?_
  intro p e s m args below meth c s₁ Bd hml hv
  obtain ⟨ha, hE, hH⟩ := hv
  have hx := Bd.exec
  have hb := Bd.bytes
  have hr := Bd.returns
  have hts : ∀ w ∈ lw_g, w.before args s = true := fun w hw => atoms_spec (ws := (.code y_Re_hasDescriptor b_Re_hasDescriptor 4 (some .boolean) :: lw_g)) Bd.pre w (List.mem_cons_of_mem _ hw)
  have hown : s.vm.findClass R_Re = some m.cls := findClass_of_methodNamed Bd.named
  have hlocks := Bd.notSynchronized
  have hK := hE.1
  have hH0 := hH
  have hLo : hLc G.P [] := hLc_nil
  have hz : s.heap.size ≤ s.heap.size := Nat.le_refl _
  have hl := lv_entry [.ref r9, .int b8] (n := 4) (Nat.le_of_ble_eq_true rfl)
  rw [show entryFrame m args 4 = F0 m 0 ((lg_sl [.ref r9, .int b8] ++ List.replicate (4 - (lg_sl [.ref r9, .int b8]).length) Slot.unset).toArray) [] from (by rw [ha]; exact lg_entry_eq m [.ref r9, .int b8] 4)]
  generalize (lg_sl [.ref r9, .int b8] ++ List.replicate (4 - (lg_sl [.ref r9, .int b8]).length) Slot.unset).toArray = ls at hl ⊢
  have hl : lv_has ls 4 [(0, .ref r9), (1, .int b8)] := hl
  have hkf : kf τ [(10, 1)] [r9] h h := kf_rf
  obtain ⟨Tr0, Tr1, Tr2, Tr3⟩ := TJ_rdr (v2 := some md) (v3 := some nd) hT T_r9 F_r9
  have T_md := Tr2 md rfl
  have T_nd := Tr3 nd rfl
  obtain ⟨⟨F_nd, F_s8⟩, hc1, hc30, hrd⟩ := id hRN
  have hcI : (nI 1).toInt = 1 := rfl
  obtain ⟨Tn0, Tn1, -⟩ := TJ_nds hT T_nd F_nd
  obtain ⟨Tn2, Tn3⟩ := TJ_slo hT Tn0 F_s8
  refine lv_iload_n hx hb d_Re_hasDescriptor_0 rfl (lv_at hl 1 rfl) ?_
  refine lv_bipush (v := 16) hx hb d_Re_hasDescriptor_1 (by decide) ?_
  refine lv_iadd hx hb d_Re_hasDescriptor_3 ?_
  refine lv_sipush (v := 2048) hx hb d_Re_hasDescriptor_4 (by decide) ?_
  refine lv_imul hx hb d_Re_hasDescriptor_7 ?_
  refine lv_topi (fun v1 e2 => ?_)
  refine lv_istore_n (lv' := [(2, .int v1), (0, .ref r9), (1, .int b8)]) hx hb d_Re_hasDescriptor_8 rfl hl (by decide) rfl (fun ls hl => ?_)
  refine lv_aload_n hx hb d_Re_hasDescriptor_9 rfl (lv_at hl 1 rfl) ?_
  refine hm_get (ci := 5) (v := .ref md) (C := R_Re) (T := F_Re) (N := 5) hx hb hts ig_Re hown hK hH F_r9 rfl 2 (by decide) (hts _ mw_329) (fun _ h9 => h9) rfl d_Re_hasDescriptor_10 ?_
  refine lv_iload_n hx hb d_Re_hasDescriptor_13 rfl (lv_at hl 0 rfl) ?_
  refine lv_sipush (v := 128) hx hb d_Re_hasDescriptor_14 (by decide) ?_
  refine lv_iadd hx hb d_Re_hasDescriptor_17 ?_
  refine lv_iconst (v := 2) hx hb d_Re_hasDescriptor_18 (by decide) ?_
  obtain ⟨v3, v5, F_md, c4⟩ := TI_med hT T_md
  refine hm_callPi (va_runV (As := [.int (v1 + 128), .int 2]) (b := md) (rest := []) ⟨hx, hb, hml, hown, hts⟩ (t_low l D t G ak av h τ n md (v1 + 128) 2 hn hT T_md) ⟨cw9B 2 hts mw_44 mw_359 mw_32 rfl rfl (by decide +kernel) ⟨Nat.le_of_ble_eq_true rfl, Nat.le_of_ble_eq_true rfl⟩, hts _ mw_46, hts _ mw_47⟩ (hP_V (q := (R_Me, F_Me, 2)) kE_ok hE hK hH F_md rfl) rfl rfl hl.1 rfl (lv_room (Nat.le_of_ble_eq_true rfl)) d_Re_hasDescriptor_19 ⟨Nat.le_of_ble_eq_true rfl, Nat.le_of_ble_eq_true rfl⟩) (fun r6 h7 H8 hp10  hH z9 => ?_)
  have hz : s.heap.size ≤ H8.size := Nat.le_trans hz z9
  obtain rfl := hp10
  refine lv_sipush (v := 2048) hx hb d_Re_hasDescriptor_22 (by decide) ?_
  refine lv_icmp_ne (tgt := 44) hx hb d_Re_hasDescriptor_25 (by decide) (fun hc12 => ?_) (fun hc12 => ?_)
  · skip
    refine lv_aload_n hx hb d_Re_hasDescriptor_44 rfl (lv_at hl 1 rfl) ?_
    refine lv_iload_n hx hb d_Re_hasDescriptor_45 rfl (lv_at hl 0 rfl) ?_
    refine lv_sipush (v := 128) hx hb d_Re_hasDescriptor_46 (by decide) ?_
    refine lv_iadd hx hb d_Re_hasDescriptor_49 ?_
    refine hm_calli (va_runV (As := [.int (v1 + 128)]) (b := r9) (rest := []) ⟨hx, hb, hml, hown, hts⟩ (t_wrongAt l D t G ak av h τ n r9 (v1 + 128) hn hT T_r9 tb td md nd wp F_r9) ⟨cw9B 1 hts mw_331 mw_333 mw_332 rfl rfl (by decide +kernel) ⟨Nat.le_of_ble_eq_true rfl, Nat.le_of_ble_eq_true rfl⟩, hts _ mw_334, hts _ mw_335⟩ (hP_V (q := (R_Re, F_Re, 5)) kE_ok hE hK hH F_r9 rfl) rfl rfl hl.1 rfl (lv_room (Nat.le_of_ble_eq_true rfl)) d_Re_hasDescriptor_50 ⟨Nat.le_of_ble_eq_true rfl, Nat.le_of_ble_eq_true rfl⟩) hLo (fun r13 h14 H15 locs hp17 hH z16 hLo => ?_)
    have hz : s.heap.size ≤ H15.size := Nat.le_trans hz z16
    have hT0 := hT
    obtain ⟨c18, hT, kf20, xp19⟩ := hp17
    have F_nd : h14 nd = some (.inr (2, [.ref s8, .ref o8, .int (nI 1), .int (nI 1)])) := kf_at kf20 T_nd (by decide) tn0 (nmc (tne T_nd T_r9 (by decide)) nm0) F_nd
    have F_s8 : h14 s8 = some (.inl ((t 4), 30, .inr (.inr (.inr (.inr sl8))))) := kf_at kf20 Tn0 (by decide) tn0 (nmc (tne Tn0 T_r9 (by decide)) nm0) F_s8
    have F_md : h14 md = some (.inr (0, [.ref v3, .int v5])) := kf_at kf20 T_md (by decide) tn0 (nmc (tne T_md T_r9 (by decide)) nm0) F_md
    have hkf : kf τ [(10, 1)] [r9] h h14 := kf_tr hkf kf20 (List.forall_mem_nil _) (List.forall_mem_cons.mpr ⟨Or.inl (by simp), List.forall_mem_nil _⟩)
    obtain ⟨⟨wp21, F_r9⟩, rfl⟩ := xp19
    have hRN : RN t h14 nd s8 o8 sl8 1 := RN_kf hT0 T_nd hRN kf20 (by simp) (by simp) (List.forall_mem_cons.mpr ⟨⟨(fun z => by have := z.symm.trans T_r9; simp at this), (fun z => by have := z.symm.trans T_r9; simp at this)⟩, List.forall_mem_nil _⟩) (knp_kf knp_rf kf20 (by simp) (List.forall_mem_cons.mpr ⟨(fun z => by have := z.symm.trans T_r9; simp at this), List.forall_mem_nil _⟩))
    exact W.zret (v := 0) hx hb hr (by decide) (fun t9 ht hW => ⟨0, h14, rfl, ⟨zb0, hT, hkf, ⟨⟨_, F_r9⟩, hRN, fun z => absurd z (by decide)⟩⟩, by rw [ht]; exact hH, by rw [ht]; exact hz⟩) hLo d_Re_hasDescriptor_53
  · skip
    have ic22 : r6.toInt = 2048 := congrArg Int32.toInt hc12
    refine lv_aload_n hx hb d_Re_hasDescriptor_28 rfl (lv_at hl 1 rfl) ?_
    refine hm_get (ci := 5) (v := .ref md) (C := R_Re) (T := F_Re) (N := 5) hx hb hts ig_Re hown hK hH F_r9 rfl 2 (by decide) (hts _ mw_329) (fun _ h9 => h9) rfl d_Re_hasDescriptor_29 ?_
    refine lv_iload_n hx hb d_Re_hasDescriptor_32 rfl (lv_at hl 0 rfl) ?_
    refine lv_sipush (v := 128) hx hb d_Re_hasDescriptor_33 (by decide) ?_
    refine lv_iadd hx hb d_Re_hasDescriptor_36 ?_
    refine lv_iconst (v := 2) hx hb d_Re_hasDescriptor_37 (by decide) ?_
    refine hm_callPi (va_runV (As := [.int (v1 + 128), .int 2]) (b := md) (rest := []) ⟨hx, hb, hml, hown, hts⟩ (t_halves l D t G ak av h τ n md (v1 + 128) 2 hn hT T_md) ⟨cw9B 2 hts mw_355 mw_356 mw_32 rfl rfl (by decide +kernel) ⟨Nat.le_of_ble_eq_true rfl, Nat.le_of_ble_eq_true rfl⟩, hts _ mw_357, hts _ mw_358⟩ (hP_V (q := (R_Me, F_Me, 2)) kE_ok hE hK hH F_md rfl) rfl rfl hl.1 rfl (lv_room (Nat.le_of_ble_eq_true rfl)) d_Re_hasDescriptor_38 ⟨Nat.le_of_ble_eq_true rfl, Nat.le_of_ble_eq_true rfl⟩) (fun r23 h24 H25 hp27  hH z26 => ?_)
    have hz : s.heap.size ≤ H25.size := Nat.le_trans hz z26
    obtain ⟨c28, rfl⟩ := hp27
    refine lv_if_ne (tgt := 54) hx hb d_Re_hasDescriptor_41 (by decide) (fun hc30 => ?_) (fun hc30 => ?_)
    · skip
      refine lv_aload_n hx hb d_Re_hasDescriptor_54 rfl (lv_at hl 1 rfl) ?_
      refine hm_get (ci := 5) (v := .ref md) (C := R_Re) (T := F_Re) (N := 5) hx hb hts ig_Re hown hK hH F_r9 rfl 2 (by decide) (hts _ mw_329) (fun _ h9 => h9) rfl d_Re_hasDescriptor_55 ?_
      refine lv_iload_n hx hb d_Re_hasDescriptor_58 rfl (lv_at hl 0 rfl) ?_
      refine lv_sipush (v := 132) hx hb d_Re_hasDescriptor_59 (by decide) ?_
      refine lv_iadd hx hb d_Re_hasDescriptor_62 ?_
      refine lv_iconst (v := 4) hx hb d_Re_hasDescriptor_63 (by decide) ?_
      refine hm_callPi (va_runV (As := [.int (v1 + 132), .int 4]) (b := md) (rest := []) ⟨hx, hb, hml, hown, hts⟩ (t_low l D t G ak av h τ n md (v1 + 132) 4 hn hT T_md) ⟨cw9B 2 hts mw_44 mw_359 mw_32 rfl rfl (by decide +kernel) ⟨Nat.le_of_ble_eq_true rfl, Nat.le_of_ble_eq_true rfl⟩, hts _ mw_46, hts _ mw_47⟩ (hP_V (q := (R_Me, F_Me, 2)) kE_ok hE hK hH F_md rfl) rfl rfl hl.1 rfl (lv_room (Nat.le_of_ble_eq_true rfl)) d_Re_hasDescriptor_64 ⟨Nat.le_of_ble_eq_true rfl, Nat.le_of_ble_eq_true rfl⟩) (fun r31 h32 H33 hp35  hH z34 => ?_)
      have hz : s.heap.size ≤ H33.size := Nat.le_trans hz z34
      obtain rfl := hp35
      refine lv_istore_n (lv' := [(3, .int r31), (2, .int v1), (0, .ref r9), (1, .int b8)]) hx hb d_Re_hasDescriptor_67 rfl hl (by decide) rfl (fun ls hl => ?_)
      refine lv_iload_n hx hb d_Re_hasDescriptor_68 rfl (lv_at hl 0 rfl) ?_
      refine lv_if_lt (tgt := 95) hx hb d_Re_hasDescriptor_69 (by decide) (fun hc37 => ?_) (fun hc37 => ?_)
      · skip
        have ic38 : r31.toInt < 0 := iLt hc37
        refine lv_aload_n hx hb d_Re_hasDescriptor_95 rfl (lv_at hl 2 rfl) ?_
        refine lv_iload_n hx hb d_Re_hasDescriptor_96 rfl (lv_at hl 1 rfl) ?_
        refine lv_sipush (v := 132) hx hb d_Re_hasDescriptor_97 (by decide) ?_
        refine lv_iadd hx hb d_Re_hasDescriptor_100 ?_
        refine hm_calli (va_runV (As := [.int (v1 + 132)]) (b := r9) (rest := []) ⟨hx, hb, hml, hown, hts⟩ (t_wrongAt l D t G ak av h τ n r9 (v1 + 132) hn hT T_r9 tb td md nd wp F_r9) ⟨cw9B 1 hts mw_331 mw_333 mw_332 rfl rfl (by decide +kernel) ⟨Nat.le_of_ble_eq_true rfl, Nat.le_of_ble_eq_true rfl⟩, hts _ mw_334, hts _ mw_335⟩ (hP_V (q := (R_Re, F_Re, 5)) kE_ok hE hK hH F_r9 rfl) rfl rfl hl.1 rfl (lv_room (Nat.le_of_ble_eq_true rfl)) d_Re_hasDescriptor_101 ⟨Nat.le_of_ble_eq_true rfl, Nat.le_of_ble_eq_true rfl⟩) hLo (fun r39 h40 H41 locs hp43 hH z42 hLo => ?_)
        have hz : s.heap.size ≤ H41.size := Nat.le_trans hz z42
        have hT0 := hT
        obtain ⟨c44, hT, kf46, xp45⟩ := hp43
        have F_nd : h40 nd = some (.inr (2, [.ref s8, .ref o8, .int (nI 1), .int (nI 1)])) := kf_at kf46 T_nd (by decide) tn0 (nmc (tne T_nd T_r9 (by decide)) nm0) F_nd
        have F_s8 : h40 s8 = some (.inl ((t 4), 30, .inr (.inr (.inr (.inr sl8))))) := kf_at kf46 Tn0 (by decide) tn0 (nmc (tne Tn0 T_r9 (by decide)) nm0) F_s8
        have F_md : h40 md = some (.inr (0, [.ref v3, .int v5])) := kf_at kf46 T_md (by decide) tn0 (nmc (tne T_md T_r9 (by decide)) nm0) F_md
        have hkf : kf τ [(10, 1)] [r9] h h40 := kf_tr hkf kf46 (List.forall_mem_nil _) (List.forall_mem_cons.mpr ⟨Or.inl (by simp), List.forall_mem_nil _⟩)
        obtain ⟨⟨wp47, F_r9⟩, rfl⟩ := xp45
        have hRN : RN t h40 nd s8 o8 sl8 1 := RN_kf hT0 T_nd hRN kf46 (by simp) (by simp) (List.forall_mem_cons.mpr ⟨⟨(fun z => by have := z.symm.trans T_r9; simp at this), (fun z => by have := z.symm.trans T_r9; simp at this)⟩, List.forall_mem_nil _⟩) (knp_kf knp_rf kf46 (by simp) (List.forall_mem_cons.mpr ⟨(fun z => by have := z.symm.trans T_r9; simp at this), List.forall_mem_nil _⟩))
        exact W.zret (v := 0) hx hb hr (by decide) (fun t9 ht hW => ⟨0, h40, rfl, ⟨zb0, hT, hkf, ⟨⟨_, F_r9⟩, hRN, fun z => absurd z (by decide)⟩⟩, by rw [ht]; exact hH, by rw [ht]; exact hz⟩) hLo d_Re_hasDescriptor_104
      · skip
        have ic48 : 0 ≤ r31.toInt := iNl hc37
        refine lv_iload_n hx hb d_Re_hasDescriptor_72 rfl (lv_at hl 0 rfl) ?_
        refine lv_sipush (v := 2048) hx hb d_Re_hasDescriptor_73 (by decide) ?_
        refine lv_icmp_gt (tgt := 95) hx hb d_Re_hasDescriptor_76 (by decide) (fun hc49 => ?_) (fun hc49 => ?_)
        · skip
          have ic50 : 2048 < r31.toInt := iLt hc49
          refine lv_aload_n hx hb d_Re_hasDescriptor_95 rfl (lv_at hl 2 rfl) ?_
          refine lv_iload_n hx hb d_Re_hasDescriptor_96 rfl (lv_at hl 1 rfl) ?_
          refine lv_sipush (v := 132) hx hb d_Re_hasDescriptor_97 (by decide) ?_
          refine lv_iadd hx hb d_Re_hasDescriptor_100 ?_
          refine hm_calli (va_runV (As := [.int (v1 + 132)]) (b := r9) (rest := []) ⟨hx, hb, hml, hown, hts⟩ (t_wrongAt l D t G ak av h τ n r9 (v1 + 132) hn hT T_r9 tb td md nd wp F_r9) ⟨cw9B 1 hts mw_331 mw_333 mw_332 rfl rfl (by decide +kernel) ⟨Nat.le_of_ble_eq_true rfl, Nat.le_of_ble_eq_true rfl⟩, hts _ mw_334, hts _ mw_335⟩ (hP_V (q := (R_Re, F_Re, 5)) kE_ok hE hK hH F_r9 rfl) rfl rfl hl.1 rfl (lv_room (Nat.le_of_ble_eq_true rfl)) d_Re_hasDescriptor_101 ⟨Nat.le_of_ble_eq_true rfl, Nat.le_of_ble_eq_true rfl⟩) hLo (fun r51 h52 H53 locs hp55 hH z54 hLo => ?_)
          have hz : s.heap.size ≤ H53.size := Nat.le_trans hz z54
          have hT0 := hT
          obtain ⟨c56, hT, kf58, xp57⟩ := hp55
          have F_nd : h52 nd = some (.inr (2, [.ref s8, .ref o8, .int (nI 1), .int (nI 1)])) := kf_at kf58 T_nd (by decide) tn0 (nmc (tne T_nd T_r9 (by decide)) nm0) F_nd
          have F_s8 : h52 s8 = some (.inl ((t 4), 30, .inr (.inr (.inr (.inr sl8))))) := kf_at kf58 Tn0 (by decide) tn0 (nmc (tne Tn0 T_r9 (by decide)) nm0) F_s8
          have F_md : h52 md = some (.inr (0, [.ref v3, .int v5])) := kf_at kf58 T_md (by decide) tn0 (nmc (tne T_md T_r9 (by decide)) nm0) F_md
          have hkf : kf τ [(10, 1)] [r9] h h52 := kf_tr hkf kf58 (List.forall_mem_nil _) (List.forall_mem_cons.mpr ⟨Or.inl (by simp), List.forall_mem_nil _⟩)
          obtain ⟨⟨wp59, F_r9⟩, rfl⟩ := xp57
          have hRN : RN t h52 nd s8 o8 sl8 1 := RN_kf hT0 T_nd hRN kf58 (by simp) (by simp) (List.forall_mem_cons.mpr ⟨⟨(fun z => by have := z.symm.trans T_r9; simp at this), (fun z => by have := z.symm.trans T_r9; simp at this)⟩, List.forall_mem_nil _⟩) (knp_kf knp_rf kf58 (by simp) (List.forall_mem_cons.mpr ⟨(fun z => by have := z.symm.trans T_r9; simp at this), List.forall_mem_nil _⟩))
          exact W.zret (v := 0) hx hb hr (by decide) (fun t9 ht hW => ⟨0, h52, rfl, ⟨zb0, hT, hkf, ⟨⟨_, F_r9⟩, hRN, fun z => absurd z (by decide)⟩⟩, by rw [ht]; exact hH, by rw [ht]; exact hz⟩) hLo d_Re_hasDescriptor_104
        · skip
          have ic60 : r31.toInt ≤ 2048 := iNl hc49
          refine lv_aload_n hx hb d_Re_hasDescriptor_79 rfl (lv_at hl 2 rfl) ?_
          refine hm_get (ci := 5) (v := .ref md) (C := R_Re) (T := F_Re) (N := 5) hx hb hts ig_Re hown hK hH F_r9 rfl 2 (by decide) (hts _ mw_329) (fun _ h9 => h9) rfl d_Re_hasDescriptor_80 ?_
          refine lv_iload_n hx hb d_Re_hasDescriptor_83 rfl (lv_at hl 1 rfl) ?_
          refine lv_sipush (v := 132) hx hb d_Re_hasDescriptor_84 (by decide) ?_
          refine lv_iadd hx hb d_Re_hasDescriptor_87 ?_
          refine lv_iconst (v := 4) hx hb d_Re_hasDescriptor_88 (by decide) ?_
          refine hm_callPi (va_runV (As := [.int (v1 + 132), .int 4]) (b := md) (rest := []) ⟨hx, hb, hml, hown, hts⟩ (t_halves l D t G ak av h τ n md (v1 + 132) 4 hn hT T_md) ⟨cw9B 2 hts mw_355 mw_356 mw_32 rfl rfl (by decide +kernel) ⟨Nat.le_of_ble_eq_true rfl, Nat.le_of_ble_eq_true rfl⟩, hts _ mw_357, hts _ mw_358⟩ (hP_V (q := (R_Me, F_Me, 2)) kE_ok hE hK hH F_md rfl) rfl rfl hl.1 rfl (lv_room (Nat.le_of_ble_eq_true rfl)) d_Re_hasDescriptor_89 ⟨Nat.le_of_ble_eq_true rfl, Nat.le_of_ble_eq_true rfl⟩) (fun r61 h62 H63 hp65  hH z64 => ?_)
          have hz : s.heap.size ≤ H63.size := Nat.le_trans hz z64
          obtain ⟨c66, rfl⟩ := hp65
          refine lv_if_ne (tgt := 105) hx hb d_Re_hasDescriptor_92 (by decide) (fun hc68 => ?_) (fun hc68 => ?_)
          · skip
            refine lv_aload_n hx hb d_Re_hasDescriptor_105 rfl (lv_at hl 2 rfl) ?_
            refine hm_get (ci := 5) (v := .ref md) (C := R_Re) (T := F_Re) (N := 5) hx hb hts ig_Re hown hK hH F_r9 rfl 2 (by decide) (hts _ mw_329) (fun _ h9 => h9) rfl d_Re_hasDescriptor_106 ?_
            refine lv_iload_n hx hb d_Re_hasDescriptor_109 rfl (lv_at hl 1 rfl) ?_
            refine lv_sipush (v := 140) hx hb d_Re_hasDescriptor_110 (by decide) ?_
            refine lv_iadd hx hb d_Re_hasDescriptor_113 ?_
            refine lv_iconst (v := 4) hx hb d_Re_hasDescriptor_114 (by decide) ?_
            refine hm_callPi (va_runV (As := [.int (v1 + 140), .int 4]) (b := md) (rest := []) ⟨hx, hb, hml, hown, hts⟩ (t_low l D t G ak av h τ n md (v1 + 140) 4 hn hT T_md) ⟨cw9B 2 hts mw_44 mw_359 mw_32 rfl rfl (by decide +kernel) ⟨Nat.le_of_ble_eq_true rfl, Nat.le_of_ble_eq_true rfl⟩, hts _ mw_46, hts _ mw_47⟩ (hP_V (q := (R_Me, F_Me, 2)) kE_ok hE hK hH F_md rfl) rfl rfl hl.1 rfl (lv_room (Nat.le_of_ble_eq_true rfl)) d_Re_hasDescriptor_115 ⟨Nat.le_of_ble_eq_true rfl, Nat.le_of_ble_eq_true rfl⟩) (fun r69 h70 H71 hp73  hH z72 => ?_)
            have hz : s.heap.size ≤ H71.size := Nat.le_trans hz z72
            obtain rfl := hp73
            refine lv_iload_n hx hb d_Re_hasDescriptor_118 rfl (lv_at hl 3 rfl) ?_
            refine lv_bipush (v := 18) hx hb d_Re_hasDescriptor_119 (by decide) ?_
            refine lv_iadd hx hb d_Re_hasDescriptor_121 ?_
            refine lv_icmp_eq (tgt := 135) hx hb d_Re_hasDescriptor_122 (by decide) (fun hc75 => ?_) (fun hc75 => ?_)
            · skip
              refine lv_aload_n hx hb d_Re_hasDescriptor_135 rfl (lv_at hl 2 rfl) ?_
              refine hm_get (ci := 5) (v := .ref md) (C := R_Re) (T := F_Re) (N := 5) hx hb hts ig_Re hown hK hH F_r9 rfl 2 (by decide) (hts _ mw_329) (fun _ h9 => h9) rfl d_Re_hasDescriptor_136 ?_
              refine lv_iload_n hx hb d_Re_hasDescriptor_139 rfl (lv_at hl 1 rfl) ?_
              refine lv_sipush (v := 148) hx hb d_Re_hasDescriptor_140 (by decide) ?_
              refine lv_iadd hx hb d_Re_hasDescriptor_143 ?_
              refine lv_iconst (v := 4) hx hb d_Re_hasDescriptor_144 (by decide) ?_
              refine hm_callPi (va_runV (As := [.int (v1 + 148), .int 4]) (b := md) (rest := []) ⟨hx, hb, hml, hown, hts⟩ (t_high l D t G ak av h τ n md (v1 + 148) 4 hn hT T_md) ⟨cw9B 2 hts mw_396 mw_397 mw_32 rfl rfl (by decide +kernel) ⟨Nat.le_of_ble_eq_true rfl, Nat.le_of_ble_eq_true rfl⟩, hts _ mw_398, hts _ mw_399⟩ (hP_V (q := (R_Me, F_Me, 2)) kE_ok hE hK hH F_md rfl) rfl rfl hl.1 rfl (lv_room (Nat.le_of_ble_eq_true rfl)) d_Re_hasDescriptor_145 ⟨Nat.le_of_ble_eq_true rfl, Nat.le_of_ble_eq_true rfl⟩) (fun r76 h77 H78 hp80  hH z79 => ?_)
              have hz : s.heap.size ≤ H78.size := Nat.le_trans hz z79
              obtain rfl := hp80
              refine lv_iload_n hx hb d_Re_hasDescriptor_148 rfl (lv_at hl 3 rfl) ?_
              refine lv_bipush (v := 19) hx hb d_Re_hasDescriptor_149 (by decide) ?_
              refine lv_iadd hx hb d_Re_hasDescriptor_151 ?_
              refine lv_icmp_eq (tgt := 165) hx hb d_Re_hasDescriptor_152 (by decide) (fun hc82 => ?_) (fun hc82 => ?_)
              · skip
                refine lv_aload_n hx hb d_Re_hasDescriptor_165 rfl (lv_at hl 2 rfl) ?_
                refine lv_iload_n hx hb d_Re_hasDescriptor_166 rfl (lv_at hl 1 rfl) ?_
                refine lv_sipush (v := 156) hx hb d_Re_hasDescriptor_167 (by decide) ?_
                refine lv_iadd hx hb d_Re_hasDescriptor_170 ?_
                refine lv_aload_n hx hb d_Re_hasDescriptor_171 rfl (lv_at hl 2 rfl) ?_
                refine hm_get (ci := 5) (v := .ref nd) (C := R_Re) (T := F_Re) (N := 5) hx hb hts ig_Re hown hK hH F_r9 rfl 3 (by decide) (hts _ mw_342) (fun _ h9 => h9) rfl d_Re_hasDescriptor_172 ?_
                refine hm_get (ci := 2) (v := .ref s8) (C := R_Ns) (T := F_Ns) (N := 4) hx hb hts ig_Ns hown hK hH F_nd rfl 0 (by decide) (hts _ mw_344) (fun _ h9 => h9) rfl d_Re_hasDescriptor_175 ?_
                refine lv_iconst (v := 0) hx hb d_Re_hasDescriptor_178 (by decide) ?_
                obtain ⟨a83, e84, T85⟩ := Tn2 ((0 : Int32).toNatClampNeg) (by decide)
                refine hm_aald (v := .ref a83) hx hb hK hH 4 F_s8 (C := R_No) rfl (iIn (by decide) (by decide)) (by rw [e84]; rfl) d_Re_hasDescriptor_179 ?_
                refine hm_calli (va_runV (As := [.int (v1 + 156), .ref a83]) (b := r9) (rest := []) ⟨hx, hb, hml, hown, hts⟩ (t_takesRec l D t G ak av h τ n 1 r9 (v1 + 156) a83 hn hT T_r9 T85 tb td md nd wp F_r9) ⟨cw9B 2 hts mw_367 mw_368 mw_332 rfl rfl (by decide +kernel) ⟨Nat.le_of_ble_eq_true rfl, Nat.le_of_ble_eq_true rfl⟩, hts _ mw_369, hts _ mw_370⟩ (hP_V (q := (R_Re, F_Re, 5)) kE_ok hE hK hH F_r9 rfl) rfl rfl hl.1 rfl (lv_room (Nat.le_of_ble_eq_true rfl)) d_Re_hasDescriptor_180 ⟨Nat.le_of_ble_eq_true rfl, Nat.le_of_ble_eq_true rfl⟩) hLo (fun r86 h87 H88 locs hp90 hH z89 hLo => ?_)
                have hz : s.heap.size ≤ H88.size := Nat.le_trans hz z89
                have hT0 := hT
                obtain ⟨c91, hT, kf93, xk94, xp92⟩ := hp90
                have F_r9 : h87 r9 = some (.inr (5, [.ref tb, .ref td, .ref md, .ref nd, .int wp])) := kf_at kf93 T_r9 (by decide) tn0 (nmc (tne T_r9 T85 (by decide)) nm0) F_r9
                have F_nd : h87 nd = some (.inr (2, [.ref s8, .ref o8, .int (nI 1), .int (nI 1)])) := kf_at kf93 T_nd (by decide) tn0 (nmc (tne T_nd T85 (by decide)) nm0) F_nd
                have F_s8 : h87 s8 = some (.inl ((t 4), 30, .inr (.inr (.inr (.inr sl8))))) := kf_at kf93 Tn0 (by decide) tn0 (nmc (tne Tn0 T85 (by decide)) nm0) F_s8
                have F_md : h87 md = some (.inr (0, [.ref v3, .int v5])) := kf_at kf93 T_md (by decide) tn0 (nmc (tne T_md T85 (by decide)) nm0) F_md
                have hkf : kf τ [(10, 1)] [r9] h h87 := kf_tr hkf kf93 (List.forall_mem_nil _) (List.forall_mem_cons.mpr ⟨Or.inr (by rw [T85]; exact List.mem_cons_self), List.forall_mem_nil _⟩)
                have hRN : RN t h87 nd s8 o8 sl8 1 := RN_kf hT0 T_nd hRN kf93 (by simp) (by simp) (List.forall_mem_cons.mpr ⟨⟨(fun z => by have := z.symm.trans T85; simp at this), (fun z => by have := z.symm.trans T85; simp at this)⟩, List.forall_mem_nil _⟩) xk94
                rcases c91 with rfl | rfl
                · skip
                  refine lv_if_eq (tgt := 199) hx hb d_Re_hasDescriptor_183 (by decide) (fun hc95 => ?_) (fun hc95 => absurd hc95 (by decide))
                  refine lv_aload_n hx hb d_Re_hasDescriptor_199 rfl (lv_at hl 2 rfl) ?_
                  refine lv_iload_n hx hb d_Re_hasDescriptor_200 rfl (lv_at hl 1 rfl) ?_
                  refine lv_sipush (v := 156) hx hb d_Re_hasDescriptor_201 (by decide) ?_
                  refine lv_iadd hx hb d_Re_hasDescriptor_204 ?_
                  refine hm_calli (va_runV (As := [.int (v1 + 156)]) (b := r9) (rest := []) ⟨hx, hb, hml, hown, hts⟩ (t_wrongAt l D t G ak av h87 τ n r9 (v1 + 156) hn hT T_r9 tb td md nd wp F_r9) ⟨cw9B 1 hts mw_331 mw_333 mw_332 rfl rfl (by decide +kernel) ⟨Nat.le_of_ble_eq_true rfl, Nat.le_of_ble_eq_true rfl⟩, hts _ mw_334, hts _ mw_335⟩ (hP_V (q := (R_Re, F_Re, 5)) kE_ok hE hK hH F_r9 rfl) rfl rfl hl.1 rfl (lv_room (Nat.le_of_ble_eq_true rfl)) d_Re_hasDescriptor_205 ⟨Nat.le_of_ble_eq_true rfl, Nat.le_of_ble_eq_true rfl⟩) hLo (fun r96 h97 H98 locs hp100 hH z99 hLo => ?_)
                  have hz : s.heap.size ≤ H98.size := Nat.le_trans hz z99
                  have hT0 := hT
                  obtain ⟨c101, hT, kf103, xp102⟩ := hp100
                  have F_nd : h97 nd = some (.inr (2, [.ref s8, .ref o8, .int (nI 1), .int (nI 1)])) := kf_at kf103 T_nd (by decide) tn0 (nmc (tne T_nd T_r9 (by decide)) nm0) F_nd
                  have F_s8 : h97 s8 = some (.inl ((t 4), 30, .inr (.inr (.inr (.inr sl8))))) := kf_at kf103 Tn0 (by decide) tn0 (nmc (tne Tn0 T_r9 (by decide)) nm0) F_s8
                  have F_md : h97 md = some (.inr (0, [.ref v3, .int v5])) := kf_at kf103 T_md (by decide) tn0 (nmc (tne T_md T_r9 (by decide)) nm0) F_md
                  have hkf : kf τ [(10, 1)] [r9] h h97 := kf_tr hkf kf103 (List.forall_mem_nil _) (List.forall_mem_cons.mpr ⟨Or.inl (by simp), List.forall_mem_nil _⟩)
                  obtain ⟨⟨wp104, F_r9⟩, rfl⟩ := xp102
                  have hRN : RN t h97 nd s8 o8 sl8 1 := RN_kf hT0 T_nd hRN kf103 (by simp) (by simp) (List.forall_mem_cons.mpr ⟨⟨(fun z => by have := z.symm.trans T_r9; simp at this), (fun z => by have := z.symm.trans T_r9; simp at this)⟩, List.forall_mem_nil _⟩) (knp_kf knp_rf kf103 (by simp) (List.forall_mem_cons.mpr ⟨(fun z => by have := z.symm.trans T_r9; simp at this), List.forall_mem_nil _⟩))
                  refine lv_if_eq (tgt := 215) hx hb d_Re_hasDescriptor_208 (by decide) (fun hc105 => ?_) (fun hc105 => absurd hc105 (by decide))
                  refine lv_iconst (v := 0) hx hb d_Re_hasDescriptor_215 (by decide) ?_
                  exact W.zret (v := 0) hx hb hr (by decide) (fun t9 ht hW => ⟨0, h97, rfl, ⟨zb0, hT, hkf, ⟨⟨_, F_r9⟩, hRN, fun z => absurd z (by decide)⟩⟩, by rw [ht]; exact hH, by rw [ht]; exact hz⟩) hLo d_Re_hasDescriptor_216
                · skip
                  have hRD : RD t n h87 nd s8 o8 sl8 1 := RN_RD1 hRN e84 (xp92 rfl)
                  refine lv_if_eq (tgt := 199) hx hb d_Re_hasDescriptor_183 (by decide) (fun hc106 => absurd hc106 (by decide)) (fun hc106 => ?_)
                  refine lv_aload_n hx hb d_Re_hasDescriptor_186 rfl (lv_at hl 2 rfl) ?_
                  refine lv_iload_n hx hb d_Re_hasDescriptor_187 rfl (lv_at hl 1 rfl) ?_
                  refine lv_sipush (v := 156) hx hb d_Re_hasDescriptor_188 (by decide) ?_
                  refine lv_iadd hx hb d_Re_hasDescriptor_191 ?_
                  refine lv_iconst (v := 0) hx hb d_Re_hasDescriptor_192 (by decide) ?_
                  refine hm_callPi (va_runV (As := [.int (v1 + 156), .int 0]) (b := r9) (rest := []) ⟨hx, hb, hml, hown, hts⟩ (t_isSpecial l D t G ak av h87 τ n r9 (v1 + 156) 0 hn hT T_r9 tb td md nd wp F_r9) ⟨cw9B 2 hts mw_371 mw_372 mw_332 rfl rfl (by decide +kernel) ⟨Nat.le_of_ble_eq_true rfl, Nat.le_of_ble_eq_true rfl⟩, hts _ mw_373, hts _ mw_374⟩ (hP_V (q := (R_Re, F_Re, 5)) kE_ok hE hK hH F_r9 rfl) rfl rfl hl.1 rfl (lv_room (Nat.le_of_ble_eq_true rfl)) d_Re_hasDescriptor_193 ⟨Nat.le_of_ble_eq_true rfl, Nat.le_of_ble_eq_true rfl⟩) (fun r107 h108 H109 hp111  hH z110 => ?_)
                  have hz : s.heap.size ≤ H109.size := Nat.le_trans hz z110
                  obtain ⟨c112, rfl⟩ := hp111
                  refine lv_if_ne (tgt := 211) hx hb d_Re_hasDescriptor_196 (by decide) (fun hc114 => ?_) (fun hc114 => ?_)
                  · skip
                    refine lv_iconst (v := 1) hx hb d_Re_hasDescriptor_211 (by decide) ?_
                    refine lv_goto (tgt := 216) hx hb d_Re_hasDescriptor_212 (by decide) ?_
                    exact W.zret (v := 1) hx hb hr (by decide) (fun t9 ht hW => ⟨1, h87, rfl, ⟨zb1, hT, hkf, ⟨⟨_, F_r9⟩, hRN, fun _ => hRD⟩⟩, by rw [ht]; exact hH, by rw [ht]; exact hz⟩) hLo d_Re_hasDescriptor_216
                  · skip
                    have ic115 : r107.toInt = 0 := congrArg Int32.toInt hc114
                    refine lv_aload_n hx hb d_Re_hasDescriptor_199 rfl (lv_at hl 2 rfl) ?_
                    refine lv_iload_n hx hb d_Re_hasDescriptor_200 rfl (lv_at hl 1 rfl) ?_
                    refine lv_sipush (v := 156) hx hb d_Re_hasDescriptor_201 (by decide) ?_
                    refine lv_iadd hx hb d_Re_hasDescriptor_204 ?_
                    refine hm_calli (va_runV (As := [.int (v1 + 156)]) (b := r9) (rest := []) ⟨hx, hb, hml, hown, hts⟩ (t_wrongAt l D t G ak av h87 τ n r9 (v1 + 156) hn hT T_r9 tb td md nd wp F_r9) ⟨cw9B 1 hts mw_331 mw_333 mw_332 rfl rfl (by decide +kernel) ⟨Nat.le_of_ble_eq_true rfl, Nat.le_of_ble_eq_true rfl⟩, hts _ mw_334, hts _ mw_335⟩ (hP_V (q := (R_Re, F_Re, 5)) kE_ok hE hK hH F_r9 rfl) rfl rfl hl.1 rfl (lv_room (Nat.le_of_ble_eq_true rfl)) d_Re_hasDescriptor_205 ⟨Nat.le_of_ble_eq_true rfl, Nat.le_of_ble_eq_true rfl⟩) hLo (fun r116 h117 H118 locs hp120 hH z119 hLo => ?_)
                    have hz : s.heap.size ≤ H118.size := Nat.le_trans hz z119
                    have hT0 := hT
                    obtain ⟨c121, hT, kf123, xp122⟩ := hp120
                    have F_nd : h117 nd = some (.inr (2, [.ref s8, .ref o8, .int (nI 1), .int (nI 1)])) := kf_at kf123 T_nd (by decide) tn0 (nmc (tne T_nd T_r9 (by decide)) nm0) F_nd
                    have F_s8 : h117 s8 = some (.inl ((t 4), 30, .inr (.inr (.inr (.inr sl8))))) := kf_at kf123 Tn0 (by decide) tn0 (nmc (tne Tn0 T_r9 (by decide)) nm0) F_s8
                    have F_md : h117 md = some (.inr (0, [.ref v3, .int v5])) := kf_at kf123 T_md (by decide) tn0 (nmc (tne T_md T_r9 (by decide)) nm0) F_md
                    have hkf : kf τ [(10, 1)] [r9] h h117 := kf_tr hkf kf123 (List.forall_mem_nil _) (List.forall_mem_cons.mpr ⟨Or.inl (by simp), List.forall_mem_nil _⟩)
                    obtain ⟨⟨wp124, F_r9⟩, rfl⟩ := xp122
                    have hRN : RN t h117 nd s8 o8 sl8 1 := RN_kf hT0 T_nd hRN kf123 (by simp) (by simp) (List.forall_mem_cons.mpr ⟨⟨(fun z => by have := z.symm.trans T_r9; simp at this), (fun z => by have := z.symm.trans T_r9; simp at this)⟩, List.forall_mem_nil _⟩) (knp_kf knp_rf kf123 (by simp) (List.forall_mem_cons.mpr ⟨(fun z => by have := z.symm.trans T_r9; simp at this), List.forall_mem_nil _⟩))
                    refine lv_if_eq (tgt := 215) hx hb d_Re_hasDescriptor_208 (by decide) (fun hc125 => ?_) (fun hc125 => absurd hc125 (by decide))
                    refine lv_iconst (v := 0) hx hb d_Re_hasDescriptor_215 (by decide) ?_
                    exact W.zret (v := 0) hx hb hr (by decide) (fun t9 ht hW => ⟨0, h117, rfl, ⟨zb0, hT, hkf, ⟨⟨_, F_r9⟩, hRN, fun z => absurd z (by decide)⟩⟩, by rw [ht]; exact hH, by rw [ht]; exact hz⟩) hLo d_Re_hasDescriptor_216
              · skip
                refine lv_aload_n hx hb d_Re_hasDescriptor_155 rfl (lv_at hl 2 rfl) ?_
                refine lv_iload_n hx hb d_Re_hasDescriptor_156 rfl (lv_at hl 1 rfl) ?_
                refine lv_sipush (v := 148) hx hb d_Re_hasDescriptor_157 (by decide) ?_
                refine lv_iadd hx hb d_Re_hasDescriptor_160 ?_
                refine hm_calli (va_runV (As := [.int (v1 + 148)]) (b := r9) (rest := []) ⟨hx, hb, hml, hown, hts⟩ (t_wrongAt l D t G ak av h τ n r9 (v1 + 148) hn hT T_r9 tb td md nd wp F_r9) ⟨cw9B 1 hts mw_331 mw_333 mw_332 rfl rfl (by decide +kernel) ⟨Nat.le_of_ble_eq_true rfl, Nat.le_of_ble_eq_true rfl⟩, hts _ mw_334, hts _ mw_335⟩ (hP_V (q := (R_Re, F_Re, 5)) kE_ok hE hK hH F_r9 rfl) rfl rfl hl.1 rfl (lv_room (Nat.le_of_ble_eq_true rfl)) d_Re_hasDescriptor_161 ⟨Nat.le_of_ble_eq_true rfl, Nat.le_of_ble_eq_true rfl⟩) hLo (fun r126 h127 H128 locs hp130 hH z129 hLo => ?_)
                have hz : s.heap.size ≤ H128.size := Nat.le_trans hz z129
                have hT0 := hT
                obtain ⟨c131, hT, kf133, xp132⟩ := hp130
                have F_nd : h127 nd = some (.inr (2, [.ref s8, .ref o8, .int (nI 1), .int (nI 1)])) := kf_at kf133 T_nd (by decide) tn0 (nmc (tne T_nd T_r9 (by decide)) nm0) F_nd
                have F_s8 : h127 s8 = some (.inl ((t 4), 30, .inr (.inr (.inr (.inr sl8))))) := kf_at kf133 Tn0 (by decide) tn0 (nmc (tne Tn0 T_r9 (by decide)) nm0) F_s8
                have F_md : h127 md = some (.inr (0, [.ref v3, .int v5])) := kf_at kf133 T_md (by decide) tn0 (nmc (tne T_md T_r9 (by decide)) nm0) F_md
                have hkf : kf τ [(10, 1)] [r9] h h127 := kf_tr hkf kf133 (List.forall_mem_nil _) (List.forall_mem_cons.mpr ⟨Or.inl (by simp), List.forall_mem_nil _⟩)
                obtain ⟨⟨wp134, F_r9⟩, rfl⟩ := xp132
                have hRN : RN t h127 nd s8 o8 sl8 1 := RN_kf hT0 T_nd hRN kf133 (by simp) (by simp) (List.forall_mem_cons.mpr ⟨⟨(fun z => by have := z.symm.trans T_r9; simp at this), (fun z => by have := z.symm.trans T_r9; simp at this)⟩, List.forall_mem_nil _⟩) (knp_kf knp_rf kf133 (by simp) (List.forall_mem_cons.mpr ⟨(fun z => by have := z.symm.trans T_r9; simp at this), List.forall_mem_nil _⟩))
                exact W.zret (v := 0) hx hb hr (by decide) (fun t9 ht hW => ⟨0, h127, rfl, ⟨zb0, hT, hkf, ⟨⟨_, F_r9⟩, hRN, fun z => absurd z (by decide)⟩⟩, by rw [ht]; exact hH, by rw [ht]; exact hz⟩) hLo d_Re_hasDescriptor_164
            · skip
              refine lv_aload_n hx hb d_Re_hasDescriptor_125 rfl (lv_at hl 2 rfl) ?_
              refine lv_iload_n hx hb d_Re_hasDescriptor_126 rfl (lv_at hl 1 rfl) ?_
              refine lv_sipush (v := 140) hx hb d_Re_hasDescriptor_127 (by decide) ?_
              refine lv_iadd hx hb d_Re_hasDescriptor_130 ?_
              refine hm_calli (va_runV (As := [.int (v1 + 140)]) (b := r9) (rest := []) ⟨hx, hb, hml, hown, hts⟩ (t_wrongAt l D t G ak av h τ n r9 (v1 + 140) hn hT T_r9 tb td md nd wp F_r9) ⟨cw9B 1 hts mw_331 mw_333 mw_332 rfl rfl (by decide +kernel) ⟨Nat.le_of_ble_eq_true rfl, Nat.le_of_ble_eq_true rfl⟩, hts _ mw_334, hts _ mw_335⟩ (hP_V (q := (R_Re, F_Re, 5)) kE_ok hE hK hH F_r9 rfl) rfl rfl hl.1 rfl (lv_room (Nat.le_of_ble_eq_true rfl)) d_Re_hasDescriptor_131 ⟨Nat.le_of_ble_eq_true rfl, Nat.le_of_ble_eq_true rfl⟩) hLo (fun r135 h136 H137 locs hp139 hH z138 hLo => ?_)
              have hz : s.heap.size ≤ H137.size := Nat.le_trans hz z138
              have hT0 := hT
              obtain ⟨c140, hT, kf142, xp141⟩ := hp139
              have F_nd : h136 nd = some (.inr (2, [.ref s8, .ref o8, .int (nI 1), .int (nI 1)])) := kf_at kf142 T_nd (by decide) tn0 (nmc (tne T_nd T_r9 (by decide)) nm0) F_nd
              have F_s8 : h136 s8 = some (.inl ((t 4), 30, .inr (.inr (.inr (.inr sl8))))) := kf_at kf142 Tn0 (by decide) tn0 (nmc (tne Tn0 T_r9 (by decide)) nm0) F_s8
              have F_md : h136 md = some (.inr (0, [.ref v3, .int v5])) := kf_at kf142 T_md (by decide) tn0 (nmc (tne T_md T_r9 (by decide)) nm0) F_md
              have hkf : kf τ [(10, 1)] [r9] h h136 := kf_tr hkf kf142 (List.forall_mem_nil _) (List.forall_mem_cons.mpr ⟨Or.inl (by simp), List.forall_mem_nil _⟩)
              obtain ⟨⟨wp143, F_r9⟩, rfl⟩ := xp141
              have hRN : RN t h136 nd s8 o8 sl8 1 := RN_kf hT0 T_nd hRN kf142 (by simp) (by simp) (List.forall_mem_cons.mpr ⟨⟨(fun z => by have := z.symm.trans T_r9; simp at this), (fun z => by have := z.symm.trans T_r9; simp at this)⟩, List.forall_mem_nil _⟩) (knp_kf knp_rf kf142 (by simp) (List.forall_mem_cons.mpr ⟨(fun z => by have := z.symm.trans T_r9; simp at this), List.forall_mem_nil _⟩))
              exact W.zret (v := 0) hx hb hr (by decide) (fun t9 ht hW => ⟨0, h136, rfl, ⟨zb0, hT, hkf, ⟨⟨_, F_r9⟩, hRN, fun z => absurd z (by decide)⟩⟩, by rw [ht]; exact hH, by rw [ht]; exact hz⟩) hLo d_Re_hasDescriptor_134
          · skip
            have ic144 : r61.toInt = 0 := congrArg Int32.toInt hc68
            refine lv_aload_n hx hb d_Re_hasDescriptor_95 rfl (lv_at hl 2 rfl) ?_
            refine lv_iload_n hx hb d_Re_hasDescriptor_96 rfl (lv_at hl 1 rfl) ?_
            refine lv_sipush (v := 132) hx hb d_Re_hasDescriptor_97 (by decide) ?_
            refine lv_iadd hx hb d_Re_hasDescriptor_100 ?_
            refine hm_calli (va_runV (As := [.int (v1 + 132)]) (b := r9) (rest := []) ⟨hx, hb, hml, hown, hts⟩ (t_wrongAt l D t G ak av h τ n r9 (v1 + 132) hn hT T_r9 tb td md nd wp F_r9) ⟨cw9B 1 hts mw_331 mw_333 mw_332 rfl rfl (by decide +kernel) ⟨Nat.le_of_ble_eq_true rfl, Nat.le_of_ble_eq_true rfl⟩, hts _ mw_334, hts _ mw_335⟩ (hP_V (q := (R_Re, F_Re, 5)) kE_ok hE hK hH F_r9 rfl) rfl rfl hl.1 rfl (lv_room (Nat.le_of_ble_eq_true rfl)) d_Re_hasDescriptor_101 ⟨Nat.le_of_ble_eq_true rfl, Nat.le_of_ble_eq_true rfl⟩) hLo (fun r145 h146 H147 locs hp149 hH z148 hLo => ?_)
            have hz : s.heap.size ≤ H147.size := Nat.le_trans hz z148
            have hT0 := hT
            obtain ⟨c150, hT, kf152, xp151⟩ := hp149
            have F_nd : h146 nd = some (.inr (2, [.ref s8, .ref o8, .int (nI 1), .int (nI 1)])) := kf_at kf152 T_nd (by decide) tn0 (nmc (tne T_nd T_r9 (by decide)) nm0) F_nd
            have F_s8 : h146 s8 = some (.inl ((t 4), 30, .inr (.inr (.inr (.inr sl8))))) := kf_at kf152 Tn0 (by decide) tn0 (nmc (tne Tn0 T_r9 (by decide)) nm0) F_s8
            have F_md : h146 md = some (.inr (0, [.ref v3, .int v5])) := kf_at kf152 T_md (by decide) tn0 (nmc (tne T_md T_r9 (by decide)) nm0) F_md
            have hkf : kf τ [(10, 1)] [r9] h h146 := kf_tr hkf kf152 (List.forall_mem_nil _) (List.forall_mem_cons.mpr ⟨Or.inl (by simp), List.forall_mem_nil _⟩)
            obtain ⟨⟨wp153, F_r9⟩, rfl⟩ := xp151
            have hRN : RN t h146 nd s8 o8 sl8 1 := RN_kf hT0 T_nd hRN kf152 (by simp) (by simp) (List.forall_mem_cons.mpr ⟨⟨(fun z => by have := z.symm.trans T_r9; simp at this), (fun z => by have := z.symm.trans T_r9; simp at this)⟩, List.forall_mem_nil _⟩) (knp_kf knp_rf kf152 (by simp) (List.forall_mem_cons.mpr ⟨(fun z => by have := z.symm.trans T_r9; simp at this), List.forall_mem_nil _⟩))
            exact W.zret (v := 0) hx hb hr (by decide) (fun t9 ht hW => ⟨0, h146, rfl, ⟨zb0, hT, hkf, ⟨⟨_, F_r9⟩, hRN, fun z => absurd z (by decide)⟩⟩, by rw [ht]; exact hH, by rw [ht]; exact hz⟩) hLo d_Re_hasDescriptor_104
    · skip
      have ic154 : r23.toInt = 0 := congrArg Int32.toInt hc30
      refine lv_aload_n hx hb d_Re_hasDescriptor_44 rfl (lv_at hl 1 rfl) ?_
      refine lv_iload_n hx hb d_Re_hasDescriptor_45 rfl (lv_at hl 0 rfl) ?_
      refine lv_sipush (v := 128) hx hb d_Re_hasDescriptor_46 (by decide) ?_
      refine lv_iadd hx hb d_Re_hasDescriptor_49 ?_
      refine hm_calli (va_runV (As := [.int (v1 + 128)]) (b := r9) (rest := []) ⟨hx, hb, hml, hown, hts⟩ (t_wrongAt l D t G ak av h τ n r9 (v1 + 128) hn hT T_r9 tb td md nd wp F_r9) ⟨cw9B 1 hts mw_331 mw_333 mw_332 rfl rfl (by decide +kernel) ⟨Nat.le_of_ble_eq_true rfl, Nat.le_of_ble_eq_true rfl⟩, hts _ mw_334, hts _ mw_335⟩ (hP_V (q := (R_Re, F_Re, 5)) kE_ok hE hK hH F_r9 rfl) rfl rfl hl.1 rfl (lv_room (Nat.le_of_ble_eq_true rfl)) d_Re_hasDescriptor_50 ⟨Nat.le_of_ble_eq_true rfl, Nat.le_of_ble_eq_true rfl⟩) hLo (fun r155 h156 H157 locs hp159 hH z158 hLo => ?_)
      have hz : s.heap.size ≤ H157.size := Nat.le_trans hz z158
      have hT0 := hT
      obtain ⟨c160, hT, kf162, xp161⟩ := hp159
      have F_nd : h156 nd = some (.inr (2, [.ref s8, .ref o8, .int (nI 1), .int (nI 1)])) := kf_at kf162 T_nd (by decide) tn0 (nmc (tne T_nd T_r9 (by decide)) nm0) F_nd
      have F_s8 : h156 s8 = some (.inl ((t 4), 30, .inr (.inr (.inr (.inr sl8))))) := kf_at kf162 Tn0 (by decide) tn0 (nmc (tne Tn0 T_r9 (by decide)) nm0) F_s8
      have F_md : h156 md = some (.inr (0, [.ref v3, .int v5])) := kf_at kf162 T_md (by decide) tn0 (nmc (tne T_md T_r9 (by decide)) nm0) F_md
      have hkf : kf τ [(10, 1)] [r9] h h156 := kf_tr hkf kf162 (List.forall_mem_nil _) (List.forall_mem_cons.mpr ⟨Or.inl (by simp), List.forall_mem_nil _⟩)
      obtain ⟨⟨wp163, F_r9⟩, rfl⟩ := xp161
      have hRN : RN t h156 nd s8 o8 sl8 1 := RN_kf hT0 T_nd hRN kf162 (by simp) (by simp) (List.forall_mem_cons.mpr ⟨⟨(fun z => by have := z.symm.trans T_r9; simp at this), (fun z => by have := z.symm.trans T_r9; simp at this)⟩, List.forall_mem_nil _⟩) (knp_kf knp_rf kf162 (by simp) (List.forall_mem_cons.mpr ⟨(fun z => by have := z.symm.trans T_r9; simp at this), List.forall_mem_nil _⟩))
      exact W.zret (v := 0) hx hb hr (by decide) (fun t9 ht hW => ⟨0, h156, rfl, ⟨zb0, hT, hkf, ⟨⟨_, F_r9⟩, hRN, fun z => absurd z (by decide)⟩⟩, by rw [ht]; exact hH, by rw [ht]; exact hz⟩) hLo d_Re_hasDescriptor_53

set_option maxHeartbeats 4000000 in
set_option maxRecDepth 100000 in
theorem t_hasPT (l : Launch) (D : va_G) (t : Nat → ClassId) (G : hG) (ak av : Nat → Nat) (h : hM) (τ : tM) (n : Nat) (r9 : Nat) (b8 : Int32) (tb td md nd : Nat) (wp : Int32) (hn : n ≤ 200) (hT : TI τ t n h) (T_r9 : τ r9 = (6, 0)) (F_r9 : h r9 = some (.inr (5, [.ref tb, .ref td, .ref md, .ref nd, .int wp]))) : Met l y_Re_hasPathTables (.code y_Re_hasPathTables b_Re_hasPathTables 4 (some .boolean) :: lw_g) { frames := 8, cells := 0, slots := 0, locals := 181 } (hP (kE D t G ak av) D vwCl G h [.ref r9, .int b8]) (hQi D vwCl G (fun r h' => zb r ∧ TI τ t n h' ∧ kf τ [(5, 1), (10, 1)] [r9] h h' ∧ knp τ 1 h h' ∧ ∃ wp', h' r9 = some (.inr (5, [.ref tb, .ref td, .ref md, .ref nd, .int wp'])))) 0 0 G.P := by
  refine Met.ofW (cc := b_Re_hasPathTables) (maxL := 4) (ret := (some .boolean)) (by decide) rfl ?_
  intro p e s m args below meth c s₁ Bd hml hv
  obtain ⟨ha, hE, hH⟩ := hv
  have hx := Bd.exec
  have hb := Bd.bytes
  have hr := Bd.returns
  have hts : ∀ w ∈ lw_g, w.before args s = true := fun w hw => atoms_spec (ws := (.code y_Re_hasPathTables b_Re_hasPathTables 4 (some .boolean) :: lw_g)) Bd.pre w (List.mem_cons_of_mem _ hw)
  have hown : s.vm.findClass R_Re = some m.cls := findClass_of_methodNamed Bd.named
  have hlocks := Bd.notSynchronized
  have hK := hE.1
  have hH0 := hH
  have hLo : hLc G.P [] := hLc_nil
  have hz : s.heap.size ≤ s.heap.size := Nat.le_refl _
  have hl := lv_entry [.ref r9, .int b8] (n := 4) (Nat.le_of_ble_eq_true rfl)
  rw [show entryFrame m args 4 = F0 m 0 ((lg_sl [.ref r9, .int b8] ++ List.replicate (4 - (lg_sl [.ref r9, .int b8]).length) Slot.unset).toArray) [] from (by rw [ha]; exact lg_entry_eq m [.ref r9, .int b8] 4)]
  generalize (lg_sl [.ref r9, .int b8] ++ List.replicate (4 - (lg_sl [.ref r9, .int b8]).length) Slot.unset).toArray = ls at hl ⊢
  have hl : lv_has ls 4 [(0, .ref r9), (1, .int b8)] := hl
  have hkf : kf τ [(5, 1), (10, 1)] [r9] h h := kf_rf
  have hnp_1 : knp τ 1 h h := knp_rf
  obtain ⟨Tr0, Tr1, Tr2, Tr3⟩ := TJ_rdr (v2 := some md) (v3 := some nd) hT T_r9 F_r9
  have T_md := Tr2 md rfl
  have T_nd := Tr3 nd rfl
  refine lv_aload_n hx hb d_Re_hasPathTables_0 rfl (lv_at hl 0 rfl) ?_
  refine hm_get (ci := 5) (v := .ref tb) (C := R_Re) (T := F_Re) (N := 5) hx hb hts ig_Re hown hK hH F_r9 rfl 0 (by decide) (hts _ mw_350) (fun _ h9 => h9) rfl d_Re_hasPathTables_1 ?_
  refine lv_aload_n hx hb d_Re_hasPathTables_4 rfl (lv_at hl 0 rfl) ?_
  refine hm_get (ci := 5) (v := .ref nd) (C := R_Re) (T := F_Re) (N := 5) hx hb hts ig_Re hown hK hH F_r9 rfl 3 (by decide) (hts _ mw_342) (fun _ h9 => h9) rfl d_Re_hasPathTables_5 ?_
  obtain ⟨v1, v3, v5, v7, F_nd, c2, c4, c6⟩ := TI_nds hT T_nd
  refine hm_get (ci := 2) (v := .ref v1) (C := R_Ns) (T := F_Ns) (N := 4) hx hb hts ig_Ns hown hK hH F_nd rfl 0 (by decide) (hts _ mw_344) (fun _ h9 => h9) rfl d_Re_hasPathTables_8 ?_
  refine lv_aload_n hx hb d_Re_hasPathTables_11 rfl (lv_at hl 0 rfl) ?_
  refine hm_get (ci := 5) (v := .ref nd) (C := R_Re) (T := F_Re) (N := 5) hx hb hts ig_Re hown hK hH F_r9 rfl 3 (by decide) (hts _ mw_342) (fun _ h9 => h9) rfl d_Re_hasPathTables_12 ?_
  refine hm_get (ci := 2) (v := .int v5) (C := R_Ns) (T := F_Ns) (N := 4) hx hb hts ig_Ns hown hK hH F_nd rfl 2 (by decide) (hts _ mw_343) (fun _ h9 => h9) rfl d_Re_hasPathTables_15 ?_
  refine lv_iconst (v := 1) hx hb d_Re_hasPathTables_18 (by decide) ?_
  obtain ⟨v8, F_tb, c9⟩ := TI_page hT Tr0
  refine hm_calli (va_runV (As := [.ref v1, .int v5, .int 1]) (b := tb) (rest := []) ⟨hx, hb, hml, hown, hts⟩ (t_fpath8 l D t G ak av h τ n 1 1 tb v1 v5 (1 : Int32) hn hT Tr0 c2 zb1) ⟨cw9B 3 hts mw_291 mw_400 mw_77 rfl rfl (by decide +kernel) ⟨Nat.le_of_ble_eq_true rfl, Nat.le_of_ble_eq_true rfl⟩, hts _ mw_293, hts _ mw_294⟩ (hP_V (q := (R_Pg, F_Pg, 1)) kE_ok hE hK hH F_tb rfl) rfl rfl hl.1 rfl (lv_room (Nat.le_of_ble_eq_true rfl)) d_Re_hasPathTables_19 ⟨Nat.le_of_ble_eq_true rfl, Nat.le_of_ble_eq_true rfl⟩) hLo (fun r10 h11 H12 locs hp14 hH z13 hLo => ?_)
  have hz : s.heap.size ≤ H12.size := Nat.le_trans hz z13
  have hT0 := hT
  obtain ⟨hT, kf16, xk17⟩ := hp14
  have F_r9 : h11 r9 = some (.inr (5, [.ref tb, .ref td, .ref md, .ref nd, .int wp])) := kf_at kf16 T_r9 (by decide) (tnc (by decide) (tnc (by decide) tn0)) nm0 F_r9
  have F_nd : h11 nd = some (.inr (2, [.ref v1, .ref v3, .int v5, .int v7])) := kf_at kf16 T_nd (by decide) (tnc (by decide) (tnc (by decide) tn0)) nm0 F_nd
  have F_tb : h11 tb = some (.inr (3, [.ref v8])) := kf_at kf16 Tr0 (by decide) (tnc (by decide) (tnc (by decide) tn0)) nm0 F_tb
  have hnp_1 : knp τ 1 h h11 := knp_tr hnp_1 xk17
  have hkf : kf τ [(5, 1), (10, 1)] [r9] h h11 := kf_tr hkf kf16 (List.forall_mem_cons.mpr ⟨List.mem_cons_self, List.forall_mem_cons.mpr ⟨(List.mem_cons_of_mem _ List.mem_cons_self), List.forall_mem_nil _⟩⟩) (List.forall_mem_nil _)
  refine lv_istore_n (lv' := [(2, .int r10), (0, .ref r9), (1, .int b8)]) hx hb d_Re_hasPathTables_22 rfl hl (by decide) rfl (fun ls hl => ?_)
  refine lv_aload_n hx hb d_Re_hasPathTables_23 rfl (lv_at hl 1 rfl) ?_
  refine lv_iload_n hx hb d_Re_hasPathTables_24 rfl (lv_at hl 2 rfl) ?_
  refine lv_bipush (v := 18) hx hb d_Re_hasPathTables_25 (by decide) ?_
  refine lv_iadd hx hb d_Re_hasPathTables_27 ?_
  refine lv_iload_n hx hb d_Re_hasPathTables_28 rfl (lv_at hl 0 rfl) ?_
  refine hm_calli (va_runV (As := [.int (b8 + 18), .int r10]) (b := r9) (rest := []) ⟨hx, hb, hml, hown, hts⟩ (t_hasTable l D t G ak av h11 τ n r9 (b8 + 18) r10 hn hT T_r9 tb td md nd wp F_r9) ⟨cw9B 2 hts mw_401 mw_402 mw_332 rfl rfl (by decide +kernel) ⟨Nat.le_of_ble_eq_true rfl, Nat.le_of_ble_eq_true rfl⟩, hts _ mw_403, hts _ mw_404⟩ (hP_V (q := (R_Re, F_Re, 5)) kE_ok hE hK hH F_r9 rfl) rfl rfl hl.1 rfl (lv_room (Nat.le_of_ble_eq_true rfl)) d_Re_hasPathTables_29 ⟨Nat.le_of_ble_eq_true rfl, Nat.le_of_ble_eq_true rfl⟩) hLo (fun r18 h19 H20 locs hp22 hH z21 hLo => ?_)
  have hz : s.heap.size ≤ H20.size := Nat.le_trans hz z21
  have hT0 := hT
  obtain ⟨c23, hT, kf25, xp24⟩ := hp22
  have F_nd : h19 nd = some (.inr (2, [.ref v1, .ref v3, .int v5, .int v7])) := kf_at kf25 T_nd (by decide) tn0 (nmc (tne T_nd T_r9 (by decide)) nm0) F_nd
  have F_tb : h19 tb = some (.inr (3, [.ref v8])) := kf_at kf25 Tr0 (by decide) tn0 (nmc (tne Tr0 T_r9 (by decide)) nm0) F_tb
  have hnp_1 : knp τ 1 h h19 := knp_kf hnp_1 kf25 tn0 (List.forall_mem_cons.mpr ⟨(fun z => by have := z.symm.trans T_r9; simp at this), List.forall_mem_nil _⟩)
  have hkf : kf τ [(5, 1), (10, 1)] [r9] h h19 := kf_tr hkf kf25 (List.forall_mem_nil _) (List.forall_mem_cons.mpr ⟨Or.inl (by simp), List.forall_mem_nil _⟩)
  obtain ⟨wp26, F_r9⟩ := xp24
  refine lv_if_ne (tgt := 37) hx hb d_Re_hasPathTables_32 (by decide) (fun hc27 => ?_) (fun hc27 => ?_)
  · skip
    refine lv_aload_n hx hb d_Re_hasPathTables_37 rfl (lv_at hl 1 rfl) ?_
    refine hm_get (ci := 5) (v := .ref tb) (C := R_Re) (T := F_Re) (N := 5) hx hb hts ig_Re hown hK hH F_r9 rfl 0 (by decide) (hts _ mw_350) (fun _ h9 => h9) rfl d_Re_hasPathTables_38 ?_
    refine lv_aload_n hx hb d_Re_hasPathTables_41 rfl (lv_at hl 1 rfl) ?_
    refine hm_get (ci := 5) (v := .ref nd) (C := R_Re) (T := F_Re) (N := 5) hx hb hts ig_Re hown hK hH F_r9 rfl 3 (by decide) (hts _ mw_342) (fun _ h9 => h9) rfl d_Re_hasPathTables_42 ?_
    refine hm_get (ci := 2) (v := .ref v1) (C := R_Ns) (T := F_Ns) (N := 4) hx hb hts ig_Ns hown hK hH F_nd rfl 0 (by decide) (hts _ mw_344) (fun _ h9 => h9) rfl d_Re_hasPathTables_45 ?_
    refine lv_aload_n hx hb d_Re_hasPathTables_48 rfl (lv_at hl 1 rfl) ?_
    refine hm_get (ci := 5) (v := .ref nd) (C := R_Re) (T := F_Re) (N := 5) hx hb hts ig_Re hown hK hH F_r9 rfl 3 (by decide) (hts _ mw_342) (fun _ h9 => h9) rfl d_Re_hasPathTables_49 ?_
    refine hm_get (ci := 2) (v := .int v5) (C := R_Ns) (T := F_Ns) (N := 4) hx hb hts ig_Ns hown hK hH F_nd rfl 2 (by decide) (hts _ mw_343) (fun _ h9 => h9) rfl d_Re_hasPathTables_52 ?_
    refine lv_iconst (v := 0) hx hb d_Re_hasPathTables_55 (by decide) ?_
    refine hm_calli (va_runV (As := [.ref v1, .int v5, .int 0]) (b := tb) (rest := []) ⟨hx, hb, hml, hown, hts⟩ (t_fpath8 l D t G ak av h19 τ n 1 1 tb v1 v5 (0 : Int32) hn hT Tr0 c2 zb0) ⟨cw9B 3 hts mw_291 mw_400 mw_77 rfl rfl (by decide +kernel) ⟨Nat.le_of_ble_eq_true rfl, Nat.le_of_ble_eq_true rfl⟩, hts _ mw_293, hts _ mw_294⟩ (hP_V (q := (R_Pg, F_Pg, 1)) kE_ok hE hK hH F_tb rfl) rfl rfl hl.1 rfl (lv_room (Nat.le_of_ble_eq_true rfl)) d_Re_hasPathTables_56 ⟨Nat.le_of_ble_eq_true rfl, Nat.le_of_ble_eq_true rfl⟩) hLo (fun r28 h29 H30 locs hp32 hH z31 hLo => ?_)
    have hz : s.heap.size ≤ H30.size := Nat.le_trans hz z31
    have hT0 := hT
    obtain ⟨hT, kf34, xk35⟩ := hp32
    have F_nd : h29 nd = some (.inr (2, [.ref v1, .ref v3, .int v5, .int v7])) := kf_at kf34 T_nd (by decide) (tnc (by decide) (tnc (by decide) tn0)) nm0 F_nd
    have F_tb : h29 tb = some (.inr (3, [.ref v8])) := kf_at kf34 Tr0 (by decide) (tnc (by decide) (tnc (by decide) tn0)) nm0 F_tb
    have F_r9 : h29 r9 = some (.inr (5, [.ref tb, .ref td, .ref md, .ref nd, .int wp26])) := kf_at kf34 T_r9 (by decide) (tnc (by decide) (tnc (by decide) tn0)) nm0 F_r9
    have hnp_1 : knp τ 1 h h29 := knp_tr hnp_1 xk35
    have hkf : kf τ [(5, 1), (10, 1)] [r9] h h29 := kf_tr hkf kf34 (List.forall_mem_cons.mpr ⟨List.mem_cons_self, List.forall_mem_cons.mpr ⟨(List.mem_cons_of_mem _ List.mem_cons_self), List.forall_mem_nil _⟩⟩) (List.forall_mem_nil _)
    refine lv_pop hx hb d_Re_hasPathTables_59 rfl ?_
    refine lv_aload_n hx hb d_Re_hasPathTables_60 rfl (lv_at hl 1 rfl) ?_
    refine lv_iload_n hx hb d_Re_hasPathTables_61 rfl (lv_at hl 2 rfl) ?_
    refine lv_bipush (v := 19) hx hb d_Re_hasPathTables_62 (by decide) ?_
    refine lv_iadd hx hb d_Re_hasPathTables_64 ?_
    refine lv_iload_n hx hb d_Re_hasPathTables_65 rfl (lv_at hl 0 rfl) ?_
    refine hm_calli (va_runV (As := [.int (b8 + 19), .int r10]) (b := r9) (rest := []) ⟨hx, hb, hml, hown, hts⟩ (t_hasTable l D t G ak av h29 τ n r9 (b8 + 19) r10 hn hT T_r9 tb td md nd wp26 F_r9) ⟨cw9B 2 hts mw_401 mw_402 mw_332 rfl rfl (by decide +kernel) ⟨Nat.le_of_ble_eq_true rfl, Nat.le_of_ble_eq_true rfl⟩, hts _ mw_403, hts _ mw_404⟩ (hP_V (q := (R_Re, F_Re, 5)) kE_ok hE hK hH F_r9 rfl) rfl rfl hl.1 rfl (lv_room (Nat.le_of_ble_eq_true rfl)) d_Re_hasPathTables_66 ⟨Nat.le_of_ble_eq_true rfl, Nat.le_of_ble_eq_true rfl⟩) hLo (fun r36 h37 H38 locs hp40 hH z39 hLo => ?_)
    have hz : s.heap.size ≤ H38.size := Nat.le_trans hz z39
    have hT0 := hT
    obtain ⟨c41, hT, kf43, xp42⟩ := hp40
    have F_nd : h37 nd = some (.inr (2, [.ref v1, .ref v3, .int v5, .int v7])) := kf_at kf43 T_nd (by decide) tn0 (nmc (tne T_nd T_r9 (by decide)) nm0) F_nd
    have F_tb : h37 tb = some (.inr (3, [.ref v8])) := kf_at kf43 Tr0 (by decide) tn0 (nmc (tne Tr0 T_r9 (by decide)) nm0) F_tb
    have hnp_1 : knp τ 1 h h37 := knp_kf hnp_1 kf43 tn0 (List.forall_mem_cons.mpr ⟨(fun z => by have := z.symm.trans T_r9; simp at this), List.forall_mem_nil _⟩)
    have hkf : kf τ [(5, 1), (10, 1)] [r9] h h37 := kf_tr hkf kf43 (List.forall_mem_nil _) (List.forall_mem_cons.mpr ⟨Or.inl (by simp), List.forall_mem_nil _⟩)
    obtain ⟨wp44, F_r9⟩ := xp42
    refine lv_if_ne (tgt := 74) hx hb d_Re_hasPathTables_69 (by decide) (fun hc45 => ?_) (fun hc45 => ?_)
    · skip
      refine lv_iload_n hx hb d_Re_hasPathTables_74 rfl (lv_at hl 2 rfl) ?_
      refine lv_bipush (v := 16) hx hb d_Re_hasPathTables_75 (by decide) ?_
      refine lv_iadd hx hb d_Re_hasPathTables_77 ?_
      refine lv_sipush (v := 2048) hx hb d_Re_hasPathTables_78 (by decide) ?_
      refine lv_imul hx hb d_Re_hasPathTables_81 ?_
      refine lv_sipush (v := 132) hx hb d_Re_hasPathTables_82 (by decide) ?_
      refine lv_iadd hx hb d_Re_hasPathTables_85 ?_
      refine lv_topi (fun v46 e47 => ?_)
      have ip48 : -2147483648 ≤ ((b8 + 16) * 2048).toInt + 132 → ((b8 + 16) * 2048).toInt + 132 < 2147483648 → v46.toInt = ((b8 + 16) * 2048).toInt + 132 := fun h8 h9 => by rw [e47]; exact iAddK 132 rfl h8 h9
      refine lv_istore_n (lv' := [(3, .int v46), (2, .int r10), (0, .ref r9), (1, .int b8)]) hx hb d_Re_hasPathTables_86 rfl hl (by decide) rfl (fun ls hl => ?_)
      refine lv_aload_n hx hb d_Re_hasPathTables_87 rfl (lv_at hl 2 rfl) ?_
      refine hm_get (ci := 5) (v := .ref md) (C := R_Re) (T := F_Re) (N := 5) hx hb hts ig_Re hown hK hH F_r9 rfl 2 (by decide) (hts _ mw_329) (fun _ h9 => h9) rfl d_Re_hasPathTables_88 ?_
      refine lv_iload_n hx hb d_Re_hasPathTables_91 rfl (lv_at hl 0 rfl) ?_
      refine lv_iconst (v := 4) hx hb d_Re_hasPathTables_92 (by decide) ?_
      obtain ⟨v49, v51, F_md, c50⟩ := TI_med hT T_md
      refine hm_callPi (va_runV (As := [.int v46, .int 4]) (b := md) (rest := []) ⟨hx, hb, hml, hown, hts⟩ (t_low l D t G ak av h37 τ n md v46 4 hn hT T_md) ⟨cw9B 2 hts mw_44 mw_359 mw_32 rfl rfl (by decide +kernel) ⟨Nat.le_of_ble_eq_true rfl, Nat.le_of_ble_eq_true rfl⟩, hts _ mw_46, hts _ mw_47⟩ (hP_V (q := (R_Me, F_Me, 2)) kE_ok hE hK hH F_md rfl) rfl rfl hl.1 rfl (lv_room (Nat.le_of_ble_eq_true rfl)) d_Re_hasPathTables_93 ⟨Nat.le_of_ble_eq_true rfl, Nat.le_of_ble_eq_true rfl⟩) (fun r52 h53 H54 hp56  hH z55 => ?_)
      have hz : s.heap.size ≤ H54.size := Nat.le_trans hz z55
      obtain rfl := hp56
      refine lv_iload_n hx hb d_Re_hasPathTables_96 rfl (lv_at hl 1 rfl) ?_
      refine lv_icmp_eq (tgt := 108) hx hb d_Re_hasPathTables_97 (by decide) (fun hc58 => ?_) (fun hc58 => ?_)
      · skip
        have ic59 : r52.toInt = r10.toInt := congrArg Int32.toInt hc58
        refine lv_iconst (v := 1) hx hb d_Re_hasPathTables_108 (by decide) ?_
        refine lv_goto (tgt := 113) hx hb d_Re_hasPathTables_109 (by decide) ?_
        exact W.zret (v := 1) hx hb hr (by decide) (fun t9 ht hW => ⟨1, h37, rfl, ⟨zb1, hT, hkf, hnp_1, ⟨_, F_r9⟩⟩, by rw [ht]; exact hH, by rw [ht]; exact hz⟩) hLo d_Re_hasPathTables_113
      · skip
        refine lv_aload_n hx hb d_Re_hasPathTables_100 rfl (lv_at hl 2 rfl) ?_
        refine lv_iload_n hx hb d_Re_hasPathTables_101 rfl (lv_at hl 0 rfl) ?_
        refine hm_calli (va_runV (As := [.int v46]) (b := r9) (rest := []) ⟨hx, hb, hml, hown, hts⟩ (t_wrongAt l D t G ak av h37 τ n r9 v46 hn hT T_r9 tb td md nd wp44 F_r9) ⟨cw9B 1 hts mw_331 mw_333 mw_332 rfl rfl (by decide +kernel) ⟨Nat.le_of_ble_eq_true rfl, Nat.le_of_ble_eq_true rfl⟩, hts _ mw_334, hts _ mw_335⟩ (hP_V (q := (R_Re, F_Re, 5)) kE_ok hE hK hH F_r9 rfl) rfl rfl hl.1 rfl (lv_room (Nat.le_of_ble_eq_true rfl)) d_Re_hasPathTables_102 ⟨Nat.le_of_ble_eq_true rfl, Nat.le_of_ble_eq_true rfl⟩) hLo (fun r60 h61 H62 locs hp64 hH z63 hLo => ?_)
        have hz : s.heap.size ≤ H62.size := Nat.le_trans hz z63
        have hT0 := hT
        obtain ⟨c65, hT, kf67, xp66⟩ := hp64
        have F_nd : h61 nd = some (.inr (2, [.ref v1, .ref v3, .int v5, .int v7])) := kf_at kf67 T_nd (by decide) tn0 (nmc (tne T_nd T_r9 (by decide)) nm0) F_nd
        have F_tb : h61 tb = some (.inr (3, [.ref v8])) := kf_at kf67 Tr0 (by decide) tn0 (nmc (tne Tr0 T_r9 (by decide)) nm0) F_tb
        have F_md : h61 md = some (.inr (0, [.ref v49, .int v51])) := kf_at kf67 T_md (by decide) tn0 (nmc (tne T_md T_r9 (by decide)) nm0) F_md
        have hnp_1 : knp τ 1 h h61 := knp_kf hnp_1 kf67 tn0 (List.forall_mem_cons.mpr ⟨(fun z => by have := z.symm.trans T_r9; simp at this), List.forall_mem_nil _⟩)
        have hkf : kf τ [(5, 1), (10, 1)] [r9] h h61 := kf_tr hkf kf67 (List.forall_mem_nil _) (List.forall_mem_cons.mpr ⟨Or.inl (by simp), List.forall_mem_nil _⟩)
        obtain ⟨⟨wp68, F_r9⟩, rfl⟩ := xp66
        refine lv_if_eq (tgt := 112) hx hb d_Re_hasPathTables_105 (by decide) (fun hc69 => ?_) (fun hc69 => absurd hc69 (by decide))
        refine lv_iconst (v := 0) hx hb d_Re_hasPathTables_112 (by decide) ?_
        exact W.zret (v := 0) hx hb hr (by decide) (fun t9 ht hW => ⟨0, h61, rfl, ⟨zb0, hT, hkf, hnp_1, ⟨_, F_r9⟩⟩, by rw [ht]; exact hH, by rw [ht]; exact hz⟩) hLo d_Re_hasPathTables_113
    · skip
      have ic70 : r36.toInt = 0 := congrArg Int32.toInt hc45
      refine lv_iconst (v := 0) hx hb d_Re_hasPathTables_72 (by decide) ?_
      exact W.zret (v := 0) hx hb hr (by decide) (fun t9 ht hW => ⟨0, h37, rfl, ⟨zb0, hT, hkf, hnp_1, ⟨_, F_r9⟩⟩, by rw [ht]; exact hH, by rw [ht]; exact hz⟩) hLo d_Re_hasPathTables_73
  · skip
    have ic71 : r18.toInt = 0 := congrArg Int32.toInt hc27
    refine lv_iconst (v := 0) hx hb d_Re_hasPathTables_35 (by decide) ?_
    exact W.zret (v := 0) hx hb hr (by decide) (fun t9 ht hW => ⟨0, h19, rfl, ⟨zb0, hT, hkf, hnp_1, ⟨_, F_r9⟩⟩, by rw [ht]; exact hH, by rw [ht]; exact hz⟩) hLo d_Re_hasPathTables_36
