set_option maxRecDepth 100000 in
theorem mw_396 : Cond.code y_Me_high b_Me_high 5 (some .int) ∈ lw_g := lw_gin (List.mem_append_right _ (List.mem_of_getElem? (i := 666) rfl)) (by decide +kernel)
set_option maxRecDepth 100000 in
theorem mw_397 : Cond.methodLink R_Re 98 y_Me_high ∈ lw_g := lw_gin (List.mem_append_right _ (List.mem_of_getElem? (i := 663) rfl)) (by decide +kernel)
set_option maxRecDepth 100000 in
theorem mw_398 : Cond.instanceMethod y_Me_high ∈ lw_g := lw_gin (List.mem_append_right _ (List.mem_of_getElem? (i := 664) rfl)) (by decide +kernel)
set_option maxRecDepth 100000 in
theorem mw_399 : Cond.selects R_Me y_Me_high y_Me_high ∈ lw_g := lw_gin (List.mem_append_right _ (List.mem_of_getElem? (i := 665) rfl)) (by decide +kernel)
set_option maxRecDepth 100000 in
theorem mw_400 : Cond.methodLink R_Re 174 y_Pg_fillWithPathTable ∈ lw_g := lw_gin (List.mem_append_right _ (List.mem_of_getElem? (i := 719) rfl)) (by decide +kernel)
set_option maxRecDepth 100000 in
theorem mw_401 : Cond.code y_Re_hasTable b_Re_hasTable 5 (some .boolean) ∈ lw_g := lw_gin (List.mem_append_right _ (List.mem_of_getElem? (i := 723) rfl)) (by decide +kernel)
set_option maxRecDepth 100000 in
theorem mw_402 : Cond.methodLink R_Re 178 y_Re_hasTable ∈ lw_g := lw_gin (List.mem_append_right _ (List.mem_of_getElem? (i := 720) rfl)) (by decide +kernel)
set_option maxRecDepth 100000 in
theorem mw_403 : Cond.instanceMethod y_Re_hasTable ∈ lw_g := lw_gin (List.mem_append_right _ (List.mem_of_getElem? (i := 722) rfl)) (by decide +kernel)
set_option maxRecDepth 100000 in
theorem mw_404 : Cond.selects R_Re y_Re_hasTable y_Re_hasTable ∈ lw_g := lw_gin (List.mem_append_left _ (List.mem_of_getElem? (i := 24) rfl)) (by decide +kernel)
theorem d_Re_hasDescriptor_0 : decode b_Re_hasDescriptor 0 = .ok (.iload_n 1, 1) := by decide +kernel
theorem d_Re_hasDescriptor_1 : decode b_Re_hasDescriptor 1 = .ok (.bipush 16, 2) := by decide +kernel
theorem d_Re_hasDescriptor_3 : decode b_Re_hasDescriptor 3 = .ok (.iadd, 1) := by decide +kernel
theorem d_Re_hasDescriptor_4 : decode b_Re_hasDescriptor 4 = .ok (.sipush 2048, 3) := by decide +kernel
theorem d_Re_hasDescriptor_7 : decode b_Re_hasDescriptor 7 = .ok (.imul, 1) := by decide +kernel
theorem d_Re_hasDescriptor_8 : decode b_Re_hasDescriptor 8 = .ok (.istore_n 2, 1) := by decide +kernel
theorem d_Re_hasDescriptor_9 : decode b_Re_hasDescriptor 9 = .ok (.aload_n 0, 1) := by decide +kernel
theorem d_Re_hasDescriptor_10 : decode b_Re_hasDescriptor 10 = .ok (.getfield 27, 3) := by decide +kernel
theorem d_Re_hasDescriptor_13 : decode b_Re_hasDescriptor 13 = .ok (.iload_n 2, 1) := by decide +kernel
theorem d_Re_hasDescriptor_14 : decode b_Re_hasDescriptor 14 = .ok (.sipush 128, 3) := by decide +kernel
theorem d_Re_hasDescriptor_17 : decode b_Re_hasDescriptor 17 = .ok (.iadd, 1) := by decide +kernel
theorem d_Re_hasDescriptor_18 : decode b_Re_hasDescriptor 18 = .ok (.iconst 2, 1) := by decide +kernel
theorem d_Re_hasDescriptor_19 : decode b_Re_hasDescriptor 19 = .ok (.invokevirtual 91, 3) := by decide +kernel
theorem d_Re_hasDescriptor_22 : decode b_Re_hasDescriptor 22 = .ok (.sipush 2048, 3) := by decide +kernel
theorem d_Re_hasDescriptor_25 : decode b_Re_hasDescriptor 25 = .ok (.if_icmp .ne 19, 3) := by decide +kernel
theorem d_Re_hasDescriptor_44 : decode b_Re_hasDescriptor 44 = .ok (.aload_n 0, 1) := by decide +kernel
theorem d_Re_hasDescriptor_45 : decode b_Re_hasDescriptor 45 = .ok (.iload_n 2, 1) := by decide +kernel
theorem d_Re_hasDescriptor_46 : decode b_Re_hasDescriptor 46 = .ok (.sipush 128, 3) := by decide +kernel
theorem d_Re_hasDescriptor_49 : decode b_Re_hasDescriptor 49 = .ok (.iadd, 1) := by decide +kernel
theorem d_Re_hasDescriptor_50 : decode b_Re_hasDescriptor 50 = .ok (.invokevirtual 74, 3) := by decide +kernel
theorem d_Re_hasDescriptor_53 : decode b_Re_hasDescriptor 53 = .ok (.ireturn, 1) := by decide +kernel
theorem d_Re_hasDescriptor_28 : decode b_Re_hasDescriptor 28 = .ok (.aload_n 0, 1) := by decide +kernel
theorem d_Re_hasDescriptor_29 : decode b_Re_hasDescriptor 29 = .ok (.getfield 27, 3) := by decide +kernel
theorem d_Re_hasDescriptor_32 : decode b_Re_hasDescriptor 32 = .ok (.iload_n 2, 1) := by decide +kernel
theorem d_Re_hasDescriptor_33 : decode b_Re_hasDescriptor 33 = .ok (.sipush 128, 3) := by decide +kernel
theorem d_Re_hasDescriptor_36 : decode b_Re_hasDescriptor 36 = .ok (.iadd, 1) := by decide +kernel
theorem d_Re_hasDescriptor_37 : decode b_Re_hasDescriptor 37 = .ok (.iconst 2, 1) := by decide +kernel
theorem d_Re_hasDescriptor_38 : decode b_Re_hasDescriptor 38 = .ok (.invokevirtual 95, 3) := by decide +kernel
theorem d_Re_hasDescriptor_41 : decode b_Re_hasDescriptor 41 = .ok (.ifCond .ne 13, 3) := by decide +kernel
theorem d_Re_hasDescriptor_54 : decode b_Re_hasDescriptor 54 = .ok (.aload_n 0, 1) := by decide +kernel
theorem d_Re_hasDescriptor_55 : decode b_Re_hasDescriptor 55 = .ok (.getfield 27, 3) := by decide +kernel
theorem d_Re_hasDescriptor_58 : decode b_Re_hasDescriptor 58 = .ok (.iload_n 2, 1) := by decide +kernel
theorem d_Re_hasDescriptor_59 : decode b_Re_hasDescriptor 59 = .ok (.sipush 132, 3) := by decide +kernel
theorem d_Re_hasDescriptor_62 : decode b_Re_hasDescriptor 62 = .ok (.iadd, 1) := by decide +kernel
theorem d_Re_hasDescriptor_63 : decode b_Re_hasDescriptor 63 = .ok (.iconst 4, 1) := by decide +kernel
theorem d_Re_hasDescriptor_64 : decode b_Re_hasDescriptor 64 = .ok (.invokevirtual 91, 3) := by decide +kernel
theorem d_Re_hasDescriptor_67 : decode b_Re_hasDescriptor 67 = .ok (.istore_n 3, 1) := by decide +kernel
theorem d_Re_hasDescriptor_68 : decode b_Re_hasDescriptor 68 = .ok (.iload_n 3, 1) := by decide +kernel
theorem d_Re_hasDescriptor_69 : decode b_Re_hasDescriptor 69 = .ok (.ifCond .lt 26, 3) := by decide +kernel
theorem d_Re_hasDescriptor_95 : decode b_Re_hasDescriptor 95 = .ok (.aload_n 0, 1) := by decide +kernel
theorem d_Re_hasDescriptor_96 : decode b_Re_hasDescriptor 96 = .ok (.iload_n 2, 1) := by decide +kernel
theorem d_Re_hasDescriptor_97 : decode b_Re_hasDescriptor 97 = .ok (.sipush 132, 3) := by decide +kernel
theorem d_Re_hasDescriptor_100 : decode b_Re_hasDescriptor 100 = .ok (.iadd, 1) := by decide +kernel
theorem d_Re_hasDescriptor_101 : decode b_Re_hasDescriptor 101 = .ok (.invokevirtual 74, 3) := by decide +kernel
theorem d_Re_hasDescriptor_104 : decode b_Re_hasDescriptor 104 = .ok (.ireturn, 1) := by decide +kernel
theorem d_Re_hasDescriptor_72 : decode b_Re_hasDescriptor 72 = .ok (.iload_n 3, 1) := by decide +kernel
theorem d_Re_hasDescriptor_73 : decode b_Re_hasDescriptor 73 = .ok (.sipush 2048, 3) := by decide +kernel
theorem d_Re_hasDescriptor_76 : decode b_Re_hasDescriptor 76 = .ok (.if_icmp .gt 19, 3) := by decide +kernel
theorem d_Re_hasDescriptor_79 : decode b_Re_hasDescriptor 79 = .ok (.aload_n 0, 1) := by decide +kernel
theorem d_Re_hasDescriptor_80 : decode b_Re_hasDescriptor 80 = .ok (.getfield 27, 3) := by decide +kernel
theorem d_Re_hasDescriptor_83 : decode b_Re_hasDescriptor 83 = .ok (.iload_n 2, 1) := by decide +kernel
theorem d_Re_hasDescriptor_84 : decode b_Re_hasDescriptor 84 = .ok (.sipush 132, 3) := by decide +kernel
theorem d_Re_hasDescriptor_87 : decode b_Re_hasDescriptor 87 = .ok (.iadd, 1) := by decide +kernel
theorem d_Re_hasDescriptor_88 : decode b_Re_hasDescriptor 88 = .ok (.iconst 4, 1) := by decide +kernel
theorem d_Re_hasDescriptor_89 : decode b_Re_hasDescriptor 89 = .ok (.invokevirtual 95, 3) := by decide +kernel
theorem d_Re_hasDescriptor_92 : decode b_Re_hasDescriptor 92 = .ok (.ifCond .ne 13, 3) := by decide +kernel
theorem d_Re_hasDescriptor_105 : decode b_Re_hasDescriptor 105 = .ok (.aload_n 0, 1) := by decide +kernel
theorem d_Re_hasDescriptor_106 : decode b_Re_hasDescriptor 106 = .ok (.getfield 27, 3) := by decide +kernel
theorem d_Re_hasDescriptor_109 : decode b_Re_hasDescriptor 109 = .ok (.iload_n 2, 1) := by decide +kernel
theorem d_Re_hasDescriptor_110 : decode b_Re_hasDescriptor 110 = .ok (.sipush 140, 3) := by decide +kernel
theorem d_Re_hasDescriptor_113 : decode b_Re_hasDescriptor 113 = .ok (.iadd, 1) := by decide +kernel
theorem d_Re_hasDescriptor_114 : decode b_Re_hasDescriptor 114 = .ok (.iconst 4, 1) := by decide +kernel
theorem d_Re_hasDescriptor_115 : decode b_Re_hasDescriptor 115 = .ok (.invokevirtual 91, 3) := by decide +kernel
theorem d_Re_hasDescriptor_118 : decode b_Re_hasDescriptor 118 = .ok (.iload_n 1, 1) := by decide +kernel
theorem d_Re_hasDescriptor_119 : decode b_Re_hasDescriptor 119 = .ok (.bipush 18, 2) := by decide +kernel
theorem d_Re_hasDescriptor_121 : decode b_Re_hasDescriptor 121 = .ok (.iadd, 1) := by decide +kernel
theorem d_Re_hasDescriptor_122 : decode b_Re_hasDescriptor 122 = .ok (.if_icmp .eq 13, 3) := by decide +kernel
theorem d_Re_hasDescriptor_135 : decode b_Re_hasDescriptor 135 = .ok (.aload_n 0, 1) := by decide +kernel
theorem d_Re_hasDescriptor_136 : decode b_Re_hasDescriptor 136 = .ok (.getfield 27, 3) := by decide +kernel
theorem d_Re_hasDescriptor_139 : decode b_Re_hasDescriptor 139 = .ok (.iload_n 2, 1) := by decide +kernel
theorem d_Re_hasDescriptor_140 : decode b_Re_hasDescriptor 140 = .ok (.sipush 148, 3) := by decide +kernel
theorem d_Re_hasDescriptor_143 : decode b_Re_hasDescriptor 143 = .ok (.iadd, 1) := by decide +kernel
theorem d_Re_hasDescriptor_144 : decode b_Re_hasDescriptor 144 = .ok (.iconst 4, 1) := by decide +kernel
theorem d_Re_hasDescriptor_145 : decode b_Re_hasDescriptor 145 = .ok (.invokevirtual 98, 3) := by decide +kernel
theorem d_Re_hasDescriptor_148 : decode b_Re_hasDescriptor 148 = .ok (.iload_n 1, 1) := by decide +kernel
theorem d_Re_hasDescriptor_149 : decode b_Re_hasDescriptor 149 = .ok (.bipush 19, 2) := by decide +kernel
theorem d_Re_hasDescriptor_151 : decode b_Re_hasDescriptor 151 = .ok (.iadd, 1) := by decide +kernel
theorem d_Re_hasDescriptor_152 : decode b_Re_hasDescriptor 152 = .ok (.if_icmp .eq 13, 3) := by decide +kernel
theorem d_Re_hasDescriptor_165 : decode b_Re_hasDescriptor 165 = .ok (.aload_n 0, 1) := by decide +kernel
theorem d_Re_hasDescriptor_166 : decode b_Re_hasDescriptor 166 = .ok (.iload_n 2, 1) := by decide +kernel
theorem d_Re_hasDescriptor_167 : decode b_Re_hasDescriptor 167 = .ok (.sipush 156, 3) := by decide +kernel
theorem d_Re_hasDescriptor_170 : decode b_Re_hasDescriptor 170 = .ok (.iadd, 1) := by decide +kernel
theorem d_Re_hasDescriptor_171 : decode b_Re_hasDescriptor 171 = .ok (.aload_n 0, 1) := by decide +kernel
theorem d_Re_hasDescriptor_172 : decode b_Re_hasDescriptor 172 = .ok (.getfield 31, 3) := by decide +kernel
theorem d_Re_hasDescriptor_175 : decode b_Re_hasDescriptor 175 = .ok (.getfield 54, 3) := by decide +kernel
theorem d_Re_hasDescriptor_178 : decode b_Re_hasDescriptor 178 = .ok (.iconst 0, 1) := by decide +kernel
theorem d_Re_hasDescriptor_179 : decode b_Re_hasDescriptor 179 = .ok (.aaload, 1) := by decide +kernel
theorem d_Re_hasDescriptor_180 : decode b_Re_hasDescriptor 180 = .ok (.invokevirtual 101, 3) := by decide +kernel
theorem d_Re_hasDescriptor_183 : decode b_Re_hasDescriptor 183 = .ok (.ifCond .eq 16, 3) := by decide +kernel
theorem d_Re_hasDescriptor_199 : decode b_Re_hasDescriptor 199 = .ok (.aload_n 0, 1) := by decide +kernel
theorem d_Re_hasDescriptor_200 : decode b_Re_hasDescriptor 200 = .ok (.iload_n 2, 1) := by decide +kernel
theorem d_Re_hasDescriptor_201 : decode b_Re_hasDescriptor 201 = .ok (.sipush 156, 3) := by decide +kernel
theorem d_Re_hasDescriptor_204 : decode b_Re_hasDescriptor 204 = .ok (.iadd, 1) := by decide +kernel
theorem d_Re_hasDescriptor_205 : decode b_Re_hasDescriptor 205 = .ok (.invokevirtual 74, 3) := by decide +kernel
theorem d_Re_hasDescriptor_208 : decode b_Re_hasDescriptor 208 = .ok (.ifCond .eq 7, 3) := by decide +kernel
theorem d_Re_hasDescriptor_215 : decode b_Re_hasDescriptor 215 = .ok (.iconst 0, 1) := by decide +kernel
theorem d_Re_hasDescriptor_216 : decode b_Re_hasDescriptor 216 = .ok (.ireturn, 1) := by decide +kernel
theorem d_Re_hasDescriptor_186 : decode b_Re_hasDescriptor 186 = .ok (.aload_n 0, 1) := by decide +kernel
theorem d_Re_hasDescriptor_187 : decode b_Re_hasDescriptor 187 = .ok (.iload_n 2, 1) := by decide +kernel
theorem d_Re_hasDescriptor_188 : decode b_Re_hasDescriptor 188 = .ok (.sipush 156, 3) := by decide +kernel
theorem d_Re_hasDescriptor_191 : decode b_Re_hasDescriptor 191 = .ok (.iadd, 1) := by decide +kernel
theorem d_Re_hasDescriptor_192 : decode b_Re_hasDescriptor 192 = .ok (.iconst 0, 1) := by decide +kernel
theorem d_Re_hasDescriptor_193 : decode b_Re_hasDescriptor 193 = .ok (.invokevirtual 105, 3) := by decide +kernel
theorem d_Re_hasDescriptor_196 : decode b_Re_hasDescriptor 196 = .ok (.ifCond .ne 15, 3) := by decide +kernel
theorem d_Re_hasDescriptor_211 : decode b_Re_hasDescriptor 211 = .ok (.iconst 1, 1) := by decide +kernel
theorem d_Re_hasDescriptor_212 : decode b_Re_hasDescriptor 212 = .ok (.goto 4, 3) := by decide +kernel
theorem d_Re_hasDescriptor_155 : decode b_Re_hasDescriptor 155 = .ok (.aload_n 0, 1) := by decide +kernel
theorem d_Re_hasDescriptor_156 : decode b_Re_hasDescriptor 156 = .ok (.iload_n 2, 1) := by decide +kernel
theorem d_Re_hasDescriptor_157 : decode b_Re_hasDescriptor 157 = .ok (.sipush 148, 3) := by decide +kernel
theorem d_Re_hasDescriptor_160 : decode b_Re_hasDescriptor 160 = .ok (.iadd, 1) := by decide +kernel
theorem d_Re_hasDescriptor_161 : decode b_Re_hasDescriptor 161 = .ok (.invokevirtual 74, 3) := by decide +kernel
theorem d_Re_hasDescriptor_164 : decode b_Re_hasDescriptor 164 = .ok (.ireturn, 1) := by decide +kernel
theorem d_Re_hasDescriptor_125 : decode b_Re_hasDescriptor 125 = .ok (.aload_n 0, 1) := by decide +kernel
theorem d_Re_hasDescriptor_126 : decode b_Re_hasDescriptor 126 = .ok (.iload_n 2, 1) := by decide +kernel
theorem d_Re_hasDescriptor_127 : decode b_Re_hasDescriptor 127 = .ok (.sipush 140, 3) := by decide +kernel
theorem d_Re_hasDescriptor_130 : decode b_Re_hasDescriptor 130 = .ok (.iadd, 1) := by decide +kernel
theorem d_Re_hasDescriptor_131 : decode b_Re_hasDescriptor 131 = .ok (.invokevirtual 74, 3) := by decide +kernel
theorem d_Re_hasDescriptor_134 : decode b_Re_hasDescriptor 134 = .ok (.ireturn, 1) := by decide +kernel
theorem d_Re_hasPathTables_0 : decode b_Re_hasPathTables 0 = .ok (.aload_n 0, 1) := by decide +kernel
theorem d_Re_hasPathTables_1 : decode b_Re_hasPathTables 1 = .ok (.getfield 14, 3) := by decide +kernel
theorem d_Re_hasPathTables_4 : decode b_Re_hasPathTables 4 = .ok (.aload_n 0, 1) := by decide +kernel
theorem d_Re_hasPathTables_5 : decode b_Re_hasPathTables 5 = .ok (.getfield 31, 3) := by decide +kernel
theorem d_Re_hasPathTables_8 : decode b_Re_hasPathTables 8 = .ok (.getfield 54, 3) := by decide +kernel
theorem d_Re_hasPathTables_11 : decode b_Re_hasPathTables 11 = .ok (.aload_n 0, 1) := by decide +kernel
theorem d_Re_hasPathTables_12 : decode b_Re_hasPathTables 12 = .ok (.getfield 31, 3) := by decide +kernel
theorem d_Re_hasPathTables_15 : decode b_Re_hasPathTables 15 = .ok (.getfield 51, 3) := by decide +kernel
theorem d_Re_hasPathTables_18 : decode b_Re_hasPathTables 18 = .ok (.iconst 1, 1) := by decide +kernel
theorem d_Re_hasPathTables_19 : decode b_Re_hasPathTables 19 = .ok (.invokevirtual 174, 3) := by decide +kernel
theorem d_Re_hasPathTables_22 : decode b_Re_hasPathTables 22 = .ok (.istore_n 2, 1) := by decide +kernel
theorem d_Re_hasPathTables_23 : decode b_Re_hasPathTables 23 = .ok (.aload_n 0, 1) := by decide +kernel
theorem d_Re_hasPathTables_24 : decode b_Re_hasPathTables 24 = .ok (.iload_n 1, 1) := by decide +kernel
theorem d_Re_hasPathTables_25 : decode b_Re_hasPathTables 25 = .ok (.bipush 18, 2) := by decide +kernel
theorem d_Re_hasPathTables_27 : decode b_Re_hasPathTables 27 = .ok (.iadd, 1) := by decide +kernel
theorem d_Re_hasPathTables_28 : decode b_Re_hasPathTables 28 = .ok (.iload_n 2, 1) := by decide +kernel
theorem d_Re_hasPathTables_29 : decode b_Re_hasPathTables 29 = .ok (.invokevirtual 178, 3) := by decide +kernel
theorem d_Re_hasPathTables_32 : decode b_Re_hasPathTables 32 = .ok (.ifCond .ne 5, 3) := by decide +kernel
theorem d_Re_hasPathTables_37 : decode b_Re_hasPathTables 37 = .ok (.aload_n 0, 1) := by decide +kernel
theorem d_Re_hasPathTables_38 : decode b_Re_hasPathTables 38 = .ok (.getfield 14, 3) := by decide +kernel
theorem d_Re_hasPathTables_41 : decode b_Re_hasPathTables 41 = .ok (.aload_n 0, 1) := by decide +kernel
theorem d_Re_hasPathTables_42 : decode b_Re_hasPathTables 42 = .ok (.getfield 31, 3) := by decide +kernel
theorem d_Re_hasPathTables_45 : decode b_Re_hasPathTables 45 = .ok (.getfield 54, 3) := by decide +kernel
theorem d_Re_hasPathTables_48 : decode b_Re_hasPathTables 48 = .ok (.aload_n 0, 1) := by decide +kernel
theorem d_Re_hasPathTables_49 : decode b_Re_hasPathTables 49 = .ok (.getfield 31, 3) := by decide +kernel
theorem d_Re_hasPathTables_52 : decode b_Re_hasPathTables 52 = .ok (.getfield 51, 3) := by decide +kernel
theorem d_Re_hasPathTables_55 : decode b_Re_hasPathTables 55 = .ok (.iconst 0, 1) := by decide +kernel
theorem d_Re_hasPathTables_56 : decode b_Re_hasPathTables 56 = .ok (.invokevirtual 174, 3) := by decide +kernel
theorem d_Re_hasPathTables_59 : decode b_Re_hasPathTables 59 = .ok (.pop, 1) := by decide +kernel
theorem d_Re_hasPathTables_60 : decode b_Re_hasPathTables 60 = .ok (.aload_n 0, 1) := by decide +kernel
theorem d_Re_hasPathTables_61 : decode b_Re_hasPathTables 61 = .ok (.iload_n 1, 1) := by decide +kernel
theorem d_Re_hasPathTables_62 : decode b_Re_hasPathTables 62 = .ok (.bipush 19, 2) := by decide +kernel
theorem d_Re_hasPathTables_64 : decode b_Re_hasPathTables 64 = .ok (.iadd, 1) := by decide +kernel
theorem d_Re_hasPathTables_65 : decode b_Re_hasPathTables 65 = .ok (.iload_n 2, 1) := by decide +kernel
theorem d_Re_hasPathTables_66 : decode b_Re_hasPathTables 66 = .ok (.invokevirtual 178, 3) := by decide +kernel
theorem d_Re_hasPathTables_69 : decode b_Re_hasPathTables 69 = .ok (.ifCond .ne 5, 3) := by decide +kernel
theorem d_Re_hasPathTables_74 : decode b_Re_hasPathTables 74 = .ok (.iload_n 1, 1) := by decide +kernel
theorem d_Re_hasPathTables_75 : decode b_Re_hasPathTables 75 = .ok (.bipush 16, 2) := by decide +kernel
theorem d_Re_hasPathTables_77 : decode b_Re_hasPathTables 77 = .ok (.iadd, 1) := by decide +kernel
theorem d_Re_hasPathTables_78 : decode b_Re_hasPathTables 78 = .ok (.sipush 2048, 3) := by decide +kernel
theorem d_Re_hasPathTables_81 : decode b_Re_hasPathTables 81 = .ok (.imul, 1) := by decide +kernel
theorem d_Re_hasPathTables_82 : decode b_Re_hasPathTables 82 = .ok (.sipush 132, 3) := by decide +kernel
theorem d_Re_hasPathTables_85 : decode b_Re_hasPathTables 85 = .ok (.iadd, 1) := by decide +kernel
theorem d_Re_hasPathTables_86 : decode b_Re_hasPathTables 86 = .ok (.istore_n 3, 1) := by decide +kernel
theorem d_Re_hasPathTables_87 : decode b_Re_hasPathTables 87 = .ok (.aload_n 0, 1) := by decide +kernel
theorem d_Re_hasPathTables_88 : decode b_Re_hasPathTables 88 = .ok (.getfield 27, 3) := by decide +kernel
theorem d_Re_hasPathTables_91 : decode b_Re_hasPathTables 91 = .ok (.iload_n 3, 1) := by decide +kernel
theorem d_Re_hasPathTables_92 : decode b_Re_hasPathTables 92 = .ok (.iconst 4, 1) := by decide +kernel
theorem d_Re_hasPathTables_93 : decode b_Re_hasPathTables 93 = .ok (.invokevirtual 91, 3) := by decide +kernel
theorem d_Re_hasPathTables_96 : decode b_Re_hasPathTables 96 = .ok (.iload_n 2, 1) := by decide +kernel
theorem d_Re_hasPathTables_97 : decode b_Re_hasPathTables 97 = .ok (.if_icmp .eq 11, 3) := by decide +kernel
theorem d_Re_hasPathTables_108 : decode b_Re_hasPathTables 108 = .ok (.iconst 1, 1) := by decide +kernel
theorem d_Re_hasPathTables_109 : decode b_Re_hasPathTables 109 = .ok (.goto 4, 3) := by decide +kernel
theorem d_Re_hasPathTables_113 : decode b_Re_hasPathTables 113 = .ok (.ireturn, 1) := by decide +kernel
theorem d_Re_hasPathTables_100 : decode b_Re_hasPathTables 100 = .ok (.aload_n 0, 1) := by decide +kernel
theorem d_Re_hasPathTables_101 : decode b_Re_hasPathTables 101 = .ok (.iload_n 3, 1) := by decide +kernel
theorem d_Re_hasPathTables_102 : decode b_Re_hasPathTables 102 = .ok (.invokevirtual 74, 3) := by decide +kernel
theorem d_Re_hasPathTables_105 : decode b_Re_hasPathTables 105 = .ok (.ifCond .eq 7, 3) := by decide +kernel
theorem d_Re_hasPathTables_112 : decode b_Re_hasPathTables 112 = .ok (.iconst 0, 1) := by decide +kernel
theorem d_Re_hasPathTables_72 : decode b_Re_hasPathTables 72 = .ok (.iconst 0, 1) := by decide +kernel
theorem d_Re_hasPathTables_73 : decode b_Re_hasPathTables 73 = .ok (.ireturn, 1) := by decide +kernel
theorem d_Re_hasPathTables_35 : decode b_Re_hasPathTables 35 = .ok (.iconst 0, 1) := by decide +kernel
theorem d_Re_hasPathTables_36 : decode b_Re_hasPathTables 36 = .ok (.ireturn, 1) := by decide +kernel
set_option maxHeartbeats 4000000 in
set_option maxRecDepth 100000 in
theorem t_hasDesc (l : Launch) (D : va_G) (t : Nat → ClassId) (G : hG) (ak av : Nat → Nat) (h : hM) (τ : tM) (n : Nat) (r9 : Nat) (b8 : Int32) (tb td md nd : Nat) (wp : Int32) (s8 o8 : Nat) (sl8 : Nat → Option Nat) (hn : n ≤ 200) (hT : TI τ t n h) (T_r9 : τ r9 = (6, 0)) (F_r9 : h r9 = some (.inr (5, [.ref tb, .ref td, .ref md, .ref nd, .int wp]))) (hRN : RN t h nd s8 o8 sl8 1) : Met l y_Re_hasDescriptor (.code y_Re_hasDescriptor b_Re_hasDescriptor 4 (some .boolean) :: lw_g) { frames := 3, cells := 0, slots := 0, locals := 71 } (hP (kE D t G ak av) D vwCl G h [.ref r9, .int b8]) (hQi D vwCl G (fun r h' => zb r ∧ TI τ t n h' ∧ kf τ [(10, 1)] [r9] h h' ∧ ((∃ wp', h' r9 = some (.inr (5, [.ref tb, .ref td, .ref md, .ref nd, .int wp']))) ∧ RN t h' nd s8 o8 sl8 1 ∧ (r = 1 → RD t n h' nd s8 o8 sl8 1)))) 0 0 G.P := by
  refine Met.ofW (cc := b_Re_hasDescriptor) (maxL := 4) (ret := (some .boolean)) (by decide) rfl ?_
  intro p e s m args below meth c s₁ Bd hml hv
  obtain ⟨ha, hE, hH⟩ := hv
  have hx := Bd.exec
  have hb := Bd.bytes
  have hr := Bd.returns
  have hts : ∀ w ∈ lw_g, w.before args s = true := fun w hw => atoms_spec (ws := (.code y_Re_hasDescriptor b_Re_hasDescriptor 4 (some .boolean) :: lw_g)) Bd.pre w (List.mem_cons_of_mem _ hw)
  have hown : s.vm.findClass R_Re = some m.cls := findClass_of_methodNamed Bd.named
  have hlocks := Bd.notSynchronized
  have hK := hE.1
  have hH0 := hH
  have hLo : hLc G.P [] := hLc_nil
  have hz : s.heap.size ≤ s.heap.size := Nat.le_refl _
  have hl := lv_entry [.ref r9, .int b8] (n := 4) (Nat.le_of_ble_eq_true rfl)
  rw [show entryFrame m args 4 = F0 m 0 ((lg_sl [.ref r9, .int b8] ++ List.replicate (4 - (lg_sl [.ref r9, .int b8]).length) Slot.unset).toArray) [] from (by rw [ha]; exact lg_entry_eq m [.ref r9, .int b8] 4)]
  generalize (lg_sl [.ref r9, .int b8] ++ List.replicate (4 - (lg_sl [.ref r9, .int b8]).length) Slot.unset).toArray = ls at hl ⊢
  have hl : lv_has ls 4 [(0, .ref r9), (1, .int b8)] := hl
  have hkf : kf τ [(10, 1)] [r9] h h := kf_rf
  obtain ⟨Tr0, Tr1, Tr2, Tr3⟩ := TJ_rdr (v2 := some md) (v3 := some nd) hT T_r9 F_r9
  have T_md := Tr2 md rfl
  have T_nd := Tr3 nd rfl
  obtain ⟨⟨F_nd, F_s8⟩, hc1, hc30, hrd⟩ := id hRN
  have hcI : (nI 1).toInt = 1 := rfl
  obtain ⟨Tn0, Tn1, -⟩ := TJ_nds hT T_nd F_nd
  obtain ⟨Tn2, Tn3⟩ := TJ_slo hT Tn0 F_s8
  refine lv_iload_n hx hb d_Re_hasDescriptor_0 rfl (lv_at hl 1 rfl) ?_
  refine lv_bipush (v := 16) hx hb d_Re_hasDescriptor_1 (by decide) ?_
  refine lv_iadd hx hb d_Re_hasDescriptor_3 ?_
  refine lv_sipush (v := 2048) hx hb d_Re_hasDescriptor_4 (by decide) ?_
  refine lv_imul hx hb d_Re_hasDescriptor_7 ?_
  refine lv_topi (fun v_1 e_2 => ?_)
  refine lv_istore_n (lv' := [(2, .int v_1), (0, .ref r9), (1, .int b8)]) hx hb d_Re_hasDescriptor_8 rfl hl (by decide) rfl (fun ls hl => ?_)
  refine lv_aload_n hx hb d_Re_hasDescriptor_9 rfl (lv_at hl 1 rfl) ?_
  refine hm_get (ci := 5) (v := .ref md) (C := R_Re) (T := F_Re) (N := 5) hx hb hts ig_Re hown hK hH F_r9 rfl 2 (by decide) (hts _ mw_329) (fun _ h9 => h9) rfl d_Re_hasDescriptor_10 ?_
  refine lv_iload_n hx hb d_Re_hasDescriptor_13 rfl (lv_at hl 0 rfl) ?_
  refine lv_sipush (v := 128) hx hb d_Re_hasDescriptor_14 (by decide) ?_
  refine lv_iadd hx hb d_Re_hasDescriptor_17 ?_
  refine lv_iconst (v := 2) hx hb d_Re_hasDescriptor_18 (by decide) ?_
  obtain ⟨v_3, v_5, F_md, c_4⟩ := TI_med hT T_md
  refine hm_callPi (va_runV (As := [.int (v_1 + 128), .int 2]) (b := md) (rest := []) ⟨hx, hb, hml, hown, hts⟩ (t_low l D t G ak av h τ n md (v_1 + 128) 2  hn hT T_md) ⟨cw9B 2 hts mw_44 mw_359 mw_32 rfl rfl (by decide +kernel) ⟨Nat.le_of_ble_eq_true rfl, Nat.le_of_ble_eq_true rfl⟩, hts _ mw_46, hts _ mw_47⟩ (hP_V (q := (R_Me, F_Me, 2)) kE_ok hE hK hH F_md rfl) rfl rfl hl.1 rfl (lv_room (Nat.le_of_ble_eq_true rfl)) d_Re_hasDescriptor_19 ⟨Nat.le_of_ble_eq_true rfl, Nat.le_of_ble_eq_true rfl⟩) (fun r_6 h_7 H_8 hp_10  hH z_9 => ?_)
  have hz : s.heap.size ≤ H_8.size := Nat.le_trans hz z_9
  obtain rfl := hp_10
  refine lv_sipush (v := 2048) hx hb d_Re_hasDescriptor_22 (by decide) ?_
  refine lv_icmp_ne (tgt := 44) hx hb d_Re_hasDescriptor_25 (by decide) (fun hc_12 => ?_) (fun hc_12 => ?_)
  · skip
    refine lv_aload_n hx hb d_Re_hasDescriptor_44 rfl (lv_at hl 1 rfl) ?_
    refine lv_iload_n hx hb d_Re_hasDescriptor_45 rfl (lv_at hl 0 rfl) ?_
    refine lv_sipush (v := 128) hx hb d_Re_hasDescriptor_46 (by decide) ?_
    refine lv_iadd hx hb d_Re_hasDescriptor_49 ?_
    refine hm_calli (va_runV (As := [.int (v_1 + 128)]) (b := r9) (rest := []) ⟨hx, hb, hml, hown, hts⟩ (t_wrongAt l D t G ak av h τ n r9 (v_1 + 128) tb td md nd wp  hn hT T_r9  F_r9) ⟨cw9B 1 hts mw_331 mw_333 mw_332 rfl rfl (by decide +kernel) ⟨Nat.le_of_ble_eq_true rfl, Nat.le_of_ble_eq_true rfl⟩, hts _ mw_334, hts _ mw_335⟩ (hP_V (q := (R_Re, F_Re, 5)) kE_ok hE hK hH F_r9 rfl) rfl rfl hl.1 rfl (lv_room (Nat.le_of_ble_eq_true rfl)) d_Re_hasDescriptor_50 ⟨Nat.le_of_ble_eq_true rfl, Nat.le_of_ble_eq_true rfl⟩) hLo (fun r_13 h_14 H_15 locs hp_17 hH z_16 hLo => ?_)
    have hz : s.heap.size ≤ H_15.size := Nat.le_trans hz z_16
    have hT0 := hT
    obtain ⟨c_18, hT, kf_20, xp_19⟩ := hp_17
    have F_nd : h_14 nd = some (.inr (2, [.ref s8, .ref o8, .int (nI 1), .int (nI 1)])) := kf_at kf_20 T_nd (by decide) tn0 (nmc (tne T_nd T_r9 (by decide)) nm0) F_nd
    have F_s8 : h_14 s8 = some (.inl ((t 4), 30, .inr (.inr (.inr (.inr sl8))))) := kf_at kf_20 Tn0 (by decide) tn0 (nmc (tne Tn0 T_r9 (by decide)) nm0) F_s8
    have F_md : h_14 md = some (.inr (0, [.ref v_3, .int v_5])) := kf_at kf_20 T_md (by decide) tn0 (nmc (tne T_md T_r9 (by decide)) nm0) F_md
    have hkf : kf τ [(10, 1)] [r9] h h_14 := kf_tr hkf kf_20 (List.forall_mem_nil _) (List.forall_mem_cons.mpr ⟨Or.inl (by simp), List.forall_mem_nil _⟩)
    obtain ⟨⟨wp_21, F_r9⟩, rfl⟩ := xp_19
    have hRN : RN t h_14 nd s8 o8 sl8 1 := RN_kf hT0 T_nd hRN kf_20 (by simp) (by simp) (List.forall_mem_cons.mpr ⟨⟨(fun z => by have := z.symm.trans T_r9; simp at this), (fun z => by have := z.symm.trans T_r9; simp at this)⟩, List.forall_mem_nil _⟩) (knp_kf knp_rf kf_20 (by simp) (List.forall_mem_cons.mpr ⟨(fun z => by have := z.symm.trans T_r9; simp at this), List.forall_mem_nil _⟩))
    exact W.zret (v := 0) hx hb hr (by decide) (fun t9 ht hW => ⟨0, h_14, rfl, ⟨zb0, hT, hkf, ⟨⟨_, F_r9⟩, hRN, fun z => absurd z (by decide)⟩⟩, by rw [ht]; exact hH, by rw [ht]; exact hz⟩) hLo d_Re_hasDescriptor_53
  · skip
    have ic_22 : r_6.toInt = 2048 := congrArg Int32.toInt hc_12
    refine lv_aload_n hx hb d_Re_hasDescriptor_28 rfl (lv_at hl 1 rfl) ?_
    refine hm_get (ci := 5) (v := .ref md) (C := R_Re) (T := F_Re) (N := 5) hx hb hts ig_Re hown hK hH F_r9 rfl 2 (by decide) (hts _ mw_329) (fun _ h9 => h9) rfl d_Re_hasDescriptor_29 ?_
    refine lv_iload_n hx hb d_Re_hasDescriptor_32 rfl (lv_at hl 0 rfl) ?_
    refine lv_sipush (v := 128) hx hb d_Re_hasDescriptor_33 (by decide) ?_
    refine lv_iadd hx hb d_Re_hasDescriptor_36 ?_
    refine lv_iconst (v := 2) hx hb d_Re_hasDescriptor_37 (by decide) ?_
    refine hm_callPi (va_runV (As := [.int (v_1 + 128), .int 2]) (b := md) (rest := []) ⟨hx, hb, hml, hown, hts⟩ (t_halves l D t G ak av h τ n md (v_1 + 128) 2  hn hT T_md) ⟨cw9B 2 hts mw_355 mw_356 mw_32 rfl rfl (by decide +kernel) ⟨Nat.le_of_ble_eq_true rfl, Nat.le_of_ble_eq_true rfl⟩, hts _ mw_357, hts _ mw_358⟩ (hP_V (q := (R_Me, F_Me, 2)) kE_ok hE hK hH F_md rfl) rfl rfl hl.1 rfl (lv_room (Nat.le_of_ble_eq_true rfl)) d_Re_hasDescriptor_38 ⟨Nat.le_of_ble_eq_true rfl, Nat.le_of_ble_eq_true rfl⟩) (fun r_23 h_24 H_25 hp_27  hH z_26 => ?_)
    have hz : s.heap.size ≤ H_25.size := Nat.le_trans hz z_26
    obtain ⟨c_28, rfl⟩ := hp_27
    refine lv_if_ne (tgt := 54) hx hb d_Re_hasDescriptor_41 (by decide) (fun hc_30 => ?_) (fun hc_30 => ?_)
    · skip
      refine lv_aload_n hx hb d_Re_hasDescriptor_54 rfl (lv_at hl 1 rfl) ?_
      refine hm_get (ci := 5) (v := .ref md) (C := R_Re) (T := F_Re) (N := 5) hx hb hts ig_Re hown hK hH F_r9 rfl 2 (by decide) (hts _ mw_329) (fun _ h9 => h9) rfl d_Re_hasDescriptor_55 ?_
      refine lv_iload_n hx hb d_Re_hasDescriptor_58 rfl (lv_at hl 0 rfl) ?_
      refine lv_sipush (v := 132) hx hb d_Re_hasDescriptor_59 (by decide) ?_
      refine lv_iadd hx hb d_Re_hasDescriptor_62 ?_
      refine lv_iconst (v := 4) hx hb d_Re_hasDescriptor_63 (by decide) ?_
      refine hm_callPi (va_runV (As := [.int (v_1 + 132), .int 4]) (b := md) (rest := []) ⟨hx, hb, hml, hown, hts⟩ (t_low l D t G ak av h τ n md (v_1 + 132) 4  hn hT T_md) ⟨cw9B 2 hts mw_44 mw_359 mw_32 rfl rfl (by decide +kernel) ⟨Nat.le_of_ble_eq_true rfl, Nat.le_of_ble_eq_true rfl⟩, hts _ mw_46, hts _ mw_47⟩ (hP_V (q := (R_Me, F_Me, 2)) kE_ok hE hK hH F_md rfl) rfl rfl hl.1 rfl (lv_room (Nat.le_of_ble_eq_true rfl)) d_Re_hasDescriptor_64 ⟨Nat.le_of_ble_eq_true rfl, Nat.le_of_ble_eq_true rfl⟩) (fun r_31 h_32 H_33 hp_35  hH z_34 => ?_)
      have hz : s.heap.size ≤ H_33.size := Nat.le_trans hz z_34
      obtain rfl := hp_35
      refine lv_istore_n (lv' := [(3, .int r_31), (2, .int v_1), (0, .ref r9), (1, .int b8)]) hx hb d_Re_hasDescriptor_67 rfl hl (by decide) rfl (fun ls hl => ?_)
      refine lv_iload_n hx hb d_Re_hasDescriptor_68 rfl (lv_at hl 0 rfl) ?_
      refine lv_if_lt (tgt := 95) hx hb d_Re_hasDescriptor_69 (by decide) (fun hc_37 => ?_) (fun hc_37 => ?_)
      · skip
        have ic_38 : r_31.toInt < 0 := iLt hc_37
        refine lv_aload_n hx hb d_Re_hasDescriptor_95 rfl (lv_at hl 2 rfl) ?_
        refine lv_iload_n hx hb d_Re_hasDescriptor_96 rfl (lv_at hl 1 rfl) ?_
        refine lv_sipush (v := 132) hx hb d_Re_hasDescriptor_97 (by decide) ?_
        refine lv_iadd hx hb d_Re_hasDescriptor_100 ?_
        refine hm_calli (va_runV (As := [.int (v_1 + 132)]) (b := r9) (rest := []) ⟨hx, hb, hml, hown, hts⟩ (t_wrongAt l D t G ak av h τ n r9 (v_1 + 132) tb td md nd wp  hn hT T_r9  F_r9) ⟨cw9B 1 hts mw_331 mw_333 mw_332 rfl rfl (by decide +kernel) ⟨Nat.le_of_ble_eq_true rfl, Nat.le_of_ble_eq_true rfl⟩, hts _ mw_334, hts _ mw_335⟩ (hP_V (q := (R_Re, F_Re, 5)) kE_ok hE hK hH F_r9 rfl) rfl rfl hl.1 rfl (lv_room (Nat.le_of_ble_eq_true rfl)) d_Re_hasDescriptor_101 ⟨Nat.le_of_ble_eq_true rfl, Nat.le_of_ble_eq_true rfl⟩) hLo (fun r_39 h_40 H_41 locs hp_43 hH z_42 hLo => ?_)
        have hz : s.heap.size ≤ H_41.size := Nat.le_trans hz z_42
        have hT0 := hT
        obtain ⟨c_44, hT, kf_46, xp_45⟩ := hp_43
        have F_nd : h_40 nd = some (.inr (2, [.ref s8, .ref o8, .int (nI 1), .int (nI 1)])) := kf_at kf_46 T_nd (by decide) tn0 (nmc (tne T_nd T_r9 (by decide)) nm0) F_nd
        have F_s8 : h_40 s8 = some (.inl ((t 4), 30, .inr (.inr (.inr (.inr sl8))))) := kf_at kf_46 Tn0 (by decide) tn0 (nmc (tne Tn0 T_r9 (by decide)) nm0) F_s8
        have F_md : h_40 md = some (.inr (0, [.ref v_3, .int v_5])) := kf_at kf_46 T_md (by decide) tn0 (nmc (tne T_md T_r9 (by decide)) nm0) F_md
        have hkf : kf τ [(10, 1)] [r9] h h_40 := kf_tr hkf kf_46 (List.forall_mem_nil _) (List.forall_mem_cons.mpr ⟨Or.inl (by simp), List.forall_mem_nil _⟩)
        obtain ⟨⟨wp_47, F_r9⟩, rfl⟩ := xp_45
        have hRN : RN t h_40 nd s8 o8 sl8 1 := RN_kf hT0 T_nd hRN kf_46 (by simp) (by simp) (List.forall_mem_cons.mpr ⟨⟨(fun z => by have := z.symm.trans T_r9; simp at this), (fun z => by have := z.symm.trans T_r9; simp at this)⟩, List.forall_mem_nil _⟩) (knp_kf knp_rf kf_46 (by simp) (List.forall_mem_cons.mpr ⟨(fun z => by have := z.symm.trans T_r9; simp at this), List.forall_mem_nil _⟩))
        exact W.zret (v := 0) hx hb hr (by decide) (fun t9 ht hW => ⟨0, h_40, rfl, ⟨zb0, hT, hkf, ⟨⟨_, F_r9⟩, hRN, fun z => absurd z (by decide)⟩⟩, by rw [ht]; exact hH, by rw [ht]; exact hz⟩) hLo d_Re_hasDescriptor_104
      · skip
        have ic_48 : 0 ≤ r_31.toInt := iNl hc_37
        refine lv_iload_n hx hb d_Re_hasDescriptor_72 rfl (lv_at hl 0 rfl) ?_
        refine lv_sipush (v := 2048) hx hb d_Re_hasDescriptor_73 (by decide) ?_
        refine lv_icmp_gt (tgt := 95) hx hb d_Re_hasDescriptor_76 (by decide) (fun hc_49 => ?_) (fun hc_49 => ?_)
        · skip
          have ic_50 : 2048 < r_31.toInt := iLt hc_49
          have iu_51 : r_31.toInt < 2147483648 := iUp _
          refine lv_aload_n hx hb d_Re_hasDescriptor_95 rfl (lv_at hl 2 rfl) ?_
          refine lv_iload_n hx hb d_Re_hasDescriptor_96 rfl (lv_at hl 1 rfl) ?_
          refine lv_sipush (v := 132) hx hb d_Re_hasDescriptor_97 (by decide) ?_
          refine lv_iadd hx hb d_Re_hasDescriptor_100 ?_
          refine hm_calli (va_runV (As := [.int (v_1 + 132)]) (b := r9) (rest := []) ⟨hx, hb, hml, hown, hts⟩ (t_wrongAt l D t G ak av h τ n r9 (v_1 + 132) tb td md nd wp  hn hT T_r9  F_r9) ⟨cw9B 1 hts mw_331 mw_333 mw_332 rfl rfl (by decide +kernel) ⟨Nat.le_of_ble_eq_true rfl, Nat.le_of_ble_eq_true rfl⟩, hts _ mw_334, hts _ mw_335⟩ (hP_V (q := (R_Re, F_Re, 5)) kE_ok hE hK hH F_r9 rfl) rfl rfl hl.1 rfl (lv_room (Nat.le_of_ble_eq_true rfl)) d_Re_hasDescriptor_101 ⟨Nat.le_of_ble_eq_true rfl, Nat.le_of_ble_eq_true rfl⟩) hLo (fun r_52 h_53 H_54 locs hp_56 hH z_55 hLo => ?_)
          have hz : s.heap.size ≤ H_54.size := Nat.le_trans hz z_55
          have hT0 := hT
          obtain ⟨c_57, hT, kf_59, xp_58⟩ := hp_56
          have F_nd : h_53 nd = some (.inr (2, [.ref s8, .ref o8, .int (nI 1), .int (nI 1)])) := kf_at kf_59 T_nd (by decide) tn0 (nmc (tne T_nd T_r9 (by decide)) nm0) F_nd
          have F_s8 : h_53 s8 = some (.inl ((t 4), 30, .inr (.inr (.inr (.inr sl8))))) := kf_at kf_59 Tn0 (by decide) tn0 (nmc (tne Tn0 T_r9 (by decide)) nm0) F_s8
          have F_md : h_53 md = some (.inr (0, [.ref v_3, .int v_5])) := kf_at kf_59 T_md (by decide) tn0 (nmc (tne T_md T_r9 (by decide)) nm0) F_md
          have hkf : kf τ [(10, 1)] [r9] h h_53 := kf_tr hkf kf_59 (List.forall_mem_nil _) (List.forall_mem_cons.mpr ⟨Or.inl (by simp), List.forall_mem_nil _⟩)
          obtain ⟨⟨wp_60, F_r9⟩, rfl⟩ := xp_58
          have hRN : RN t h_53 nd s8 o8 sl8 1 := RN_kf hT0 T_nd hRN kf_59 (by simp) (by simp) (List.forall_mem_cons.mpr ⟨⟨(fun z => by have := z.symm.trans T_r9; simp at this), (fun z => by have := z.symm.trans T_r9; simp at this)⟩, List.forall_mem_nil _⟩) (knp_kf knp_rf kf_59 (by simp) (List.forall_mem_cons.mpr ⟨(fun z => by have := z.symm.trans T_r9; simp at this), List.forall_mem_nil _⟩))
          exact W.zret (v := 0) hx hb hr (by decide) (fun t9 ht hW => ⟨0, h_53, rfl, ⟨zb0, hT, hkf, ⟨⟨_, F_r9⟩, hRN, fun z => absurd z (by decide)⟩⟩, by rw [ht]; exact hH, by rw [ht]; exact hz⟩) hLo d_Re_hasDescriptor_104
        · skip
          have ic_61 : r_31.toInt ≤ 2048 := iNl hc_49
          refine lv_aload_n hx hb d_Re_hasDescriptor_79 rfl (lv_at hl 2 rfl) ?_
          refine hm_get (ci := 5) (v := .ref md) (C := R_Re) (T := F_Re) (N := 5) hx hb hts ig_Re hown hK hH F_r9 rfl 2 (by decide) (hts _ mw_329) (fun _ h9 => h9) rfl d_Re_hasDescriptor_80 ?_
          refine lv_iload_n hx hb d_Re_hasDescriptor_83 rfl (lv_at hl 1 rfl) ?_
          refine lv_sipush (v := 132) hx hb d_Re_hasDescriptor_84 (by decide) ?_
          refine lv_iadd hx hb d_Re_hasDescriptor_87 ?_
          refine lv_iconst (v := 4) hx hb d_Re_hasDescriptor_88 (by decide) ?_
          refine hm_callPi (va_runV (As := [.int (v_1 + 132), .int 4]) (b := md) (rest := []) ⟨hx, hb, hml, hown, hts⟩ (t_halves l D t G ak av h τ n md (v_1 + 132) 4  hn hT T_md) ⟨cw9B 2 hts mw_355 mw_356 mw_32 rfl rfl (by decide +kernel) ⟨Nat.le_of_ble_eq_true rfl, Nat.le_of_ble_eq_true rfl⟩, hts _ mw_357, hts _ mw_358⟩ (hP_V (q := (R_Me, F_Me, 2)) kE_ok hE hK hH F_md rfl) rfl rfl hl.1 rfl (lv_room (Nat.le_of_ble_eq_true rfl)) d_Re_hasDescriptor_89 ⟨Nat.le_of_ble_eq_true rfl, Nat.le_of_ble_eq_true rfl⟩) (fun r_62 h_63 H_64 hp_66  hH z_65 => ?_)
          have hz : s.heap.size ≤ H_64.size := Nat.le_trans hz z_65
          obtain ⟨c_67, rfl⟩ := hp_66
          refine lv_if_ne (tgt := 105) hx hb d_Re_hasDescriptor_92 (by decide) (fun hc_69 => ?_) (fun hc_69 => ?_)
          · skip
            refine lv_aload_n hx hb d_Re_hasDescriptor_105 rfl (lv_at hl 2 rfl) ?_
            refine hm_get (ci := 5) (v := .ref md) (C := R_Re) (T := F_Re) (N := 5) hx hb hts ig_Re hown hK hH F_r9 rfl 2 (by decide) (hts _ mw_329) (fun _ h9 => h9) rfl d_Re_hasDescriptor_106 ?_
            refine lv_iload_n hx hb d_Re_hasDescriptor_109 rfl (lv_at hl 1 rfl) ?_
            refine lv_sipush (v := 140) hx hb d_Re_hasDescriptor_110 (by decide) ?_
            refine lv_iadd hx hb d_Re_hasDescriptor_113 ?_
            refine lv_iconst (v := 4) hx hb d_Re_hasDescriptor_114 (by decide) ?_
            refine hm_callPi (va_runV (As := [.int (v_1 + 140), .int 4]) (b := md) (rest := []) ⟨hx, hb, hml, hown, hts⟩ (t_low l D t G ak av h τ n md (v_1 + 140) 4  hn hT T_md) ⟨cw9B 2 hts mw_44 mw_359 mw_32 rfl rfl (by decide +kernel) ⟨Nat.le_of_ble_eq_true rfl, Nat.le_of_ble_eq_true rfl⟩, hts _ mw_46, hts _ mw_47⟩ (hP_V (q := (R_Me, F_Me, 2)) kE_ok hE hK hH F_md rfl) rfl rfl hl.1 rfl (lv_room (Nat.le_of_ble_eq_true rfl)) d_Re_hasDescriptor_115 ⟨Nat.le_of_ble_eq_true rfl, Nat.le_of_ble_eq_true rfl⟩) (fun r_70 h_71 H_72 hp_74  hH z_73 => ?_)
            have hz : s.heap.size ≤ H_72.size := Nat.le_trans hz z_73
            obtain rfl := hp_74
            refine lv_iload_n hx hb d_Re_hasDescriptor_118 rfl (lv_at hl 3 rfl) ?_
            refine lv_bipush (v := 18) hx hb d_Re_hasDescriptor_119 (by decide) ?_
            refine lv_iadd hx hb d_Re_hasDescriptor_121 ?_
            refine lv_icmp_eq (tgt := 135) hx hb d_Re_hasDescriptor_122 (by decide) (fun hc_76 => ?_) (fun hc_76 => ?_)
            · skip
              refine lv_aload_n hx hb d_Re_hasDescriptor_135 rfl (lv_at hl 2 rfl) ?_
              refine hm_get (ci := 5) (v := .ref md) (C := R_Re) (T := F_Re) (N := 5) hx hb hts ig_Re hown hK hH F_r9 rfl 2 (by decide) (hts _ mw_329) (fun _ h9 => h9) rfl d_Re_hasDescriptor_136 ?_
              refine lv_iload_n hx hb d_Re_hasDescriptor_139 rfl (lv_at hl 1 rfl) ?_
              refine lv_sipush (v := 148) hx hb d_Re_hasDescriptor_140 (by decide) ?_
              refine lv_iadd hx hb d_Re_hasDescriptor_143 ?_
              refine lv_iconst (v := 4) hx hb d_Re_hasDescriptor_144 (by decide) ?_
              refine hm_callPi (va_runV (As := [.int (v_1 + 148), .int 4]) (b := md) (rest := []) ⟨hx, hb, hml, hown, hts⟩ (t_high l D t G ak av h τ n md (v_1 + 148) 4  hn hT T_md) ⟨cw9B 2 hts mw_396 mw_397 mw_32 rfl rfl (by decide +kernel) ⟨Nat.le_of_ble_eq_true rfl, Nat.le_of_ble_eq_true rfl⟩, hts _ mw_398, hts _ mw_399⟩ (hP_V (q := (R_Me, F_Me, 2)) kE_ok hE hK hH F_md rfl) rfl rfl hl.1 rfl (lv_room (Nat.le_of_ble_eq_true rfl)) d_Re_hasDescriptor_145 ⟨Nat.le_of_ble_eq_true rfl, Nat.le_of_ble_eq_true rfl⟩) (fun r_77 h_78 H_79 hp_81  hH z_80 => ?_)
              have hz : s.heap.size ≤ H_79.size := Nat.le_trans hz z_80
              obtain rfl := hp_81
              refine lv_iload_n hx hb d_Re_hasDescriptor_148 rfl (lv_at hl 3 rfl) ?_
              refine lv_bipush (v := 19) hx hb d_Re_hasDescriptor_149 (by decide) ?_
              refine lv_iadd hx hb d_Re_hasDescriptor_151 ?_
              refine lv_icmp_eq (tgt := 165) hx hb d_Re_hasDescriptor_152 (by decide) (fun hc_83 => ?_) (fun hc_83 => ?_)
              · skip
                refine lv_aload_n hx hb d_Re_hasDescriptor_165 rfl (lv_at hl 2 rfl) ?_
                refine lv_iload_n hx hb d_Re_hasDescriptor_166 rfl (lv_at hl 1 rfl) ?_
                refine lv_sipush (v := 156) hx hb d_Re_hasDescriptor_167 (by decide) ?_
                refine lv_iadd hx hb d_Re_hasDescriptor_170 ?_
                refine lv_aload_n hx hb d_Re_hasDescriptor_171 rfl (lv_at hl 2 rfl) ?_
                refine hm_get (ci := 5) (v := .ref nd) (C := R_Re) (T := F_Re) (N := 5) hx hb hts ig_Re hown hK hH F_r9 rfl 3 (by decide) (hts _ mw_342) (fun _ h9 => h9) rfl d_Re_hasDescriptor_172 ?_
                refine hm_get (ci := 2) (v := .ref s8) (C := R_Ns) (T := F_Ns) (N := 4) hx hb hts ig_Ns hown hK hH F_nd rfl 0 (by decide) (hts _ mw_344) (fun _ h9 => h9) rfl d_Re_hasDescriptor_175 ?_
                refine lv_iconst (v := 0) hx hb d_Re_hasDescriptor_178 (by decide) ?_
                obtain ⟨a_84, e_85, T_86⟩ := Tn2 ((0 : Int32).toNatClampNeg) (by decide)
                refine hm_aald (v := .ref a_84) hx hb hK hH 4 F_s8 (C := R_No) rfl (iIn (by decide) (by decide)) (by rw [e_85]; rfl) d_Re_hasDescriptor_179 ?_
                refine hm_calli (va_runV (As := [.int (v_1 + 156), .ref a_84]) (b := r9) (rest := []) ⟨hx, hb, hml, hown, hts⟩ (t_takesRec l D t G ak av h τ n 1 r9 (v_1 + 156) a_84 tb td md nd wp  hn hT T_r9 T_86  F_r9) ⟨cw9B 2 hts mw_367 mw_368 mw_332 rfl rfl (by decide +kernel) ⟨Nat.le_of_ble_eq_true rfl, Nat.le_of_ble_eq_true rfl⟩, hts _ mw_369, hts _ mw_370⟩ (hP_V (q := (R_Re, F_Re, 5)) kE_ok hE hK hH F_r9 rfl) rfl rfl hl.1 rfl (lv_room (Nat.le_of_ble_eq_true rfl)) d_Re_hasDescriptor_180 ⟨Nat.le_of_ble_eq_true rfl, Nat.le_of_ble_eq_true rfl⟩) hLo (fun r_87 h_88 H_89 locs hp_91 hH z_90 hLo => ?_)
                have hz : s.heap.size ≤ H_89.size := Nat.le_trans hz z_90
                have hT0 := hT
                obtain ⟨c_92, hT, kf_94, xk_95, xp_93⟩ := hp_91
                have F_r9 : h_88 r9 = some (.inr (5, [.ref tb, .ref td, .ref md, .ref nd, .int wp])) := kf_at kf_94 T_r9 (by decide) tn0 (nmc (tne T_r9 T_86 (by decide)) nm0) F_r9
                have F_nd : h_88 nd = some (.inr (2, [.ref s8, .ref o8, .int (nI 1), .int (nI 1)])) := kf_at kf_94 T_nd (by decide) tn0 (nmc (tne T_nd T_86 (by decide)) nm0) F_nd
                have F_s8 : h_88 s8 = some (.inl ((t 4), 30, .inr (.inr (.inr (.inr sl8))))) := kf_at kf_94 Tn0 (by decide) tn0 (nmc (tne Tn0 T_86 (by decide)) nm0) F_s8
                have F_md : h_88 md = some (.inr (0, [.ref v_3, .int v_5])) := kf_at kf_94 T_md (by decide) tn0 (nmc (tne T_md T_86 (by decide)) nm0) F_md
                have hkf : kf τ [(10, 1)] [r9] h h_88 := kf_tr hkf kf_94 (List.forall_mem_nil _) (List.forall_mem_cons.mpr ⟨Or.inr (by rw [T_86]; exact List.mem_cons_self), List.forall_mem_nil _⟩)
                have hRN : RN t h_88 nd s8 o8 sl8 1 := RN_kf hT0 T_nd hRN kf_94 (by simp) (by simp) (List.forall_mem_cons.mpr ⟨⟨(fun z => by have := z.symm.trans T_86; simp at this), (fun z => by have := z.symm.trans T_86; simp at this)⟩, List.forall_mem_nil _⟩) xk_95
                rcases c_92 with rfl | rfl
                · skip
                  refine lv_if_eq (tgt := 199) hx hb d_Re_hasDescriptor_183 (by decide) (fun hc_96 => ?_) (fun hc_96 => absurd hc_96 (by decide))
                  refine lv_aload_n hx hb d_Re_hasDescriptor_199 rfl (lv_at hl 2 rfl) ?_
                  refine lv_iload_n hx hb d_Re_hasDescriptor_200 rfl (lv_at hl 1 rfl) ?_
                  refine lv_sipush (v := 156) hx hb d_Re_hasDescriptor_201 (by decide) ?_
                  refine lv_iadd hx hb d_Re_hasDescriptor_204 ?_
                  refine hm_calli (va_runV (As := [.int (v_1 + 156)]) (b := r9) (rest := []) ⟨hx, hb, hml, hown, hts⟩ (t_wrongAt l D t G ak av h_88 τ n r9 (v_1 + 156) tb td md nd wp  hn hT T_r9  F_r9) ⟨cw9B 1 hts mw_331 mw_333 mw_332 rfl rfl (by decide +kernel) ⟨Nat.le_of_ble_eq_true rfl, Nat.le_of_ble_eq_true rfl⟩, hts _ mw_334, hts _ mw_335⟩ (hP_V (q := (R_Re, F_Re, 5)) kE_ok hE hK hH F_r9 rfl) rfl rfl hl.1 rfl (lv_room (Nat.le_of_ble_eq_true rfl)) d_Re_hasDescriptor_205 ⟨Nat.le_of_ble_eq_true rfl, Nat.le_of_ble_eq_true rfl⟩) hLo (fun r_97 h_98 H_99 locs hp_101 hH z_100 hLo => ?_)
                  have hz : s.heap.size ≤ H_99.size := Nat.le_trans hz z_100
                  have hT0 := hT
                  obtain ⟨c_102, hT, kf_104, xp_103⟩ := hp_101
                  have F_nd : h_98 nd = some (.inr (2, [.ref s8, .ref o8, .int (nI 1), .int (nI 1)])) := kf_at kf_104 T_nd (by decide) tn0 (nmc (tne T_nd T_r9 (by decide)) nm0) F_nd
                  have F_s8 : h_98 s8 = some (.inl ((t 4), 30, .inr (.inr (.inr (.inr sl8))))) := kf_at kf_104 Tn0 (by decide) tn0 (nmc (tne Tn0 T_r9 (by decide)) nm0) F_s8
                  have F_md : h_98 md = some (.inr (0, [.ref v_3, .int v_5])) := kf_at kf_104 T_md (by decide) tn0 (nmc (tne T_md T_r9 (by decide)) nm0) F_md
                  have hkf : kf τ [(10, 1)] [r9] h h_98 := kf_tr hkf kf_104 (List.forall_mem_nil _) (List.forall_mem_cons.mpr ⟨Or.inl (by simp), List.forall_mem_nil _⟩)
                  obtain ⟨⟨wp_105, F_r9⟩, rfl⟩ := xp_103
                  have hRN : RN t h_98 nd s8 o8 sl8 1 := RN_kf hT0 T_nd hRN kf_104 (by simp) (by simp) (List.forall_mem_cons.mpr ⟨⟨(fun z => by have := z.symm.trans T_r9; simp at this), (fun z => by have := z.symm.trans T_r9; simp at this)⟩, List.forall_mem_nil _⟩) (knp_kf knp_rf kf_104 (by simp) (List.forall_mem_cons.mpr ⟨(fun z => by have := z.symm.trans T_r9; simp at this), List.forall_mem_nil _⟩))
                  refine lv_if_eq (tgt := 215) hx hb d_Re_hasDescriptor_208 (by decide) (fun hc_106 => ?_) (fun hc_106 => absurd hc_106 (by decide))
                  refine lv_iconst (v := 0) hx hb d_Re_hasDescriptor_215 (by decide) ?_
                  exact W.zret (v := 0) hx hb hr (by decide) (fun t9 ht hW => ⟨0, h_98, rfl, ⟨zb0, hT, hkf, ⟨⟨_, F_r9⟩, hRN, fun z => absurd z (by decide)⟩⟩, by rw [ht]; exact hH, by rw [ht]; exact hz⟩) hLo d_Re_hasDescriptor_216
                · skip
                  have hRD : RD t n h_88 nd s8 o8 sl8 1 := RN_RD1 hRN e_85 (xp_93 rfl)
                  refine lv_if_eq (tgt := 199) hx hb d_Re_hasDescriptor_183 (by decide) (fun hc_107 => absurd hc_107 (by decide)) (fun hc_107 => ?_)
                  refine lv_aload_n hx hb d_Re_hasDescriptor_186 rfl (lv_at hl 2 rfl) ?_
                  refine lv_iload_n hx hb d_Re_hasDescriptor_187 rfl (lv_at hl 1 rfl) ?_
                  refine lv_sipush (v := 156) hx hb d_Re_hasDescriptor_188 (by decide) ?_
                  refine lv_iadd hx hb d_Re_hasDescriptor_191 ?_
                  refine lv_iconst (v := 0) hx hb d_Re_hasDescriptor_192 (by decide) ?_
                  refine hm_callPi (va_runV (As := [.int (v_1 + 156), .int 0]) (b := r9) (rest := []) ⟨hx, hb, hml, hown, hts⟩ (t_isSpecial l D t G ak av h_88 τ n r9 (v_1 + 156) 0 tb td md nd wp  hn hT T_r9  F_r9) ⟨cw9B 2 hts mw_371 mw_372 mw_332 rfl rfl (by decide +kernel) ⟨Nat.le_of_ble_eq_true rfl, Nat.le_of_ble_eq_true rfl⟩, hts _ mw_373, hts _ mw_374⟩ (hP_V (q := (R_Re, F_Re, 5)) kE_ok hE hK hH F_r9 rfl) rfl rfl hl.1 rfl (lv_room (Nat.le_of_ble_eq_true rfl)) d_Re_hasDescriptor_193 ⟨Nat.le_of_ble_eq_true rfl, Nat.le_of_ble_eq_true rfl⟩) (fun r_108 h_109 H_110 hp_112  hH z_111 => ?_)
                  have hz : s.heap.size ≤ H_110.size := Nat.le_trans hz z_111
                  obtain ⟨c_113, rfl⟩ := hp_112
                  refine lv_if_ne (tgt := 211) hx hb d_Re_hasDescriptor_196 (by decide) (fun hc_115 => ?_) (fun hc_115 => ?_)
                  · skip
                    refine lv_iconst (v := 1) hx hb d_Re_hasDescriptor_211 (by decide) ?_
                    refine lv_goto (tgt := 216) hx hb d_Re_hasDescriptor_212 (by decide) ?_
                    exact W.zret (v := 1) hx hb hr (by decide) (fun t9 ht hW => ⟨1, h_88, rfl, ⟨zb1, hT, hkf, ⟨⟨_, F_r9⟩, hRN, fun _ => hRD⟩⟩, by rw [ht]; exact hH, by rw [ht]; exact hz⟩) hLo d_Re_hasDescriptor_216
                  · skip
                    have ic_116 : r_108.toInt = 0 := congrArg Int32.toInt hc_115
                    refine lv_aload_n hx hb d_Re_hasDescriptor_199 rfl (lv_at hl 2 rfl) ?_
                    refine lv_iload_n hx hb d_Re_hasDescriptor_200 rfl (lv_at hl 1 rfl) ?_
                    refine lv_sipush (v := 156) hx hb d_Re_hasDescriptor_201 (by decide) ?_
                    refine lv_iadd hx hb d_Re_hasDescriptor_204 ?_
                    refine hm_calli (va_runV (As := [.int (v_1 + 156)]) (b := r9) (rest := []) ⟨hx, hb, hml, hown, hts⟩ (t_wrongAt l D t G ak av h_88 τ n r9 (v_1 + 156) tb td md nd wp  hn hT T_r9  F_r9) ⟨cw9B 1 hts mw_331 mw_333 mw_332 rfl rfl (by decide +kernel) ⟨Nat.le_of_ble_eq_true rfl, Nat.le_of_ble_eq_true rfl⟩, hts _ mw_334, hts _ mw_335⟩ (hP_V (q := (R_Re, F_Re, 5)) kE_ok hE hK hH F_r9 rfl) rfl rfl hl.1 rfl (lv_room (Nat.le_of_ble_eq_true rfl)) d_Re_hasDescriptor_205 ⟨Nat.le_of_ble_eq_true rfl, Nat.le_of_ble_eq_true rfl⟩) hLo (fun r_117 h_118 H_119 locs hp_121 hH z_120 hLo => ?_)
                    have hz : s.heap.size ≤ H_119.size := Nat.le_trans hz z_120
                    have hT0 := hT
                    obtain ⟨c_122, hT, kf_124, xp_123⟩ := hp_121
                    have F_nd : h_118 nd = some (.inr (2, [.ref s8, .ref o8, .int (nI 1), .int (nI 1)])) := kf_at kf_124 T_nd (by decide) tn0 (nmc (tne T_nd T_r9 (by decide)) nm0) F_nd
                    have F_s8 : h_118 s8 = some (.inl ((t 4), 30, .inr (.inr (.inr (.inr sl8))))) := kf_at kf_124 Tn0 (by decide) tn0 (nmc (tne Tn0 T_r9 (by decide)) nm0) F_s8
                    have F_md : h_118 md = some (.inr (0, [.ref v_3, .int v_5])) := kf_at kf_124 T_md (by decide) tn0 (nmc (tne T_md T_r9 (by decide)) nm0) F_md
                    have hkf : kf τ [(10, 1)] [r9] h h_118 := kf_tr hkf kf_124 (List.forall_mem_nil _) (List.forall_mem_cons.mpr ⟨Or.inl (by simp), List.forall_mem_nil _⟩)
                    obtain ⟨⟨wp_125, F_r9⟩, rfl⟩ := xp_123
                    have hRN : RN t h_118 nd s8 o8 sl8 1 := RN_kf hT0 T_nd hRN kf_124 (by simp) (by simp) (List.forall_mem_cons.mpr ⟨⟨(fun z => by have := z.symm.trans T_r9; simp at this), (fun z => by have := z.symm.trans T_r9; simp at this)⟩, List.forall_mem_nil _⟩) (knp_kf knp_rf kf_124 (by simp) (List.forall_mem_cons.mpr ⟨(fun z => by have := z.symm.trans T_r9; simp at this), List.forall_mem_nil _⟩))
                    refine lv_if_eq (tgt := 215) hx hb d_Re_hasDescriptor_208 (by decide) (fun hc_126 => ?_) (fun hc_126 => absurd hc_126 (by decide))
                    refine lv_iconst (v := 0) hx hb d_Re_hasDescriptor_215 (by decide) ?_
                    exact W.zret (v := 0) hx hb hr (by decide) (fun t9 ht hW => ⟨0, h_118, rfl, ⟨zb0, hT, hkf, ⟨⟨_, F_r9⟩, hRN, fun z => absurd z (by decide)⟩⟩, by rw [ht]; exact hH, by rw [ht]; exact hz⟩) hLo d_Re_hasDescriptor_216
              · skip
                refine lv_aload_n hx hb d_Re_hasDescriptor_155 rfl (lv_at hl 2 rfl) ?_
                refine lv_iload_n hx hb d_Re_hasDescriptor_156 rfl (lv_at hl 1 rfl) ?_
                refine lv_sipush (v := 148) hx hb d_Re_hasDescriptor_157 (by decide) ?_
                refine lv_iadd hx hb d_Re_hasDescriptor_160 ?_
                refine hm_calli (va_runV (As := [.int (v_1 + 148)]) (b := r9) (rest := []) ⟨hx, hb, hml, hown, hts⟩ (t_wrongAt l D t G ak av h τ n r9 (v_1 + 148) tb td md nd wp  hn hT T_r9  F_r9) ⟨cw9B 1 hts mw_331 mw_333 mw_332 rfl rfl (by decide +kernel) ⟨Nat.le_of_ble_eq_true rfl, Nat.le_of_ble_eq_true rfl⟩, hts _ mw_334, hts _ mw_335⟩ (hP_V (q := (R_Re, F_Re, 5)) kE_ok hE hK hH F_r9 rfl) rfl rfl hl.1 rfl (lv_room (Nat.le_of_ble_eq_true rfl)) d_Re_hasDescriptor_161 ⟨Nat.le_of_ble_eq_true rfl, Nat.le_of_ble_eq_true rfl⟩) hLo (fun r_127 h_128 H_129 locs hp_131 hH z_130 hLo => ?_)
                have hz : s.heap.size ≤ H_129.size := Nat.le_trans hz z_130
                have hT0 := hT
                obtain ⟨c_132, hT, kf_134, xp_133⟩ := hp_131
                have F_nd : h_128 nd = some (.inr (2, [.ref s8, .ref o8, .int (nI 1), .int (nI 1)])) := kf_at kf_134 T_nd (by decide) tn0 (nmc (tne T_nd T_r9 (by decide)) nm0) F_nd
                have F_s8 : h_128 s8 = some (.inl ((t 4), 30, .inr (.inr (.inr (.inr sl8))))) := kf_at kf_134 Tn0 (by decide) tn0 (nmc (tne Tn0 T_r9 (by decide)) nm0) F_s8
                have F_md : h_128 md = some (.inr (0, [.ref v_3, .int v_5])) := kf_at kf_134 T_md (by decide) tn0 (nmc (tne T_md T_r9 (by decide)) nm0) F_md
                have hkf : kf τ [(10, 1)] [r9] h h_128 := kf_tr hkf kf_134 (List.forall_mem_nil _) (List.forall_mem_cons.mpr ⟨Or.inl (by simp), List.forall_mem_nil _⟩)
                obtain ⟨⟨wp_135, F_r9⟩, rfl⟩ := xp_133
                have hRN : RN t h_128 nd s8 o8 sl8 1 := RN_kf hT0 T_nd hRN kf_134 (by simp) (by simp) (List.forall_mem_cons.mpr ⟨⟨(fun z => by have := z.symm.trans T_r9; simp at this), (fun z => by have := z.symm.trans T_r9; simp at this)⟩, List.forall_mem_nil _⟩) (knp_kf knp_rf kf_134 (by simp) (List.forall_mem_cons.mpr ⟨(fun z => by have := z.symm.trans T_r9; simp at this), List.forall_mem_nil _⟩))
                exact W.zret (v := 0) hx hb hr (by decide) (fun t9 ht hW => ⟨0, h_128, rfl, ⟨zb0, hT, hkf, ⟨⟨_, F_r9⟩, hRN, fun z => absurd z (by decide)⟩⟩, by rw [ht]; exact hH, by rw [ht]; exact hz⟩) hLo d_Re_hasDescriptor_164
            · skip
              refine lv_aload_n hx hb d_Re_hasDescriptor_125 rfl (lv_at hl 2 rfl) ?_
              refine lv_iload_n hx hb d_Re_hasDescriptor_126 rfl (lv_at hl 1 rfl) ?_
              refine lv_sipush (v := 140) hx hb d_Re_hasDescriptor_127 (by decide) ?_
              refine lv_iadd hx hb d_Re_hasDescriptor_130 ?_
              refine hm_calli (va_runV (As := [.int (v_1 + 140)]) (b := r9) (rest := []) ⟨hx, hb, hml, hown, hts⟩ (t_wrongAt l D t G ak av h τ n r9 (v_1 + 140) tb td md nd wp  hn hT T_r9  F_r9) ⟨cw9B 1 hts mw_331 mw_333 mw_332 rfl rfl (by decide +kernel) ⟨Nat.le_of_ble_eq_true rfl, Nat.le_of_ble_eq_true rfl⟩, hts _ mw_334, hts _ mw_335⟩ (hP_V (q := (R_Re, F_Re, 5)) kE_ok hE hK hH F_r9 rfl) rfl rfl hl.1 rfl (lv_room (Nat.le_of_ble_eq_true rfl)) d_Re_hasDescriptor_131 ⟨Nat.le_of_ble_eq_true rfl, Nat.le_of_ble_eq_true rfl⟩) hLo (fun r_136 h_137 H_138 locs hp_140 hH z_139 hLo => ?_)
              have hz : s.heap.size ≤ H_138.size := Nat.le_trans hz z_139
              have hT0 := hT
              obtain ⟨c_141, hT, kf_143, xp_142⟩ := hp_140
              have F_nd : h_137 nd = some (.inr (2, [.ref s8, .ref o8, .int (nI 1), .int (nI 1)])) := kf_at kf_143 T_nd (by decide) tn0 (nmc (tne T_nd T_r9 (by decide)) nm0) F_nd
              have F_s8 : h_137 s8 = some (.inl ((t 4), 30, .inr (.inr (.inr (.inr sl8))))) := kf_at kf_143 Tn0 (by decide) tn0 (nmc (tne Tn0 T_r9 (by decide)) nm0) F_s8
              have F_md : h_137 md = some (.inr (0, [.ref v_3, .int v_5])) := kf_at kf_143 T_md (by decide) tn0 (nmc (tne T_md T_r9 (by decide)) nm0) F_md
              have hkf : kf τ [(10, 1)] [r9] h h_137 := kf_tr hkf kf_143 (List.forall_mem_nil _) (List.forall_mem_cons.mpr ⟨Or.inl (by simp), List.forall_mem_nil _⟩)
              obtain ⟨⟨wp_144, F_r9⟩, rfl⟩ := xp_142
              have hRN : RN t h_137 nd s8 o8 sl8 1 := RN_kf hT0 T_nd hRN kf_143 (by simp) (by simp) (List.forall_mem_cons.mpr ⟨⟨(fun z => by have := z.symm.trans T_r9; simp at this), (fun z => by have := z.symm.trans T_r9; simp at this)⟩, List.forall_mem_nil _⟩) (knp_kf knp_rf kf_143 (by simp) (List.forall_mem_cons.mpr ⟨(fun z => by have := z.symm.trans T_r9; simp at this), List.forall_mem_nil _⟩))
              exact W.zret (v := 0) hx hb hr (by decide) (fun t9 ht hW => ⟨0, h_137, rfl, ⟨zb0, hT, hkf, ⟨⟨_, F_r9⟩, hRN, fun z => absurd z (by decide)⟩⟩, by rw [ht]; exact hH, by rw [ht]; exact hz⟩) hLo d_Re_hasDescriptor_134
          · skip
            have ic_145 : r_62.toInt = 0 := congrArg Int32.toInt hc_69
            refine lv_aload_n hx hb d_Re_hasDescriptor_95 rfl (lv_at hl 2 rfl) ?_
            refine lv_iload_n hx hb d_Re_hasDescriptor_96 rfl (lv_at hl 1 rfl) ?_
            refine lv_sipush (v := 132) hx hb d_Re_hasDescriptor_97 (by decide) ?_
            refine lv_iadd hx hb d_Re_hasDescriptor_100 ?_
            refine hm_calli (va_runV (As := [.int (v_1 + 132)]) (b := r9) (rest := []) ⟨hx, hb, hml, hown, hts⟩ (t_wrongAt l D t G ak av h τ n r9 (v_1 + 132) tb td md nd wp  hn hT T_r9  F_r9) ⟨cw9B 1 hts mw_331 mw_333 mw_332 rfl rfl (by decide +kernel) ⟨Nat.le_of_ble_eq_true rfl, Nat.le_of_ble_eq_true rfl⟩, hts _ mw_334, hts _ mw_335⟩ (hP_V (q := (R_Re, F_Re, 5)) kE_ok hE hK hH F_r9 rfl) rfl rfl hl.1 rfl (lv_room (Nat.le_of_ble_eq_true rfl)) d_Re_hasDescriptor_101 ⟨Nat.le_of_ble_eq_true rfl, Nat.le_of_ble_eq_true rfl⟩) hLo (fun r_146 h_147 H_148 locs hp_150 hH z_149 hLo => ?_)
            have hz : s.heap.size ≤ H_148.size := Nat.le_trans hz z_149
            have hT0 := hT
            obtain ⟨c_151, hT, kf_153, xp_152⟩ := hp_150
            have F_nd : h_147 nd = some (.inr (2, [.ref s8, .ref o8, .int (nI 1), .int (nI 1)])) := kf_at kf_153 T_nd (by decide) tn0 (nmc (tne T_nd T_r9 (by decide)) nm0) F_nd
            have F_s8 : h_147 s8 = some (.inl ((t 4), 30, .inr (.inr (.inr (.inr sl8))))) := kf_at kf_153 Tn0 (by decide) tn0 (nmc (tne Tn0 T_r9 (by decide)) nm0) F_s8
            have F_md : h_147 md = some (.inr (0, [.ref v_3, .int v_5])) := kf_at kf_153 T_md (by decide) tn0 (nmc (tne T_md T_r9 (by decide)) nm0) F_md
            have hkf : kf τ [(10, 1)] [r9] h h_147 := kf_tr hkf kf_153 (List.forall_mem_nil _) (List.forall_mem_cons.mpr ⟨Or.inl (by simp), List.forall_mem_nil _⟩)
            obtain ⟨⟨wp_154, F_r9⟩, rfl⟩ := xp_152
            have hRN : RN t h_147 nd s8 o8 sl8 1 := RN_kf hT0 T_nd hRN kf_153 (by simp) (by simp) (List.forall_mem_cons.mpr ⟨⟨(fun z => by have := z.symm.trans T_r9; simp at this), (fun z => by have := z.symm.trans T_r9; simp at this)⟩, List.forall_mem_nil _⟩) (knp_kf knp_rf kf_153 (by simp) (List.forall_mem_cons.mpr ⟨(fun z => by have := z.symm.trans T_r9; simp at this), List.forall_mem_nil _⟩))
            exact W.zret (v := 0) hx hb hr (by decide) (fun t9 ht hW => ⟨0, h_147, rfl, ⟨zb0, hT, hkf, ⟨⟨_, F_r9⟩, hRN, fun z => absurd z (by decide)⟩⟩, by rw [ht]; exact hH, by rw [ht]; exact hz⟩) hLo d_Re_hasDescriptor_104
    · skip
      have ic_155 : r_23.toInt = 0 := congrArg Int32.toInt hc_30
      refine lv_aload_n hx hb d_Re_hasDescriptor_44 rfl (lv_at hl 1 rfl) ?_
      refine lv_iload_n hx hb d_Re_hasDescriptor_45 rfl (lv_at hl 0 rfl) ?_
      refine lv_sipush (v := 128) hx hb d_Re_hasDescriptor_46 (by decide) ?_
      refine lv_iadd hx hb d_Re_hasDescriptor_49 ?_
      refine hm_calli (va_runV (As := [.int (v_1 + 128)]) (b := r9) (rest := []) ⟨hx, hb, hml, hown, hts⟩ (t_wrongAt l D t G ak av h τ n r9 (v_1 + 128) tb td md nd wp  hn hT T_r9  F_r9) ⟨cw9B 1 hts mw_331 mw_333 mw_332 rfl rfl (by decide +kernel) ⟨Nat.le_of_ble_eq_true rfl, Nat.le_of_ble_eq_true rfl⟩, hts _ mw_334, hts _ mw_335⟩ (hP_V (q := (R_Re, F_Re, 5)) kE_ok hE hK hH F_r9 rfl) rfl rfl hl.1 rfl (lv_room (Nat.le_of_ble_eq_true rfl)) d_Re_hasDescriptor_50 ⟨Nat.le_of_ble_eq_true rfl, Nat.le_of_ble_eq_true rfl⟩) hLo (fun r_156 h_157 H_158 locs hp_160 hH z_159 hLo => ?_)
      have hz : s.heap.size ≤ H_158.size := Nat.le_trans hz z_159
      have hT0 := hT
      obtain ⟨c_161, hT, kf_163, xp_162⟩ := hp_160
      have F_nd : h_157 nd = some (.inr (2, [.ref s8, .ref o8, .int (nI 1), .int (nI 1)])) := kf_at kf_163 T_nd (by decide) tn0 (nmc (tne T_nd T_r9 (by decide)) nm0) F_nd
      have F_s8 : h_157 s8 = some (.inl ((t 4), 30, .inr (.inr (.inr (.inr sl8))))) := kf_at kf_163 Tn0 (by decide) tn0 (nmc (tne Tn0 T_r9 (by decide)) nm0) F_s8
      have F_md : h_157 md = some (.inr (0, [.ref v_3, .int v_5])) := kf_at kf_163 T_md (by decide) tn0 (nmc (tne T_md T_r9 (by decide)) nm0) F_md
      have hkf : kf τ [(10, 1)] [r9] h h_157 := kf_tr hkf kf_163 (List.forall_mem_nil _) (List.forall_mem_cons.mpr ⟨Or.inl (by simp), List.forall_mem_nil _⟩)
      obtain ⟨⟨wp_164, F_r9⟩, rfl⟩ := xp_162
      have hRN : RN t h_157 nd s8 o8 sl8 1 := RN_kf hT0 T_nd hRN kf_163 (by simp) (by simp) (List.forall_mem_cons.mpr ⟨⟨(fun z => by have := z.symm.trans T_r9; simp at this), (fun z => by have := z.symm.trans T_r9; simp at this)⟩, List.forall_mem_nil _⟩) (knp_kf knp_rf kf_163 (by simp) (List.forall_mem_cons.mpr ⟨(fun z => by have := z.symm.trans T_r9; simp at this), List.forall_mem_nil _⟩))
      exact W.zret (v := 0) hx hb hr (by decide) (fun t9 ht hW => ⟨0, h_157, rfl, ⟨zb0, hT, hkf, ⟨⟨_, F_r9⟩, hRN, fun z => absurd z (by decide)⟩⟩, by rw [ht]; exact hH, by rw [ht]; exact hz⟩) hLo d_Re_hasDescriptor_53

set_option maxHeartbeats 4000000 in
set_option maxRecDepth 100000 in
theorem t_hasPT (l : Launch) (D : va_G) (t : Nat → ClassId) (G : hG) (ak av : Nat → Nat) (h : hM) (τ : tM) (n : Nat) (r9 : Nat) (b8 : Int32) (tb td md nd : Nat) (wp : Int32) (hn : n ≤ 200) (hT : TI τ t n h) (T_r9 : τ r9 = (6, 0)) (F_r9 : h r9 = some (.inr (5, [.ref tb, .ref td, .ref md, .ref nd, .int wp]))) : Met l y_Re_hasPathTables (.code y_Re_hasPathTables b_Re_hasPathTables 4 (some .boolean) :: lw_g) { frames := 8, cells := 0, slots := 0, locals := 181 } (hP (kE D t G ak av) D vwCl G h [.ref r9, .int b8]) (hQi D vwCl G (fun r h' => zb r ∧ TI τ t n h' ∧ kf τ [(5, 1), (10, 1)] [r9] h h' ∧ knp τ 1 h h' ∧ ∃ wp', h' r9 = some (.inr (5, [.ref tb, .ref td, .ref md, .ref nd, .int wp'])))) 0 0 G.P := by
  refine Met.ofW (cc := b_Re_hasPathTables) (maxL := 4) (ret := (some .boolean)) (by decide) rfl ?_
  intro p e s m args below meth c s₁ Bd hml hv
  obtain ⟨ha, hE, hH⟩ := hv
  have hx := Bd.exec
  have hb := Bd.bytes
  have hr := Bd.returns
  have hts : ∀ w ∈ lw_g, w.before args s = true := fun w hw => atoms_spec (ws := (.code y_Re_hasPathTables b_Re_hasPathTables 4 (some .boolean) :: lw_g)) Bd.pre w (List.mem_cons_of_mem _ hw)
  have hown : s.vm.findClass R_Re = some m.cls := findClass_of_methodNamed Bd.named
  have hlocks := Bd.notSynchronized
  have hK := hE.1
  have hH0 := hH
  have hLo : hLc G.P [] := hLc_nil
  have hz : s.heap.size ≤ s.heap.size := Nat.le_refl _
  have hl := lv_entry [.ref r9, .int b8] (n := 4) (Nat.le_of_ble_eq_true rfl)
  rw [show entryFrame m args 4 = F0 m 0 ((lg_sl [.ref r9, .int b8] ++ List.replicate (4 - (lg_sl [.ref r9, .int b8]).length) Slot.unset).toArray) [] from (by rw [ha]; exact lg_entry_eq m [.ref r9, .int b8] 4)]
  generalize (lg_sl [.ref r9, .int b8] ++ List.replicate (4 - (lg_sl [.ref r9, .int b8]).length) Slot.unset).toArray = ls at hl ⊢
  have hl : lv_has ls 4 [(0, .ref r9), (1, .int b8)] := hl
  have hkf : kf τ [(5, 1), (10, 1)] [r9] h h := kf_rf
  have hnp_1 : knp τ 1 h h := knp_rf
  obtain ⟨Tr0, Tr1, Tr2, Tr3⟩ := TJ_rdr (v2 := some md) (v3 := some nd) hT T_r9 F_r9
  have T_md := Tr2 md rfl
  have T_nd := Tr3 nd rfl
  refine lv_aload_n hx hb d_Re_hasPathTables_0 rfl (lv_at hl 0 rfl) ?_
  refine hm_get (ci := 5) (v := .ref tb) (C := R_Re) (T := F_Re) (N := 5) hx hb hts ig_Re hown hK hH F_r9 rfl 0 (by decide) (hts _ mw_350) (fun _ h9 => h9) rfl d_Re_hasPathTables_1 ?_
  refine lv_aload_n hx hb d_Re_hasPathTables_4 rfl (lv_at hl 0 rfl) ?_
  refine hm_get (ci := 5) (v := .ref nd) (C := R_Re) (T := F_Re) (N := 5) hx hb hts ig_Re hown hK hH F_r9 rfl 3 (by decide) (hts _ mw_342) (fun _ h9 => h9) rfl d_Re_hasPathTables_5 ?_
  obtain ⟨v_1, v_3, v_5, v_7, F_nd, c_2, c_4, c_6⟩ := TI_nds hT T_nd
  refine hm_get (ci := 2) (v := .ref v_1) (C := R_Ns) (T := F_Ns) (N := 4) hx hb hts ig_Ns hown hK hH F_nd rfl 0 (by decide) (hts _ mw_344) (fun _ h9 => h9) rfl d_Re_hasPathTables_8 ?_
  refine lv_aload_n hx hb d_Re_hasPathTables_11 rfl (lv_at hl 0 rfl) ?_
  refine hm_get (ci := 5) (v := .ref nd) (C := R_Re) (T := F_Re) (N := 5) hx hb hts ig_Re hown hK hH F_r9 rfl 3 (by decide) (hts _ mw_342) (fun _ h9 => h9) rfl d_Re_hasPathTables_12 ?_
  refine hm_get (ci := 2) (v := .int v_5) (C := R_Ns) (T := F_Ns) (N := 4) hx hb hts ig_Ns hown hK hH F_nd rfl 2 (by decide) (hts _ mw_343) (fun _ h9 => h9) rfl d_Re_hasPathTables_15 ?_
  refine lv_iconst (v := 1) hx hb d_Re_hasPathTables_18 (by decide) ?_
  obtain ⟨v_8, F_tb, c_9⟩ := TI_page hT Tr0
  refine hm_calli (va_runV (As := [.ref v_1, .int v_5, .int 1]) (b := tb) (rest := []) ⟨hx, hb, hml, hown, hts⟩ (t_fpath8 l D t G ak av h τ n 1 1 tb v_1 v_5 (1 : Int32)  hn hT Tr0 c_2 zb1) ⟨cw9B 3 hts mw_291 mw_400 mw_77 rfl rfl (by decide +kernel) ⟨Nat.le_of_ble_eq_true rfl, Nat.le_of_ble_eq_true rfl⟩, hts _ mw_293, hts _ mw_294⟩ (hP_V (q := (R_Pg, F_Pg, 1)) kE_ok hE hK hH F_tb rfl) rfl rfl hl.1 rfl (lv_room (Nat.le_of_ble_eq_true rfl)) d_Re_hasPathTables_19 ⟨Nat.le_of_ble_eq_true rfl, Nat.le_of_ble_eq_true rfl⟩) hLo (fun r_10 h_11 H_12 locs hp_14 hH z_13 hLo => ?_)
  have hz : s.heap.size ≤ H_12.size := Nat.le_trans hz z_13
  have hT0 := hT
  obtain ⟨hT, kf_16, xk_17⟩ := hp_14
  have F_r9 : h_11 r9 = some (.inr (5, [.ref tb, .ref td, .ref md, .ref nd, .int wp])) := kf_at kf_16 T_r9 (by decide) (tnc (by decide) (tnc (by decide) tn0)) nm0 F_r9
  have F_nd : h_11 nd = some (.inr (2, [.ref v_1, .ref v_3, .int v_5, .int v_7])) := kf_at kf_16 T_nd (by decide) (tnc (by decide) (tnc (by decide) tn0)) nm0 F_nd
  have F_tb : h_11 tb = some (.inr (3, [.ref v_8])) := kf_at kf_16 Tr0 (by decide) (tnc (by decide) (tnc (by decide) tn0)) nm0 F_tb
  have hnp_1 : knp τ 1 h h_11 := knp_tr hnp_1 xk_17
  have hkf : kf τ [(5, 1), (10, 1)] [r9] h h_11 := kf_tr hkf kf_16 (List.forall_mem_cons.mpr ⟨List.mem_cons_self, List.forall_mem_cons.mpr ⟨(List.mem_cons_of_mem _ List.mem_cons_self), List.forall_mem_nil _⟩⟩) (List.forall_mem_nil _)
  refine lv_istore_n (lv' := [(2, .int r_10), (0, .ref r9), (1, .int b8)]) hx hb d_Re_hasPathTables_22 rfl hl (by decide) rfl (fun ls hl => ?_)
  refine lv_aload_n hx hb d_Re_hasPathTables_23 rfl (lv_at hl 1 rfl) ?_
  refine lv_iload_n hx hb d_Re_hasPathTables_24 rfl (lv_at hl 2 rfl) ?_
  refine lv_bipush (v := 18) hx hb d_Re_hasPathTables_25 (by decide) ?_
  refine lv_iadd hx hb d_Re_hasPathTables_27 ?_
  refine lv_iload_n hx hb d_Re_hasPathTables_28 rfl (lv_at hl 0 rfl) ?_
  refine hm_calli (va_runV (As := [.int (b8 + 18), .int r_10]) (b := r9) (rest := []) ⟨hx, hb, hml, hown, hts⟩ (t_hasTable l D t G ak av h_11 τ n r9 (b8 + 18) r_10 tb td md nd wp  hn hT T_r9  F_r9) ⟨cw9B 2 hts mw_401 mw_402 mw_332 rfl rfl (by decide +kernel) ⟨Nat.le_of_ble_eq_true rfl, Nat.le_of_ble_eq_true rfl⟩, hts _ mw_403, hts _ mw_404⟩ (hP_V (q := (R_Re, F_Re, 5)) kE_ok hE hK hH F_r9 rfl) rfl rfl hl.1 rfl (lv_room (Nat.le_of_ble_eq_true rfl)) d_Re_hasPathTables_29 ⟨Nat.le_of_ble_eq_true rfl, Nat.le_of_ble_eq_true rfl⟩) hLo (fun r_18 h_19 H_20 locs hp_22 hH z_21 hLo => ?_)
  have hz : s.heap.size ≤ H_20.size := Nat.le_trans hz z_21
  have hT0 := hT
  obtain ⟨c_23, hT, kf_25, xp_24⟩ := hp_22
  have F_nd : h_19 nd = some (.inr (2, [.ref v_1, .ref v_3, .int v_5, .int v_7])) := kf_at kf_25 T_nd (by decide) tn0 (nmc (tne T_nd T_r9 (by decide)) nm0) F_nd
  have F_tb : h_19 tb = some (.inr (3, [.ref v_8])) := kf_at kf_25 Tr0 (by decide) tn0 (nmc (tne Tr0 T_r9 (by decide)) nm0) F_tb
  have hnp_1 : knp τ 1 h h_19 := knp_kf hnp_1 kf_25 tn0 (List.forall_mem_cons.mpr ⟨(fun z => by have := z.symm.trans T_r9; simp at this), List.forall_mem_nil _⟩)
  have hkf : kf τ [(5, 1), (10, 1)] [r9] h h_19 := kf_tr hkf kf_25 (List.forall_mem_nil _) (List.forall_mem_cons.mpr ⟨Or.inl (by simp), List.forall_mem_nil _⟩)
  obtain ⟨wp_26, F_r9⟩ := xp_24
  refine lv_if_ne (tgt := 37) hx hb d_Re_hasPathTables_32 (by decide) (fun hc_27 => ?_) (fun hc_27 => ?_)
  · skip
    refine lv_aload_n hx hb d_Re_hasPathTables_37 rfl (lv_at hl 1 rfl) ?_
    refine hm_get (ci := 5) (v := .ref tb) (C := R_Re) (T := F_Re) (N := 5) hx hb hts ig_Re hown hK hH F_r9 rfl 0 (by decide) (hts _ mw_350) (fun _ h9 => h9) rfl d_Re_hasPathTables_38 ?_
    refine lv_aload_n hx hb d_Re_hasPathTables_41 rfl (lv_at hl 1 rfl) ?_
    refine hm_get (ci := 5) (v := .ref nd) (C := R_Re) (T := F_Re) (N := 5) hx hb hts ig_Re hown hK hH F_r9 rfl 3 (by decide) (hts _ mw_342) (fun _ h9 => h9) rfl d_Re_hasPathTables_42 ?_
    refine hm_get (ci := 2) (v := .ref v_1) (C := R_Ns) (T := F_Ns) (N := 4) hx hb hts ig_Ns hown hK hH F_nd rfl 0 (by decide) (hts _ mw_344) (fun _ h9 => h9) rfl d_Re_hasPathTables_45 ?_
    refine lv_aload_n hx hb d_Re_hasPathTables_48 rfl (lv_at hl 1 rfl) ?_
    refine hm_get (ci := 5) (v := .ref nd) (C := R_Re) (T := F_Re) (N := 5) hx hb hts ig_Re hown hK hH F_r9 rfl 3 (by decide) (hts _ mw_342) (fun _ h9 => h9) rfl d_Re_hasPathTables_49 ?_
    refine hm_get (ci := 2) (v := .int v_5) (C := R_Ns) (T := F_Ns) (N := 4) hx hb hts ig_Ns hown hK hH F_nd rfl 2 (by decide) (hts _ mw_343) (fun _ h9 => h9) rfl d_Re_hasPathTables_52 ?_
    refine lv_iconst (v := 0) hx hb d_Re_hasPathTables_55 (by decide) ?_
    refine hm_calli (va_runV (As := [.ref v_1, .int v_5, .int 0]) (b := tb) (rest := []) ⟨hx, hb, hml, hown, hts⟩ (t_fpath8 l D t G ak av h_19 τ n 1 1 tb v_1 v_5 (0 : Int32)  hn hT Tr0 c_2 zb0) ⟨cw9B 3 hts mw_291 mw_400 mw_77 rfl rfl (by decide +kernel) ⟨Nat.le_of_ble_eq_true rfl, Nat.le_of_ble_eq_true rfl⟩, hts _ mw_293, hts _ mw_294⟩ (hP_V (q := (R_Pg, F_Pg, 1)) kE_ok hE hK hH F_tb rfl) rfl rfl hl.1 rfl (lv_room (Nat.le_of_ble_eq_true rfl)) d_Re_hasPathTables_56 ⟨Nat.le_of_ble_eq_true rfl, Nat.le_of_ble_eq_true rfl⟩) hLo (fun r_28 h_29 H_30 locs hp_32 hH z_31 hLo => ?_)
    have hz : s.heap.size ≤ H_30.size := Nat.le_trans hz z_31
    have hT0 := hT
    obtain ⟨hT, kf_34, xk_35⟩ := hp_32
    have F_nd : h_29 nd = some (.inr (2, [.ref v_1, .ref v_3, .int v_5, .int v_7])) := kf_at kf_34 T_nd (by decide) (tnc (by decide) (tnc (by decide) tn0)) nm0 F_nd
    have F_tb : h_29 tb = some (.inr (3, [.ref v_8])) := kf_at kf_34 Tr0 (by decide) (tnc (by decide) (tnc (by decide) tn0)) nm0 F_tb
    have F_r9 : h_29 r9 = some (.inr (5, [.ref tb, .ref td, .ref md, .ref nd, .int wp_26])) := kf_at kf_34 T_r9 (by decide) (tnc (by decide) (tnc (by decide) tn0)) nm0 F_r9
    have hnp_1 : knp τ 1 h h_29 := knp_tr hnp_1 xk_35
    have hkf : kf τ [(5, 1), (10, 1)] [r9] h h_29 := kf_tr hkf kf_34 (List.forall_mem_cons.mpr ⟨List.mem_cons_self, List.forall_mem_cons.mpr ⟨(List.mem_cons_of_mem _ List.mem_cons_self), List.forall_mem_nil _⟩⟩) (List.forall_mem_nil _)
    refine lv_pop hx hb d_Re_hasPathTables_59 rfl ?_
    refine lv_aload_n hx hb d_Re_hasPathTables_60 rfl (lv_at hl 1 rfl) ?_
    refine lv_iload_n hx hb d_Re_hasPathTables_61 rfl (lv_at hl 2 rfl) ?_
    refine lv_bipush (v := 19) hx hb d_Re_hasPathTables_62 (by decide) ?_
    refine lv_iadd hx hb d_Re_hasPathTables_64 ?_
    refine lv_iload_n hx hb d_Re_hasPathTables_65 rfl (lv_at hl 0 rfl) ?_
    refine hm_calli (va_runV (As := [.int (b8 + 19), .int r_10]) (b := r9) (rest := []) ⟨hx, hb, hml, hown, hts⟩ (t_hasTable l D t G ak av h_29 τ n r9 (b8 + 19) r_10 tb td md nd wp_26  hn hT T_r9  F_r9) ⟨cw9B 2 hts mw_401 mw_402 mw_332 rfl rfl (by decide +kernel) ⟨Nat.le_of_ble_eq_true rfl, Nat.le_of_ble_eq_true rfl⟩, hts _ mw_403, hts _ mw_404⟩ (hP_V (q := (R_Re, F_Re, 5)) kE_ok hE hK hH F_r9 rfl) rfl rfl hl.1 rfl (lv_room (Nat.le_of_ble_eq_true rfl)) d_Re_hasPathTables_66 ⟨Nat.le_of_ble_eq_true rfl, Nat.le_of_ble_eq_true rfl⟩) hLo (fun r_36 h_37 H_38 locs hp_40 hH z_39 hLo => ?_)
    have hz : s.heap.size ≤ H_38.size := Nat.le_trans hz z_39
    have hT0 := hT
    obtain ⟨c_41, hT, kf_43, xp_42⟩ := hp_40
    have F_nd : h_37 nd = some (.inr (2, [.ref v_1, .ref v_3, .int v_5, .int v_7])) := kf_at kf_43 T_nd (by decide) tn0 (nmc (tne T_nd T_r9 (by decide)) nm0) F_nd
    have F_tb : h_37 tb = some (.inr (3, [.ref v_8])) := kf_at kf_43 Tr0 (by decide) tn0 (nmc (tne Tr0 T_r9 (by decide)) nm0) F_tb
    have hnp_1 : knp τ 1 h h_37 := knp_kf hnp_1 kf_43 tn0 (List.forall_mem_cons.mpr ⟨(fun z => by have := z.symm.trans T_r9; simp at this), List.forall_mem_nil _⟩)
    have hkf : kf τ [(5, 1), (10, 1)] [r9] h h_37 := kf_tr hkf kf_43 (List.forall_mem_nil _) (List.forall_mem_cons.mpr ⟨Or.inl (by simp), List.forall_mem_nil _⟩)
    obtain ⟨wp_44, F_r9⟩ := xp_42
    refine lv_if_ne (tgt := 74) hx hb d_Re_hasPathTables_69 (by decide) (fun hc_45 => ?_) (fun hc_45 => ?_)
    · skip
      refine lv_iload_n hx hb d_Re_hasPathTables_74 rfl (lv_at hl 2 rfl) ?_
      refine lv_bipush (v := 16) hx hb d_Re_hasPathTables_75 (by decide) ?_
      refine lv_iadd hx hb d_Re_hasPathTables_77 ?_
      refine lv_sipush (v := 2048) hx hb d_Re_hasPathTables_78 (by decide) ?_
      refine lv_imul hx hb d_Re_hasPathTables_81 ?_
      refine lv_sipush (v := 132) hx hb d_Re_hasPathTables_82 (by decide) ?_
      refine lv_iadd hx hb d_Re_hasPathTables_85 ?_
      refine lv_topi (fun v_46 e_47 => ?_)
      refine lv_istore_n (lv' := [(3, .int v_46), (2, .int r_10), (0, .ref r9), (1, .int b8)]) hx hb d_Re_hasPathTables_86 rfl hl (by decide) rfl (fun ls hl => ?_)
      refine lv_aload_n hx hb d_Re_hasPathTables_87 rfl (lv_at hl 2 rfl) ?_
      refine hm_get (ci := 5) (v := .ref md) (C := R_Re) (T := F_Re) (N := 5) hx hb hts ig_Re hown hK hH F_r9 rfl 2 (by decide) (hts _ mw_329) (fun _ h9 => h9) rfl d_Re_hasPathTables_88 ?_
      refine lv_iload_n hx hb d_Re_hasPathTables_91 rfl (lv_at hl 0 rfl) ?_
      refine lv_iconst (v := 4) hx hb d_Re_hasPathTables_92 (by decide) ?_
      obtain ⟨v_48, v_50, F_md, c_49⟩ := TI_med hT T_md
      refine hm_callPi (va_runV (As := [.int v_46, .int 4]) (b := md) (rest := []) ⟨hx, hb, hml, hown, hts⟩ (t_low l D t G ak av h_37 τ n md v_46 4  hn hT T_md) ⟨cw9B 2 hts mw_44 mw_359 mw_32 rfl rfl (by decide +kernel) ⟨Nat.le_of_ble_eq_true rfl, Nat.le_of_ble_eq_true rfl⟩, hts _ mw_46, hts _ mw_47⟩ (hP_V (q := (R_Me, F_Me, 2)) kE_ok hE hK hH F_md rfl) rfl rfl hl.1 rfl (lv_room (Nat.le_of_ble_eq_true rfl)) d_Re_hasPathTables_93 ⟨Nat.le_of_ble_eq_true rfl, Nat.le_of_ble_eq_true rfl⟩) (fun r_51 h_52 H_53 hp_55  hH z_54 => ?_)
      have hz : s.heap.size ≤ H_53.size := Nat.le_trans hz z_54
      obtain rfl := hp_55
      refine lv_iload_n hx hb d_Re_hasPathTables_96 rfl (lv_at hl 1 rfl) ?_
      refine lv_icmp_eq (tgt := 108) hx hb d_Re_hasPathTables_97 (by decide) (fun hc_57 => ?_) (fun hc_57 => ?_)
      · skip
        have ic_58 : r_51.toInt = r_10.toInt := congrArg Int32.toInt hc_57
        refine lv_iconst (v := 1) hx hb d_Re_hasPathTables_108 (by decide) ?_
        refine lv_goto (tgt := 113) hx hb d_Re_hasPathTables_109 (by decide) ?_
        exact W.zret (v := 1) hx hb hr (by decide) (fun t9 ht hW => ⟨1, h_37, rfl, ⟨zb1, hT, hkf, hnp_1, ⟨_, F_r9⟩⟩, by rw [ht]; exact hH, by rw [ht]; exact hz⟩) hLo d_Re_hasPathTables_113
      · skip
        refine lv_aload_n hx hb d_Re_hasPathTables_100 rfl (lv_at hl 2 rfl) ?_
        refine lv_iload_n hx hb d_Re_hasPathTables_101 rfl (lv_at hl 0 rfl) ?_
        refine hm_calli (va_runV (As := [.int v_46]) (b := r9) (rest := []) ⟨hx, hb, hml, hown, hts⟩ (t_wrongAt l D t G ak av h_37 τ n r9 v_46 tb td md nd wp_44  hn hT T_r9  F_r9) ⟨cw9B 1 hts mw_331 mw_333 mw_332 rfl rfl (by decide +kernel) ⟨Nat.le_of_ble_eq_true rfl, Nat.le_of_ble_eq_true rfl⟩, hts _ mw_334, hts _ mw_335⟩ (hP_V (q := (R_Re, F_Re, 5)) kE_ok hE hK hH F_r9 rfl) rfl rfl hl.1 rfl (lv_room (Nat.le_of_ble_eq_true rfl)) d_Re_hasPathTables_102 ⟨Nat.le_of_ble_eq_true rfl, Nat.le_of_ble_eq_true rfl⟩) hLo (fun r_59 h_60 H_61 locs hp_63 hH z_62 hLo => ?_)
        have hz : s.heap.size ≤ H_61.size := Nat.le_trans hz z_62
        have hT0 := hT
        obtain ⟨c_64, hT, kf_66, xp_65⟩ := hp_63
        have F_nd : h_60 nd = some (.inr (2, [.ref v_1, .ref v_3, .int v_5, .int v_7])) := kf_at kf_66 T_nd (by decide) tn0 (nmc (tne T_nd T_r9 (by decide)) nm0) F_nd
        have F_tb : h_60 tb = some (.inr (3, [.ref v_8])) := kf_at kf_66 Tr0 (by decide) tn0 (nmc (tne Tr0 T_r9 (by decide)) nm0) F_tb
        have F_md : h_60 md = some (.inr (0, [.ref v_48, .int v_50])) := kf_at kf_66 T_md (by decide) tn0 (nmc (tne T_md T_r9 (by decide)) nm0) F_md
        have hnp_1 : knp τ 1 h h_60 := knp_kf hnp_1 kf_66 tn0 (List.forall_mem_cons.mpr ⟨(fun z => by have := z.symm.trans T_r9; simp at this), List.forall_mem_nil _⟩)
        have hkf : kf τ [(5, 1), (10, 1)] [r9] h h_60 := kf_tr hkf kf_66 (List.forall_mem_nil _) (List.forall_mem_cons.mpr ⟨Or.inl (by simp), List.forall_mem_nil _⟩)
        obtain ⟨⟨wp_67, F_r9⟩, rfl⟩ := xp_65
        refine lv_if_eq (tgt := 112) hx hb d_Re_hasPathTables_105 (by decide) (fun hc_68 => ?_) (fun hc_68 => absurd hc_68 (by decide))
        refine lv_iconst (v := 0) hx hb d_Re_hasPathTables_112 (by decide) ?_
        exact W.zret (v := 0) hx hb hr (by decide) (fun t9 ht hW => ⟨0, h_60, rfl, ⟨zb0, hT, hkf, hnp_1, ⟨_, F_r9⟩⟩, by rw [ht]; exact hH, by rw [ht]; exact hz⟩) hLo d_Re_hasPathTables_113
    · skip
      have ic_69 : r_36.toInt = 0 := congrArg Int32.toInt hc_45
      refine lv_iconst (v := 0) hx hb d_Re_hasPathTables_72 (by decide) ?_
      exact W.zret (v := 0) hx hb hr (by decide) (fun t9 ht hW => ⟨0, h_37, rfl, ⟨zb0, hT, hkf, hnp_1, ⟨_, F_r9⟩⟩, by rw [ht]; exact hH, by rw [ht]; exact hz⟩) hLo d_Re_hasPathTables_73
  · skip
    have ic_70 : r_18.toInt = 0 := congrArg Int32.toInt hc_27
    refine lv_iconst (v := 0) hx hb d_Re_hasPathTables_35 (by decide) ?_
    exact W.zret (v := 0) hx hb hr (by decide) (fun t9 ht hW => ⟨0, h_19, rfl, ⟨zb0, hT, hkf, hnp_1, ⟨_, F_r9⟩⟩, by rw [ht]; exact hH, by rw [ht]; exact hz⟩) hLo d_Re_hasPathTables_36
