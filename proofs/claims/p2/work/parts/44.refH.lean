set_option maxRecDepth 100000 in
theorem mw_722 : Cond.fieldLink R_Mo 247 "WriteOnceDiscModel" "number" "I" ∈ lw_g := lw_gin (List.mem_append_right _ (List.mem_of_getElem? (i := 937) rfl)) (by decide +kernel)
set_option maxRecDepth 100000 in
theorem mw_723 : Cond.code y_Mo_session b_Mo_session 8 (some .int) ∈ lw_g := lw_gin (List.mem_append_right _ (List.mem_of_getElem? (i := 1139) rfl)) (by decide +kernel)
set_option maxRecDepth 100000 in
theorem mw_724 : Cond.methodLink R_Mo 250 y_Mo_session ∈ lw_g := lw_gin (List.mem_append_right _ (List.mem_of_getElem? (i := 1136) rfl)) (by decide +kernel)
set_option maxRecDepth 100000 in
theorem mw_725 : Cond.instanceMethod y_Mo_session ∈ lw_g := lw_gin (List.mem_append_right _ (List.mem_of_getElem? (i := 1138) rfl)) (by decide +kernel)
set_option maxRecDepth 100000 in
theorem mw_726 : Cond.selects R_Mo y_Mo_session y_Mo_session ∈ lw_g := lw_gin (List.mem_append_left _ (List.mem_of_getElem? (i := 39) rfl)) (by decide +kernel)
set_option maxRecDepth 100000 in
theorem mw_727 : Cond.code y_Mo_lay b_Mo_lay 8 (some .int) ∈ lw_g := lw_gin (List.mem_append_right _ (List.mem_of_getElem? (i := 1119) rfl)) (by decide +kernel)
set_option maxRecDepth 100000 in
theorem mw_728 : Cond.methodLink R_Mo 244 y_Mo_lay ∈ lw_g := lw_gin (List.mem_append_right _ (List.mem_of_getElem? (i := 1116) rfl)) (by decide +kernel)
set_option maxRecDepth 100000 in
theorem mw_729 : Cond.instanceMethod y_Mo_lay ∈ lw_g := lw_gin (List.mem_append_right _ (List.mem_of_getElem? (i := 1118) rfl)) (by decide +kernel)
set_option maxRecDepth 100000 in
theorem mw_730 : Cond.selects R_Mo y_Mo_lay y_Mo_lay ∈ lw_g := lw_gin (List.mem_append_left _ (List.mem_of_getElem? (i := 34) rfl)) (by decide +kernel)
set_option maxRecDepth 100000 in
theorem mw_731 : Cond.constant R_Mo 253 (409600) ∈ lw_g := lw_gin (List.mem_append_right _ (List.mem_of_getElem? (i := 1210) rfl)) (by decide +kernel)
set_option maxRecDepth 100000 in
theorem mw_732 : Cond.fieldLink R_Mo 254 "WriteOnceDiscModel" "opened" "I" ∈ lw_g := lw_gin (List.mem_append_right _ (List.mem_of_getElem? (i := 951) rfl)) (by decide +kernel)
theorem d_Mo_commit_0 : decode b_Mo_commit 0 = .ok (.aload_n 0, 1) := by decide +kernel
theorem d_Mo_commit_1 : decode b_Mo_commit 1 = .ok (.iconst 0, 1) := by decide +kernel
theorem d_Mo_commit_2 : decode b_Mo_commit 2 = .ok (.putfield 109, 3) := by decide +kernel
theorem d_Mo_commit_5 : decode b_Mo_commit 5 = .ok (.aload_n 0, 1) := by decide +kernel
theorem d_Mo_commit_6 : decode b_Mo_commit 6 = .ok (.getfield 125, 3) := by decide +kernel
theorem d_Mo_commit_9 : decode b_Mo_commit 9 = .ok (.ifCond .eq 6, 3) := by decide +kernel
theorem d_Mo_commit_15 : decode b_Mo_commit 15 = .ok (.iconst 1, 1) := by decide +kernel
theorem d_Mo_commit_16 : decode b_Mo_commit 16 = .ok (.istore_n 1, 1) := by decide +kernel
theorem d_Mo_commit_17 : decode b_Mo_commit 17 = .ok (.iload_n 1, 1) := by decide +kernel
theorem d_Mo_commit_18 : decode b_Mo_commit 18 = .ok (.aload_n 0, 1) := by decide +kernel
theorem d_Mo_commit_19 : decode b_Mo_commit 19 = .ok (.getfield 112, 3) := by decide +kernel
theorem d_Mo_commit_22 : decode b_Mo_commit 22 = .ok (.if_icmp .ge 72, 3) := by decide +kernel
theorem d_Mo_commit_94 : decode b_Mo_commit 94 = .ok (.aload_n 0, 1) := by decide +kernel
theorem d_Mo_commit_95 : decode b_Mo_commit 95 = .ok (.aload_n 0, 1) := by decide +kernel
theorem d_Mo_commit_96 : decode b_Mo_commit 96 = .ok (.getfield 115, 3) := by decide +kernel
theorem d_Mo_commit_99 : decode b_Mo_commit 99 = .ok (.aload_n 0, 1) := by decide +kernel
theorem d_Mo_commit_100 : decode b_Mo_commit 100 = .ok (.getfield 247, 3) := by decide +kernel
theorem d_Mo_commit_103 : decode b_Mo_commit 103 = .ok (.iconst 1, 1) := by decide +kernel
theorem d_Mo_commit_104 : decode b_Mo_commit 104 = .ok (.iadd, 1) := by decide +kernel
theorem d_Mo_commit_105 : decode b_Mo_commit 105 = .ok (.invokevirtual 250, 3) := by decide +kernel
theorem d_Mo_commit_108 : decode b_Mo_commit 108 = .ok (.istore_n 1, 1) := by decide +kernel
theorem d_Mo_commit_109 : decode b_Mo_commit 109 = .ok (.iload_n 1, 1) := by decide +kernel
theorem d_Mo_commit_110 : decode b_Mo_commit 110 = .ok (.bipush (-4), 2) := by decide +kernel
theorem d_Mo_commit_112 : decode b_Mo_commit 112 = .ok (.if_icmp .eq 9, 3) := by decide +kernel
theorem d_Mo_commit_121 : decode b_Mo_commit 121 = .ok (.iload_n 1, 1) := by decide +kernel
theorem d_Mo_commit_122 : decode b_Mo_commit 122 = .ok (.ireturn, 1) := by decide +kernel
theorem d_Mo_commit_115 : decode b_Mo_commit 115 = .ok (.iload_n 1, 1) := by decide +kernel
theorem d_Mo_commit_116 : decode b_Mo_commit 116 = .ok (.bipush (-3), 2) := by decide +kernel
theorem d_Mo_commit_118 : decode b_Mo_commit 118 = .ok (.if_icmp .ne 5, 3) := by decide +kernel
theorem d_Mo_commit_123 : decode b_Mo_commit 123 = .ok (.aload_n 0, 1) := by decide +kernel
theorem d_Mo_commit_124 : decode b_Mo_commit 124 = .ok (.dup, 1) := by decide +kernel
theorem d_Mo_commit_125 : decode b_Mo_commit 125 = .ok (.getfield 247, 3) := by decide +kernel
theorem d_Mo_commit_128 : decode b_Mo_commit 128 = .ok (.iconst 1, 1) := by decide +kernel
theorem d_Mo_commit_129 : decode b_Mo_commit 129 = .ok (.iadd, 1) := by decide +kernel
theorem d_Mo_commit_130 : decode b_Mo_commit 130 = .ok (.putfield 247, 3) := by decide +kernel
theorem d_Mo_commit_133 : decode b_Mo_commit 133 = .ok (.aload_n 0, 1) := by decide +kernel
theorem d_Mo_commit_134 : decode b_Mo_commit 134 = .ok (.getfield 247, 3) := by decide +kernel
theorem d_Mo_commit_137 : decode b_Mo_commit 137 = .ok (.ireturn, 1) := by decide +kernel
theorem d_Mo_commit_25 : decode b_Mo_commit 25 = .ok (.aload_n 0, 1) := by decide +kernel
theorem d_Mo_commit_26 : decode b_Mo_commit 26 = .ok (.getfield 24, 3) := by decide +kernel
theorem d_Mo_commit_29 : decode b_Mo_commit 29 = .ok (.iload_n 1, 1) := by decide +kernel
theorem d_Mo_commit_30 : decode b_Mo_commit 30 = .ok (.baload, 1) := by decide +kernel
theorem d_Mo_commit_31 : decode b_Mo_commit 31 = .ok (.ifCond .eq 57, 3) := by decide +kernel
theorem d_Mo_commit_88 : decode b_Mo_commit 88 = .ok (.iinc 1 1, 3) := by decide +kernel
theorem d_Mo_commit_91 : decode b_Mo_commit 91 = .ok (.goto (-74), 3) := by decide +kernel
theorem d_Mo_commit_34 : decode b_Mo_commit 34 = .ok (.aload_n 0, 1) := by decide +kernel
theorem d_Mo_commit_35 : decode b_Mo_commit 35 = .ok (.getfield 27, 3) := by decide +kernel
theorem d_Mo_commit_38 : decode b_Mo_commit 38 = .ok (.iload_n 1, 1) := by decide +kernel
theorem d_Mo_commit_39 : decode b_Mo_commit 39 = .ok (.baload, 1) := by decide +kernel
theorem d_Mo_commit_40 : decode b_Mo_commit 40 = .ok (.ifCond .ne 48, 3) := by decide +kernel
theorem d_Mo_commit_43 : decode b_Mo_commit 43 = .ok (.aload_n 0, 1) := by decide +kernel
theorem d_Mo_commit_44 : decode b_Mo_commit 44 = .ok (.getfield 38, 3) := by decide +kernel
theorem d_Mo_commit_47 : decode b_Mo_commit 47 = .ok (.iload_n 1, 1) := by decide +kernel
theorem d_Mo_commit_48 : decode b_Mo_commit 48 = .ok (.iaload, 1) := by decide +kernel
theorem d_Mo_commit_49 : decode b_Mo_commit 49 = .ok (.ifCond .eq 39, 3) := by decide +kernel
theorem d_Mo_commit_52 : decode b_Mo_commit 52 = .ok (.aload_n 0, 1) := by decide +kernel
theorem d_Mo_commit_53 : decode b_Mo_commit 53 = .ok (.getfield 44, 3) := by decide +kernel
theorem d_Mo_commit_56 : decode b_Mo_commit 56 = .ok (.iload_n 1, 1) := by decide +kernel
theorem d_Mo_commit_57 : decode b_Mo_commit 57 = .ok (.baload, 1) := by decide +kernel
theorem d_Mo_commit_58 : decode b_Mo_commit 58 = .ok (.ifCond .eq 6, 3) := by decide +kernel
theorem d_Mo_commit_64 : decode b_Mo_commit 64 = .ok (.aload_n 0, 1) := by decide +kernel
theorem d_Mo_commit_65 : decode b_Mo_commit 65 = .ok (.aload_n 0, 1) := by decide +kernel
theorem d_Mo_commit_66 : decode b_Mo_commit 66 = .ok (.getfield 115, 3) := by decide +kernel
theorem d_Mo_commit_69 : decode b_Mo_commit 69 = .ok (.iload_n 1, 1) := by decide +kernel
theorem d_Mo_commit_70 : decode b_Mo_commit 70 = .ok (.iconst 0, 1) := by decide +kernel
theorem d_Mo_commit_71 : decode b_Mo_commit 71 = .ok (.invokevirtual 244, 3) := by decide +kernel
theorem d_Mo_commit_74 : decode b_Mo_commit 74 = .ok (.istore_n 2, 1) := by decide +kernel
theorem d_Mo_commit_75 : decode b_Mo_commit 75 = .ok (.iload_n 2, 1) := by decide +kernel
theorem d_Mo_commit_76 : decode b_Mo_commit 76 = .ok (.ifCond .ge 5, 3) := by decide +kernel
theorem d_Mo_commit_81 : decode b_Mo_commit 81 = .ok (.aload_n 0, 1) := by decide +kernel
theorem d_Mo_commit_82 : decode b_Mo_commit 82 = .ok (.getfield 44, 3) := by decide +kernel
theorem d_Mo_commit_85 : decode b_Mo_commit 85 = .ok (.iload_n 1, 1) := by decide +kernel
theorem d_Mo_commit_86 : decode b_Mo_commit 86 = .ok (.iconst 1, 1) := by decide +kernel
theorem d_Mo_commit_87 : decode b_Mo_commit 87 = .ok (.bastore, 1) := by decide +kernel
theorem d_Mo_commit_79 : decode b_Mo_commit 79 = .ok (.iload_n 2, 1) := by decide +kernel
theorem d_Mo_commit_80 : decode b_Mo_commit 80 = .ok (.ireturn, 1) := by decide +kernel
theorem d_Mo_commit_61 : decode b_Mo_commit 61 = .ok (.goto 27, 3) := by decide +kernel
theorem d_Mo_commit_12 : decode b_Mo_commit 12 = .ok (.bipush (-4), 2) := by decide +kernel
theorem d_Mo_commit_14 : decode b_Mo_commit 14 = .ok (.ireturn, 1) := by decide +kernel
theorem d_Mo_compact_0 : decode b_Mo_compact 0 = .ok (.aload_n 0, 1) := by decide +kernel
theorem d_Mo_compact_1 : decode b_Mo_compact 1 = .ok (.iconst 0, 1) := by decide +kernel
theorem d_Mo_compact_2 : decode b_Mo_compact 2 = .ok (.putfield 109, 3) := by decide +kernel
theorem d_Mo_compact_5 : decode b_Mo_compact 5 = .ok (.aload_n 0, 1) := by decide +kernel
theorem d_Mo_compact_6 : decode b_Mo_compact 6 = .ok (.getfield 125, 3) := by decide +kernel
theorem d_Mo_compact_9 : decode b_Mo_compact 9 = .ok (.ifCond .eq 6, 3) := by decide +kernel
theorem d_Mo_compact_15 : decode b_Mo_compact 15 = .ok (.sipush 200, 3) := by decide +kernel
theorem d_Mo_compact_18 : decode b_Mo_compact 18 = .ok (.aload_n 0, 1) := by decide +kernel
theorem d_Mo_compact_19 : decode b_Mo_compact 19 = .ok (.getfield 115, 3) := by decide +kernel
theorem d_Mo_compact_22 : decode b_Mo_compact 22 = .ok (.isub, 1) := by decide +kernel
theorem d_Mo_compact_23 : decode b_Mo_compact 23 = .ok (.istore_n 1, 1) := by decide +kernel
theorem d_Mo_compact_24 : decode b_Mo_compact 24 = .ok (.iconst 0, 1) := by decide +kernel
theorem d_Mo_compact_25 : decode b_Mo_compact 25 = .ok (.istore_n 2, 1) := by decide +kernel
theorem d_Mo_compact_26 : decode b_Mo_compact 26 = .ok (.iload_n 2, 1) := by decide +kernel
theorem d_Mo_compact_27 : decode b_Mo_compact 27 = .ok (.sipush 200, 3) := by decide +kernel
theorem d_Mo_compact_30 : decode b_Mo_compact 30 = .ok (.if_icmp .ge 18, 3) := by decide +kernel
theorem d_Mo_compact_48 : decode b_Mo_compact 48 = .ok (.iconst 0, 1) := by decide +kernel
theorem d_Mo_compact_49 : decode b_Mo_compact 49 = .ok (.istore_n 2, 1) := by decide +kernel
theorem d_Mo_compact_50 : decode b_Mo_compact 50 = .ok (.iload_n 2, 1) := by decide +kernel
theorem d_Mo_compact_51 : decode b_Mo_compact 51 = .ok (.ldc 253, 2) := by decide +kernel
theorem d_Mo_compact_53 : decode b_Mo_compact 53 = .ok (.if_icmp .ge 22, 3) := by decide +kernel
theorem d_Mo_compact_75 : decode b_Mo_compact 75 = .ok (.iconst 0, 1) := by decide +kernel
theorem d_Mo_compact_76 : decode b_Mo_compact 76 = .ok (.istore_n 2, 1) := by decide +kernel
theorem d_Mo_compact_77 : decode b_Mo_compact 77 = .ok (.iload_n 2, 1) := by decide +kernel
theorem d_Mo_compact_78 : decode b_Mo_compact 78 = .ok (.aload_n 0, 1) := by decide +kernel
theorem d_Mo_compact_79 : decode b_Mo_compact 79 = .ok (.getfield 112, 3) := by decide +kernel
theorem d_Mo_compact_82 : decode b_Mo_compact 82 = .ok (.if_icmp .ge 21, 3) := by decide +kernel
theorem d_Mo_compact_103 : decode b_Mo_compact 103 = .ok (.iconst 0, 1) := by decide +kernel
theorem d_Mo_compact_104 : decode b_Mo_compact 104 = .ok (.istore_n 2, 1) := by decide +kernel
theorem d_Mo_compact_105 : decode b_Mo_compact 105 = .ok (.iconst 1, 1) := by decide +kernel
theorem d_Mo_compact_106 : decode b_Mo_compact 106 = .ok (.istore_n 3, 1) := by decide +kernel
theorem d_Mo_compact_107 : decode b_Mo_compact 107 = .ok (.iload_n 3, 1) := by decide +kernel
theorem d_Mo_compact_108 : decode b_Mo_compact 108 = .ok (.aload_n 0, 1) := by decide +kernel
theorem d_Mo_compact_109 : decode b_Mo_compact 109 = .ok (.getfield 112, 3) := by decide +kernel
theorem d_Mo_compact_112 : decode b_Mo_compact 112 = .ok (.if_icmp .ge 53, 3) := by decide +kernel
theorem d_Mo_compact_165 : decode b_Mo_compact 165 = .ok (.iload_n 2, 1) := by decide +kernel
theorem d_Mo_compact_166 : decode b_Mo_compact 166 = .ok (.ifCond .ne 10, 3) := by decide +kernel
theorem d_Mo_compact_176 : decode b_Mo_compact 176 = .ok (.iload_n 2, 1) := by decide +kernel
theorem d_Mo_compact_177 : decode b_Mo_compact 177 = .ok (.iconst 1, 1) := by decide +kernel
theorem d_Mo_compact_178 : decode b_Mo_compact 178 = .ok (.if_icmp .eq 33, 3) := by decide +kernel
theorem d_Mo_compact_181 : decode b_Mo_compact 181 = .ok (.iconst 0, 1) := by decide +kernel
theorem d_Mo_compact_182 : decode b_Mo_compact 182 = .ok (.istore_n 3, 1) := by decide +kernel
theorem d_Mo_compact_183 : decode b_Mo_compact 183 = .ok (.iload_n 3, 1) := by decide +kernel
theorem d_Mo_compact_184 : decode b_Mo_compact 184 = .ok (.aload_n 0, 1) := by decide +kernel
theorem d_Mo_compact_185 : decode b_Mo_compact 185 = .ok (.getfield 112, 3) := by decide +kernel
theorem d_Mo_compact_188 : decode b_Mo_compact 188 = .ok (.if_icmp .ge 21, 3) := by decide +kernel
theorem d_Mo_compact_209 : decode b_Mo_compact 209 = .ok (.iload_n 2, 1) := by decide +kernel
theorem d_Mo_compact_210 : decode b_Mo_compact 210 = .ok (.ireturn, 1) := by decide +kernel
theorem d_Mo_compact_191 : decode b_Mo_compact 191 = .ok (.aload_n 0, 1) := by decide +kernel
theorem d_Mo_compact_192 : decode b_Mo_compact 192 = .ok (.getfield 47, 3) := by decide +kernel
theorem d_Mo_compact_195 : decode b_Mo_compact 195 = .ok (.iload_n 3, 1) := by decide +kernel
theorem d_Mo_compact_196 : decode b_Mo_compact 196 = .ok (.aload_n 0, 1) := by decide +kernel
theorem d_Mo_compact_197 : decode b_Mo_compact 197 = .ok (.getfield 50, 3) := by decide +kernel
theorem d_Mo_compact_200 : decode b_Mo_compact 200 = .ok (.iload_n 3, 1) := by decide +kernel
theorem d_Mo_compact_201 : decode b_Mo_compact 201 = .ok (.iaload, 1) := by decide +kernel
theorem d_Mo_compact_202 : decode b_Mo_compact 202 = .ok (.iastore, 1) := by decide +kernel
theorem d_Mo_compact_203 : decode b_Mo_compact 203 = .ok (.iinc 3 1, 3) := by decide +kernel
theorem d_Mo_compact_206 : decode b_Mo_compact 206 = .ok (.goto (-23), 3) := by decide +kernel
theorem d_Mo_compact_169 : decode b_Mo_compact 169 = .ok (.aload_n 0, 1) := by decide +kernel
theorem d_Mo_compact_170 : decode b_Mo_compact 170 = .ok (.iload_n 1, 1) := by decide +kernel
theorem d_Mo_compact_171 : decode b_Mo_compact 171 = .ok (.iconst 1, 1) := by decide +kernel
theorem d_Mo_compact_172 : decode b_Mo_compact 172 = .ok (.invokevirtual 250, 3) := by decide +kernel
theorem d_Mo_compact_175 : decode b_Mo_compact 175 = .ok (.istore_n 2, 1) := by decide +kernel
theorem d_Mo_compact_211 : decode b_Mo_compact 211 = .ok (.iconst 1, 1) := by decide +kernel
theorem d_Mo_compact_212 : decode b_Mo_compact 212 = .ok (.istore_n 3, 1) := by decide +kernel
theorem d_Mo_compact_213 : decode b_Mo_compact 213 = .ok (.iload_n 3, 1) := by decide +kernel
theorem d_Mo_compact_214 : decode b_Mo_compact 214 = .ok (.aload_n 0, 1) := by decide +kernel
theorem d_Mo_compact_215 : decode b_Mo_compact 215 = .ok (.getfield 112, 3) := by decide +kernel
theorem d_Mo_compact_218 : decode b_Mo_compact 218 = .ok (.if_icmp .ge 47, 3) := by decide +kernel
theorem d_Mo_compact_265 : decode b_Mo_compact 265 = .ok (.aload_n 0, 1) := by decide +kernel
theorem d_Mo_compact_266 : decode b_Mo_compact 266 = .ok (.iload_n 1, 1) := by decide +kernel
theorem d_Mo_compact_267 : decode b_Mo_compact 267 = .ok (.putfield 115, 3) := by decide +kernel
theorem d_Mo_compact_270 : decode b_Mo_compact 270 = .ok (.iconst 0, 1) := by decide +kernel
theorem d_Mo_compact_271 : decode b_Mo_compact 271 = .ok (.istore_n 3, 1) := by decide +kernel
theorem d_Mo_compact_272 : decode b_Mo_compact 272 = .ok (.iload_n 3, 1) := by decide +kernel
theorem d_Mo_compact_273 : decode b_Mo_compact 273 = .ok (.sipush 200, 3) := by decide +kernel
theorem d_Mo_compact_276 : decode b_Mo_compact 276 = .ok (.if_icmp .ge 16, 3) := by decide +kernel
theorem d_Mo_compact_292 : decode b_Mo_compact 292 = .ok (.aload_n 0, 1) := by decide +kernel
theorem d_Mo_compact_293 : decode b_Mo_compact 293 = .ok (.iconst 1, 1) := by decide +kernel
theorem d_Mo_compact_294 : decode b_Mo_compact 294 = .ok (.putfield 247, 3) := by decide +kernel
theorem d_Mo_compact_297 : decode b_Mo_compact 297 = .ok (.aload_n 0, 1) := by decide +kernel
theorem d_Mo_compact_298 : decode b_Mo_compact 298 = .ok (.iconst 0, 1) := by decide +kernel
theorem d_Mo_compact_299 : decode b_Mo_compact 299 = .ok (.putfield 254, 3) := by decide +kernel
theorem d_Mo_compact_302 : decode b_Mo_compact 302 = .ok (.iconst 1, 1) := by decide +kernel
theorem d_Mo_compact_303 : decode b_Mo_compact 303 = .ok (.ireturn, 1) := by decide +kernel
theorem d_Mo_compact_279 : decode b_Mo_compact 279 = .ok (.aload_n 0, 1) := by decide +kernel
theorem d_Mo_compact_280 : decode b_Mo_compact 280 = .ok (.getfield 17, 3) := by decide +kernel
theorem d_Mo_compact_283 : decode b_Mo_compact 283 = .ok (.iload_n 3, 1) := by decide +kernel
theorem d_Mo_compact_284 : decode b_Mo_compact 284 = .ok (.iconst 0, 1) := by decide +kernel
theorem d_Mo_compact_285 : decode b_Mo_compact 285 = .ok (.bastore, 1) := by decide +kernel
theorem d_Mo_compact_286 : decode b_Mo_compact 286 = .ok (.iinc 3 1, 3) := by decide +kernel
theorem d_Mo_compact_289 : decode b_Mo_compact 289 = .ok (.goto (-17), 3) := by decide +kernel
theorem d_Mo_compact_221 : decode b_Mo_compact 221 = .ok (.aload_n 0, 1) := by decide +kernel
theorem d_Mo_compact_222 : decode b_Mo_compact 222 = .ok (.getfield 44, 3) := by decide +kernel
theorem d_Mo_compact_225 : decode b_Mo_compact 225 = .ok (.iload_n 3, 1) := by decide +kernel
theorem d_Mo_compact_226 : decode b_Mo_compact 226 = .ok (.aload_n 0, 1) := by decide +kernel
theorem d_Mo_compact_227 : decode b_Mo_compact 227 = .ok (.getfield 24, 3) := by decide +kernel
theorem d_Mo_compact_230 : decode b_Mo_compact 230 = .ok (.iload_n 3, 1) := by decide +kernel
theorem d_Mo_compact_231 : decode b_Mo_compact 231 = .ok (.baload, 1) := by decide +kernel
theorem d_Mo_compact_232 : decode b_Mo_compact 232 = .ok (.ifCond .eq 25, 3) := by decide +kernel
theorem d_Mo_compact_257 : decode b_Mo_compact 257 = .ok (.iconst 0, 1) := by decide +kernel
theorem d_Mo_compact_258 : decode b_Mo_compact 258 = .ok (.bastore, 1) := by decide +kernel
theorem d_Mo_compact_259 : decode b_Mo_compact 259 = .ok (.iinc 3 1, 3) := by decide +kernel
theorem d_Mo_compact_262 : decode b_Mo_compact 262 = .ok (.goto (-49), 3) := by decide +kernel
theorem d_Mo_compact_235 : decode b_Mo_compact 235 = .ok (.aload_n 0, 1) := by decide +kernel
theorem d_Mo_compact_236 : decode b_Mo_compact 236 = .ok (.getfield 27, 3) := by decide +kernel
theorem d_Mo_compact_239 : decode b_Mo_compact 239 = .ok (.iload_n 3, 1) := by decide +kernel
theorem d_Mo_compact_240 : decode b_Mo_compact 240 = .ok (.baload, 1) := by decide +kernel
theorem d_Mo_compact_241 : decode b_Mo_compact 241 = .ok (.ifCond .ne 16, 3) := by decide +kernel
theorem d_Mo_compact_244 : decode b_Mo_compact 244 = .ok (.aload_n 0, 1) := by decide +kernel
theorem d_Mo_compact_245 : decode b_Mo_compact 245 = .ok (.getfield 38, 3) := by decide +kernel
theorem d_Mo_compact_248 : decode b_Mo_compact 248 = .ok (.iload_n 3, 1) := by decide +kernel
theorem d_Mo_compact_249 : decode b_Mo_compact 249 = .ok (.iaload, 1) := by decide +kernel
theorem d_Mo_compact_250 : decode b_Mo_compact 250 = .ok (.ifCond .le 7, 3) := by decide +kernel
theorem d_Mo_compact_253 : decode b_Mo_compact 253 = .ok (.iconst 1, 1) := by decide +kernel
theorem d_Mo_compact_254 : decode b_Mo_compact 254 = .ok (.goto 4, 3) := by decide +kernel
theorem d_Mo_compact_115 : decode b_Mo_compact 115 = .ok (.iload_n 2, 1) := by decide +kernel
theorem d_Mo_compact_116 : decode b_Mo_compact 116 = .ok (.ifCond .ne 49, 3) := by decide +kernel
theorem d_Mo_compact_119 : decode b_Mo_compact 119 = .ok (.aload_n 0, 1) := by decide +kernel
theorem d_Mo_compact_120 : decode b_Mo_compact 120 = .ok (.getfield 24, 3) := by decide +kernel
theorem d_Mo_compact_123 : decode b_Mo_compact 123 = .ok (.iload_n 3, 1) := by decide +kernel
theorem d_Mo_compact_124 : decode b_Mo_compact 124 = .ok (.baload, 1) := by decide +kernel
theorem d_Mo_compact_125 : decode b_Mo_compact 125 = .ok (.ifCond .eq 34, 3) := by decide +kernel
theorem d_Mo_compact_159 : decode b_Mo_compact 159 = .ok (.iinc 3 1, 3) := by decide +kernel
theorem d_Mo_compact_162 : decode b_Mo_compact 162 = .ok (.goto (-55), 3) := by decide +kernel
theorem d_Mo_compact_128 : decode b_Mo_compact 128 = .ok (.aload_n 0, 1) := by decide +kernel
theorem d_Mo_compact_129 : decode b_Mo_compact 129 = .ok (.getfield 27, 3) := by decide +kernel
theorem d_Mo_compact_132 : decode b_Mo_compact 132 = .ok (.iload_n 3, 1) := by decide +kernel
theorem d_Mo_compact_133 : decode b_Mo_compact 133 = .ok (.baload, 1) := by decide +kernel
theorem d_Mo_compact_134 : decode b_Mo_compact 134 = .ok (.ifCond .ne 25, 3) := by decide +kernel
theorem d_Mo_compact_137 : decode b_Mo_compact 137 = .ok (.aload_n 0, 1) := by decide +kernel
theorem d_Mo_compact_138 : decode b_Mo_compact 138 = .ok (.getfield 38, 3) := by decide +kernel
theorem d_Mo_compact_141 : decode b_Mo_compact 141 = .ok (.iload_n 3, 1) := by decide +kernel
theorem d_Mo_compact_142 : decode b_Mo_compact 142 = .ok (.iaload, 1) := by decide +kernel
theorem d_Mo_compact_143 : decode b_Mo_compact 143 = .ok (.ifCond .le 16, 3) := by decide +kernel
theorem d_Mo_compact_146 : decode b_Mo_compact 146 = .ok (.aload_n 0, 1) := by decide +kernel
theorem d_Mo_compact_147 : decode b_Mo_compact 147 = .ok (.iload_n 1, 1) := by decide +kernel
theorem d_Mo_compact_148 : decode b_Mo_compact 148 = .ok (.iload_n 3, 1) := by decide +kernel
theorem d_Mo_compact_149 : decode b_Mo_compact 149 = .ok (.aload_n 0, 1) := by decide +kernel
theorem d_Mo_compact_150 : decode b_Mo_compact 150 = .ok (.getfield 44, 3) := by decide +kernel
theorem d_Mo_compact_153 : decode b_Mo_compact 153 = .ok (.iload_n 3, 1) := by decide +kernel
theorem d_Mo_compact_154 : decode b_Mo_compact 154 = .ok (.baload, 1) := by decide +kernel
theorem d_Mo_compact_155 : decode b_Mo_compact 155 = .ok (.invokevirtual 244, 3) := by decide +kernel
theorem d_Mo_compact_158 : decode b_Mo_compact 158 = .ok (.istore_n 2, 1) := by decide +kernel
theorem d_Mo_compact_85 : decode b_Mo_compact 85 = .ok (.aload_n 0, 1) := by decide +kernel
theorem d_Mo_compact_86 : decode b_Mo_compact 86 = .ok (.getfield 50, 3) := by decide +kernel
theorem d_Mo_compact_89 : decode b_Mo_compact 89 = .ok (.iload_n 2, 1) := by decide +kernel
theorem d_Mo_compact_90 : decode b_Mo_compact 90 = .ok (.aload_n 0, 1) := by decide +kernel
theorem d_Mo_compact_91 : decode b_Mo_compact 91 = .ok (.getfield 47, 3) := by decide +kernel
theorem d_Mo_compact_94 : decode b_Mo_compact 94 = .ok (.iload_n 2, 1) := by decide +kernel
theorem d_Mo_compact_95 : decode b_Mo_compact 95 = .ok (.iaload, 1) := by decide +kernel
theorem d_Mo_compact_96 : decode b_Mo_compact 96 = .ok (.iastore, 1) := by decide +kernel
theorem d_Mo_compact_97 : decode b_Mo_compact 97 = .ok (.iinc 2 1, 3) := by decide +kernel
theorem d_Mo_compact_100 : decode b_Mo_compact 100 = .ok (.goto (-23), 3) := by decide +kernel
theorem d_Mo_compact_56 : decode b_Mo_compact 56 = .ok (.aload_n 0, 1) := by decide +kernel
theorem d_Mo_compact_57 : decode b_Mo_compact 57 = .ok (.getfield 8, 3) := by decide +kernel
theorem d_Mo_compact_60 : decode b_Mo_compact 60 = .ok (.sipush 2048, 3) := by decide +kernel
theorem d_Mo_compact_63 : decode b_Mo_compact 63 = .ok (.iload_n 1, 1) := by decide +kernel
theorem d_Mo_compact_64 : decode b_Mo_compact 64 = .ok (.imul, 1) := by decide +kernel
theorem d_Mo_compact_65 : decode b_Mo_compact 65 = .ok (.iload_n 2, 1) := by decide +kernel
theorem d_Mo_compact_66 : decode b_Mo_compact 66 = .ok (.iadd, 1) := by decide +kernel
theorem d_Mo_compact_67 : decode b_Mo_compact 67 = .ok (.iconst 0, 1) := by decide +kernel
theorem d_Mo_compact_68 : decode b_Mo_compact 68 = .ok (.bastore, 1) := by decide +kernel
theorem d_Mo_compact_69 : decode b_Mo_compact 69 = .ok (.iinc 2 1, 3) := by decide +kernel
theorem d_Mo_compact_72 : decode b_Mo_compact 72 = .ok (.goto (-22), 3) := by decide +kernel
theorem d_Mo_compact_33 : decode b_Mo_compact 33 = .ok (.aload_n 0, 1) := by decide +kernel
theorem d_Mo_compact_34 : decode b_Mo_compact 34 = .ok (.getfield 14, 3) := by decide +kernel
theorem d_Mo_compact_37 : decode b_Mo_compact 37 = .ok (.iload_n 1, 1) := by decide +kernel
theorem d_Mo_compact_38 : decode b_Mo_compact 38 = .ok (.iload_n 2, 1) := by decide +kernel
theorem d_Mo_compact_39 : decode b_Mo_compact 39 = .ok (.iadd, 1) := by decide +kernel
theorem d_Mo_compact_40 : decode b_Mo_compact 40 = .ok (.iconst 0, 1) := by decide +kernel
theorem d_Mo_compact_41 : decode b_Mo_compact 41 = .ok (.bastore, 1) := by decide +kernel
theorem d_Mo_compact_42 : decode b_Mo_compact 42 = .ok (.iinc 2 1, 3) := by decide +kernel
theorem d_Mo_compact_45 : decode b_Mo_compact 45 = .ok (.goto (-19), 3) := by decide +kernel
theorem d_Mo_compact_12 : decode b_Mo_compact 12 = .ok (.bipush (-4), 2) := by decide +kernel
theorem d_Mo_compact_14 : decode b_Mo_compact 14 = .ok (.ireturn, 1) := by decide +kernel
set_option maxHeartbeats 4000000 in
set_option maxRecDepth 100000 in
theorem m_commit (l : Launch) (D : va_G) (t : Nat → ClassId) (G : hG) (ak av : Nat → Nat) (h : hM) (τ : tM) (n : Nat) (m9 : Nat) (A : Nat → Nat) (th sd lo le wr ma nu di pl se wg op : Int32) (hn : n ≤ 200) (hT : TI τ t n h) (T_m9 : τ m9 = (20, 0)) (F_m9 : h m9 = some (.inr (9, mf A n th sd lo le wr ma nu di pl se wg op))) (hA : ∀ i, i < 28 → τ (A i) = (30, i)) (hmk : mOk sd lo ma se op) (hTm : treeM (aI h (A 4)) (aI h (A 6)) ma.toInt.toNat) (hEx : exM (aI h (A 4)) (aI h (A 5)) (aI h (A 8)) (aI h (A 10)) (aI h (A 11)) ma.toInt.toNat n) : Met l y_Mo_commit (.code y_Mo_commit b_Mo_commit 3 (some .int) :: lw_g) { frames := 8, cells := 0, slots := 0, locals := 203 } (hP (kE D t G ak av) D vwCl G h [.ref m9]) (hQi D vwCl G (fun r h' => TI τ t n h' ∧ kf τ [(30, 1), (30, 0), (30, 3), (30, 14), (30, 15), (30, 16), (30, 13), (30, 11), (30, 10)] [m9] h h' ∧ (∃ (th' : Int32) (lo' : Int32) (le' : Int32) (wr' : Int32) (nu' : Int32) (di' : Int32), h' m9 = some (.inr (9, mf A n th' sd lo' le' wr' ma nu' di' pl se wg op)) ∧ mOk sd lo' ma se op ∧ (treeM (aI h' (A 4)) (aI h' (A 6)) ma.toInt.toNat ∧ exM (aI h' (A 4)) (aI h' (A 5)) (aI h' (A 8)) (aI h' (A 10)) (aI h' (A 11)) ma.toInt.toNat n)))) 0 0 G.P := by
  refine Met.ofW (cc := b_Mo_commit) (maxL := 3) (ret := (some .int)) (by decide) rfl ?_
  intro p e s m args below meth c s₁ Bd hml hv
  obtain ⟨ha, hE, hH⟩ := hv
  have hx := Bd.exec
  have hb := Bd.bytes
  have hr := Bd.returns
  have hts : ∀ w ∈ lw_g, w.before args s = true := fun w hw => atoms_spec (ws := (.code y_Mo_commit b_Mo_commit 3 (some .int) :: lw_g)) Bd.pre w (List.mem_cons_of_mem _ hw)
  have hown : s.vm.findClass R_Mo = some m.cls := findClass_of_methodNamed Bd.named
  have hlocks := Bd.notSynchronized
  have hK := hE.1
  have hH0 := hH
  have hLo : hLc G.P [] := hLc_nil
  have hz : s.heap.size ≤ s.heap.size := Nat.le_refl _
  have hl := lv_entry [.ref m9] (n := 3) (Nat.le_of_ble_eq_true rfl)
  rw [show entryFrame m args 3 = F0 m 0 ((lg_sl [.ref m9] ++ List.replicate (3 - (lg_sl [.ref m9]).length) Slot.unset).toArray) [] from (by rw [ha]; exact lg_entry_eq m [.ref m9] 3)]
  generalize (lg_sl [.ref m9] ++ List.replicate (3 - (lg_sl [.ref m9]).length) Slot.unset).toArray = ls at hl ⊢
  have hl : lv_has ls 3 [(0, .ref m9)] := hl
  have hkf : kf τ [(30, 1), (30, 0), (30, 3), (30, 14), (30, 15), (30, 16), (30, 13), (30, 11), (30, 10)] [m9] h h := kf_rf
  obtain ⟨hsd, hlo, hma, hse, hop⟩ := id hmk
  have inI : (nI n).toInt = n := nI_toInt (by omega)
  obtain ⟨g_1, F_A4, c_2⟩ := TI_arZ (L := 700) hT (hA 4 (by decide)) rfl rfl
  obtain ⟨g_3, F_A5, c_4⟩ := TI_arZ (L := 700) hT (hA 5 (by decide)) rfl rfl
  obtain ⟨g_5, F_A6⟩ := TI_arI (L := 700) hT (hA 6 (by decide)) rfl rfl
  obtain ⟨g_6, F_A8⟩ := TI_arI (L := 700) hT (hA 8 (by decide)) rfl rfl
  obtain ⟨g_7, F_A10, c_8⟩ := TI_arZ (L := 700) hT (hA 10 (by decide)) rfl rfl
  obtain ⟨g_9, F_A11⟩ := TI_arI (L := 700) hT (hA 11 (by decide)) rfl rfl
  rw [aI_of F_A4, aI_of F_A6] at hTm
  rw [aI_of F_A4, aI_of F_A5, aI_of F_A8, aI_of F_A10, aI_of F_A11] at hEx
  obtain ⟨g_10, F_A7⟩ := TI_arJ (L := 700) hT (hA 7 (by decide)) rfl rfl
  refine lv_aload_n hx hb d_Mo_commit_0 rfl (lv_at hl 0 rfl) ?_
  refine lv_iconst (v := 0) hx hb d_Mo_commit_1 (by decide) ?_
  refine hm_put (ci := 9) (v := .int 0) (ty := .int) (C := R_Mo) (T := F_Mo) (N := 41) hx hb hts ig_Mo t_Mo tk_Mo nm_Mo hown hK hH hLo F_m9 rfl 0 (by decide) (hts _ mw_594) (fun _ h9 => h9) rfl (by decide +kernel) rfl rfl (Nat.le_of_ble_eq_true rfl) d_Mo_commit_2 (fun H_11 locs hH z_12 hLo => ?_)
  have hz : s.heap.size ≤ H_11.size := by rw [z_12]; exact hz
  obtain ⟨h_13, e_14⟩ : ∃ z, z = hu h m9 (.inr (9, mf A n 0 sd lo le wr ma nu di pl se wg op)) := ⟨_, rfl⟩
  have hH : hm D vwCl G h_13 H_11 := by rw [e_14]; exact hH
  have F_A4 : h_13 (A 4) = some (.inl ((t 1), 700, .inl g_1)) := by rw [e_14, hu_n (tne (hA 4 (by decide)) T_m9 (by decide))]; exact F_A4
  have F_A5 : h_13 (A 5) = some (.inl ((t 1), 700, .inl g_3)) := by rw [e_14, hu_n (tne (hA 5 (by decide)) T_m9 (by decide))]; exact F_A5
  have F_A6 : h_13 (A 6) = some (.inl ((t 2), 700, .inl g_5)) := by rw [e_14, hu_n (tne (hA 6 (by decide)) T_m9 (by decide))]; exact F_A6
  have F_A8 : h_13 (A 8) = some (.inl ((t 2), 700, .inl g_6)) := by rw [e_14, hu_n (tne (hA 8 (by decide)) T_m9 (by decide))]; exact F_A8
  have F_A10 : h_13 (A 10) = some (.inl ((t 1), 700, .inl g_7)) := by rw [e_14, hu_n (tne (hA 10 (by decide)) T_m9 (by decide))]; exact F_A10
  have F_A11 : h_13 (A 11) = some (.inl ((t 2), 700, .inl g_9)) := by rw [e_14, hu_n (tne (hA 11 (by decide)) T_m9 (by decide))]; exact F_A11
  have F_A7 : h_13 (A 7) = some (.inl ((t 3), 700, .inr (.inl g_10))) := by rw [e_14, hu_n (tne (hA 7 (by decide)) T_m9 (by decide))]; exact F_A7
  have F_m9 : h_13 m9 = some (.inr (9, mf A n 0 sd lo le wr ma nu di pl se wg op)) := by rw [e_14]; exact hu_s _ _ _
  have hT : TI τ t n h_13 := by rw [e_14]; exact TI_put hT T_m9 (by decide) ⟨_, rfl⟩
  have hkf : kf τ [(30, 1), (30, 0), (30, 3), (30, 14), (30, 15), (30, 16), (30, 13), (30, 11), (30, 10)] [m9] h h_13 := by rw [e_14]; exact kf_putM hkf (by simp)
  refine lv_aload_n hx hb d_Mo_commit_5 rfl (lv_at hl 0 rfl) ?_
  refine hm_get (ci := 9) (v := .int lo) (C := R_Mo) (T := F_Mo) (N := 41) hx hb hts ig_Mo hown hK hH F_m9 rfl 6 (by decide) (hts _ mw_593) (fun _ h9 => h9) rfl d_Mo_commit_6 ?_
  refine lv_if_eq (tgt := 15) hx hb d_Mo_commit_9 (by decide) (fun hc_15 => ?_) (fun hc_15 => ?_)
  · skip
    have ic_16 : lo.toInt = 0 := congrArg Int32.toInt hc_15
    refine lv_iconst (v := 1) hx hb d_Mo_commit_15 (by decide) ?_
    refine lv_istore_n (lv' := [(1, .int 1), (0, .ref m9)]) hx hb d_Mo_commit_16 rfl hl (by decide) rfl (fun ls hl => ?_)
    refine hm_loop (fun k17 ls H locs hh17 => ∃ (i9 : Int32) (wr8 : Int32) (lo8 : Int32) (le8 : Int32) (iw8 : Nat → Int32) (ex8 : Nat → Int32), k17 = mU i9 ∧ lv_has ls 3 [(0, .ref m9), (1, .int i9)] ∧ hm D vwCl G hh17 H ∧ s.heap.size ≤ H.size ∧ hLc G.P locs ∧ hh17 (A 4) = some (.inl ((t 1), 700, .inl g_1)) ∧ hh17 (A 5) = some (.inl ((t 1), 700, .inl g_3)) ∧ hh17 (A 6) = some (.inl ((t 2), 700, .inl g_5)) ∧ hh17 (A 7) = some (.inl ((t 3), 700, .inr (.inl g_10))) ∧ hh17 (A 8) = some (.inl ((t 2), 700, .inl g_6)) ∧ (TI τ t n hh17) ∧ (kf τ [(30, 1), (30, 0), (30, 3), (30, 14), (30, 15), (30, 16), (30, 13), (30, 11), (30, 10)] [m9] h hh17) ∧ (hh17 m9 = some (.inr (9, mf A n 0 sd lo8 le8 wr8 ma nu di pl se wg op))) ∧ (zb lo8) ∧ (hh17 (A 10) = some (.inl ((t 1), 700, .inl iw8))) ∧ (zbF iw8) ∧ (hh17 (A 11) = some (.inl ((t 2), 700, .inl ex8))) ∧ (1 ≤ i9.toInt) ∧ (exM g_1 g_3 g_6 iw8 ex8 ma.toInt.toNat n)) ?_ (hh := h_13) ⟨1, wr, lo, le, g_7, g_9, rfl, (lv_sub hl [1, 0] rfl), hH, hz, hLo, F_A4, F_A5, F_A6, F_A7, F_A8, hT, hkf, F_m9, hlo, F_A10, c_8, F_A11, (by decide), hEx⟩
    rintro k17 ls H locs hh17 ⟨i9, wr8, lo8, le8, iw8, ex8, hk17, hl, hH, hz, hLo, F_A4, F_A5, F_A6, F_A7, F_A8, hT, hkf, F_m9, hlo8, F_A10, c_iw8, F_A11, I_i9, hEx⟩ ih17
    refine lv_iload_n hx hb d_Mo_commit_17 rfl (lv_at hl 1 rfl) ?_
    refine lv_aload_n hx hb d_Mo_commit_18 rfl (lv_at hl 0 rfl) ?_
    refine hm_get (ci := 9) (v := .int ma) (C := R_Mo) (T := F_Mo) (N := 41) hx hb hts ig_Mo hown hK hH F_m9 rfl 10 (by decide) (hts _ mw_595) (fun _ h9 => h9) rfl d_Mo_commit_19 ?_
    refine lv_icmp_ge (tgt := 94) hx hb d_Mo_commit_22 (by decide) (fun hc_17 => ?_) (fun hc_17 => ?_)
    · skip
      have ic_18 : ma.toInt ≤ i9.toInt := iLe hc_17
      refine lv_aload_n hx hb d_Mo_commit_94 rfl (lv_at hl 0 rfl) ?_
      refine lv_aload_n hx hb d_Mo_commit_95 rfl (lv_at hl 0 rfl) ?_
      refine hm_get (ci := 9) (v := .int sd) (C := R_Mo) (T := F_Mo) (N := 41) hx hb hts ig_Mo hown hK hH F_m9 rfl 2 (by decide) (hts _ mw_586) (fun _ h9 => h9) rfl d_Mo_commit_96 ?_
      refine lv_aload_n hx hb d_Mo_commit_99 rfl (lv_at hl 0 rfl) ?_
      refine hm_get (ci := 9) (v := .int nu) (C := R_Mo) (T := F_Mo) (N := 41) hx hb hts ig_Mo hown hK hH F_m9 rfl 20 (by decide) (hts _ mw_722) (fun _ h9 => h9) rfl d_Mo_commit_100 ?_
      refine lv_iconst (v := 1) hx hb d_Mo_commit_103 (by decide) ?_
      refine lv_iadd hx hb d_Mo_commit_104 ?_
      refine lv_topi (fun v_19 e_20 => ?_)
      refine hm_calli (va_runV (As := [.int sd, .int v_19]) (b := m9) (rest := []) ⟨hx, hb, hml, hown, hts⟩ (m_session l D t G ak av hh17 τ n m9 sd v_19 A (0 : Int32) sd lo8 le8 wr8 ma nu di pl se wg op   hn hT T_m9  F_m9 hA ⟨hsd, hlo8, (by omega), ⟨by omega, by omega⟩, ⟨by omega, by omega⟩⟩ (by rw [aI_of F_A4, aI_of F_A6]; exact hTm) hsd) ⟨cw9B 2 hts mw_723 mw_724 mw_579 rfl rfl (by decide +kernel) ⟨Nat.le_of_ble_eq_true rfl, Nat.le_of_ble_eq_true rfl⟩, hts _ mw_725, hts _ mw_726⟩ (hP_V (q := (R_Mo, F_Mo, 41)) kE_ok hE hK hH F_m9 rfl) rfl rfl hl.1 rfl (lv_room (Nat.le_of_ble_eq_true rfl)) d_Mo_commit_105 ⟨Nat.le_of_ble_eq_true rfl, Nat.le_of_ble_eq_true rfl⟩) hLo (fun r_21 h_22 H_23 locs hp_25 hH z_24 hLo => ?_)
      have hz : s.heap.size ≤ H_23.size := Nat.le_trans hz z_24
      have hT0 := hT
      obtain ⟨hT, kf_27, xp_26⟩ := hp_25
      have F_A4 : h_22 (A 4) = some (.inl ((t 1), 700, .inl g_1)) := kf_at kf_27 (hA 4 (by decide)) (by decide) (tncF (by decide) (tncF (by decide) (tncF (by decide) (tncF (by decide) (tncF (by decide) (tncF (by decide) (tncF (by decide) tn0))))))) (nmc (tne (hA 4 (by decide)) T_m9 (by decide)) nm0) F_A4
      have F_A5 : h_22 (A 5) = some (.inl ((t 1), 700, .inl g_3)) := kf_at kf_27 (hA 5 (by decide)) (by decide) (tncF (by decide) (tncF (by decide) (tncF (by decide) (tncF (by decide) (tncF (by decide) (tncF (by decide) (tncF (by decide) tn0))))))) (nmc (tne (hA 5 (by decide)) T_m9 (by decide)) nm0) F_A5
      have F_A6 : h_22 (A 6) = some (.inl ((t 2), 700, .inl g_5)) := kf_at kf_27 (hA 6 (by decide)) (by decide) (tncF (by decide) (tncF (by decide) (tncF (by decide) (tncF (by decide) (tncF (by decide) (tncF (by decide) (tncF (by decide) tn0))))))) (nmc (tne (hA 6 (by decide)) T_m9 (by decide)) nm0) F_A6
      have F_A7 : h_22 (A 7) = some (.inl ((t 3), 700, .inr (.inl g_10))) := kf_at kf_27 (hA 7 (by decide)) (by decide) (tncF (by decide) (tncF (by decide) (tncF (by decide) (tncF (by decide) (tncF (by decide) (tncF (by decide) (tncF (by decide) tn0))))))) (nmc (tne (hA 7 (by decide)) T_m9 (by decide)) nm0) F_A7
      have F_A8 : h_22 (A 8) = some (.inl ((t 2), 700, .inl g_6)) := kf_at kf_27 (hA 8 (by decide)) (by decide) (tncF (by decide) (tncF (by decide) (tncF (by decide) (tncF (by decide) (tncF (by decide) (tncF (by decide) (tncF (by decide) tn0))))))) (nmc (tne (hA 8 (by decide)) T_m9 (by decide)) nm0) F_A8
      have F_A10 : h_22 (A 10) = some (.inl ((t 1), 700, .inl iw8)) := kf_at kf_27 (hA 10 (by decide)) (by decide) (tncF (by decide) (tncF (by decide) (tncF (by decide) (tncF (by decide) (tncF (by decide) (tncF (by decide) (tncF (by decide) tn0))))))) (nmc (tne (hA 10 (by decide)) T_m9 (by decide)) nm0) F_A10
      have F_A11 : h_22 (A 11) = some (.inl ((t 2), 700, .inl ex8)) := kf_at kf_27 (hA 11 (by decide)) (by decide) (tncF (by decide) (tncF (by decide) (tncF (by decide) (tncF (by decide) (tncF (by decide) (tncF (by decide) (tncF (by decide) tn0))))))) (nmc (tne (hA 11 (by decide)) T_m9 (by decide)) nm0) F_A11
      have hkf : kf τ [(30, 1), (30, 0), (30, 3), (30, 14), (30, 15), (30, 16), (30, 13), (30, 11), (30, 10)] [m9] h h_22 := kf_tr hkf kf_27 (List.forall_mem_cons.mpr ⟨List.mem_cons_self, List.forall_mem_cons.mpr ⟨(List.mem_cons_of_mem _ List.mem_cons_self), List.forall_mem_cons.mpr ⟨(List.mem_cons_of_mem _ (List.mem_cons_of_mem _ List.mem_cons_self)), List.forall_mem_cons.mpr ⟨(List.mem_cons_of_mem _ (List.mem_cons_of_mem _ (List.mem_cons_of_mem _ List.mem_cons_self))), List.forall_mem_cons.mpr ⟨(List.mem_cons_of_mem _ (List.mem_cons_of_mem _ (List.mem_cons_of_mem _ (List.mem_cons_of_mem _ List.mem_cons_self)))), List.forall_mem_cons.mpr ⟨(List.mem_cons_of_mem _ (List.mem_cons_of_mem _ (List.mem_cons_of_mem _ (List.mem_cons_of_mem _ (List.mem_cons_of_mem _ List.mem_cons_self))))), List.forall_mem_cons.mpr ⟨(List.mem_cons_of_mem _ (List.mem_cons_of_mem _ (List.mem_cons_of_mem _ (List.mem_cons_of_mem _ (List.mem_cons_of_mem _ (List.mem_cons_of_mem _ List.mem_cons_self)))))), List.forall_mem_nil _⟩⟩⟩⟩⟩⟩⟩) (List.forall_mem_cons.mpr ⟨Or.inl (by simp), List.forall_mem_nil _⟩)
      obtain ⟨lo_28, le_29, wr_30, di_31, F_m9, mk_32⟩ := xp_26
      obtain ⟨m_34, m_35, m_36, m_37, m_38⟩ := mk_32
      refine lv_istore_n (lv' := [(1, .int r_21), (0, .ref m9)]) hx hb d_Mo_commit_108 rfl hl (by decide) rfl (fun ls hl => ?_)
      refine lv_iload_n hx hb d_Mo_commit_109 rfl (lv_at hl 0 rfl) ?_
      refine lv_bipush (v := -4) hx hb d_Mo_commit_110 (by decide) ?_
      refine lv_icmp_eq (tgt := 121) hx hb d_Mo_commit_112 (by decide) (fun hc_39 => ?_) (fun hc_39 => ?_)
      · skip
        have ic_40 : r_21.toInt = (-4) := congrArg Int32.toInt hc_39
        refine lv_iload_n hx hb d_Mo_commit_121 rfl (lv_at hl 0 rfl) ?_
        exact W.iret (v := r_21) hx hb hr (fun t9 ht hW => ⟨r_21, h_22, rfl, ⟨hT, hkf, ⟨(0 : Int32), lo_28, le_29, wr_30, nu, di_31, F_m9, ⟨m_34, m_35, (by omega), ⟨by omega, by omega⟩, ⟨by omega, by omega⟩⟩, ⟨by rw [aI_of F_A4, aI_of F_A6]; exact hTm, by rw [aI_of F_A4, aI_of F_A5, aI_of F_A8, aI_of F_A10, aI_of F_A11]; exact hEx⟩⟩⟩, by rw [ht]; exact hH, by rw [ht]; exact hz⟩) hLo d_Mo_commit_122
      · skip
        refine lv_iload_n hx hb d_Mo_commit_115 rfl (lv_at hl 0 rfl) ?_
        refine lv_bipush (v := -3) hx hb d_Mo_commit_116 (by decide) ?_
        refine lv_icmp_ne (tgt := 123) hx hb d_Mo_commit_118 (by decide) (fun hc_41 => ?_) (fun hc_41 => ?_)
        · skip
          refine lv_aload_n hx hb d_Mo_commit_123 rfl (lv_at hl 1 rfl) ?_
          refine lv_dup hx hb d_Mo_commit_124 rfl ?_
          refine hm_get (ci := 9) (v := .int nu) (C := R_Mo) (T := F_Mo) (N := 41) hx hb hts ig_Mo hown hK hH F_m9 rfl 20 (by decide) (hts _ mw_722) (fun _ h9 => h9) rfl d_Mo_commit_125 ?_
          refine lv_iconst (v := 1) hx hb d_Mo_commit_128 (by decide) ?_
          refine lv_iadd hx hb d_Mo_commit_129 ?_
          refine lv_topi (fun v_42 e_43 => ?_)
          obtain rfl : v_19 = v_42 := (e_43.trans (e_20.symm)).symm
          refine hm_put (ci := 9) (v := .int v_19) (ty := .int) (C := R_Mo) (T := F_Mo) (N := 41) hx hb hts ig_Mo t_Mo tk_Mo nm_Mo hown hK hH hLo F_m9 rfl 20 (by decide) (hts _ mw_722) (fun _ h9 => h9) rfl (by decide +kernel) rfl rfl (Nat.le_of_ble_eq_true rfl) d_Mo_commit_130 (fun H_44 locs hH z_45 hLo => ?_)
          have hz : s.heap.size ≤ H_44.size := by rw [z_45]; exact hz
          obtain ⟨h_46, e_47⟩ : ∃ z, z = hu h_22 m9 (.inr (9, mf A n 0 sd lo_28 le_29 wr_30 ma v_19 di_31 pl se wg op)) := ⟨_, rfl⟩
          have hH : hm D vwCl G h_46 H_44 := by rw [e_47]; exact hH
          have F_A4 : h_46 (A 4) = some (.inl ((t 1), 700, .inl g_1)) := by rw [e_47, hu_n (tne (hA 4 (by decide)) T_m9 (by decide))]; exact F_A4
          have F_A5 : h_46 (A 5) = some (.inl ((t 1), 700, .inl g_3)) := by rw [e_47, hu_n (tne (hA 5 (by decide)) T_m9 (by decide))]; exact F_A5
          have F_A6 : h_46 (A 6) = some (.inl ((t 2), 700, .inl g_5)) := by rw [e_47, hu_n (tne (hA 6 (by decide)) T_m9 (by decide))]; exact F_A6
          have F_A7 : h_46 (A 7) = some (.inl ((t 3), 700, .inr (.inl g_10))) := by rw [e_47, hu_n (tne (hA 7 (by decide)) T_m9 (by decide))]; exact F_A7
          have F_A8 : h_46 (A 8) = some (.inl ((t 2), 700, .inl g_6)) := by rw [e_47, hu_n (tne (hA 8 (by decide)) T_m9 (by decide))]; exact F_A8
          have F_A10 : h_46 (A 10) = some (.inl ((t 1), 700, .inl iw8)) := by rw [e_47, hu_n (tne (hA 10 (by decide)) T_m9 (by decide))]; exact F_A10
          have F_A11 : h_46 (A 11) = some (.inl ((t 2), 700, .inl ex8)) := by rw [e_47, hu_n (tne (hA 11 (by decide)) T_m9 (by decide))]; exact F_A11
          have F_m9 : h_46 m9 = some (.inr (9, mf A n 0 sd lo_28 le_29 wr_30 ma v_19 di_31 pl se wg op)) := by rw [e_47]; exact hu_s _ _ _
          have hT : TI τ t n h_46 := by rw [e_47]; exact TI_put hT T_m9 (by decide) ⟨_, rfl⟩
          have hkf : kf τ [(30, 1), (30, 0), (30, 3), (30, 14), (30, 15), (30, 16), (30, 13), (30, 11), (30, 10)] [m9] h h_46 := by rw [e_47]; exact kf_putM hkf (by simp)
          refine lv_aload_n hx hb d_Mo_commit_133 rfl (lv_at hl 1 rfl) ?_
          refine hm_get (ci := 9) (v := .int v_19) (C := R_Mo) (T := F_Mo) (N := 41) hx hb hts ig_Mo hown hK hH F_m9 rfl 20 (by decide) (hts _ mw_722) (fun _ h9 => h9) rfl d_Mo_commit_134 ?_
          exact W.iret (v := v_19) hx hb hr (fun t9 ht hW => ⟨v_19, h_46, rfl, ⟨hT, hkf, ⟨(0 : Int32), lo_28, le_29, wr_30, v_19, di_31, F_m9, ⟨m_34, m_35, (by omega), ⟨by omega, by omega⟩, ⟨by omega, by omega⟩⟩, ⟨by rw [aI_of F_A4, aI_of F_A6]; exact hTm, by rw [aI_of F_A4, aI_of F_A5, aI_of F_A8, aI_of F_A10, aI_of F_A11]; exact hEx⟩⟩⟩, by rw [ht]; exact hH, by rw [ht]; exact hz⟩) hLo d_Mo_commit_137
        · skip
          have ic_48 : r_21.toInt = (-3) := congrArg Int32.toInt hc_41
          refine lv_iload_n hx hb d_Mo_commit_121 rfl (lv_at hl 0 rfl) ?_
          exact W.iret (v := r_21) hx hb hr (fun t9 ht hW => ⟨r_21, h_22, rfl, ⟨hT, hkf, ⟨(0 : Int32), lo_28, le_29, wr_30, nu, di_31, F_m9, ⟨m_34, m_35, (by omega), ⟨by omega, by omega⟩, ⟨by omega, by omega⟩⟩, ⟨by rw [aI_of F_A4, aI_of F_A6]; exact hTm, by rw [aI_of F_A4, aI_of F_A5, aI_of F_A8, aI_of F_A10, aI_of F_A11]; exact hEx⟩⟩⟩, by rw [ht]; exact hH, by rw [ht]; exact hz⟩) hLo d_Mo_commit_122
    · skip
      have ic_49 : i9.toInt < ma.toInt := iNe hc_17
      have iu_50 : ma.toInt < 2147483648 := iUp _
      refine lv_aload_n hx hb d_Mo_commit_25 rfl (lv_at hl 0 rfl) ?_
      refine hm_get (ci := 9) (v := .ref (A 4)) (C := R_Mo) (T := F_Mo) (N := 41) hx hb hts ig_Mo hown hK hH F_m9 rfl 11 (by decide) (hts _ mw_596) (fun _ h9 => h9) rfl d_Mo_commit_26 ?_
      refine lv_iload_n hx hb d_Mo_commit_29 rfl (lv_at hl 1 rfl) ?_
      refine hm_zald hx hb hK hH 1 F_A4 rfl (iIn (by omega) (by omega)) d_Mo_commit_30 ?_
      refine lv_topi (fun v_51 e_52 => ?_)
      have c_53 : zb v_51 := by rw [e_52]; exact c_2 _
      refine lv_if_eq (tgt := 88) hx hb d_Mo_commit_31 (by decide) (fun hc_54 => ?_) (fun hc_54 => ?_)
      · skip
        have ic_55 : v_51.toInt = 0 := congrArg Int32.toInt hc_54
        obtain ⟨j_56, e_57⟩ : ∃ z : Int32, z = i9 + 1 := ⟨_, rfl⟩
        refine lv_iinc (v := j_56) (lv' := [(1, .int j_56), (0, .ref m9)]) hx hb d_Mo_commit_88 hl (k := 1) rfl e_57.symm (by decide) rfl (fun ls hl => ?_)
        refine lv_goto (tgt := 17) hx hb d_Mo_commit_91 (by decide) ?_
        have is_58 : j_56.toInt = i9.toInt + 1 := by rw [e_57]; exact iAddK 1 rfl (by omega) (by omega)
        exact ih17 (mU j_56) ls _ locs _ (by rw [hk17]; exact mU_lt (by omega)) ⟨j_56, wr8, lo8, le8, iw8, ex8, rfl, (lv_sub hl [1, 0] rfl), hH, hz, hLo, F_A4, F_A5, F_A6, F_A7, F_A8, hT, hkf, F_m9, hlo8, F_A10, c_iw8, F_A11, (by omega), hEx⟩
      · skip
        refine lv_aload_n hx hb d_Mo_commit_34 rfl (lv_at hl 0 rfl) ?_
        refine hm_get (ci := 9) (v := .ref (A 5)) (C := R_Mo) (T := F_Mo) (N := 41) hx hb hts ig_Mo hown hK hH F_m9 rfl 12 (by decide) (hts _ mw_606) (fun _ h9 => h9) rfl d_Mo_commit_35 ?_
        refine lv_iload_n hx hb d_Mo_commit_38 rfl (lv_at hl 1 rfl) ?_
        refine hm_zald hx hb hK hH 1 F_A5 rfl (iIn (by omega) (by omega)) d_Mo_commit_39 ?_
        refine lv_topi (fun v_59 e_60 => ?_)
        have c_61 : zb v_59 := by rw [e_60]; exact c_4 _
        refine lv_if_ne (tgt := 88) hx hb d_Mo_commit_40 (by decide) (fun hc_62 => ?_) (fun hc_62 => ?_)
        · skip
          obtain ⟨j_63, e_64⟩ : ∃ z : Int32, z = i9 + 1 := ⟨_, rfl⟩
          refine lv_iinc (v := j_63) (lv' := [(1, .int j_63), (0, .ref m9)]) hx hb d_Mo_commit_88 hl (k := 1) rfl e_64.symm (by decide) rfl (fun ls hl => ?_)
          refine lv_goto (tgt := 17) hx hb d_Mo_commit_91 (by decide) ?_
          have is_65 : j_63.toInt = i9.toInt + 1 := by rw [e_64]; exact iAddK 1 rfl (by omega) (by omega)
          exact ih17 (mU j_63) ls _ locs _ (by rw [hk17]; exact mU_lt (by omega)) ⟨j_63, wr8, lo8, le8, iw8, ex8, rfl, (lv_sub hl [1, 0] rfl), hH, hz, hLo, F_A4, F_A5, F_A6, F_A7, F_A8, hT, hkf, F_m9, hlo8, F_A10, c_iw8, F_A11, (by omega), hEx⟩
        · skip
          have ic_66 : v_59.toInt = 0 := congrArg Int32.toInt hc_62
          refine lv_aload_n hx hb d_Mo_commit_43 rfl (lv_at hl 0 rfl) ?_
          refine hm_get (ci := 9) (v := .ref (A 8)) (C := R_Mo) (T := F_Mo) (N := 41) hx hb hts ig_Mo hown hK hH F_m9 rfl 15 (by decide) (hts _ mw_615) (fun _ h9 => h9) rfl d_Mo_commit_44 ?_
          refine lv_iload_n hx hb d_Mo_commit_47 rfl (lv_at hl 1 rfl) ?_
          refine hm_iald hx hb hK hH 2 F_A8 rfl (iIn (by omega) (by omega)) d_Mo_commit_48 ?_
          refine lv_topi (fun v_67 e_68 => ?_)
          refine lv_if_eq (tgt := 88) hx hb d_Mo_commit_49 (by decide) (fun hc_69 => ?_) (fun hc_69 => ?_)
          · skip
            have ic_70 : v_67.toInt = 0 := congrArg Int32.toInt hc_69
            obtain ⟨j_71, e_72⟩ : ∃ z : Int32, z = i9 + 1 := ⟨_, rfl⟩
            refine lv_iinc (v := j_71) (lv' := [(1, .int j_71), (0, .ref m9)]) hx hb d_Mo_commit_88 hl (k := 1) rfl e_72.symm (by decide) rfl (fun ls hl => ?_)
            refine lv_goto (tgt := 17) hx hb d_Mo_commit_91 (by decide) ?_
            have is_73 : j_71.toInt = i9.toInt + 1 := by rw [e_72]; exact iAddK 1 rfl (by omega) (by omega)
            exact ih17 (mU j_71) ls _ locs _ (by rw [hk17]; exact mU_lt (by omega)) ⟨j_71, wr8, lo8, le8, iw8, ex8, rfl, (lv_sub hl [1, 0] rfl), hH, hz, hLo, F_A4, F_A5, F_A6, F_A7, F_A8, hT, hkf, F_m9, hlo8, F_A10, c_iw8, F_A11, (by omega), hEx⟩
          · skip
            refine lv_aload_n hx hb d_Mo_commit_52 rfl (lv_at hl 0 rfl) ?_
            refine hm_get (ci := 9) (v := .ref (A 10)) (C := R_Mo) (T := F_Mo) (N := 41) hx hb hts ig_Mo hown hK hH F_m9 rfl 17 (by decide) (hts _ mw_617) (fun _ h9 => h9) rfl d_Mo_commit_53 ?_
            refine lv_iload_n hx hb d_Mo_commit_56 rfl (lv_at hl 1 rfl) ?_
            refine hm_zald hx hb hK hH 1 F_A10 rfl (iIn (by omega) (by omega)) d_Mo_commit_57 ?_
            refine lv_topi (fun v_74 e_75 => ?_)
            have c_76 : zb v_74 := by rw [e_75]; exact c_iw8 _
            refine lv_if_eq (tgt := 64) hx hb d_Mo_commit_58 (by decide) (fun hc_77 => ?_) (fun hc_77 => ?_)
            · skip
              have ic_78 : v_74.toInt = 0 := congrArg Int32.toInt hc_77
              refine lv_aload_n hx hb d_Mo_commit_64 rfl (lv_at hl 0 rfl) ?_
              refine lv_aload_n hx hb d_Mo_commit_65 rfl (lv_at hl 0 rfl) ?_
              refine hm_get (ci := 9) (v := .int sd) (C := R_Mo) (T := F_Mo) (N := 41) hx hb hts ig_Mo hown hK hH F_m9 rfl 2 (by decide) (hts _ mw_586) (fun _ h9 => h9) rfl d_Mo_commit_66 ?_
              refine lv_iload_n hx hb d_Mo_commit_69 rfl (lv_at hl 1 rfl) ?_
              refine lv_iconst (v := 0) hx hb d_Mo_commit_70 (by decide) ?_
              have hx8 := hEx i9.toInt.toNat (by omega) (by rw [← clN, ← e_52]; exact c_53.resolve_left hc_54) (by rw [← clN, ← e_60]; exact hc_62)
              have h11o := aI_of F_A11
              refine hm_calli (va_runV (As := [.int sd, .int i9, .int 0]) (b := m9) (rest := []) ⟨hx, hb, hml, hown, hts⟩ (m_lay l D t G ak av hh17 τ n m9 sd i9 (0 : Int32) A (0 : Int32) sd lo8 le8 wr8 ma nu di pl se wg op   hn hT T_m9 zb0  F_m9 hA ⟨hsd, hlo8, (by omega), ⟨by omega, by omega⟩, ⟨by omega, by omega⟩⟩ hsd (by omega) (by omega) (by rw [aI_of F_A8]; exact ⟨hx8.1, hx8.2.1⟩) (fun z => absurd z (by decide))) ⟨cw9B 3 hts mw_727 mw_728 mw_579 rfl rfl (by decide +kernel) ⟨Nat.le_of_ble_eq_true rfl, Nat.le_of_ble_eq_true rfl⟩, hts _ mw_729, hts _ mw_730⟩ (hP_V (q := (R_Mo, F_Mo, 41)) kE_ok hE hK hH F_m9 rfl) rfl rfl hl.1 rfl (lv_room (Nat.le_of_ble_eq_true rfl)) d_Mo_commit_71 ⟨Nat.le_of_ble_eq_true rfl, Nat.le_of_ble_eq_true rfl⟩) hLo (fun r_79 h_80 H_81 locs hp_83 hH z_82 hLo => ?_)
              have hz : s.heap.size ≤ H_81.size := Nat.le_trans hz z_82
              have hT0 := hT
              obtain ⟨hT, kf_85, xp_84⟩ := hp_83
              have F_A4 : h_80 (A 4) = some (.inl ((t 1), 700, .inl g_1)) := kf_at kf_85 (hA 4 (by decide)) (by decide) (tncF (by decide) (tncF (by decide) (tncF (by decide) (tncF (by decide) tn0)))) (nmc (tne (hA 4 (by decide)) T_m9 (by decide)) nm0) F_A4
              have F_A5 : h_80 (A 5) = some (.inl ((t 1), 700, .inl g_3)) := kf_at kf_85 (hA 5 (by decide)) (by decide) (tncF (by decide) (tncF (by decide) (tncF (by decide) (tncF (by decide) tn0)))) (nmc (tne (hA 5 (by decide)) T_m9 (by decide)) nm0) F_A5
              have F_A6 : h_80 (A 6) = some (.inl ((t 2), 700, .inl g_5)) := kf_at kf_85 (hA 6 (by decide)) (by decide) (tncF (by decide) (tncF (by decide) (tncF (by decide) (tncF (by decide) tn0)))) (nmc (tne (hA 6 (by decide)) T_m9 (by decide)) nm0) F_A6
              have F_A7 : h_80 (A 7) = some (.inl ((t 3), 700, .inr (.inl g_10))) := kf_at kf_85 (hA 7 (by decide)) (by decide) (tncF (by decide) (tncF (by decide) (tncF (by decide) (tncF (by decide) tn0)))) (nmc (tne (hA 7 (by decide)) T_m9 (by decide)) nm0) F_A7
              have F_A8 : h_80 (A 8) = some (.inl ((t 2), 700, .inl g_6)) := kf_at kf_85 (hA 8 (by decide)) (by decide) (tncF (by decide) (tncF (by decide) (tncF (by decide) (tncF (by decide) tn0)))) (nmc (tne (hA 8 (by decide)) T_m9 (by decide)) nm0) F_A8
              have F_A10 : h_80 (A 10) = some (.inl ((t 1), 700, .inl iw8)) := kf_at kf_85 (hA 10 (by decide)) (by decide) (tncF (by decide) (tncF (by decide) (tncF (by decide) (tncF (by decide) tn0)))) (nmc (tne (hA 10 (by decide)) T_m9 (by decide)) nm0) F_A10
              have hkf : kf τ [(30, 1), (30, 0), (30, 3), (30, 14), (30, 15), (30, 16), (30, 13), (30, 11), (30, 10)] [m9] h h_80 := kf_tr hkf kf_85 (List.forall_mem_cons.mpr ⟨List.mem_cons_self, List.forall_mem_cons.mpr ⟨(List.mem_cons_of_mem _ List.mem_cons_self), List.forall_mem_cons.mpr ⟨(List.mem_cons_of_mem _ (List.mem_cons_of_mem _ List.mem_cons_self)), List.forall_mem_cons.mpr ⟨(List.mem_cons_of_mem _ (List.mem_cons_of_mem _ (List.mem_cons_of_mem _ (List.mem_cons_of_mem _ (List.mem_cons_of_mem _ (List.mem_cons_of_mem _ (List.mem_cons_of_mem _ List.mem_cons_self))))))), List.forall_mem_nil _⟩⟩⟩⟩) (List.forall_mem_cons.mpr ⟨Or.inl (by simp), List.forall_mem_nil _⟩)
              obtain ⟨lo_86, le_87, wr_88, F_m9, mk_89, xq_90⟩ := xp_84
              obtain ⟨m_91, m_92, m_93, m_94, m_95⟩ := mk_89
              obtain ⟨hv9, ho9⟩ := xq_90
              rw [h11o] at ho9
              obtain ⟨g_96, F_A11⟩ := TI_arI (L := 700) hT (hA 11 (by decide)) rfl rfl
              rw [aI_of F_A11] at ho9
              rw [aI_of F_A11, aI_of F_A8] at hv9
              have hr9 : r_79.toInt ≤ 0 := by rcases hv9 with ⟨h9, -⟩ | h9 <;> omega
              refine lv_istore_n (lv' := [(2, .int r_79), (0, .ref m9), (1, .int i9)]) hx hb d_Mo_commit_74 rfl hl (by decide) rfl (fun ls hl => ?_)
              refine lv_iload_n hx hb d_Mo_commit_75 rfl (lv_at hl 0 rfl) ?_
              refine lv_if_ge (tgt := 81) hx hb d_Mo_commit_76 (by decide) (fun hc_97 => ?_) (fun hc_97 => ?_)
              · skip
                have ic_98 : 0 ≤ r_79.toInt := iLe hc_97
                have hv8 := (hv9.resolve_right (by omega)).2
                refine lv_aload_n hx hb d_Mo_commit_81 rfl (lv_at hl 1 rfl) ?_
                refine hm_get (ci := 9) (v := .ref (A 10)) (C := R_Mo) (T := F_Mo) (N := 41) hx hb hts ig_Mo hown hK hH F_m9 rfl 17 (by decide) (hts _ mw_617) (fun _ h9 => h9) rfl d_Mo_commit_82 ?_
                refine lv_iload_n hx hb d_Mo_commit_85 rfl (lv_at hl 2 rfl) ?_
                refine lv_iconst (v := 1) hx hb d_Mo_commit_86 (by decide) ?_
                refine hm_zast hx hb hK hH hLo 1 F_A10 rfl (iIn (by omega) (by omega)) d_Mo_commit_87 (fun H_99 locs hH z_100 hLo => ?_)
                have hz : s.heap.size ≤ H_99.size := by rw [z_100]; exact hz
                rw [zb_nar (v := 1) zb1] at hH
                obtain ⟨h_101, e_102⟩ : ∃ z, z = hu h_80 (A 10) (.inl ((t 1), 700, .inl (upd iw8 i9.toNatClampNeg (1 : Int32)))) := ⟨_, rfl⟩
                have hH : hm D vwCl G h_101 H_99 := by rw [e_102]; exact hH
                have F_A4 : h_101 (A 4) = some (.inl ((t 1), 700, .inl g_1)) := by rw [e_102, hu_n (tneF (hA 4 (by decide)) (hA 10 (by decide)) (by decide))]; exact F_A4
                have F_A5 : h_101 (A 5) = some (.inl ((t 1), 700, .inl g_3)) := by rw [e_102, hu_n (tneF (hA 5 (by decide)) (hA 10 (by decide)) (by decide))]; exact F_A5
                have F_A6 : h_101 (A 6) = some (.inl ((t 2), 700, .inl g_5)) := by rw [e_102, hu_n (tneF (hA 6 (by decide)) (hA 10 (by decide)) (by decide))]; exact F_A6
                have F_A7 : h_101 (A 7) = some (.inl ((t 3), 700, .inr (.inl g_10))) := by rw [e_102, hu_n (tneF (hA 7 (by decide)) (hA 10 (by decide)) (by decide))]; exact F_A7
                have F_A8 : h_101 (A 8) = some (.inl ((t 2), 700, .inl g_6)) := by rw [e_102, hu_n (tneF (hA 8 (by decide)) (hA 10 (by decide)) (by decide))]; exact F_A8
                have F_m9 : h_101 m9 = some (.inr (9, mf A n 0 sd lo_86 le_87 wr_88 ma nu di pl se wg op)) := by rw [e_102, hu_n (tne T_m9 (hA 10 (by decide)) (by decide))]; exact F_m9
                have F_A11 : h_101 (A 11) = some (.inl ((t 2), 700, .inl g_96)) := by rw [e_102, hu_n (tneF (hA 11 (by decide)) (hA 10 (by decide)) (by decide))]; exact F_A11
                have F_A10 : h_101 (A 10) = some (.inl ((t 1), 700, .inl (upd iw8 i9.toNatClampNeg (1 : Int32)))) := by rw [e_102]; exact hu_s _ _ _
                have hT : TI τ t n h_101 := by rw [e_102]; exact TI_put hT (hA 10 (by decide)) (by decide) (ok_Z rfl rfl (zbF_up c_iw8 zb1))
                have hkf : kf τ [(30, 1), (30, 0), (30, 3), (30, 14), (30, 15), (30, 16), (30, 13), (30, 11), (30, 10)] [m9] h h_101 := by rw [e_102]; exact kf_put hkf (hA 10 (by decide)) (List.mem_cons_of_mem _ (List.mem_cons_of_mem _ (List.mem_cons_of_mem _ (List.mem_cons_of_mem _ (List.mem_cons_of_mem _ (List.mem_cons_of_mem _ (List.mem_cons_of_mem _ (List.mem_cons_of_mem _ List.mem_cons_self))))))))
                obtain ⟨g_103, e_104⟩ : ∃ z, z = upd iw8 i9.toNatClampNeg (1 : Int32) := ⟨_, rfl⟩
                rw [← e_104] at F_A10
                have c_105 : zbF g_103 := by rw [e_104]; exact (zbF_up c_iw8 zb1)
                obtain ⟨j_106, e_107⟩ : ∃ z : Int32, z = i9 + 1 := ⟨_, rfl⟩
                refine lv_iinc (v := j_106) (lv' := [(1, .int j_106), (2, .int r_79), (0, .ref m9)]) hx hb d_Mo_commit_88 hl (k := 2) rfl e_107.symm (by decide) rfl (fun ls hl => ?_)
                refine lv_goto (tgt := 17) hx hb d_Mo_commit_91 (by decide) ?_
                have is_108 : j_106.toInt = i9.toInt + 1 := by rw [e_107]; exact iAddK 1 rfl (by omega) (by omega)
                exact ih17 (mU j_106) ls _ locs _ (by rw [hk17]; exact mU_lt (by omega)) ⟨j_106, wr_88, lo_86, le_87, g_103, g_96, rfl, (lv_sub hl [2, 0] rfl), hH, hz, hLo, F_A4, F_A5, F_A6, F_A7, F_A8, hT, hkf, F_m9, m_92, F_A10, c_105, F_A11, (by omega), (by rw [e_104, clN]; exact exM_wr hEx ho9 hv8)⟩
              · skip
                have ic_109 : r_79.toInt < 0 := iNe hc_97
                refine lv_iload_n hx hb d_Mo_commit_79 rfl (lv_at hl 0 rfl) ?_
                exact W.iret (v := r_79) hx hb hr (fun t9 ht hW => ⟨r_79, h_80, rfl, ⟨hT, hkf, ⟨(0 : Int32), lo_86, le_87, wr_88, nu, di, F_m9, ⟨m_91, m_92, (by omega), ⟨by omega, by omega⟩, ⟨by omega, by omega⟩⟩, ⟨by rw [aI_of F_A4, aI_of F_A6]; exact hTm, by rw [aI_of F_A4, aI_of F_A5, aI_of F_A8, aI_of F_A10, aI_of F_A11]; exact (exM_lay hEx (by rw [← clN, ← e_75]; exact hc_77) ho9)⟩⟩⟩, by rw [ht]; exact hH, by rw [ht]; exact hz⟩) hLo d_Mo_commit_80
            · skip
              refine lv_goto (tgt := 88) hx hb d_Mo_commit_61 (by decide) ?_
              obtain ⟨j_110, e_111⟩ : ∃ z : Int32, z = i9 + 1 := ⟨_, rfl⟩
              refine lv_iinc (v := j_110) (lv' := [(1, .int j_110), (0, .ref m9)]) hx hb d_Mo_commit_88 hl (k := 1) rfl e_111.symm (by decide) rfl (fun ls hl => ?_)
              refine lv_goto (tgt := 17) hx hb d_Mo_commit_91 (by decide) ?_
              have is_112 : j_110.toInt = i9.toInt + 1 := by rw [e_111]; exact iAddK 1 rfl (by omega) (by omega)
              exact ih17 (mU j_110) ls _ locs _ (by rw [hk17]; exact mU_lt (by omega)) ⟨j_110, wr8, lo8, le8, iw8, ex8, rfl, (lv_sub hl [1, 0] rfl), hH, hz, hLo, F_A4, F_A5, F_A6, F_A7, F_A8, hT, hkf, F_m9, hlo8, F_A10, c_iw8, F_A11, (by omega), hEx⟩
  · skip
    refine lv_bipush (v := -4) hx hb d_Mo_commit_12 (by decide) ?_
    exact W.iret (v := (-4)) hx hb hr (fun t9 ht hW => ⟨(-4), h_13, rfl, ⟨hT, hkf, ⟨(0 : Int32), lo, le, wr, nu, di, F_m9, ⟨hsd, hlo, (by omega), ⟨by omega, by omega⟩, ⟨by omega, by omega⟩⟩, ⟨by rw [aI_of F_A4, aI_of F_A6]; exact hTm, by rw [aI_of F_A4, aI_of F_A5, aI_of F_A8, aI_of F_A10, aI_of F_A11]; exact hEx⟩⟩⟩, by rw [ht]; exact hH, by rw [ht]; exact hz⟩) hLo d_Mo_commit_14

set_option maxHeartbeats 4000000 in
set_option maxRecDepth 100000 in
theorem m_compact (l : Launch) (D : va_G) (t : Nat → ClassId) (G : hG) (ak av : Nat → Nat) (h : hM) (τ : tM) (n : Nat) (m9 : Nat) (A : Nat → Nat) (th sd lo le wr ma nu di pl se wg op : Int32) (hn : n ≤ 200) (hT : TI τ t n h) (T_m9 : τ m9 = (20, 0)) (F_m9 : h m9 = some (.inr (9, mf A n th sd lo le wr ma nu di pl se wg op))) (hA : ∀ i, i < 28 → τ (A i) = (30, i)) (hmk : mOk sd lo ma se op) (hTm : treeM (aI h (A 4)) (aI h (A 6)) ma.toInt.toNat) (hEx : exM (aI h (A 4)) (aI h (A 5)) (aI h (A 8)) (aI h (A 10)) (aI h (A 11)) ma.toInt.toNat n) : Met l y_Mo_compact (.code y_Mo_compact b_Mo_compact 4 (some .int) :: lw_g) { frames := 8, cells := 0, slots := 0, locals := 203 } (hP (kE D t G ak av) D vwCl G h [.ref m9]) (hQi D vwCl G (fun r h' => TI τ t n h' ∧ kf τ [(30, 1), (30, 0), (30, 3), (30, 14), (30, 15), (30, 16), (30, 13), (30, 11), (30, 10), (30, 12), (30, 2)] [m9] h h' ∧ (∃ (th' : Int32) (sd' : Int32) (lo' : Int32) (le' : Int32) (wr' : Int32) (nu' : Int32) (di' : Int32) (op' : Int32), h' m9 = some (.inr (9, mf A n th' sd' lo' le' wr' ma nu' di' pl se wg op')) ∧ mOk sd' lo' ma se op' ∧ ((op' = op ∨ op' = 0) ∧ (treeM (aI h' (A 4)) (aI h' (A 6)) ma.toInt.toNat ∧ exM (aI h' (A 4)) (aI h' (A 5)) (aI h' (A 8)) (aI h' (A 10)) (aI h' (A 11)) ma.toInt.toNat n))))) 0 0 G.P := by
  refine Met.ofW (cc := b_Mo_compact) (maxL := 4) (ret := (some .int)) (by decide) rfl ?_
  intro p e s m args below meth c s₁ Bd hml hv
  obtain ⟨ha, hE, hH⟩ := hv
  have hx := Bd.exec
  have hb := Bd.bytes
  have hr := Bd.returns
  have hts : ∀ w ∈ lw_g, w.before args s = true := fun w hw => atoms_spec (ws := (.code y_Mo_compact b_Mo_compact 4 (some .int) :: lw_g)) Bd.pre w (List.mem_cons_of_mem _ hw)
  have hown : s.vm.findClass R_Mo = some m.cls := findClass_of_methodNamed Bd.named
  have hlocks := Bd.notSynchronized
  have hK := hE.1
  have hH0 := hH
  have hLo : hLc G.P [] := hLc_nil
  have hz : s.heap.size ≤ s.heap.size := Nat.le_refl _
  have hl := lv_entry [.ref m9] (n := 4) (Nat.le_of_ble_eq_true rfl)
  rw [show entryFrame m args 4 = F0 m 0 ((lg_sl [.ref m9] ++ List.replicate (4 - (lg_sl [.ref m9]).length) Slot.unset).toArray) [] from (by rw [ha]; exact lg_entry_eq m [.ref m9] 4)]
  generalize (lg_sl [.ref m9] ++ List.replicate (4 - (lg_sl [.ref m9]).length) Slot.unset).toArray = ls at hl ⊢
  have hl : lv_has ls 4 [(0, .ref m9)] := hl
  have hkf : kf τ [(30, 1), (30, 0), (30, 3), (30, 14), (30, 15), (30, 16), (30, 13), (30, 11), (30, 10), (30, 12), (30, 2)] [m9] h h := kf_rf
  obtain ⟨hsd, hlo, hma, hse, hop⟩ := id hmk
  have inI : (nI n).toInt = n := nI_toInt (by omega)
  obtain ⟨g_1, F_A4, c_2⟩ := TI_arZ (L := 700) hT (hA 4 (by decide)) rfl rfl
  obtain ⟨g_3, F_A5, c_4⟩ := TI_arZ (L := 700) hT (hA 5 (by decide)) rfl rfl
  obtain ⟨g_5, F_A6⟩ := TI_arI (L := 700) hT (hA 6 (by decide)) rfl rfl
  obtain ⟨g_6, F_A8⟩ := TI_arI (L := 700) hT (hA 8 (by decide)) rfl rfl
  obtain ⟨g_7, F_A10, c_8⟩ := TI_arZ (L := 700) hT (hA 10 (by decide)) rfl rfl
  obtain ⟨g_9, F_A11⟩ := TI_arI (L := 700) hT (hA 11 (by decide)) rfl rfl
  rw [aI_of F_A4, aI_of F_A6] at hTm
  rw [aI_of F_A4, aI_of F_A5, aI_of F_A8, aI_of F_A10, aI_of F_A11] at hEx
  obtain ⟨g_10, F_A7⟩ := TI_arJ (L := 700) hT (hA 7 (by decide)) rfl rfl
  refine lv_aload_n hx hb d_Mo_compact_0 rfl (lv_at hl 0 rfl) ?_
  refine lv_iconst (v := 0) hx hb d_Mo_compact_1 (by decide) ?_
  refine hm_put (ci := 9) (v := .int 0) (ty := .int) (C := R_Mo) (T := F_Mo) (N := 41) hx hb hts ig_Mo t_Mo tk_Mo nm_Mo hown hK hH hLo F_m9 rfl 0 (by decide) (hts _ mw_594) (fun _ h9 => h9) rfl (by decide +kernel) rfl rfl (Nat.le_of_ble_eq_true rfl) d_Mo_compact_2 (fun H_11 locs hH z_12 hLo => ?_)
  have hz : s.heap.size ≤ H_11.size := by rw [z_12]; exact hz
  obtain ⟨h_13, e_14⟩ : ∃ z, z = hu h m9 (.inr (9, mf A n 0 sd lo le wr ma nu di pl se wg op)) := ⟨_, rfl⟩
  have hH : hm D vwCl G h_13 H_11 := by rw [e_14]; exact hH
  have F_A4 : h_13 (A 4) = some (.inl ((t 1), 700, .inl g_1)) := by rw [e_14, hu_n (tne (hA 4 (by decide)) T_m9 (by decide))]; exact F_A4
  have F_A5 : h_13 (A 5) = some (.inl ((t 1), 700, .inl g_3)) := by rw [e_14, hu_n (tne (hA 5 (by decide)) T_m9 (by decide))]; exact F_A5
  have F_A6 : h_13 (A 6) = some (.inl ((t 2), 700, .inl g_5)) := by rw [e_14, hu_n (tne (hA 6 (by decide)) T_m9 (by decide))]; exact F_A6
  have F_A8 : h_13 (A 8) = some (.inl ((t 2), 700, .inl g_6)) := by rw [e_14, hu_n (tne (hA 8 (by decide)) T_m9 (by decide))]; exact F_A8
  have F_A10 : h_13 (A 10) = some (.inl ((t 1), 700, .inl g_7)) := by rw [e_14, hu_n (tne (hA 10 (by decide)) T_m9 (by decide))]; exact F_A10
  have F_A11 : h_13 (A 11) = some (.inl ((t 2), 700, .inl g_9)) := by rw [e_14, hu_n (tne (hA 11 (by decide)) T_m9 (by decide))]; exact F_A11
  have F_A7 : h_13 (A 7) = some (.inl ((t 3), 700, .inr (.inl g_10))) := by rw [e_14, hu_n (tne (hA 7 (by decide)) T_m9 (by decide))]; exact F_A7
  have F_m9 : h_13 m9 = some (.inr (9, mf A n 0 sd lo le wr ma nu di pl se wg op)) := by rw [e_14]; exact hu_s _ _ _
  have hT : TI τ t n h_13 := by rw [e_14]; exact TI_put hT T_m9 (by decide) ⟨_, rfl⟩
  have hkf : kf τ [(30, 1), (30, 0), (30, 3), (30, 14), (30, 15), (30, 16), (30, 13), (30, 11), (30, 10), (30, 12), (30, 2)] [m9] h h_13 := by rw [e_14]; exact kf_putM hkf (by simp)
  refine lv_aload_n hx hb d_Mo_compact_5 rfl (lv_at hl 0 rfl) ?_
  refine hm_get (ci := 9) (v := .int lo) (C := R_Mo) (T := F_Mo) (N := 41) hx hb hts ig_Mo hown hK hH F_m9 rfl 6 (by decide) (hts _ mw_593) (fun _ h9 => h9) rfl d_Mo_compact_6 ?_
  refine lv_if_eq (tgt := 15) hx hb d_Mo_compact_9 (by decide) (fun hc_15 => ?_) (fun hc_15 => ?_)
  · skip
    have ic_16 : lo.toInt = 0 := congrArg Int32.toInt hc_15
    refine lv_sipush (v := 200) hx hb d_Mo_compact_15 (by decide) ?_
    refine lv_aload_n hx hb d_Mo_compact_18 rfl (lv_at hl 0 rfl) ?_
    refine hm_get (ci := 9) (v := .int sd) (C := R_Mo) (T := F_Mo) (N := 41) hx hb hts ig_Mo hown hK hH F_m9 rfl 2 (by decide) (hts _ mw_586) (fun _ h9 => h9) rfl d_Mo_compact_19 ?_
    refine lv_isub hx hb d_Mo_compact_22 ?_
    refine lv_topi (fun v_17 e_18 => ?_)
    have is_19 : v_17.toInt = 200 - sd.toInt := by rw [e_18]; exact iSubL 200 rfl (by omega) (by omega)
    have hfr : v_17.toInt = 0 ∨ v_17.toInt = 200 := by omega
    refine lv_istore_n (lv' := [(1, .int v_17), (0, .ref m9)]) hx hb d_Mo_compact_23 rfl hl (by decide) rfl (fun ls hl => ?_)
    refine lv_iconst (v := 0) hx hb d_Mo_compact_24 (by decide) ?_
    refine lv_istore_n (lv' := [(2, .int 0), (1, .int v_17), (0, .ref m9)]) hx hb d_Mo_compact_25 rfl hl (by decide) rfl (fun ls hl => ?_)
    refine hm_loop (fun k26 ls H locs hh26 => ∃ (i9 : Int32), k26 = mU i9 ∧ lv_has ls 4 [(0, .ref m9), (1, .int v_17), (2, .int i9)] ∧ hm D vwCl G hh26 H ∧ s.heap.size ≤ H.size ∧ hLc G.P locs ∧ hh26 m9 = some (.inr (9, mf A n 0 sd lo le wr ma nu di pl se wg op)) ∧ hh26 (A 4) = some (.inl ((t 1), 700, .inl g_1)) ∧ hh26 (A 5) = some (.inl ((t 1), 700, .inl g_3)) ∧ hh26 (A 6) = some (.inl ((t 2), 700, .inl g_5)) ∧ hh26 (A 8) = some (.inl ((t 2), 700, .inl g_6)) ∧ hh26 (A 10) = some (.inl ((t 1), 700, .inl g_7)) ∧ hh26 (A 11) = some (.inl ((t 2), 700, .inl g_9)) ∧ hh26 (A 7) = some (.inl ((t 3), 700, .inr (.inl g_10))) ∧ (TI τ t n hh26) ∧ (kf τ [(30, 1), (30, 0), (30, 3), (30, 14), (30, 15), (30, 16), (30, 13), (30, 11), (30, 10), (30, 12), (30, 2)] [m9] h hh26) ∧ (0 ≤ i9.toInt)) ?_ (hh := h_13) ⟨0, rfl, (lv_sub hl [2, 1, 0] rfl), hH, hz, hLo, F_m9, F_A4, F_A5, F_A6, F_A8, F_A10, F_A11, F_A7, hT, hkf, (by decide)⟩
    rintro k26 ls H locs hh26 ⟨i9, hk26, hl, hH, hz, hLo, F_m9, F_A4, F_A5, F_A6, F_A8, F_A10, F_A11, F_A7, hT, hkf, I_i9⟩ ih26
    refine lv_iload_n hx hb d_Mo_compact_26 rfl (lv_at hl 2 rfl) ?_
    refine lv_sipush (v := 200) hx hb d_Mo_compact_27 (by decide) ?_
    refine lv_icmp_ge (tgt := 48) hx hb d_Mo_compact_30 (by decide) (fun hc_20 => ?_) (fun hc_20 => ?_)
    · skip
      have ic_21 : 200 ≤ i9.toInt := iLe hc_20
      refine lv_iconst (v := 0) hx hb d_Mo_compact_48 (by decide) ?_
      refine lv_istore_n (lv' := [(2, .int 0), (0, .ref m9), (1, .int v_17)]) hx hb d_Mo_compact_49 rfl hl (by decide) rfl (fun ls hl => ?_)
      refine hm_loop (fun k50 ls H locs hh50 => ∃ (i9 : Int32), k50 = mU i9 ∧ lv_has ls 4 [(0, .ref m9), (1, .int v_17), (2, .int i9)] ∧ hm D vwCl G hh50 H ∧ s.heap.size ≤ H.size ∧ hLc G.P locs ∧ hh50 m9 = some (.inr (9, mf A n 0 sd lo le wr ma nu di pl se wg op)) ∧ hh50 (A 4) = some (.inl ((t 1), 700, .inl g_1)) ∧ hh50 (A 5) = some (.inl ((t 1), 700, .inl g_3)) ∧ hh50 (A 6) = some (.inl ((t 2), 700, .inl g_5)) ∧ hh50 (A 8) = some (.inl ((t 2), 700, .inl g_6)) ∧ hh50 (A 10) = some (.inl ((t 1), 700, .inl g_7)) ∧ hh50 (A 11) = some (.inl ((t 2), 700, .inl g_9)) ∧ hh50 (A 7) = some (.inl ((t 3), 700, .inr (.inl g_10))) ∧ (TI τ t n hh50) ∧ (kf τ [(30, 1), (30, 0), (30, 3), (30, 14), (30, 15), (30, 16), (30, 13), (30, 11), (30, 10), (30, 12), (30, 2)] [m9] h hh50) ∧ (0 ≤ i9.toInt)) ?_ (hh := hh26) ⟨0, rfl, (lv_sub hl [1, 2, 0] rfl), hH, hz, hLo, F_m9, F_A4, F_A5, F_A6, F_A8, F_A10, F_A11, F_A7, hT, hkf, (by decide)⟩
      rintro k50 ls H locs hh50 ⟨i9, hk50, hl, hH, hz, hLo, F_m9, F_A4, F_A5, F_A6, F_A8, F_A10, F_A11, F_A7, hT, hkf, I_i9⟩ ih50
      refine lv_iload_n hx hb d_Mo_compact_50 rfl (lv_at hl 2 rfl) ?_
      refine lv_ldc (v := 409600) hx hb hown (hts _ mw_731) d_Mo_compact_51 ?_
      refine lv_icmp_ge (tgt := 75) hx hb d_Mo_compact_53 (by decide) (fun hc_22 => ?_) (fun hc_22 => ?_)
      · skip
        have ic_23 : 409600 ≤ i9.toInt := iLe hc_22
        refine lv_iconst (v := 0) hx hb d_Mo_compact_75 (by decide) ?_
        refine lv_istore_n (lv' := [(2, .int 0), (0, .ref m9), (1, .int v_17)]) hx hb d_Mo_compact_76 rfl hl (by decide) rfl (fun ls hl => ?_)
        obtain ⟨g_24, F_A12⟩ := TI_arI (L := 700) hT (hA 12 (by decide)) rfl rfl
        refine hm_loop (fun k77 ls H locs hh77 => ∃ (i6 : Int32) (ol8 : Nat → Int32), k77 = mU i6 ∧ lv_has ls 4 [(0, .ref m9), (1, .int v_17), (2, .int i6)] ∧ hm D vwCl G hh77 H ∧ s.heap.size ≤ H.size ∧ hLc G.P locs ∧ hh77 m9 = some (.inr (9, mf A n 0 sd lo le wr ma nu di pl se wg op)) ∧ hh77 (A 4) = some (.inl ((t 1), 700, .inl g_1)) ∧ hh77 (A 5) = some (.inl ((t 1), 700, .inl g_3)) ∧ hh77 (A 6) = some (.inl ((t 2), 700, .inl g_5)) ∧ hh77 (A 8) = some (.inl ((t 2), 700, .inl g_6)) ∧ hh77 (A 10) = some (.inl ((t 1), 700, .inl g_7)) ∧ hh77 (A 11) = some (.inl ((t 2), 700, .inl g_9)) ∧ hh77 (A 7) = some (.inl ((t 3), 700, .inr (.inl g_10))) ∧ (TI τ t n hh77) ∧ (kf τ [(30, 1), (30, 0), (30, 3), (30, 14), (30, 15), (30, 16), (30, 13), (30, 11), (30, 10), (30, 12), (30, 2)] [m9] h hh77) ∧ (hh77 (A 12) = some (.inl ((t 2), 700, .inl ol8))) ∧ (0 ≤ i6.toInt) ∧ (∀ q, q < i6.toInt.toNat → ol8 q = g_9 q)) ?_ (hh := hh50) ⟨0, g_24, rfl, (lv_sub hl [1, 2, 0] rfl), hH, hz, hLo, F_m9, F_A4, F_A5, F_A6, F_A8, F_A10, F_A11, F_A7, hT, hkf, F_A12, (by decide), (fun q hq => absurd (show q < 0 from hq) (Nat.not_lt_zero q))⟩
        rintro k77 ls H locs hh77 ⟨i6, ol8, hk77, hl, hH, hz, hLo, F_m9, F_A4, F_A5, F_A6, F_A8, F_A10, F_A11, F_A7, hT, hkf, F_A12, I_i6, hO⟩ ih77
        refine lv_iload_n hx hb d_Mo_compact_77 rfl (lv_at hl 2 rfl) ?_
        refine lv_aload_n hx hb d_Mo_compact_78 rfl (lv_at hl 0 rfl) ?_
        refine hm_get (ci := 9) (v := .int ma) (C := R_Mo) (T := F_Mo) (N := 41) hx hb hts ig_Mo hown hK hH F_m9 rfl 10 (by decide) (hts _ mw_595) (fun _ h9 => h9) rfl d_Mo_compact_79 ?_
        refine lv_icmp_ge (tgt := 103) hx hb d_Mo_compact_82 (by decide) (fun hc_25 => ?_) (fun hc_25 => ?_)
        · skip
          have ic_26 : ma.toInt ≤ i6.toInt := iLe hc_25
          refine lv_iconst (v := 0) hx hb d_Mo_compact_103 (by decide) ?_
          refine lv_istore_n (lv' := [(2, .int 0), (0, .ref m9), (1, .int v_17)]) hx hb d_Mo_compact_104 rfl hl (by decide) rfl (fun ls hl => ?_)
          refine lv_iconst (v := 1) hx hb d_Mo_compact_105 (by decide) ?_
          refine lv_istore_n (lv' := [(3, .int 1), (2, .int 0), (0, .ref m9), (1, .int v_17)]) hx hb d_Mo_compact_106 rfl hl (by decide) rfl (fun ls hl => ?_)
          refine hm_loop (fun k107 ls H locs hh107 => ∃ (g9 : Int32) (i9 : Int32) (wr8 : Int32) (lo8 : Int32) (le8 : Int32) (ex8 : Nat → Int32), k107 = mU i9 ∧ lv_has ls 4 [(0, .ref m9), (1, .int v_17), (2, .int g9), (3, .int i9)] ∧ hm D vwCl G hh107 H ∧ s.heap.size ≤ H.size ∧ hLc G.P locs ∧ hh107 (A 4) = some (.inl ((t 1), 700, .inl g_1)) ∧ hh107 (A 5) = some (.inl ((t 1), 700, .inl g_3)) ∧ hh107 (A 6) = some (.inl ((t 2), 700, .inl g_5)) ∧ hh107 (A 8) = some (.inl ((t 2), 700, .inl g_6)) ∧ hh107 (A 10) = some (.inl ((t 1), 700, .inl g_7)) ∧ hh107 (A 7) = some (.inl ((t 3), 700, .inr (.inl g_10))) ∧ hh107 (A 12) = some (.inl ((t 2), 700, .inl ol8)) ∧ (TI τ t n hh107) ∧ (kf τ [(30, 1), (30, 0), (30, 3), (30, 14), (30, 15), (30, 16), (30, 13), (30, 11), (30, 10), (30, 12), (30, 2)] [m9] h hh107) ∧ (hh107 m9 = some (.inr (9, mf A n 0 sd lo8 le8 wr8 ma nu di pl se wg op))) ∧ (zb lo8) ∧ (hh107 (A 11) = some (.inl ((t 2), 700, .inl ex8))) ∧ (1 ≤ i9.toInt ∧ g9.toInt ≤ 0) ∧ (g9 = 0 → lyP g_1 g_3 g_6 ex8 i9.toInt.toNat n) ∧ (ex8 0 = g_9 0)) ?_ (hh := hh77) ⟨0, 1, wr, lo, le, g_9, rfl, (lv_sub hl [2, 3, 1, 0] rfl), hH, hz, hLo, F_A4, F_A5, F_A6, F_A8, F_A10, F_A7, F_A12, hT, hkf, F_m9, hlo, F_A11, ⟨by decide, by decide⟩, (fun _ q h1 hq => absurd (show q < 1 from hq) (by omega)), rfl⟩
          rintro k107 ls H locs hh107 ⟨g9, i9, wr8, lo8, le8, ex8, hk107, hl, hH, hz, hLo, F_A4, F_A5, F_A6, F_A8, F_A10, F_A7, F_A12, hT, hkf, F_m9, hlo8, F_A11, I_i9, hL, hE0⟩ ih107
          refine lv_iload_n hx hb d_Mo_compact_107 rfl (lv_at hl 3 rfl) ?_
          refine lv_aload_n hx hb d_Mo_compact_108 rfl (lv_at hl 0 rfl) ?_
          refine hm_get (ci := 9) (v := .int ma) (C := R_Mo) (T := F_Mo) (N := 41) hx hb hts ig_Mo hown hK hH F_m9 rfl 10 (by decide) (hts _ mw_595) (fun _ h9 => h9) rfl d_Mo_compact_109 ?_
          refine lv_icmp_ge (tgt := 165) hx hb d_Mo_compact_112 (by decide) (fun hc_27 => ?_) (fun hc_27 => ?_)
          · skip
            have ic_28 : ma.toInt ≤ i9.toInt := iLe hc_27
            refine lv_iload_n hx hb d_Mo_compact_165 rfl (lv_at hl 2 rfl) ?_
            refine lv_if_ne (tgt := 176) hx hb d_Mo_compact_166 (by decide) (fun hc_29 => ?_) (fun hc_29 => ?_)
            · skip
              refine lv_iload_n hx hb d_Mo_compact_176 rfl (lv_at hl 2 rfl) ?_
              refine lv_iconst (v := 1) hx hb d_Mo_compact_177 (by decide) ?_
              refine lv_icmp_eq (tgt := 211) hx hb d_Mo_compact_178 (by decide) (fun hc_30 => ?_) (fun hc_30 => ?_)
              · skip
                exact absurd (congrArg Int32.toInt hc_30) (by rw [(show (1 : Int32).toInt = 1 from rfl)]; omega)
              · skip
                refine lv_iconst (v := 0) hx hb d_Mo_compact_181 (by decide) ?_
                refine lv_istore_n (lv' := [(3, .int 0), (0, .ref m9), (1, .int v_17), (2, .int g9)]) hx hb d_Mo_compact_182 rfl hl (by decide) rfl (fun ls hl => ?_)
                refine hm_loop (fun k183 ls H locs hh183 => ∃ (i5 : Int32) (ex7 : Nat → Int32), k183 = mU i5 ∧ lv_has ls 4 [(0, .ref m9), (1, .int v_17), (2, .int g9), (3, .int i5)] ∧ hm D vwCl G hh183 H ∧ s.heap.size ≤ H.size ∧ hLc G.P locs ∧ hh183 m9 = some (.inr (9, mf A n 0 sd lo8 le8 wr8 ma nu di pl se wg op)) ∧ hh183 (A 4) = some (.inl ((t 1), 700, .inl g_1)) ∧ hh183 (A 5) = some (.inl ((t 1), 700, .inl g_3)) ∧ hh183 (A 6) = some (.inl ((t 2), 700, .inl g_5)) ∧ hh183 (A 8) = some (.inl ((t 2), 700, .inl g_6)) ∧ hh183 (A 10) = some (.inl ((t 1), 700, .inl g_7)) ∧ hh183 (A 7) = some (.inl ((t 3), 700, .inr (.inl g_10))) ∧ hh183 (A 12) = some (.inl ((t 2), 700, .inl ol8)) ∧ (TI τ t n hh183) ∧ (kf τ [(30, 1), (30, 0), (30, 3), (30, 14), (30, 15), (30, 16), (30, 13), (30, 11), (30, 10), (30, 12), (30, 2)] [m9] h hh183) ∧ (hh183 (A 11) = some (.inl ((t 2), 700, .inl ex7))) ∧ (0 ≤ i5.toInt) ∧ (∀ q, q < i5.toInt.toNat → ex7 q = ol8 q)) ?_ (hh := hh107) ⟨0, ex8, rfl, (lv_sub hl [1, 2, 3, 0] rfl), hH, hz, hLo, F_m9, F_A4, F_A5, F_A6, F_A8, F_A10, F_A7, F_A12, hT, hkf, F_A11, (by decide), (fun q hq => absurd (show q < 0 from hq) (Nat.not_lt_zero q))⟩
                rintro k183 ls H locs hh183 ⟨i5, ex7, hk183, hl, hH, hz, hLo, F_m9, F_A4, F_A5, F_A6, F_A8, F_A10, F_A7, F_A12, hT, hkf, F_A11, I_i5, hR⟩ ih183
                refine lv_iload_n hx hb d_Mo_compact_183 rfl (lv_at hl 3 rfl) ?_
                refine lv_aload_n hx hb d_Mo_compact_184 rfl (lv_at hl 0 rfl) ?_
                refine hm_get (ci := 9) (v := .int ma) (C := R_Mo) (T := F_Mo) (N := 41) hx hb hts ig_Mo hown hK hH F_m9 rfl 10 (by decide) (hts _ mw_595) (fun _ h9 => h9) rfl d_Mo_compact_185 ?_
                refine lv_icmp_ge (tgt := 209) hx hb d_Mo_compact_188 (by decide) (fun hc_31 => ?_) (fun hc_31 => ?_)
                · skip
                  have ic_32 : ma.toInt ≤ i5.toInt := iLe hc_31
                  refine lv_iload_n hx hb d_Mo_compact_209 rfl (lv_at hl 2 rfl) ?_
                  exact W.iret (v := g9) hx hb hr (fun t9 ht hW => ⟨g9, hh183, rfl, ⟨hT, hkf, ⟨(0 : Int32), sd, lo8, le8, wr8, nu, di, op, F_m9, ⟨hsd, hlo8, (by omega), ⟨by omega, by omega⟩, ⟨by omega, by omega⟩⟩, ⟨Or.inl rfl, ⟨by rw [aI_of F_A4, aI_of F_A6]; exact hTm, by rw [aI_of F_A4, aI_of F_A5, aI_of F_A8, aI_of F_A10, aI_of F_A11]; exact (exM_same hEx (fun q hq => (hR q (by omega)).trans (hO q (by omega))))⟩⟩⟩⟩, by rw [ht]; exact hH, by rw [ht]; exact hz⟩) hLo d_Mo_compact_210
                · skip
                  have ic_33 : i5.toInt < ma.toInt := iNe hc_31
                  have iu_34 : ma.toInt < 2147483648 := iUp _
                  refine lv_aload_n hx hb d_Mo_compact_191 rfl (lv_at hl 0 rfl) ?_
                  refine hm_get (ci := 9) (v := .ref (A 11)) (C := R_Mo) (T := F_Mo) (N := 41) hx hb hts ig_Mo hown hK hH F_m9 rfl 18 (by decide) (hts _ mw_618) (fun _ h9 => h9) rfl d_Mo_compact_192 ?_
                  refine lv_iload_n hx hb d_Mo_compact_195 rfl (lv_at hl 3 rfl) ?_
                  refine lv_aload_n hx hb d_Mo_compact_196 rfl (lv_at hl 0 rfl) ?_
                  refine hm_get (ci := 9) (v := .ref (A 12)) (C := R_Mo) (T := F_Mo) (N := 41) hx hb hts ig_Mo hown hK hH F_m9 rfl 19 (by decide) (hts _ mw_697) (fun _ h9 => h9) rfl d_Mo_compact_197 ?_
                  refine lv_iload_n hx hb d_Mo_compact_200 rfl (lv_at hl 3 rfl) ?_
                  refine hm_iald hx hb hK hH 2 F_A12 rfl (iIn (by omega) (by omega)) d_Mo_compact_201 ?_
                  refine lv_topi (fun v_35 e_36 => ?_)
                  refine hm_iast hx hb hK hH hLo 2 F_A11 rfl (iIn (by omega) (by omega)) d_Mo_compact_202 (fun H_37 locs hH z_38 hLo => ?_)
                  have hz : s.heap.size ≤ H_37.size := by rw [z_38]; exact hz
                  obtain ⟨h_39, e_40⟩ : ∃ z, z = hu hh183 (A 11) (.inl ((t 2), 700, .inl (upd ex7 i5.toNatClampNeg v_35))) := ⟨_, rfl⟩
                  have hH : hm D vwCl G h_39 H_37 := by rw [e_40]; exact hH
                  have F_m9 : h_39 m9 = some (.inr (9, mf A n 0 sd lo8 le8 wr8 ma nu di pl se wg op)) := by rw [e_40, hu_n (tne T_m9 (hA 11 (by decide)) (by decide))]; exact F_m9
                  have F_A4 : h_39 (A 4) = some (.inl ((t 1), 700, .inl g_1)) := by rw [e_40, hu_n (tneF (hA 4 (by decide)) (hA 11 (by decide)) (by decide))]; exact F_A4
                  have F_A5 : h_39 (A 5) = some (.inl ((t 1), 700, .inl g_3)) := by rw [e_40, hu_n (tneF (hA 5 (by decide)) (hA 11 (by decide)) (by decide))]; exact F_A5
                  have F_A6 : h_39 (A 6) = some (.inl ((t 2), 700, .inl g_5)) := by rw [e_40, hu_n (tneF (hA 6 (by decide)) (hA 11 (by decide)) (by decide))]; exact F_A6
                  have F_A8 : h_39 (A 8) = some (.inl ((t 2), 700, .inl g_6)) := by rw [e_40, hu_n (tneF (hA 8 (by decide)) (hA 11 (by decide)) (by decide))]; exact F_A8
                  have F_A10 : h_39 (A 10) = some (.inl ((t 1), 700, .inl g_7)) := by rw [e_40, hu_n (tneF (hA 10 (by decide)) (hA 11 (by decide)) (by decide))]; exact F_A10
                  have F_A7 : h_39 (A 7) = some (.inl ((t 3), 700, .inr (.inl g_10))) := by rw [e_40, hu_n (tneF (hA 7 (by decide)) (hA 11 (by decide)) (by decide))]; exact F_A7
                  have F_A12 : h_39 (A 12) = some (.inl ((t 2), 700, .inl ol8)) := by rw [e_40, hu_n (tneF (hA 12 (by decide)) (hA 11 (by decide)) (by decide))]; exact F_A12
                  have F_A11 : h_39 (A 11) = some (.inl ((t 2), 700, .inl (upd ex7 i5.toNatClampNeg v_35))) := by rw [e_40]; exact hu_s _ _ _
                  have hT : TI τ t n h_39 := by rw [e_40]; exact TI_put hT (hA 11 (by decide)) (by decide) (ok_I rfl rfl)
                  have hkf : kf τ [(30, 1), (30, 0), (30, 3), (30, 14), (30, 15), (30, 16), (30, 13), (30, 11), (30, 10), (30, 12), (30, 2)] [m9] h h_39 := by rw [e_40]; exact kf_put hkf (hA 11 (by decide)) (List.mem_cons_of_mem _ (List.mem_cons_of_mem _ (List.mem_cons_of_mem _ (List.mem_cons_of_mem _ (List.mem_cons_of_mem _ (List.mem_cons_of_mem _ (List.mem_cons_of_mem _ List.mem_cons_self)))))))
                  obtain ⟨g_41, e_42⟩ : ∃ z, z = upd ex7 i5.toNatClampNeg v_35 := ⟨_, rfl⟩
                  rw [← e_42] at F_A11
                  obtain ⟨j_43, e_44⟩ : ∃ z : Int32, z = i5 + 1 := ⟨_, rfl⟩
                  refine lv_iinc (v := j_43) (lv' := [(3, .int j_43), (0, .ref m9), (1, .int v_17), (2, .int g9)]) hx hb d_Mo_compact_203 hl (k := 3) rfl e_44.symm (by decide) rfl (fun ls hl => ?_)
                  refine lv_goto (tgt := 183) hx hb d_Mo_compact_206 (by decide) ?_
                  have is_45 : j_43.toInt = i5.toInt + 1 := by rw [e_44]; exact iAddK 1 rfl (by omega) (by omega)
                  exact ih183 (mU j_43) ls _ locs _ (by rw [hk183]; exact mU_lt (by omega)) ⟨j_43, g_41, rfl, (lv_sub hl [1, 2, 3, 0] rfl), hH, hz, hLo, F_m9, F_A4, F_A5, F_A6, F_A8, F_A10, F_A7, F_A12, hT, hkf, F_A11, (by omega), (cp_s I_i5 (by omega) hR (by rw [e_42, e_36]))⟩
            · skip
              have ic_46 : g9.toInt = 0 := congrArg Int32.toInt hc_29
              refine lv_aload_n hx hb d_Mo_compact_169 rfl (lv_at hl 0 rfl) ?_
              refine lv_iload_n hx hb d_Mo_compact_170 rfl (lv_at hl 1 rfl) ?_
              refine lv_iconst (v := 1) hx hb d_Mo_compact_171 (by decide) ?_
              refine hm_calli (va_runV (As := [.int v_17, .int 1]) (b := m9) (rest := []) ⟨hx, hb, hml, hown, hts⟩ (m_session l D t G ak av hh107 τ n m9 v_17 1 A (0 : Int32) sd lo8 le8 wr8 ma nu di pl se wg op   hn hT T_m9  F_m9 hA ⟨hsd, hlo8, (by omega), ⟨by omega, by omega⟩, ⟨by omega, by omega⟩⟩ (by rw [aI_of F_A4, aI_of F_A6]; exact hTm) hfr) ⟨cw9B 2 hts mw_723 mw_724 mw_579 rfl rfl (by decide +kernel) ⟨Nat.le_of_ble_eq_true rfl, Nat.le_of_ble_eq_true rfl⟩, hts _ mw_725, hts _ mw_726⟩ (hP_V (q := (R_Mo, F_Mo, 41)) kE_ok hE hK hH F_m9 rfl) rfl rfl hl.1 rfl (lv_room (Nat.le_of_ble_eq_true rfl)) d_Mo_compact_172 ⟨Nat.le_of_ble_eq_true rfl, Nat.le_of_ble_eq_true rfl⟩) hLo (fun r_47 h_48 H_49 locs hp_51 hH z_50 hLo => ?_)
              have hz : s.heap.size ≤ H_49.size := Nat.le_trans hz z_50
              have hT0 := hT
              obtain ⟨hT, kf_53, xp_52⟩ := hp_51
              have F_A4 : h_48 (A 4) = some (.inl ((t 1), 700, .inl g_1)) := kf_at kf_53 (hA 4 (by decide)) (by decide) (tncF (by decide) (tncF (by decide) (tncF (by decide) (tncF (by decide) (tncF (by decide) (tncF (by decide) (tncF (by decide) tn0))))))) (nmc (tne (hA 4 (by decide)) T_m9 (by decide)) nm0) F_A4
              have F_A5 : h_48 (A 5) = some (.inl ((t 1), 700, .inl g_3)) := kf_at kf_53 (hA 5 (by decide)) (by decide) (tncF (by decide) (tncF (by decide) (tncF (by decide) (tncF (by decide) (tncF (by decide) (tncF (by decide) (tncF (by decide) tn0))))))) (nmc (tne (hA 5 (by decide)) T_m9 (by decide)) nm0) F_A5
              have F_A6 : h_48 (A 6) = some (.inl ((t 2), 700, .inl g_5)) := kf_at kf_53 (hA 6 (by decide)) (by decide) (tncF (by decide) (tncF (by decide) (tncF (by decide) (tncF (by decide) (tncF (by decide) (tncF (by decide) (tncF (by decide) tn0))))))) (nmc (tne (hA 6 (by decide)) T_m9 (by decide)) nm0) F_A6
              have F_A8 : h_48 (A 8) = some (.inl ((t 2), 700, .inl g_6)) := kf_at kf_53 (hA 8 (by decide)) (by decide) (tncF (by decide) (tncF (by decide) (tncF (by decide) (tncF (by decide) (tncF (by decide) (tncF (by decide) (tncF (by decide) tn0))))))) (nmc (tne (hA 8 (by decide)) T_m9 (by decide)) nm0) F_A8
              have F_A10 : h_48 (A 10) = some (.inl ((t 1), 700, .inl g_7)) := kf_at kf_53 (hA 10 (by decide)) (by decide) (tncF (by decide) (tncF (by decide) (tncF (by decide) (tncF (by decide) (tncF (by decide) (tncF (by decide) (tncF (by decide) tn0))))))) (nmc (tne (hA 10 (by decide)) T_m9 (by decide)) nm0) F_A10
              have F_A7 : h_48 (A 7) = some (.inl ((t 3), 700, .inr (.inl g_10))) := kf_at kf_53 (hA 7 (by decide)) (by decide) (tncF (by decide) (tncF (by decide) (tncF (by decide) (tncF (by decide) (tncF (by decide) (tncF (by decide) (tncF (by decide) tn0))))))) (nmc (tne (hA 7 (by decide)) T_m9 (by decide)) nm0) F_A7
              have F_A12 : h_48 (A 12) = some (.inl ((t 2), 700, .inl ol8)) := kf_at kf_53 (hA 12 (by decide)) (by decide) (tncF (by decide) (tncF (by decide) (tncF (by decide) (tncF (by decide) (tncF (by decide) (tncF (by decide) (tncF (by decide) tn0))))))) (nmc (tne (hA 12 (by decide)) T_m9 (by decide)) nm0) F_A12
              have F_A11 : h_48 (A 11) = some (.inl ((t 2), 700, .inl ex8)) := kf_at kf_53 (hA 11 (by decide)) (by decide) (tncF (by decide) (tncF (by decide) (tncF (by decide) (tncF (by decide) (tncF (by decide) (tncF (by decide) (tncF (by decide) tn0))))))) (nmc (tne (hA 11 (by decide)) T_m9 (by decide)) nm0) F_A11
              have hkf : kf τ [(30, 1), (30, 0), (30, 3), (30, 14), (30, 15), (30, 16), (30, 13), (30, 11), (30, 10), (30, 12), (30, 2)] [m9] h h_48 := kf_tr hkf kf_53 (List.forall_mem_cons.mpr ⟨List.mem_cons_self, List.forall_mem_cons.mpr ⟨(List.mem_cons_of_mem _ List.mem_cons_self), List.forall_mem_cons.mpr ⟨(List.mem_cons_of_mem _ (List.mem_cons_of_mem _ List.mem_cons_self)), List.forall_mem_cons.mpr ⟨(List.mem_cons_of_mem _ (List.mem_cons_of_mem _ (List.mem_cons_of_mem _ List.mem_cons_self))), List.forall_mem_cons.mpr ⟨(List.mem_cons_of_mem _ (List.mem_cons_of_mem _ (List.mem_cons_of_mem _ (List.mem_cons_of_mem _ List.mem_cons_self)))), List.forall_mem_cons.mpr ⟨(List.mem_cons_of_mem _ (List.mem_cons_of_mem _ (List.mem_cons_of_mem _ (List.mem_cons_of_mem _ (List.mem_cons_of_mem _ List.mem_cons_self))))), List.forall_mem_cons.mpr ⟨(List.mem_cons_of_mem _ (List.mem_cons_of_mem _ (List.mem_cons_of_mem _ (List.mem_cons_of_mem _ (List.mem_cons_of_mem _ (List.mem_cons_of_mem _ List.mem_cons_self)))))), List.forall_mem_nil _⟩⟩⟩⟩⟩⟩⟩) (List.forall_mem_cons.mpr ⟨Or.inl (by simp), List.forall_mem_nil _⟩)
              obtain ⟨lo_54, le_55, wr_56, di_57, F_m9, mk_58⟩ := xp_52
              obtain ⟨m_60, m_61, m_62, m_63, m_64⟩ := mk_58
              refine lv_istore_n (lv' := [(2, .int r_47), (0, .ref m9), (1, .int v_17), (3, .int i9)]) hx hb d_Mo_compact_175 rfl hl (by decide) rfl (fun ls hl => ?_)
              refine lv_iload_n hx hb d_Mo_compact_176 rfl (lv_at hl 0 rfl) ?_
              refine lv_iconst (v := 1) hx hb d_Mo_compact_177 (by decide) ?_
              refine lv_icmp_eq (tgt := 211) hx hb d_Mo_compact_178 (by decide) (fun hc_65 => ?_) (fun hc_65 => ?_)
              · skip
                have ic_66 : r_47.toInt = 1 := congrArg Int32.toInt hc_65
                refine lv_iconst (v := 1) hx hb d_Mo_compact_211 (by decide) ?_
                refine lv_istore_n (lv' := [(3, .int 1), (2, .int r_47), (0, .ref m9), (1, .int v_17)]) hx hb d_Mo_compact_212 rfl hl (by decide) rfl (fun ls hl => ?_)
                refine hm_loop (fun k213 ls H locs hh213 => ∃ (i5 : Int32) (iw7 : Nat → Int32), k213 = mU i5 ∧ lv_has ls 4 [(0, .ref m9), (1, .int v_17), (2, .int r_47), (3, .int i5)] ∧ hm D vwCl G hh213 H ∧ s.heap.size ≤ H.size ∧ hLc G.P locs ∧ hh213 m9 = some (.inr (9, mf A n 0 sd lo_54 le_55 wr_56 ma nu di_57 pl se wg op)) ∧ hh213 (A 4) = some (.inl ((t 1), 700, .inl g_1)) ∧ hh213 (A 5) = some (.inl ((t 1), 700, .inl g_3)) ∧ hh213 (A 6) = some (.inl ((t 2), 700, .inl g_5)) ∧ hh213 (A 8) = some (.inl ((t 2), 700, .inl g_6)) ∧ hh213 (A 11) = some (.inl ((t 2), 700, .inl ex8)) ∧ hh213 (A 7) = some (.inl ((t 3), 700, .inr (.inl g_10))) ∧ (TI τ t n hh213) ∧ (kf τ [(30, 1), (30, 0), (30, 3), (30, 14), (30, 15), (30, 16), (30, 13), (30, 11), (30, 10), (30, 12), (30, 2)] [m9] h hh213) ∧ (hh213 (A 10) = some (.inl ((t 1), 700, .inl iw7))) ∧ (zbF iw7) ∧ (1 ≤ i5.toInt) ∧ (iw7 0 = g_7 0)) ?_ (hh := h_48) ⟨1, g_7, rfl, (lv_sub hl [2, 3, 1, 0] rfl), hH, hz, hLo, F_m9, F_A4, F_A5, F_A6, F_A8, F_A11, F_A7, hT, hkf, F_A10, c_8, (by decide), rfl⟩
                rintro k213 ls H locs hh213 ⟨i5, iw7, hk213, hl, hH, hz, hLo, F_m9, F_A4, F_A5, F_A6, F_A8, F_A11, F_A7, hT, hkf, F_A10, c_iw7, I_i5, hW9⟩ ih213
                refine lv_iload_n hx hb d_Mo_compact_213 rfl (lv_at hl 3 rfl) ?_
                refine lv_aload_n hx hb d_Mo_compact_214 rfl (lv_at hl 0 rfl) ?_
                refine hm_get (ci := 9) (v := .int ma) (C := R_Mo) (T := F_Mo) (N := 41) hx hb hts ig_Mo hown hK hH F_m9 rfl 10 (by decide) (hts _ mw_595) (fun _ h9 => h9) rfl d_Mo_compact_215 ?_
                refine lv_icmp_ge (tgt := 265) hx hb d_Mo_compact_218 (by decide) (fun hc_67 => ?_) (fun hc_67 => ?_)
                · skip
                  have ic_68 : ma.toInt ≤ i5.toInt := iLe hc_67
                  refine lv_aload_n hx hb d_Mo_compact_265 rfl (lv_at hl 0 rfl) ?_
                  refine lv_iload_n hx hb d_Mo_compact_266 rfl (lv_at hl 1 rfl) ?_
                  refine hm_put (ci := 9) (v := .int v_17) (ty := .int) (C := R_Mo) (T := F_Mo) (N := 41) hx hb hts ig_Mo t_Mo tk_Mo nm_Mo hown hK hH hLo F_m9 rfl 2 (by decide) (hts _ mw_586) (fun _ h9 => h9) rfl (by decide +kernel) rfl rfl (Nat.le_of_ble_eq_true rfl) d_Mo_compact_267 (fun H_69 locs hH z_70 hLo => ?_)
                  have hz : s.heap.size ≤ H_69.size := by rw [z_70]; exact hz
                  obtain ⟨h_71, e_72⟩ : ∃ z, z = hu hh213 m9 (.inr (9, mf A n 0 v_17 lo_54 le_55 wr_56 ma nu di_57 pl se wg op)) := ⟨_, rfl⟩
                  have hH : hm D vwCl G h_71 H_69 := by rw [e_72]; exact hH
                  have F_A4 : h_71 (A 4) = some (.inl ((t 1), 700, .inl g_1)) := by rw [e_72, hu_n (tne (hA 4 (by decide)) T_m9 (by decide))]; exact F_A4
                  have F_A5 : h_71 (A 5) = some (.inl ((t 1), 700, .inl g_3)) := by rw [e_72, hu_n (tne (hA 5 (by decide)) T_m9 (by decide))]; exact F_A5
                  have F_A6 : h_71 (A 6) = some (.inl ((t 2), 700, .inl g_5)) := by rw [e_72, hu_n (tne (hA 6 (by decide)) T_m9 (by decide))]; exact F_A6
                  have F_A8 : h_71 (A 8) = some (.inl ((t 2), 700, .inl g_6)) := by rw [e_72, hu_n (tne (hA 8 (by decide)) T_m9 (by decide))]; exact F_A8
                  have F_A11 : h_71 (A 11) = some (.inl ((t 2), 700, .inl ex8)) := by rw [e_72, hu_n (tne (hA 11 (by decide)) T_m9 (by decide))]; exact F_A11
                  have F_A7 : h_71 (A 7) = some (.inl ((t 3), 700, .inr (.inl g_10))) := by rw [e_72, hu_n (tne (hA 7 (by decide)) T_m9 (by decide))]; exact F_A7
                  have F_A10 : h_71 (A 10) = some (.inl ((t 1), 700, .inl iw7)) := by rw [e_72, hu_n (tne (hA 10 (by decide)) T_m9 (by decide))]; exact F_A10
                  have F_m9 : h_71 m9 = some (.inr (9, mf A n 0 v_17 lo_54 le_55 wr_56 ma nu di_57 pl se wg op)) := by rw [e_72]; exact hu_s _ _ _
                  have hT : TI τ t n h_71 := by rw [e_72]; exact TI_put hT T_m9 (by decide) ⟨_, rfl⟩
                  have hkf : kf τ [(30, 1), (30, 0), (30, 3), (30, 14), (30, 15), (30, 16), (30, 13), (30, 11), (30, 10), (30, 12), (30, 2)] [m9] h h_71 := by rw [e_72]; exact kf_putM hkf (by simp)
                  refine lv_iconst (v := 0) hx hb d_Mo_compact_270 (by decide) ?_
                  refine lv_istore_n (lv' := [(3, .int 0), (0, .ref m9), (1, .int v_17), (2, .int r_47)]) hx hb d_Mo_compact_271 rfl hl (by decide) rfl (fun ls hl => ?_)
                  refine hm_loop (fun k272 ls H locs hh272 => ∃ (i4 : Int32), k272 = mU i4 ∧ lv_has ls 4 [(0, .ref m9), (1, .int v_17), (2, .int r_47), (3, .int i4)] ∧ hm D vwCl G hh272 H ∧ s.heap.size ≤ H.size ∧ hLc G.P locs ∧ hh272 m9 = some (.inr (9, mf A n 0 v_17 lo_54 le_55 wr_56 ma nu di_57 pl se wg op)) ∧ hh272 (A 4) = some (.inl ((t 1), 700, .inl g_1)) ∧ hh272 (A 5) = some (.inl ((t 1), 700, .inl g_3)) ∧ hh272 (A 6) = some (.inl ((t 2), 700, .inl g_5)) ∧ hh272 (A 8) = some (.inl ((t 2), 700, .inl g_6)) ∧ hh272 (A 10) = some (.inl ((t 1), 700, .inl iw7)) ∧ hh272 (A 11) = some (.inl ((t 2), 700, .inl ex8)) ∧ hh272 (A 7) = some (.inl ((t 3), 700, .inr (.inl g_10))) ∧ (TI τ t n hh272) ∧ (kf τ [(30, 1), (30, 0), (30, 3), (30, 14), (30, 15), (30, 16), (30, 13), (30, 11), (30, 10), (30, 12), (30, 2)] [m9] h hh272) ∧ (0 ≤ i4.toInt)) ?_ (hh := h_71) ⟨0, rfl, (lv_sub hl [1, 2, 3, 0] rfl), hH, hz, hLo, F_m9, F_A4, F_A5, F_A6, F_A8, F_A10, F_A11, F_A7, hT, hkf, (by decide)⟩
                  rintro k272 ls H locs hh272 ⟨i4, hk272, hl, hH, hz, hLo, F_m9, F_A4, F_A5, F_A6, F_A8, F_A10, F_A11, F_A7, hT, hkf, I_i4⟩ ih272
                  refine lv_iload_n hx hb d_Mo_compact_272 rfl (lv_at hl 3 rfl) ?_
                  refine lv_sipush (v := 200) hx hb d_Mo_compact_273 (by decide) ?_
                  refine lv_icmp_ge (tgt := 292) hx hb d_Mo_compact_276 (by decide) (fun hc_73 => ?_) (fun hc_73 => ?_)
                  · skip
                    have ic_74 : 200 ≤ i4.toInt := iLe hc_73
                    refine lv_aload_n hx hb d_Mo_compact_292 rfl (lv_at hl 0 rfl) ?_
                    refine lv_iconst (v := 1) hx hb d_Mo_compact_293 (by decide) ?_
                    refine hm_put (ci := 9) (v := .int 1) (ty := .int) (C := R_Mo) (T := F_Mo) (N := 41) hx hb hts ig_Mo t_Mo tk_Mo nm_Mo hown hK hH hLo F_m9 rfl 20 (by decide) (hts _ mw_722) (fun _ h9 => h9) rfl (by decide +kernel) rfl rfl (Nat.le_of_ble_eq_true rfl) d_Mo_compact_294 (fun H_75 locs hH z_76 hLo => ?_)
                    have hz : s.heap.size ≤ H_75.size := by rw [z_76]; exact hz
                    obtain ⟨h_77, e_78⟩ : ∃ z, z = hu hh272 m9 (.inr (9, mf A n 0 v_17 lo_54 le_55 wr_56 ma 1 di_57 pl se wg op)) := ⟨_, rfl⟩
                    have hH : hm D vwCl G h_77 H_75 := by rw [e_78]; exact hH
                    have F_A4 : h_77 (A 4) = some (.inl ((t 1), 700, .inl g_1)) := by rw [e_78, hu_n (tne (hA 4 (by decide)) T_m9 (by decide))]; exact F_A4
                    have F_A5 : h_77 (A 5) = some (.inl ((t 1), 700, .inl g_3)) := by rw [e_78, hu_n (tne (hA 5 (by decide)) T_m9 (by decide))]; exact F_A5
                    have F_A6 : h_77 (A 6) = some (.inl ((t 2), 700, .inl g_5)) := by rw [e_78, hu_n (tne (hA 6 (by decide)) T_m9 (by decide))]; exact F_A6
                    have F_A8 : h_77 (A 8) = some (.inl ((t 2), 700, .inl g_6)) := by rw [e_78, hu_n (tne (hA 8 (by decide)) T_m9 (by decide))]; exact F_A8
                    have F_A10 : h_77 (A 10) = some (.inl ((t 1), 700, .inl iw7)) := by rw [e_78, hu_n (tne (hA 10 (by decide)) T_m9 (by decide))]; exact F_A10
                    have F_A11 : h_77 (A 11) = some (.inl ((t 2), 700, .inl ex8)) := by rw [e_78, hu_n (tne (hA 11 (by decide)) T_m9 (by decide))]; exact F_A11
                    have F_A7 : h_77 (A 7) = some (.inl ((t 3), 700, .inr (.inl g_10))) := by rw [e_78, hu_n (tne (hA 7 (by decide)) T_m9 (by decide))]; exact F_A7
                    have F_m9 : h_77 m9 = some (.inr (9, mf A n 0 v_17 lo_54 le_55 wr_56 ma 1 di_57 pl se wg op)) := by rw [e_78]; exact hu_s _ _ _
                    have hT : TI τ t n h_77 := by rw [e_78]; exact TI_put hT T_m9 (by decide) ⟨_, rfl⟩
                    have hkf : kf τ [(30, 1), (30, 0), (30, 3), (30, 14), (30, 15), (30, 16), (30, 13), (30, 11), (30, 10), (30, 12), (30, 2)] [m9] h h_77 := by rw [e_78]; exact kf_putM hkf (by simp)
                    refine lv_aload_n hx hb d_Mo_compact_297 rfl (lv_at hl 0 rfl) ?_
                    refine lv_iconst (v := 0) hx hb d_Mo_compact_298 (by decide) ?_
                    refine hm_put (ci := 9) (v := .int 0) (ty := .int) (C := R_Mo) (T := F_Mo) (N := 41) hx hb hts ig_Mo t_Mo tk_Mo nm_Mo hown hK hH hLo F_m9 rfl 35 (by decide) (hts _ mw_732) (fun _ h9 => h9) rfl (by decide +kernel) rfl rfl (Nat.le_of_ble_eq_true rfl) d_Mo_compact_299 (fun H_79 locs hH z_80 hLo => ?_)
                    have hz : s.heap.size ≤ H_79.size := by rw [z_80]; exact hz
                    obtain ⟨h_81, e_82⟩ : ∃ z, z = hu h_77 m9 (.inr (9, mf A n 0 v_17 lo_54 le_55 wr_56 ma 1 di_57 pl se wg 0)) := ⟨_, rfl⟩
                    have hH : hm D vwCl G h_81 H_79 := by rw [e_82]; exact hH
                    have F_A4 : h_81 (A 4) = some (.inl ((t 1), 700, .inl g_1)) := by rw [e_82, hu_n (tne (hA 4 (by decide)) T_m9 (by decide))]; exact F_A4
                    have F_A5 : h_81 (A 5) = some (.inl ((t 1), 700, .inl g_3)) := by rw [e_82, hu_n (tne (hA 5 (by decide)) T_m9 (by decide))]; exact F_A5
                    have F_A6 : h_81 (A 6) = some (.inl ((t 2), 700, .inl g_5)) := by rw [e_82, hu_n (tne (hA 6 (by decide)) T_m9 (by decide))]; exact F_A6
                    have F_A8 : h_81 (A 8) = some (.inl ((t 2), 700, .inl g_6)) := by rw [e_82, hu_n (tne (hA 8 (by decide)) T_m9 (by decide))]; exact F_A8
                    have F_A10 : h_81 (A 10) = some (.inl ((t 1), 700, .inl iw7)) := by rw [e_82, hu_n (tne (hA 10 (by decide)) T_m9 (by decide))]; exact F_A10
                    have F_A11 : h_81 (A 11) = some (.inl ((t 2), 700, .inl ex8)) := by rw [e_82, hu_n (tne (hA 11 (by decide)) T_m9 (by decide))]; exact F_A11
                    have F_A7 : h_81 (A 7) = some (.inl ((t 3), 700, .inr (.inl g_10))) := by rw [e_82, hu_n (tne (hA 7 (by decide)) T_m9 (by decide))]; exact F_A7
                    have F_m9 : h_81 m9 = some (.inr (9, mf A n 0 v_17 lo_54 le_55 wr_56 ma 1 di_57 pl se wg 0)) := by rw [e_82]; exact hu_s _ _ _
                    have hT : TI τ t n h_81 := by rw [e_82]; exact TI_put hT T_m9 (by decide) ⟨_, rfl⟩
                    have hkf : kf τ [(30, 1), (30, 0), (30, 3), (30, 14), (30, 15), (30, 16), (30, 13), (30, 11), (30, 10), (30, 12), (30, 2)] [m9] h h_81 := by rw [e_82]; exact kf_putM hkf (by simp)
                    refine lv_iconst (v := 1) hx hb d_Mo_compact_302 (by decide) ?_
                    exact W.iret (v := 1) hx hb hr (fun t9 ht hW => ⟨1, h_81, rfl, ⟨hT, hkf, ⟨(0 : Int32), v_17, lo_54, le_55, wr_56, (1 : Int32), di_57, (0 : Int32), F_m9, ⟨hfr, m_61, (by omega), ⟨by omega, by omega⟩, ⟨by decide, by decide⟩⟩, ⟨Or.inr rfl, ⟨by rw [aI_of F_A4, aI_of F_A6]; exact hTm, by rw [aI_of F_A4, aI_of F_A5, aI_of F_A8, aI_of F_A10, aI_of F_A11]; exact (exM_fin hEx hE0 hW9 (fun q h1 hq => hL hc_29 q h1 (by omega)))⟩⟩⟩⟩, by rw [ht]; exact hH, by rw [ht]; exact hz⟩) hLo d_Mo_compact_303
                  · skip
                    have ic_83 : i4.toInt < 200 := iNe hc_73
                    refine lv_aload_n hx hb d_Mo_compact_279 rfl (lv_at hl 0 rfl) ?_
                    refine hm_get (ci := 9) (v := .ref (A 2)) (C := R_Mo) (T := F_Mo) (N := 41) hx hb hts ig_Mo hown hK hH F_m9 rfl 5 (by decide) (hts _ mw_592) (fun _ h9 => h9) rfl d_Mo_compact_280 ?_
                    refine lv_iload_n hx hb d_Mo_compact_283 rfl (lv_at hl 3 rfl) ?_
                    refine lv_iconst (v := 0) hx hb d_Mo_compact_284 (by decide) ?_
                    obtain ⟨g_84, F_A2, c_85⟩ := TI_arZ (L := 200) hT (hA 2 (by decide)) rfl rfl
                    refine hm_zast hx hb hK hH hLo 1 F_A2 rfl (iIn (by omega) (by omega)) d_Mo_compact_285 (fun H_86 locs hH z_87 hLo => ?_)
                    have hz : s.heap.size ≤ H_86.size := by rw [z_87]; exact hz
                    rw [zb_nar (v := 0) zb0] at hH
                    obtain ⟨h_88, e_89⟩ : ∃ z, z = hu hh272 (A 2) (.inl ((t 1), 200, .inl (upd g_84 i4.toNatClampNeg (0 : Int32)))) := ⟨_, rfl⟩
                    have hH : hm D vwCl G h_88 H_86 := by rw [e_89]; exact hH
                    have F_m9 : h_88 m9 = some (.inr (9, mf A n 0 v_17 lo_54 le_55 wr_56 ma nu di_57 pl se wg op)) := by rw [e_89, hu_n (tne T_m9 (hA 2 (by decide)) (by decide))]; exact F_m9
                    have F_A4 : h_88 (A 4) = some (.inl ((t 1), 700, .inl g_1)) := by rw [e_89, hu_n (tneF (hA 4 (by decide)) (hA 2 (by decide)) (by decide))]; exact F_A4
                    have F_A5 : h_88 (A 5) = some (.inl ((t 1), 700, .inl g_3)) := by rw [e_89, hu_n (tneF (hA 5 (by decide)) (hA 2 (by decide)) (by decide))]; exact F_A5
                    have F_A6 : h_88 (A 6) = some (.inl ((t 2), 700, .inl g_5)) := by rw [e_89, hu_n (tneF (hA 6 (by decide)) (hA 2 (by decide)) (by decide))]; exact F_A6
                    have F_A8 : h_88 (A 8) = some (.inl ((t 2), 700, .inl g_6)) := by rw [e_89, hu_n (tneF (hA 8 (by decide)) (hA 2 (by decide)) (by decide))]; exact F_A8
                    have F_A10 : h_88 (A 10) = some (.inl ((t 1), 700, .inl iw7)) := by rw [e_89, hu_n (tneF (hA 10 (by decide)) (hA 2 (by decide)) (by decide))]; exact F_A10
                    have F_A11 : h_88 (A 11) = some (.inl ((t 2), 700, .inl ex8)) := by rw [e_89, hu_n (tneF (hA 11 (by decide)) (hA 2 (by decide)) (by decide))]; exact F_A11
                    have F_A7 : h_88 (A 7) = some (.inl ((t 3), 700, .inr (.inl g_10))) := by rw [e_89, hu_n (tneF (hA 7 (by decide)) (hA 2 (by decide)) (by decide))]; exact F_A7
                    have F_A2 : h_88 (A 2) = some (.inl ((t 1), 200, .inl (upd g_84 i4.toNatClampNeg (0 : Int32)))) := by rw [e_89]; exact hu_s _ _ _
                    have hT : TI τ t n h_88 := by rw [e_89]; exact TI_put hT (hA 2 (by decide)) (by decide) (ok_Z rfl rfl (zbF_up c_85 zb0))
                    have hkf : kf τ [(30, 1), (30, 0), (30, 3), (30, 14), (30, 15), (30, 16), (30, 13), (30, 11), (30, 10), (30, 12), (30, 2)] [m9] h h_88 := by rw [e_89]; exact kf_put hkf (hA 2 (by decide)) (List.mem_cons_of_mem _ (List.mem_cons_of_mem _ (List.mem_cons_of_mem _ (List.mem_cons_of_mem _ (List.mem_cons_of_mem _ (List.mem_cons_of_mem _ (List.mem_cons_of_mem _ (List.mem_cons_of_mem _ (List.mem_cons_of_mem _ (List.mem_cons_of_mem _ List.mem_cons_self))))))))))
                    obtain ⟨g_90, e_91⟩ : ∃ z, z = upd g_84 i4.toNatClampNeg (0 : Int32) := ⟨_, rfl⟩
                    rw [← e_91] at F_A2
                    have c_92 : zbF g_90 := by rw [e_91]; exact (zbF_up c_85 zb0)
                    obtain ⟨j_93, e_94⟩ : ∃ z : Int32, z = i4 + 1 := ⟨_, rfl⟩
                    refine lv_iinc (v := j_93) (lv' := [(3, .int j_93), (0, .ref m9), (1, .int v_17), (2, .int r_47)]) hx hb d_Mo_compact_286 hl (k := 3) rfl e_94.symm (by decide) rfl (fun ls hl => ?_)
                    refine lv_goto (tgt := 272) hx hb d_Mo_compact_289 (by decide) ?_
                    have is_95 : j_93.toInt = i4.toInt + 1 := by rw [e_94]; exact iAddK 1 rfl (by omega) (by omega)
                    exact ih272 (mU j_93) ls _ locs _ (by rw [hk272]; exact mU_lt (by omega)) ⟨j_93, rfl, (lv_sub hl [1, 2, 3, 0] rfl), hH, hz, hLo, F_m9, F_A4, F_A5, F_A6, F_A8, F_A10, F_A11, F_A7, hT, hkf, (by omega)⟩
                · skip
                  have ic_96 : i5.toInt < ma.toInt := iNe hc_67
                  have iu_97 : ma.toInt < 2147483648 := iUp _
                  refine lv_aload_n hx hb d_Mo_compact_221 rfl (lv_at hl 0 rfl) ?_
                  refine hm_get (ci := 9) (v := .ref (A 10)) (C := R_Mo) (T := F_Mo) (N := 41) hx hb hts ig_Mo hown hK hH F_m9 rfl 17 (by decide) (hts _ mw_617) (fun _ h9 => h9) rfl d_Mo_compact_222 ?_
                  refine lv_iload_n hx hb d_Mo_compact_225 rfl (lv_at hl 3 rfl) ?_
                  refine lv_aload_n hx hb d_Mo_compact_226 rfl (lv_at hl 0 rfl) ?_
                  refine hm_get (ci := 9) (v := .ref (A 4)) (C := R_Mo) (T := F_Mo) (N := 41) hx hb hts ig_Mo hown hK hH F_m9 rfl 11 (by decide) (hts _ mw_596) (fun _ h9 => h9) rfl d_Mo_compact_227 ?_
                  refine lv_iload_n hx hb d_Mo_compact_230 rfl (lv_at hl 3 rfl) ?_
                  refine hm_zald hx hb hK hH 1 F_A4 rfl (iIn (by omega) (by omega)) d_Mo_compact_231 ?_
                  refine lv_topi (fun v_98 e_99 => ?_)
                  have c_100 : zb v_98 := by rw [e_99]; exact c_2 _
                  refine lv_if_eq (tgt := 257) hx hb d_Mo_compact_232 (by decide) (fun hc_101 => ?_) (fun hc_101 => ?_)
                  · skip
                    have ic_102 : v_98.toInt = 0 := congrArg Int32.toInt hc_101
                    refine lv_iconst (v := 0) hx hb d_Mo_compact_257 (by decide) ?_
                    refine hm_zast hx hb hK hH hLo 1 F_A10 rfl (iIn (by omega) (by omega)) d_Mo_compact_258 (fun H_103 locs hH z_104 hLo => ?_)
                    have hz : s.heap.size ≤ H_103.size := by rw [z_104]; exact hz
                    rw [zb_nar (v := 0) zb0] at hH
                    obtain ⟨h_105, e_106⟩ : ∃ z, z = hu hh213 (A 10) (.inl ((t 1), 700, .inl (upd iw7 i5.toNatClampNeg (0 : Int32)))) := ⟨_, rfl⟩
                    have hH : hm D vwCl G h_105 H_103 := by rw [e_106]; exact hH
                    have F_m9 : h_105 m9 = some (.inr (9, mf A n 0 sd lo_54 le_55 wr_56 ma nu di_57 pl se wg op)) := by rw [e_106, hu_n (tne T_m9 (hA 10 (by decide)) (by decide))]; exact F_m9
                    have F_A4 : h_105 (A 4) = some (.inl ((t 1), 700, .inl g_1)) := by rw [e_106, hu_n (tneF (hA 4 (by decide)) (hA 10 (by decide)) (by decide))]; exact F_A4
                    have F_A5 : h_105 (A 5) = some (.inl ((t 1), 700, .inl g_3)) := by rw [e_106, hu_n (tneF (hA 5 (by decide)) (hA 10 (by decide)) (by decide))]; exact F_A5
                    have F_A6 : h_105 (A 6) = some (.inl ((t 2), 700, .inl g_5)) := by rw [e_106, hu_n (tneF (hA 6 (by decide)) (hA 10 (by decide)) (by decide))]; exact F_A6
                    have F_A8 : h_105 (A 8) = some (.inl ((t 2), 700, .inl g_6)) := by rw [e_106, hu_n (tneF (hA 8 (by decide)) (hA 10 (by decide)) (by decide))]; exact F_A8
                    have F_A11 : h_105 (A 11) = some (.inl ((t 2), 700, .inl ex8)) := by rw [e_106, hu_n (tneF (hA 11 (by decide)) (hA 10 (by decide)) (by decide))]; exact F_A11
                    have F_A7 : h_105 (A 7) = some (.inl ((t 3), 700, .inr (.inl g_10))) := by rw [e_106, hu_n (tneF (hA 7 (by decide)) (hA 10 (by decide)) (by decide))]; exact F_A7
                    have F_A10 : h_105 (A 10) = some (.inl ((t 1), 700, .inl (upd iw7 i5.toNatClampNeg (0 : Int32)))) := by rw [e_106]; exact hu_s _ _ _
                    have hT : TI τ t n h_105 := by rw [e_106]; exact TI_put hT (hA 10 (by decide)) (by decide) (ok_Z rfl rfl (zbF_up c_iw7 zb0))
                    have hkf : kf τ [(30, 1), (30, 0), (30, 3), (30, 14), (30, 15), (30, 16), (30, 13), (30, 11), (30, 10), (30, 12), (30, 2)] [m9] h h_105 := by rw [e_106]; exact kf_put hkf (hA 10 (by decide)) (List.mem_cons_of_mem _ (List.mem_cons_of_mem _ (List.mem_cons_of_mem _ (List.mem_cons_of_mem _ (List.mem_cons_of_mem _ (List.mem_cons_of_mem _ (List.mem_cons_of_mem _ (List.mem_cons_of_mem _ List.mem_cons_self))))))))
                    obtain ⟨g_107, e_108⟩ : ∃ z, z = upd iw7 i5.toNatClampNeg (0 : Int32) := ⟨_, rfl⟩
                    rw [← e_108] at F_A10
                    have c_109 : zbF g_107 := by rw [e_108]; exact (zbF_up c_iw7 zb0)
                    obtain ⟨j_110, e_111⟩ : ∃ z : Int32, z = i5 + 1 := ⟨_, rfl⟩
                    refine lv_iinc (v := j_110) (lv' := [(3, .int j_110), (0, .ref m9), (1, .int v_17), (2, .int r_47)]) hx hb d_Mo_compact_259 hl (k := 3) rfl e_111.symm (by decide) rfl (fun ls hl => ?_)
                    refine lv_goto (tgt := 213) hx hb d_Mo_compact_262 (by decide) ?_
                    have is_112 : j_110.toInt = i5.toInt + 1 := by rw [e_111]; exact iAddK 1 rfl (by omega) (by omega)
                    exact ih213 (mU j_110) ls _ locs _ (by rw [hk213]; exact mU_lt (by omega)) ⟨j_110, g_107, rfl, (lv_sub hl [1, 2, 3, 0] rfl), hH, hz, hLo, F_m9, F_A4, F_A5, F_A6, F_A8, F_A11, F_A7, hT, hkf, F_A10, c_109, (by omega), (by rw [e_108, upd_n _ (by rw [clN]; omega)]; exact hW9)⟩
                  · skip
                    refine lv_aload_n hx hb d_Mo_compact_235 rfl (lv_at hl 0 rfl) ?_
                    refine hm_get (ci := 9) (v := .ref (A 5)) (C := R_Mo) (T := F_Mo) (N := 41) hx hb hts ig_Mo hown hK hH F_m9 rfl 12 (by decide) (hts _ mw_606) (fun _ h9 => h9) rfl d_Mo_compact_236 ?_
                    refine lv_iload_n hx hb d_Mo_compact_239 rfl (lv_at hl 3 rfl) ?_
                    refine hm_zald hx hb hK hH 1 F_A5 rfl (iIn (by omega) (by omega)) d_Mo_compact_240 ?_
                    refine lv_topi (fun v_113 e_114 => ?_)
                    have c_115 : zb v_113 := by rw [e_114]; exact c_4 _
                    refine lv_if_ne (tgt := 257) hx hb d_Mo_compact_241 (by decide) (fun hc_116 => ?_) (fun hc_116 => ?_)
                    · skip
                      refine lv_iconst (v := 0) hx hb d_Mo_compact_257 (by decide) ?_
                      refine hm_zast hx hb hK hH hLo 1 F_A10 rfl (iIn (by omega) (by omega)) d_Mo_compact_258 (fun H_117 locs hH z_118 hLo => ?_)
                      have hz : s.heap.size ≤ H_117.size := by rw [z_118]; exact hz
                      rw [zb_nar (v := 0) zb0] at hH
                      obtain ⟨h_119, e_120⟩ : ∃ z, z = hu hh213 (A 10) (.inl ((t 1), 700, .inl (upd iw7 i5.toNatClampNeg (0 : Int32)))) := ⟨_, rfl⟩
                      have hH : hm D vwCl G h_119 H_117 := by rw [e_120]; exact hH
                      have F_m9 : h_119 m9 = some (.inr (9, mf A n 0 sd lo_54 le_55 wr_56 ma nu di_57 pl se wg op)) := by rw [e_120, hu_n (tne T_m9 (hA 10 (by decide)) (by decide))]; exact F_m9
                      have F_A4 : h_119 (A 4) = some (.inl ((t 1), 700, .inl g_1)) := by rw [e_120, hu_n (tneF (hA 4 (by decide)) (hA 10 (by decide)) (by decide))]; exact F_A4
                      have F_A5 : h_119 (A 5) = some (.inl ((t 1), 700, .inl g_3)) := by rw [e_120, hu_n (tneF (hA 5 (by decide)) (hA 10 (by decide)) (by decide))]; exact F_A5
                      have F_A6 : h_119 (A 6) = some (.inl ((t 2), 700, .inl g_5)) := by rw [e_120, hu_n (tneF (hA 6 (by decide)) (hA 10 (by decide)) (by decide))]; exact F_A6
                      have F_A8 : h_119 (A 8) = some (.inl ((t 2), 700, .inl g_6)) := by rw [e_120, hu_n (tneF (hA 8 (by decide)) (hA 10 (by decide)) (by decide))]; exact F_A8
                      have F_A11 : h_119 (A 11) = some (.inl ((t 2), 700, .inl ex8)) := by rw [e_120, hu_n (tneF (hA 11 (by decide)) (hA 10 (by decide)) (by decide))]; exact F_A11
                      have F_A7 : h_119 (A 7) = some (.inl ((t 3), 700, .inr (.inl g_10))) := by rw [e_120, hu_n (tneF (hA 7 (by decide)) (hA 10 (by decide)) (by decide))]; exact F_A7
                      have F_A10 : h_119 (A 10) = some (.inl ((t 1), 700, .inl (upd iw7 i5.toNatClampNeg (0 : Int32)))) := by rw [e_120]; exact hu_s _ _ _
                      have hT : TI τ t n h_119 := by rw [e_120]; exact TI_put hT (hA 10 (by decide)) (by decide) (ok_Z rfl rfl (zbF_up c_iw7 zb0))
                      have hkf : kf τ [(30, 1), (30, 0), (30, 3), (30, 14), (30, 15), (30, 16), (30, 13), (30, 11), (30, 10), (30, 12), (30, 2)] [m9] h h_119 := by rw [e_120]; exact kf_put hkf (hA 10 (by decide)) (List.mem_cons_of_mem _ (List.mem_cons_of_mem _ (List.mem_cons_of_mem _ (List.mem_cons_of_mem _ (List.mem_cons_of_mem _ (List.mem_cons_of_mem _ (List.mem_cons_of_mem _ (List.mem_cons_of_mem _ List.mem_cons_self))))))))
                      obtain ⟨g_121, e_122⟩ : ∃ z, z = upd iw7 i5.toNatClampNeg (0 : Int32) := ⟨_, rfl⟩
                      rw [← e_122] at F_A10
                      have c_123 : zbF g_121 := by rw [e_122]; exact (zbF_up c_iw7 zb0)
                      obtain ⟨j_124, e_125⟩ : ∃ z : Int32, z = i5 + 1 := ⟨_, rfl⟩
                      refine lv_iinc (v := j_124) (lv' := [(3, .int j_124), (0, .ref m9), (1, .int v_17), (2, .int r_47)]) hx hb d_Mo_compact_259 hl (k := 3) rfl e_125.symm (by decide) rfl (fun ls hl => ?_)
                      refine lv_goto (tgt := 213) hx hb d_Mo_compact_262 (by decide) ?_
                      have is_126 : j_124.toInt = i5.toInt + 1 := by rw [e_125]; exact iAddK 1 rfl (by omega) (by omega)
                      exact ih213 (mU j_124) ls _ locs _ (by rw [hk213]; exact mU_lt (by omega)) ⟨j_124, g_121, rfl, (lv_sub hl [1, 2, 3, 0] rfl), hH, hz, hLo, F_m9, F_A4, F_A5, F_A6, F_A8, F_A11, F_A7, hT, hkf, F_A10, c_123, (by omega), (by rw [e_122, upd_n _ (by rw [clN]; omega)]; exact hW9)⟩
                    · skip
                      have ic_127 : v_113.toInt = 0 := congrArg Int32.toInt hc_116
                      refine lv_aload_n hx hb d_Mo_compact_244 rfl (lv_at hl 0 rfl) ?_
                      refine hm_get (ci := 9) (v := .ref (A 8)) (C := R_Mo) (T := F_Mo) (N := 41) hx hb hts ig_Mo hown hK hH F_m9 rfl 15 (by decide) (hts _ mw_615) (fun _ h9 => h9) rfl d_Mo_compact_245 ?_
                      refine lv_iload_n hx hb d_Mo_compact_248 rfl (lv_at hl 3 rfl) ?_
                      refine hm_iald hx hb hK hH 2 F_A8 rfl (iIn (by omega) (by omega)) d_Mo_compact_249 ?_
                      refine lv_topi (fun v_128 e_129 => ?_)
                      refine lv_if_le (tgt := 257) hx hb d_Mo_compact_250 (by decide) (fun hc_130 => ?_) (fun hc_130 => ?_)
                      · skip
                        have ic_131 : v_128.toInt ≤ 0 := iLe hc_130
                        refine lv_iconst (v := 0) hx hb d_Mo_compact_257 (by decide) ?_
                        refine hm_zast hx hb hK hH hLo 1 F_A10 rfl (iIn (by omega) (by omega)) d_Mo_compact_258 (fun H_132 locs hH z_133 hLo => ?_)
                        have hz : s.heap.size ≤ H_132.size := by rw [z_133]; exact hz
                        rw [zb_nar (v := 0) zb0] at hH
                        obtain ⟨h_134, e_135⟩ : ∃ z, z = hu hh213 (A 10) (.inl ((t 1), 700, .inl (upd iw7 i5.toNatClampNeg (0 : Int32)))) := ⟨_, rfl⟩
                        have hH : hm D vwCl G h_134 H_132 := by rw [e_135]; exact hH
                        have F_m9 : h_134 m9 = some (.inr (9, mf A n 0 sd lo_54 le_55 wr_56 ma nu di_57 pl se wg op)) := by rw [e_135, hu_n (tne T_m9 (hA 10 (by decide)) (by decide))]; exact F_m9
                        have F_A4 : h_134 (A 4) = some (.inl ((t 1), 700, .inl g_1)) := by rw [e_135, hu_n (tneF (hA 4 (by decide)) (hA 10 (by decide)) (by decide))]; exact F_A4
                        have F_A5 : h_134 (A 5) = some (.inl ((t 1), 700, .inl g_3)) := by rw [e_135, hu_n (tneF (hA 5 (by decide)) (hA 10 (by decide)) (by decide))]; exact F_A5
                        have F_A6 : h_134 (A 6) = some (.inl ((t 2), 700, .inl g_5)) := by rw [e_135, hu_n (tneF (hA 6 (by decide)) (hA 10 (by decide)) (by decide))]; exact F_A6
                        have F_A8 : h_134 (A 8) = some (.inl ((t 2), 700, .inl g_6)) := by rw [e_135, hu_n (tneF (hA 8 (by decide)) (hA 10 (by decide)) (by decide))]; exact F_A8
                        have F_A11 : h_134 (A 11) = some (.inl ((t 2), 700, .inl ex8)) := by rw [e_135, hu_n (tneF (hA 11 (by decide)) (hA 10 (by decide)) (by decide))]; exact F_A11
                        have F_A7 : h_134 (A 7) = some (.inl ((t 3), 700, .inr (.inl g_10))) := by rw [e_135, hu_n (tneF (hA 7 (by decide)) (hA 10 (by decide)) (by decide))]; exact F_A7
                        have F_A10 : h_134 (A 10) = some (.inl ((t 1), 700, .inl (upd iw7 i5.toNatClampNeg (0 : Int32)))) := by rw [e_135]; exact hu_s _ _ _
                        have hT : TI τ t n h_134 := by rw [e_135]; exact TI_put hT (hA 10 (by decide)) (by decide) (ok_Z rfl rfl (zbF_up c_iw7 zb0))
                        have hkf : kf τ [(30, 1), (30, 0), (30, 3), (30, 14), (30, 15), (30, 16), (30, 13), (30, 11), (30, 10), (30, 12), (30, 2)] [m9] h h_134 := by rw [e_135]; exact kf_put hkf (hA 10 (by decide)) (List.mem_cons_of_mem _ (List.mem_cons_of_mem _ (List.mem_cons_of_mem _ (List.mem_cons_of_mem _ (List.mem_cons_of_mem _ (List.mem_cons_of_mem _ (List.mem_cons_of_mem _ (List.mem_cons_of_mem _ List.mem_cons_self))))))))
                        obtain ⟨g_136, e_137⟩ : ∃ z, z = upd iw7 i5.toNatClampNeg (0 : Int32) := ⟨_, rfl⟩
                        rw [← e_137] at F_A10
                        have c_138 : zbF g_136 := by rw [e_137]; exact (zbF_up c_iw7 zb0)
                        obtain ⟨j_139, e_140⟩ : ∃ z : Int32, z = i5 + 1 := ⟨_, rfl⟩
                        refine lv_iinc (v := j_139) (lv' := [(3, .int j_139), (0, .ref m9), (1, .int v_17), (2, .int r_47)]) hx hb d_Mo_compact_259 hl (k := 3) rfl e_140.symm (by decide) rfl (fun ls hl => ?_)
                        refine lv_goto (tgt := 213) hx hb d_Mo_compact_262 (by decide) ?_
                        have is_141 : j_139.toInt = i5.toInt + 1 := by rw [e_140]; exact iAddK 1 rfl (by omega) (by omega)
                        exact ih213 (mU j_139) ls _ locs _ (by rw [hk213]; exact mU_lt (by omega)) ⟨j_139, g_136, rfl, (lv_sub hl [1, 2, 3, 0] rfl), hH, hz, hLo, F_m9, F_A4, F_A5, F_A6, F_A8, F_A11, F_A7, hT, hkf, F_A10, c_138, (by omega), (by rw [e_137, upd_n _ (by rw [clN]; omega)]; exact hW9)⟩
                      · skip
                        have ic_142 : 0 < v_128.toInt := iNe hc_130
                        have iu_143 : v_128.toInt < 2147483648 := iUp _
                        refine lv_iconst (v := 1) hx hb d_Mo_compact_253 (by decide) ?_
                        refine lv_goto (tgt := 258) hx hb d_Mo_compact_254 (by decide) ?_
                        refine hm_zast hx hb hK hH hLo 1 F_A10 rfl (iIn (by omega) (by omega)) d_Mo_compact_258 (fun H_144 locs hH z_145 hLo => ?_)
                        have hz : s.heap.size ≤ H_144.size := by rw [z_145]; exact hz
                        rw [zb_nar (v := 1) zb1] at hH
                        obtain ⟨h_146, e_147⟩ : ∃ z, z = hu hh213 (A 10) (.inl ((t 1), 700, .inl (upd iw7 i5.toNatClampNeg (1 : Int32)))) := ⟨_, rfl⟩
                        have hH : hm D vwCl G h_146 H_144 := by rw [e_147]; exact hH
                        have F_m9 : h_146 m9 = some (.inr (9, mf A n 0 sd lo_54 le_55 wr_56 ma nu di_57 pl se wg op)) := by rw [e_147, hu_n (tne T_m9 (hA 10 (by decide)) (by decide))]; exact F_m9
                        have F_A4 : h_146 (A 4) = some (.inl ((t 1), 700, .inl g_1)) := by rw [e_147, hu_n (tneF (hA 4 (by decide)) (hA 10 (by decide)) (by decide))]; exact F_A4
                        have F_A5 : h_146 (A 5) = some (.inl ((t 1), 700, .inl g_3)) := by rw [e_147, hu_n (tneF (hA 5 (by decide)) (hA 10 (by decide)) (by decide))]; exact F_A5
                        have F_A6 : h_146 (A 6) = some (.inl ((t 2), 700, .inl g_5)) := by rw [e_147, hu_n (tneF (hA 6 (by decide)) (hA 10 (by decide)) (by decide))]; exact F_A6
                        have F_A8 : h_146 (A 8) = some (.inl ((t 2), 700, .inl g_6)) := by rw [e_147, hu_n (tneF (hA 8 (by decide)) (hA 10 (by decide)) (by decide))]; exact F_A8
                        have F_A11 : h_146 (A 11) = some (.inl ((t 2), 700, .inl ex8)) := by rw [e_147, hu_n (tneF (hA 11 (by decide)) (hA 10 (by decide)) (by decide))]; exact F_A11
                        have F_A7 : h_146 (A 7) = some (.inl ((t 3), 700, .inr (.inl g_10))) := by rw [e_147, hu_n (tneF (hA 7 (by decide)) (hA 10 (by decide)) (by decide))]; exact F_A7
                        have F_A10 : h_146 (A 10) = some (.inl ((t 1), 700, .inl (upd iw7 i5.toNatClampNeg (1 : Int32)))) := by rw [e_147]; exact hu_s _ _ _
                        have hT : TI τ t n h_146 := by rw [e_147]; exact TI_put hT (hA 10 (by decide)) (by decide) (ok_Z rfl rfl (zbF_up c_iw7 zb1))
                        have hkf : kf τ [(30, 1), (30, 0), (30, 3), (30, 14), (30, 15), (30, 16), (30, 13), (30, 11), (30, 10), (30, 12), (30, 2)] [m9] h h_146 := by rw [e_147]; exact kf_put hkf (hA 10 (by decide)) (List.mem_cons_of_mem _ (List.mem_cons_of_mem _ (List.mem_cons_of_mem _ (List.mem_cons_of_mem _ (List.mem_cons_of_mem _ (List.mem_cons_of_mem _ (List.mem_cons_of_mem _ (List.mem_cons_of_mem _ List.mem_cons_self))))))))
                        obtain ⟨g_148, e_149⟩ : ∃ z, z = upd iw7 i5.toNatClampNeg (1 : Int32) := ⟨_, rfl⟩
                        rw [← e_149] at F_A10
                        have c_150 : zbF g_148 := by rw [e_149]; exact (zbF_up c_iw7 zb1)
                        obtain ⟨j_151, e_152⟩ : ∃ z : Int32, z = i5 + 1 := ⟨_, rfl⟩
                        refine lv_iinc (v := j_151) (lv' := [(3, .int j_151), (0, .ref m9), (1, .int v_17), (2, .int r_47)]) hx hb d_Mo_compact_259 hl (k := 3) rfl e_152.symm (by decide) rfl (fun ls hl => ?_)
                        refine lv_goto (tgt := 213) hx hb d_Mo_compact_262 (by decide) ?_
                        have is_153 : j_151.toInt = i5.toInt + 1 := by rw [e_152]; exact iAddK 1 rfl (by omega) (by omega)
                        exact ih213 (mU j_151) ls _ locs _ (by rw [hk213]; exact mU_lt (by omega)) ⟨j_151, g_148, rfl, (lv_sub hl [1, 2, 3, 0] rfl), hH, hz, hLo, F_m9, F_A4, F_A5, F_A6, F_A8, F_A11, F_A7, hT, hkf, F_A10, c_150, (by omega), (by rw [e_149, upd_n _ (by rw [clN]; omega)]; exact hW9)⟩
              · skip
                refine lv_iconst (v := 0) hx hb d_Mo_compact_181 (by decide) ?_
                refine lv_istore_n (lv' := [(3, .int 0), (2, .int r_47), (0, .ref m9), (1, .int v_17)]) hx hb d_Mo_compact_182 rfl hl (by decide) rfl (fun ls hl => ?_)
                refine hm_loop (fun k183 ls H locs hh183 => ∃ (i5 : Int32) (ex7 : Nat → Int32), k183 = mU i5 ∧ lv_has ls 4 [(0, .ref m9), (1, .int v_17), (2, .int r_47), (3, .int i5)] ∧ hm D vwCl G hh183 H ∧ s.heap.size ≤ H.size ∧ hLc G.P locs ∧ hh183 m9 = some (.inr (9, mf A n 0 sd lo_54 le_55 wr_56 ma nu di_57 pl se wg op)) ∧ hh183 (A 4) = some (.inl ((t 1), 700, .inl g_1)) ∧ hh183 (A 5) = some (.inl ((t 1), 700, .inl g_3)) ∧ hh183 (A 6) = some (.inl ((t 2), 700, .inl g_5)) ∧ hh183 (A 8) = some (.inl ((t 2), 700, .inl g_6)) ∧ hh183 (A 10) = some (.inl ((t 1), 700, .inl g_7)) ∧ hh183 (A 7) = some (.inl ((t 3), 700, .inr (.inl g_10))) ∧ hh183 (A 12) = some (.inl ((t 2), 700, .inl ol8)) ∧ (TI τ t n hh183) ∧ (kf τ [(30, 1), (30, 0), (30, 3), (30, 14), (30, 15), (30, 16), (30, 13), (30, 11), (30, 10), (30, 12), (30, 2)] [m9] h hh183) ∧ (hh183 (A 11) = some (.inl ((t 2), 700, .inl ex7))) ∧ (0 ≤ i5.toInt) ∧ (∀ q, q < i5.toInt.toNat → ex7 q = ol8 q)) ?_ (hh := h_48) ⟨0, ex8, rfl, (lv_sub hl [2, 3, 1, 0] rfl), hH, hz, hLo, F_m9, F_A4, F_A5, F_A6, F_A8, F_A10, F_A7, F_A12, hT, hkf, F_A11, (by decide), (fun q hq => absurd (show q < 0 from hq) (Nat.not_lt_zero q))⟩
                rintro k183 ls H locs hh183 ⟨i5, ex7, hk183, hl, hH, hz, hLo, F_m9, F_A4, F_A5, F_A6, F_A8, F_A10, F_A7, F_A12, hT, hkf, F_A11, I_i5, hR⟩ ih183
                refine lv_iload_n hx hb d_Mo_compact_183 rfl (lv_at hl 3 rfl) ?_
                refine lv_aload_n hx hb d_Mo_compact_184 rfl (lv_at hl 0 rfl) ?_
                refine hm_get (ci := 9) (v := .int ma) (C := R_Mo) (T := F_Mo) (N := 41) hx hb hts ig_Mo hown hK hH F_m9 rfl 10 (by decide) (hts _ mw_595) (fun _ h9 => h9) rfl d_Mo_compact_185 ?_
                refine lv_icmp_ge (tgt := 209) hx hb d_Mo_compact_188 (by decide) (fun hc_154 => ?_) (fun hc_154 => ?_)
                · skip
                  have ic_155 : ma.toInt ≤ i5.toInt := iLe hc_154
                  refine lv_iload_n hx hb d_Mo_compact_209 rfl (lv_at hl 2 rfl) ?_
                  exact W.iret (v := r_47) hx hb hr (fun t9 ht hW => ⟨r_47, hh183, rfl, ⟨hT, hkf, ⟨(0 : Int32), sd, lo_54, le_55, wr_56, nu, di_57, op, F_m9, ⟨m_60, m_61, (by omega), ⟨by omega, by omega⟩, ⟨by omega, by omega⟩⟩, ⟨Or.inl rfl, ⟨by rw [aI_of F_A4, aI_of F_A6]; exact hTm, by rw [aI_of F_A4, aI_of F_A5, aI_of F_A8, aI_of F_A10, aI_of F_A11]; exact (exM_same hEx (fun q hq => (hR q (by omega)).trans (hO q (by omega))))⟩⟩⟩⟩, by rw [ht]; exact hH, by rw [ht]; exact hz⟩) hLo d_Mo_compact_210
                · skip
                  have ic_156 : i5.toInt < ma.toInt := iNe hc_154
                  have iu_157 : ma.toInt < 2147483648 := iUp _
                  refine lv_aload_n hx hb d_Mo_compact_191 rfl (lv_at hl 0 rfl) ?_
                  refine hm_get (ci := 9) (v := .ref (A 11)) (C := R_Mo) (T := F_Mo) (N := 41) hx hb hts ig_Mo hown hK hH F_m9 rfl 18 (by decide) (hts _ mw_618) (fun _ h9 => h9) rfl d_Mo_compact_192 ?_
                  refine lv_iload_n hx hb d_Mo_compact_195 rfl (lv_at hl 3 rfl) ?_
                  refine lv_aload_n hx hb d_Mo_compact_196 rfl (lv_at hl 0 rfl) ?_
                  refine hm_get (ci := 9) (v := .ref (A 12)) (C := R_Mo) (T := F_Mo) (N := 41) hx hb hts ig_Mo hown hK hH F_m9 rfl 19 (by decide) (hts _ mw_697) (fun _ h9 => h9) rfl d_Mo_compact_197 ?_
                  refine lv_iload_n hx hb d_Mo_compact_200 rfl (lv_at hl 3 rfl) ?_
                  refine hm_iald hx hb hK hH 2 F_A12 rfl (iIn (by omega) (by omega)) d_Mo_compact_201 ?_
                  refine lv_topi (fun v_158 e_159 => ?_)
                  refine hm_iast hx hb hK hH hLo 2 F_A11 rfl (iIn (by omega) (by omega)) d_Mo_compact_202 (fun H_160 locs hH z_161 hLo => ?_)
                  have hz : s.heap.size ≤ H_160.size := by rw [z_161]; exact hz
                  obtain ⟨h_162, e_163⟩ : ∃ z, z = hu hh183 (A 11) (.inl ((t 2), 700, .inl (upd ex7 i5.toNatClampNeg v_158))) := ⟨_, rfl⟩
                  have hH : hm D vwCl G h_162 H_160 := by rw [e_163]; exact hH
                  have F_m9 : h_162 m9 = some (.inr (9, mf A n 0 sd lo_54 le_55 wr_56 ma nu di_57 pl se wg op)) := by rw [e_163, hu_n (tne T_m9 (hA 11 (by decide)) (by decide))]; exact F_m9
                  have F_A4 : h_162 (A 4) = some (.inl ((t 1), 700, .inl g_1)) := by rw [e_163, hu_n (tneF (hA 4 (by decide)) (hA 11 (by decide)) (by decide))]; exact F_A4
                  have F_A5 : h_162 (A 5) = some (.inl ((t 1), 700, .inl g_3)) := by rw [e_163, hu_n (tneF (hA 5 (by decide)) (hA 11 (by decide)) (by decide))]; exact F_A5
                  have F_A6 : h_162 (A 6) = some (.inl ((t 2), 700, .inl g_5)) := by rw [e_163, hu_n (tneF (hA 6 (by decide)) (hA 11 (by decide)) (by decide))]; exact F_A6
                  have F_A8 : h_162 (A 8) = some (.inl ((t 2), 700, .inl g_6)) := by rw [e_163, hu_n (tneF (hA 8 (by decide)) (hA 11 (by decide)) (by decide))]; exact F_A8
                  have F_A10 : h_162 (A 10) = some (.inl ((t 1), 700, .inl g_7)) := by rw [e_163, hu_n (tneF (hA 10 (by decide)) (hA 11 (by decide)) (by decide))]; exact F_A10
                  have F_A7 : h_162 (A 7) = some (.inl ((t 3), 700, .inr (.inl g_10))) := by rw [e_163, hu_n (tneF (hA 7 (by decide)) (hA 11 (by decide)) (by decide))]; exact F_A7
                  have F_A12 : h_162 (A 12) = some (.inl ((t 2), 700, .inl ol8)) := by rw [e_163, hu_n (tneF (hA 12 (by decide)) (hA 11 (by decide)) (by decide))]; exact F_A12
                  have F_A11 : h_162 (A 11) = some (.inl ((t 2), 700, .inl (upd ex7 i5.toNatClampNeg v_158))) := by rw [e_163]; exact hu_s _ _ _
                  have hT : TI τ t n h_162 := by rw [e_163]; exact TI_put hT (hA 11 (by decide)) (by decide) (ok_I rfl rfl)
                  have hkf : kf τ [(30, 1), (30, 0), (30, 3), (30, 14), (30, 15), (30, 16), (30, 13), (30, 11), (30, 10), (30, 12), (30, 2)] [m9] h h_162 := by rw [e_163]; exact kf_put hkf (hA 11 (by decide)) (List.mem_cons_of_mem _ (List.mem_cons_of_mem _ (List.mem_cons_of_mem _ (List.mem_cons_of_mem _ (List.mem_cons_of_mem _ (List.mem_cons_of_mem _ (List.mem_cons_of_mem _ List.mem_cons_self)))))))
                  obtain ⟨g_164, e_165⟩ : ∃ z, z = upd ex7 i5.toNatClampNeg v_158 := ⟨_, rfl⟩
                  rw [← e_165] at F_A11
                  obtain ⟨j_166, e_167⟩ : ∃ z : Int32, z = i5 + 1 := ⟨_, rfl⟩
                  refine lv_iinc (v := j_166) (lv' := [(3, .int j_166), (0, .ref m9), (1, .int v_17), (2, .int r_47)]) hx hb d_Mo_compact_203 hl (k := 3) rfl e_167.symm (by decide) rfl (fun ls hl => ?_)
                  refine lv_goto (tgt := 183) hx hb d_Mo_compact_206 (by decide) ?_
                  have is_168 : j_166.toInt = i5.toInt + 1 := by rw [e_167]; exact iAddK 1 rfl (by omega) (by omega)
                  exact ih183 (mU j_166) ls _ locs _ (by rw [hk183]; exact mU_lt (by omega)) ⟨j_166, g_164, rfl, (lv_sub hl [1, 2, 3, 0] rfl), hH, hz, hLo, F_m9, F_A4, F_A5, F_A6, F_A8, F_A10, F_A7, F_A12, hT, hkf, F_A11, (by omega), (cp_s I_i5 (by omega) hR (by rw [e_165, e_159]))⟩
          · skip
            have ic_169 : i9.toInt < ma.toInt := iNe hc_27
            have iu_170 : ma.toInt < 2147483648 := iUp _
            refine lv_iload_n hx hb d_Mo_compact_115 rfl (lv_at hl 2 rfl) ?_
            refine lv_if_ne (tgt := 165) hx hb d_Mo_compact_116 (by decide) (fun hc_171 => ?_) (fun hc_171 => ?_)
            · skip
              refine lv_iload_n hx hb d_Mo_compact_165 rfl (lv_at hl 2 rfl) ?_
              refine lv_if_ne (tgt := 176) hx hb d_Mo_compact_166 (by decide) (fun hc_172 => ?_) (fun hc_172 => ?_)
              · skip
                refine lv_iload_n hx hb d_Mo_compact_176 rfl (lv_at hl 2 rfl) ?_
                refine lv_iconst (v := 1) hx hb d_Mo_compact_177 (by decide) ?_
                refine lv_icmp_eq (tgt := 211) hx hb d_Mo_compact_178 (by decide) (fun hc_173 => ?_) (fun hc_173 => ?_)
                · skip
                  exact absurd (congrArg Int32.toInt hc_173) (by rw [(show (1 : Int32).toInt = 1 from rfl)]; omega)
                · skip
                  refine lv_iconst (v := 0) hx hb d_Mo_compact_181 (by decide) ?_
                  refine lv_istore_n (lv' := [(3, .int 0), (0, .ref m9), (1, .int v_17), (2, .int g9)]) hx hb d_Mo_compact_182 rfl hl (by decide) rfl (fun ls hl => ?_)
                  refine hm_loop (fun k183 ls H locs hh183 => ∃ (i5 : Int32) (ex7 : Nat → Int32), k183 = mU i5 ∧ lv_has ls 4 [(0, .ref m9), (1, .int v_17), (2, .int g9), (3, .int i5)] ∧ hm D vwCl G hh183 H ∧ s.heap.size ≤ H.size ∧ hLc G.P locs ∧ hh183 m9 = some (.inr (9, mf A n 0 sd lo8 le8 wr8 ma nu di pl se wg op)) ∧ hh183 (A 4) = some (.inl ((t 1), 700, .inl g_1)) ∧ hh183 (A 5) = some (.inl ((t 1), 700, .inl g_3)) ∧ hh183 (A 6) = some (.inl ((t 2), 700, .inl g_5)) ∧ hh183 (A 8) = some (.inl ((t 2), 700, .inl g_6)) ∧ hh183 (A 10) = some (.inl ((t 1), 700, .inl g_7)) ∧ hh183 (A 7) = some (.inl ((t 3), 700, .inr (.inl g_10))) ∧ hh183 (A 12) = some (.inl ((t 2), 700, .inl ol8)) ∧ (TI τ t n hh183) ∧ (kf τ [(30, 1), (30, 0), (30, 3), (30, 14), (30, 15), (30, 16), (30, 13), (30, 11), (30, 10), (30, 12), (30, 2)] [m9] h hh183) ∧ (hh183 (A 11) = some (.inl ((t 2), 700, .inl ex7))) ∧ (0 ≤ i5.toInt) ∧ (∀ q, q < i5.toInt.toNat → ex7 q = ol8 q)) ?_ (hh := hh107) ⟨0, ex8, rfl, (lv_sub hl [1, 2, 3, 0] rfl), hH, hz, hLo, F_m9, F_A4, F_A5, F_A6, F_A8, F_A10, F_A7, F_A12, hT, hkf, F_A11, (by decide), (fun q hq => absurd (show q < 0 from hq) (Nat.not_lt_zero q))⟩
                  rintro k183 ls H locs hh183 ⟨i5, ex7, hk183, hl, hH, hz, hLo, F_m9, F_A4, F_A5, F_A6, F_A8, F_A10, F_A7, F_A12, hT, hkf, F_A11, I_i5, hR⟩ ih183
                  refine lv_iload_n hx hb d_Mo_compact_183 rfl (lv_at hl 3 rfl) ?_
                  refine lv_aload_n hx hb d_Mo_compact_184 rfl (lv_at hl 0 rfl) ?_
                  refine hm_get (ci := 9) (v := .int ma) (C := R_Mo) (T := F_Mo) (N := 41) hx hb hts ig_Mo hown hK hH F_m9 rfl 10 (by decide) (hts _ mw_595) (fun _ h9 => h9) rfl d_Mo_compact_185 ?_
                  refine lv_icmp_ge (tgt := 209) hx hb d_Mo_compact_188 (by decide) (fun hc_174 => ?_) (fun hc_174 => ?_)
                  · skip
                    have ic_175 : ma.toInt ≤ i5.toInt := iLe hc_174
                    refine lv_iload_n hx hb d_Mo_compact_209 rfl (lv_at hl 2 rfl) ?_
                    exact W.iret (v := g9) hx hb hr (fun t9 ht hW => ⟨g9, hh183, rfl, ⟨hT, hkf, ⟨(0 : Int32), sd, lo8, le8, wr8, nu, di, op, F_m9, ⟨hsd, hlo8, (by omega), ⟨by omega, by omega⟩, ⟨by omega, by omega⟩⟩, ⟨Or.inl rfl, ⟨by rw [aI_of F_A4, aI_of F_A6]; exact hTm, by rw [aI_of F_A4, aI_of F_A5, aI_of F_A8, aI_of F_A10, aI_of F_A11]; exact (exM_same hEx (fun q hq => (hR q (by omega)).trans (hO q (by omega))))⟩⟩⟩⟩, by rw [ht]; exact hH, by rw [ht]; exact hz⟩) hLo d_Mo_compact_210
                  · skip
                    have ic_176 : i5.toInt < ma.toInt := iNe hc_174
                    have iu_177 : ma.toInt < 2147483648 := iUp _
                    refine lv_aload_n hx hb d_Mo_compact_191 rfl (lv_at hl 0 rfl) ?_
                    refine hm_get (ci := 9) (v := .ref (A 11)) (C := R_Mo) (T := F_Mo) (N := 41) hx hb hts ig_Mo hown hK hH F_m9 rfl 18 (by decide) (hts _ mw_618) (fun _ h9 => h9) rfl d_Mo_compact_192 ?_
                    refine lv_iload_n hx hb d_Mo_compact_195 rfl (lv_at hl 3 rfl) ?_
                    refine lv_aload_n hx hb d_Mo_compact_196 rfl (lv_at hl 0 rfl) ?_
                    refine hm_get (ci := 9) (v := .ref (A 12)) (C := R_Mo) (T := F_Mo) (N := 41) hx hb hts ig_Mo hown hK hH F_m9 rfl 19 (by decide) (hts _ mw_697) (fun _ h9 => h9) rfl d_Mo_compact_197 ?_
                    refine lv_iload_n hx hb d_Mo_compact_200 rfl (lv_at hl 3 rfl) ?_
                    refine hm_iald hx hb hK hH 2 F_A12 rfl (iIn (by omega) (by omega)) d_Mo_compact_201 ?_
                    refine lv_topi (fun v_178 e_179 => ?_)
                    refine hm_iast hx hb hK hH hLo 2 F_A11 rfl (iIn (by omega) (by omega)) d_Mo_compact_202 (fun H_180 locs hH z_181 hLo => ?_)
                    have hz : s.heap.size ≤ H_180.size := by rw [z_181]; exact hz
                    obtain ⟨h_182, e_183⟩ : ∃ z, z = hu hh183 (A 11) (.inl ((t 2), 700, .inl (upd ex7 i5.toNatClampNeg v_178))) := ⟨_, rfl⟩
                    have hH : hm D vwCl G h_182 H_180 := by rw [e_183]; exact hH
                    have F_m9 : h_182 m9 = some (.inr (9, mf A n 0 sd lo8 le8 wr8 ma nu di pl se wg op)) := by rw [e_183, hu_n (tne T_m9 (hA 11 (by decide)) (by decide))]; exact F_m9
                    have F_A4 : h_182 (A 4) = some (.inl ((t 1), 700, .inl g_1)) := by rw [e_183, hu_n (tneF (hA 4 (by decide)) (hA 11 (by decide)) (by decide))]; exact F_A4
                    have F_A5 : h_182 (A 5) = some (.inl ((t 1), 700, .inl g_3)) := by rw [e_183, hu_n (tneF (hA 5 (by decide)) (hA 11 (by decide)) (by decide))]; exact F_A5
                    have F_A6 : h_182 (A 6) = some (.inl ((t 2), 700, .inl g_5)) := by rw [e_183, hu_n (tneF (hA 6 (by decide)) (hA 11 (by decide)) (by decide))]; exact F_A6
                    have F_A8 : h_182 (A 8) = some (.inl ((t 2), 700, .inl g_6)) := by rw [e_183, hu_n (tneF (hA 8 (by decide)) (hA 11 (by decide)) (by decide))]; exact F_A8
                    have F_A10 : h_182 (A 10) = some (.inl ((t 1), 700, .inl g_7)) := by rw [e_183, hu_n (tneF (hA 10 (by decide)) (hA 11 (by decide)) (by decide))]; exact F_A10
                    have F_A7 : h_182 (A 7) = some (.inl ((t 3), 700, .inr (.inl g_10))) := by rw [e_183, hu_n (tneF (hA 7 (by decide)) (hA 11 (by decide)) (by decide))]; exact F_A7
                    have F_A12 : h_182 (A 12) = some (.inl ((t 2), 700, .inl ol8)) := by rw [e_183, hu_n (tneF (hA 12 (by decide)) (hA 11 (by decide)) (by decide))]; exact F_A12
                    have F_A11 : h_182 (A 11) = some (.inl ((t 2), 700, .inl (upd ex7 i5.toNatClampNeg v_178))) := by rw [e_183]; exact hu_s _ _ _
                    have hT : TI τ t n h_182 := by rw [e_183]; exact TI_put hT (hA 11 (by decide)) (by decide) (ok_I rfl rfl)
                    have hkf : kf τ [(30, 1), (30, 0), (30, 3), (30, 14), (30, 15), (30, 16), (30, 13), (30, 11), (30, 10), (30, 12), (30, 2)] [m9] h h_182 := by rw [e_183]; exact kf_put hkf (hA 11 (by decide)) (List.mem_cons_of_mem _ (List.mem_cons_of_mem _ (List.mem_cons_of_mem _ (List.mem_cons_of_mem _ (List.mem_cons_of_mem _ (List.mem_cons_of_mem _ (List.mem_cons_of_mem _ List.mem_cons_self)))))))
                    obtain ⟨g_184, e_185⟩ : ∃ z, z = upd ex7 i5.toNatClampNeg v_178 := ⟨_, rfl⟩
                    rw [← e_185] at F_A11
                    obtain ⟨j_186, e_187⟩ : ∃ z : Int32, z = i5 + 1 := ⟨_, rfl⟩
                    refine lv_iinc (v := j_186) (lv' := [(3, .int j_186), (0, .ref m9), (1, .int v_17), (2, .int g9)]) hx hb d_Mo_compact_203 hl (k := 3) rfl e_187.symm (by decide) rfl (fun ls hl => ?_)
                    refine lv_goto (tgt := 183) hx hb d_Mo_compact_206 (by decide) ?_
                    have is_188 : j_186.toInt = i5.toInt + 1 := by rw [e_187]; exact iAddK 1 rfl (by omega) (by omega)
                    exact ih183 (mU j_186) ls _ locs _ (by rw [hk183]; exact mU_lt (by omega)) ⟨j_186, g_184, rfl, (lv_sub hl [1, 2, 3, 0] rfl), hH, hz, hLo, F_m9, F_A4, F_A5, F_A6, F_A8, F_A10, F_A7, F_A12, hT, hkf, F_A11, (by omega), (cp_s I_i5 (by omega) hR (by rw [e_185, e_179]))⟩
              · skip
                exact absurd hc_172 hc_171
            · skip
              have ic_189 : g9.toInt = 0 := congrArg Int32.toInt hc_171
              refine lv_aload_n hx hb d_Mo_compact_119 rfl (lv_at hl 0 rfl) ?_
              refine hm_get (ci := 9) (v := .ref (A 4)) (C := R_Mo) (T := F_Mo) (N := 41) hx hb hts ig_Mo hown hK hH F_m9 rfl 11 (by decide) (hts _ mw_596) (fun _ h9 => h9) rfl d_Mo_compact_120 ?_
              refine lv_iload_n hx hb d_Mo_compact_123 rfl (lv_at hl 3 rfl) ?_
              refine hm_zald hx hb hK hH 1 F_A4 rfl (iIn (by omega) (by omega)) d_Mo_compact_124 ?_
              refine lv_topi (fun v_190 e_191 => ?_)
              have c_192 : zb v_190 := by rw [e_191]; exact c_2 _
              refine lv_if_eq (tgt := 159) hx hb d_Mo_compact_125 (by decide) (fun hc_193 => ?_) (fun hc_193 => ?_)
              · skip
                have ic_194 : v_190.toInt = 0 := congrArg Int32.toInt hc_193
                obtain ⟨j_195, e_196⟩ : ∃ z : Int32, z = i9 + 1 := ⟨_, rfl⟩
                refine lv_iinc (v := j_195) (lv' := [(3, .int j_195), (0, .ref m9), (1, .int v_17), (2, .int g9)]) hx hb d_Mo_compact_159 hl (k := 3) rfl e_196.symm (by decide) rfl (fun ls hl => ?_)
                refine lv_goto (tgt := 107) hx hb d_Mo_compact_162 (by decide) ?_
                have is_197 : j_195.toInt = i9.toInt + 1 := by rw [e_196]; exact iAddK 1 rfl (by omega) (by omega)
                exact ih107 (mU j_195) ls _ locs _ (by rw [hk107]; exact mU_lt (by omega)) ⟨g9, j_195, wr8, lo8, le8, ex8, rfl, (lv_sub hl [1, 2, 3, 0] rfl), hH, hz, hLo, F_A4, F_A5, F_A6, F_A8, F_A10, F_A7, F_A12, hT, hkf, F_m9, hlo8, F_A11, ⟨by omega, by omega⟩, (fun z => ly_s (hL z) (by omega) (by omega) (fun _ _ => rfl) (fun z => by rw [← clN, ← e_191, hc_193] at z; exact absurd z (by decide))), hE0⟩
              · skip
                refine lv_aload_n hx hb d_Mo_compact_128 rfl (lv_at hl 0 rfl) ?_
                refine hm_get (ci := 9) (v := .ref (A 5)) (C := R_Mo) (T := F_Mo) (N := 41) hx hb hts ig_Mo hown hK hH F_m9 rfl 12 (by decide) (hts _ mw_606) (fun _ h9 => h9) rfl d_Mo_compact_129 ?_
                refine lv_iload_n hx hb d_Mo_compact_132 rfl (lv_at hl 3 rfl) ?_
                refine hm_zald hx hb hK hH 1 F_A5 rfl (iIn (by omega) (by omega)) d_Mo_compact_133 ?_
                refine lv_topi (fun v_198 e_199 => ?_)
                have c_200 : zb v_198 := by rw [e_199]; exact c_4 _
                refine lv_if_ne (tgt := 159) hx hb d_Mo_compact_134 (by decide) (fun hc_201 => ?_) (fun hc_201 => ?_)
                · skip
                  obtain ⟨j_202, e_203⟩ : ∃ z : Int32, z = i9 + 1 := ⟨_, rfl⟩
                  refine lv_iinc (v := j_202) (lv' := [(3, .int j_202), (0, .ref m9), (1, .int v_17), (2, .int g9)]) hx hb d_Mo_compact_159 hl (k := 3) rfl e_203.symm (by decide) rfl (fun ls hl => ?_)
                  refine lv_goto (tgt := 107) hx hb d_Mo_compact_162 (by decide) ?_
                  have is_204 : j_202.toInt = i9.toInt + 1 := by rw [e_203]; exact iAddK 1 rfl (by omega) (by omega)
                  exact ih107 (mU j_202) ls _ locs _ (by rw [hk107]; exact mU_lt (by omega)) ⟨g9, j_202, wr8, lo8, le8, ex8, rfl, (lv_sub hl [1, 2, 3, 0] rfl), hH, hz, hLo, F_A4, F_A5, F_A6, F_A8, F_A10, F_A7, F_A12, hT, hkf, F_m9, hlo8, F_A11, ⟨by omega, by omega⟩, (fun z => ly_s (hL z) (by omega) (by omega) (fun _ _ => rfl) (fun _ z => absurd (e_199.trans z) hc_201)), hE0⟩
                · skip
                  have ic_205 : v_198.toInt = 0 := congrArg Int32.toInt hc_201
                  refine lv_aload_n hx hb d_Mo_compact_137 rfl (lv_at hl 0 rfl) ?_
                  refine hm_get (ci := 9) (v := .ref (A 8)) (C := R_Mo) (T := F_Mo) (N := 41) hx hb hts ig_Mo hown hK hH F_m9 rfl 15 (by decide) (hts _ mw_615) (fun _ h9 => h9) rfl d_Mo_compact_138 ?_
                  refine lv_iload_n hx hb d_Mo_compact_141 rfl (lv_at hl 3 rfl) ?_
                  refine hm_iald hx hb hK hH 2 F_A8 rfl (iIn (by omega) (by omega)) d_Mo_compact_142 ?_
                  refine lv_topi (fun v_206 e_207 => ?_)
                  refine lv_if_le (tgt := 159) hx hb d_Mo_compact_143 (by decide) (fun hc_208 => ?_) (fun hc_208 => ?_)
                  · skip
                    have ic_209 : v_206.toInt ≤ 0 := iLe hc_208
                    obtain ⟨j_210, e_211⟩ : ∃ z : Int32, z = i9 + 1 := ⟨_, rfl⟩
                    refine lv_iinc (v := j_210) (lv' := [(3, .int j_210), (0, .ref m9), (1, .int v_17), (2, .int g9)]) hx hb d_Mo_compact_159 hl (k := 3) rfl e_211.symm (by decide) rfl (fun ls hl => ?_)
                    refine lv_goto (tgt := 107) hx hb d_Mo_compact_162 (by decide) ?_
                    have is_212 : j_210.toInt = i9.toInt + 1 := by rw [e_211]; exact iAddK 1 rfl (by omega) (by omega)
                    exact ih107 (mU j_210) ls _ locs _ (by rw [hk107]; exact mU_lt (by omega)) ⟨g9, j_210, wr8, lo8, le8, ex8, rfl, (lv_sub hl [1, 2, 3, 0] rfl), hH, hz, hLo, F_A4, F_A5, F_A6, F_A8, F_A10, F_A7, F_A12, hT, hkf, F_m9, hlo8, F_A11, ⟨by omega, by omega⟩, (fun z => ly_s (hL z) (by omega) (by omega) (fun _ _ => rfl) (fun _ _ z => by rw [← clN, ← e_207] at z; omega)), hE0⟩
                  · skip
                    have ic_213 : 0 < v_206.toInt := iNe hc_208
                    have iu_214 : v_206.toInt < 2147483648 := iUp _
                    refine lv_aload_n hx hb d_Mo_compact_146 rfl (lv_at hl 0 rfl) ?_
                    refine lv_iload_n hx hb d_Mo_compact_147 rfl (lv_at hl 1 rfl) ?_
                    refine lv_iload_n hx hb d_Mo_compact_148 rfl (lv_at hl 3 rfl) ?_
                    refine lv_aload_n hx hb d_Mo_compact_149 rfl (lv_at hl 0 rfl) ?_
                    refine hm_get (ci := 9) (v := .ref (A 10)) (C := R_Mo) (T := F_Mo) (N := 41) hx hb hts ig_Mo hown hK hH F_m9 rfl 17 (by decide) (hts _ mw_617) (fun _ h9 => h9) rfl d_Mo_compact_150 ?_
                    refine lv_iload_n hx hb d_Mo_compact_153 rfl (lv_at hl 3 rfl) ?_
                    refine hm_zald hx hb hK hH 1 F_A10 rfl (iIn (by omega) (by omega)) d_Mo_compact_154 ?_
                    refine lv_topi (fun v_215 e_216 => ?_)
                    have c_217 : zb v_215 := by rw [e_216]; exact c_8 _
                    have hx8 := hEx i9.toInt.toNat (by omega) (by rw [← clN, ← e_191]; exact c_192.resolve_left hc_193) (by rw [← clN, ← e_199]; exact hc_201)
                    have h11o := aI_of F_A11
                    refine hm_calli (va_runV (As := [.int v_17, .int i9, .int v_215]) (b := m9) (rest := []) ⟨hx, hb, hml, hown, hts⟩ (m_lay l D t G ak av hh107 τ n m9 v_17 i9 v_215 A (0 : Int32) sd lo8 le8 wr8 ma nu di pl se wg op   hn hT T_m9 c_217  F_m9 hA ⟨hsd, hlo8, (by omega), ⟨by omega, by omega⟩, ⟨by omega, by omega⟩⟩ hfr (by omega) (by omega) (by rw [aI_of F_A8]; exact ⟨hx8.1, hx8.2.1⟩) (fun z => by rw [aI_of F_A12, aI_of F_A8, hO _ (by omega)]; have hq := hx8.2.2 (by rw [← clN, ← e_216]; exact z) (by rw [← clN, ← e_207]; omega); exact ⟨hq.1, by omega⟩)) ⟨cw9B 3 hts mw_727 mw_728 mw_579 rfl rfl (by decide +kernel) ⟨Nat.le_of_ble_eq_true rfl, Nat.le_of_ble_eq_true rfl⟩, hts _ mw_729, hts _ mw_730⟩ (hP_V (q := (R_Mo, F_Mo, 41)) kE_ok hE hK hH F_m9 rfl) rfl rfl hl.1 rfl (lv_room (Nat.le_of_ble_eq_true rfl)) d_Mo_compact_155 ⟨Nat.le_of_ble_eq_true rfl, Nat.le_of_ble_eq_true rfl⟩) hLo (fun r_218 h_219 H_220 locs hp_222 hH z_221 hLo => ?_)
                    have hz : s.heap.size ≤ H_220.size := Nat.le_trans hz z_221
                    have hT0 := hT
                    obtain ⟨hT, kf_224, xp_223⟩ := hp_222
                    have F_A4 : h_219 (A 4) = some (.inl ((t 1), 700, .inl g_1)) := kf_at kf_224 (hA 4 (by decide)) (by decide) (tncF (by decide) (tncF (by decide) (tncF (by decide) (tncF (by decide) tn0)))) (nmc (tne (hA 4 (by decide)) T_m9 (by decide)) nm0) F_A4
                    have F_A5 : h_219 (A 5) = some (.inl ((t 1), 700, .inl g_3)) := kf_at kf_224 (hA 5 (by decide)) (by decide) (tncF (by decide) (tncF (by decide) (tncF (by decide) (tncF (by decide) tn0)))) (nmc (tne (hA 5 (by decide)) T_m9 (by decide)) nm0) F_A5
                    have F_A6 : h_219 (A 6) = some (.inl ((t 2), 700, .inl g_5)) := kf_at kf_224 (hA 6 (by decide)) (by decide) (tncF (by decide) (tncF (by decide) (tncF (by decide) (tncF (by decide) tn0)))) (nmc (tne (hA 6 (by decide)) T_m9 (by decide)) nm0) F_A6
                    have F_A8 : h_219 (A 8) = some (.inl ((t 2), 700, .inl g_6)) := kf_at kf_224 (hA 8 (by decide)) (by decide) (tncF (by decide) (tncF (by decide) (tncF (by decide) (tncF (by decide) tn0)))) (nmc (tne (hA 8 (by decide)) T_m9 (by decide)) nm0) F_A8
                    have F_A10 : h_219 (A 10) = some (.inl ((t 1), 700, .inl g_7)) := kf_at kf_224 (hA 10 (by decide)) (by decide) (tncF (by decide) (tncF (by decide) (tncF (by decide) (tncF (by decide) tn0)))) (nmc (tne (hA 10 (by decide)) T_m9 (by decide)) nm0) F_A10
                    have F_A7 : h_219 (A 7) = some (.inl ((t 3), 700, .inr (.inl g_10))) := kf_at kf_224 (hA 7 (by decide)) (by decide) (tncF (by decide) (tncF (by decide) (tncF (by decide) (tncF (by decide) tn0)))) (nmc (tne (hA 7 (by decide)) T_m9 (by decide)) nm0) F_A7
                    have F_A12 : h_219 (A 12) = some (.inl ((t 2), 700, .inl ol8)) := kf_at kf_224 (hA 12 (by decide)) (by decide) (tncF (by decide) (tncF (by decide) (tncF (by decide) (tncF (by decide) tn0)))) (nmc (tne (hA 12 (by decide)) T_m9 (by decide)) nm0) F_A12
                    have hkf : kf τ [(30, 1), (30, 0), (30, 3), (30, 14), (30, 15), (30, 16), (30, 13), (30, 11), (30, 10), (30, 12), (30, 2)] [m9] h h_219 := kf_tr hkf kf_224 (List.forall_mem_cons.mpr ⟨List.mem_cons_self, List.forall_mem_cons.mpr ⟨(List.mem_cons_of_mem _ List.mem_cons_self), List.forall_mem_cons.mpr ⟨(List.mem_cons_of_mem _ (List.mem_cons_of_mem _ List.mem_cons_self)), List.forall_mem_cons.mpr ⟨(List.mem_cons_of_mem _ (List.mem_cons_of_mem _ (List.mem_cons_of_mem _ (List.mem_cons_of_mem _ (List.mem_cons_of_mem _ (List.mem_cons_of_mem _ (List.mem_cons_of_mem _ List.mem_cons_self))))))), List.forall_mem_nil _⟩⟩⟩⟩) (List.forall_mem_cons.mpr ⟨Or.inl (by simp), List.forall_mem_nil _⟩)
                    obtain ⟨lo_225, le_226, wr_227, F_m9, mk_228, xq_229⟩ := xp_223
                    obtain ⟨m_230, m_231, m_232, m_233, m_234⟩ := mk_228
                    obtain ⟨hv9, ho9⟩ := xq_229
                    rw [h11o] at ho9
                    obtain ⟨g_235, F_A11⟩ := TI_arI (L := 700) hT (hA 11 (by decide)) rfl rfl
                    rw [aI_of F_A11] at ho9
                    rw [aI_of F_A11, aI_of F_A8] at hv9
                    have hr9 : r_218.toInt ≤ 0 := by rcases hv9 with ⟨h9, -⟩ | h9 <;> omega
                    refine lv_istore_n (lv' := [(2, .int r_218), (0, .ref m9), (1, .int v_17), (3, .int i9)]) hx hb d_Mo_compact_158 rfl hl (by decide) rfl (fun ls hl => ?_)
                    obtain ⟨j_236, e_237⟩ : ∃ z : Int32, z = i9 + 1 := ⟨_, rfl⟩
                    refine lv_iinc (v := j_236) (lv' := [(3, .int j_236), (2, .int r_218), (0, .ref m9), (1, .int v_17)]) hx hb d_Mo_compact_159 hl (k := 3) rfl e_237.symm (by decide) rfl (fun ls hl => ?_)
                    refine lv_goto (tgt := 107) hx hb d_Mo_compact_162 (by decide) ?_
                    have is_238 : j_236.toInt = i9.toInt + 1 := by rw [e_237]; exact iAddK 1 rfl (by omega) (by omega)
                    exact ih107 (mU j_236) ls _ locs _ (by rw [hk107]; exact mU_lt (by omega)) ⟨r_218, j_236, wr_227, lo_225, le_226, g_235, rfl, (lv_sub hl [2, 3, 1, 0] rfl), hH, hz, hLo, F_A4, F_A5, F_A6, F_A8, F_A10, F_A7, F_A12, hT, hkf, F_m9, m_231, F_A11, ⟨by omega, by omega⟩, (fun z => ly_s (hL hc_171) (by omega) (by omega) ho9 (fun _ _ _ => (hv9.resolve_right (by rw [z]; decide)).2)), ((ho9 0 (by omega)).trans hE0)⟩
        · skip
          have ic_239 : i6.toInt < ma.toInt := iNe hc_25
          have iu_240 : ma.toInt < 2147483648 := iUp _
          refine lv_aload_n hx hb d_Mo_compact_85 rfl (lv_at hl 0 rfl) ?_
          refine hm_get (ci := 9) (v := .ref (A 12)) (C := R_Mo) (T := F_Mo) (N := 41) hx hb hts ig_Mo hown hK hH F_m9 rfl 19 (by decide) (hts _ mw_697) (fun _ h9 => h9) rfl d_Mo_compact_86 ?_
          refine lv_iload_n hx hb d_Mo_compact_89 rfl (lv_at hl 2 rfl) ?_
          refine lv_aload_n hx hb d_Mo_compact_90 rfl (lv_at hl 0 rfl) ?_
          refine hm_get (ci := 9) (v := .ref (A 11)) (C := R_Mo) (T := F_Mo) (N := 41) hx hb hts ig_Mo hown hK hH F_m9 rfl 18 (by decide) (hts _ mw_618) (fun _ h9 => h9) rfl d_Mo_compact_91 ?_
          refine lv_iload_n hx hb d_Mo_compact_94 rfl (lv_at hl 2 rfl) ?_
          refine hm_iald hx hb hK hH 2 F_A11 rfl (iIn (by omega) (by omega)) d_Mo_compact_95 ?_
          refine lv_topi (fun v_241 e_242 => ?_)
          refine hm_iast hx hb hK hH hLo 2 F_A12 rfl (iIn (by omega) (by omega)) d_Mo_compact_96 (fun H_243 locs hH z_244 hLo => ?_)
          have hz : s.heap.size ≤ H_243.size := by rw [z_244]; exact hz
          obtain ⟨h_245, e_246⟩ : ∃ z, z = hu hh77 (A 12) (.inl ((t 2), 700, .inl (upd ol8 i6.toNatClampNeg v_241))) := ⟨_, rfl⟩
          have hH : hm D vwCl G h_245 H_243 := by rw [e_246]; exact hH
          have F_m9 : h_245 m9 = some (.inr (9, mf A n 0 sd lo le wr ma nu di pl se wg op)) := by rw [e_246, hu_n (tne T_m9 (hA 12 (by decide)) (by decide))]; exact F_m9
          have F_A4 : h_245 (A 4) = some (.inl ((t 1), 700, .inl g_1)) := by rw [e_246, hu_n (tneF (hA 4 (by decide)) (hA 12 (by decide)) (by decide))]; exact F_A4
          have F_A5 : h_245 (A 5) = some (.inl ((t 1), 700, .inl g_3)) := by rw [e_246, hu_n (tneF (hA 5 (by decide)) (hA 12 (by decide)) (by decide))]; exact F_A5
          have F_A6 : h_245 (A 6) = some (.inl ((t 2), 700, .inl g_5)) := by rw [e_246, hu_n (tneF (hA 6 (by decide)) (hA 12 (by decide)) (by decide))]; exact F_A6
          have F_A8 : h_245 (A 8) = some (.inl ((t 2), 700, .inl g_6)) := by rw [e_246, hu_n (tneF (hA 8 (by decide)) (hA 12 (by decide)) (by decide))]; exact F_A8
          have F_A10 : h_245 (A 10) = some (.inl ((t 1), 700, .inl g_7)) := by rw [e_246, hu_n (tneF (hA 10 (by decide)) (hA 12 (by decide)) (by decide))]; exact F_A10
          have F_A11 : h_245 (A 11) = some (.inl ((t 2), 700, .inl g_9)) := by rw [e_246, hu_n (tneF (hA 11 (by decide)) (hA 12 (by decide)) (by decide))]; exact F_A11
          have F_A7 : h_245 (A 7) = some (.inl ((t 3), 700, .inr (.inl g_10))) := by rw [e_246, hu_n (tneF (hA 7 (by decide)) (hA 12 (by decide)) (by decide))]; exact F_A7
          have F_A12 : h_245 (A 12) = some (.inl ((t 2), 700, .inl (upd ol8 i6.toNatClampNeg v_241))) := by rw [e_246]; exact hu_s _ _ _
          have hT : TI τ t n h_245 := by rw [e_246]; exact TI_put hT (hA 12 (by decide)) (by decide) (ok_I rfl rfl)
          have hkf : kf τ [(30, 1), (30, 0), (30, 3), (30, 14), (30, 15), (30, 16), (30, 13), (30, 11), (30, 10), (30, 12), (30, 2)] [m9] h h_245 := by rw [e_246]; exact kf_put hkf (hA 12 (by decide)) (List.mem_cons_of_mem _ (List.mem_cons_of_mem _ (List.mem_cons_of_mem _ (List.mem_cons_of_mem _ (List.mem_cons_of_mem _ (List.mem_cons_of_mem _ (List.mem_cons_of_mem _ (List.mem_cons_of_mem _ (List.mem_cons_of_mem _ List.mem_cons_self)))))))))
          obtain ⟨g_247, e_248⟩ : ∃ z, z = upd ol8 i6.toNatClampNeg v_241 := ⟨_, rfl⟩
          rw [← e_248] at F_A12
          obtain ⟨j_249, e_250⟩ : ∃ z : Int32, z = i6 + 1 := ⟨_, rfl⟩
          refine lv_iinc (v := j_249) (lv' := [(2, .int j_249), (0, .ref m9), (1, .int v_17)]) hx hb d_Mo_compact_97 hl (k := 2) rfl e_250.symm (by decide) rfl (fun ls hl => ?_)
          refine lv_goto (tgt := 77) hx hb d_Mo_compact_100 (by decide) ?_
          have is_251 : j_249.toInt = i6.toInt + 1 := by rw [e_250]; exact iAddK 1 rfl (by omega) (by omega)
          exact ih77 (mU j_249) ls _ locs _ (by rw [hk77]; exact mU_lt (by omega)) ⟨j_249, g_247, rfl, (lv_sub hl [1, 2, 0] rfl), hH, hz, hLo, F_m9, F_A4, F_A5, F_A6, F_A8, F_A10, F_A11, F_A7, hT, hkf, F_A12, (by omega), (cp_s I_i6 (by omega) hO (by rw [e_248, e_242]))⟩
      · skip
        have ic_252 : i9.toInt < 409600 := iNe hc_22
        refine lv_aload_n hx hb d_Mo_compact_56 rfl (lv_at hl 0 rfl) ?_
        refine hm_get (ci := 9) (v := .ref (A 0)) (C := R_Mo) (T := F_Mo) (N := 41) hx hb hts ig_Mo hown hK hH F_m9 rfl 3 (by decide) (hts _ mw_585) (fun _ h9 => h9) rfl d_Mo_compact_57 ?_
        refine lv_sipush (v := 2048) hx hb d_Mo_compact_60 (by decide) ?_
        refine lv_iload_n hx hb d_Mo_compact_63 rfl (lv_at hl 1 rfl) ?_
        refine lv_imul hx hb d_Mo_compact_64 ?_
        refine lv_topi (fun v_253 e_254 => ?_)
        refine lv_iload_n hx hb d_Mo_compact_65 rfl (lv_at hl 2 rfl) ?_
        refine lv_iadd hx hb d_Mo_compact_66 ?_
        refine lv_topi (fun v_255 e_256 => ?_)
        refine lv_iconst (v := 0) hx hb d_Mo_compact_67 (by decide) ?_
        obtain ⟨g_257, F_A0, c_258⟩ := TI_arB (L := 819200) hT (hA 0 (by decide)) rfl rfl
        have is_259 : v_17.toInt = 200 - sd.toInt := by rw [e_18]; exact iSubL 200 rfl (by omega) (by omega)
        have is_260 : v_253.toInt = 2048 * v_17.toInt := by rw [e_254]; exact iMulL 2048 rfl (by omega) (by omega)
        have is_261 : v_255.toInt = v_253.toInt + i9.toInt := by rw [e_256]; exact iAdd (by omega) (by omega)
        refine hm_bast hx hb hK hH hLo 0 F_A0 rfl (iIn (by omega) (by omega)) d_Mo_compact_68 (fun H_262 locs hH z_263 hLo => ?_)
        have hz : s.heap.size ≤ H_262.size := by rw [z_263]; exact hz
        obtain ⟨h_264, e_265⟩ : ∃ z, z = hu hh50 (A 0) (.inl ((t 0), 819200, .inl (upd g_257 v_255.toNatClampNeg (vp_nar .byte (0 : Int32))))) := ⟨_, rfl⟩
        have hH : hm D vwCl G h_264 H_262 := by rw [e_265]; exact hH
        have F_m9 : h_264 m9 = some (.inr (9, mf A n 0 sd lo le wr ma nu di pl se wg op)) := by rw [e_265, hu_n (tne T_m9 (hA 0 (by decide)) (by decide))]; exact F_m9
        have F_A4 : h_264 (A 4) = some (.inl ((t 1), 700, .inl g_1)) := by rw [e_265, hu_n (tneF (hA 4 (by decide)) (hA 0 (by decide)) (by decide))]; exact F_A4
        have F_A5 : h_264 (A 5) = some (.inl ((t 1), 700, .inl g_3)) := by rw [e_265, hu_n (tneF (hA 5 (by decide)) (hA 0 (by decide)) (by decide))]; exact F_A5
        have F_A6 : h_264 (A 6) = some (.inl ((t 2), 700, .inl g_5)) := by rw [e_265, hu_n (tneF (hA 6 (by decide)) (hA 0 (by decide)) (by decide))]; exact F_A6
        have F_A8 : h_264 (A 8) = some (.inl ((t 2), 700, .inl g_6)) := by rw [e_265, hu_n (tneF (hA 8 (by decide)) (hA 0 (by decide)) (by decide))]; exact F_A8
        have F_A10 : h_264 (A 10) = some (.inl ((t 1), 700, .inl g_7)) := by rw [e_265, hu_n (tneF (hA 10 (by decide)) (hA 0 (by decide)) (by decide))]; exact F_A10
        have F_A11 : h_264 (A 11) = some (.inl ((t 2), 700, .inl g_9)) := by rw [e_265, hu_n (tneF (hA 11 (by decide)) (hA 0 (by decide)) (by decide))]; exact F_A11
        have F_A7 : h_264 (A 7) = some (.inl ((t 3), 700, .inr (.inl g_10))) := by rw [e_265, hu_n (tneF (hA 7 (by decide)) (hA 0 (by decide)) (by decide))]; exact F_A7
        have F_A0 : h_264 (A 0) = some (.inl ((t 0), 819200, .inl (upd g_257 v_255.toNatClampNeg (vp_nar .byte (0 : Int32))))) := by rw [e_265]; exact hu_s _ _ _
        have hT : TI τ t n h_264 := by rw [e_265]; exact TI_put hT (hA 0 (by decide)) (by decide) (ok_B rfl rfl (sb_fitU c_258 (fitNar _)))
        have hkf : kf τ [(30, 1), (30, 0), (30, 3), (30, 14), (30, 15), (30, 16), (30, 13), (30, 11), (30, 10), (30, 12), (30, 2)] [m9] h h_264 := by rw [e_265]; exact kf_put hkf (hA 0 (by decide)) (List.mem_cons_of_mem _ List.mem_cons_self)
        obtain ⟨g_266, e_267⟩ : ∃ z, z = upd g_257 v_255.toNatClampNeg (vp_nar .byte (0 : Int32)) := ⟨_, rfl⟩
        rw [← e_267] at F_A0
        have c_268 : sb_Fit g_266 := by rw [e_267]; exact (sb_fitU c_258 (fitNar _))
        obtain ⟨j_269, e_270⟩ : ∃ z : Int32, z = i9 + 1 := ⟨_, rfl⟩
        refine lv_iinc (v := j_269) (lv' := [(2, .int j_269), (0, .ref m9), (1, .int v_17)]) hx hb d_Mo_compact_69 hl (k := 2) rfl e_270.symm (by decide) rfl (fun ls hl => ?_)
        refine lv_goto (tgt := 50) hx hb d_Mo_compact_72 (by decide) ?_
        have is_271 : j_269.toInt = i9.toInt + 1 := by rw [e_270]; exact iAddK 1 rfl (by omega) (by omega)
        exact ih50 (mU j_269) ls _ locs _ (by rw [hk50]; exact mU_lt (by omega)) ⟨j_269, rfl, (lv_sub hl [1, 2, 0] rfl), hH, hz, hLo, F_m9, F_A4, F_A5, F_A6, F_A8, F_A10, F_A11, F_A7, hT, hkf, (by omega)⟩
    · skip
      have ic_272 : i9.toInt < 200 := iNe hc_20
      refine lv_aload_n hx hb d_Mo_compact_33 rfl (lv_at hl 0 rfl) ?_
      refine hm_get (ci := 9) (v := .ref (A 1)) (C := R_Mo) (T := F_Mo) (N := 41) hx hb hts ig_Mo hown hK hH F_m9 rfl 4 (by decide) (hts _ mw_588) (fun _ h9 => h9) rfl d_Mo_compact_34 ?_
      refine lv_iload_n hx hb d_Mo_compact_37 rfl (lv_at hl 1 rfl) ?_
      refine lv_iload_n hx hb d_Mo_compact_38 rfl (lv_at hl 2 rfl) ?_
      refine lv_iadd hx hb d_Mo_compact_39 ?_
      refine lv_topi (fun v_273 e_274 => ?_)
      refine lv_iconst (v := 0) hx hb d_Mo_compact_40 (by decide) ?_
      obtain ⟨g_275, F_A1, c_276⟩ := TI_arB (L := 400) hT (hA 1 (by decide)) rfl rfl
      have is_277 : v_17.toInt = 200 - sd.toInt := by rw [e_18]; exact iSubL 200 rfl (by omega) (by omega)
      have is_278 : v_273.toInt = v_17.toInt + i9.toInt := by rw [e_274]; exact iAdd (by omega) (by omega)
      refine hm_bast hx hb hK hH hLo 0 F_A1 rfl (iIn (by omega) (by omega)) d_Mo_compact_41 (fun H_279 locs hH z_280 hLo => ?_)
      have hz : s.heap.size ≤ H_279.size := by rw [z_280]; exact hz
      obtain ⟨h_281, e_282⟩ : ∃ z, z = hu hh26 (A 1) (.inl ((t 0), 400, .inl (upd g_275 v_273.toNatClampNeg (vp_nar .byte (0 : Int32))))) := ⟨_, rfl⟩
      have hH : hm D vwCl G h_281 H_279 := by rw [e_282]; exact hH
      have F_m9 : h_281 m9 = some (.inr (9, mf A n 0 sd lo le wr ma nu di pl se wg op)) := by rw [e_282, hu_n (tne T_m9 (hA 1 (by decide)) (by decide))]; exact F_m9
      have F_A4 : h_281 (A 4) = some (.inl ((t 1), 700, .inl g_1)) := by rw [e_282, hu_n (tneF (hA 4 (by decide)) (hA 1 (by decide)) (by decide))]; exact F_A4
      have F_A5 : h_281 (A 5) = some (.inl ((t 1), 700, .inl g_3)) := by rw [e_282, hu_n (tneF (hA 5 (by decide)) (hA 1 (by decide)) (by decide))]; exact F_A5
      have F_A6 : h_281 (A 6) = some (.inl ((t 2), 700, .inl g_5)) := by rw [e_282, hu_n (tneF (hA 6 (by decide)) (hA 1 (by decide)) (by decide))]; exact F_A6
      have F_A8 : h_281 (A 8) = some (.inl ((t 2), 700, .inl g_6)) := by rw [e_282, hu_n (tneF (hA 8 (by decide)) (hA 1 (by decide)) (by decide))]; exact F_A8
      have F_A10 : h_281 (A 10) = some (.inl ((t 1), 700, .inl g_7)) := by rw [e_282, hu_n (tneF (hA 10 (by decide)) (hA 1 (by decide)) (by decide))]; exact F_A10
      have F_A11 : h_281 (A 11) = some (.inl ((t 2), 700, .inl g_9)) := by rw [e_282, hu_n (tneF (hA 11 (by decide)) (hA 1 (by decide)) (by decide))]; exact F_A11
      have F_A7 : h_281 (A 7) = some (.inl ((t 3), 700, .inr (.inl g_10))) := by rw [e_282, hu_n (tneF (hA 7 (by decide)) (hA 1 (by decide)) (by decide))]; exact F_A7
      have F_A1 : h_281 (A 1) = some (.inl ((t 0), 400, .inl (upd g_275 v_273.toNatClampNeg (vp_nar .byte (0 : Int32))))) := by rw [e_282]; exact hu_s _ _ _
      have hT : TI τ t n h_281 := by rw [e_282]; exact TI_put hT (hA 1 (by decide)) (by decide) (ok_B rfl rfl (sb_fitU c_276 (fitNar _)))
      have hkf : kf τ [(30, 1), (30, 0), (30, 3), (30, 14), (30, 15), (30, 16), (30, 13), (30, 11), (30, 10), (30, 12), (30, 2)] [m9] h h_281 := by rw [e_282]; exact kf_put hkf (hA 1 (by decide)) List.mem_cons_self
      obtain ⟨g_283, e_284⟩ : ∃ z, z = upd g_275 v_273.toNatClampNeg (vp_nar .byte (0 : Int32)) := ⟨_, rfl⟩
      rw [← e_284] at F_A1
      have c_285 : sb_Fit g_283 := by rw [e_284]; exact (sb_fitU c_276 (fitNar _))
      obtain ⟨j_286, e_287⟩ : ∃ z : Int32, z = i9 + 1 := ⟨_, rfl⟩
      refine lv_iinc (v := j_286) (lv' := [(2, .int j_286), (0, .ref m9), (1, .int v_17)]) hx hb d_Mo_compact_42 hl (k := 2) rfl e_287.symm (by decide) rfl (fun ls hl => ?_)
      refine lv_goto (tgt := 26) hx hb d_Mo_compact_45 (by decide) ?_
      have is_288 : j_286.toInt = i9.toInt + 1 := by rw [e_287]; exact iAddK 1 rfl (by omega) (by omega)
      exact ih26 (mU j_286) ls _ locs _ (by rw [hk26]; exact mU_lt (by omega)) ⟨j_286, rfl, (lv_sub hl [1, 2, 0] rfl), hH, hz, hLo, F_m9, F_A4, F_A5, F_A6, F_A8, F_A10, F_A11, F_A7, hT, hkf, (by omega)⟩
  · skip
    refine lv_bipush (v := -4) hx hb d_Mo_compact_12 (by decide) ?_
    exact W.iret (v := (-4)) hx hb hr (fun t9 ht hW => ⟨(-4), h_13, rfl, ⟨hT, hkf, ⟨(0 : Int32), sd, lo, le, wr, nu, di, op, F_m9, ⟨hsd, hlo, (by omega), ⟨by omega, by omega⟩, ⟨by omega, by omega⟩⟩, ⟨Or.inl rfl, ⟨by rw [aI_of F_A4, aI_of F_A6]; exact hTm, by rw [aI_of F_A4, aI_of F_A5, aI_of F_A8, aI_of F_A10, aI_of F_A11]; exact hEx⟩⟩⟩⟩, by rw [ht]; exact hH, by rw [ht]; exact hz⟩) hLo d_Mo_compact_14
