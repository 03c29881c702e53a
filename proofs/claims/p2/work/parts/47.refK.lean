set_option maxRecDepth 100000 in
theorem mw_779 : Cond.code y_Mo_expect b_Mo_expect 3 (some .int) ∈ lw_g := lw_gin (List.mem_append_right _ (List.mem_of_getElem? (i := 1284) rfl)) (by decide +kernel)
set_option maxRecDepth 100000 in
theorem mw_780 : Cond.methodLink R_Mo 308 y_Mo_expect ∈ lw_g := lw_gin (List.mem_append_right _ (List.mem_of_getElem? (i := 1281) rfl)) (by decide +kernel)
set_option maxRecDepth 100000 in
theorem mw_781 : Cond.instanceMethod y_Mo_expect ∈ lw_g := lw_gin (List.mem_append_right _ (List.mem_of_getElem? (i := 1283) rfl)) (by decide +kernel)
set_option maxRecDepth 100000 in
theorem mw_782 : Cond.selects R_Mo y_Mo_expect y_Mo_expect ∈ lw_g := lw_gin (List.mem_append_left _ (List.mem_of_getElem? (i := 68) rfl)) (by decide +kernel)
set_option maxRecDepth 100000 in
theorem mw_783 : Cond.code y_Mo_begins b_Mo_begins 4 (some .boolean) ∈ lw_g := lw_gin (List.mem_append_right _ (List.mem_of_getElem? (i := 1246) rfl)) (by decide +kernel)
set_option maxRecDepth 100000 in
theorem mw_784 : Cond.methodLink R_Mo 289 y_Mo_begins ∈ lw_g := lw_gin (List.mem_append_right _ (List.mem_of_getElem? (i := 1243) rfl)) (by decide +kernel)
set_option maxRecDepth 100000 in
theorem mw_785 : Cond.instanceMethod y_Mo_begins ∈ lw_g := lw_gin (List.mem_append_right _ (List.mem_of_getElem? (i := 1245) rfl)) (by decide +kernel)
set_option maxRecDepth 100000 in
theorem mw_786 : Cond.selects R_Mo y_Mo_begins y_Mo_begins ∈ lw_g := lw_gin (List.mem_append_left _ (List.mem_of_getElem? (i := 59) rfl)) (by decide +kernel)
set_option maxRecDepth 100000 in
theorem mw_787 : Cond.code y_Mo_tableIs b_Mo_tableIs 10 (some .int) ∈ lw_g := lw_gin (List.mem_append_right _ (List.mem_of_getElem? (i := 1280) rfl)) (by decide +kernel)
set_option maxRecDepth 100000 in
theorem mw_788 : Cond.methodLink R_Mo 302 y_Mo_tableIs ∈ lw_g := lw_gin (List.mem_append_right _ (List.mem_of_getElem? (i := 1277) rfl)) (by decide +kernel)
set_option maxRecDepth 100000 in
theorem mw_789 : Cond.instanceMethod y_Mo_tableIs ∈ lw_g := lw_gin (List.mem_append_right _ (List.mem_of_getElem? (i := 1279) rfl)) (by decide +kernel)
set_option maxRecDepth 100000 in
theorem mw_790 : Cond.selects R_Mo y_Mo_tableIs y_Mo_tableIs ∈ lw_g := lw_gin (List.mem_append_left _ (List.mem_of_getElem? (i := 67) rfl)) (by decide +kernel)
set_option maxRecDepth 100000 in
theorem mw_791 : Cond.code y_Mo_isGone b_Mo_isGone 8 (some .boolean) ∈ lw_g := lw_gin (List.mem_append_right _ (List.mem_of_getElem? (i := 1272) rfl)) (by decide +kernel)
set_option maxRecDepth 100000 in
theorem mw_792 : Cond.methodLink R_Mo 299 y_Mo_isGone ∈ lw_g := lw_gin (List.mem_append_right _ (List.mem_of_getElem? (i := 1269) rfl)) (by decide +kernel)
set_option maxRecDepth 100000 in
theorem mw_793 : Cond.instanceMethod y_Mo_isGone ∈ lw_g := lw_gin (List.mem_append_right _ (List.mem_of_getElem? (i := 1271) rfl)) (by decide +kernel)
set_option maxRecDepth 100000 in
theorem mw_794 : Cond.selects R_Mo y_Mo_isGone y_Mo_isGone ∈ lw_g := lw_gin (List.mem_append_left _ (List.mem_of_getElem? (i := 65) rfl)) (by decide +kernel)
set_option maxRecDepth 100000 in
theorem mw_795 : Cond.code y_Mo_isRead b_Mo_isRead 5 (some .boolean) ∈ lw_g := lw_gin (List.mem_append_right _ (List.mem_of_getElem? (i := 1238) rfl)) (by decide +kernel)
set_option maxRecDepth 100000 in
theorem mw_796 : Cond.methodLink R_Mo 286 y_Mo_isRead ∈ lw_g := lw_gin (List.mem_append_right _ (List.mem_of_getElem? (i := 1235) rfl)) (by decide +kernel)
set_option maxRecDepth 100000 in
theorem mw_797 : Cond.instanceMethod y_Mo_isRead ∈ lw_g := lw_gin (List.mem_append_right _ (List.mem_of_getElem? (i := 1237) rfl)) (by decide +kernel)
set_option maxRecDepth 100000 in
theorem mw_798 : Cond.selects R_Mo y_Mo_isRead y_Mo_isRead ∈ lw_g := lw_gin (List.mem_append_left _ (List.mem_of_getElem? (i := 57) rfl)) (by decide +kernel)
theorem d_Mo_expect_0 : decode b_Mo_expect 0 = .ok (.aload_n 0, 1) := by decide +kernel
theorem d_Mo_expect_1 : decode b_Mo_expect 1 = .ok (.getfield 257, 3) := by decide +kernel
theorem d_Mo_expect_4 : decode b_Mo_expect 4 = .ok (.ifCond .ge 21, 3) := by decide +kernel
theorem d_Mo_expect_25 : decode b_Mo_expect 25 = .ok (.iload_n 1, 1) := by decide +kernel
theorem d_Mo_expect_26 : decode b_Mo_expect 26 = .ok (.iconst 1, 1) := by decide +kernel
theorem d_Mo_expect_27 : decode b_Mo_expect 27 = .ok (.iadd, 1) := by decide +kernel
theorem d_Mo_expect_28 : decode b_Mo_expect 28 = .ok (.ireturn, 1) := by decide +kernel
theorem d_Mo_expect_7 : decode b_Mo_expect 7 = .ok (.aload_n 0, 1) := by decide +kernel
theorem d_Mo_expect_8 : decode b_Mo_expect 8 = .ok (.iload_n 1, 1) := by decide +kernel
theorem d_Mo_expect_9 : decode b_Mo_expect 9 = .ok (.invokevirtual 225, 3) := by decide +kernel
theorem d_Mo_expect_12 : decode b_Mo_expect 12 = .ok (.iload_n 2, 1) := by decide +kernel
theorem d_Mo_expect_13 : decode b_Mo_expect 13 = .ok (.sipush 255, 3) := by decide +kernel
theorem d_Mo_expect_16 : decode b_Mo_expect 16 = .ok (.iand, 1) := by decide +kernel
theorem d_Mo_expect_17 : decode b_Mo_expect 17 = .ok (.if_icmp .eq 8, 3) := by decide +kernel
theorem d_Mo_expect_20 : decode b_Mo_expect 20 = .ok (.aload_n 0, 1) := by decide +kernel
theorem d_Mo_expect_21 : decode b_Mo_expect 21 = .ok (.iload_n 1, 1) := by decide +kernel
theorem d_Mo_expect_22 : decode b_Mo_expect 22 = .ok (.putfield 257, 3) := by decide +kernel
theorem d_Mo_tableIs_0 : decode b_Mo_tableIs 0 = .ok (.aload_n 0, 1) := by decide +kernel
theorem d_Mo_tableIs_1 : decode b_Mo_tableIs 1 = .ok (.iconst (-1), 1) := by decide +kernel
theorem d_Mo_tableIs_2 : decode b_Mo_tableIs 2 = .ok (.putfield 257, 3) := by decide +kernel
theorem d_Mo_tableIs_5 : decode b_Mo_tableIs 5 = .ok (.iconst 0, 1) := by decide +kernel
theorem d_Mo_tableIs_6 : decode b_Mo_tableIs 6 = .ok (.istore_n 2, 1) := by decide +kernel
theorem d_Mo_tableIs_7 : decode b_Mo_tableIs 7 = .ok (.iconst 0, 1) := by decide +kernel
theorem d_Mo_tableIs_8 : decode b_Mo_tableIs 8 = .ok (.istore_n 3, 1) := by decide +kernel
theorem d_Mo_tableIs_9 : decode b_Mo_tableIs 9 = .ok (.iload_n 3, 1) := by decide +kernel
theorem d_Mo_tableIs_10 : decode b_Mo_tableIs 10 = .ok (.iconst 2, 1) := by decide +kernel
theorem d_Mo_tableIs_11 : decode b_Mo_tableIs 11 = .ok (.if_icmp .ge 311, 3) := by decide +kernel
theorem d_Mo_tableIs_322 : decode b_Mo_tableIs 322 = .ok (.aload_n 0, 1) := by decide +kernel
theorem d_Mo_tableIs_323 : decode b_Mo_tableIs 323 = .ok (.getfield 257, 3) := by decide +kernel
theorem d_Mo_tableIs_326 : decode b_Mo_tableIs 326 = .ok (.ifCond .ge 7, 3) := by decide +kernel
theorem d_Mo_tableIs_333 : decode b_Mo_tableIs 333 = .ok (.iconst (-1), 1) := by decide +kernel
theorem d_Mo_tableIs_334 : decode b_Mo_tableIs 334 = .ok (.ireturn, 1) := by decide +kernel
theorem d_Mo_tableIs_329 : decode b_Mo_tableIs 329 = .ok (.iload_n 2, 1) := by decide +kernel
theorem d_Mo_tableIs_330 : decode b_Mo_tableIs 330 = .ok (.goto 4, 3) := by decide +kernel
theorem d_Mo_tableIs_14 : decode b_Mo_tableIs 14 = .ok (.aload_n 0, 1) := by decide +kernel
theorem d_Mo_tableIs_15 : decode b_Mo_tableIs 15 = .ok (.getfield 257, 3) := by decide +kernel
theorem d_Mo_tableIs_18 : decode b_Mo_tableIs 18 = .ok (.ifCond .ge 304, 3) := by decide +kernel
theorem d_Mo_tableIs_21 : decode b_Mo_tableIs 21 = .ok (.sipush 2048, 3) := by decide +kernel
theorem d_Mo_tableIs_24 : decode b_Mo_tableIs 24 = .ok (.iload_n 1, 1) := by decide +kernel
theorem d_Mo_tableIs_25 : decode b_Mo_tableIs 25 = .ok (.iload_n 3, 1) := by decide +kernel
theorem d_Mo_tableIs_26 : decode b_Mo_tableIs 26 = .ok (.iadd, 1) := by decide +kernel
theorem d_Mo_tableIs_27 : decode b_Mo_tableIs 27 = .ok (.imul, 1) := by decide +kernel
theorem d_Mo_tableIs_28 : decode b_Mo_tableIs 28 = .ok (.istore 4, 2) := by decide +kernel
theorem d_Mo_tableIs_30 : decode b_Mo_tableIs 30 = .ok (.iload 4, 2) := by decide +kernel
theorem d_Mo_tableIs_32 : decode b_Mo_tableIs 32 = .ok (.istore 5, 2) := by decide +kernel
theorem d_Mo_tableIs_34 : decode b_Mo_tableIs 34 = .ok (.iconst 0, 1) := by decide +kernel
theorem d_Mo_tableIs_35 : decode b_Mo_tableIs 35 = .ok (.istore 6, 2) := by decide +kernel
theorem d_Mo_tableIs_37 : decode b_Mo_tableIs 37 = .ok (.iload 6, 2) := by decide +kernel
theorem d_Mo_tableIs_39 : decode b_Mo_tableIs 39 = .ok (.aload_n 0, 1) := by decide +kernel
theorem d_Mo_tableIs_40 : decode b_Mo_tableIs 40 = .ok (.getfield 283, 3) := by decide +kernel
theorem d_Mo_tableIs_43 : decode b_Mo_tableIs 43 = .ok (.if_icmp .ge 267, 3) := by decide +kernel
theorem d_Mo_tableIs_310 : decode b_Mo_tableIs 310 = .ok (.iload 4, 2) := by decide +kernel
theorem d_Mo_tableIs_312 : decode b_Mo_tableIs 312 = .ok (.iload 5, 2) := by decide +kernel
theorem d_Mo_tableIs_314 : decode b_Mo_tableIs 314 = .ok (.isub, 1) := by decide +kernel
theorem d_Mo_tableIs_315 : decode b_Mo_tableIs 315 = .ok (.istore_n 2, 1) := by decide +kernel
theorem d_Mo_tableIs_316 : decode b_Mo_tableIs 316 = .ok (.iinc 3 1, 3) := by decide +kernel
theorem d_Mo_tableIs_319 : decode b_Mo_tableIs 319 = .ok (.goto (-310), 3) := by decide +kernel
theorem d_Mo_tableIs_46 : decode b_Mo_tableIs 46 = .ok (.aload_n 0, 1) := by decide +kernel
theorem d_Mo_tableIs_47 : decode b_Mo_tableIs 47 = .ok (.getfield 69, 3) := by decide +kernel
theorem d_Mo_tableIs_50 : decode b_Mo_tableIs 50 = .ok (.iload 6, 2) := by decide +kernel
theorem d_Mo_tableIs_52 : decode b_Mo_tableIs 52 = .ok (.baload, 1) := by decide +kernel
theorem d_Mo_tableIs_53 : decode b_Mo_tableIs 53 = .ok (.ifCond .ne 6, 3) := by decide +kernel
theorem d_Mo_tableIs_78 : decode b_Mo_tableIs 78 = .ok (.istore 7, 2) := by decide +kernel
theorem d_Mo_tableIs_80 : decode b_Mo_tableIs 80 = .ok (.iconst 0, 1) := by decide +kernel
theorem d_Mo_tableIs_81 : decode b_Mo_tableIs 81 = .ok (.istore 8, 2) := by decide +kernel
theorem d_Mo_tableIs_83 : decode b_Mo_tableIs 83 = .ok (.iconst 0, 1) := by decide +kernel
theorem d_Mo_tableIs_84 : decode b_Mo_tableIs 84 = .ok (.istore 9, 2) := by decide +kernel
theorem d_Mo_tableIs_86 : decode b_Mo_tableIs 86 = .ok (.iload 9, 2) := by decide +kernel
theorem d_Mo_tableIs_88 : decode b_Mo_tableIs 88 = .ok (.aload_n 0, 1) := by decide +kernel
theorem d_Mo_tableIs_89 : decode b_Mo_tableIs 89 = .ok (.getfield 66, 3) := by decide +kernel
theorem d_Mo_tableIs_92 : decode b_Mo_tableIs 92 = .ok (.iload 6, 2) := by decide +kernel
theorem d_Mo_tableIs_94 : decode b_Mo_tableIs 94 = .ok (.iaload, 1) := by decide +kernel
theorem d_Mo_tableIs_95 : decode b_Mo_tableIs 95 = .ok (.if_icmp .le 13, 3) := by decide +kernel
theorem d_Mo_tableIs_108 : decode b_Mo_tableIs 108 = .ok (.iload 8, 2) := by decide +kernel
theorem d_Mo_tableIs_110 : decode b_Mo_tableIs 110 = .ok (.aload_n 0, 1) := by decide +kernel
theorem d_Mo_tableIs_111 : decode b_Mo_tableIs 111 = .ok (.getfield 69, 3) := by decide +kernel
theorem d_Mo_tableIs_114 : decode b_Mo_tableIs 114 = .ok (.iload 9, 2) := by decide +kernel
theorem d_Mo_tableIs_116 : decode b_Mo_tableIs 116 = .ok (.baload, 1) := by decide +kernel
theorem d_Mo_tableIs_117 : decode b_Mo_tableIs 117 = .ok (.ifCond .eq 7, 3) := by decide +kernel
theorem d_Mo_tableIs_124 : decode b_Mo_tableIs 124 = .ok (.iconst 0, 1) := by decide +kernel
theorem d_Mo_tableIs_125 : decode b_Mo_tableIs 125 = .ok (.iadd, 1) := by decide +kernel
theorem d_Mo_tableIs_126 : decode b_Mo_tableIs 126 = .ok (.istore 8, 2) := by decide +kernel
theorem d_Mo_tableIs_128 : decode b_Mo_tableIs 128 = .ok (.iinc 9 1, 3) := by decide +kernel
theorem d_Mo_tableIs_131 : decode b_Mo_tableIs 131 = .ok (.goto (-45), 3) := by decide +kernel
theorem d_Mo_tableIs_120 : decode b_Mo_tableIs 120 = .ok (.iconst 1, 1) := by decide +kernel
theorem d_Mo_tableIs_121 : decode b_Mo_tableIs 121 = .ok (.goto 4, 3) := by decide +kernel
theorem d_Mo_tableIs_98 : decode b_Mo_tableIs 98 = .ok (.iload 9, 2) := by decide +kernel
theorem d_Mo_tableIs_100 : decode b_Mo_tableIs 100 = .ok (.ifCond .ne 34, 3) := by decide +kernel
theorem d_Mo_tableIs_134 : decode b_Mo_tableIs 134 = .ok (.aload_n 0, 1) := by decide +kernel
theorem d_Mo_tableIs_135 : decode b_Mo_tableIs 135 = .ok (.iload 4, 2) := by decide +kernel
theorem d_Mo_tableIs_137 : decode b_Mo_tableIs 137 = .ok (.iload 7, 2) := by decide +kernel
theorem d_Mo_tableIs_139 : decode b_Mo_tableIs 139 = .ok (.invokevirtual 308, 3) := by decide +kernel
theorem d_Mo_tableIs_142 : decode b_Mo_tableIs 142 = .ok (.istore 4, 2) := by decide +kernel
theorem d_Mo_tableIs_144 : decode b_Mo_tableIs 144 = .ok (.aload_n 0, 1) := by decide +kernel
theorem d_Mo_tableIs_145 : decode b_Mo_tableIs 145 = .ok (.iload 4, 2) := by decide +kernel
theorem d_Mo_tableIs_147 : decode b_Mo_tableIs 147 = .ok (.iconst 0, 1) := by decide +kernel
theorem d_Mo_tableIs_148 : decode b_Mo_tableIs 148 = .ok (.invokevirtual 308, 3) := by decide +kernel
theorem d_Mo_tableIs_151 : decode b_Mo_tableIs 151 = .ok (.istore 4, 2) := by decide +kernel
theorem d_Mo_tableIs_153 : decode b_Mo_tableIs 153 = .ok (.iconst 0, 1) := by decide +kernel
theorem d_Mo_tableIs_154 : decode b_Mo_tableIs 154 = .ok (.istore 9, 2) := by decide +kernel
theorem d_Mo_tableIs_156 : decode b_Mo_tableIs 156 = .ok (.iload 9, 2) := by decide +kernel
theorem d_Mo_tableIs_158 : decode b_Mo_tableIs 158 = .ok (.iconst 4, 1) := by decide +kernel
theorem d_Mo_tableIs_159 : decode b_Mo_tableIs 159 = .ok (.if_icmp .ge 41, 3) := by decide +kernel
theorem d_Mo_tableIs_200 : decode b_Mo_tableIs 200 = .ok (.iconst 0, 1) := by decide +kernel
theorem d_Mo_tableIs_201 : decode b_Mo_tableIs 201 = .ok (.istore 9, 2) := by decide +kernel
theorem d_Mo_tableIs_203 : decode b_Mo_tableIs 203 = .ok (.iload 9, 2) := by decide +kernel
theorem d_Mo_tableIs_205 : decode b_Mo_tableIs 205 = .ok (.iconst 2, 1) := by decide +kernel
theorem d_Mo_tableIs_206 : decode b_Mo_tableIs 206 = .ok (.if_icmp .ge 36, 3) := by decide +kernel
theorem d_Mo_tableIs_242 : decode b_Mo_tableIs 242 = .ok (.iconst 0, 1) := by decide +kernel
theorem d_Mo_tableIs_243 : decode b_Mo_tableIs 243 = .ok (.istore 9, 2) := by decide +kernel
theorem d_Mo_tableIs_245 : decode b_Mo_tableIs 245 = .ok (.iload 9, 2) := by decide +kernel
theorem d_Mo_tableIs_247 : decode b_Mo_tableIs 247 = .ok (.iload 7, 2) := by decide +kernel
theorem d_Mo_tableIs_249 : decode b_Mo_tableIs 249 = .ok (.if_icmp .ge 38, 3) := by decide +kernel
theorem d_Mo_tableIs_287 : decode b_Mo_tableIs 287 = .ok (.iload 7, 2) := by decide +kernel
theorem d_Mo_tableIs_289 : decode b_Mo_tableIs 289 = .ok (.iconst 2, 1) := by decide +kernel
theorem d_Mo_tableIs_290 : decode b_Mo_tableIs 290 = .ok (.irem, 1) := by decide +kernel
theorem d_Mo_tableIs_291 : decode b_Mo_tableIs 291 = .ok (.iconst 1, 1) := by decide +kernel
theorem d_Mo_tableIs_292 : decode b_Mo_tableIs 292 = .ok (.if_icmp .ne 12, 3) := by decide +kernel
theorem d_Mo_tableIs_304 : decode b_Mo_tableIs 304 = .ok (.iinc 6 1, 3) := by decide +kernel
theorem d_Mo_tableIs_307 : decode b_Mo_tableIs 307 = .ok (.goto (-270), 3) := by decide +kernel
theorem d_Mo_tableIs_295 : decode b_Mo_tableIs 295 = .ok (.aload_n 0, 1) := by decide +kernel
theorem d_Mo_tableIs_296 : decode b_Mo_tableIs 296 = .ok (.iload 4, 2) := by decide +kernel
theorem d_Mo_tableIs_298 : decode b_Mo_tableIs 298 = .ok (.iconst 0, 1) := by decide +kernel
theorem d_Mo_tableIs_299 : decode b_Mo_tableIs 299 = .ok (.invokevirtual 308, 3) := by decide +kernel
theorem d_Mo_tableIs_302 : decode b_Mo_tableIs 302 = .ok (.istore 4, 2) := by decide +kernel
theorem d_Mo_tableIs_252 : decode b_Mo_tableIs 252 = .ok (.aload_n 0, 1) := by decide +kernel
theorem d_Mo_tableIs_253 : decode b_Mo_tableIs 253 = .ok (.iload 4, 2) := by decide +kernel
theorem d_Mo_tableIs_255 : decode b_Mo_tableIs 255 = .ok (.iload 6, 2) := by decide +kernel
theorem d_Mo_tableIs_257 : decode b_Mo_tableIs 257 = .ok (.ifCond .ne 7, 3) := by decide +kernel
theorem d_Mo_tableIs_264 : decode b_Mo_tableIs 264 = .ok (.aload_n 0, 1) := by decide +kernel
theorem d_Mo_tableIs_265 : decode b_Mo_tableIs 265 = .ok (.getfield 78, 3) := by decide +kernel
theorem d_Mo_tableIs_268 : decode b_Mo_tableIs 268 = .ok (.iload 6, 2) := by decide +kernel
theorem d_Mo_tableIs_270 : decode b_Mo_tableIs 270 = .ok (.laload, 1) := by decide +kernel
theorem d_Mo_tableIs_271 : decode b_Mo_tableIs 271 = .ok (.iload 9, 2) := by decide +kernel
theorem d_Mo_tableIs_273 : decode b_Mo_tableIs 273 = .ok (.invokestatic 169, 3) := by decide +kernel
theorem d_Mo_tableIs_276 : decode b_Mo_tableIs 276 = .ok (.invokevirtual 308, 3) := by decide +kernel
theorem d_Mo_tableIs_279 : decode b_Mo_tableIs 279 = .ok (.istore 4, 2) := by decide +kernel
theorem d_Mo_tableIs_281 : decode b_Mo_tableIs 281 = .ok (.iinc 9 1, 3) := by decide +kernel
theorem d_Mo_tableIs_284 : decode b_Mo_tableIs 284 = .ok (.goto (-39), 3) := by decide +kernel
theorem d_Mo_tableIs_260 : decode b_Mo_tableIs 260 = .ok (.iconst 0, 1) := by decide +kernel
theorem d_Mo_tableIs_261 : decode b_Mo_tableIs 261 = .ok (.goto 15, 3) := by decide +kernel
theorem d_Mo_tableIs_209 : decode b_Mo_tableIs 209 = .ok (.aload_n 0, 1) := by decide +kernel
theorem d_Mo_tableIs_210 : decode b_Mo_tableIs 210 = .ok (.iload 4, 2) := by decide +kernel
theorem d_Mo_tableIs_212 : decode b_Mo_tableIs 212 = .ok (.iload 8, 2) := by decide +kernel
theorem d_Mo_tableIs_214 : decode b_Mo_tableIs 214 = .ok (.bipush 8, 2) := by decide +kernel
theorem d_Mo_tableIs_216 : decode b_Mo_tableIs 216 = .ok (.iload_n 3, 1) := by decide +kernel
theorem d_Mo_tableIs_217 : decode b_Mo_tableIs 217 = .ok (.ifCond .ne 8, 3) := by decide +kernel
theorem d_Mo_tableIs_225 : decode b_Mo_tableIs 225 = .ok (.iconst 1, 1) := by decide +kernel
theorem d_Mo_tableIs_226 : decode b_Mo_tableIs 226 = .ok (.iload 9, 2) := by decide +kernel
theorem d_Mo_tableIs_228 : decode b_Mo_tableIs 228 = .ok (.isub, 1) := by decide +kernel
theorem d_Mo_tableIs_229 : decode b_Mo_tableIs 229 = .ok (.imul, 1) := by decide +kernel
theorem d_Mo_tableIs_230 : decode b_Mo_tableIs 230 = .ok (.ishr, 1) := by decide +kernel
theorem d_Mo_tableIs_231 : decode b_Mo_tableIs 231 = .ok (.invokevirtual 308, 3) := by decide +kernel
theorem d_Mo_tableIs_234 : decode b_Mo_tableIs 234 = .ok (.istore 4, 2) := by decide +kernel
theorem d_Mo_tableIs_236 : decode b_Mo_tableIs 236 = .ok (.iinc 9 1, 3) := by decide +kernel
theorem d_Mo_tableIs_239 : decode b_Mo_tableIs 239 = .ok (.goto (-36), 3) := by decide +kernel
theorem d_Mo_tableIs_220 : decode b_Mo_tableIs 220 = .ok (.iload 9, 2) := by decide +kernel
theorem d_Mo_tableIs_222 : decode b_Mo_tableIs 222 = .ok (.goto 7, 3) := by decide +kernel
theorem d_Mo_tableIs_162 : decode b_Mo_tableIs 162 = .ok (.aload_n 0, 1) := by decide +kernel
theorem d_Mo_tableIs_163 : decode b_Mo_tableIs 163 = .ok (.iload 4, 2) := by decide +kernel
theorem d_Mo_tableIs_165 : decode b_Mo_tableIs 165 = .ok (.aload_n 0, 1) := by decide +kernel
theorem d_Mo_tableIs_166 : decode b_Mo_tableIs 166 = .ok (.getfield 75, 3) := by decide +kernel
theorem d_Mo_tableIs_169 : decode b_Mo_tableIs 169 = .ok (.iload 6, 2) := by decide +kernel
theorem d_Mo_tableIs_171 : decode b_Mo_tableIs 171 = .ok (.iaload, 1) := by decide +kernel
theorem d_Mo_tableIs_172 : decode b_Mo_tableIs 172 = .ok (.bipush 8, 2) := by decide +kernel
theorem d_Mo_tableIs_174 : decode b_Mo_tableIs 174 = .ok (.iload_n 3, 1) := by decide +kernel
theorem d_Mo_tableIs_175 : decode b_Mo_tableIs 175 = .ok (.ifCond .ne 8, 3) := by decide +kernel
theorem d_Mo_tableIs_183 : decode b_Mo_tableIs 183 = .ok (.iconst 3, 1) := by decide +kernel
theorem d_Mo_tableIs_184 : decode b_Mo_tableIs 184 = .ok (.iload 9, 2) := by decide +kernel
theorem d_Mo_tableIs_186 : decode b_Mo_tableIs 186 = .ok (.isub, 1) := by decide +kernel
theorem d_Mo_tableIs_187 : decode b_Mo_tableIs 187 = .ok (.imul, 1) := by decide +kernel
theorem d_Mo_tableIs_188 : decode b_Mo_tableIs 188 = .ok (.ishr, 1) := by decide +kernel
theorem d_Mo_tableIs_189 : decode b_Mo_tableIs 189 = .ok (.invokevirtual 308, 3) := by decide +kernel
theorem d_Mo_tableIs_192 : decode b_Mo_tableIs 192 = .ok (.istore 4, 2) := by decide +kernel
theorem d_Mo_tableIs_194 : decode b_Mo_tableIs 194 = .ok (.iinc 9 1, 3) := by decide +kernel
theorem d_Mo_tableIs_197 : decode b_Mo_tableIs 197 = .ok (.goto (-41), 3) := by decide +kernel
theorem d_Mo_tableIs_178 : decode b_Mo_tableIs 178 = .ok (.iload 9, 2) := by decide +kernel
theorem d_Mo_tableIs_180 : decode b_Mo_tableIs 180 = .ok (.goto 7, 3) := by decide +kernel
theorem d_Mo_tableIs_103 : decode b_Mo_tableIs 103 = .ok (.iload 6, 2) := by decide +kernel
theorem d_Mo_tableIs_105 : decode b_Mo_tableIs 105 = .ok (.ifCond .ne 29, 3) := by decide +kernel
theorem d_Mo_tableIs_59 : decode b_Mo_tableIs 59 = .ok (.iload 6, 2) := by decide +kernel
theorem d_Mo_tableIs_61 : decode b_Mo_tableIs 61 = .ok (.ifCond .ne 7, 3) := by decide +kernel
theorem d_Mo_tableIs_68 : decode b_Mo_tableIs 68 = .ok (.aload_n 0, 1) := by decide +kernel
theorem d_Mo_tableIs_69 : decode b_Mo_tableIs 69 = .ok (.getfield 78, 3) := by decide +kernel
theorem d_Mo_tableIs_72 : decode b_Mo_tableIs 72 = .ok (.iload 6, 2) := by decide +kernel
theorem d_Mo_tableIs_74 : decode b_Mo_tableIs 74 = .ok (.laload, 1) := by decide +kernel
theorem d_Mo_tableIs_75 : decode b_Mo_tableIs 75 = .ok (.invokestatic 165, 3) := by decide +kernel
theorem d_Mo_tableIs_64 : decode b_Mo_tableIs 64 = .ok (.iconst 1, 1) := by decide +kernel
theorem d_Mo_tableIs_65 : decode b_Mo_tableIs 65 = .ok (.goto 13, 3) := by decide +kernel
theorem d_Mo_tableIs_56 : decode b_Mo_tableIs 56 = .ok (.goto 248, 3) := by decide +kernel
theorem d_Mo_isRead_0 : decode b_Mo_isRead 0 = .ok (.iload_n 1, 1) := by decide +kernel
theorem d_Mo_isRead_1 : decode b_Mo_isRead 1 = .ok (.bipush 16, 2) := by decide +kernel
theorem d_Mo_isRead_3 : decode b_Mo_isRead 3 = .ok (.iadd, 1) := by decide +kernel
theorem d_Mo_isRead_4 : decode b_Mo_isRead 4 = .ok (.istore_n 2, 1) := by decide +kernel
theorem d_Mo_isRead_5 : decode b_Mo_isRead 5 = .ok (.iload_n 2, 1) := by decide +kernel
theorem d_Mo_isRead_6 : decode b_Mo_isRead 6 = .ok (.iload_n 1, 1) := by decide +kernel
theorem d_Mo_isRead_7 : decode b_Mo_isRead 7 = .ok (.bipush 20, 2) := by decide +kernel
theorem d_Mo_isRead_9 : decode b_Mo_isRead 9 = .ok (.iadd, 1) := by decide +kernel
theorem d_Mo_isRead_10 : decode b_Mo_isRead 10 = .ok (.if_icmp .ge 27, 3) := by decide +kernel
theorem d_Mo_isRead_37 : decode b_Mo_isRead 37 = .ok (.aload_n 0, 1) := by decide +kernel
theorem d_Mo_isRead_38 : decode b_Mo_isRead 38 = .ok (.iload_n 1, 1) := by decide +kernel
theorem d_Mo_isRead_39 : decode b_Mo_isRead 39 = .ok (.bipush 16, 2) := by decide +kernel
theorem d_Mo_isRead_41 : decode b_Mo_isRead 41 = .ok (.iadd, 1) := by decide +kernel
theorem d_Mo_isRead_42 : decode b_Mo_isRead 42 = .ok (.iconst 1, 1) := by decide +kernel
theorem d_Mo_isRead_43 : decode b_Mo_isRead 43 = .ok (.invokevirtual 289, 3) := by decide +kernel
theorem d_Mo_isRead_46 : decode b_Mo_isRead 46 = .ok (.ifCond .ne 16, 3) := by decide +kernel
theorem d_Mo_isRead_62 : decode b_Mo_isRead 62 = .ok (.aload_n 0, 1) := by decide +kernel
theorem d_Mo_isRead_63 : decode b_Mo_isRead 63 = .ok (.iload_n 1, 1) := by decide +kernel
theorem d_Mo_isRead_64 : decode b_Mo_isRead 64 = .ok (.bipush 17, 2) := by decide +kernel
theorem d_Mo_isRead_66 : decode b_Mo_isRead 66 = .ok (.iadd, 1) := by decide +kernel
theorem d_Mo_isRead_67 : decode b_Mo_isRead 67 = .ok (.sipush 255, 3) := by decide +kernel
theorem d_Mo_isRead_70 : decode b_Mo_isRead 70 = .ok (.invokevirtual 289, 3) := by decide +kernel
theorem d_Mo_isRead_73 : decode b_Mo_isRead 73 = .ok (.ifCond .ne 16, 3) := by decide +kernel
theorem d_Mo_isRead_89 : decode b_Mo_isRead 89 = .ok (.sipush 2048, 3) := by decide +kernel
theorem d_Mo_isRead_92 : decode b_Mo_isRead 92 = .ok (.iload_n 1, 1) := by decide +kernel
theorem d_Mo_isRead_93 : decode b_Mo_isRead 93 = .ok (.bipush 16, 2) := by decide +kernel
theorem d_Mo_isRead_95 : decode b_Mo_isRead 95 = .ok (.iadd, 1) := by decide +kernel
theorem d_Mo_isRead_96 : decode b_Mo_isRead 96 = .ok (.imul, 1) := by decide +kernel
theorem d_Mo_isRead_97 : decode b_Mo_isRead 97 = .ok (.istore_n 2, 1) := by decide +kernel
theorem d_Mo_isRead_98 : decode b_Mo_isRead 98 = .ok (.aload_n 0, 1) := by decide +kernel
theorem d_Mo_isRead_99 : decode b_Mo_isRead 99 = .ok (.iload_n 2, 1) := by decide +kernel
theorem d_Mo_isRead_100 : decode b_Mo_isRead 100 = .ok (.sipush 128, 3) := by decide +kernel
theorem d_Mo_isRead_103 : decode b_Mo_isRead 103 = .ok (.iadd, 1) := by decide +kernel
theorem d_Mo_isRead_104 : decode b_Mo_isRead 104 = .ok (.iconst 2, 1) := by decide +kernel
theorem d_Mo_isRead_105 : decode b_Mo_isRead 105 = .ok (.invokevirtual 266, 3) := by decide +kernel
theorem d_Mo_isRead_108 : decode b_Mo_isRead 108 = .ok (.sipush 2048, 3) := by decide +kernel
theorem d_Mo_isRead_111 : decode b_Mo_isRead 111 = .ok (.if_icmp .ne 19, 3) := by decide +kernel
theorem d_Mo_isRead_130 : decode b_Mo_isRead 130 = .ok (.aload_n 0, 1) := by decide +kernel
theorem d_Mo_isRead_131 : decode b_Mo_isRead 131 = .ok (.iload_n 2, 1) := by decide +kernel
theorem d_Mo_isRead_132 : decode b_Mo_isRead 132 = .ok (.sipush 128, 3) := by decide +kernel
theorem d_Mo_isRead_135 : decode b_Mo_isRead 135 = .ok (.iadd, 1) := by decide +kernel
theorem d_Mo_isRead_136 : decode b_Mo_isRead 136 = .ok (.invokevirtual 263, 3) := by decide +kernel
theorem d_Mo_isRead_139 : decode b_Mo_isRead 139 = .ok (.ireturn, 1) := by decide +kernel
theorem d_Mo_isRead_114 : decode b_Mo_isRead 114 = .ok (.aload_n 0, 1) := by decide +kernel
theorem d_Mo_isRead_115 : decode b_Mo_isRead 115 = .ok (.iload_n 2, 1) := by decide +kernel
theorem d_Mo_isRead_116 : decode b_Mo_isRead 116 = .ok (.sipush 130, 3) := by decide +kernel
theorem d_Mo_isRead_119 : decode b_Mo_isRead 119 = .ok (.iadd, 1) := by decide +kernel
theorem d_Mo_isRead_120 : decode b_Mo_isRead 120 = .ok (.iconst 2, 1) := by decide +kernel
theorem d_Mo_isRead_121 : decode b_Mo_isRead 121 = .ok (.invokevirtual 269, 3) := by decide +kernel
theorem d_Mo_isRead_124 : decode b_Mo_isRead 124 = .ok (.sipush 2048, 3) := by decide +kernel
theorem d_Mo_isRead_127 : decode b_Mo_isRead 127 = .ok (.if_icmp .eq 13, 3) := by decide +kernel
theorem d_Mo_isRead_140 : decode b_Mo_isRead 140 = .ok (.aload_n 0, 1) := by decide +kernel
theorem d_Mo_isRead_141 : decode b_Mo_isRead 141 = .ok (.iload_n 2, 1) := by decide +kernel
theorem d_Mo_isRead_142 : decode b_Mo_isRead 142 = .ok (.sipush 132, 3) := by decide +kernel
theorem d_Mo_isRead_145 : decode b_Mo_isRead 145 = .ok (.iadd, 1) := by decide +kernel
theorem d_Mo_isRead_146 : decode b_Mo_isRead 146 = .ok (.iconst 4, 1) := by decide +kernel
theorem d_Mo_isRead_147 : decode b_Mo_isRead 147 = .ok (.invokevirtual 266, 3) := by decide +kernel
theorem d_Mo_isRead_150 : decode b_Mo_isRead 150 = .ok (.istore_n 3, 1) := by decide +kernel
theorem d_Mo_isRead_151 : decode b_Mo_isRead 151 = .ok (.iload_n 3, 1) := by decide +kernel
theorem d_Mo_isRead_152 : decode b_Mo_isRead 152 = .ok (.aload_n 0, 1) := by decide +kernel
theorem d_Mo_isRead_153 : decode b_Mo_isRead 153 = .ok (.iload_n 2, 1) := by decide +kernel
theorem d_Mo_isRead_154 : decode b_Mo_isRead 154 = .ok (.sipush 136, 3) := by decide +kernel
theorem d_Mo_isRead_157 : decode b_Mo_isRead 157 = .ok (.iadd, 1) := by decide +kernel
theorem d_Mo_isRead_158 : decode b_Mo_isRead 158 = .ok (.iconst 4, 1) := by decide +kernel
theorem d_Mo_isRead_159 : decode b_Mo_isRead 159 = .ok (.invokevirtual 269, 3) := by decide +kernel
theorem d_Mo_isRead_162 : decode b_Mo_isRead 162 = .ok (.if_icmp .ne 14, 3) := by decide +kernel
theorem d_Mo_isRead_176 : decode b_Mo_isRead 176 = .ok (.aload_n 0, 1) := by decide +kernel
theorem d_Mo_isRead_177 : decode b_Mo_isRead 177 = .ok (.iload_n 2, 1) := by decide +kernel
theorem d_Mo_isRead_178 : decode b_Mo_isRead 178 = .ok (.sipush 132, 3) := by decide +kernel
theorem d_Mo_isRead_181 : decode b_Mo_isRead 181 = .ok (.iadd, 1) := by decide +kernel
theorem d_Mo_isRead_182 : decode b_Mo_isRead 182 = .ok (.invokevirtual 263, 3) := by decide +kernel
theorem d_Mo_isRead_185 : decode b_Mo_isRead 185 = .ok (.ireturn, 1) := by decide +kernel
theorem d_Mo_isRead_165 : decode b_Mo_isRead 165 = .ok (.iload_n 3, 1) := by decide +kernel
theorem d_Mo_isRead_166 : decode b_Mo_isRead 166 = .ok (.ifCond .lt 10, 3) := by decide +kernel
theorem d_Mo_isRead_169 : decode b_Mo_isRead 169 = .ok (.iload_n 3, 1) := by decide +kernel
theorem d_Mo_isRead_170 : decode b_Mo_isRead 170 = .ok (.sipush 2048, 3) := by decide +kernel
theorem d_Mo_isRead_173 : decode b_Mo_isRead 173 = .ok (.if_icmp .le 13, 3) := by decide +kernel
theorem d_Mo_isRead_186 : decode b_Mo_isRead 186 = .ok (.aload_n 0, 1) := by decide +kernel
theorem d_Mo_isRead_187 : decode b_Mo_isRead 187 = .ok (.iload_n 2, 1) := by decide +kernel
theorem d_Mo_isRead_188 : decode b_Mo_isRead 188 = .ok (.sipush 140, 3) := by decide +kernel
theorem d_Mo_isRead_191 : decode b_Mo_isRead 191 = .ok (.iadd, 1) := by decide +kernel
theorem d_Mo_isRead_192 : decode b_Mo_isRead 192 = .ok (.iconst 4, 1) := by decide +kernel
theorem d_Mo_isRead_193 : decode b_Mo_isRead 193 = .ok (.invokevirtual 266, 3) := by decide +kernel
theorem d_Mo_isRead_196 : decode b_Mo_isRead 196 = .ok (.iload_n 1, 1) := by decide +kernel
theorem d_Mo_isRead_197 : decode b_Mo_isRead 197 = .ok (.bipush 18, 2) := by decide +kernel
theorem d_Mo_isRead_199 : decode b_Mo_isRead 199 = .ok (.iadd, 1) := by decide +kernel
theorem d_Mo_isRead_200 : decode b_Mo_isRead 200 = .ok (.if_icmp .eq 13, 3) := by decide +kernel
theorem d_Mo_isRead_213 : decode b_Mo_isRead 213 = .ok (.aload_n 0, 1) := by decide +kernel
theorem d_Mo_isRead_214 : decode b_Mo_isRead 214 = .ok (.iload_n 2, 1) := by decide +kernel
theorem d_Mo_isRead_215 : decode b_Mo_isRead 215 = .ok (.sipush 148, 3) := by decide +kernel
theorem d_Mo_isRead_218 : decode b_Mo_isRead 218 = .ok (.iadd, 1) := by decide +kernel
theorem d_Mo_isRead_219 : decode b_Mo_isRead 219 = .ok (.iconst 4, 1) := by decide +kernel
theorem d_Mo_isRead_220 : decode b_Mo_isRead 220 = .ok (.invokevirtual 269, 3) := by decide +kernel
theorem d_Mo_isRead_223 : decode b_Mo_isRead 223 = .ok (.iload_n 1, 1) := by decide +kernel
theorem d_Mo_isRead_224 : decode b_Mo_isRead 224 = .ok (.bipush 19, 2) := by decide +kernel
theorem d_Mo_isRead_226 : decode b_Mo_isRead 226 = .ok (.iadd, 1) := by decide +kernel
theorem d_Mo_isRead_227 : decode b_Mo_isRead 227 = .ok (.if_icmp .eq 13, 3) := by decide +kernel
theorem d_Mo_isRead_240 : decode b_Mo_isRead 240 = .ok (.aload_n 0, 1) := by decide +kernel
theorem d_Mo_isRead_241 : decode b_Mo_isRead 241 = .ok (.iload_n 2, 1) := by decide +kernel
theorem d_Mo_isRead_242 : decode b_Mo_isRead 242 = .ok (.sipush 156, 3) := by decide +kernel
theorem d_Mo_isRead_245 : decode b_Mo_isRead 245 = .ok (.iadd, 1) := by decide +kernel
theorem d_Mo_isRead_246 : decode b_Mo_isRead 246 = .ok (.iconst 0, 1) := by decide +kernel
theorem d_Mo_isRead_247 : decode b_Mo_isRead 247 = .ok (.invokevirtual 292, 3) := by decide +kernel
theorem d_Mo_isRead_250 : decode b_Mo_isRead 250 = .ok (.ifCond .ne 5, 3) := by decide +kernel
theorem d_Mo_isRead_255 : decode b_Mo_isRead 255 = .ok (.aload_n 0, 1) := by decide +kernel
theorem d_Mo_isRead_256 : decode b_Mo_isRead 256 = .ok (.iconst 0, 1) := by decide +kernel
theorem d_Mo_isRead_257 : decode b_Mo_isRead 257 = .ok (.iconst (-1), 1) := by decide +kernel
theorem d_Mo_isRead_258 : decode b_Mo_isRead 258 = .ok (.iload_n 2, 1) := by decide +kernel
theorem d_Mo_isRead_259 : decode b_Mo_isRead 259 = .ok (.sipush 156, 3) := by decide +kernel
theorem d_Mo_isRead_262 : decode b_Mo_isRead 262 = .ok (.iadd, 1) := by decide +kernel
theorem d_Mo_isRead_263 : decode b_Mo_isRead 263 = .ok (.iconst 1, 1) := by decide +kernel
theorem d_Mo_isRead_264 : decode b_Mo_isRead 264 = .ok (.invokevirtual 295, 3) := by decide +kernel
theorem d_Mo_isRead_267 : decode b_Mo_isRead 267 = .ok (.aload_n 0, 1) := by decide +kernel
theorem d_Mo_isRead_268 : decode b_Mo_isRead 268 = .ok (.iconst 1, 1) := by decide +kernel
theorem d_Mo_isRead_269 : decode b_Mo_isRead 269 = .ok (.putfield 283, 3) := by decide +kernel
theorem d_Mo_isRead_272 : decode b_Mo_isRead 272 = .ok (.iconst 0, 1) := by decide +kernel
theorem d_Mo_isRead_273 : decode b_Mo_isRead 273 = .ok (.istore 4, 2) := by decide +kernel
theorem d_Mo_isRead_275 : decode b_Mo_isRead 275 = .ok (.iload 4, 2) := by decide +kernel
theorem d_Mo_isRead_277 : decode b_Mo_isRead 277 = .ok (.aload_n 0, 1) := by decide +kernel
theorem d_Mo_isRead_278 : decode b_Mo_isRead 278 = .ok (.getfield 283, 3) := by decide +kernel
theorem d_Mo_isRead_281 : decode b_Mo_isRead 281 = .ok (.if_icmp .ge 30, 3) := by decide +kernel
theorem d_Mo_isRead_311 : decode b_Mo_isRead 311 = .ok (.aload_n 0, 1) := by decide +kernel
theorem d_Mo_isRead_312 : decode b_Mo_isRead 312 = .ok (.iload_n 1, 1) := by decide +kernel
theorem d_Mo_isRead_313 : decode b_Mo_isRead 313 = .ok (.bipush 18, 2) := by decide +kernel
theorem d_Mo_isRead_315 : decode b_Mo_isRead 315 = .ok (.iadd, 1) := by decide +kernel
theorem d_Mo_isRead_316 : decode b_Mo_isRead 316 = .ok (.invokevirtual 302, 3) := by decide +kernel
theorem d_Mo_isRead_319 : decode b_Mo_isRead 319 = .ok (.istore 4, 2) := by decide +kernel
theorem d_Mo_isRead_321 : decode b_Mo_isRead 321 = .ok (.iload 4, 2) := by decide +kernel
theorem d_Mo_isRead_323 : decode b_Mo_isRead 323 = .ok (.ifCond .ge 5, 3) := by decide +kernel
theorem d_Mo_isRead_328 : decode b_Mo_isRead 328 = .ok (.iload 4, 2) := by decide +kernel
theorem d_Mo_isRead_330 : decode b_Mo_isRead 330 = .ok (.iload_n 3, 1) := by decide +kernel
theorem d_Mo_isRead_331 : decode b_Mo_isRead 331 = .ok (.if_icmp .eq 15, 3) := by decide +kernel
theorem d_Mo_isRead_346 : decode b_Mo_isRead 346 = .ok (.iconst 1, 1) := by decide +kernel
theorem d_Mo_isRead_347 : decode b_Mo_isRead 347 = .ok (.goto 4, 3) := by decide +kernel
theorem d_Mo_isRead_351 : decode b_Mo_isRead 351 = .ok (.ireturn, 1) := by decide +kernel
theorem d_Mo_isRead_334 : decode b_Mo_isRead 334 = .ok (.aload_n 0, 1) := by decide +kernel
theorem d_Mo_isRead_335 : decode b_Mo_isRead 335 = .ok (.iload_n 2, 1) := by decide +kernel
theorem d_Mo_isRead_336 : decode b_Mo_isRead 336 = .ok (.sipush 132, 3) := by decide +kernel
theorem d_Mo_isRead_339 : decode b_Mo_isRead 339 = .ok (.iadd, 1) := by decide +kernel
theorem d_Mo_isRead_340 : decode b_Mo_isRead 340 = .ok (.invokevirtual 263, 3) := by decide +kernel
theorem d_Mo_isRead_343 : decode b_Mo_isRead 343 = .ok (.ifCond .eq 7, 3) := by decide +kernel
theorem d_Mo_isRead_350 : decode b_Mo_isRead 350 = .ok (.iconst 0, 1) := by decide +kernel
theorem d_Mo_isRead_326 : decode b_Mo_isRead 326 = .ok (.iconst 0, 1) := by decide +kernel
theorem d_Mo_isRead_327 : decode b_Mo_isRead 327 = .ok (.ireturn, 1) := by decide +kernel
theorem d_Mo_isRead_284 : decode b_Mo_isRead 284 = .ok (.aload_n 0, 1) := by decide +kernel
theorem d_Mo_isRead_285 : decode b_Mo_isRead 285 = .ok (.getfield 69, 3) := by decide +kernel
theorem d_Mo_isRead_288 : decode b_Mo_isRead 288 = .ok (.iload 4, 2) := by decide +kernel
theorem d_Mo_isRead_290 : decode b_Mo_isRead 290 = .ok (.baload, 1) := by decide +kernel
theorem d_Mo_isRead_291 : decode b_Mo_isRead 291 = .ok (.ifCond .eq 14, 3) := by decide +kernel
theorem d_Mo_isRead_305 : decode b_Mo_isRead 305 = .ok (.iinc 4 1, 3) := by decide +kernel
theorem d_Mo_isRead_308 : decode b_Mo_isRead 308 = .ok (.goto (-33), 3) := by decide +kernel
theorem d_Mo_isRead_294 : decode b_Mo_isRead 294 = .ok (.aload_n 0, 1) := by decide +kernel
theorem d_Mo_isRead_295 : decode b_Mo_isRead 295 = .ok (.iload 4, 2) := by decide +kernel
theorem d_Mo_isRead_297 : decode b_Mo_isRead 297 = .ok (.invokevirtual 299, 3) := by decide +kernel
theorem d_Mo_isRead_300 : decode b_Mo_isRead 300 = .ok (.ifCond .ne 5, 3) := by decide +kernel
theorem d_Mo_isRead_303 : decode b_Mo_isRead 303 = .ok (.iconst 0, 1) := by decide +kernel
theorem d_Mo_isRead_304 : decode b_Mo_isRead 304 = .ok (.ireturn, 1) := by decide +kernel
theorem d_Mo_isRead_253 : decode b_Mo_isRead 253 = .ok (.iconst 0, 1) := by decide +kernel
theorem d_Mo_isRead_254 : decode b_Mo_isRead 254 = .ok (.ireturn, 1) := by decide +kernel
theorem d_Mo_isRead_230 : decode b_Mo_isRead 230 = .ok (.aload_n 0, 1) := by decide +kernel
theorem d_Mo_isRead_231 : decode b_Mo_isRead 231 = .ok (.iload_n 2, 1) := by decide +kernel
theorem d_Mo_isRead_232 : decode b_Mo_isRead 232 = .ok (.sipush 148, 3) := by decide +kernel
theorem d_Mo_isRead_235 : decode b_Mo_isRead 235 = .ok (.iadd, 1) := by decide +kernel
theorem d_Mo_isRead_236 : decode b_Mo_isRead 236 = .ok (.invokevirtual 263, 3) := by decide +kernel
theorem d_Mo_isRead_239 : decode b_Mo_isRead 239 = .ok (.ireturn, 1) := by decide +kernel
theorem d_Mo_isRead_203 : decode b_Mo_isRead 203 = .ok (.aload_n 0, 1) := by decide +kernel
theorem d_Mo_isRead_204 : decode b_Mo_isRead 204 = .ok (.iload_n 2, 1) := by decide +kernel
theorem d_Mo_isRead_205 : decode b_Mo_isRead 205 = .ok (.sipush 140, 3) := by decide +kernel
theorem d_Mo_isRead_208 : decode b_Mo_isRead 208 = .ok (.iadd, 1) := by decide +kernel
theorem d_Mo_isRead_209 : decode b_Mo_isRead 209 = .ok (.invokevirtual 263, 3) := by decide +kernel
theorem d_Mo_isRead_212 : decode b_Mo_isRead 212 = .ok (.ireturn, 1) := by decide +kernel
theorem d_Mo_isRead_76 : decode b_Mo_isRead 76 = .ok (.aload_n 0, 1) := by decide +kernel
theorem d_Mo_isRead_77 : decode b_Mo_isRead 77 = .ok (.sipush 2048, 3) := by decide +kernel
theorem d_Mo_isRead_80 : decode b_Mo_isRead 80 = .ok (.iload_n 1, 1) := by decide +kernel
theorem d_Mo_isRead_81 : decode b_Mo_isRead 81 = .ok (.bipush 17, 2) := by decide +kernel
theorem d_Mo_isRead_83 : decode b_Mo_isRead 83 = .ok (.iadd, 1) := by decide +kernel
theorem d_Mo_isRead_84 : decode b_Mo_isRead 84 = .ok (.imul, 1) := by decide +kernel
theorem d_Mo_isRead_85 : decode b_Mo_isRead 85 = .ok (.invokevirtual 263, 3) := by decide +kernel
theorem d_Mo_isRead_88 : decode b_Mo_isRead 88 = .ok (.ireturn, 1) := by decide +kernel
theorem d_Mo_isRead_49 : decode b_Mo_isRead 49 = .ok (.aload_n 0, 1) := by decide +kernel
theorem d_Mo_isRead_50 : decode b_Mo_isRead 50 = .ok (.sipush 2048, 3) := by decide +kernel
theorem d_Mo_isRead_53 : decode b_Mo_isRead 53 = .ok (.iload_n 1, 1) := by decide +kernel
theorem d_Mo_isRead_54 : decode b_Mo_isRead 54 = .ok (.bipush 16, 2) := by decide +kernel
theorem d_Mo_isRead_56 : decode b_Mo_isRead 56 = .ok (.iadd, 1) := by decide +kernel
theorem d_Mo_isRead_57 : decode b_Mo_isRead 57 = .ok (.imul, 1) := by decide +kernel
theorem d_Mo_isRead_58 : decode b_Mo_isRead 58 = .ok (.invokevirtual 263, 3) := by decide +kernel
theorem d_Mo_isRead_61 : decode b_Mo_isRead 61 = .ok (.ireturn, 1) := by decide +kernel
theorem d_Mo_isRead_13 : decode b_Mo_isRead 13 = .ok (.aload_n 0, 1) := by decide +kernel
theorem d_Mo_isRead_14 : decode b_Mo_isRead 14 = .ok (.iload_n 2, 1) := by decide +kernel
theorem d_Mo_isRead_15 : decode b_Mo_isRead 15 = .ok (.invokevirtual 260, 3) := by decide +kernel
theorem d_Mo_isRead_18 : decode b_Mo_isRead 18 = .ok (.ifCond .ne 13, 3) := by decide +kernel
theorem d_Mo_isRead_21 : decode b_Mo_isRead 21 = .ok (.aload_n 0, 1) := by decide +kernel
theorem d_Mo_isRead_22 : decode b_Mo_isRead 22 = .ok (.sipush 2048, 3) := by decide +kernel
theorem d_Mo_isRead_25 : decode b_Mo_isRead 25 = .ok (.iload_n 2, 1) := by decide +kernel
theorem d_Mo_isRead_26 : decode b_Mo_isRead 26 = .ok (.imul, 1) := by decide +kernel
theorem d_Mo_isRead_27 : decode b_Mo_isRead 27 = .ok (.invokevirtual 263, 3) := by decide +kernel
theorem d_Mo_isRead_30 : decode b_Mo_isRead 30 = .ok (.ireturn, 1) := by decide +kernel
theorem d_Mo_isRead_31 : decode b_Mo_isRead 31 = .ok (.iinc 2 1, 3) := by decide +kernel
theorem d_Mo_isRead_34 : decode b_Mo_isRead 34 = .ok (.goto (-29), 3) := by decide +kernel
theorem d_Mo_look_0 : decode b_Mo_look 0 = .ok (.aload_n 0, 1) := by decide +kernel
theorem d_Mo_look_1 : decode b_Mo_look 1 = .ok (.iconst 0, 1) := by decide +kernel
theorem d_Mo_look_2 : decode b_Mo_look 2 = .ok (.putfield 283, 3) := by decide +kernel
theorem d_Mo_look_5 : decode b_Mo_look 5 = .ok (.aload_n 0, 1) := by decide +kernel
theorem d_Mo_look_6 : decode b_Mo_look 6 = .ok (.iload_n 1, 1) := by decide +kernel
theorem d_Mo_look_7 : decode b_Mo_look 7 = .ok (.invokevirtual 286, 3) := by decide +kernel
theorem d_Mo_look_10 : decode b_Mo_look 10 = .ok (.ifCond .eq 10, 3) := by decide +kernel
theorem d_Mo_look_20 : decode b_Mo_look 20 = .ok (.iconst (-1), 1) := by decide +kernel
theorem d_Mo_look_21 : decode b_Mo_look 21 = .ok (.aload_n 0, 1) := by decide +kernel
theorem d_Mo_look_22 : decode b_Mo_look 22 = .ok (.getfield 257, 3) := by decide +kernel
theorem d_Mo_look_25 : decode b_Mo_look 25 = .ok (.isub, 1) := by decide +kernel
theorem d_Mo_look_26 : decode b_Mo_look 26 = .ok (.ireturn, 1) := by decide +kernel
theorem d_Mo_look_13 : decode b_Mo_look 13 = .ok (.aload_n 0, 1) := by decide +kernel
theorem d_Mo_look_14 : decode b_Mo_look 14 = .ok (.getfield 283, 3) := by decide +kernel
theorem d_Mo_look_17 : decode b_Mo_look 17 = .ok (.goto 9, 3) := by decide +kernel
set_option maxHeartbeats 4000000 in
set_option maxRecDepth 100000 in
theorem m_expect (l : Launch) (D : va_G) (t : Nat → ClassId) (G : hG) (ak av : Nat → Nat) (h : hM) (τ : tM) (n : Nat) (m9 : Nat) (p9 : Int32) (v9 : Int32) (A : Nat → Nat) (th sd lo le wr ma nu di pl se wg op : Int32) (hn : n ≤ 200) (hT : TI τ t n h) (T_m9 : τ m9 = (20, 0)) (F_m9 : h m9 = some (.inr (9, mf A n th sd lo le wr ma nu di pl se wg op))) (hA : ∀ i, i < 28 → τ (A i) = (30, i)) (hmk : mOk sd lo ma se op) (hp0 : 0 ≤ p9.toInt) (hp1 : p9.toInt < 409600) : Met l y_Mo_expect (.code y_Mo_expect b_Mo_expect 3 (some .int) :: lw_g) { frames := 1, cells := 0, slots := 0, locals := 21 } (hP (kE D t G ak av) D vwCl G h [.ref m9, .int p9, .int v9]) (hQi D vwCl G (fun r h' => TI τ t n h' ∧ kf τ [] [m9] h h' ∧ (∃ (wg' : Int32), h' m9 = some (.inr (9, mf A n th sd lo le wr ma nu di pl se wg' op)) ∧ mOk sd lo ma se op ∧ r.toInt = p9.toInt + 1))) 0 0 G.P := by
  refine Met.ofW (cc := b_Mo_expect) (maxL := 3) (ret := (some .int)) (by decide) rfl ?_
  intro p e s m args below meth c s₁ Bd hml hv
  obtain ⟨ha, hE, hH⟩ := hv
  have hx := Bd.exec
  have hb := Bd.bytes
  have hr := Bd.returns
  have hts : ∀ w ∈ lw_g, w.before args s = true := fun w hw => atoms_spec (ws := (.code y_Mo_expect b_Mo_expect 3 (some .int) :: lw_g)) Bd.pre w (List.mem_cons_of_mem _ hw)
  have hown : s.vm.findClass R_Mo = some m.cls := findClass_of_methodNamed Bd.named
  have hlocks := Bd.notSynchronized
  have hK := hE.1
  have hH0 := hH
  have hLo : hLc G.P [] := hLc_nil
  have hz : s.heap.size ≤ s.heap.size := Nat.le_refl _
  have hl := lv_entry [.ref m9, .int p9, .int v9] (n := 3) (Nat.le_of_ble_eq_true rfl)
  rw [show entryFrame m args 3 = F0 m 0 ((lg_sl [.ref m9, .int p9, .int v9] ++ List.replicate (3 - (lg_sl [.ref m9, .int p9, .int v9]).length) Slot.unset).toArray) [] from (by rw [ha]; exact lg_entry_eq m [.ref m9, .int p9, .int v9] 3)]
  generalize (lg_sl [.ref m9, .int p9, .int v9] ++ List.replicate (3 - (lg_sl [.ref m9, .int p9, .int v9]).length) Slot.unset).toArray = ls at hl ⊢
  have hl : lv_has ls 3 [(0, .ref m9), (1, .int p9), (2, .int v9)] := hl
  have hkf : kf τ [] [m9] h h := kf_rf
  obtain ⟨hsd, hlo, hma, hse, hop⟩ := id hmk
  have inI : (nI n).toInt = n := nI_toInt (by omega)
  refine lv_aload_n hx hb d_Mo_expect_0 rfl (lv_at hl 0 rfl) ?_
  refine hm_get (ci := 9) (v := .int wg) (C := R_Mo) (T := F_Mo) (N := 41) hx hb hts ig_Mo hown hK hH F_m9 rfl 28 (by decide) (hts _ mw_733) (fun _ h9 => h9) rfl d_Mo_expect_1 ?_
  refine lv_if_ge (tgt := 25) hx hb d_Mo_expect_4 (by decide) (fun hc_1 => ?_) (fun hc_1 => ?_)
  · skip
    have ic_2 : 0 ≤ wg.toInt := iLe hc_1
    refine lv_iload_n hx hb d_Mo_expect_25 rfl (lv_at hl 1 rfl) ?_
    refine lv_iconst (v := 1) hx hb d_Mo_expect_26 (by decide) ?_
    refine lv_iadd hx hb d_Mo_expect_27 ?_
    refine lv_topi (fun v_3 e_4 => ?_)
    have is_5 : v_3.toInt = p9.toInt + 1 := by rw [e_4]; exact iAddK 1 rfl (by omega) (by omega)
    exact W.iret (v := v_3) hx hb hr (fun t9 ht hW => ⟨v_3, h, rfl, ⟨hT, hkf, ⟨wg, F_m9, ⟨hsd, hlo, (by omega), ⟨by omega, by omega⟩, ⟨by omega, by omega⟩⟩, (by omega)⟩⟩, by rw [ht]; exact hH, by rw [ht]; exact hz⟩) hLo d_Mo_expect_28
  · skip
    have ic_6 : wg.toInt < 0 := iNe hc_1
    refine lv_aload_n hx hb d_Mo_expect_7 rfl (lv_at hl 0 rfl) ?_
    refine lv_iload_n hx hb d_Mo_expect_8 rfl (lv_at hl 1 rfl) ?_
    refine hm_callPi (va_runV (As := [.int p9]) (b := m9) (rest := []) ⟨hx, hb, hml, hown, hts⟩ (m_get l D t G ak av h τ n m9 p9 A th sd lo le wr ma nu di pl se wg op   hn hT T_m9  F_m9 hA ⟨hsd, hlo, (by omega), ⟨by omega, by omega⟩, ⟨by omega, by omega⟩⟩ (by omega) (by omega)) ⟨cw9B 1 hts mw_698 mw_699 mw_579 rfl rfl (by decide +kernel) ⟨Nat.le_of_ble_eq_true rfl, Nat.le_of_ble_eq_true rfl⟩, hts _ mw_700, hts _ mw_701⟩ (hP_V (q := (R_Mo, F_Mo, 41)) kE_ok hE hK hH F_m9 rfl) rfl rfl hl.1 rfl (lv_room (Nat.le_of_ble_eq_true rfl)) d_Mo_expect_9 ⟨Nat.le_of_ble_eq_true rfl, Nat.le_of_ble_eq_true rfl⟩) (fun r_7 h_8 H_9 hp_11  hH z_10 => ?_)
    have hz : s.heap.size ≤ H_9.size := Nat.le_trans hz z_10
    obtain ⟨xp_12, rfl⟩ := hp_11
    obtain ⟨ia_13, eg_14⟩ := xp_12
    refine lv_iload_n hx hb d_Mo_expect_12 rfl (lv_at hl 2 rfl) ?_
    refine lv_sipush (v := 255) hx hb d_Mo_expect_13 (by decide) ?_
    refine lv_iand hx hb d_Mo_expect_16 ?_
    refine lv_topi (fun v_15 e_16 => ?_)
    have ia_17 : 0 ≤ v_15.toInt ∧ v_15.toInt ≤ 255 := by rw [e_16]; exact i_and8 _
    refine lv_icmp_eq (tgt := 25) hx hb d_Mo_expect_17 (by decide) (fun hc_18 => ?_) (fun hc_18 => ?_)
    · skip
      have ic_19 : r_7.toInt = v_15.toInt := congrArg Int32.toInt hc_18
      refine lv_iload_n hx hb d_Mo_expect_25 rfl (lv_at hl 1 rfl) ?_
      refine lv_iconst (v := 1) hx hb d_Mo_expect_26 (by decide) ?_
      refine lv_iadd hx hb d_Mo_expect_27 ?_
      refine lv_topi (fun v_20 e_21 => ?_)
      have is_22 : v_20.toInt = p9.toInt + 1 := by rw [e_21]; exact iAddK 1 rfl (by omega) (by omega)
      exact W.iret (v := v_20) hx hb hr (fun t9 ht hW => ⟨v_20, h, rfl, ⟨hT, hkf, ⟨wg, F_m9, ⟨hsd, hlo, (by omega), ⟨by omega, by omega⟩, ⟨by omega, by omega⟩⟩, (by omega)⟩⟩, by rw [ht]; exact hH, by rw [ht]; exact hz⟩) hLo d_Mo_expect_28
    · skip
      refine lv_aload_n hx hb d_Mo_expect_20 rfl (lv_at hl 0 rfl) ?_
      refine lv_iload_n hx hb d_Mo_expect_21 rfl (lv_at hl 1 rfl) ?_
      refine hm_put (ci := 9) (v := .int p9) (ty := .int) (C := R_Mo) (T := F_Mo) (N := 41) hx hb hts ig_Mo t_Mo tk_Mo nm_Mo hown hK hH hLo F_m9 rfl 28 (by decide) (hts _ mw_733) (fun _ h9 => h9) rfl (by decide +kernel) rfl rfl (Nat.le_of_ble_eq_true rfl) d_Mo_expect_22 (fun H_23 locs hH z_24 hLo => ?_)
      have hz : s.heap.size ≤ H_23.size := by rw [z_24]; exact hz
      obtain ⟨h_25, e_26⟩ : ∃ z, z = hu h m9 (.inr (9, mf A n th sd lo le wr ma nu di pl se p9 op)) := ⟨_, rfl⟩
      have hH : hm D vwCl G h_25 H_23 := by rw [e_26]; exact hH
      have F_m9 : h_25 m9 = some (.inr (9, mf A n th sd lo le wr ma nu di pl se p9 op)) := by rw [e_26]; exact hu_s _ _ _
      have hT : TI τ t n h_25 := by rw [e_26]; exact TI_put hT T_m9 (by decide) ⟨_, rfl⟩
      have hkf : kf τ [] [m9] h h_25 := by rw [e_26]; exact kf_putM hkf (by simp)
      refine lv_iload_n hx hb d_Mo_expect_25 rfl (lv_at hl 1 rfl) ?_
      refine lv_iconst (v := 1) hx hb d_Mo_expect_26 (by decide) ?_
      refine lv_iadd hx hb d_Mo_expect_27 ?_
      refine lv_topi (fun v_27 e_28 => ?_)
      have is_29 : v_27.toInt = p9.toInt + 1 := by rw [e_28]; exact iAddK 1 rfl (by omega) (by omega)
      exact W.iret (v := v_27) hx hb hr (fun t9 ht hW => ⟨v_27, h_25, rfl, ⟨hT, hkf, ⟨p9, F_m9, ⟨hsd, hlo, (by omega), ⟨by omega, by omega⟩, ⟨by omega, by omega⟩⟩, (by omega)⟩⟩, by rw [ht]; exact hH, by rw [ht]; exact hz⟩) hLo d_Mo_expect_28

set_option maxHeartbeats 4000000 in
set_option maxRecDepth 100000 in
theorem m_tableIs (l : Launch) (D : va_G) (t : Nat → ClassId) (G : hG) (ak av : Nat → Nat) (h : hM) (τ : tM) (n : Nat) (m9 : Nat) (s9 : Int32) (A : Nat → Nat) (th sd lo le wr ma nu di pl se wg op : Int32) (hn : n ≤ 200) (hT : TI τ t n h) (T_m9 : τ m9 = (20, 0)) (F_m9 : h m9 = some (.inr (9, mf A n th sd lo le wr ma nu di pl se wg op))) (hA : ∀ i, i < 28 → τ (A i) = (30, i)) (hmk : mOk sd lo ma se op) (hSq : seQ (aI h (A 17)) (aI h (A 19)) (aI h (A 20)) se.toInt.toNat n) (hs0 : 0 ≤ s9.toInt) (hs1 : s9.toInt + 1 < n) : Met l y_Mo_tableIs (.code y_Mo_tableIs b_Mo_tableIs 10 (some .int) :: lw_g) { frames := 2, cells := 0, slots := 0, locals := 44 } (hP (kE D t G ak av) D vwCl G h [.ref m9, .int s9]) (hQi D vwCl G (fun r h' => TI τ t n h' ∧ kf τ [] [m9] h h' ∧ (∃ (wg' : Int32), h' m9 = some (.inr (9, mf A n th sd lo le wr ma nu di pl se wg' op)) ∧ mOk sd lo ma se op ∧ (r.toInt < 0 → 0 ≤ wg'.toInt)))) 0 0 G.P := by
  refine Met.ofW (cc := b_Mo_tableIs) (maxL := 10) (ret := (some .int)) (by decide) rfl ?_
  intro p e s m args below meth c s₁ Bd hml hv
  obtain ⟨ha, hE, hH⟩ := hv
  have hx := Bd.exec
  have hb := Bd.bytes
  have hr := Bd.returns
  have hts : ∀ w ∈ lw_g, w.before args s = true := fun w hw => atoms_spec (ws := (.code y_Mo_tableIs b_Mo_tableIs 10 (some .int) :: lw_g)) Bd.pre w (List.mem_cons_of_mem _ hw)
  have hown : s.vm.findClass R_Mo = some m.cls := findClass_of_methodNamed Bd.named
  have hlocks := Bd.notSynchronized
  have hK := hE.1
  have hH0 := hH
  have hLo : hLc G.P [] := hLc_nil
  have hz : s.heap.size ≤ s.heap.size := Nat.le_refl _
  have hl := lv_entry [.ref m9, .int s9] (n := 10) (Nat.le_of_ble_eq_true rfl)
  rw [show entryFrame m args 10 = F0 m 0 ((lg_sl [.ref m9, .int s9] ++ List.replicate (10 - (lg_sl [.ref m9, .int s9]).length) Slot.unset).toArray) [] from (by rw [ha]; exact lg_entry_eq m [.ref m9, .int s9] 10)]
  generalize (lg_sl [.ref m9, .int s9] ++ List.replicate (10 - (lg_sl [.ref m9, .int s9]).length) Slot.unset).toArray = ls at hl ⊢
  have hl : lv_has ls 10 [(0, .ref m9), (1, .int s9)] := hl
  have hkf : kf τ [] [m9] h h := kf_rf
  obtain ⟨hsd, hlo, hma, hse, hop⟩ := id hmk
  have inI : (nI n).toInt = n := nI_toInt (by omega)
  obtain ⟨g_1, F_A17⟩ := TI_arI (L := 31) hT (hA 17 (by decide)) rfl rfl
  obtain ⟨g_2, F_A19⟩ := TI_arI (L := 31) hT (hA 19 (by decide)) rfl rfl
  obtain ⟨g_3, F_A20⟩ := TI_arI (L := 31) hT (hA 20 (by decide)) rfl rfl
  rw [aI_of F_A17, aI_of F_A19, aI_of F_A20] at hSq
  refine lv_aload_n hx hb d_Mo_tableIs_0 rfl (lv_at hl 0 rfl) ?_
  refine lv_iconst (v := -1) hx hb d_Mo_tableIs_1 (by decide) ?_
  refine hm_put (ci := 9) (v := .int (-1)) (ty := .int) (C := R_Mo) (T := F_Mo) (N := 41) hx hb hts ig_Mo t_Mo tk_Mo nm_Mo hown hK hH hLo F_m9 rfl 28 (by decide) (hts _ mw_733) (fun _ h9 => h9) rfl (by decide +kernel) rfl rfl (Nat.le_of_ble_eq_true rfl) d_Mo_tableIs_2 (fun H_4 locs hH z_5 hLo => ?_)
  have hz : s.heap.size ≤ H_4.size := by rw [z_5]; exact hz
  obtain ⟨h_6, e_7⟩ : ∃ z, z = hu h m9 (.inr (9, mf A n th sd lo le wr ma nu di pl se (-1) op)) := ⟨_, rfl⟩
  have hH : hm D vwCl G h_6 H_4 := by rw [e_7]; exact hH
  have F_A17 : h_6 (A 17) = some (.inl ((t 2), 31, .inl g_1)) := by rw [e_7, hu_n (tne (hA 17 (by decide)) T_m9 (by decide))]; exact F_A17
  have F_A19 : h_6 (A 19) = some (.inl ((t 2), 31, .inl g_2)) := by rw [e_7, hu_n (tne (hA 19 (by decide)) T_m9 (by decide))]; exact F_A19
  have F_A20 : h_6 (A 20) = some (.inl ((t 2), 31, .inl g_3)) := by rw [e_7, hu_n (tne (hA 20 (by decide)) T_m9 (by decide))]; exact F_A20
  have F_m9 : h_6 m9 = some (.inr (9, mf A n th sd lo le wr ma nu di pl se (-1) op)) := by rw [e_7]; exact hu_s _ _ _
  have hT : TI τ t n h_6 := by rw [e_7]; exact TI_put hT T_m9 (by decide) ⟨_, rfl⟩
  have hkf : kf τ [] [m9] h h_6 := by rw [e_7]; exact kf_putM hkf (by simp)
  refine lv_iconst (v := 0) hx hb d_Mo_tableIs_5 (by decide) ?_
  refine lv_istore_n (lv' := [(2, .int 0), (0, .ref m9), (1, .int s9)]) hx hb d_Mo_tableIs_6 rfl hl (by decide) rfl (fun ls hl => ?_)
  refine lv_iconst (v := 0) hx hb d_Mo_tableIs_7 (by decide) ?_
  refine lv_istore_n (lv' := [(3, .int 0), (2, .int 0), (0, .ref m9), (1, .int s9)]) hx hb d_Mo_tableIs_8 rfl hl (by decide) rfl (fun ls hl => ?_)
  refine hm_loop (fun k9 ls H locs hh9 => ∃ (to9 : Int32) (m8 : Int32) (wg9 : Int32), k9 = mU m8 ∧ lv_has ls 10 [(0, .ref m9), (1, .int s9), (2, .int to9), (3, .int m8)] ∧ hm D vwCl G hh9 H ∧ s.heap.size ≤ H.size ∧ hLc G.P locs ∧ hh9 (A 17) = some (.inl ((t 2), 31, .inl g_1)) ∧ hh9 (A 19) = some (.inl ((t 2), 31, .inl g_2)) ∧ hh9 (A 20) = some (.inl ((t 2), 31, .inl g_3)) ∧ (TI τ t n hh9) ∧ (kf τ [] [m9] h hh9) ∧ (hh9 m9 = some (.inr (9, mf A n th sd lo le wr ma nu di pl se wg9 op))) ∧ ((0 ≤ m8.toInt ∧ m8.toInt ≤ 2) ∧ 0 ≤ to9.toInt)) ?_ (hh := h_6) ⟨0, 0, (-1), rfl, (lv_sub hl [2, 3, 1, 0] rfl), hH, hz, hLo, F_A17, F_A19, F_A20, hT, hkf, F_m9, ⟨by decide, by decide⟩⟩
  rintro k9 ls H locs hh9 ⟨to9, m8, wg9, hk9, hl, hH, hz, hLo, F_A17, F_A19, F_A20, hT, hkf, F_m9, I_m8⟩ ih9
  refine lv_iload_n hx hb d_Mo_tableIs_9 rfl (lv_at hl 3 rfl) ?_
  refine lv_iconst (v := 2) hx hb d_Mo_tableIs_10 (by decide) ?_
  refine lv_icmp_ge (tgt := 322) hx hb d_Mo_tableIs_11 (by decide) (fun hc_8 => ?_) (fun hc_8 => ?_)
  · skip
    have ic_9 : 2 ≤ m8.toInt := iLe hc_8
    refine lv_aload_n hx hb d_Mo_tableIs_322 rfl (lv_at hl 0 rfl) ?_
    refine hm_get (ci := 9) (v := .int wg9) (C := R_Mo) (T := F_Mo) (N := 41) hx hb hts ig_Mo hown hK hH F_m9 rfl 28 (by decide) (hts _ mw_733) (fun _ h9 => h9) rfl d_Mo_tableIs_323 ?_
    refine lv_if_ge (tgt := 333) hx hb d_Mo_tableIs_326 (by decide) (fun hc_10 => ?_) (fun hc_10 => ?_)
    · skip
      have ic_11 : 0 ≤ wg9.toInt := iLe hc_10
      refine lv_iconst (v := -1) hx hb d_Mo_tableIs_333 (by decide) ?_
      exact W.iret (v := (-1)) hx hb hr (fun t9 ht hW => ⟨(-1), hh9, rfl, ⟨hT, hkf, ⟨wg9, F_m9, ⟨hsd, hlo, (by omega), ⟨by omega, by omega⟩, ⟨by omega, by omega⟩⟩, (fun _ => by omega)⟩⟩, by rw [ht]; exact hH, by rw [ht]; exact hz⟩) hLo d_Mo_tableIs_334
    · skip
      have ic_12 : wg9.toInt < 0 := iNe hc_10
      refine lv_iload_n hx hb d_Mo_tableIs_329 rfl (lv_at hl 2 rfl) ?_
      refine lv_goto (tgt := 334) hx hb d_Mo_tableIs_330 (by decide) ?_
      exact W.iret (v := to9) hx hb hr (fun t9 ht hW => ⟨to9, hh9, rfl, ⟨hT, hkf, ⟨wg9, F_m9, ⟨hsd, hlo, (by omega), ⟨by omega, by omega⟩, ⟨by omega, by omega⟩⟩, (fun z => absurd z (by omega))⟩⟩, by rw [ht]; exact hH, by rw [ht]; exact hz⟩) hLo d_Mo_tableIs_334
  · skip
    have ic_13 : m8.toInt < 2 := iNe hc_8
    refine lv_aload_n hx hb d_Mo_tableIs_14 rfl (lv_at hl 0 rfl) ?_
    refine hm_get (ci := 9) (v := .int wg9) (C := R_Mo) (T := F_Mo) (N := 41) hx hb hts ig_Mo hown hK hH F_m9 rfl 28 (by decide) (hts _ mw_733) (fun _ h9 => h9) rfl d_Mo_tableIs_15 ?_
    refine lv_if_ge (tgt := 322) hx hb d_Mo_tableIs_18 (by decide) (fun hc_14 => ?_) (fun hc_14 => ?_)
    · skip
      have ic_15 : 0 ≤ wg9.toInt := iLe hc_14
      refine lv_aload_n hx hb d_Mo_tableIs_322 rfl (lv_at hl 0 rfl) ?_
      refine hm_get (ci := 9) (v := .int wg9) (C := R_Mo) (T := F_Mo) (N := 41) hx hb hts ig_Mo hown hK hH F_m9 rfl 28 (by decide) (hts _ mw_733) (fun _ h9 => h9) rfl d_Mo_tableIs_323 ?_
      refine lv_if_ge (tgt := 333) hx hb d_Mo_tableIs_326 (by decide) (fun hc_16 => ?_) (fun hc_16 => ?_)
      · skip
        have ic_17 : 0 ≤ wg9.toInt := iLe hc_16
        refine lv_iconst (v := -1) hx hb d_Mo_tableIs_333 (by decide) ?_
        exact W.iret (v := (-1)) hx hb hr (fun t9 ht hW => ⟨(-1), hh9, rfl, ⟨hT, hkf, ⟨wg9, F_m9, ⟨hsd, hlo, (by omega), ⟨by omega, by omega⟩, ⟨by omega, by omega⟩⟩, (fun _ => by omega)⟩⟩, by rw [ht]; exact hH, by rw [ht]; exact hz⟩) hLo d_Mo_tableIs_334
      · skip
        have ic_18 : wg9.toInt < 0 := iNe hc_16
        refine lv_iload_n hx hb d_Mo_tableIs_329 rfl (lv_at hl 2 rfl) ?_
        refine lv_goto (tgt := 334) hx hb d_Mo_tableIs_330 (by decide) ?_
        exact W.iret (v := to9) hx hb hr (fun t9 ht hW => ⟨to9, hh9, rfl, ⟨hT, hkf, ⟨wg9, F_m9, ⟨hsd, hlo, (by omega), ⟨by omega, by omega⟩, ⟨by omega, by omega⟩⟩, (fun z => absurd z (by omega))⟩⟩, by rw [ht]; exact hH, by rw [ht]; exact hz⟩) hLo d_Mo_tableIs_334
    · skip
      have ic_19 : wg9.toInt < 0 := iNe hc_14
      refine lv_sipush (v := 2048) hx hb d_Mo_tableIs_21 (by decide) ?_
      refine lv_iload_n hx hb d_Mo_tableIs_24 rfl (lv_at hl 1 rfl) ?_
      refine lv_iload_n hx hb d_Mo_tableIs_25 rfl (lv_at hl 3 rfl) ?_
      refine lv_iadd hx hb d_Mo_tableIs_26 ?_
      refine lv_topi (fun v_20 e_21 => ?_)
      refine lv_imul hx hb d_Mo_tableIs_27 ?_
      refine lv_topi (fun v_22 e_23 => ?_)
      refine lv_istore (lv' := [(4, .int v_22), (0, .ref m9), (1, .int s9), (2, .int to9), (3, .int m8)]) hx hb d_Mo_tableIs_28 hl (by decide) rfl (fun ls hl => ?_)
      refine lv_iload hx hb d_Mo_tableIs_30 (lv_at hl 0 rfl) ?_
      refine lv_istore (lv' := [(5, .int v_22), (4, .int v_22), (0, .ref m9), (1, .int s9), (2, .int to9), (3, .int m8)]) hx hb d_Mo_tableIs_32 hl (by decide) rfl (fun ls hl => ?_)
      refine lv_iconst (v := 0) hx hb d_Mo_tableIs_34 (by decide) ?_
      refine lv_istore (lv' := [(6, .int 0), (5, .int v_22), (4, .int v_22), (0, .ref m9), (1, .int s9), (2, .int to9), (3, .int m8)]) hx hb d_Mo_tableIs_35 hl (by decide) rfl (fun ls hl => ?_)
      have is_24 : v_20.toInt = s9.toInt + m8.toInt := by rw [e_21]; exact iAdd (by omega) (by omega)
      have is_25 : v_22.toInt = 2048 * v_20.toInt := by rw [e_23]; exact iMulL 2048 rfl (by omega) (by omega)
      refine hm_loop (fun k37 ls H locs hh37 => ∃ (pp : Int32) (k9 : Int32) (wg8 : Int32), k37 = mU k9 ∧ lv_has ls 10 [(0, .ref m9), (1, .int s9), (2, .int to9), (3, .int m8), (4, .int pp), (5, .int v_22), (6, .int k9)] ∧ hm D vwCl G hh37 H ∧ s.heap.size ≤ H.size ∧ hLc G.P locs ∧ hh37 (A 17) = some (.inl ((t 2), 31, .inl g_1)) ∧ hh37 (A 19) = some (.inl ((t 2), 31, .inl g_2)) ∧ hh37 (A 20) = some (.inl ((t 2), 31, .inl g_3)) ∧ (TI τ t n hh37) ∧ (kf τ [] [m9] h hh37) ∧ (hh37 m9 = some (.inr (9, mf A n th sd lo le wr ma nu di pl se wg8 op))) ∧ ((0 ≤ k9.toInt ∧ k9.toInt ≤ 30) ∧ v_22.toInt ≤ pp.toInt ∧ pp.toInt ≤ v_22.toInt + 17 * k9.toInt)) ?_ (hh := hh9) ⟨v_22, 0, wg9, rfl, (lv_sub hl [3, 4, 5, 6, 2, 1, 0] rfl), hH, hz, hLo, F_A17, F_A19, F_A20, hT, hkf, F_m9, ⟨by decide, by omega, by rw [show (0 : Int32).toInt = 0 from rfl]; omega⟩⟩
      rintro k37 ls H locs hh37 ⟨pp, k9, wg8, hk37, hl, hH, hz, hLo, F_A17, F_A19, F_A20, hT, hkf, F_m9, I_k9⟩ ih37
      refine lv_iload hx hb d_Mo_tableIs_37 (lv_at hl 6 rfl) ?_
      refine lv_aload_n hx hb d_Mo_tableIs_39 rfl (lv_at hl 0 rfl) ?_
      refine hm_get (ci := 9) (v := .int se) (C := R_Mo) (T := F_Mo) (N := 41) hx hb hts ig_Mo hown hK hH F_m9 rfl 27 (by decide) (hts _ mw_766) (fun _ h9 => h9) rfl d_Mo_tableIs_40 ?_
      refine lv_icmp_ge (tgt := 310) hx hb d_Mo_tableIs_43 (by decide) (fun hc_26 => ?_) (fun hc_26 => ?_)
      · skip
        have ic_27 : se.toInt ≤ k9.toInt := iLe hc_26
        refine lv_iload hx hb d_Mo_tableIs_310 (lv_at hl 4 rfl) ?_
        refine lv_iload hx hb d_Mo_tableIs_312 (lv_at hl 5 rfl) ?_
        refine lv_isub hx hb d_Mo_tableIs_314 ?_
        refine lv_topi (fun v_28 e_29 => ?_)
        refine lv_istore_n (lv' := [(2, .int v_28), (0, .ref m9), (1, .int s9), (3, .int m8), (4, .int pp), (5, .int v_22), (6, .int k9)]) hx hb d_Mo_tableIs_315 rfl hl (by decide) rfl (fun ls hl => ?_)
        obtain ⟨j_30, e_31⟩ : ∃ z : Int32, z = m8 + 1 := ⟨_, rfl⟩
        refine lv_iinc (v := j_30) (lv' := [(3, .int j_30), (2, .int v_28), (0, .ref m9), (1, .int s9), (4, .int pp), (5, .int v_22), (6, .int k9)]) hx hb d_Mo_tableIs_316 hl (k := 3) rfl e_31.symm (by decide) rfl (fun ls hl => ?_)
        refine lv_goto (tgt := 9) hx hb d_Mo_tableIs_319 (by decide) ?_
        have is_32 : v_20.toInt = s9.toInt + m8.toInt := by rw [e_21]; exact iAdd (by omega) (by omega)
        have is_33 : v_22.toInt = 2048 * v_20.toInt := by rw [e_23]; exact iMulL 2048 rfl (by omega) (by omega)
        have is_34 : v_28.toInt = pp.toInt - v_22.toInt := by rw [e_29]; exact iSub (by omega) (by omega)
        have is_35 : j_30.toInt = m8.toInt + 1 := by rw [e_31]; exact iAddK 1 rfl (by omega) (by omega)
        exact ih9 (mU j_30) ls _ locs _ (by rw [hk9]; exact mU_lt (by omega)) ⟨v_28, j_30, wg8, rfl, (lv_sub hl [2, 3, 1, 0] rfl), hH, hz, hLo, F_A17, F_A19, F_A20, hT, hkf, F_m9, ⟨⟨by omega, by omega⟩, by omega⟩⟩
      · skip
        have ic_36 : k9.toInt < se.toInt := iNe hc_26
        have iu_37 : se.toInt < 2147483648 := iUp _
        refine lv_aload_n hx hb d_Mo_tableIs_46 rfl (lv_at hl 0 rfl) ?_
        refine hm_get (ci := 9) (v := .ref (A 18)) (C := R_Mo) (T := F_Mo) (N := 41) hx hb hts ig_Mo hown hK hH F_m9 rfl 30 (by decide) (hts _ mw_761) (fun _ h9 => h9) rfl d_Mo_tableIs_47 ?_
        refine lv_iload hx hb d_Mo_tableIs_50 (lv_at hl 6 rfl) ?_
        obtain ⟨g_38, F_A18, c_39⟩ := TI_arZ (L := 31) hT (hA 18 (by decide)) rfl rfl
        refine hm_zald hx hb hK hH 1 F_A18 rfl (iIn (by omega) (by omega)) d_Mo_tableIs_52 ?_
        refine lv_topi (fun v_40 e_41 => ?_)
        have c_42 : zb v_40 := by rw [e_41]; exact c_39 _
        refine lv_if_ne (tgt := 59) hx hb d_Mo_tableIs_53 (by decide) (fun hc_43 => ?_) (fun hc_43 => ?_)
        · skip
          refine hm_cut (α := Int32) (fun nn ls H locs HH => (lv_has ls 10 [(0, .ref m9), (1, .int s9), (2, .int to9), (3, .int m8), (4, .int pp), (5, .int v_22), (6, .int k9)]) ∧ (hm D vwCl G HH H) ∧ (s.heap.size ≤ H.size) ∧ (hLc G.P locs) ∧ (hh37 = HH) ∧ (0 ≤ nn.toInt ∧ nn.toInt ≤ 8)) 78 (fun nn => [.int nn]) ?_ (fun J78 => ?_)
          · skip
            rintro nn ls H locs HH ⟨hl, hH, hz, hLo, rfl, hnn⟩
            refine lv_istore (lv' := [(7, .int nn), (0, .ref m9), (1, .int s9), (2, .int to9), (3, .int m8), (4, .int pp), (5, .int v_22), (6, .int k9)]) hx hb d_Mo_tableIs_78 hl (by decide) rfl (fun ls hl => ?_)
            refine lv_iconst (v := 0) hx hb d_Mo_tableIs_80 (by decide) ?_
            refine lv_istore (lv' := [(8, .int 0), (7, .int nn), (0, .ref m9), (1, .int s9), (2, .int to9), (3, .int m8), (4, .int pp), (5, .int v_22), (6, .int k9)]) hx hb d_Mo_tableIs_81 hl (by decide) rfl (fun ls hl => ?_)
            refine lv_iconst (v := 0) hx hb d_Mo_tableIs_83 (by decide) ?_
            refine lv_istore (lv' := [(9, .int 0), (8, .int 0), (7, .int nn), (0, .ref m9), (1, .int s9), (2, .int to9), (3, .int m8), (4, .int pp), (5, .int v_22), (6, .int k9)]) hx hb d_Mo_tableIs_84 hl (by decide) rfl (fun ls hl => ?_)
            refine hm_loop (fun k86 ls H locs hh86 => ∃ (up9 : Int32) (q9 : Int32), k86 = mU q9 ∧ lv_has ls 10 [(0, .ref m9), (1, .int s9), (2, .int to9), (3, .int m8), (4, .int pp), (5, .int v_22), (6, .int k9), (7, .int nn), (8, .int up9), (9, .int q9)] ∧ hm D vwCl G hh86 H ∧ s.heap.size ≤ H.size ∧ hLc G.P locs ∧ (hh37 = hh86) ∧ (0 ≤ q9.toInt)) ?_ (hh := hh37) ⟨0, 0, rfl, (lv_sub hl [3, 4, 5, 6, 7, 8, 9, 2, 1, 0] rfl), hH, hz, hLo, rfl, (by decide)⟩
            rintro k86 ls H locs hh86 ⟨up9, q9, hk86, hl, hH, hz, hLo, rfl, I_q9⟩ ih86
            refine lv_iload hx hb d_Mo_tableIs_86 (lv_at hl 9 rfl) ?_
            refine lv_aload_n hx hb d_Mo_tableIs_88 rfl (lv_at hl 0 rfl) ?_
            refine hm_get (ci := 9) (v := .ref (A 17)) (C := R_Mo) (T := F_Mo) (N := 41) hx hb hts ig_Mo hown hK hH F_m9 rfl 29 (by decide) (hts _ mw_760) (fun _ h9 => h9) rfl d_Mo_tableIs_89 ?_
            refine lv_iload hx hb d_Mo_tableIs_92 (lv_at hl 6 rfl) ?_
            refine hm_iald hx hb hK hH 2 F_A17 rfl (iIn (by omega) (by omega)) d_Mo_tableIs_94 ?_
            refine lv_topi (fun v_44 e_45 => ?_)
            have iab : v_44.toInt < k9.toInt := by rw [e_45]; exact (seQ_at hSq (by omega) (by omega)).1.1
            refine lv_icmp_le (tgt := 108) hx hb d_Mo_tableIs_95 (by decide) (fun hc_46 => ?_) (fun hc_46 => ?_)
            · skip
              have ic_47 : q9.toInt ≤ v_44.toInt := iLe hc_46
              refine lv_iload hx hb d_Mo_tableIs_108 (lv_at hl 8 rfl) ?_
              refine lv_aload_n hx hb d_Mo_tableIs_110 rfl (lv_at hl 0 rfl) ?_
              refine hm_get (ci := 9) (v := .ref (A 18)) (C := R_Mo) (T := F_Mo) (N := 41) hx hb hts ig_Mo hown hK hH F_m9 rfl 30 (by decide) (hts _ mw_761) (fun _ h9 => h9) rfl d_Mo_tableIs_111 ?_
              refine lv_iload hx hb d_Mo_tableIs_114 (lv_at hl 9 rfl) ?_
              refine hm_zald hx hb hK hH 1 F_A18 rfl (iIn (by omega) (by omega)) d_Mo_tableIs_116 ?_
              refine lv_topi (fun v_48 e_49 => ?_)
              have c_50 : zb v_48 := by rw [e_49]; exact c_39 _
              refine lv_if_eq (tgt := 124) hx hb d_Mo_tableIs_117 (by decide) (fun hc_51 => ?_) (fun hc_51 => ?_)
              · skip
                have ic_52 : v_48.toInt = 0 := congrArg Int32.toInt hc_51
                refine lv_iconst (v := 0) hx hb d_Mo_tableIs_124 (by decide) ?_
                refine lv_iadd hx hb d_Mo_tableIs_125 ?_
                refine lv_topi (fun v_53 e_54 => ?_)
                refine lv_istore (lv' := [(8, .int v_53), (0, .ref m9), (1, .int s9), (2, .int to9), (3, .int m8), (4, .int pp), (5, .int v_22), (6, .int k9), (7, .int nn), (9, .int q9)]) hx hb d_Mo_tableIs_126 hl (by decide) rfl (fun ls hl => ?_)
                obtain ⟨j_55, e_56⟩ : ∃ z : Int32, z = q9 + 1 := ⟨_, rfl⟩
                refine lv_iinc (v := j_55) (lv' := [(9, .int j_55), (8, .int v_53), (0, .ref m9), (1, .int s9), (2, .int to9), (3, .int m8), (4, .int pp), (5, .int v_22), (6, .int k9), (7, .int nn)]) hx hb d_Mo_tableIs_128 hl (k := 9) rfl e_56.symm (by decide) rfl (fun ls hl => ?_)
                refine lv_goto (tgt := 86) hx hb d_Mo_tableIs_131 (by decide) ?_
                have is_57 : j_55.toInt = q9.toInt + 1 := by rw [e_56]; exact iAddK 1 rfl (by omega) (by omega)
                exact ih86 (mU j_55) ls _ locs _ (by rw [hk86]; exact mU_lt (by omega)) ⟨v_53, j_55, rfl, (lv_sub hl [2, 3, 4, 5, 6, 7, 8, 9, 1, 0] rfl), hH, hz, hLo, rfl, (by omega)⟩
              · skip
                refine lv_iconst (v := 1) hx hb d_Mo_tableIs_120 (by decide) ?_
                refine lv_goto (tgt := 125) hx hb d_Mo_tableIs_121 (by decide) ?_
                refine lv_iadd hx hb d_Mo_tableIs_125 ?_
                refine lv_topi (fun v_58 e_59 => ?_)
                refine lv_istore (lv' := [(8, .int v_58), (0, .ref m9), (1, .int s9), (2, .int to9), (3, .int m8), (4, .int pp), (5, .int v_22), (6, .int k9), (7, .int nn), (9, .int q9)]) hx hb d_Mo_tableIs_126 hl (by decide) rfl (fun ls hl => ?_)
                obtain ⟨j_60, e_61⟩ : ∃ z : Int32, z = q9 + 1 := ⟨_, rfl⟩
                refine lv_iinc (v := j_60) (lv' := [(9, .int j_60), (8, .int v_58), (0, .ref m9), (1, .int s9), (2, .int to9), (3, .int m8), (4, .int pp), (5, .int v_22), (6, .int k9), (7, .int nn)]) hx hb d_Mo_tableIs_128 hl (k := 9) rfl e_61.symm (by decide) rfl (fun ls hl => ?_)
                refine lv_goto (tgt := 86) hx hb d_Mo_tableIs_131 (by decide) ?_
                have is_62 : j_60.toInt = q9.toInt + 1 := by rw [e_61]; exact iAddK 1 rfl (by omega) (by omega)
                exact ih86 (mU j_60) ls _ locs _ (by rw [hk86]; exact mU_lt (by omega)) ⟨v_58, j_60, rfl, (lv_sub hl [2, 3, 4, 5, 6, 7, 8, 9, 1, 0] rfl), hH, hz, hLo, rfl, (by omega)⟩
            · skip
              have ic_63 : v_44.toInt < q9.toInt := iNe hc_46
              have iu_64 : q9.toInt < 2147483648 := iUp _
              refine lv_iload hx hb d_Mo_tableIs_98 (lv_at hl 9 rfl) ?_
              refine lv_if_ne (tgt := 134) hx hb d_Mo_tableIs_100 (by decide) (fun hc_65 => ?_) (fun hc_65 => ?_)
              · skip
                refine lv_aload_n hx hb d_Mo_tableIs_134 rfl (lv_at hl 0 rfl) ?_
                refine lv_iload hx hb d_Mo_tableIs_135 (lv_at hl 4 rfl) ?_
                refine lv_iload hx hb d_Mo_tableIs_137 (lv_at hl 7 rfl) ?_
                refine hm_calli (va_runV (As := [.int pp, .int nn]) (b := m9) (rest := []) ⟨hx, hb, hml, hown, hts⟩ (m_expect l D t G ak av hh37 τ n m9 pp nn A th sd lo le wr ma nu di pl se wg8 op   hn hT T_m9  F_m9 hA ⟨hsd, hlo, (by omega), ⟨by omega, by omega⟩, ⟨by omega, by omega⟩⟩ (by omega) (by omega)) ⟨cw9B 2 hts mw_779 mw_780 mw_579 rfl rfl (by decide +kernel) ⟨Nat.le_of_ble_eq_true rfl, Nat.le_of_ble_eq_true rfl⟩, hts _ mw_781, hts _ mw_782⟩ (hP_V (q := (R_Mo, F_Mo, 41)) kE_ok hE hK hH F_m9 rfl) rfl rfl hl.1 rfl (lv_room (Nat.le_of_ble_eq_true rfl)) d_Mo_tableIs_139 ⟨Nat.le_of_ble_eq_true rfl, Nat.le_of_ble_eq_true rfl⟩) hLo (fun r_66 h_67 H_68 locs hp_70 hH z_69 hLo => ?_)
                have hz : s.heap.size ≤ H_68.size := Nat.le_trans hz z_69
                have hT0 := hT
                obtain ⟨hT, kf_72, xp_71⟩ := hp_70
                have F_A17 : h_67 (A 17) = some (.inl ((t 2), 31, .inl g_1)) := kf_at kf_72 (hA 17 (by decide)) (by decide) tn0 (nmc (tne (hA 17 (by decide)) T_m9 (by decide)) nm0) F_A17
                have F_A19 : h_67 (A 19) = some (.inl ((t 2), 31, .inl g_2)) := kf_at kf_72 (hA 19 (by decide)) (by decide) tn0 (nmc (tne (hA 19 (by decide)) T_m9 (by decide)) nm0) F_A19
                have F_A20 : h_67 (A 20) = some (.inl ((t 2), 31, .inl g_3)) := kf_at kf_72 (hA 20 (by decide)) (by decide) tn0 (nmc (tne (hA 20 (by decide)) T_m9 (by decide)) nm0) F_A20
                have F_A18 : h_67 (A 18) = some (.inl ((t 1), 31, .inl g_38)) := kf_at kf_72 (hA 18 (by decide)) (by decide) tn0 (nmc (tne (hA 18 (by decide)) T_m9 (by decide)) nm0) F_A18
                have hkf : kf τ [] [m9] h h_67 := kf_tr hkf kf_72 (List.forall_mem_nil _) (List.forall_mem_cons.mpr ⟨Or.inl (by simp), List.forall_mem_nil _⟩)
                obtain ⟨wg_73, F_m9, mk_74, xq_75⟩ := xp_71
                obtain ⟨m_76, m_77, m_78, m_79, m_80⟩ := mk_74
                have ix_81 := xq_75
                refine lv_istore (lv' := [(4, .int r_66), (0, .ref m9), (1, .int s9), (2, .int to9), (3, .int m8), (5, .int v_22), (6, .int k9), (7, .int nn), (8, .int up9), (9, .int q9)]) hx hb d_Mo_tableIs_142 hl (by decide) rfl (fun ls hl => ?_)
                refine lv_aload_n hx hb d_Mo_tableIs_144 rfl (lv_at hl 1 rfl) ?_
                refine lv_iload hx hb d_Mo_tableIs_145 (lv_at hl 0 rfl) ?_
                refine lv_iconst (v := 0) hx hb d_Mo_tableIs_147 (by decide) ?_
                refine hm_calli (va_runV (As := [.int r_66, .int 0]) (b := m9) (rest := []) ⟨hx, hb, hml, hown, hts⟩ (m_expect l D t G ak av h_67 τ n m9 r_66 0 A th sd lo le wr ma nu di pl se wg_73 op   hn hT T_m9  F_m9 hA ⟨m_76, m_77, (by omega), ⟨by omega, by omega⟩, ⟨by omega, by omega⟩⟩ (by omega) (by omega)) ⟨cw9B 2 hts mw_779 mw_780 mw_579 rfl rfl (by decide +kernel) ⟨Nat.le_of_ble_eq_true rfl, Nat.le_of_ble_eq_true rfl⟩, hts _ mw_781, hts _ mw_782⟩ (hP_V (q := (R_Mo, F_Mo, 41)) kE_ok hE hK hH F_m9 rfl) rfl rfl hl.1 rfl (lv_room (Nat.le_of_ble_eq_true rfl)) d_Mo_tableIs_148 ⟨Nat.le_of_ble_eq_true rfl, Nat.le_of_ble_eq_true rfl⟩) hLo (fun r_82 h_83 H_84 locs hp_86 hH z_85 hLo => ?_)
                have hz : s.heap.size ≤ H_84.size := Nat.le_trans hz z_85
                have hT0 := hT
                obtain ⟨hT, kf_88, xp_87⟩ := hp_86
                have F_A17 : h_83 (A 17) = some (.inl ((t 2), 31, .inl g_1)) := kf_at kf_88 (hA 17 (by decide)) (by decide) tn0 (nmc (tne (hA 17 (by decide)) T_m9 (by decide)) nm0) F_A17
                have F_A19 : h_83 (A 19) = some (.inl ((t 2), 31, .inl g_2)) := kf_at kf_88 (hA 19 (by decide)) (by decide) tn0 (nmc (tne (hA 19 (by decide)) T_m9 (by decide)) nm0) F_A19
                have F_A20 : h_83 (A 20) = some (.inl ((t 2), 31, .inl g_3)) := kf_at kf_88 (hA 20 (by decide)) (by decide) tn0 (nmc (tne (hA 20 (by decide)) T_m9 (by decide)) nm0) F_A20
                have F_A18 : h_83 (A 18) = some (.inl ((t 1), 31, .inl g_38)) := kf_at kf_88 (hA 18 (by decide)) (by decide) tn0 (nmc (tne (hA 18 (by decide)) T_m9 (by decide)) nm0) F_A18
                have hkf : kf τ [] [m9] h h_83 := kf_tr hkf kf_88 (List.forall_mem_nil _) (List.forall_mem_cons.mpr ⟨Or.inl (by simp), List.forall_mem_nil _⟩)
                obtain ⟨wg_89, F_m9, mk_90, xq_91⟩ := xp_87
                obtain ⟨m_92, m_93, m_94, m_95, m_96⟩ := mk_90
                have ix_97 := xq_91
                refine lv_istore (lv' := [(4, .int r_82), (0, .ref m9), (1, .int s9), (2, .int to9), (3, .int m8), (5, .int v_22), (6, .int k9), (7, .int nn), (8, .int up9), (9, .int q9)]) hx hb d_Mo_tableIs_151 hl (by decide) rfl (fun ls hl => ?_)
                refine lv_iconst (v := 0) hx hb d_Mo_tableIs_153 (by decide) ?_
                refine lv_istore (lv' := [(9, .int 0), (4, .int r_82), (0, .ref m9), (1, .int s9), (2, .int to9), (3, .int m8), (5, .int v_22), (6, .int k9), (7, .int nn), (8, .int up9)]) hx hb d_Mo_tableIs_154 hl (by decide) rfl (fun ls hl => ?_)
                refine hm_loop (fun k156 ls H locs hh156 => ∃ (p7 : Int32) (i7 : Int32) (wg7 : Int32), k156 = mU i7 ∧ lv_has ls 10 [(0, .ref m9), (1, .int s9), (2, .int to9), (3, .int m8), (4, .int p7), (5, .int v_22), (6, .int k9), (7, .int nn), (8, .int up9), (9, .int i7)] ∧ hm D vwCl G hh156 H ∧ s.heap.size ≤ H.size ∧ hLc G.P locs ∧ hh156 (A 17) = some (.inl ((t 2), 31, .inl g_1)) ∧ hh156 (A 19) = some (.inl ((t 2), 31, .inl g_2)) ∧ hh156 (A 20) = some (.inl ((t 2), 31, .inl g_3)) ∧ (TI τ t n hh156) ∧ (kf τ [] [m9] h hh156) ∧ (hh156 m9 = some (.inr (9, mf A n th sd lo le wr ma nu di pl se wg7 op))) ∧ ((0 ≤ i7.toInt ∧ (i7.toInt ≤ 4 ∨ i7.toInt = 0)) ∧ p7.toInt = r_82.toInt + i7.toInt)) ?_ (hh := h_83) ⟨r_82, 0, wg_89, rfl, (lv_sub hl [2, 3, 4, 5, 1, 6, 7, 8, 9, 0] rfl), hH, hz, hLo, F_A17, F_A19, F_A20, hT, hkf, F_m9, ⟨⟨by decide, Or.inr rfl⟩, by rw [show (0 : Int32).toInt = 0 from rfl]; omega⟩⟩
                rintro k156 ls H locs hh156 ⟨p7, i7, wg7, hk156, hl, hH, hz, hLo, F_A17, F_A19, F_A20, hT, hkf, F_m9, I_i7⟩ ih156
                refine lv_iload hx hb d_Mo_tableIs_156 (lv_at hl 9 rfl) ?_
                refine lv_iconst (v := 4) hx hb d_Mo_tableIs_158 (by decide) ?_
                refine lv_icmp_ge (tgt := 200) hx hb d_Mo_tableIs_159 (by decide) (fun hc_98 => ?_) (fun hc_98 => ?_)
                · skip
                  have ic_99 : 4 ≤ i7.toInt := iLe hc_98
                  refine lv_iconst (v := 0) hx hb d_Mo_tableIs_200 (by decide) ?_
                  refine lv_istore (lv' := [(9, .int 0), (0, .ref m9), (1, .int s9), (2, .int to9), (3, .int m8), (4, .int p7), (5, .int v_22), (6, .int k9), (7, .int nn), (8, .int up9)]) hx hb d_Mo_tableIs_201 hl (by decide) rfl (fun ls hl => ?_)
                  refine hm_loop (fun k203 ls H locs hh203 => ∃ (p6 : Int32) (i6 : Int32) (wg6 : Int32), k203 = mU i6 ∧ lv_has ls 10 [(0, .ref m9), (1, .int s9), (2, .int to9), (3, .int m8), (4, .int p6), (5, .int v_22), (6, .int k9), (7, .int nn), (8, .int up9), (9, .int i6)] ∧ hm D vwCl G hh203 H ∧ s.heap.size ≤ H.size ∧ hLc G.P locs ∧ hh203 (A 17) = some (.inl ((t 2), 31, .inl g_1)) ∧ hh203 (A 19) = some (.inl ((t 2), 31, .inl g_2)) ∧ hh203 (A 20) = some (.inl ((t 2), 31, .inl g_3)) ∧ (TI τ t n hh203) ∧ (kf τ [] [m9] h hh203) ∧ (hh203 m9 = some (.inr (9, mf A n th sd lo le wr ma nu di pl se wg6 op))) ∧ ((0 ≤ i6.toInt ∧ (i6.toInt ≤ 2 ∨ i6.toInt = 0)) ∧ p6.toInt = p7.toInt + i6.toInt)) ?_ (hh := hh156) ⟨p7, 0, wg7, rfl, (lv_sub hl [1, 2, 3, 4, 5, 6, 7, 8, 9, 0] rfl), hH, hz, hLo, F_A17, F_A19, F_A20, hT, hkf, F_m9, ⟨⟨by decide, Or.inr rfl⟩, by rw [show (0 : Int32).toInt = 0 from rfl]; omega⟩⟩
                  rintro k203 ls H locs hh203 ⟨p6, i6, wg6, hk203, hl, hH, hz, hLo, F_A17, F_A19, F_A20, hT, hkf, F_m9, I_i6⟩ ih203
                  refine lv_iload hx hb d_Mo_tableIs_203 (lv_at hl 9 rfl) ?_
                  refine lv_iconst (v := 2) hx hb d_Mo_tableIs_205 (by decide) ?_
                  refine lv_icmp_ge (tgt := 242) hx hb d_Mo_tableIs_206 (by decide) (fun hc_100 => ?_) (fun hc_100 => ?_)
                  · skip
                    have ic_101 : 2 ≤ i6.toInt := iLe hc_100
                    refine lv_iconst (v := 0) hx hb d_Mo_tableIs_242 (by decide) ?_
                    refine lv_istore (lv' := [(9, .int 0), (0, .ref m9), (1, .int s9), (2, .int to9), (3, .int m8), (4, .int p6), (5, .int v_22), (6, .int k9), (7, .int nn), (8, .int up9)]) hx hb d_Mo_tableIs_243 hl (by decide) rfl (fun ls hl => ?_)
                    refine hm_loop (fun k245 ls H locs hh245 => ∃ (p5 : Int32) (i5 : Int32) (wg5 : Int32), k245 = mU i5 ∧ lv_has ls 10 [(0, .ref m9), (1, .int s9), (2, .int to9), (3, .int m8), (4, .int p5), (5, .int v_22), (6, .int k9), (7, .int nn), (8, .int up9), (9, .int i5)] ∧ hm D vwCl G hh245 H ∧ s.heap.size ≤ H.size ∧ hLc G.P locs ∧ hh245 (A 17) = some (.inl ((t 2), 31, .inl g_1)) ∧ hh245 (A 19) = some (.inl ((t 2), 31, .inl g_2)) ∧ hh245 (A 20) = some (.inl ((t 2), 31, .inl g_3)) ∧ (TI τ t n hh245) ∧ (kf τ [] [m9] h hh245) ∧ (hh245 m9 = some (.inr (9, mf A n th sd lo le wr ma nu di pl se wg5 op))) ∧ ((0 ≤ i5.toInt ∧ (i5.toInt ≤ nn.toInt ∨ i5.toInt = 0)) ∧ p5.toInt = p6.toInt + i5.toInt)) ?_ (hh := hh203) ⟨p6, 0, wg6, rfl, (lv_sub hl [1, 2, 3, 4, 5, 6, 7, 8, 9, 0] rfl), hH, hz, hLo, F_A17, F_A19, F_A20, hT, hkf, F_m9, ⟨⟨by decide, Or.inr rfl⟩, by rw [show (0 : Int32).toInt = 0 from rfl]; omega⟩⟩
                    rintro k245 ls H locs hh245 ⟨p5, i5, wg5, hk245, hl, hH, hz, hLo, F_A17, F_A19, F_A20, hT, hkf, F_m9, I_i5⟩ ih245
                    refine lv_iload hx hb d_Mo_tableIs_245 (lv_at hl 9 rfl) ?_
                    refine lv_iload hx hb d_Mo_tableIs_247 (lv_at hl 7 rfl) ?_
                    refine lv_icmp_ge (tgt := 287) hx hb d_Mo_tableIs_249 (by decide) (fun hc_102 => ?_) (fun hc_102 => ?_)
                    · skip
                      have ic_103 : nn.toInt ≤ i5.toInt := iLe hc_102
                      refine lv_iload hx hb d_Mo_tableIs_287 (lv_at hl 7 rfl) ?_
                      refine lv_iconst (v := 2) hx hb d_Mo_tableIs_289 (by decide) ?_
                      refine lv_irem hx hb d_Mo_tableIs_290 (by decide) ?_
                      refine lv_topi (fun v_104 e_105 => ?_)
                      have id_106 : 0 ≤ nn.toInt → v_104.toInt = nn.toInt % 2 := fun h9 => by rw [e_105]; exact i_mod (d := 2) (by decide) h9
                      refine lv_iconst (v := 1) hx hb d_Mo_tableIs_291 (by decide) ?_
                      refine lv_icmp_ne (tgt := 304) hx hb d_Mo_tableIs_292 (by decide) (fun hc_107 => ?_) (fun hc_107 => ?_)
                      · skip
                        obtain ⟨j_108, e_109⟩ : ∃ z : Int32, z = k9 + 1 := ⟨_, rfl⟩
                        refine lv_iinc (v := j_108) (lv' := [(6, .int j_108), (0, .ref m9), (1, .int s9), (2, .int to9), (3, .int m8), (4, .int p5), (5, .int v_22), (7, .int nn), (8, .int up9), (9, .int i5)]) hx hb d_Mo_tableIs_304 hl (k := 6) rfl e_109.symm (by decide) rfl (fun ls hl => ?_)
                        refine lv_goto (tgt := 37) hx hb d_Mo_tableIs_307 (by decide) ?_
                        have is_110 : j_108.toInt = k9.toInt + 1 := by rw [e_109]; exact iAddK 1 rfl (by omega) (by omega)
                        exact ih37 (mU j_108) ls _ locs _ (by rw [hk37]; exact mU_lt (by omega)) ⟨p5, j_108, wg5, rfl, (lv_sub hl [1, 2, 3, 4, 5, 6, 0] rfl), hH, hz, hLo, F_A17, F_A19, F_A20, hT, hkf, F_m9, ⟨⟨by omega, by omega⟩, by omega, by omega⟩⟩
                      · skip
                        have ic_111 : v_104.toInt = 1 := congrArg Int32.toInt hc_107
                        refine lv_aload_n hx hb d_Mo_tableIs_295 rfl (lv_at hl 0 rfl) ?_
                        refine lv_iload hx hb d_Mo_tableIs_296 (lv_at hl 4 rfl) ?_
                        refine lv_iconst (v := 0) hx hb d_Mo_tableIs_298 (by decide) ?_
                        refine hm_calli (va_runV (As := [.int p5, .int 0]) (b := m9) (rest := []) ⟨hx, hb, hml, hown, hts⟩ (m_expect l D t G ak av hh245 τ n m9 p5 0 A th sd lo le wr ma nu di pl se wg5 op   hn hT T_m9  F_m9 hA ⟨m_92, m_93, (by omega), ⟨by omega, by omega⟩, ⟨by omega, by omega⟩⟩ (by omega) (by omega)) ⟨cw9B 2 hts mw_779 mw_780 mw_579 rfl rfl (by decide +kernel) ⟨Nat.le_of_ble_eq_true rfl, Nat.le_of_ble_eq_true rfl⟩, hts _ mw_781, hts _ mw_782⟩ (hP_V (q := (R_Mo, F_Mo, 41)) kE_ok hE hK hH F_m9 rfl) rfl rfl hl.1 rfl (lv_room (Nat.le_of_ble_eq_true rfl)) d_Mo_tableIs_299 ⟨Nat.le_of_ble_eq_true rfl, Nat.le_of_ble_eq_true rfl⟩) hLo (fun r_112 h_113 H_114 locs hp_116 hH z_115 hLo => ?_)
                        have hz : s.heap.size ≤ H_114.size := Nat.le_trans hz z_115
                        have hT0 := hT
                        obtain ⟨hT, kf_118, xp_117⟩ := hp_116
                        have F_A17 : h_113 (A 17) = some (.inl ((t 2), 31, .inl g_1)) := kf_at kf_118 (hA 17 (by decide)) (by decide) tn0 (nmc (tne (hA 17 (by decide)) T_m9 (by decide)) nm0) F_A17
                        have F_A19 : h_113 (A 19) = some (.inl ((t 2), 31, .inl g_2)) := kf_at kf_118 (hA 19 (by decide)) (by decide) tn0 (nmc (tne (hA 19 (by decide)) T_m9 (by decide)) nm0) F_A19
                        have F_A20 : h_113 (A 20) = some (.inl ((t 2), 31, .inl g_3)) := kf_at kf_118 (hA 20 (by decide)) (by decide) tn0 (nmc (tne (hA 20 (by decide)) T_m9 (by decide)) nm0) F_A20
                        have hkf : kf τ [] [m9] h h_113 := kf_tr hkf kf_118 (List.forall_mem_nil _) (List.forall_mem_cons.mpr ⟨Or.inl (by simp), List.forall_mem_nil _⟩)
                        obtain ⟨wg_119, F_m9, mk_120, xq_121⟩ := xp_117
                        obtain ⟨m_122, m_123, m_124, m_125, m_126⟩ := mk_120
                        have ix_127 := xq_121
                        refine lv_istore (lv' := [(4, .int r_112), (0, .ref m9), (1, .int s9), (2, .int to9), (3, .int m8), (5, .int v_22), (6, .int k9), (7, .int nn), (8, .int up9), (9, .int i5)]) hx hb d_Mo_tableIs_302 hl (by decide) rfl (fun ls hl => ?_)
                        obtain ⟨j_128, e_129⟩ : ∃ z : Int32, z = k9 + 1 := ⟨_, rfl⟩
                        refine lv_iinc (v := j_128) (lv' := [(6, .int j_128), (4, .int r_112), (0, .ref m9), (1, .int s9), (2, .int to9), (3, .int m8), (5, .int v_22), (7, .int nn), (8, .int up9), (9, .int i5)]) hx hb d_Mo_tableIs_304 hl (k := 6) rfl e_129.symm (by decide) rfl (fun ls hl => ?_)
                        refine lv_goto (tgt := 37) hx hb d_Mo_tableIs_307 (by decide) ?_
                        have is_130 : j_128.toInt = k9.toInt + 1 := by rw [e_129]; exact iAddK 1 rfl (by omega) (by omega)
                        exact ih37 (mU j_128) ls _ locs _ (by rw [hk37]; exact mU_lt (by omega)) ⟨r_112, j_128, wg_119, rfl, (lv_sub hl [2, 3, 4, 5, 1, 6, 0] rfl), hH, hz, hLo, F_A17, F_A19, F_A20, hT, hkf, F_m9, ⟨⟨by omega, by omega⟩, by omega, by omega⟩⟩
                    · skip
                      have ic_131 : i5.toInt < nn.toInt := iNe hc_102
                      have iu_132 : nn.toInt < 2147483648 := iUp _
                      refine lv_aload_n hx hb d_Mo_tableIs_252 rfl (lv_at hl 0 rfl) ?_
                      refine lv_iload hx hb d_Mo_tableIs_253 (lv_at hl 4 rfl) ?_
                      refine lv_iload hx hb d_Mo_tableIs_255 (lv_at hl 6 rfl) ?_
                      refine lv_if_ne (tgt := 264) hx hb d_Mo_tableIs_257 (by decide) (fun hc_133 => ?_) (fun hc_133 => ?_)
                      · skip
                        refine lv_aload_n hx hb d_Mo_tableIs_264 rfl (lv_at hl 0 rfl) ?_
                        refine hm_get (ci := 9) (v := .ref (A 21)) (C := R_Mo) (T := F_Mo) (N := 41) hx hb hts ig_Mo hown hK hH F_m9 rfl 33 (by decide) (hts _ mw_765) (fun _ h9 => h9) rfl d_Mo_tableIs_265 ?_
                        refine lv_iload hx hb d_Mo_tableIs_268 (lv_at hl 6 rfl) ?_
                        obtain ⟨g_134, F_A21⟩ := TI_arJ (L := 31) hT (hA 21 (by decide)) rfl rfl
                        refine hm_lald hx hb hK hH 3 F_A21 rfl (iIn (by omega) (by omega)) d_Mo_tableIs_270 ?_
                        refine lv_topl (fun v_135 e_136 => ?_)
                        refine lv_iload hx hb d_Mo_tableIs_271 (lv_at hl 9 rfl) ?_
                        refine hm_callPi (va_runS (As := [.long v_135, .int i5]) (rest := [.int p5, .ref m9]) ⟨hx, hb, hml, hown, hts⟩ (m_letter2 l D t G ak av hh245 τ n v_135 i5    hn hT    ) ⟨cw9B 2 hts mw_637 mw_638 mw_579 rfl rfl (by decide +kernel) ⟨Nat.le_of_ble_eq_true rfl, Nat.le_of_ble_eq_true rfl⟩, hts _ mw_639⟩ (hP_S kE_ok hE hH) rfl rfl hl.1 rfl (lv_room (Nat.le_of_ble_eq_true rfl)) d_Mo_tableIs_273 ⟨Nat.le_of_ble_eq_true rfl, Nat.le_of_ble_eq_true rfl⟩) (fun r_137 h_138 H_139 hp_141  hH z_140 => ?_)
                        have hz : s.heap.size ≤ H_139.size := Nat.le_trans hz z_140
                        obtain ⟨xp_142, rfl⟩ := hp_141
                        refine hm_calli (va_runV (As := [.int p5, .int r_137]) (b := m9) (rest := []) ⟨hx, hb, hml, hown, hts⟩ (m_expect l D t G ak av hh245 τ n m9 p5 r_137 A th sd lo le wr ma nu di pl se wg5 op   hn hT T_m9  F_m9 hA ⟨m_92, m_93, (by omega), ⟨by omega, by omega⟩, ⟨by omega, by omega⟩⟩ (by omega) (by omega)) ⟨cw9B 2 hts mw_779 mw_780 mw_579 rfl rfl (by decide +kernel) ⟨Nat.le_of_ble_eq_true rfl, Nat.le_of_ble_eq_true rfl⟩, hts _ mw_781, hts _ mw_782⟩ (hP_V (q := (R_Mo, F_Mo, 41)) kE_ok hE hK hH F_m9 rfl) rfl rfl hl.1 rfl (lv_room (Nat.le_of_ble_eq_true rfl)) d_Mo_tableIs_276 ⟨Nat.le_of_ble_eq_true rfl, Nat.le_of_ble_eq_true rfl⟩) hLo (fun r_143 h_144 H_145 locs hp_147 hH z_146 hLo => ?_)
                        have hz : s.heap.size ≤ H_145.size := Nat.le_trans hz z_146
                        have hT0 := hT
                        obtain ⟨hT, kf_149, xp_148⟩ := hp_147
                        have F_A17 : h_144 (A 17) = some (.inl ((t 2), 31, .inl g_1)) := kf_at kf_149 (hA 17 (by decide)) (by decide) tn0 (nmc (tne (hA 17 (by decide)) T_m9 (by decide)) nm0) F_A17
                        have F_A19 : h_144 (A 19) = some (.inl ((t 2), 31, .inl g_2)) := kf_at kf_149 (hA 19 (by decide)) (by decide) tn0 (nmc (tne (hA 19 (by decide)) T_m9 (by decide)) nm0) F_A19
                        have F_A20 : h_144 (A 20) = some (.inl ((t 2), 31, .inl g_3)) := kf_at kf_149 (hA 20 (by decide)) (by decide) tn0 (nmc (tne (hA 20 (by decide)) T_m9 (by decide)) nm0) F_A20
                        have F_A21 : h_144 (A 21) = some (.inl ((t 3), 31, .inr (.inl g_134))) := kf_at kf_149 (hA 21 (by decide)) (by decide) tn0 (nmc (tne (hA 21 (by decide)) T_m9 (by decide)) nm0) F_A21
                        have hkf : kf τ [] [m9] h h_144 := kf_tr hkf kf_149 (List.forall_mem_nil _) (List.forall_mem_cons.mpr ⟨Or.inl (by simp), List.forall_mem_nil _⟩)
                        obtain ⟨wg_150, F_m9, mk_151, xq_152⟩ := xp_148
                        obtain ⟨m_153, m_154, m_155, m_156, m_157⟩ := mk_151
                        have ix_158 := xq_152
                        refine lv_istore (lv' := [(4, .int r_143), (0, .ref m9), (1, .int s9), (2, .int to9), (3, .int m8), (5, .int v_22), (6, .int k9), (7, .int nn), (8, .int up9), (9, .int i5)]) hx hb d_Mo_tableIs_279 hl (by decide) rfl (fun ls hl => ?_)
                        obtain ⟨j_159, e_160⟩ : ∃ z : Int32, z = i5 + 1 := ⟨_, rfl⟩
                        refine lv_iinc (v := j_159) (lv' := [(9, .int j_159), (4, .int r_143), (0, .ref m9), (1, .int s9), (2, .int to9), (3, .int m8), (5, .int v_22), (6, .int k9), (7, .int nn), (8, .int up9)]) hx hb d_Mo_tableIs_281 hl (k := 9) rfl e_160.symm (by decide) rfl (fun ls hl => ?_)
                        refine lv_goto (tgt := 245) hx hb d_Mo_tableIs_284 (by decide) ?_
                        have is_161 : j_159.toInt = i5.toInt + 1 := by rw [e_160]; exact iAddK 1 rfl (by omega) (by omega)
                        exact ih245 (mU j_159) ls _ locs _ (by rw [hk245]; exact mU_lt (by omega)) ⟨r_143, j_159, wg_150, rfl, (lv_sub hl [2, 3, 4, 5, 1, 6, 7, 8, 9, 0] rfl), hH, hz, hLo, F_A17, F_A19, F_A20, hT, hkf, F_m9, ⟨⟨by omega, by omega⟩, by omega⟩⟩
                      · skip
                        have ic_162 : k9.toInt = 0 := congrArg Int32.toInt hc_133
                        refine lv_iconst (v := 0) hx hb d_Mo_tableIs_260 (by decide) ?_
                        refine lv_goto (tgt := 276) hx hb d_Mo_tableIs_261 (by decide) ?_
                        refine hm_calli (va_runV (As := [.int p5, .int 0]) (b := m9) (rest := []) ⟨hx, hb, hml, hown, hts⟩ (m_expect l D t G ak av hh245 τ n m9 p5 0 A th sd lo le wr ma nu di pl se wg5 op   hn hT T_m9  F_m9 hA ⟨m_92, m_93, (by omega), ⟨by omega, by omega⟩, ⟨by omega, by omega⟩⟩ (by omega) (by omega)) ⟨cw9B 2 hts mw_779 mw_780 mw_579 rfl rfl (by decide +kernel) ⟨Nat.le_of_ble_eq_true rfl, Nat.le_of_ble_eq_true rfl⟩, hts _ mw_781, hts _ mw_782⟩ (hP_V (q := (R_Mo, F_Mo, 41)) kE_ok hE hK hH F_m9 rfl) rfl rfl hl.1 rfl (lv_room (Nat.le_of_ble_eq_true rfl)) d_Mo_tableIs_276 ⟨Nat.le_of_ble_eq_true rfl, Nat.le_of_ble_eq_true rfl⟩) hLo (fun r_163 h_164 H_165 locs hp_167 hH z_166 hLo => ?_)
                        have hz : s.heap.size ≤ H_165.size := Nat.le_trans hz z_166
                        have hT0 := hT
                        obtain ⟨hT, kf_169, xp_168⟩ := hp_167
                        have F_A17 : h_164 (A 17) = some (.inl ((t 2), 31, .inl g_1)) := kf_at kf_169 (hA 17 (by decide)) (by decide) tn0 (nmc (tne (hA 17 (by decide)) T_m9 (by decide)) nm0) F_A17
                        have F_A19 : h_164 (A 19) = some (.inl ((t 2), 31, .inl g_2)) := kf_at kf_169 (hA 19 (by decide)) (by decide) tn0 (nmc (tne (hA 19 (by decide)) T_m9 (by decide)) nm0) F_A19
                        have F_A20 : h_164 (A 20) = some (.inl ((t 2), 31, .inl g_3)) := kf_at kf_169 (hA 20 (by decide)) (by decide) tn0 (nmc (tne (hA 20 (by decide)) T_m9 (by decide)) nm0) F_A20
                        have hkf : kf τ [] [m9] h h_164 := kf_tr hkf kf_169 (List.forall_mem_nil _) (List.forall_mem_cons.mpr ⟨Or.inl (by simp), List.forall_mem_nil _⟩)
                        obtain ⟨wg_170, F_m9, mk_171, xq_172⟩ := xp_168
                        obtain ⟨m_173, m_174, m_175, m_176, m_177⟩ := mk_171
                        have ix_178 := xq_172
                        refine lv_istore (lv' := [(4, .int r_163), (0, .ref m9), (1, .int s9), (2, .int to9), (3, .int m8), (5, .int v_22), (6, .int k9), (7, .int nn), (8, .int up9), (9, .int i5)]) hx hb d_Mo_tableIs_279 hl (by decide) rfl (fun ls hl => ?_)
                        obtain ⟨j_179, e_180⟩ : ∃ z : Int32, z = i5 + 1 := ⟨_, rfl⟩
                        refine lv_iinc (v := j_179) (lv' := [(9, .int j_179), (4, .int r_163), (0, .ref m9), (1, .int s9), (2, .int to9), (3, .int m8), (5, .int v_22), (6, .int k9), (7, .int nn), (8, .int up9)]) hx hb d_Mo_tableIs_281 hl (k := 9) rfl e_180.symm (by decide) rfl (fun ls hl => ?_)
                        refine lv_goto (tgt := 245) hx hb d_Mo_tableIs_284 (by decide) ?_
                        have is_181 : j_179.toInt = i5.toInt + 1 := by rw [e_180]; exact iAddK 1 rfl (by omega) (by omega)
                        exact ih245 (mU j_179) ls _ locs _ (by rw [hk245]; exact mU_lt (by omega)) ⟨r_163, j_179, wg_170, rfl, (lv_sub hl [2, 3, 4, 5, 1, 6, 7, 8, 9, 0] rfl), hH, hz, hLo, F_A17, F_A19, F_A20, hT, hkf, F_m9, ⟨⟨by omega, by omega⟩, by omega⟩⟩
                  · skip
                    have ic_182 : i6.toInt < 2 := iNe hc_100
                    refine lv_aload_n hx hb d_Mo_tableIs_209 rfl (lv_at hl 0 rfl) ?_
                    refine lv_iload hx hb d_Mo_tableIs_210 (lv_at hl 4 rfl) ?_
                    refine lv_iload hx hb d_Mo_tableIs_212 (lv_at hl 8 rfl) ?_
                    refine lv_bipush (v := 8) hx hb d_Mo_tableIs_214 (by decide) ?_
                    refine lv_iload_n hx hb d_Mo_tableIs_216 rfl (lv_at hl 3 rfl) ?_
                    refine lv_if_ne (tgt := 225) hx hb d_Mo_tableIs_217 (by decide) (fun hc_183 => ?_) (fun hc_183 => ?_)
                    · skip
                      refine lv_iconst (v := 1) hx hb d_Mo_tableIs_225 (by decide) ?_
                      refine lv_iload hx hb d_Mo_tableIs_226 (lv_at hl 9 rfl) ?_
                      refine lv_isub hx hb d_Mo_tableIs_228 ?_
                      refine lv_topi (fun v_184 e_185 => ?_)
                      refine lv_imul hx hb d_Mo_tableIs_229 ?_
                      refine lv_topi (fun v_186 e_187 => ?_)
                      refine lv_ishr hx hb d_Mo_tableIs_230 ?_
                      refine lv_topi (fun v_188 e_189 => ?_)
                      refine hm_calli (va_runV (As := [.int p6, .int v_188]) (b := m9) (rest := []) ⟨hx, hb, hml, hown, hts⟩ (m_expect l D t G ak av hh203 τ n m9 p6 v_188 A th sd lo le wr ma nu di pl se wg6 op   hn hT T_m9  F_m9 hA ⟨m_92, m_93, (by omega), ⟨by omega, by omega⟩, ⟨by omega, by omega⟩⟩ (by omega) (by omega)) ⟨cw9B 2 hts mw_779 mw_780 mw_579 rfl rfl (by decide +kernel) ⟨Nat.le_of_ble_eq_true rfl, Nat.le_of_ble_eq_true rfl⟩, hts _ mw_781, hts _ mw_782⟩ (hP_V (q := (R_Mo, F_Mo, 41)) kE_ok hE hK hH F_m9 rfl) rfl rfl hl.1 rfl (lv_room (Nat.le_of_ble_eq_true rfl)) d_Mo_tableIs_231 ⟨Nat.le_of_ble_eq_true rfl, Nat.le_of_ble_eq_true rfl⟩) hLo (fun r_190 h_191 H_192 locs hp_194 hH z_193 hLo => ?_)
                      have hz : s.heap.size ≤ H_192.size := Nat.le_trans hz z_193
                      have hT0 := hT
                      obtain ⟨hT, kf_196, xp_195⟩ := hp_194
                      have F_A17 : h_191 (A 17) = some (.inl ((t 2), 31, .inl g_1)) := kf_at kf_196 (hA 17 (by decide)) (by decide) tn0 (nmc (tne (hA 17 (by decide)) T_m9 (by decide)) nm0) F_A17
                      have F_A19 : h_191 (A 19) = some (.inl ((t 2), 31, .inl g_2)) := kf_at kf_196 (hA 19 (by decide)) (by decide) tn0 (nmc (tne (hA 19 (by decide)) T_m9 (by decide)) nm0) F_A19
                      have F_A20 : h_191 (A 20) = some (.inl ((t 2), 31, .inl g_3)) := kf_at kf_196 (hA 20 (by decide)) (by decide) tn0 (nmc (tne (hA 20 (by decide)) T_m9 (by decide)) nm0) F_A20
                      have hkf : kf τ [] [m9] h h_191 := kf_tr hkf kf_196 (List.forall_mem_nil _) (List.forall_mem_cons.mpr ⟨Or.inl (by simp), List.forall_mem_nil _⟩)
                      obtain ⟨wg_197, F_m9, mk_198, xq_199⟩ := xp_195
                      obtain ⟨m_200, m_201, m_202, m_203, m_204⟩ := mk_198
                      have ix_205 := xq_199
                      refine lv_istore (lv' := [(4, .int r_190), (0, .ref m9), (1, .int s9), (2, .int to9), (3, .int m8), (5, .int v_22), (6, .int k9), (7, .int nn), (8, .int up9), (9, .int i6)]) hx hb d_Mo_tableIs_234 hl (by decide) rfl (fun ls hl => ?_)
                      obtain ⟨j_206, e_207⟩ : ∃ z : Int32, z = i6 + 1 := ⟨_, rfl⟩
                      refine lv_iinc (v := j_206) (lv' := [(9, .int j_206), (4, .int r_190), (0, .ref m9), (1, .int s9), (2, .int to9), (3, .int m8), (5, .int v_22), (6, .int k9), (7, .int nn), (8, .int up9)]) hx hb d_Mo_tableIs_236 hl (k := 9) rfl e_207.symm (by decide) rfl (fun ls hl => ?_)
                      refine lv_goto (tgt := 203) hx hb d_Mo_tableIs_239 (by decide) ?_
                      have is_208 : j_206.toInt = i6.toInt + 1 := by rw [e_207]; exact iAddK 1 rfl (by omega) (by omega)
                      exact ih203 (mU j_206) ls _ locs _ (by rw [hk203]; exact mU_lt (by omega)) ⟨r_190, j_206, wg_197, rfl, (lv_sub hl [2, 3, 4, 5, 1, 6, 7, 8, 9, 0] rfl), hH, hz, hLo, F_A17, F_A19, F_A20, hT, hkf, F_m9, ⟨⟨by omega, by omega⟩, by omega⟩⟩
                    · skip
                      have ic_209 : m8.toInt = 0 := congrArg Int32.toInt hc_183
                      refine lv_iload hx hb d_Mo_tableIs_220 (lv_at hl 9 rfl) ?_
                      refine lv_goto (tgt := 229) hx hb d_Mo_tableIs_222 (by decide) ?_
                      refine lv_imul hx hb d_Mo_tableIs_229 ?_
                      refine lv_topi (fun v_210 e_211 => ?_)
                      refine lv_ishr hx hb d_Mo_tableIs_230 ?_
                      refine lv_topi (fun v_212 e_213 => ?_)
                      refine hm_calli (va_runV (As := [.int p6, .int v_212]) (b := m9) (rest := []) ⟨hx, hb, hml, hown, hts⟩ (m_expect l D t G ak av hh203 τ n m9 p6 v_212 A th sd lo le wr ma nu di pl se wg6 op   hn hT T_m9  F_m9 hA ⟨m_92, m_93, (by omega), ⟨by omega, by omega⟩, ⟨by omega, by omega⟩⟩ (by omega) (by omega)) ⟨cw9B 2 hts mw_779 mw_780 mw_579 rfl rfl (by decide +kernel) ⟨Nat.le_of_ble_eq_true rfl, Nat.le_of_ble_eq_true rfl⟩, hts _ mw_781, hts _ mw_782⟩ (hP_V (q := (R_Mo, F_Mo, 41)) kE_ok hE hK hH F_m9 rfl) rfl rfl hl.1 rfl (lv_room (Nat.le_of_ble_eq_true rfl)) d_Mo_tableIs_231 ⟨Nat.le_of_ble_eq_true rfl, Nat.le_of_ble_eq_true rfl⟩) hLo (fun r_214 h_215 H_216 locs hp_218 hH z_217 hLo => ?_)
                      have hz : s.heap.size ≤ H_216.size := Nat.le_trans hz z_217
                      have hT0 := hT
                      obtain ⟨hT, kf_220, xp_219⟩ := hp_218
                      have F_A17 : h_215 (A 17) = some (.inl ((t 2), 31, .inl g_1)) := kf_at kf_220 (hA 17 (by decide)) (by decide) tn0 (nmc (tne (hA 17 (by decide)) T_m9 (by decide)) nm0) F_A17
                      have F_A19 : h_215 (A 19) = some (.inl ((t 2), 31, .inl g_2)) := kf_at kf_220 (hA 19 (by decide)) (by decide) tn0 (nmc (tne (hA 19 (by decide)) T_m9 (by decide)) nm0) F_A19
                      have F_A20 : h_215 (A 20) = some (.inl ((t 2), 31, .inl g_3)) := kf_at kf_220 (hA 20 (by decide)) (by decide) tn0 (nmc (tne (hA 20 (by decide)) T_m9 (by decide)) nm0) F_A20
                      have hkf : kf τ [] [m9] h h_215 := kf_tr hkf kf_220 (List.forall_mem_nil _) (List.forall_mem_cons.mpr ⟨Or.inl (by simp), List.forall_mem_nil _⟩)
                      obtain ⟨wg_221, F_m9, mk_222, xq_223⟩ := xp_219
                      obtain ⟨m_224, m_225, m_226, m_227, m_228⟩ := mk_222
                      have ix_229 := xq_223
                      refine lv_istore (lv' := [(4, .int r_214), (0, .ref m9), (1, .int s9), (2, .int to9), (3, .int m8), (5, .int v_22), (6, .int k9), (7, .int nn), (8, .int up9), (9, .int i6)]) hx hb d_Mo_tableIs_234 hl (by decide) rfl (fun ls hl => ?_)
                      obtain ⟨j_230, e_231⟩ : ∃ z : Int32, z = i6 + 1 := ⟨_, rfl⟩
                      refine lv_iinc (v := j_230) (lv' := [(9, .int j_230), (4, .int r_214), (0, .ref m9), (1, .int s9), (2, .int to9), (3, .int m8), (5, .int v_22), (6, .int k9), (7, .int nn), (8, .int up9)]) hx hb d_Mo_tableIs_236 hl (k := 9) rfl e_231.symm (by decide) rfl (fun ls hl => ?_)
                      refine lv_goto (tgt := 203) hx hb d_Mo_tableIs_239 (by decide) ?_
                      have is_232 : j_230.toInt = i6.toInt + 1 := by rw [e_231]; exact iAddK 1 rfl (by omega) (by omega)
                      exact ih203 (mU j_230) ls _ locs _ (by rw [hk203]; exact mU_lt (by omega)) ⟨r_214, j_230, wg_221, rfl, (lv_sub hl [2, 3, 4, 5, 1, 6, 7, 8, 9, 0] rfl), hH, hz, hLo, F_A17, F_A19, F_A20, hT, hkf, F_m9, ⟨⟨by omega, by omega⟩, by omega⟩⟩
                · skip
                  have ic_233 : i7.toInt < 4 := iNe hc_98
                  refine lv_aload_n hx hb d_Mo_tableIs_162 rfl (lv_at hl 0 rfl) ?_
                  refine lv_iload hx hb d_Mo_tableIs_163 (lv_at hl 4 rfl) ?_
                  refine lv_aload_n hx hb d_Mo_tableIs_165 rfl (lv_at hl 0 rfl) ?_
                  refine hm_get (ci := 9) (v := .ref (A 20)) (C := R_Mo) (T := F_Mo) (N := 41) hx hb hts ig_Mo hown hK hH F_m9 rfl 32 (by decide) (hts _ mw_763) (fun _ h9 => h9) rfl d_Mo_tableIs_166 ?_
                  refine lv_iload hx hb d_Mo_tableIs_169 (lv_at hl 6 rfl) ?_
                  refine hm_iald hx hb hK hH 2 F_A20 rfl (iIn (by omega) (by omega)) d_Mo_tableIs_171 ?_
                  refine lv_topi (fun v_234 e_235 => ?_)
                  refine lv_bipush (v := 8) hx hb d_Mo_tableIs_172 (by decide) ?_
                  refine lv_iload_n hx hb d_Mo_tableIs_174 rfl (lv_at hl 3 rfl) ?_
                  refine lv_if_ne (tgt := 183) hx hb d_Mo_tableIs_175 (by decide) (fun hc_236 => ?_) (fun hc_236 => ?_)
                  · skip
                    refine lv_iconst (v := 3) hx hb d_Mo_tableIs_183 (by decide) ?_
                    refine lv_iload hx hb d_Mo_tableIs_184 (lv_at hl 9 rfl) ?_
                    refine lv_isub hx hb d_Mo_tableIs_186 ?_
                    refine lv_topi (fun v_237 e_238 => ?_)
                    refine lv_imul hx hb d_Mo_tableIs_187 ?_
                    refine lv_topi (fun v_239 e_240 => ?_)
                    refine lv_ishr hx hb d_Mo_tableIs_188 ?_
                    refine lv_topi (fun v_241 e_242 => ?_)
                    refine hm_calli (va_runV (As := [.int p7, .int v_241]) (b := m9) (rest := []) ⟨hx, hb, hml, hown, hts⟩ (m_expect l D t G ak av hh156 τ n m9 p7 v_241 A th sd lo le wr ma nu di pl se wg7 op   hn hT T_m9  F_m9 hA ⟨m_92, m_93, (by omega), ⟨by omega, by omega⟩, ⟨by omega, by omega⟩⟩ (by omega) (by omega)) ⟨cw9B 2 hts mw_779 mw_780 mw_579 rfl rfl (by decide +kernel) ⟨Nat.le_of_ble_eq_true rfl, Nat.le_of_ble_eq_true rfl⟩, hts _ mw_781, hts _ mw_782⟩ (hP_V (q := (R_Mo, F_Mo, 41)) kE_ok hE hK hH F_m9 rfl) rfl rfl hl.1 rfl (lv_room (Nat.le_of_ble_eq_true rfl)) d_Mo_tableIs_189 ⟨Nat.le_of_ble_eq_true rfl, Nat.le_of_ble_eq_true rfl⟩) hLo (fun r_243 h_244 H_245 locs hp_247 hH z_246 hLo => ?_)
                    have hz : s.heap.size ≤ H_245.size := Nat.le_trans hz z_246
                    have hT0 := hT
                    obtain ⟨hT, kf_249, xp_248⟩ := hp_247
                    have F_A17 : h_244 (A 17) = some (.inl ((t 2), 31, .inl g_1)) := kf_at kf_249 (hA 17 (by decide)) (by decide) tn0 (nmc (tne (hA 17 (by decide)) T_m9 (by decide)) nm0) F_A17
                    have F_A19 : h_244 (A 19) = some (.inl ((t 2), 31, .inl g_2)) := kf_at kf_249 (hA 19 (by decide)) (by decide) tn0 (nmc (tne (hA 19 (by decide)) T_m9 (by decide)) nm0) F_A19
                    have F_A20 : h_244 (A 20) = some (.inl ((t 2), 31, .inl g_3)) := kf_at kf_249 (hA 20 (by decide)) (by decide) tn0 (nmc (tne (hA 20 (by decide)) T_m9 (by decide)) nm0) F_A20
                    have hkf : kf τ [] [m9] h h_244 := kf_tr hkf kf_249 (List.forall_mem_nil _) (List.forall_mem_cons.mpr ⟨Or.inl (by simp), List.forall_mem_nil _⟩)
                    obtain ⟨wg_250, F_m9, mk_251, xq_252⟩ := xp_248
                    obtain ⟨m_253, m_254, m_255, m_256, m_257⟩ := mk_251
                    have ix_258 := xq_252
                    refine lv_istore (lv' := [(4, .int r_243), (0, .ref m9), (1, .int s9), (2, .int to9), (3, .int m8), (5, .int v_22), (6, .int k9), (7, .int nn), (8, .int up9), (9, .int i7)]) hx hb d_Mo_tableIs_192 hl (by decide) rfl (fun ls hl => ?_)
                    obtain ⟨j_259, e_260⟩ : ∃ z : Int32, z = i7 + 1 := ⟨_, rfl⟩
                    refine lv_iinc (v := j_259) (lv' := [(9, .int j_259), (4, .int r_243), (0, .ref m9), (1, .int s9), (2, .int to9), (3, .int m8), (5, .int v_22), (6, .int k9), (7, .int nn), (8, .int up9)]) hx hb d_Mo_tableIs_194 hl (k := 9) rfl e_260.symm (by decide) rfl (fun ls hl => ?_)
                    refine lv_goto (tgt := 156) hx hb d_Mo_tableIs_197 (by decide) ?_
                    have is_261 : j_259.toInt = i7.toInt + 1 := by rw [e_260]; exact iAddK 1 rfl (by omega) (by omega)
                    exact ih156 (mU j_259) ls _ locs _ (by rw [hk156]; exact mU_lt (by omega)) ⟨r_243, j_259, wg_250, rfl, (lv_sub hl [2, 3, 4, 5, 1, 6, 7, 8, 9, 0] rfl), hH, hz, hLo, F_A17, F_A19, F_A20, hT, hkf, F_m9, ⟨⟨by omega, by omega⟩, by omega⟩⟩
                  · skip
                    have ic_262 : m8.toInt = 0 := congrArg Int32.toInt hc_236
                    refine lv_iload hx hb d_Mo_tableIs_178 (lv_at hl 9 rfl) ?_
                    refine lv_goto (tgt := 187) hx hb d_Mo_tableIs_180 (by decide) ?_
                    refine lv_imul hx hb d_Mo_tableIs_187 ?_
                    refine lv_topi (fun v_263 e_264 => ?_)
                    refine lv_ishr hx hb d_Mo_tableIs_188 ?_
                    refine lv_topi (fun v_265 e_266 => ?_)
                    refine hm_calli (va_runV (As := [.int p7, .int v_265]) (b := m9) (rest := []) ⟨hx, hb, hml, hown, hts⟩ (m_expect l D t G ak av hh156 τ n m9 p7 v_265 A th sd lo le wr ma nu di pl se wg7 op   hn hT T_m9  F_m9 hA ⟨m_92, m_93, (by omega), ⟨by omega, by omega⟩, ⟨by omega, by omega⟩⟩ (by omega) (by omega)) ⟨cw9B 2 hts mw_779 mw_780 mw_579 rfl rfl (by decide +kernel) ⟨Nat.le_of_ble_eq_true rfl, Nat.le_of_ble_eq_true rfl⟩, hts _ mw_781, hts _ mw_782⟩ (hP_V (q := (R_Mo, F_Mo, 41)) kE_ok hE hK hH F_m9 rfl) rfl rfl hl.1 rfl (lv_room (Nat.le_of_ble_eq_true rfl)) d_Mo_tableIs_189 ⟨Nat.le_of_ble_eq_true rfl, Nat.le_of_ble_eq_true rfl⟩) hLo (fun r_267 h_268 H_269 locs hp_271 hH z_270 hLo => ?_)
                    have hz : s.heap.size ≤ H_269.size := Nat.le_trans hz z_270
                    have hT0 := hT
                    obtain ⟨hT, kf_273, xp_272⟩ := hp_271
                    have F_A17 : h_268 (A 17) = some (.inl ((t 2), 31, .inl g_1)) := kf_at kf_273 (hA 17 (by decide)) (by decide) tn0 (nmc (tne (hA 17 (by decide)) T_m9 (by decide)) nm0) F_A17
                    have F_A19 : h_268 (A 19) = some (.inl ((t 2), 31, .inl g_2)) := kf_at kf_273 (hA 19 (by decide)) (by decide) tn0 (nmc (tne (hA 19 (by decide)) T_m9 (by decide)) nm0) F_A19
                    have F_A20 : h_268 (A 20) = some (.inl ((t 2), 31, .inl g_3)) := kf_at kf_273 (hA 20 (by decide)) (by decide) tn0 (nmc (tne (hA 20 (by decide)) T_m9 (by decide)) nm0) F_A20
                    have hkf : kf τ [] [m9] h h_268 := kf_tr hkf kf_273 (List.forall_mem_nil _) (List.forall_mem_cons.mpr ⟨Or.inl (by simp), List.forall_mem_nil _⟩)
                    obtain ⟨wg_274, F_m9, mk_275, xq_276⟩ := xp_272
                    obtain ⟨m_277, m_278, m_279, m_280, m_281⟩ := mk_275
                    have ix_282 := xq_276
                    refine lv_istore (lv' := [(4, .int r_267), (0, .ref m9), (1, .int s9), (2, .int to9), (3, .int m8), (5, .int v_22), (6, .int k9), (7, .int nn), (8, .int up9), (9, .int i7)]) hx hb d_Mo_tableIs_192 hl (by decide) rfl (fun ls hl => ?_)
                    obtain ⟨j_283, e_284⟩ : ∃ z : Int32, z = i7 + 1 := ⟨_, rfl⟩
                    refine lv_iinc (v := j_283) (lv' := [(9, .int j_283), (4, .int r_267), (0, .ref m9), (1, .int s9), (2, .int to9), (3, .int m8), (5, .int v_22), (6, .int k9), (7, .int nn), (8, .int up9)]) hx hb d_Mo_tableIs_194 hl (k := 9) rfl e_284.symm (by decide) rfl (fun ls hl => ?_)
                    refine lv_goto (tgt := 156) hx hb d_Mo_tableIs_197 (by decide) ?_
                    have is_285 : j_283.toInt = i7.toInt + 1 := by rw [e_284]; exact iAddK 1 rfl (by omega) (by omega)
                    exact ih156 (mU j_283) ls _ locs _ (by rw [hk156]; exact mU_lt (by omega)) ⟨r_267, j_283, wg_274, rfl, (lv_sub hl [2, 3, 4, 5, 1, 6, 7, 8, 9, 0] rfl), hH, hz, hLo, F_A17, F_A19, F_A20, hT, hkf, F_m9, ⟨⟨by omega, by omega⟩, by omega⟩⟩
              · skip
                have ic_286 : q9.toInt = 0 := congrArg Int32.toInt hc_65
                refine lv_iload hx hb d_Mo_tableIs_103 (lv_at hl 6 rfl) ?_
                refine lv_if_ne (tgt := 134) hx hb d_Mo_tableIs_105 (by decide) (fun hc_287 => ?_) (fun hc_287 => ?_)
                · skip
                  refine lv_aload_n hx hb d_Mo_tableIs_134 rfl (lv_at hl 0 rfl) ?_
                  refine lv_iload hx hb d_Mo_tableIs_135 (lv_at hl 4 rfl) ?_
                  refine lv_iload hx hb d_Mo_tableIs_137 (lv_at hl 7 rfl) ?_
                  refine hm_calli (va_runV (As := [.int pp, .int nn]) (b := m9) (rest := []) ⟨hx, hb, hml, hown, hts⟩ (m_expect l D t G ak av hh37 τ n m9 pp nn A th sd lo le wr ma nu di pl se wg8 op   hn hT T_m9  F_m9 hA ⟨hsd, hlo, (by omega), ⟨by omega, by omega⟩, ⟨by omega, by omega⟩⟩ (by omega) (by omega)) ⟨cw9B 2 hts mw_779 mw_780 mw_579 rfl rfl (by decide +kernel) ⟨Nat.le_of_ble_eq_true rfl, Nat.le_of_ble_eq_true rfl⟩, hts _ mw_781, hts _ mw_782⟩ (hP_V (q := (R_Mo, F_Mo, 41)) kE_ok hE hK hH F_m9 rfl) rfl rfl hl.1 rfl (lv_room (Nat.le_of_ble_eq_true rfl)) d_Mo_tableIs_139 ⟨Nat.le_of_ble_eq_true rfl, Nat.le_of_ble_eq_true rfl⟩) hLo (fun r_288 h_289 H_290 locs hp_292 hH z_291 hLo => ?_)
                  have hz : s.heap.size ≤ H_290.size := Nat.le_trans hz z_291
                  have hT0 := hT
                  obtain ⟨hT, kf_294, xp_293⟩ := hp_292
                  have F_A17 : h_289 (A 17) = some (.inl ((t 2), 31, .inl g_1)) := kf_at kf_294 (hA 17 (by decide)) (by decide) tn0 (nmc (tne (hA 17 (by decide)) T_m9 (by decide)) nm0) F_A17
                  have F_A19 : h_289 (A 19) = some (.inl ((t 2), 31, .inl g_2)) := kf_at kf_294 (hA 19 (by decide)) (by decide) tn0 (nmc (tne (hA 19 (by decide)) T_m9 (by decide)) nm0) F_A19
                  have F_A20 : h_289 (A 20) = some (.inl ((t 2), 31, .inl g_3)) := kf_at kf_294 (hA 20 (by decide)) (by decide) tn0 (nmc (tne (hA 20 (by decide)) T_m9 (by decide)) nm0) F_A20
                  have F_A18 : h_289 (A 18) = some (.inl ((t 1), 31, .inl g_38)) := kf_at kf_294 (hA 18 (by decide)) (by decide) tn0 (nmc (tne (hA 18 (by decide)) T_m9 (by decide)) nm0) F_A18
                  have hkf : kf τ [] [m9] h h_289 := kf_tr hkf kf_294 (List.forall_mem_nil _) (List.forall_mem_cons.mpr ⟨Or.inl (by simp), List.forall_mem_nil _⟩)
                  obtain ⟨wg_295, F_m9, mk_296, xq_297⟩ := xp_293
                  obtain ⟨m_298, m_299, m_300, m_301, m_302⟩ := mk_296
                  have ix_303 := xq_297
                  refine lv_istore (lv' := [(4, .int r_288), (0, .ref m9), (1, .int s9), (2, .int to9), (3, .int m8), (5, .int v_22), (6, .int k9), (7, .int nn), (8, .int up9), (9, .int q9)]) hx hb d_Mo_tableIs_142 hl (by decide) rfl (fun ls hl => ?_)
                  refine lv_aload_n hx hb d_Mo_tableIs_144 rfl (lv_at hl 1 rfl) ?_
                  refine lv_iload hx hb d_Mo_tableIs_145 (lv_at hl 0 rfl) ?_
                  refine lv_iconst (v := 0) hx hb d_Mo_tableIs_147 (by decide) ?_
                  refine hm_calli (va_runV (As := [.int r_288, .int 0]) (b := m9) (rest := []) ⟨hx, hb, hml, hown, hts⟩ (m_expect l D t G ak av h_289 τ n m9 r_288 0 A th sd lo le wr ma nu di pl se wg_295 op   hn hT T_m9  F_m9 hA ⟨m_298, m_299, (by omega), ⟨by omega, by omega⟩, ⟨by omega, by omega⟩⟩ (by omega) (by omega)) ⟨cw9B 2 hts mw_779 mw_780 mw_579 rfl rfl (by decide +kernel) ⟨Nat.le_of_ble_eq_true rfl, Nat.le_of_ble_eq_true rfl⟩, hts _ mw_781, hts _ mw_782⟩ (hP_V (q := (R_Mo, F_Mo, 41)) kE_ok hE hK hH F_m9 rfl) rfl rfl hl.1 rfl (lv_room (Nat.le_of_ble_eq_true rfl)) d_Mo_tableIs_148 ⟨Nat.le_of_ble_eq_true rfl, Nat.le_of_ble_eq_true rfl⟩) hLo (fun r_304 h_305 H_306 locs hp_308 hH z_307 hLo => ?_)
                  have hz : s.heap.size ≤ H_306.size := Nat.le_trans hz z_307
                  have hT0 := hT
                  obtain ⟨hT, kf_310, xp_309⟩ := hp_308
                  have F_A17 : h_305 (A 17) = some (.inl ((t 2), 31, .inl g_1)) := kf_at kf_310 (hA 17 (by decide)) (by decide) tn0 (nmc (tne (hA 17 (by decide)) T_m9 (by decide)) nm0) F_A17
                  have F_A19 : h_305 (A 19) = some (.inl ((t 2), 31, .inl g_2)) := kf_at kf_310 (hA 19 (by decide)) (by decide) tn0 (nmc (tne (hA 19 (by decide)) T_m9 (by decide)) nm0) F_A19
                  have F_A20 : h_305 (A 20) = some (.inl ((t 2), 31, .inl g_3)) := kf_at kf_310 (hA 20 (by decide)) (by decide) tn0 (nmc (tne (hA 20 (by decide)) T_m9 (by decide)) nm0) F_A20
                  have F_A18 : h_305 (A 18) = some (.inl ((t 1), 31, .inl g_38)) := kf_at kf_310 (hA 18 (by decide)) (by decide) tn0 (nmc (tne (hA 18 (by decide)) T_m9 (by decide)) nm0) F_A18
                  have hkf : kf τ [] [m9] h h_305 := kf_tr hkf kf_310 (List.forall_mem_nil _) (List.forall_mem_cons.mpr ⟨Or.inl (by simp), List.forall_mem_nil _⟩)
                  obtain ⟨wg_311, F_m9, mk_312, xq_313⟩ := xp_309
                  obtain ⟨m_314, m_315, m_316, m_317, m_318⟩ := mk_312
                  have ix_319 := xq_313
                  refine lv_istore (lv' := [(4, .int r_304), (0, .ref m9), (1, .int s9), (2, .int to9), (3, .int m8), (5, .int v_22), (6, .int k9), (7, .int nn), (8, .int up9), (9, .int q9)]) hx hb d_Mo_tableIs_151 hl (by decide) rfl (fun ls hl => ?_)
                  refine lv_iconst (v := 0) hx hb d_Mo_tableIs_153 (by decide) ?_
                  refine lv_istore (lv' := [(9, .int 0), (4, .int r_304), (0, .ref m9), (1, .int s9), (2, .int to9), (3, .int m8), (5, .int v_22), (6, .int k9), (7, .int nn), (8, .int up9)]) hx hb d_Mo_tableIs_154 hl (by decide) rfl (fun ls hl => ?_)
                  refine hm_loop (fun k156 ls H locs hh156 => ∃ (p7 : Int32) (i7 : Int32) (wg7 : Int32), k156 = mU i7 ∧ lv_has ls 10 [(0, .ref m9), (1, .int s9), (2, .int to9), (3, .int m8), (4, .int p7), (5, .int v_22), (6, .int k9), (7, .int nn), (8, .int up9), (9, .int i7)] ∧ hm D vwCl G hh156 H ∧ s.heap.size ≤ H.size ∧ hLc G.P locs ∧ hh156 (A 17) = some (.inl ((t 2), 31, .inl g_1)) ∧ hh156 (A 19) = some (.inl ((t 2), 31, .inl g_2)) ∧ hh156 (A 20) = some (.inl ((t 2), 31, .inl g_3)) ∧ (TI τ t n hh156) ∧ (kf τ [] [m9] h hh156) ∧ (hh156 m9 = some (.inr (9, mf A n th sd lo le wr ma nu di pl se wg7 op))) ∧ ((0 ≤ i7.toInt ∧ (i7.toInt ≤ 4 ∨ i7.toInt = 0)) ∧ p7.toInt = r_304.toInt + i7.toInt)) ?_ (hh := h_305) ⟨r_304, 0, wg_311, rfl, (lv_sub hl [2, 3, 4, 5, 1, 6, 7, 8, 9, 0] rfl), hH, hz, hLo, F_A17, F_A19, F_A20, hT, hkf, F_m9, ⟨⟨by decide, Or.inr rfl⟩, by rw [show (0 : Int32).toInt = 0 from rfl]; omega⟩⟩
                  rintro k156 ls H locs hh156 ⟨p7, i7, wg7, hk156, hl, hH, hz, hLo, F_A17, F_A19, F_A20, hT, hkf, F_m9, I_i7⟩ ih156
                  refine lv_iload hx hb d_Mo_tableIs_156 (lv_at hl 9 rfl) ?_
                  refine lv_iconst (v := 4) hx hb d_Mo_tableIs_158 (by decide) ?_
                  refine lv_icmp_ge (tgt := 200) hx hb d_Mo_tableIs_159 (by decide) (fun hc_320 => ?_) (fun hc_320 => ?_)
                  · skip
                    have ic_321 : 4 ≤ i7.toInt := iLe hc_320
                    refine lv_iconst (v := 0) hx hb d_Mo_tableIs_200 (by decide) ?_
                    refine lv_istore (lv' := [(9, .int 0), (0, .ref m9), (1, .int s9), (2, .int to9), (3, .int m8), (4, .int p7), (5, .int v_22), (6, .int k9), (7, .int nn), (8, .int up9)]) hx hb d_Mo_tableIs_201 hl (by decide) rfl (fun ls hl => ?_)
                    refine hm_loop (fun k203 ls H locs hh203 => ∃ (p6 : Int32) (i6 : Int32) (wg6 : Int32), k203 = mU i6 ∧ lv_has ls 10 [(0, .ref m9), (1, .int s9), (2, .int to9), (3, .int m8), (4, .int p6), (5, .int v_22), (6, .int k9), (7, .int nn), (8, .int up9), (9, .int i6)] ∧ hm D vwCl G hh203 H ∧ s.heap.size ≤ H.size ∧ hLc G.P locs ∧ hh203 (A 17) = some (.inl ((t 2), 31, .inl g_1)) ∧ hh203 (A 19) = some (.inl ((t 2), 31, .inl g_2)) ∧ hh203 (A 20) = some (.inl ((t 2), 31, .inl g_3)) ∧ (TI τ t n hh203) ∧ (kf τ [] [m9] h hh203) ∧ (hh203 m9 = some (.inr (9, mf A n th sd lo le wr ma nu di pl se wg6 op))) ∧ ((0 ≤ i6.toInt ∧ (i6.toInt ≤ 2 ∨ i6.toInt = 0)) ∧ p6.toInt = p7.toInt + i6.toInt)) ?_ (hh := hh156) ⟨p7, 0, wg7, rfl, (lv_sub hl [1, 2, 3, 4, 5, 6, 7, 8, 9, 0] rfl), hH, hz, hLo, F_A17, F_A19, F_A20, hT, hkf, F_m9, ⟨⟨by decide, Or.inr rfl⟩, by rw [show (0 : Int32).toInt = 0 from rfl]; omega⟩⟩
                    rintro k203 ls H locs hh203 ⟨p6, i6, wg6, hk203, hl, hH, hz, hLo, F_A17, F_A19, F_A20, hT, hkf, F_m9, I_i6⟩ ih203
                    refine lv_iload hx hb d_Mo_tableIs_203 (lv_at hl 9 rfl) ?_
                    refine lv_iconst (v := 2) hx hb d_Mo_tableIs_205 (by decide) ?_
                    refine lv_icmp_ge (tgt := 242) hx hb d_Mo_tableIs_206 (by decide) (fun hc_322 => ?_) (fun hc_322 => ?_)
                    · skip
                      have ic_323 : 2 ≤ i6.toInt := iLe hc_322
                      refine lv_iconst (v := 0) hx hb d_Mo_tableIs_242 (by decide) ?_
                      refine lv_istore (lv' := [(9, .int 0), (0, .ref m9), (1, .int s9), (2, .int to9), (3, .int m8), (4, .int p6), (5, .int v_22), (6, .int k9), (7, .int nn), (8, .int up9)]) hx hb d_Mo_tableIs_243 hl (by decide) rfl (fun ls hl => ?_)
                      refine hm_loop (fun k245 ls H locs hh245 => ∃ (p5 : Int32) (i5 : Int32) (wg5 : Int32), k245 = mU i5 ∧ lv_has ls 10 [(0, .ref m9), (1, .int s9), (2, .int to9), (3, .int m8), (4, .int p5), (5, .int v_22), (6, .int k9), (7, .int nn), (8, .int up9), (9, .int i5)] ∧ hm D vwCl G hh245 H ∧ s.heap.size ≤ H.size ∧ hLc G.P locs ∧ hh245 (A 17) = some (.inl ((t 2), 31, .inl g_1)) ∧ hh245 (A 19) = some (.inl ((t 2), 31, .inl g_2)) ∧ hh245 (A 20) = some (.inl ((t 2), 31, .inl g_3)) ∧ (TI τ t n hh245) ∧ (kf τ [] [m9] h hh245) ∧ (hh245 m9 = some (.inr (9, mf A n th sd lo le wr ma nu di pl se wg5 op))) ∧ ((0 ≤ i5.toInt ∧ (i5.toInt ≤ nn.toInt ∨ i5.toInt = 0)) ∧ p5.toInt = p6.toInt + i5.toInt)) ?_ (hh := hh203) ⟨p6, 0, wg6, rfl, (lv_sub hl [1, 2, 3, 4, 5, 6, 7, 8, 9, 0] rfl), hH, hz, hLo, F_A17, F_A19, F_A20, hT, hkf, F_m9, ⟨⟨by decide, Or.inr rfl⟩, by rw [show (0 : Int32).toInt = 0 from rfl]; omega⟩⟩
                      rintro k245 ls H locs hh245 ⟨p5, i5, wg5, hk245, hl, hH, hz, hLo, F_A17, F_A19, F_A20, hT, hkf, F_m9, I_i5⟩ ih245
                      refine lv_iload hx hb d_Mo_tableIs_245 (lv_at hl 9 rfl) ?_
                      refine lv_iload hx hb d_Mo_tableIs_247 (lv_at hl 7 rfl) ?_
                      refine lv_icmp_ge (tgt := 287) hx hb d_Mo_tableIs_249 (by decide) (fun hc_324 => ?_) (fun hc_324 => ?_)
                      · skip
                        have ic_325 : nn.toInt ≤ i5.toInt := iLe hc_324
                        refine lv_iload hx hb d_Mo_tableIs_287 (lv_at hl 7 rfl) ?_
                        refine lv_iconst (v := 2) hx hb d_Mo_tableIs_289 (by decide) ?_
                        refine lv_irem hx hb d_Mo_tableIs_290 (by decide) ?_
                        refine lv_topi (fun v_326 e_327 => ?_)
                        have id_328 : 0 ≤ nn.toInt → v_326.toInt = nn.toInt % 2 := fun h9 => by rw [e_327]; exact i_mod (d := 2) (by decide) h9
                        refine lv_iconst (v := 1) hx hb d_Mo_tableIs_291 (by decide) ?_
                        refine lv_icmp_ne (tgt := 304) hx hb d_Mo_tableIs_292 (by decide) (fun hc_329 => ?_) (fun hc_329 => ?_)
                        · skip
                          obtain ⟨j_330, e_331⟩ : ∃ z : Int32, z = k9 + 1 := ⟨_, rfl⟩
                          refine lv_iinc (v := j_330) (lv' := [(6, .int j_330), (0, .ref m9), (1, .int s9), (2, .int to9), (3, .int m8), (4, .int p5), (5, .int v_22), (7, .int nn), (8, .int up9), (9, .int i5)]) hx hb d_Mo_tableIs_304 hl (k := 6) rfl e_331.symm (by decide) rfl (fun ls hl => ?_)
                          refine lv_goto (tgt := 37) hx hb d_Mo_tableIs_307 (by decide) ?_
                          have is_332 : j_330.toInt = k9.toInt + 1 := by rw [e_331]; exact iAddK 1 rfl (by omega) (by omega)
                          exact ih37 (mU j_330) ls _ locs _ (by rw [hk37]; exact mU_lt (by omega)) ⟨p5, j_330, wg5, rfl, (lv_sub hl [1, 2, 3, 4, 5, 6, 0] rfl), hH, hz, hLo, F_A17, F_A19, F_A20, hT, hkf, F_m9, ⟨⟨by omega, by omega⟩, by omega, by omega⟩⟩
                        · skip
                          have ic_333 : v_326.toInt = 1 := congrArg Int32.toInt hc_329
                          refine lv_aload_n hx hb d_Mo_tableIs_295 rfl (lv_at hl 0 rfl) ?_
                          refine lv_iload hx hb d_Mo_tableIs_296 (lv_at hl 4 rfl) ?_
                          refine lv_iconst (v := 0) hx hb d_Mo_tableIs_298 (by decide) ?_
                          refine hm_calli (va_runV (As := [.int p5, .int 0]) (b := m9) (rest := []) ⟨hx, hb, hml, hown, hts⟩ (m_expect l D t G ak av hh245 τ n m9 p5 0 A th sd lo le wr ma nu di pl se wg5 op   hn hT T_m9  F_m9 hA ⟨m_314, m_315, (by omega), ⟨by omega, by omega⟩, ⟨by omega, by omega⟩⟩ (by omega) (by omega)) ⟨cw9B 2 hts mw_779 mw_780 mw_579 rfl rfl (by decide +kernel) ⟨Nat.le_of_ble_eq_true rfl, Nat.le_of_ble_eq_true rfl⟩, hts _ mw_781, hts _ mw_782⟩ (hP_V (q := (R_Mo, F_Mo, 41)) kE_ok hE hK hH F_m9 rfl) rfl rfl hl.1 rfl (lv_room (Nat.le_of_ble_eq_true rfl)) d_Mo_tableIs_299 ⟨Nat.le_of_ble_eq_true rfl, Nat.le_of_ble_eq_true rfl⟩) hLo (fun r_334 h_335 H_336 locs hp_338 hH z_337 hLo => ?_)
                          have hz : s.heap.size ≤ H_336.size := Nat.le_trans hz z_337
                          have hT0 := hT
                          obtain ⟨hT, kf_340, xp_339⟩ := hp_338
                          have F_A17 : h_335 (A 17) = some (.inl ((t 2), 31, .inl g_1)) := kf_at kf_340 (hA 17 (by decide)) (by decide) tn0 (nmc (tne (hA 17 (by decide)) T_m9 (by decide)) nm0) F_A17
                          have F_A19 : h_335 (A 19) = some (.inl ((t 2), 31, .inl g_2)) := kf_at kf_340 (hA 19 (by decide)) (by decide) tn0 (nmc (tne (hA 19 (by decide)) T_m9 (by decide)) nm0) F_A19
                          have F_A20 : h_335 (A 20) = some (.inl ((t 2), 31, .inl g_3)) := kf_at kf_340 (hA 20 (by decide)) (by decide) tn0 (nmc (tne (hA 20 (by decide)) T_m9 (by decide)) nm0) F_A20
                          have hkf : kf τ [] [m9] h h_335 := kf_tr hkf kf_340 (List.forall_mem_nil _) (List.forall_mem_cons.mpr ⟨Or.inl (by simp), List.forall_mem_nil _⟩)
                          obtain ⟨wg_341, F_m9, mk_342, xq_343⟩ := xp_339
                          obtain ⟨m_344, m_345, m_346, m_347, m_348⟩ := mk_342
                          have ix_349 := xq_343
                          refine lv_istore (lv' := [(4, .int r_334), (0, .ref m9), (1, .int s9), (2, .int to9), (3, .int m8), (5, .int v_22), (6, .int k9), (7, .int nn), (8, .int up9), (9, .int i5)]) hx hb d_Mo_tableIs_302 hl (by decide) rfl (fun ls hl => ?_)
                          obtain ⟨j_350, e_351⟩ : ∃ z : Int32, z = k9 + 1 := ⟨_, rfl⟩
                          refine lv_iinc (v := j_350) (lv' := [(6, .int j_350), (4, .int r_334), (0, .ref m9), (1, .int s9), (2, .int to9), (3, .int m8), (5, .int v_22), (7, .int nn), (8, .int up9), (9, .int i5)]) hx hb d_Mo_tableIs_304 hl (k := 6) rfl e_351.symm (by decide) rfl (fun ls hl => ?_)
                          refine lv_goto (tgt := 37) hx hb d_Mo_tableIs_307 (by decide) ?_
                          have is_352 : j_350.toInt = k9.toInt + 1 := by rw [e_351]; exact iAddK 1 rfl (by omega) (by omega)
                          exact ih37 (mU j_350) ls _ locs _ (by rw [hk37]; exact mU_lt (by omega)) ⟨r_334, j_350, wg_341, rfl, (lv_sub hl [2, 3, 4, 5, 1, 6, 0] rfl), hH, hz, hLo, F_A17, F_A19, F_A20, hT, hkf, F_m9, ⟨⟨by omega, by omega⟩, by omega, by omega⟩⟩
                      · skip
                        have ic_353 : i5.toInt < nn.toInt := iNe hc_324
                        have iu_354 : nn.toInt < 2147483648 := iUp _
                        refine lv_aload_n hx hb d_Mo_tableIs_252 rfl (lv_at hl 0 rfl) ?_
                        refine lv_iload hx hb d_Mo_tableIs_253 (lv_at hl 4 rfl) ?_
                        refine lv_iload hx hb d_Mo_tableIs_255 (lv_at hl 6 rfl) ?_
                        refine lv_if_ne (tgt := 264) hx hb d_Mo_tableIs_257 (by decide) (fun hc_355 => ?_) (fun hc_355 => ?_)
                        · skip
                          refine lv_aload_n hx hb d_Mo_tableIs_264 rfl (lv_at hl 0 rfl) ?_
                          refine hm_get (ci := 9) (v := .ref (A 21)) (C := R_Mo) (T := F_Mo) (N := 41) hx hb hts ig_Mo hown hK hH F_m9 rfl 33 (by decide) (hts _ mw_765) (fun _ h9 => h9) rfl d_Mo_tableIs_265 ?_
                          refine lv_iload hx hb d_Mo_tableIs_268 (lv_at hl 6 rfl) ?_
                          obtain ⟨g_356, F_A21⟩ := TI_arJ (L := 31) hT (hA 21 (by decide)) rfl rfl
                          refine hm_lald hx hb hK hH 3 F_A21 rfl (iIn (by omega) (by omega)) d_Mo_tableIs_270 ?_
                          refine lv_topl (fun v_357 e_358 => ?_)
                          refine lv_iload hx hb d_Mo_tableIs_271 (lv_at hl 9 rfl) ?_
                          refine hm_callPi (va_runS (As := [.long v_357, .int i5]) (rest := [.int p5, .ref m9]) ⟨hx, hb, hml, hown, hts⟩ (m_letter2 l D t G ak av hh245 τ n v_357 i5    hn hT    ) ⟨cw9B 2 hts mw_637 mw_638 mw_579 rfl rfl (by decide +kernel) ⟨Nat.le_of_ble_eq_true rfl, Nat.le_of_ble_eq_true rfl⟩, hts _ mw_639⟩ (hP_S kE_ok hE hH) rfl rfl hl.1 rfl (lv_room (Nat.le_of_ble_eq_true rfl)) d_Mo_tableIs_273 ⟨Nat.le_of_ble_eq_true rfl, Nat.le_of_ble_eq_true rfl⟩) (fun r_359 h_360 H_361 hp_363  hH z_362 => ?_)
                          have hz : s.heap.size ≤ H_361.size := Nat.le_trans hz z_362
                          obtain ⟨xp_364, rfl⟩ := hp_363
                          refine hm_calli (va_runV (As := [.int p5, .int r_359]) (b := m9) (rest := []) ⟨hx, hb, hml, hown, hts⟩ (m_expect l D t G ak av hh245 τ n m9 p5 r_359 A th sd lo le wr ma nu di pl se wg5 op   hn hT T_m9  F_m9 hA ⟨m_314, m_315, (by omega), ⟨by omega, by omega⟩, ⟨by omega, by omega⟩⟩ (by omega) (by omega)) ⟨cw9B 2 hts mw_779 mw_780 mw_579 rfl rfl (by decide +kernel) ⟨Nat.le_of_ble_eq_true rfl, Nat.le_of_ble_eq_true rfl⟩, hts _ mw_781, hts _ mw_782⟩ (hP_V (q := (R_Mo, F_Mo, 41)) kE_ok hE hK hH F_m9 rfl) rfl rfl hl.1 rfl (lv_room (Nat.le_of_ble_eq_true rfl)) d_Mo_tableIs_276 ⟨Nat.le_of_ble_eq_true rfl, Nat.le_of_ble_eq_true rfl⟩) hLo (fun r_365 h_366 H_367 locs hp_369 hH z_368 hLo => ?_)
                          have hz : s.heap.size ≤ H_367.size := Nat.le_trans hz z_368
                          have hT0 := hT
                          obtain ⟨hT, kf_371, xp_370⟩ := hp_369
                          have F_A17 : h_366 (A 17) = some (.inl ((t 2), 31, .inl g_1)) := kf_at kf_371 (hA 17 (by decide)) (by decide) tn0 (nmc (tne (hA 17 (by decide)) T_m9 (by decide)) nm0) F_A17
                          have F_A19 : h_366 (A 19) = some (.inl ((t 2), 31, .inl g_2)) := kf_at kf_371 (hA 19 (by decide)) (by decide) tn0 (nmc (tne (hA 19 (by decide)) T_m9 (by decide)) nm0) F_A19
                          have F_A20 : h_366 (A 20) = some (.inl ((t 2), 31, .inl g_3)) := kf_at kf_371 (hA 20 (by decide)) (by decide) tn0 (nmc (tne (hA 20 (by decide)) T_m9 (by decide)) nm0) F_A20
                          have F_A21 : h_366 (A 21) = some (.inl ((t 3), 31, .inr (.inl g_356))) := kf_at kf_371 (hA 21 (by decide)) (by decide) tn0 (nmc (tne (hA 21 (by decide)) T_m9 (by decide)) nm0) F_A21
                          have hkf : kf τ [] [m9] h h_366 := kf_tr hkf kf_371 (List.forall_mem_nil _) (List.forall_mem_cons.mpr ⟨Or.inl (by simp), List.forall_mem_nil _⟩)
                          obtain ⟨wg_372, F_m9, mk_373, xq_374⟩ := xp_370
                          obtain ⟨m_375, m_376, m_377, m_378, m_379⟩ := mk_373
                          have ix_380 := xq_374
                          refine lv_istore (lv' := [(4, .int r_365), (0, .ref m9), (1, .int s9), (2, .int to9), (3, .int m8), (5, .int v_22), (6, .int k9), (7, .int nn), (8, .int up9), (9, .int i5)]) hx hb d_Mo_tableIs_279 hl (by decide) rfl (fun ls hl => ?_)
                          obtain ⟨j_381, e_382⟩ : ∃ z : Int32, z = i5 + 1 := ⟨_, rfl⟩
                          refine lv_iinc (v := j_381) (lv' := [(9, .int j_381), (4, .int r_365), (0, .ref m9), (1, .int s9), (2, .int to9), (3, .int m8), (5, .int v_22), (6, .int k9), (7, .int nn), (8, .int up9)]) hx hb d_Mo_tableIs_281 hl (k := 9) rfl e_382.symm (by decide) rfl (fun ls hl => ?_)
                          refine lv_goto (tgt := 245) hx hb d_Mo_tableIs_284 (by decide) ?_
                          have is_383 : j_381.toInt = i5.toInt + 1 := by rw [e_382]; exact iAddK 1 rfl (by omega) (by omega)
                          exact ih245 (mU j_381) ls _ locs _ (by rw [hk245]; exact mU_lt (by omega)) ⟨r_365, j_381, wg_372, rfl, (lv_sub hl [2, 3, 4, 5, 1, 6, 7, 8, 9, 0] rfl), hH, hz, hLo, F_A17, F_A19, F_A20, hT, hkf, F_m9, ⟨⟨by omega, by omega⟩, by omega⟩⟩
                        · skip
                          have ic_384 : k9.toInt = 0 := congrArg Int32.toInt hc_355
                          refine lv_iconst (v := 0) hx hb d_Mo_tableIs_260 (by decide) ?_
                          refine lv_goto (tgt := 276) hx hb d_Mo_tableIs_261 (by decide) ?_
                          refine hm_calli (va_runV (As := [.int p5, .int 0]) (b := m9) (rest := []) ⟨hx, hb, hml, hown, hts⟩ (m_expect l D t G ak av hh245 τ n m9 p5 0 A th sd lo le wr ma nu di pl se wg5 op   hn hT T_m9  F_m9 hA ⟨m_314, m_315, (by omega), ⟨by omega, by omega⟩, ⟨by omega, by omega⟩⟩ (by omega) (by omega)) ⟨cw9B 2 hts mw_779 mw_780 mw_579 rfl rfl (by decide +kernel) ⟨Nat.le_of_ble_eq_true rfl, Nat.le_of_ble_eq_true rfl⟩, hts _ mw_781, hts _ mw_782⟩ (hP_V (q := (R_Mo, F_Mo, 41)) kE_ok hE hK hH F_m9 rfl) rfl rfl hl.1 rfl (lv_room (Nat.le_of_ble_eq_true rfl)) d_Mo_tableIs_276 ⟨Nat.le_of_ble_eq_true rfl, Nat.le_of_ble_eq_true rfl⟩) hLo (fun r_385 h_386 H_387 locs hp_389 hH z_388 hLo => ?_)
                          have hz : s.heap.size ≤ H_387.size := Nat.le_trans hz z_388
                          have hT0 := hT
                          obtain ⟨hT, kf_391, xp_390⟩ := hp_389
                          have F_A17 : h_386 (A 17) = some (.inl ((t 2), 31, .inl g_1)) := kf_at kf_391 (hA 17 (by decide)) (by decide) tn0 (nmc (tne (hA 17 (by decide)) T_m9 (by decide)) nm0) F_A17
                          have F_A19 : h_386 (A 19) = some (.inl ((t 2), 31, .inl g_2)) := kf_at kf_391 (hA 19 (by decide)) (by decide) tn0 (nmc (tne (hA 19 (by decide)) T_m9 (by decide)) nm0) F_A19
                          have F_A20 : h_386 (A 20) = some (.inl ((t 2), 31, .inl g_3)) := kf_at kf_391 (hA 20 (by decide)) (by decide) tn0 (nmc (tne (hA 20 (by decide)) T_m9 (by decide)) nm0) F_A20
                          have hkf : kf τ [] [m9] h h_386 := kf_tr hkf kf_391 (List.forall_mem_nil _) (List.forall_mem_cons.mpr ⟨Or.inl (by simp), List.forall_mem_nil _⟩)
                          obtain ⟨wg_392, F_m9, mk_393, xq_394⟩ := xp_390
                          obtain ⟨m_395, m_396, m_397, m_398, m_399⟩ := mk_393
                          have ix_400 := xq_394
                          refine lv_istore (lv' := [(4, .int r_385), (0, .ref m9), (1, .int s9), (2, .int to9), (3, .int m8), (5, .int v_22), (6, .int k9), (7, .int nn), (8, .int up9), (9, .int i5)]) hx hb d_Mo_tableIs_279 hl (by decide) rfl (fun ls hl => ?_)
                          obtain ⟨j_401, e_402⟩ : ∃ z : Int32, z = i5 + 1 := ⟨_, rfl⟩
                          refine lv_iinc (v := j_401) (lv' := [(9, .int j_401), (4, .int r_385), (0, .ref m9), (1, .int s9), (2, .int to9), (3, .int m8), (5, .int v_22), (6, .int k9), (7, .int nn), (8, .int up9)]) hx hb d_Mo_tableIs_281 hl (k := 9) rfl e_402.symm (by decide) rfl (fun ls hl => ?_)
                          refine lv_goto (tgt := 245) hx hb d_Mo_tableIs_284 (by decide) ?_
                          have is_403 : j_401.toInt = i5.toInt + 1 := by rw [e_402]; exact iAddK 1 rfl (by omega) (by omega)
                          exact ih245 (mU j_401) ls _ locs _ (by rw [hk245]; exact mU_lt (by omega)) ⟨r_385, j_401, wg_392, rfl, (lv_sub hl [2, 3, 4, 5, 1, 6, 7, 8, 9, 0] rfl), hH, hz, hLo, F_A17, F_A19, F_A20, hT, hkf, F_m9, ⟨⟨by omega, by omega⟩, by omega⟩⟩
                    · skip
                      have ic_404 : i6.toInt < 2 := iNe hc_322
                      refine lv_aload_n hx hb d_Mo_tableIs_209 rfl (lv_at hl 0 rfl) ?_
                      refine lv_iload hx hb d_Mo_tableIs_210 (lv_at hl 4 rfl) ?_
                      refine lv_iload hx hb d_Mo_tableIs_212 (lv_at hl 8 rfl) ?_
                      refine lv_bipush (v := 8) hx hb d_Mo_tableIs_214 (by decide) ?_
                      refine lv_iload_n hx hb d_Mo_tableIs_216 rfl (lv_at hl 3 rfl) ?_
                      refine lv_if_ne (tgt := 225) hx hb d_Mo_tableIs_217 (by decide) (fun hc_405 => ?_) (fun hc_405 => ?_)
                      · skip
                        refine lv_iconst (v := 1) hx hb d_Mo_tableIs_225 (by decide) ?_
                        refine lv_iload hx hb d_Mo_tableIs_226 (lv_at hl 9 rfl) ?_
                        refine lv_isub hx hb d_Mo_tableIs_228 ?_
                        refine lv_topi (fun v_406 e_407 => ?_)
                        refine lv_imul hx hb d_Mo_tableIs_229 ?_
                        refine lv_topi (fun v_408 e_409 => ?_)
                        refine lv_ishr hx hb d_Mo_tableIs_230 ?_
                        refine lv_topi (fun v_410 e_411 => ?_)
                        refine hm_calli (va_runV (As := [.int p6, .int v_410]) (b := m9) (rest := []) ⟨hx, hb, hml, hown, hts⟩ (m_expect l D t G ak av hh203 τ n m9 p6 v_410 A th sd lo le wr ma nu di pl se wg6 op   hn hT T_m9  F_m9 hA ⟨m_314, m_315, (by omega), ⟨by omega, by omega⟩, ⟨by omega, by omega⟩⟩ (by omega) (by omega)) ⟨cw9B 2 hts mw_779 mw_780 mw_579 rfl rfl (by decide +kernel) ⟨Nat.le_of_ble_eq_true rfl, Nat.le_of_ble_eq_true rfl⟩, hts _ mw_781, hts _ mw_782⟩ (hP_V (q := (R_Mo, F_Mo, 41)) kE_ok hE hK hH F_m9 rfl) rfl rfl hl.1 rfl (lv_room (Nat.le_of_ble_eq_true rfl)) d_Mo_tableIs_231 ⟨Nat.le_of_ble_eq_true rfl, Nat.le_of_ble_eq_true rfl⟩) hLo (fun r_412 h_413 H_414 locs hp_416 hH z_415 hLo => ?_)
                        have hz : s.heap.size ≤ H_414.size := Nat.le_trans hz z_415
                        have hT0 := hT
                        obtain ⟨hT, kf_418, xp_417⟩ := hp_416
                        have F_A17 : h_413 (A 17) = some (.inl ((t 2), 31, .inl g_1)) := kf_at kf_418 (hA 17 (by decide)) (by decide) tn0 (nmc (tne (hA 17 (by decide)) T_m9 (by decide)) nm0) F_A17
                        have F_A19 : h_413 (A 19) = some (.inl ((t 2), 31, .inl g_2)) := kf_at kf_418 (hA 19 (by decide)) (by decide) tn0 (nmc (tne (hA 19 (by decide)) T_m9 (by decide)) nm0) F_A19
                        have F_A20 : h_413 (A 20) = some (.inl ((t 2), 31, .inl g_3)) := kf_at kf_418 (hA 20 (by decide)) (by decide) tn0 (nmc (tne (hA 20 (by decide)) T_m9 (by decide)) nm0) F_A20
                        have hkf : kf τ [] [m9] h h_413 := kf_tr hkf kf_418 (List.forall_mem_nil _) (List.forall_mem_cons.mpr ⟨Or.inl (by simp), List.forall_mem_nil _⟩)
                        obtain ⟨wg_419, F_m9, mk_420, xq_421⟩ := xp_417
                        obtain ⟨m_422, m_423, m_424, m_425, m_426⟩ := mk_420
                        have ix_427 := xq_421
                        refine lv_istore (lv' := [(4, .int r_412), (0, .ref m9), (1, .int s9), (2, .int to9), (3, .int m8), (5, .int v_22), (6, .int k9), (7, .int nn), (8, .int up9), (9, .int i6)]) hx hb d_Mo_tableIs_234 hl (by decide) rfl (fun ls hl => ?_)
                        obtain ⟨j_428, e_429⟩ : ∃ z : Int32, z = i6 + 1 := ⟨_, rfl⟩
                        refine lv_iinc (v := j_428) (lv' := [(9, .int j_428), (4, .int r_412), (0, .ref m9), (1, .int s9), (2, .int to9), (3, .int m8), (5, .int v_22), (6, .int k9), (7, .int nn), (8, .int up9)]) hx hb d_Mo_tableIs_236 hl (k := 9) rfl e_429.symm (by decide) rfl (fun ls hl => ?_)
                        refine lv_goto (tgt := 203) hx hb d_Mo_tableIs_239 (by decide) ?_
                        have is_430 : j_428.toInt = i6.toInt + 1 := by rw [e_429]; exact iAddK 1 rfl (by omega) (by omega)
                        exact ih203 (mU j_428) ls _ locs _ (by rw [hk203]; exact mU_lt (by omega)) ⟨r_412, j_428, wg_419, rfl, (lv_sub hl [2, 3, 4, 5, 1, 6, 7, 8, 9, 0] rfl), hH, hz, hLo, F_A17, F_A19, F_A20, hT, hkf, F_m9, ⟨⟨by omega, by omega⟩, by omega⟩⟩
                      · skip
                        have ic_431 : m8.toInt = 0 := congrArg Int32.toInt hc_405
                        refine lv_iload hx hb d_Mo_tableIs_220 (lv_at hl 9 rfl) ?_
                        refine lv_goto (tgt := 229) hx hb d_Mo_tableIs_222 (by decide) ?_
                        refine lv_imul hx hb d_Mo_tableIs_229 ?_
                        refine lv_topi (fun v_432 e_433 => ?_)
                        refine lv_ishr hx hb d_Mo_tableIs_230 ?_
                        refine lv_topi (fun v_434 e_435 => ?_)
                        refine hm_calli (va_runV (As := [.int p6, .int v_434]) (b := m9) (rest := []) ⟨hx, hb, hml, hown, hts⟩ (m_expect l D t G ak av hh203 τ n m9 p6 v_434 A th sd lo le wr ma nu di pl se wg6 op   hn hT T_m9  F_m9 hA ⟨m_314, m_315, (by omega), ⟨by omega, by omega⟩, ⟨by omega, by omega⟩⟩ (by omega) (by omega)) ⟨cw9B 2 hts mw_779 mw_780 mw_579 rfl rfl (by decide +kernel) ⟨Nat.le_of_ble_eq_true rfl, Nat.le_of_ble_eq_true rfl⟩, hts _ mw_781, hts _ mw_782⟩ (hP_V (q := (R_Mo, F_Mo, 41)) kE_ok hE hK hH F_m9 rfl) rfl rfl hl.1 rfl (lv_room (Nat.le_of_ble_eq_true rfl)) d_Mo_tableIs_231 ⟨Nat.le_of_ble_eq_true rfl, Nat.le_of_ble_eq_true rfl⟩) hLo (fun r_436 h_437 H_438 locs hp_440 hH z_439 hLo => ?_)
                        have hz : s.heap.size ≤ H_438.size := Nat.le_trans hz z_439
                        have hT0 := hT
                        obtain ⟨hT, kf_442, xp_441⟩ := hp_440
                        have F_A17 : h_437 (A 17) = some (.inl ((t 2), 31, .inl g_1)) := kf_at kf_442 (hA 17 (by decide)) (by decide) tn0 (nmc (tne (hA 17 (by decide)) T_m9 (by decide)) nm0) F_A17
                        have F_A19 : h_437 (A 19) = some (.inl ((t 2), 31, .inl g_2)) := kf_at kf_442 (hA 19 (by decide)) (by decide) tn0 (nmc (tne (hA 19 (by decide)) T_m9 (by decide)) nm0) F_A19
                        have F_A20 : h_437 (A 20) = some (.inl ((t 2), 31, .inl g_3)) := kf_at kf_442 (hA 20 (by decide)) (by decide) tn0 (nmc (tne (hA 20 (by decide)) T_m9 (by decide)) nm0) F_A20
                        have hkf : kf τ [] [m9] h h_437 := kf_tr hkf kf_442 (List.forall_mem_nil _) (List.forall_mem_cons.mpr ⟨Or.inl (by simp), List.forall_mem_nil _⟩)
                        obtain ⟨wg_443, F_m9, mk_444, xq_445⟩ := xp_441
                        obtain ⟨m_446, m_447, m_448, m_449, m_450⟩ := mk_444
                        have ix_451 := xq_445
                        refine lv_istore (lv' := [(4, .int r_436), (0, .ref m9), (1, .int s9), (2, .int to9), (3, .int m8), (5, .int v_22), (6, .int k9), (7, .int nn), (8, .int up9), (9, .int i6)]) hx hb d_Mo_tableIs_234 hl (by decide) rfl (fun ls hl => ?_)
                        obtain ⟨j_452, e_453⟩ : ∃ z : Int32, z = i6 + 1 := ⟨_, rfl⟩
                        refine lv_iinc (v := j_452) (lv' := [(9, .int j_452), (4, .int r_436), (0, .ref m9), (1, .int s9), (2, .int to9), (3, .int m8), (5, .int v_22), (6, .int k9), (7, .int nn), (8, .int up9)]) hx hb d_Mo_tableIs_236 hl (k := 9) rfl e_453.symm (by decide) rfl (fun ls hl => ?_)
                        refine lv_goto (tgt := 203) hx hb d_Mo_tableIs_239 (by decide) ?_
                        have is_454 : j_452.toInt = i6.toInt + 1 := by rw [e_453]; exact iAddK 1 rfl (by omega) (by omega)
                        exact ih203 (mU j_452) ls _ locs _ (by rw [hk203]; exact mU_lt (by omega)) ⟨r_436, j_452, wg_443, rfl, (lv_sub hl [2, 3, 4, 5, 1, 6, 7, 8, 9, 0] rfl), hH, hz, hLo, F_A17, F_A19, F_A20, hT, hkf, F_m9, ⟨⟨by omega, by omega⟩, by omega⟩⟩
                  · skip
                    have ic_455 : i7.toInt < 4 := iNe hc_320
                    refine lv_aload_n hx hb d_Mo_tableIs_162 rfl (lv_at hl 0 rfl) ?_
                    refine lv_iload hx hb d_Mo_tableIs_163 (lv_at hl 4 rfl) ?_
                    refine lv_aload_n hx hb d_Mo_tableIs_165 rfl (lv_at hl 0 rfl) ?_
                    refine hm_get (ci := 9) (v := .ref (A 20)) (C := R_Mo) (T := F_Mo) (N := 41) hx hb hts ig_Mo hown hK hH F_m9 rfl 32 (by decide) (hts _ mw_763) (fun _ h9 => h9) rfl d_Mo_tableIs_166 ?_
                    refine lv_iload hx hb d_Mo_tableIs_169 (lv_at hl 6 rfl) ?_
                    refine hm_iald hx hb hK hH 2 F_A20 rfl (iIn (by omega) (by omega)) d_Mo_tableIs_171 ?_
                    refine lv_topi (fun v_456 e_457 => ?_)
                    refine lv_bipush (v := 8) hx hb d_Mo_tableIs_172 (by decide) ?_
                    refine lv_iload_n hx hb d_Mo_tableIs_174 rfl (lv_at hl 3 rfl) ?_
                    refine lv_if_ne (tgt := 183) hx hb d_Mo_tableIs_175 (by decide) (fun hc_458 => ?_) (fun hc_458 => ?_)
                    · skip
                      refine lv_iconst (v := 3) hx hb d_Mo_tableIs_183 (by decide) ?_
                      refine lv_iload hx hb d_Mo_tableIs_184 (lv_at hl 9 rfl) ?_
                      refine lv_isub hx hb d_Mo_tableIs_186 ?_
                      refine lv_topi (fun v_459 e_460 => ?_)
                      refine lv_imul hx hb d_Mo_tableIs_187 ?_
                      refine lv_topi (fun v_461 e_462 => ?_)
                      refine lv_ishr hx hb d_Mo_tableIs_188 ?_
                      refine lv_topi (fun v_463 e_464 => ?_)
                      refine hm_calli (va_runV (As := [.int p7, .int v_463]) (b := m9) (rest := []) ⟨hx, hb, hml, hown, hts⟩ (m_expect l D t G ak av hh156 τ n m9 p7 v_463 A th sd lo le wr ma nu di pl se wg7 op   hn hT T_m9  F_m9 hA ⟨m_314, m_315, (by omega), ⟨by omega, by omega⟩, ⟨by omega, by omega⟩⟩ (by omega) (by omega)) ⟨cw9B 2 hts mw_779 mw_780 mw_579 rfl rfl (by decide +kernel) ⟨Nat.le_of_ble_eq_true rfl, Nat.le_of_ble_eq_true rfl⟩, hts _ mw_781, hts _ mw_782⟩ (hP_V (q := (R_Mo, F_Mo, 41)) kE_ok hE hK hH F_m9 rfl) rfl rfl hl.1 rfl (lv_room (Nat.le_of_ble_eq_true rfl)) d_Mo_tableIs_189 ⟨Nat.le_of_ble_eq_true rfl, Nat.le_of_ble_eq_true rfl⟩) hLo (fun r_465 h_466 H_467 locs hp_469 hH z_468 hLo => ?_)
                      have hz : s.heap.size ≤ H_467.size := Nat.le_trans hz z_468
                      have hT0 := hT
                      obtain ⟨hT, kf_471, xp_470⟩ := hp_469
                      have F_A17 : h_466 (A 17) = some (.inl ((t 2), 31, .inl g_1)) := kf_at kf_471 (hA 17 (by decide)) (by decide) tn0 (nmc (tne (hA 17 (by decide)) T_m9 (by decide)) nm0) F_A17
                      have F_A19 : h_466 (A 19) = some (.inl ((t 2), 31, .inl g_2)) := kf_at kf_471 (hA 19 (by decide)) (by decide) tn0 (nmc (tne (hA 19 (by decide)) T_m9 (by decide)) nm0) F_A19
                      have F_A20 : h_466 (A 20) = some (.inl ((t 2), 31, .inl g_3)) := kf_at kf_471 (hA 20 (by decide)) (by decide) tn0 (nmc (tne (hA 20 (by decide)) T_m9 (by decide)) nm0) F_A20
                      have hkf : kf τ [] [m9] h h_466 := kf_tr hkf kf_471 (List.forall_mem_nil _) (List.forall_mem_cons.mpr ⟨Or.inl (by simp), List.forall_mem_nil _⟩)
                      obtain ⟨wg_472, F_m9, mk_473, xq_474⟩ := xp_470
                      obtain ⟨m_475, m_476, m_477, m_478, m_479⟩ := mk_473
                      have ix_480 := xq_474
                      refine lv_istore (lv' := [(4, .int r_465), (0, .ref m9), (1, .int s9), (2, .int to9), (3, .int m8), (5, .int v_22), (6, .int k9), (7, .int nn), (8, .int up9), (9, .int i7)]) hx hb d_Mo_tableIs_192 hl (by decide) rfl (fun ls hl => ?_)
                      obtain ⟨j_481, e_482⟩ : ∃ z : Int32, z = i7 + 1 := ⟨_, rfl⟩
                      refine lv_iinc (v := j_481) (lv' := [(9, .int j_481), (4, .int r_465), (0, .ref m9), (1, .int s9), (2, .int to9), (3, .int m8), (5, .int v_22), (6, .int k9), (7, .int nn), (8, .int up9)]) hx hb d_Mo_tableIs_194 hl (k := 9) rfl e_482.symm (by decide) rfl (fun ls hl => ?_)
                      refine lv_goto (tgt := 156) hx hb d_Mo_tableIs_197 (by decide) ?_
                      have is_483 : j_481.toInt = i7.toInt + 1 := by rw [e_482]; exact iAddK 1 rfl (by omega) (by omega)
                      exact ih156 (mU j_481) ls _ locs _ (by rw [hk156]; exact mU_lt (by omega)) ⟨r_465, j_481, wg_472, rfl, (lv_sub hl [2, 3, 4, 5, 1, 6, 7, 8, 9, 0] rfl), hH, hz, hLo, F_A17, F_A19, F_A20, hT, hkf, F_m9, ⟨⟨by omega, by omega⟩, by omega⟩⟩
                    · skip
                      have ic_484 : m8.toInt = 0 := congrArg Int32.toInt hc_458
                      refine lv_iload hx hb d_Mo_tableIs_178 (lv_at hl 9 rfl) ?_
                      refine lv_goto (tgt := 187) hx hb d_Mo_tableIs_180 (by decide) ?_
                      refine lv_imul hx hb d_Mo_tableIs_187 ?_
                      refine lv_topi (fun v_485 e_486 => ?_)
                      refine lv_ishr hx hb d_Mo_tableIs_188 ?_
                      refine lv_topi (fun v_487 e_488 => ?_)
                      refine hm_calli (va_runV (As := [.int p7, .int v_487]) (b := m9) (rest := []) ⟨hx, hb, hml, hown, hts⟩ (m_expect l D t G ak av hh156 τ n m9 p7 v_487 A th sd lo le wr ma nu di pl se wg7 op   hn hT T_m9  F_m9 hA ⟨m_314, m_315, (by omega), ⟨by omega, by omega⟩, ⟨by omega, by omega⟩⟩ (by omega) (by omega)) ⟨cw9B 2 hts mw_779 mw_780 mw_579 rfl rfl (by decide +kernel) ⟨Nat.le_of_ble_eq_true rfl, Nat.le_of_ble_eq_true rfl⟩, hts _ mw_781, hts _ mw_782⟩ (hP_V (q := (R_Mo, F_Mo, 41)) kE_ok hE hK hH F_m9 rfl) rfl rfl hl.1 rfl (lv_room (Nat.le_of_ble_eq_true rfl)) d_Mo_tableIs_189 ⟨Nat.le_of_ble_eq_true rfl, Nat.le_of_ble_eq_true rfl⟩) hLo (fun r_489 h_490 H_491 locs hp_493 hH z_492 hLo => ?_)
                      have hz : s.heap.size ≤ H_491.size := Nat.le_trans hz z_492
                      have hT0 := hT
                      obtain ⟨hT, kf_495, xp_494⟩ := hp_493
                      have F_A17 : h_490 (A 17) = some (.inl ((t 2), 31, .inl g_1)) := kf_at kf_495 (hA 17 (by decide)) (by decide) tn0 (nmc (tne (hA 17 (by decide)) T_m9 (by decide)) nm0) F_A17
                      have F_A19 : h_490 (A 19) = some (.inl ((t 2), 31, .inl g_2)) := kf_at kf_495 (hA 19 (by decide)) (by decide) tn0 (nmc (tne (hA 19 (by decide)) T_m9 (by decide)) nm0) F_A19
                      have F_A20 : h_490 (A 20) = some (.inl ((t 2), 31, .inl g_3)) := kf_at kf_495 (hA 20 (by decide)) (by decide) tn0 (nmc (tne (hA 20 (by decide)) T_m9 (by decide)) nm0) F_A20
                      have hkf : kf τ [] [m9] h h_490 := kf_tr hkf kf_495 (List.forall_mem_nil _) (List.forall_mem_cons.mpr ⟨Or.inl (by simp), List.forall_mem_nil _⟩)
                      obtain ⟨wg_496, F_m9, mk_497, xq_498⟩ := xp_494
                      obtain ⟨m_499, m_500, m_501, m_502, m_503⟩ := mk_497
                      have ix_504 := xq_498
                      refine lv_istore (lv' := [(4, .int r_489), (0, .ref m9), (1, .int s9), (2, .int to9), (3, .int m8), (5, .int v_22), (6, .int k9), (7, .int nn), (8, .int up9), (9, .int i7)]) hx hb d_Mo_tableIs_192 hl (by decide) rfl (fun ls hl => ?_)
                      obtain ⟨j_505, e_506⟩ : ∃ z : Int32, z = i7 + 1 := ⟨_, rfl⟩
                      refine lv_iinc (v := j_505) (lv' := [(9, .int j_505), (4, .int r_489), (0, .ref m9), (1, .int s9), (2, .int to9), (3, .int m8), (5, .int v_22), (6, .int k9), (7, .int nn), (8, .int up9)]) hx hb d_Mo_tableIs_194 hl (k := 9) rfl e_506.symm (by decide) rfl (fun ls hl => ?_)
                      refine lv_goto (tgt := 156) hx hb d_Mo_tableIs_197 (by decide) ?_
                      have is_507 : j_505.toInt = i7.toInt + 1 := by rw [e_506]; exact iAddK 1 rfl (by omega) (by omega)
                      exact ih156 (mU j_505) ls _ locs _ (by rw [hk156]; exact mU_lt (by omega)) ⟨r_489, j_505, wg_496, rfl, (lv_sub hl [2, 3, 4, 5, 1, 6, 7, 8, 9, 0] rfl), hH, hz, hLo, F_A17, F_A19, F_A20, hT, hkf, F_m9, ⟨⟨by omega, by omega⟩, by omega⟩⟩
                · skip
                  have ic_508 : k9.toInt = 0 := congrArg Int32.toInt hc_287
                  refine lv_iload hx hb d_Mo_tableIs_108 (lv_at hl 8 rfl) ?_
                  refine lv_aload_n hx hb d_Mo_tableIs_110 rfl (lv_at hl 0 rfl) ?_
                  refine hm_get (ci := 9) (v := .ref (A 18)) (C := R_Mo) (T := F_Mo) (N := 41) hx hb hts ig_Mo hown hK hH F_m9 rfl 30 (by decide) (hts _ mw_761) (fun _ h9 => h9) rfl d_Mo_tableIs_111 ?_
                  refine lv_iload hx hb d_Mo_tableIs_114 (lv_at hl 9 rfl) ?_
                  refine hm_zald hx hb hK hH 1 F_A18 rfl (iIn (by omega) (by omega)) d_Mo_tableIs_116 ?_
                  refine lv_topi (fun v_509 e_510 => ?_)
                  have c_511 : zb v_509 := by rw [e_510]; exact c_39 _
                  refine lv_if_eq (tgt := 124) hx hb d_Mo_tableIs_117 (by decide) (fun hc_512 => ?_) (fun hc_512 => ?_)
                  · skip
                    have ic_513 : v_509.toInt = 0 := congrArg Int32.toInt hc_512
                    refine lv_iconst (v := 0) hx hb d_Mo_tableIs_124 (by decide) ?_
                    refine lv_iadd hx hb d_Mo_tableIs_125 ?_
                    refine lv_topi (fun v_514 e_515 => ?_)
                    refine lv_istore (lv' := [(8, .int v_514), (0, .ref m9), (1, .int s9), (2, .int to9), (3, .int m8), (4, .int pp), (5, .int v_22), (6, .int k9), (7, .int nn), (9, .int q9)]) hx hb d_Mo_tableIs_126 hl (by decide) rfl (fun ls hl => ?_)
                    obtain ⟨j_516, e_517⟩ : ∃ z : Int32, z = q9 + 1 := ⟨_, rfl⟩
                    refine lv_iinc (v := j_516) (lv' := [(9, .int j_516), (8, .int v_514), (0, .ref m9), (1, .int s9), (2, .int to9), (3, .int m8), (4, .int pp), (5, .int v_22), (6, .int k9), (7, .int nn)]) hx hb d_Mo_tableIs_128 hl (k := 9) rfl e_517.symm (by decide) rfl (fun ls hl => ?_)
                    refine lv_goto (tgt := 86) hx hb d_Mo_tableIs_131 (by decide) ?_
                    have is_518 : j_516.toInt = q9.toInt + 1 := by rw [e_517]; exact iAddK 1 rfl (by omega) (by omega)
                    exact ih86 (mU j_516) ls _ locs _ (by rw [hk86]; exact mU_lt (by omega)) ⟨v_514, j_516, rfl, (lv_sub hl [2, 3, 4, 5, 6, 7, 8, 9, 1, 0] rfl), hH, hz, hLo, rfl, (by omega)⟩
                  · skip
                    refine lv_iconst (v := 1) hx hb d_Mo_tableIs_120 (by decide) ?_
                    refine lv_goto (tgt := 125) hx hb d_Mo_tableIs_121 (by decide) ?_
                    refine lv_iadd hx hb d_Mo_tableIs_125 ?_
                    refine lv_topi (fun v_519 e_520 => ?_)
                    refine lv_istore (lv' := [(8, .int v_519), (0, .ref m9), (1, .int s9), (2, .int to9), (3, .int m8), (4, .int pp), (5, .int v_22), (6, .int k9), (7, .int nn), (9, .int q9)]) hx hb d_Mo_tableIs_126 hl (by decide) rfl (fun ls hl => ?_)
                    obtain ⟨j_521, e_522⟩ : ∃ z : Int32, z = q9 + 1 := ⟨_, rfl⟩
                    refine lv_iinc (v := j_521) (lv' := [(9, .int j_521), (8, .int v_519), (0, .ref m9), (1, .int s9), (2, .int to9), (3, .int m8), (4, .int pp), (5, .int v_22), (6, .int k9), (7, .int nn)]) hx hb d_Mo_tableIs_128 hl (k := 9) rfl e_522.symm (by decide) rfl (fun ls hl => ?_)
                    refine lv_goto (tgt := 86) hx hb d_Mo_tableIs_131 (by decide) ?_
                    have is_523 : j_521.toInt = q9.toInt + 1 := by rw [e_522]; exact iAddK 1 rfl (by omega) (by omega)
                    exact ih86 (mU j_521) ls _ locs _ (by rw [hk86]; exact mU_lt (by omega)) ⟨v_519, j_521, rfl, (lv_sub hl [2, 3, 4, 5, 6, 7, 8, 9, 1, 0] rfl), hH, hz, hLo, rfl, (by omega)⟩
          · skip
            refine lv_iload hx hb d_Mo_tableIs_59 (lv_at hl 6 rfl) ?_
            refine lv_if_ne (tgt := 68) hx hb d_Mo_tableIs_61 (by decide) (fun hc_524 => ?_) (fun hc_524 => ?_)
            · skip
              refine lv_aload_n hx hb d_Mo_tableIs_68 rfl (lv_at hl 0 rfl) ?_
              refine hm_get (ci := 9) (v := .ref (A 21)) (C := R_Mo) (T := F_Mo) (N := 41) hx hb hts ig_Mo hown hK hH F_m9 rfl 33 (by decide) (hts _ mw_765) (fun _ h9 => h9) rfl d_Mo_tableIs_69 ?_
              refine lv_iload hx hb d_Mo_tableIs_72 (lv_at hl 6 rfl) ?_
              obtain ⟨g_525, F_A21⟩ := TI_arJ (L := 31) hT (hA 21 (by decide)) rfl rfl
              refine hm_lald hx hb hK hH 3 F_A21 rfl (iIn (by omega) (by omega)) d_Mo_tableIs_74 ?_
              refine lv_topl (fun v_526 e_527 => ?_)
              refine hm_callPi (va_runS (As := [.long v_526]) (rest := []) ⟨hx, hb, hml, hown, hts⟩ (m_letters l D t G ak av hh37 τ n v_526    hn hT    ) ⟨cw9B 1 hts mw_634 mw_635 mw_579 rfl rfl (by decide +kernel) ⟨Nat.le_of_ble_eq_true rfl, Nat.le_of_ble_eq_true rfl⟩, hts _ mw_636⟩ (hP_S kE_ok hE hH) rfl rfl hl.1 rfl (lv_room (Nat.le_of_ble_eq_true rfl)) d_Mo_tableIs_75 ⟨Nat.le_of_ble_eq_true rfl, Nat.le_of_ble_eq_true rfl⟩) (fun r_528 h_529 H_530 hp_532  hH z_531 => ?_)
              have hz : s.heap.size ≤ H_530.size := Nat.le_trans hz z_531
              obtain ⟨xp_533, rfl⟩ := hp_532
              obtain ⟨il1, il2, -⟩ := xp_533
              exact J78 r_528 _ _ _ _ ⟨(lv_sub hl [0, 1, 2, 3, 4, 5, 6] rfl), hH, hz, hLo, rfl, ⟨by omega, by omega⟩⟩
            · skip
              have ic_534 : k9.toInt = 0 := congrArg Int32.toInt hc_524
              refine lv_iconst (v := 1) hx hb d_Mo_tableIs_64 (by decide) ?_
              refine lv_goto (tgt := 78) hx hb d_Mo_tableIs_65 (by decide) ?_
              exact J78 1 _ _ _ _ ⟨(lv_sub hl [0, 1, 2, 3, 4, 5, 6] rfl), hH, hz, hLo, rfl, ⟨by decide, by decide⟩⟩
        · skip
          have ic_535 : v_40.toInt = 0 := congrArg Int32.toInt hc_43
          refine lv_goto (tgt := 304) hx hb d_Mo_tableIs_56 (by decide) ?_
          obtain ⟨j_536, e_537⟩ : ∃ z : Int32, z = k9 + 1 := ⟨_, rfl⟩
          refine lv_iinc (v := j_536) (lv' := [(6, .int j_536), (0, .ref m9), (1, .int s9), (2, .int to9), (3, .int m8), (4, .int pp), (5, .int v_22)]) hx hb d_Mo_tableIs_304 hl (k := 6) rfl e_537.symm (by decide) rfl (fun ls hl => ?_)
          refine lv_goto (tgt := 37) hx hb d_Mo_tableIs_307 (by decide) ?_
          have is_538 : j_536.toInt = k9.toInt + 1 := by rw [e_537]; exact iAddK 1 rfl (by omega) (by omega)
          exact ih37 (mU j_536) ls _ locs _ (by rw [hk37]; exact mU_lt (by omega)) ⟨pp, j_536, wg8, rfl, (lv_sub hl [1, 2, 3, 4, 5, 6, 0] rfl), hH, hz, hLo, F_A17, F_A19, F_A20, hT, hkf, F_m9, ⟨⟨by omega, by omega⟩, by omega, by omega⟩⟩

set_option maxHeartbeats 4000000 in
set_option maxRecDepth 100000 in
theorem m_isRead (l : Launch) (D : va_G) (t : Nat → ClassId) (G : hG) (ak av : Nat → Nat) (h : hM) (τ : tM) (n : Nat) (m9 : Nat) (b9 : Int32) (A : Nat → Nat) (th sd lo le wr ma nu di pl se wg op : Int32) (hn : n ≤ 200) (hT : TI τ t n h) (T_m9 : τ m9 = (20, 0)) (F_m9 : h m9 = some (.inr (9, mf A n th sd lo le wr ma nu di pl se wg op))) (hA : ∀ i, i < 28 → τ (A i) = (30, i)) (hmk : mOk sd lo ma se op) (hSq : seQ (aI h (A 17)) (aI h (A 19)) (aI h (A 20)) se.toInt.toNat n) (hb0 : 0 ≤ b9.toInt) (hb1 : b9.toInt < 200) : Met l y_Mo_isRead (.code y_Mo_isRead b_Mo_isRead 5 (some .boolean) :: lw_g) { frames := 6, cells := 0, slots := 0, locals := 147 } (hP (kE D t G ak av) D vwCl G h [.ref m9, .int b9]) (hQi D vwCl G (fun r h' => zb r ∧ TI τ t n h' ∧ kf τ [(30, 17), (30, 18), (30, 19), (30, 20), (30, 21), (30, 22)] [m9] h h' ∧ (∃ (se' : Int32) (wg' : Int32), h' m9 = some (.inr (9, mf A n th sd lo le wr ma nu di pl se' wg' op)) ∧ mOk sd lo ma se' op ∧ (seQ (aI h' (A 17)) (aI h' (A 19)) (aI h' (A 20)) se'.toInt.toNat n ∧ (r = 0 → 0 ≤ wg'.toInt))))) 0 0 G.P := by
  refine Met.ofW (cc := b_Mo_isRead) (maxL := 5) (ret := (some .boolean)) (by decide) rfl ?_
  intro p e s m args below meth c s₁ Bd hml hv
  obtain ⟨ha, hE, hH⟩ := hv
  have hx := Bd.exec
  have hb := Bd.bytes
  have hr := Bd.returns
  have hts : ∀ w ∈ lw_g, w.before args s = true := fun w hw => atoms_spec (ws := (.code y_Mo_isRead b_Mo_isRead 5 (some .boolean) :: lw_g)) Bd.pre w (List.mem_cons_of_mem _ hw)
  have hown : s.vm.findClass R_Mo = some m.cls := findClass_of_methodNamed Bd.named
  have hlocks := Bd.notSynchronized
  have hK := hE.1
  have hH0 := hH
  have hLo : hLc G.P [] := hLc_nil
  have hz : s.heap.size ≤ s.heap.size := Nat.le_refl _
  have hl := lv_entry [.ref m9, .int b9] (n := 5) (Nat.le_of_ble_eq_true rfl)
  rw [show entryFrame m args 5 = F0 m 0 ((lg_sl [.ref m9, .int b9] ++ List.replicate (5 - (lg_sl [.ref m9, .int b9]).length) Slot.unset).toArray) [] from (by rw [ha]; exact lg_entry_eq m [.ref m9, .int b9] 5)]
  generalize (lg_sl [.ref m9, .int b9] ++ List.replicate (5 - (lg_sl [.ref m9, .int b9]).length) Slot.unset).toArray = ls at hl ⊢
  have hl : lv_has ls 5 [(0, .ref m9), (1, .int b9)] := hl
  have hkf : kf τ [(30, 17), (30, 18), (30, 19), (30, 20), (30, 21), (30, 22)] [m9] h h := kf_rf
  obtain ⟨hsd, hlo, hma, hse, hop⟩ := id hmk
  have inI : (nI n).toInt = n := nI_toInt (by omega)
  obtain ⟨g_1, F_A0, c_2⟩ := TI_arB (L := 819200) hT (hA 0 (by decide)) rfl rfl
  obtain ⟨g_3, F_A17⟩ := TI_arI (L := 31) hT (hA 17 (by decide)) rfl rfl
  obtain ⟨g_4, F_A19⟩ := TI_arI (L := 31) hT (hA 19 (by decide)) rfl rfl
  obtain ⟨g_5, F_A20⟩ := TI_arI (L := 31) hT (hA 20 (by decide)) rfl rfl
  rw [aI_of F_A17, aI_of F_A19, aI_of F_A20] at hSq
  refine lv_iload_n hx hb d_Mo_isRead_0 rfl (lv_at hl 1 rfl) ?_
  refine lv_bipush (v := 16) hx hb d_Mo_isRead_1 (by decide) ?_
  refine lv_iadd hx hb d_Mo_isRead_3 ?_
  refine lv_topi (fun v_6 e_7 => ?_)
  refine lv_istore_n (lv' := [(2, .int v_6), (0, .ref m9), (1, .int b9)]) hx hb d_Mo_isRead_4 rfl hl (by decide) rfl (fun ls hl => ?_)
  have is_8 : v_6.toInt = b9.toInt + 16 := by rw [e_7]; exact iAddK 16 rfl (by omega) (by omega)
  refine hm_loop (fun k5 ls H locs hh5 => ∃ (s9 : Int32), k5 = mU s9 ∧ lv_has ls 5 [(0, .ref m9), (1, .int b9), (2, .int s9)] ∧ hm D vwCl G hh5 H ∧ s.heap.size ≤ H.size ∧ hLc G.P locs ∧ hh5 m9 = some (.inr (9, mf A n th sd lo le wr ma nu di pl se wg op)) ∧ hh5 (A 0) = some (.inl ((t 0), 819200, .inl g_1)) ∧ hh5 (A 17) = some (.inl ((t 2), 31, .inl g_3)) ∧ hh5 (A 19) = some (.inl ((t 2), 31, .inl g_4)) ∧ hh5 (A 20) = some (.inl ((t 2), 31, .inl g_5)) ∧ (TI τ t n hh5) ∧ (kf τ [(30, 17), (30, 18), (30, 19), (30, 20), (30, 21), (30, 22)] [m9] h hh5) ∧ (b9.toInt + 16 ≤ s9.toInt ∧ s9.toInt ≤ b9.toInt + 20 ∧ (s9.toInt = b9.toInt + 16 ∨ s9.toInt ≤ n))) ?_ (hh := h) ⟨v_6, rfl, (lv_sub hl [1, 2, 0] rfl), hH, hz, hLo, F_m9, F_A0, F_A17, F_A19, F_A20, hT, hkf, ⟨by omega, by omega, by omega⟩⟩
  rintro k5 ls H locs hh5 ⟨s9, hk5, hl, hH, hz, hLo, F_m9, F_A0, F_A17, F_A19, F_A20, hT, hkf, I_s9⟩ ih5
  refine lv_iload_n hx hb d_Mo_isRead_5 rfl (lv_at hl 2 rfl) ?_
  refine lv_iload_n hx hb d_Mo_isRead_6 rfl (lv_at hl 1 rfl) ?_
  refine lv_bipush (v := 20) hx hb d_Mo_isRead_7 (by decide) ?_
  refine lv_iadd hx hb d_Mo_isRead_9 ?_
  refine lv_topi (fun v_9 e_10 => ?_)
  have is_11 : v_9.toInt = b9.toInt + 20 := by rw [e_10]; exact iAddK 20 rfl (by omega) (by omega)
  refine lv_icmp_ge (tgt := 37) hx hb d_Mo_isRead_10 (by decide) (fun hc_12 => ?_) (fun hc_12 => ?_)
  · skip
    have ic_13 : v_9.toInt ≤ s9.toInt := iLe hc_12
    refine lv_aload_n hx hb d_Mo_isRead_37 rfl (lv_at hl 0 rfl) ?_
    refine lv_iload_n hx hb d_Mo_isRead_38 rfl (lv_at hl 1 rfl) ?_
    refine lv_bipush (v := 16) hx hb d_Mo_isRead_39 (by decide) ?_
    refine lv_iadd hx hb d_Mo_isRead_41 ?_
    refine lv_topi (fun v_14 e_15 => ?_)
    obtain rfl : v_6 = v_14 := (e_15.trans (e_7.symm)).symm
    refine lv_iconst (v := 1) hx hb d_Mo_isRead_42 (by decide) ?_
    have is_16 : v_6.toInt = b9.toInt + 16 := by rw [e_7]; exact iAddK 16 rfl (by omega) (by omega)
    refine hm_callPi (va_runV (As := [.int v_6, .int 1]) (b := m9) (rest := []) ⟨hx, hb, hml, hown, hts⟩ (m_begins l D t G ak av hh5 τ n m9 v_6 1 A th sd lo le wr ma nu di pl se wg op   hn hT T_m9  F_m9 hA ⟨hsd, hlo, (by omega), ⟨by omega, by omega⟩, ⟨by omega, by omega⟩⟩ (by omega) (by omega)) ⟨cw9B 2 hts mw_783 mw_784 mw_579 rfl rfl (by decide +kernel) ⟨Nat.le_of_ble_eq_true rfl, Nat.le_of_ble_eq_true rfl⟩, hts _ mw_785, hts _ mw_786⟩ (hP_V (q := (R_Mo, F_Mo, 41)) kE_ok hE hK hH F_m9 rfl) rfl rfl hl.1 rfl (lv_room (Nat.le_of_ble_eq_true rfl)) d_Mo_isRead_43 ⟨Nat.le_of_ble_eq_true rfl, Nat.le_of_ble_eq_true rfl⟩) (fun r_17 h_18 H_19 hp_21  hH z_20 => ?_)
    have hz : s.heap.size ≤ H_19.size := Nat.le_trans hz z_20
    obtain ⟨c_22, rfl⟩ := hp_21
    refine lv_if_ne (tgt := 62) hx hb d_Mo_isRead_46 (by decide) (fun hc_24 => ?_) (fun hc_24 => ?_)
    · skip
      refine lv_aload_n hx hb d_Mo_isRead_62 rfl (lv_at hl 0 rfl) ?_
      refine lv_iload_n hx hb d_Mo_isRead_63 rfl (lv_at hl 1 rfl) ?_
      refine lv_bipush (v := 17) hx hb d_Mo_isRead_64 (by decide) ?_
      refine lv_iadd hx hb d_Mo_isRead_66 ?_
      refine lv_topi (fun v_25 e_26 => ?_)
      refine lv_sipush (v := 255) hx hb d_Mo_isRead_67 (by decide) ?_
      have is_27 : v_25.toInt = b9.toInt + 17 := by rw [e_26]; exact iAddK 17 rfl (by omega) (by omega)
      refine hm_callPi (va_runV (As := [.int v_25, .int 255]) (b := m9) (rest := []) ⟨hx, hb, hml, hown, hts⟩ (m_begins l D t G ak av hh5 τ n m9 v_25 255 A th sd lo le wr ma nu di pl se wg op   hn hT T_m9  F_m9 hA ⟨hsd, hlo, (by omega), ⟨by omega, by omega⟩, ⟨by omega, by omega⟩⟩ (by omega) (by omega)) ⟨cw9B 2 hts mw_783 mw_784 mw_579 rfl rfl (by decide +kernel) ⟨Nat.le_of_ble_eq_true rfl, Nat.le_of_ble_eq_true rfl⟩, hts _ mw_785, hts _ mw_786⟩ (hP_V (q := (R_Mo, F_Mo, 41)) kE_ok hE hK hH F_m9 rfl) rfl rfl hl.1 rfl (lv_room (Nat.le_of_ble_eq_true rfl)) d_Mo_isRead_70 ⟨Nat.le_of_ble_eq_true rfl, Nat.le_of_ble_eq_true rfl⟩) (fun r_28 h_29 H_30 hp_32  hH z_31 => ?_)
      have hz : s.heap.size ≤ H_30.size := Nat.le_trans hz z_31
      obtain ⟨c_33, rfl⟩ := hp_32
      refine lv_if_ne (tgt := 89) hx hb d_Mo_isRead_73 (by decide) (fun hc_35 => ?_) (fun hc_35 => ?_)
      · skip
        refine lv_sipush (v := 2048) hx hb d_Mo_isRead_89 (by decide) ?_
        refine lv_iload_n hx hb d_Mo_isRead_92 rfl (lv_at hl 1 rfl) ?_
        refine lv_bipush (v := 16) hx hb d_Mo_isRead_93 (by decide) ?_
        refine lv_iadd hx hb d_Mo_isRead_95 ?_
        refine lv_topi (fun v_36 e_37 => ?_)
        obtain rfl : v_6 = v_36 := (e_37.trans (e_7.symm)).symm
        refine lv_imul hx hb d_Mo_isRead_96 ?_
        refine lv_topi (fun v_38 e_39 => ?_)
        refine lv_istore_n (lv' := [(2, .int v_38), (0, .ref m9), (1, .int b9)]) hx hb d_Mo_isRead_97 rfl hl (by decide) rfl (fun ls hl => ?_)
        refine lv_aload_n hx hb d_Mo_isRead_98 rfl (lv_at hl 1 rfl) ?_
        refine lv_iload_n hx hb d_Mo_isRead_99 rfl (lv_at hl 0 rfl) ?_
        refine lv_sipush (v := 128) hx hb d_Mo_isRead_100 (by decide) ?_
        refine lv_iadd hx hb d_Mo_isRead_103 ?_
        refine lv_topi (fun v_40 e_41 => ?_)
        refine lv_iconst (v := 2) hx hb d_Mo_isRead_104 (by decide) ?_
        have is_42 : v_38.toInt = 2048 * v_6.toInt := by rw [e_39]; exact iMulL 2048 rfl (by omega) (by omega)
        have is_43 : v_40.toInt = v_38.toInt + 128 := by rw [e_41]; exact iAddK 128 rfl (by omega) (by omega)
        refine hm_callPi (va_runV (As := [.int v_40, .int 2]) (b := m9) (rest := []) ⟨hx, hb, hml, hown, hts⟩ (m_lowAt l D t G ak av hh5 τ n m9 v_40 2 A th sd lo le wr ma nu di pl se wg op   hn hT T_m9  F_m9 hA ⟨hsd, hlo, (by omega), ⟨by omega, by omega⟩, ⟨by omega, by omega⟩⟩ (by have l0 : (2 : Int32).toInt = 2 := rfl; omega) (by have l0 : (2 : Int32).toInt = 2 := rfl; omega) (by have l0 : (2 : Int32).toInt = 2 := rfl; omega)) ⟨cw9B 2 hts mw_742 mw_743 mw_579 rfl rfl (by decide +kernel) ⟨Nat.le_of_ble_eq_true rfl, Nat.le_of_ble_eq_true rfl⟩, hts _ mw_744, hts _ mw_745⟩ (hP_V (q := (R_Mo, F_Mo, 41)) kE_ok hE hK hH F_m9 rfl) rfl rfl hl.1 rfl (lv_room (Nat.le_of_ble_eq_true rfl)) d_Mo_isRead_105 ⟨Nat.le_of_ble_eq_true rfl, Nat.le_of_ble_eq_true rfl⟩) (fun r_44 h_45 H_46 hp_48  hH z_47 => ?_)
        have hz : s.heap.size ≤ H_46.size := Nat.le_trans hz z_47
        obtain ⟨xp_49, rfl⟩ := hp_48
        have el_50 : r_44 = loF g_1 sd v_40 2 0 := by rw [aI_of F_A0] at xp_49; exact xp_49
        refine lv_sipush (v := 2048) hx hb d_Mo_isRead_108 (by decide) ?_
        refine lv_icmp_ne (tgt := 130) hx hb d_Mo_isRead_111 (by decide) (fun hc_51 => ?_) (fun hc_51 => ?_)
        · skip
          refine lv_aload_n hx hb d_Mo_isRead_130 rfl (lv_at hl 1 rfl) ?_
          refine lv_iload_n hx hb d_Mo_isRead_131 rfl (lv_at hl 0 rfl) ?_
          refine lv_sipush (v := 128) hx hb d_Mo_isRead_132 (by decide) ?_
          refine lv_iadd hx hb d_Mo_isRead_135 ?_
          refine lv_topi (fun v_52 e_53 => ?_)
          obtain rfl : v_40 = v_52 := (e_53.trans (e_41.symm)).symm
          refine hm_calli (va_runV (As := [.int v_40]) (b := m9) (rest := []) ⟨hx, hb, hml, hown, hts⟩ (m_no l D t G ak av hh5 τ n m9 v_40 A th sd lo le wr ma nu di pl se wg op   hn hT T_m9  F_m9 hA ⟨hsd, hlo, (by omega), ⟨by omega, by omega⟩, ⟨by omega, by omega⟩⟩ (by omega)) ⟨cw9B 1 hts mw_738 mw_739 mw_579 rfl rfl (by decide +kernel) ⟨Nat.le_of_ble_eq_true rfl, Nat.le_of_ble_eq_true rfl⟩, hts _ mw_740, hts _ mw_741⟩ (hP_V (q := (R_Mo, F_Mo, 41)) kE_ok hE hK hH F_m9 rfl) rfl rfl hl.1 rfl (lv_room (Nat.le_of_ble_eq_true rfl)) d_Mo_isRead_136 ⟨Nat.le_of_ble_eq_true rfl, Nat.le_of_ble_eq_true rfl⟩) hLo (fun r_54 h_55 H_56 locs hp_58 hH z_57 hLo => ?_)
          have hz : s.heap.size ≤ H_56.size := Nat.le_trans hz z_57
          have hT0 := hT
          obtain ⟨c_59, hT, kf_61, xp_60⟩ := hp_58
          have F_A0 : h_55 (A 0) = some (.inl ((t 0), 819200, .inl g_1)) := kf_at kf_61 (hA 0 (by decide)) (by decide) tn0 (nmc (tne (hA 0 (by decide)) T_m9 (by decide)) nm0) F_A0
          have F_A17 : h_55 (A 17) = some (.inl ((t 2), 31, .inl g_3)) := kf_at kf_61 (hA 17 (by decide)) (by decide) tn0 (nmc (tne (hA 17 (by decide)) T_m9 (by decide)) nm0) F_A17
          have F_A19 : h_55 (A 19) = some (.inl ((t 2), 31, .inl g_4)) := kf_at kf_61 (hA 19 (by decide)) (by decide) tn0 (nmc (tne (hA 19 (by decide)) T_m9 (by decide)) nm0) F_A19
          have F_A20 : h_55 (A 20) = some (.inl ((t 2), 31, .inl g_5)) := kf_at kf_61 (hA 20 (by decide)) (by decide) tn0 (nmc (tne (hA 20 (by decide)) T_m9 (by decide)) nm0) F_A20
          have hkf : kf τ [(30, 17), (30, 18), (30, 19), (30, 20), (30, 21), (30, 22)] [m9] h h_55 := kf_tr hkf kf_61 (List.forall_mem_nil _) (List.forall_mem_cons.mpr ⟨Or.inl (by simp), List.forall_mem_nil _⟩)
          obtain ⟨wg_62, F_m9, mk_63, xq_64⟩ := xp_60
          obtain ⟨m_65, m_66, m_67, m_68, m_69⟩ := mk_63
          obtain ⟨hr0, hw0⟩ := xq_64
          subst hr0
          exact W.zret (v := 0) hx hb hr (by decide) (fun t9 ht hW => ⟨0, h_55, rfl, ⟨zb0, hT, hkf, ⟨se, wg_62, F_m9, ⟨m_65, m_66, (by omega), ⟨by omega, by omega⟩, ⟨by omega, by omega⟩⟩, ⟨(by rw [aI_of F_A17, aI_of F_A19, aI_of F_A20]; exact hSq), fun _ => hw0⟩⟩⟩, by rw [ht]; exact hH, by rw [ht]; exact hz⟩) hLo d_Mo_isRead_139
        · skip
          have ic_70 : r_44.toInt = 2048 := congrArg Int32.toInt hc_51
          refine lv_aload_n hx hb d_Mo_isRead_114 rfl (lv_at hl 1 rfl) ?_
          refine lv_iload_n hx hb d_Mo_isRead_115 rfl (lv_at hl 0 rfl) ?_
          refine lv_sipush (v := 130) hx hb d_Mo_isRead_116 (by decide) ?_
          refine lv_iadd hx hb d_Mo_isRead_119 ?_
          refine lv_topi (fun v_71 e_72 => ?_)
          refine lv_iconst (v := 2) hx hb d_Mo_isRead_120 (by decide) ?_
          have is_73 : v_71.toInt = v_38.toInt + 130 := by rw [e_72]; exact iAddK 130 rfl (by omega) (by omega)
          refine hm_callPi (va_runV (As := [.int v_71, .int 2]) (b := m9) (rest := []) ⟨hx, hb, hml, hown, hts⟩ (m_highAt l D t G ak av hh5 τ n m9 v_71 2 A th sd lo le wr ma nu di pl se wg op   hn hT T_m9  F_m9 hA ⟨hsd, hlo, (by omega), ⟨by omega, by omega⟩, ⟨by omega, by omega⟩⟩ (by have l0 : (2 : Int32).toInt = 2 := rfl; omega) (by have l0 : (2 : Int32).toInt = 2 := rfl; omega) (by have l0 : (2 : Int32).toInt = 2 := rfl; omega)) ⟨cw9B 2 hts mw_756 mw_757 mw_579 rfl rfl (by decide +kernel) ⟨Nat.le_of_ble_eq_true rfl, Nat.le_of_ble_eq_true rfl⟩, hts _ mw_758, hts _ mw_759⟩ (hP_V (q := (R_Mo, F_Mo, 41)) kE_ok hE hK hH F_m9 rfl) rfl rfl hl.1 rfl (lv_room (Nat.le_of_ble_eq_true rfl)) d_Mo_isRead_121 ⟨Nat.le_of_ble_eq_true rfl, Nat.le_of_ble_eq_true rfl⟩) (fun r_74 h_75 H_76 hp_78  hH z_77 => ?_)
          have hz : s.heap.size ≤ H_76.size := Nat.le_trans hz z_77
          obtain rfl := hp_78
          refine lv_sipush (v := 2048) hx hb d_Mo_isRead_124 (by decide) ?_
          refine lv_icmp_eq (tgt := 140) hx hb d_Mo_isRead_127 (by decide) (fun hc_80 => ?_) (fun hc_80 => ?_)
          · skip
            have ic_81 : r_74.toInt = 2048 := congrArg Int32.toInt hc_80
            refine lv_aload_n hx hb d_Mo_isRead_140 rfl (lv_at hl 1 rfl) ?_
            refine lv_iload_n hx hb d_Mo_isRead_141 rfl (lv_at hl 0 rfl) ?_
            refine lv_sipush (v := 132) hx hb d_Mo_isRead_142 (by decide) ?_
            refine lv_iadd hx hb d_Mo_isRead_145 ?_
            refine lv_topi (fun v_82 e_83 => ?_)
            refine lv_iconst (v := 4) hx hb d_Mo_isRead_146 (by decide) ?_
            have is_84 : v_82.toInt = v_38.toInt + 132 := by rw [e_83]; exact iAddK 132 rfl (by omega) (by omega)
            refine hm_callPi (va_runV (As := [.int v_82, .int 4]) (b := m9) (rest := []) ⟨hx, hb, hml, hown, hts⟩ (m_lowAt l D t G ak av hh5 τ n m9 v_82 4 A th sd lo le wr ma nu di pl se wg op   hn hT T_m9  F_m9 hA ⟨hsd, hlo, (by omega), ⟨by omega, by omega⟩, ⟨by omega, by omega⟩⟩ (by have l0 : (4 : Int32).toInt = 4 := rfl; omega) (by have l0 : (4 : Int32).toInt = 4 := rfl; omega) (by have l0 : (4 : Int32).toInt = 4 := rfl; omega)) ⟨cw9B 2 hts mw_742 mw_743 mw_579 rfl rfl (by decide +kernel) ⟨Nat.le_of_ble_eq_true rfl, Nat.le_of_ble_eq_true rfl⟩, hts _ mw_744, hts _ mw_745⟩ (hP_V (q := (R_Mo, F_Mo, 41)) kE_ok hE hK hH F_m9 rfl) rfl rfl hl.1 rfl (lv_room (Nat.le_of_ble_eq_true rfl)) d_Mo_isRead_147 ⟨Nat.le_of_ble_eq_true rfl, Nat.le_of_ble_eq_true rfl⟩) (fun r_85 h_86 H_87 hp_89  hH z_88 => ?_)
            have hz : s.heap.size ≤ H_87.size := Nat.le_trans hz z_88
            obtain ⟨xp_90, rfl⟩ := hp_89
            have el_91 : r_85 = loF g_1 sd v_82 4 0 := by rw [aI_of F_A0] at xp_90; exact xp_90
            refine lv_istore_n (lv' := [(3, .int r_85), (2, .int v_38), (0, .ref m9), (1, .int b9)]) hx hb d_Mo_isRead_150 rfl hl (by decide) rfl (fun ls hl => ?_)
            refine lv_iload_n hx hb d_Mo_isRead_151 rfl (lv_at hl 0 rfl) ?_
            refine lv_aload_n hx hb d_Mo_isRead_152 rfl (lv_at hl 2 rfl) ?_
            refine lv_iload_n hx hb d_Mo_isRead_153 rfl (lv_at hl 1 rfl) ?_
            refine lv_sipush (v := 136) hx hb d_Mo_isRead_154 (by decide) ?_
            refine lv_iadd hx hb d_Mo_isRead_157 ?_
            refine lv_topi (fun v_92 e_93 => ?_)
            refine lv_iconst (v := 4) hx hb d_Mo_isRead_158 (by decide) ?_
            have is_94 : v_92.toInt = v_38.toInt + 136 := by rw [e_93]; exact iAddK 136 rfl (by omega) (by omega)
            refine hm_callPi (va_runV (As := [.int v_92, .int 4]) (b := m9) (rest := [.int r_85]) ⟨hx, hb, hml, hown, hts⟩ (m_highAt l D t G ak av hh5 τ n m9 v_92 4 A th sd lo le wr ma nu di pl se wg op   hn hT T_m9  F_m9 hA ⟨hsd, hlo, (by omega), ⟨by omega, by omega⟩, ⟨by omega, by omega⟩⟩ (by have l0 : (4 : Int32).toInt = 4 := rfl; omega) (by have l0 : (4 : Int32).toInt = 4 := rfl; omega) (by have l0 : (4 : Int32).toInt = 4 := rfl; omega)) ⟨cw9B 2 hts mw_756 mw_757 mw_579 rfl rfl (by decide +kernel) ⟨Nat.le_of_ble_eq_true rfl, Nat.le_of_ble_eq_true rfl⟩, hts _ mw_758, hts _ mw_759⟩ (hP_V (q := (R_Mo, F_Mo, 41)) kE_ok hE hK hH F_m9 rfl) rfl rfl hl.1 rfl (lv_room (Nat.le_of_ble_eq_true rfl)) d_Mo_isRead_159 ⟨Nat.le_of_ble_eq_true rfl, Nat.le_of_ble_eq_true rfl⟩) (fun r_95 h_96 H_97 hp_99  hH z_98 => ?_)
            have hz : s.heap.size ≤ H_97.size := Nat.le_trans hz z_98
            obtain rfl := hp_99
            refine lv_icmp_ne (tgt := 176) hx hb d_Mo_isRead_162 (by decide) (fun hc_101 => ?_) (fun hc_101 => ?_)
            · skip
              refine lv_aload_n hx hb d_Mo_isRead_176 rfl (lv_at hl 2 rfl) ?_
              refine lv_iload_n hx hb d_Mo_isRead_177 rfl (lv_at hl 1 rfl) ?_
              refine lv_sipush (v := 132) hx hb d_Mo_isRead_178 (by decide) ?_
              refine lv_iadd hx hb d_Mo_isRead_181 ?_
              refine lv_topi (fun v_102 e_103 => ?_)
              obtain rfl : v_82 = v_102 := (e_103.trans (e_83.symm)).symm
              refine hm_calli (va_runV (As := [.int v_82]) (b := m9) (rest := []) ⟨hx, hb, hml, hown, hts⟩ (m_no l D t G ak av hh5 τ n m9 v_82 A th sd lo le wr ma nu di pl se wg op   hn hT T_m9  F_m9 hA ⟨hsd, hlo, (by omega), ⟨by omega, by omega⟩, ⟨by omega, by omega⟩⟩ (by omega)) ⟨cw9B 1 hts mw_738 mw_739 mw_579 rfl rfl (by decide +kernel) ⟨Nat.le_of_ble_eq_true rfl, Nat.le_of_ble_eq_true rfl⟩, hts _ mw_740, hts _ mw_741⟩ (hP_V (q := (R_Mo, F_Mo, 41)) kE_ok hE hK hH F_m9 rfl) rfl rfl hl.1 rfl (lv_room (Nat.le_of_ble_eq_true rfl)) d_Mo_isRead_182 ⟨Nat.le_of_ble_eq_true rfl, Nat.le_of_ble_eq_true rfl⟩) hLo (fun r_104 h_105 H_106 locs hp_108 hH z_107 hLo => ?_)
              have hz : s.heap.size ≤ H_106.size := Nat.le_trans hz z_107
              have hT0 := hT
              obtain ⟨c_109, hT, kf_111, xp_110⟩ := hp_108
              have F_A0 : h_105 (A 0) = some (.inl ((t 0), 819200, .inl g_1)) := kf_at kf_111 (hA 0 (by decide)) (by decide) tn0 (nmc (tne (hA 0 (by decide)) T_m9 (by decide)) nm0) F_A0
              have F_A17 : h_105 (A 17) = some (.inl ((t 2), 31, .inl g_3)) := kf_at kf_111 (hA 17 (by decide)) (by decide) tn0 (nmc (tne (hA 17 (by decide)) T_m9 (by decide)) nm0) F_A17
              have F_A19 : h_105 (A 19) = some (.inl ((t 2), 31, .inl g_4)) := kf_at kf_111 (hA 19 (by decide)) (by decide) tn0 (nmc (tne (hA 19 (by decide)) T_m9 (by decide)) nm0) F_A19
              have F_A20 : h_105 (A 20) = some (.inl ((t 2), 31, .inl g_5)) := kf_at kf_111 (hA 20 (by decide)) (by decide) tn0 (nmc (tne (hA 20 (by decide)) T_m9 (by decide)) nm0) F_A20
              have hkf : kf τ [(30, 17), (30, 18), (30, 19), (30, 20), (30, 21), (30, 22)] [m9] h h_105 := kf_tr hkf kf_111 (List.forall_mem_nil _) (List.forall_mem_cons.mpr ⟨Or.inl (by simp), List.forall_mem_nil _⟩)
              obtain ⟨wg_112, F_m9, mk_113, xq_114⟩ := xp_110
              obtain ⟨m_115, m_116, m_117, m_118, m_119⟩ := mk_113
              obtain ⟨hr0, hw0⟩ := xq_114
              subst hr0
              exact W.zret (v := 0) hx hb hr (by decide) (fun t9 ht hW => ⟨0, h_105, rfl, ⟨zb0, hT, hkf, ⟨se, wg_112, F_m9, ⟨m_115, m_116, (by omega), ⟨by omega, by omega⟩, ⟨by omega, by omega⟩⟩, ⟨(by rw [aI_of F_A17, aI_of F_A19, aI_of F_A20]; exact hSq), fun _ => hw0⟩⟩⟩, by rw [ht]; exact hH, by rw [ht]; exact hz⟩) hLo d_Mo_isRead_185
            · skip
              have ic_120 : r_85.toInt = r_95.toInt := congrArg Int32.toInt hc_101
              refine lv_iload_n hx hb d_Mo_isRead_165 rfl (lv_at hl 0 rfl) ?_
              refine lv_if_lt (tgt := 176) hx hb d_Mo_isRead_166 (by decide) (fun hc_121 => ?_) (fun hc_121 => ?_)
              · skip
                have ic_122 : r_85.toInt < 0 := iLt hc_121
                refine lv_aload_n hx hb d_Mo_isRead_176 rfl (lv_at hl 2 rfl) ?_
                refine lv_iload_n hx hb d_Mo_isRead_177 rfl (lv_at hl 1 rfl) ?_
                refine lv_sipush (v := 132) hx hb d_Mo_isRead_178 (by decide) ?_
                refine lv_iadd hx hb d_Mo_isRead_181 ?_
                refine lv_topi (fun v_123 e_124 => ?_)
                obtain rfl : v_82 = v_123 := (e_124.trans (e_83.symm)).symm
                refine hm_calli (va_runV (As := [.int v_82]) (b := m9) (rest := []) ⟨hx, hb, hml, hown, hts⟩ (m_no l D t G ak av hh5 τ n m9 v_82 A th sd lo le wr ma nu di pl se wg op   hn hT T_m9  F_m9 hA ⟨hsd, hlo, (by omega), ⟨by omega, by omega⟩, ⟨by omega, by omega⟩⟩ (by omega)) ⟨cw9B 1 hts mw_738 mw_739 mw_579 rfl rfl (by decide +kernel) ⟨Nat.le_of_ble_eq_true rfl, Nat.le_of_ble_eq_true rfl⟩, hts _ mw_740, hts _ mw_741⟩ (hP_V (q := (R_Mo, F_Mo, 41)) kE_ok hE hK hH F_m9 rfl) rfl rfl hl.1 rfl (lv_room (Nat.le_of_ble_eq_true rfl)) d_Mo_isRead_182 ⟨Nat.le_of_ble_eq_true rfl, Nat.le_of_ble_eq_true rfl⟩) hLo (fun r_125 h_126 H_127 locs hp_129 hH z_128 hLo => ?_)
                have hz : s.heap.size ≤ H_127.size := Nat.le_trans hz z_128
                have hT0 := hT
                obtain ⟨c_130, hT, kf_132, xp_131⟩ := hp_129
                have F_A0 : h_126 (A 0) = some (.inl ((t 0), 819200, .inl g_1)) := kf_at kf_132 (hA 0 (by decide)) (by decide) tn0 (nmc (tne (hA 0 (by decide)) T_m9 (by decide)) nm0) F_A0
                have F_A17 : h_126 (A 17) = some (.inl ((t 2), 31, .inl g_3)) := kf_at kf_132 (hA 17 (by decide)) (by decide) tn0 (nmc (tne (hA 17 (by decide)) T_m9 (by decide)) nm0) F_A17
                have F_A19 : h_126 (A 19) = some (.inl ((t 2), 31, .inl g_4)) := kf_at kf_132 (hA 19 (by decide)) (by decide) tn0 (nmc (tne (hA 19 (by decide)) T_m9 (by decide)) nm0) F_A19
                have F_A20 : h_126 (A 20) = some (.inl ((t 2), 31, .inl g_5)) := kf_at kf_132 (hA 20 (by decide)) (by decide) tn0 (nmc (tne (hA 20 (by decide)) T_m9 (by decide)) nm0) F_A20
                have hkf : kf τ [(30, 17), (30, 18), (30, 19), (30, 20), (30, 21), (30, 22)] [m9] h h_126 := kf_tr hkf kf_132 (List.forall_mem_nil _) (List.forall_mem_cons.mpr ⟨Or.inl (by simp), List.forall_mem_nil _⟩)
                obtain ⟨wg_133, F_m9, mk_134, xq_135⟩ := xp_131
                obtain ⟨m_136, m_137, m_138, m_139, m_140⟩ := mk_134
                obtain ⟨hr0, hw0⟩ := xq_135
                subst hr0
                exact W.zret (v := 0) hx hb hr (by decide) (fun t9 ht hW => ⟨0, h_126, rfl, ⟨zb0, hT, hkf, ⟨se, wg_133, F_m9, ⟨m_136, m_137, (by omega), ⟨by omega, by omega⟩, ⟨by omega, by omega⟩⟩, ⟨(by rw [aI_of F_A17, aI_of F_A19, aI_of F_A20]; exact hSq), fun _ => hw0⟩⟩⟩, by rw [ht]; exact hH, by rw [ht]; exact hz⟩) hLo d_Mo_isRead_185
              · skip
                have ic_141 : 0 ≤ r_85.toInt := iNl hc_121
                refine lv_iload_n hx hb d_Mo_isRead_169 rfl (lv_at hl 0 rfl) ?_
                refine lv_sipush (v := 2048) hx hb d_Mo_isRead_170 (by decide) ?_
                refine lv_icmp_le (tgt := 186) hx hb d_Mo_isRead_173 (by decide) (fun hc_142 => ?_) (fun hc_142 => ?_)
                · skip
                  have ic_143 : r_85.toInt ≤ 2048 := iLe hc_142
                  refine lv_aload_n hx hb d_Mo_isRead_186 rfl (lv_at hl 2 rfl) ?_
                  refine lv_iload_n hx hb d_Mo_isRead_187 rfl (lv_at hl 1 rfl) ?_
                  refine lv_sipush (v := 140) hx hb d_Mo_isRead_188 (by decide) ?_
                  refine lv_iadd hx hb d_Mo_isRead_191 ?_
                  refine lv_topi (fun v_144 e_145 => ?_)
                  refine lv_iconst (v := 4) hx hb d_Mo_isRead_192 (by decide) ?_
                  have is_146 : v_144.toInt = v_38.toInt + 140 := by rw [e_145]; exact iAddK 140 rfl (by omega) (by omega)
                  refine hm_callPi (va_runV (As := [.int v_144, .int 4]) (b := m9) (rest := []) ⟨hx, hb, hml, hown, hts⟩ (m_lowAt l D t G ak av hh5 τ n m9 v_144 4 A th sd lo le wr ma nu di pl se wg op   hn hT T_m9  F_m9 hA ⟨hsd, hlo, (by omega), ⟨by omega, by omega⟩, ⟨by omega, by omega⟩⟩ (by have l0 : (4 : Int32).toInt = 4 := rfl; omega) (by have l0 : (4 : Int32).toInt = 4 := rfl; omega) (by have l0 : (4 : Int32).toInt = 4 := rfl; omega)) ⟨cw9B 2 hts mw_742 mw_743 mw_579 rfl rfl (by decide +kernel) ⟨Nat.le_of_ble_eq_true rfl, Nat.le_of_ble_eq_true rfl⟩, hts _ mw_744, hts _ mw_745⟩ (hP_V (q := (R_Mo, F_Mo, 41)) kE_ok hE hK hH F_m9 rfl) rfl rfl hl.1 rfl (lv_room (Nat.le_of_ble_eq_true rfl)) d_Mo_isRead_193 ⟨Nat.le_of_ble_eq_true rfl, Nat.le_of_ble_eq_true rfl⟩) (fun r_147 h_148 H_149 hp_151  hH z_150 => ?_)
                  have hz : s.heap.size ≤ H_149.size := Nat.le_trans hz z_150
                  obtain ⟨xp_152, rfl⟩ := hp_151
                  have el_153 : r_147 = loF g_1 sd v_144 4 0 := by rw [aI_of F_A0] at xp_152; exact xp_152
                  refine lv_iload_n hx hb d_Mo_isRead_196 rfl (lv_at hl 3 rfl) ?_
                  refine lv_bipush (v := 18) hx hb d_Mo_isRead_197 (by decide) ?_
                  refine lv_iadd hx hb d_Mo_isRead_199 ?_
                  refine lv_topi (fun v_154 e_155 => ?_)
                  refine lv_icmp_eq (tgt := 213) hx hb d_Mo_isRead_200 (by decide) (fun hc_156 => ?_) (fun hc_156 => ?_)
                  · skip
                    have ic_157 : r_147.toInt = v_154.toInt := congrArg Int32.toInt hc_156
                    refine lv_aload_n hx hb d_Mo_isRead_213 rfl (lv_at hl 2 rfl) ?_
                    refine lv_iload_n hx hb d_Mo_isRead_214 rfl (lv_at hl 1 rfl) ?_
                    refine lv_sipush (v := 148) hx hb d_Mo_isRead_215 (by decide) ?_
                    refine lv_iadd hx hb d_Mo_isRead_218 ?_
                    refine lv_topi (fun v_158 e_159 => ?_)
                    refine lv_iconst (v := 4) hx hb d_Mo_isRead_219 (by decide) ?_
                    have is_160 : v_158.toInt = v_38.toInt + 148 := by rw [e_159]; exact iAddK 148 rfl (by omega) (by omega)
                    refine hm_callPi (va_runV (As := [.int v_158, .int 4]) (b := m9) (rest := []) ⟨hx, hb, hml, hown, hts⟩ (m_highAt l D t G ak av hh5 τ n m9 v_158 4 A th sd lo le wr ma nu di pl se wg op   hn hT T_m9  F_m9 hA ⟨hsd, hlo, (by omega), ⟨by omega, by omega⟩, ⟨by omega, by omega⟩⟩ (by have l0 : (4 : Int32).toInt = 4 := rfl; omega) (by have l0 : (4 : Int32).toInt = 4 := rfl; omega) (by have l0 : (4 : Int32).toInt = 4 := rfl; omega)) ⟨cw9B 2 hts mw_756 mw_757 mw_579 rfl rfl (by decide +kernel) ⟨Nat.le_of_ble_eq_true rfl, Nat.le_of_ble_eq_true rfl⟩, hts _ mw_758, hts _ mw_759⟩ (hP_V (q := (R_Mo, F_Mo, 41)) kE_ok hE hK hH F_m9 rfl) rfl rfl hl.1 rfl (lv_room (Nat.le_of_ble_eq_true rfl)) d_Mo_isRead_220 ⟨Nat.le_of_ble_eq_true rfl, Nat.le_of_ble_eq_true rfl⟩) (fun r_161 h_162 H_163 hp_165  hH z_164 => ?_)
                    have hz : s.heap.size ≤ H_163.size := Nat.le_trans hz z_164
                    obtain rfl := hp_165
                    refine lv_iload_n hx hb d_Mo_isRead_223 rfl (lv_at hl 3 rfl) ?_
                    refine lv_bipush (v := 19) hx hb d_Mo_isRead_224 (by decide) ?_
                    refine lv_iadd hx hb d_Mo_isRead_226 ?_
                    refine lv_topi (fun v_167 e_168 => ?_)
                    refine lv_icmp_eq (tgt := 240) hx hb d_Mo_isRead_227 (by decide) (fun hc_169 => ?_) (fun hc_169 => ?_)
                    · skip
                      have ic_170 : r_161.toInt = v_167.toInt := congrArg Int32.toInt hc_169
                      refine lv_aload_n hx hb d_Mo_isRead_240 rfl (lv_at hl 2 rfl) ?_
                      refine lv_iload_n hx hb d_Mo_isRead_241 rfl (lv_at hl 1 rfl) ?_
                      refine lv_sipush (v := 156) hx hb d_Mo_isRead_242 (by decide) ?_
                      refine lv_iadd hx hb d_Mo_isRead_245 ?_
                      refine lv_topi (fun v_171 e_172 => ?_)
                      refine lv_iconst (v := 0) hx hb d_Mo_isRead_246 (by decide) ?_
                      have h0o := aI_of F_A0
                      have is_173 : v_171.toInt = v_38.toInt + 156 := by rw [e_172]; exact iAddK 156 rfl (by omega) (by omega)
                      refine hm_calli (va_runV (As := [.int v_171, .int 0]) (b := m9) (rest := []) ⟨hx, hb, hml, hown, hts⟩ (m_isRec l D t G ak av hh5 τ n m9 v_171 0 A th sd lo le wr ma nu di pl se wg op   hn hT T_m9  F_m9 hA ⟨hsd, hlo, (by omega), ⟨by omega, by omega⟩, ⟨by omega, by omega⟩⟩ (by omega) (by omega)) ⟨cw9B 2 hts mw_771 mw_772 mw_579 rfl rfl (by decide +kernel) ⟨Nat.le_of_ble_eq_true rfl, Nat.le_of_ble_eq_true rfl⟩, hts _ mw_773, hts _ mw_774⟩ (hP_V (q := (R_Mo, F_Mo, 41)) kE_ok hE hK hH F_m9 rfl) rfl rfl hl.1 rfl (lv_room (Nat.le_of_ble_eq_true rfl)) d_Mo_isRead_247 ⟨Nat.le_of_ble_eq_true rfl, Nat.le_of_ble_eq_true rfl⟩) hLo (fun r_174 h_175 H_176 locs hp_178 hH z_177 hLo => ?_)
                      have hz : s.heap.size ≤ H_176.size := Nat.le_trans hz z_177
                      have hT0 := hT
                      obtain ⟨c_179, hT, kf_181, xp_180⟩ := hp_178
                      have F_A0 : h_175 (A 0) = some (.inl ((t 0), 819200, .inl g_1)) := kf_at kf_181 (hA 0 (by decide)) (by decide) tn0 (nmc (tne (hA 0 (by decide)) T_m9 (by decide)) nm0) F_A0
                      have F_A17 : h_175 (A 17) = some (.inl ((t 2), 31, .inl g_3)) := kf_at kf_181 (hA 17 (by decide)) (by decide) tn0 (nmc (tne (hA 17 (by decide)) T_m9 (by decide)) nm0) F_A17
                      have F_A19 : h_175 (A 19) = some (.inl ((t 2), 31, .inl g_4)) := kf_at kf_181 (hA 19 (by decide)) (by decide) tn0 (nmc (tne (hA 19 (by decide)) T_m9 (by decide)) nm0) F_A19
                      have F_A20 : h_175 (A 20) = some (.inl ((t 2), 31, .inl g_5)) := kf_at kf_181 (hA 20 (by decide)) (by decide) tn0 (nmc (tne (hA 20 (by decide)) T_m9 (by decide)) nm0) F_A20
                      have hkf : kf τ [(30, 17), (30, 18), (30, 19), (30, 20), (30, 21), (30, 22)] [m9] h h_175 := kf_tr hkf kf_181 (List.forall_mem_nil _) (List.forall_mem_cons.mpr ⟨Or.inl (by simp), List.forall_mem_nil _⟩)
                      obtain ⟨wg_182, F_m9, mk_183, xq_184⟩ := xp_180
                      obtain ⟨m_185, m_186, m_187, m_188, m_189⟩ := mk_183
                      rw [h0o] at xq_184
                      refine lv_if_ne (tgt := 255) hx hb d_Mo_isRead_250 (by decide) (fun hc_190 => ?_) (fun hc_190 => ?_)
                      · skip
                        have hrec := xq_184.1 (c_179.resolve_left hc_190)
                        refine lv_aload_n hx hb d_Mo_isRead_255 rfl (lv_at hl 2 rfl) ?_
                        refine lv_iconst (v := 0) hx hb d_Mo_isRead_256 (by decide) ?_
                        refine lv_iconst (v := -1) hx hb d_Mo_isRead_257 (by decide) ?_
                        refine lv_iload_n hx hb d_Mo_isRead_258 rfl (lv_at hl 1 rfl) ?_
                        refine lv_sipush (v := 156) hx hb d_Mo_isRead_259 (by decide) ?_
                        refine lv_iadd hx hb d_Mo_isRead_262 ?_
                        refine lv_topi (fun v_191 e_192 => ?_)
                        obtain rfl : v_171 = v_191 := (e_192.trans (e_172.symm)).symm
                        refine lv_iconst (v := 1) hx hb d_Mo_isRead_263 (by decide) ?_
                        have h17o := aI_of F_A17
                        have h19o := aI_of F_A19
                        have h20o := aI_of F_A20
                        refine hm_callv (va_runV (As := [.int 0, .int (-1), .int v_171, .int 1]) (b := m9) (rest := []) ⟨hx, hb, hml, hown, hts⟩ (m_begin l D t G ak av h_175 τ n m9 0 (-1) v_171 (1 : Int32) A th sd lo le wr ma nu di pl se wg_182 op   hn hT T_m9 zb1  F_m9 hA ⟨m_185, m_186, (by omega), ⟨by omega, by omega⟩, ⟨by omega, by omega⟩⟩ (by decide) (by decide) (by decide) (by decide) (by omega) (by omega) (by rw [aI_of F_A0]; exact hrec)) ⟨cw9B 4 hts mw_767 mw_768 mw_579 rfl rfl (by decide +kernel) ⟨Nat.le_of_ble_eq_true rfl, Nat.le_of_ble_eq_true rfl⟩, hts _ mw_769, hts _ mw_770⟩ (hP_V (q := (R_Mo, F_Mo, 41)) kE_ok hE hK hH F_m9 rfl) rfl rfl hl.1 rfl (lv_room (Nat.le_of_ble_eq_true rfl)) d_Mo_isRead_264 ⟨Nat.le_of_ble_eq_true rfl, Nat.le_of_ble_eq_true rfl⟩) hLo (fun h_193 H_194 locs hp_196 hH z_195 hLo => ?_)
                        have hz : s.heap.size ≤ H_194.size := Nat.le_trans hz z_195
                        have hT0 := hT
                        obtain ⟨hT, kf_198, xp_197⟩ := hp_196
                        have F_A0 : h_193 (A 0) = some (.inl ((t 0), 819200, .inl g_1)) := kf_at kf_198 (hA 0 (by decide)) (by decide) (tncF (by decide) (tncF (by decide) (tncF (by decide) (tncF (by decide) (tncF (by decide) (tncF (by decide) tn0)))))) nm0 F_A0
                        have F_m9 : h_193 m9 = some (.inr (9, mf A n th sd lo le wr ma nu di pl se wg_182 op)) := kf_at kf_198 T_m9 (by decide) (tnc (by decide) (tnc (by decide) (tnc (by decide) (tnc (by decide) (tnc (by decide) (tnc (by decide) tn0)))))) nm0 F_m9
                        have hkf : kf τ [(30, 17), (30, 18), (30, 19), (30, 20), (30, 21), (30, 22)] [m9] h h_193 := kf_tr hkf kf_198 (List.forall_mem_cons.mpr ⟨List.mem_cons_self, List.forall_mem_cons.mpr ⟨(List.mem_cons_of_mem _ List.mem_cons_self), List.forall_mem_cons.mpr ⟨(List.mem_cons_of_mem _ (List.mem_cons_of_mem _ List.mem_cons_self)), List.forall_mem_cons.mpr ⟨(List.mem_cons_of_mem _ (List.mem_cons_of_mem _ (List.mem_cons_of_mem _ List.mem_cons_self))), List.forall_mem_cons.mpr ⟨(List.mem_cons_of_mem _ (List.mem_cons_of_mem _ (List.mem_cons_of_mem _ (List.mem_cons_of_mem _ List.mem_cons_self)))), List.forall_mem_cons.mpr ⟨(List.mem_cons_of_mem _ (List.mem_cons_of_mem _ (List.mem_cons_of_mem _ (List.mem_cons_of_mem _ (List.mem_cons_of_mem _ List.mem_cons_self))))), List.forall_mem_nil _⟩⟩⟩⟩⟩⟩) (List.forall_mem_nil _)
                        obtain ⟨sz7, fr7, b1, b2, b3, b4⟩ := xp_197
                        rw [h17o] at b1
                        rw [h19o] at b2
                        rw [h20o] at b3
                        obtain ⟨g_199, F_A17⟩ := TI_arI (L := 31) hT (hA 17 (by decide)) rfl rfl
                        obtain ⟨g_200, F_A19⟩ := TI_arI (L := 31) hT (hA 19 (by decide)) rfl rfl
                        obtain ⟨g_201, F_A20⟩ := TI_arI (L := 31) hT (hA 20 (by decide)) rfl rfl
                        rw [aI_of F_A17] at b1
                        rw [aI_of F_A19] at b2
                        rw [aI_of F_A20] at b3
                        have hSq : seQ g_199 g_200 g_201 1 n := by rw [b1, b2, b3]; exact seQ_1 b4
                        refine lv_aload_n hx hb d_Mo_isRead_267 rfl (lv_at hl 2 rfl) ?_
                        refine lv_iconst (v := 1) hx hb d_Mo_isRead_268 (by decide) ?_
                        refine hm_put (ci := 9) (v := .int 1) (ty := .int) (C := R_Mo) (T := F_Mo) (N := 41) hx hb hts ig_Mo t_Mo tk_Mo nm_Mo hown hK hH hLo F_m9 rfl 27 (by decide) (hts _ mw_766) (fun _ h9 => h9) rfl (by decide +kernel) rfl rfl (Nat.le_of_ble_eq_true rfl) d_Mo_isRead_269 (fun H_202 locs hH z_203 hLo => ?_)
                        have hz : s.heap.size ≤ H_202.size := by rw [z_203]; exact hz
                        obtain ⟨h_204, e_205⟩ : ∃ z, z = hu h_193 m9 (.inr (9, mf A n th sd lo le wr ma nu di pl 1 wg_182 op)) := ⟨_, rfl⟩
                        have hH : hm D vwCl G h_204 H_202 := by rw [e_205]; exact hH
                        have F_A0 : h_204 (A 0) = some (.inl ((t 0), 819200, .inl g_1)) := by rw [e_205, hu_n (tne (hA 0 (by decide)) T_m9 (by decide))]; exact F_A0
                        have F_A17 : h_204 (A 17) = some (.inl ((t 2), 31, .inl g_199)) := by rw [e_205, hu_n (tne (hA 17 (by decide)) T_m9 (by decide))]; exact F_A17
                        have F_A19 : h_204 (A 19) = some (.inl ((t 2), 31, .inl g_200)) := by rw [e_205, hu_n (tne (hA 19 (by decide)) T_m9 (by decide))]; exact F_A19
                        have F_A20 : h_204 (A 20) = some (.inl ((t 2), 31, .inl g_201)) := by rw [e_205, hu_n (tne (hA 20 (by decide)) T_m9 (by decide))]; exact F_A20
                        have F_m9 : h_204 m9 = some (.inr (9, mf A n th sd lo le wr ma nu di pl 1 wg_182 op)) := by rw [e_205]; exact hu_s _ _ _
                        have hT : TI τ t n h_204 := by rw [e_205]; exact TI_put hT T_m9 (by decide) ⟨_, rfl⟩
                        have hkf : kf τ [(30, 17), (30, 18), (30, 19), (30, 20), (30, 21), (30, 22)] [m9] h h_204 := by rw [e_205]; exact kf_putM hkf (by simp)
                        refine lv_iconst (v := 0) hx hb d_Mo_isRead_272 (by decide) ?_
                        refine lv_istore (lv' := [(4, .int 0), (3, .int r_85), (2, .int v_38), (0, .ref m9), (1, .int b9)]) hx hb d_Mo_isRead_273 hl (by decide) rfl (fun ls hl => ?_)
                        refine hm_loop (fun k275 ls H locs hh275 => ∃ (i9 : Int32) (se8 : Int32) (wg8 : Int32), k275 = mU i9 ∧ lv_has ls 5 [(0, .ref m9), (1, .int b9), (2, .int v_38), (3, .int r_85), (4, .int i9)] ∧ hm D vwCl G hh275 H ∧ s.heap.size ≤ H.size ∧ hLc G.P locs ∧ (TI τ t n hh275) ∧ (kf τ [(30, 17), (30, 18), (30, 19), (30, 20), (30, 21), (30, 22)] [m9] h hh275) ∧ (hh275 m9 = some (.inr (9, mf A n th sd lo le wr ma nu di pl se8 wg8 op))) ∧ (0 ≤ i9.toInt ∧ 0 ≤ se8.toInt ∧ se8.toInt ≤ 30) ∧ (seQ (aI hh275 (A 17)) (aI hh275 (A 19)) (aI hh275 (A 20)) se8.toInt.toNat n)) ?_ (hh := h_204) ⟨0, 1, wg_182, rfl, (lv_sub hl [3, 4, 2, 1, 0] rfl), hH, hz, hLo, hT, hkf, F_m9, ⟨by decide, by decide, by decide⟩, (by rw [aI_of F_A17, aI_of F_A19, aI_of F_A20]; exact hSq)⟩
                        rintro k275 ls H locs hh275 ⟨i9, se8, wg8, hk275, hl, hH, hz, hLo, hT, hkf, F_m9, I_i9, hSq⟩ ih275
                        obtain ⟨g_206, F_A17⟩ := TI_arI (L := 31) hT (hA 17 (by decide)) rfl rfl
                        obtain ⟨g_207, F_A19⟩ := TI_arI (L := 31) hT (hA 19 (by decide)) rfl rfl
                        obtain ⟨g_208, F_A20⟩ := TI_arI (L := 31) hT (hA 20 (by decide)) rfl rfl
                        rw [aI_of F_A17, aI_of F_A19, aI_of F_A20] at hSq
                        refine lv_iload hx hb d_Mo_isRead_275 (lv_at hl 4 rfl) ?_
                        refine lv_aload_n hx hb d_Mo_isRead_277 rfl (lv_at hl 0 rfl) ?_
                        refine hm_get (ci := 9) (v := .int se8) (C := R_Mo) (T := F_Mo) (N := 41) hx hb hts ig_Mo hown hK hH F_m9 rfl 27 (by decide) (hts _ mw_766) (fun _ h9 => h9) rfl d_Mo_isRead_278 ?_
                        refine lv_icmp_ge (tgt := 311) hx hb d_Mo_isRead_281 (by decide) (fun hc_209 => ?_) (fun hc_209 => ?_)
                        · skip
                          have ic_210 : se8.toInt ≤ i9.toInt := iLe hc_209
                          refine lv_aload_n hx hb d_Mo_isRead_311 rfl (lv_at hl 0 rfl) ?_
                          refine lv_iload_n hx hb d_Mo_isRead_312 rfl (lv_at hl 1 rfl) ?_
                          refine lv_bipush (v := 18) hx hb d_Mo_isRead_313 (by decide) ?_
                          refine lv_iadd hx hb d_Mo_isRead_315 ?_
                          refine lv_topi (fun v_211 e_212 => ?_)
                          obtain rfl : v_154 = v_211 := (e_212.trans (e_155.symm)).symm
                          have is_213 : v_154.toInt = b9.toInt + 18 := by rw [e_155]; exact iAddK 18 rfl (by omega) (by omega)
                          refine hm_calli (va_runV (As := [.int v_154]) (b := m9) (rest := []) ⟨hx, hb, hml, hown, hts⟩ (m_tableIs l D t G ak av hh275 τ n m9 v_154 A th sd lo le wr ma nu di pl se8 wg8 op   hn hT T_m9  F_m9 hA ⟨m_185, m_186, (by omega), ⟨by omega, by omega⟩, ⟨by omega, by omega⟩⟩ (by rw [aI_of F_A17, aI_of F_A19, aI_of F_A20]; exact hSq) (by omega) (by omega)) ⟨cw9B 1 hts mw_787 mw_788 mw_579 rfl rfl (by decide +kernel) ⟨Nat.le_of_ble_eq_true rfl, Nat.le_of_ble_eq_true rfl⟩, hts _ mw_789, hts _ mw_790⟩ (hP_V (q := (R_Mo, F_Mo, 41)) kE_ok hE hK hH F_m9 rfl) rfl rfl hl.1 rfl (lv_room (Nat.le_of_ble_eq_true rfl)) d_Mo_isRead_316 ⟨Nat.le_of_ble_eq_true rfl, Nat.le_of_ble_eq_true rfl⟩) hLo (fun r_214 h_215 H_216 locs hp_218 hH z_217 hLo => ?_)
                          have hz : s.heap.size ≤ H_216.size := Nat.le_trans hz z_217
                          have hT0 := hT
                          obtain ⟨hT, kf_220, xp_219⟩ := hp_218
                          have F_A17 : h_215 (A 17) = some (.inl ((t 2), 31, .inl g_206)) := kf_at kf_220 (hA 17 (by decide)) (by decide) tn0 (nmc (tne (hA 17 (by decide)) T_m9 (by decide)) nm0) F_A17
                          have F_A19 : h_215 (A 19) = some (.inl ((t 2), 31, .inl g_207)) := kf_at kf_220 (hA 19 (by decide)) (by decide) tn0 (nmc (tne (hA 19 (by decide)) T_m9 (by decide)) nm0) F_A19
                          have F_A20 : h_215 (A 20) = some (.inl ((t 2), 31, .inl g_208)) := kf_at kf_220 (hA 20 (by decide)) (by decide) tn0 (nmc (tne (hA 20 (by decide)) T_m9 (by decide)) nm0) F_A20
                          have hkf : kf τ [(30, 17), (30, 18), (30, 19), (30, 20), (30, 21), (30, 22)] [m9] h h_215 := kf_tr hkf kf_220 (List.forall_mem_nil _) (List.forall_mem_cons.mpr ⟨Or.inl (by simp), List.forall_mem_nil _⟩)
                          obtain ⟨wg_221, F_m9, mk_222, xq_223⟩ := xp_219
                          obtain ⟨m_224, m_225, m_226, m_227, m_228⟩ := mk_222
                          refine lv_istore (lv' := [(4, .int r_214), (0, .ref m9), (1, .int b9), (2, .int v_38), (3, .int r_85)]) hx hb d_Mo_isRead_319 hl (by decide) rfl (fun ls hl => ?_)
                          refine lv_iload hx hb d_Mo_isRead_321 (lv_at hl 0 rfl) ?_
                          refine lv_if_ge (tgt := 328) hx hb d_Mo_isRead_323 (by decide) (fun hc_229 => ?_) (fun hc_229 => ?_)
                          · skip
                            have ic_230 : 0 ≤ r_214.toInt := iLe hc_229
                            refine lv_iload hx hb d_Mo_isRead_328 (lv_at hl 0 rfl) ?_
                            refine lv_iload_n hx hb d_Mo_isRead_330 rfl (lv_at hl 4 rfl) ?_
                            refine lv_icmp_eq (tgt := 346) hx hb d_Mo_isRead_331 (by decide) (fun hc_231 => ?_) (fun hc_231 => ?_)
                            · skip
                              have ic_232 : r_214.toInt = r_85.toInt := congrArg Int32.toInt hc_231
                              refine lv_iconst (v := 1) hx hb d_Mo_isRead_346 (by decide) ?_
                              refine lv_goto (tgt := 351) hx hb d_Mo_isRead_347 (by decide) ?_
                              exact W.zret (v := 1) hx hb hr (by decide) (fun t9 ht hW => ⟨1, h_215, rfl, ⟨zb1, hT, hkf, ⟨se8, wg_221, F_m9, ⟨m_224, m_225, (by omega), ⟨by omega, by omega⟩, ⟨by omega, by omega⟩⟩, ⟨(by rw [aI_of F_A17, aI_of F_A19, aI_of F_A20]; exact hSq), fun z => absurd z (by decide)⟩⟩⟩, by rw [ht]; exact hH, by rw [ht]; exact hz⟩) hLo d_Mo_isRead_351
                            · skip
                              refine lv_aload_n hx hb d_Mo_isRead_334 rfl (lv_at hl 1 rfl) ?_
                              refine lv_iload_n hx hb d_Mo_isRead_335 rfl (lv_at hl 3 rfl) ?_
                              refine lv_sipush (v := 132) hx hb d_Mo_isRead_336 (by decide) ?_
                              refine lv_iadd hx hb d_Mo_isRead_339 ?_
                              refine lv_topi (fun v_233 e_234 => ?_)
                              obtain rfl : v_82 = v_233 := (e_234.trans (e_83.symm)).symm
                              have is_235 : v_6.toInt = b9.toInt + 16 := by rw [e_7]; exact iAddK 16 rfl (by omega) (by omega)
                              have is_236 : v_38.toInt = 2048 * v_6.toInt := by rw [e_39]; exact iMulL 2048 rfl (by omega) (by omega)
                              have is_237 : v_82.toInt = v_38.toInt + 132 := by rw [e_83]; exact iAddK 132 rfl (by omega) (by omega)
                              refine hm_calli (va_runV (As := [.int v_82]) (b := m9) (rest := []) ⟨hx, hb, hml, hown, hts⟩ (m_no l D t G ak av h_215 τ n m9 v_82 A th sd lo le wr ma nu di pl se8 wg_221 op   hn hT T_m9  F_m9 hA ⟨m_224, m_225, (by omega), ⟨by omega, by omega⟩, ⟨by omega, by omega⟩⟩ (by omega)) ⟨cw9B 1 hts mw_738 mw_739 mw_579 rfl rfl (by decide +kernel) ⟨Nat.le_of_ble_eq_true rfl, Nat.le_of_ble_eq_true rfl⟩, hts _ mw_740, hts _ mw_741⟩ (hP_V (q := (R_Mo, F_Mo, 41)) kE_ok hE hK hH F_m9 rfl) rfl rfl hl.1 rfl (lv_room (Nat.le_of_ble_eq_true rfl)) d_Mo_isRead_340 ⟨Nat.le_of_ble_eq_true rfl, Nat.le_of_ble_eq_true rfl⟩) hLo (fun r_238 h_239 H_240 locs hp_242 hH z_241 hLo => ?_)
                              have hz : s.heap.size ≤ H_240.size := Nat.le_trans hz z_241
                              have hT0 := hT
                              obtain ⟨c_243, hT, kf_245, xp_244⟩ := hp_242
                              have F_A17 : h_239 (A 17) = some (.inl ((t 2), 31, .inl g_206)) := kf_at kf_245 (hA 17 (by decide)) (by decide) tn0 (nmc (tne (hA 17 (by decide)) T_m9 (by decide)) nm0) F_A17
                              have F_A19 : h_239 (A 19) = some (.inl ((t 2), 31, .inl g_207)) := kf_at kf_245 (hA 19 (by decide)) (by decide) tn0 (nmc (tne (hA 19 (by decide)) T_m9 (by decide)) nm0) F_A19
                              have F_A20 : h_239 (A 20) = some (.inl ((t 2), 31, .inl g_208)) := kf_at kf_245 (hA 20 (by decide)) (by decide) tn0 (nmc (tne (hA 20 (by decide)) T_m9 (by decide)) nm0) F_A20
                              have hkf : kf τ [(30, 17), (30, 18), (30, 19), (30, 20), (30, 21), (30, 22)] [m9] h h_239 := kf_tr hkf kf_245 (List.forall_mem_nil _) (List.forall_mem_cons.mpr ⟨Or.inl (by simp), List.forall_mem_nil _⟩)
                              obtain ⟨wg_246, F_m9, mk_247, xq_248⟩ := xp_244
                              obtain ⟨m_249, m_250, m_251, m_252, m_253⟩ := mk_247
                              obtain ⟨hr0, hw0⟩ := xq_248
                              subst hr0
                              refine lv_if_eq (tgt := 350) hx hb d_Mo_isRead_343 (by decide) (fun hc_254 => ?_) (fun hc_254 => absurd hc_254 (by decide))
                              refine lv_iconst (v := 0) hx hb d_Mo_isRead_350 (by decide) ?_
                              exact W.zret (v := 0) hx hb hr (by decide) (fun t9 ht hW => ⟨0, h_239, rfl, ⟨zb0, hT, hkf, ⟨se8, wg_246, F_m9, ⟨m_249, m_250, (by omega), ⟨by omega, by omega⟩, ⟨by omega, by omega⟩⟩, ⟨(by rw [aI_of F_A17, aI_of F_A19, aI_of F_A20]; exact hSq), fun _ => hw0⟩⟩⟩, by rw [ht]; exact hH, by rw [ht]; exact hz⟩) hLo d_Mo_isRead_351
                          · skip
                            have ic_255 : r_214.toInt < 0 := iNe hc_229
                            have hw0 := xq_223 (by omega)
                            refine lv_iconst (v := 0) hx hb d_Mo_isRead_326 (by decide) ?_
                            exact W.zret (v := 0) hx hb hr (by decide) (fun t9 ht hW => ⟨0, h_215, rfl, ⟨zb0, hT, hkf, ⟨se8, wg_221, F_m9, ⟨m_224, m_225, (by omega), ⟨by omega, by omega⟩, ⟨by omega, by omega⟩⟩, ⟨(by rw [aI_of F_A17, aI_of F_A19, aI_of F_A20]; exact hSq), fun _ => hw0⟩⟩⟩, by rw [ht]; exact hH, by rw [ht]; exact hz⟩) hLo d_Mo_isRead_327
                        · skip
                          have ic_256 : i9.toInt < se8.toInt := iNe hc_209
                          have iu_257 : se8.toInt < 2147483648 := iUp _
                          refine lv_aload_n hx hb d_Mo_isRead_284 rfl (lv_at hl 0 rfl) ?_
                          refine hm_get (ci := 9) (v := .ref (A 18)) (C := R_Mo) (T := F_Mo) (N := 41) hx hb hts ig_Mo hown hK hH F_m9 rfl 30 (by decide) (hts _ mw_761) (fun _ h9 => h9) rfl d_Mo_isRead_285 ?_
                          refine lv_iload hx hb d_Mo_isRead_288 (lv_at hl 4 rfl) ?_
                          obtain ⟨g_258, F_A18, c_259⟩ := TI_arZ (L := 31) hT (hA 18 (by decide)) rfl rfl
                          refine hm_zald hx hb hK hH 1 F_A18 rfl (iIn (by omega) (by omega)) d_Mo_isRead_290 ?_
                          refine lv_topi (fun v_260 e_261 => ?_)
                          have c_262 : zb v_260 := by rw [e_261]; exact c_259 _
                          refine lv_if_eq (tgt := 305) hx hb d_Mo_isRead_291 (by decide) (fun hc_263 => ?_) (fun hc_263 => ?_)
                          · skip
                            have ic_264 : v_260.toInt = 0 := congrArg Int32.toInt hc_263
                            obtain ⟨j_265, e_266⟩ : ∃ z : Int32, z = i9 + 1 := ⟨_, rfl⟩
                            refine lv_iinc (v := j_265) (lv' := [(4, .int j_265), (0, .ref m9), (1, .int b9), (2, .int v_38), (3, .int r_85)]) hx hb d_Mo_isRead_305 hl (k := 4) rfl e_266.symm (by decide) rfl (fun ls hl => ?_)
                            refine lv_goto (tgt := 275) hx hb d_Mo_isRead_308 (by decide) ?_
                            have is_267 : j_265.toInt = i9.toInt + 1 := by rw [e_266]; exact iAddK 1 rfl (by omega) (by omega)
                            exact ih275 (mU j_265) ls _ locs _ (by rw [hk275]; exact mU_lt (by omega)) ⟨j_265, se8, wg8, rfl, (lv_sub hl [1, 2, 3, 4, 0] rfl), hH, hz, hLo, hT, hkf, F_m9, ⟨by omega, by omega, by omega⟩, (by rw [aI_of F_A17, aI_of F_A19, aI_of F_A20]; exact hSq)⟩
                          · skip
                            refine lv_aload_n hx hb d_Mo_isRead_294 rfl (lv_at hl 0 rfl) ?_
                            refine lv_iload hx hb d_Mo_isRead_295 (lv_at hl 4 rfl) ?_
                            refine hm_calli (va_runV (As := [.int i9]) (b := m9) (rest := []) ⟨hx, hb, hml, hown, hts⟩ (m_isGone l D t G ak av hh275 τ n m9 i9 A th sd lo le wr ma nu di pl se8 wg8 op   hn hT T_m9  F_m9 hA ⟨m_185, m_186, (by omega), ⟨by omega, by omega⟩, ⟨by omega, by omega⟩⟩ (by rw [aI_of F_A17, aI_of F_A19, aI_of F_A20]; exact hSq) (by omega) (by omega)) ⟨cw9B 1 hts mw_791 mw_792 mw_579 rfl rfl (by decide +kernel) ⟨Nat.le_of_ble_eq_true rfl, Nat.le_of_ble_eq_true rfl⟩, hts _ mw_793, hts _ mw_794⟩ (hP_V (q := (R_Mo, F_Mo, 41)) kE_ok hE hK hH F_m9 rfl) rfl rfl hl.1 rfl (lv_room (Nat.le_of_ble_eq_true rfl)) d_Mo_isRead_297 ⟨Nat.le_of_ble_eq_true rfl, Nat.le_of_ble_eq_true rfl⟩) hLo (fun r_268 h_269 H_270 locs hp_272 hH z_271 hLo => ?_)
                            have hz : s.heap.size ≤ H_270.size := Nat.le_trans hz z_271
                            have hT0 := hT
                            obtain ⟨c_273, hT, kf_275, xp_274⟩ := hp_272
                            have hkf : kf τ [(30, 17), (30, 18), (30, 19), (30, 20), (30, 21), (30, 22)] [m9] h h_269 := kf_tr hkf kf_275 (List.forall_mem_cons.mpr ⟨List.mem_cons_self, List.forall_mem_cons.mpr ⟨(List.mem_cons_of_mem _ List.mem_cons_self), List.forall_mem_cons.mpr ⟨(List.mem_cons_of_mem _ (List.mem_cons_of_mem _ List.mem_cons_self)), List.forall_mem_cons.mpr ⟨(List.mem_cons_of_mem _ (List.mem_cons_of_mem _ (List.mem_cons_of_mem _ List.mem_cons_self))), List.forall_mem_cons.mpr ⟨(List.mem_cons_of_mem _ (List.mem_cons_of_mem _ (List.mem_cons_of_mem _ (List.mem_cons_of_mem _ List.mem_cons_self)))), List.forall_mem_cons.mpr ⟨(List.mem_cons_of_mem _ (List.mem_cons_of_mem _ (List.mem_cons_of_mem _ (List.mem_cons_of_mem _ (List.mem_cons_of_mem _ List.mem_cons_self))))), List.forall_mem_nil _⟩⟩⟩⟩⟩⟩) (List.forall_mem_cons.mpr ⟨Or.inl (by simp), List.forall_mem_nil _⟩)
                            obtain ⟨se_276, wg_277, F_m9, mk_278, xq_279⟩ := xp_274
                            obtain ⟨m_280, m_281, m_282, m_283, m_284⟩ := mk_278
                            obtain ⟨xa1, xa2, xa3⟩ := xq_279
                            obtain ⟨g_285, F_A17⟩ := TI_arI (L := 31) hT (hA 17 (by decide)) rfl rfl
                            obtain ⟨g_286, F_A19⟩ := TI_arI (L := 31) hT (hA 19 (by decide)) rfl rfl
                            obtain ⟨g_287, F_A20⟩ := TI_arI (L := 31) hT (hA 20 (by decide)) rfl rfl
                            rw [aI_of F_A17, aI_of F_A19, aI_of F_A20] at xa1
                            have hSq := xa1
                            rcases c_273 with rfl | rfl
                            · skip
                              have hw0 := xa3 rfl
                              refine lv_if_ne (tgt := 305) hx hb d_Mo_isRead_300 (by decide) (fun hc_288 => absurd hc_288 (by decide)) (fun hc_288 => ?_)
                              refine lv_iconst (v := 0) hx hb d_Mo_isRead_303 (by decide) ?_
                              exact W.zret (v := 0) hx hb hr (by decide) (fun t9 ht hW => ⟨0, h_269, rfl, ⟨zb0, hT, hkf, ⟨se_276, wg_277, F_m9, ⟨m_280, m_281, (by omega), ⟨by omega, by omega⟩, ⟨by omega, by omega⟩⟩, ⟨(by rw [aI_of F_A17, aI_of F_A19, aI_of F_A20]; exact hSq), fun _ => hw0⟩⟩⟩, by rw [ht]; exact hH, by rw [ht]; exact hz⟩) hLo d_Mo_isRead_304
                            · skip
                              refine lv_if_ne (tgt := 305) hx hb d_Mo_isRead_300 (by decide) (fun hc_289 => ?_) (fun hc_289 => absurd hc_289 (by decide))
                              obtain ⟨j_290, e_291⟩ : ∃ z : Int32, z = i9 + 1 := ⟨_, rfl⟩
                              refine lv_iinc (v := j_290) (lv' := [(4, .int j_290), (0, .ref m9), (1, .int b9), (2, .int v_38), (3, .int r_85)]) hx hb d_Mo_isRead_305 hl (k := 4) rfl e_291.symm (by decide) rfl (fun ls hl => ?_)
                              refine lv_goto (tgt := 275) hx hb d_Mo_isRead_308 (by decide) ?_
                              have is_292 : j_290.toInt = i9.toInt + 1 := by rw [e_291]; exact iAddK 1 rfl (by omega) (by omega)
                              exact ih275 (mU j_290) ls _ locs _ (by rw [hk275]; exact mU_lt (by omega)) ⟨j_290, se_276, wg_277, rfl, (lv_sub hl [1, 2, 3, 4, 0] rfl), hH, hz, hLo, hT, hkf, F_m9, ⟨by omega, by omega, by omega⟩, (by rw [aI_of F_A17, aI_of F_A19, aI_of F_A20]; exact hSq)⟩
                      · skip
                        have ic_293 : r_174.toInt = 0 := congrArg Int32.toInt hc_190
                        have hw0 := xq_184.2 hc_190
                        refine lv_iconst (v := 0) hx hb d_Mo_isRead_253 (by decide) ?_
                        exact W.zret (v := 0) hx hb hr (by decide) (fun t9 ht hW => ⟨0, h_175, rfl, ⟨zb0, hT, hkf, ⟨se, wg_182, F_m9, ⟨m_185, m_186, (by omega), ⟨by omega, by omega⟩, ⟨by omega, by omega⟩⟩, ⟨(by rw [aI_of F_A17, aI_of F_A19, aI_of F_A20]; exact hSq), fun _ => hw0⟩⟩⟩, by rw [ht]; exact hH, by rw [ht]; exact hz⟩) hLo d_Mo_isRead_254
                    · skip
                      refine lv_aload_n hx hb d_Mo_isRead_230 rfl (lv_at hl 2 rfl) ?_
                      refine lv_iload_n hx hb d_Mo_isRead_231 rfl (lv_at hl 1 rfl) ?_
                      refine lv_sipush (v := 148) hx hb d_Mo_isRead_232 (by decide) ?_
                      refine lv_iadd hx hb d_Mo_isRead_235 ?_
                      refine lv_topi (fun v_294 e_295 => ?_)
                      obtain rfl : v_158 = v_294 := (e_295.trans (e_159.symm)).symm
                      refine hm_calli (va_runV (As := [.int v_158]) (b := m9) (rest := []) ⟨hx, hb, hml, hown, hts⟩ (m_no l D t G ak av hh5 τ n m9 v_158 A th sd lo le wr ma nu di pl se wg op   hn hT T_m9  F_m9 hA ⟨hsd, hlo, (by omega), ⟨by omega, by omega⟩, ⟨by omega, by omega⟩⟩ (by omega)) ⟨cw9B 1 hts mw_738 mw_739 mw_579 rfl rfl (by decide +kernel) ⟨Nat.le_of_ble_eq_true rfl, Nat.le_of_ble_eq_true rfl⟩, hts _ mw_740, hts _ mw_741⟩ (hP_V (q := (R_Mo, F_Mo, 41)) kE_ok hE hK hH F_m9 rfl) rfl rfl hl.1 rfl (lv_room (Nat.le_of_ble_eq_true rfl)) d_Mo_isRead_236 ⟨Nat.le_of_ble_eq_true rfl, Nat.le_of_ble_eq_true rfl⟩) hLo (fun r_296 h_297 H_298 locs hp_300 hH z_299 hLo => ?_)
                      have hz : s.heap.size ≤ H_298.size := Nat.le_trans hz z_299
                      have hT0 := hT
                      obtain ⟨c_301, hT, kf_303, xp_302⟩ := hp_300
                      have F_A0 : h_297 (A 0) = some (.inl ((t 0), 819200, .inl g_1)) := kf_at kf_303 (hA 0 (by decide)) (by decide) tn0 (nmc (tne (hA 0 (by decide)) T_m9 (by decide)) nm0) F_A0
                      have F_A17 : h_297 (A 17) = some (.inl ((t 2), 31, .inl g_3)) := kf_at kf_303 (hA 17 (by decide)) (by decide) tn0 (nmc (tne (hA 17 (by decide)) T_m9 (by decide)) nm0) F_A17
                      have F_A19 : h_297 (A 19) = some (.inl ((t 2), 31, .inl g_4)) := kf_at kf_303 (hA 19 (by decide)) (by decide) tn0 (nmc (tne (hA 19 (by decide)) T_m9 (by decide)) nm0) F_A19
                      have F_A20 : h_297 (A 20) = some (.inl ((t 2), 31, .inl g_5)) := kf_at kf_303 (hA 20 (by decide)) (by decide) tn0 (nmc (tne (hA 20 (by decide)) T_m9 (by decide)) nm0) F_A20
                      have hkf : kf τ [(30, 17), (30, 18), (30, 19), (30, 20), (30, 21), (30, 22)] [m9] h h_297 := kf_tr hkf kf_303 (List.forall_mem_nil _) (List.forall_mem_cons.mpr ⟨Or.inl (by simp), List.forall_mem_nil _⟩)
                      obtain ⟨wg_304, F_m9, mk_305, xq_306⟩ := xp_302
                      obtain ⟨m_307, m_308, m_309, m_310, m_311⟩ := mk_305
                      obtain ⟨hr0, hw0⟩ := xq_306
                      subst hr0
                      exact W.zret (v := 0) hx hb hr (by decide) (fun t9 ht hW => ⟨0, h_297, rfl, ⟨zb0, hT, hkf, ⟨se, wg_304, F_m9, ⟨m_307, m_308, (by omega), ⟨by omega, by omega⟩, ⟨by omega, by omega⟩⟩, ⟨(by rw [aI_of F_A17, aI_of F_A19, aI_of F_A20]; exact hSq), fun _ => hw0⟩⟩⟩, by rw [ht]; exact hH, by rw [ht]; exact hz⟩) hLo d_Mo_isRead_239
                  · skip
                    refine lv_aload_n hx hb d_Mo_isRead_203 rfl (lv_at hl 2 rfl) ?_
                    refine lv_iload_n hx hb d_Mo_isRead_204 rfl (lv_at hl 1 rfl) ?_
                    refine lv_sipush (v := 140) hx hb d_Mo_isRead_205 (by decide) ?_
                    refine lv_iadd hx hb d_Mo_isRead_208 ?_
                    refine lv_topi (fun v_312 e_313 => ?_)
                    obtain rfl : v_144 = v_312 := (e_313.trans (e_145.symm)).symm
                    refine hm_calli (va_runV (As := [.int v_144]) (b := m9) (rest := []) ⟨hx, hb, hml, hown, hts⟩ (m_no l D t G ak av hh5 τ n m9 v_144 A th sd lo le wr ma nu di pl se wg op   hn hT T_m9  F_m9 hA ⟨hsd, hlo, (by omega), ⟨by omega, by omega⟩, ⟨by omega, by omega⟩⟩ (by omega)) ⟨cw9B 1 hts mw_738 mw_739 mw_579 rfl rfl (by decide +kernel) ⟨Nat.le_of_ble_eq_true rfl, Nat.le_of_ble_eq_true rfl⟩, hts _ mw_740, hts _ mw_741⟩ (hP_V (q := (R_Mo, F_Mo, 41)) kE_ok hE hK hH F_m9 rfl) rfl rfl hl.1 rfl (lv_room (Nat.le_of_ble_eq_true rfl)) d_Mo_isRead_209 ⟨Nat.le_of_ble_eq_true rfl, Nat.le_of_ble_eq_true rfl⟩) hLo (fun r_314 h_315 H_316 locs hp_318 hH z_317 hLo => ?_)
                    have hz : s.heap.size ≤ H_316.size := Nat.le_trans hz z_317
                    have hT0 := hT
                    obtain ⟨c_319, hT, kf_321, xp_320⟩ := hp_318
                    have F_A0 : h_315 (A 0) = some (.inl ((t 0), 819200, .inl g_1)) := kf_at kf_321 (hA 0 (by decide)) (by decide) tn0 (nmc (tne (hA 0 (by decide)) T_m9 (by decide)) nm0) F_A0
                    have F_A17 : h_315 (A 17) = some (.inl ((t 2), 31, .inl g_3)) := kf_at kf_321 (hA 17 (by decide)) (by decide) tn0 (nmc (tne (hA 17 (by decide)) T_m9 (by decide)) nm0) F_A17
                    have F_A19 : h_315 (A 19) = some (.inl ((t 2), 31, .inl g_4)) := kf_at kf_321 (hA 19 (by decide)) (by decide) tn0 (nmc (tne (hA 19 (by decide)) T_m9 (by decide)) nm0) F_A19
                    have F_A20 : h_315 (A 20) = some (.inl ((t 2), 31, .inl g_5)) := kf_at kf_321 (hA 20 (by decide)) (by decide) tn0 (nmc (tne (hA 20 (by decide)) T_m9 (by decide)) nm0) F_A20
                    have hkf : kf τ [(30, 17), (30, 18), (30, 19), (30, 20), (30, 21), (30, 22)] [m9] h h_315 := kf_tr hkf kf_321 (List.forall_mem_nil _) (List.forall_mem_cons.mpr ⟨Or.inl (by simp), List.forall_mem_nil _⟩)
                    obtain ⟨wg_322, F_m9, mk_323, xq_324⟩ := xp_320
                    obtain ⟨m_325, m_326, m_327, m_328, m_329⟩ := mk_323
                    obtain ⟨hr0, hw0⟩ := xq_324
                    subst hr0
                    exact W.zret (v := 0) hx hb hr (by decide) (fun t9 ht hW => ⟨0, h_315, rfl, ⟨zb0, hT, hkf, ⟨se, wg_322, F_m9, ⟨m_325, m_326, (by omega), ⟨by omega, by omega⟩, ⟨by omega, by omega⟩⟩, ⟨(by rw [aI_of F_A17, aI_of F_A19, aI_of F_A20]; exact hSq), fun _ => hw0⟩⟩⟩, by rw [ht]; exact hH, by rw [ht]; exact hz⟩) hLo d_Mo_isRead_212
                · skip
                  have ic_330 : 2048 < r_85.toInt := iNe hc_142
                  have iu_331 : r_85.toInt < 2147483648 := iUp _
                  refine lv_aload_n hx hb d_Mo_isRead_176 rfl (lv_at hl 2 rfl) ?_
                  refine lv_iload_n hx hb d_Mo_isRead_177 rfl (lv_at hl 1 rfl) ?_
                  refine lv_sipush (v := 132) hx hb d_Mo_isRead_178 (by decide) ?_
                  refine lv_iadd hx hb d_Mo_isRead_181 ?_
                  refine lv_topi (fun v_332 e_333 => ?_)
                  obtain rfl : v_82 = v_332 := (e_333.trans (e_83.symm)).symm
                  refine hm_calli (va_runV (As := [.int v_82]) (b := m9) (rest := []) ⟨hx, hb, hml, hown, hts⟩ (m_no l D t G ak av hh5 τ n m9 v_82 A th sd lo le wr ma nu di pl se wg op   hn hT T_m9  F_m9 hA ⟨hsd, hlo, (by omega), ⟨by omega, by omega⟩, ⟨by omega, by omega⟩⟩ (by omega)) ⟨cw9B 1 hts mw_738 mw_739 mw_579 rfl rfl (by decide +kernel) ⟨Nat.le_of_ble_eq_true rfl, Nat.le_of_ble_eq_true rfl⟩, hts _ mw_740, hts _ mw_741⟩ (hP_V (q := (R_Mo, F_Mo, 41)) kE_ok hE hK hH F_m9 rfl) rfl rfl hl.1 rfl (lv_room (Nat.le_of_ble_eq_true rfl)) d_Mo_isRead_182 ⟨Nat.le_of_ble_eq_true rfl, Nat.le_of_ble_eq_true rfl⟩) hLo (fun r_334 h_335 H_336 locs hp_338 hH z_337 hLo => ?_)
                  have hz : s.heap.size ≤ H_336.size := Nat.le_trans hz z_337
                  have hT0 := hT
                  obtain ⟨c_339, hT, kf_341, xp_340⟩ := hp_338
                  have F_A0 : h_335 (A 0) = some (.inl ((t 0), 819200, .inl g_1)) := kf_at kf_341 (hA 0 (by decide)) (by decide) tn0 (nmc (tne (hA 0 (by decide)) T_m9 (by decide)) nm0) F_A0
                  have F_A17 : h_335 (A 17) = some (.inl ((t 2), 31, .inl g_3)) := kf_at kf_341 (hA 17 (by decide)) (by decide) tn0 (nmc (tne (hA 17 (by decide)) T_m9 (by decide)) nm0) F_A17
                  have F_A19 : h_335 (A 19) = some (.inl ((t 2), 31, .inl g_4)) := kf_at kf_341 (hA 19 (by decide)) (by decide) tn0 (nmc (tne (hA 19 (by decide)) T_m9 (by decide)) nm0) F_A19
                  have F_A20 : h_335 (A 20) = some (.inl ((t 2), 31, .inl g_5)) := kf_at kf_341 (hA 20 (by decide)) (by decide) tn0 (nmc (tne (hA 20 (by decide)) T_m9 (by decide)) nm0) F_A20
                  have hkf : kf τ [(30, 17), (30, 18), (30, 19), (30, 20), (30, 21), (30, 22)] [m9] h h_335 := kf_tr hkf kf_341 (List.forall_mem_nil _) (List.forall_mem_cons.mpr ⟨Or.inl (by simp), List.forall_mem_nil _⟩)
                  obtain ⟨wg_342, F_m9, mk_343, xq_344⟩ := xp_340
                  obtain ⟨m_345, m_346, m_347, m_348, m_349⟩ := mk_343
                  obtain ⟨hr0, hw0⟩ := xq_344
                  subst hr0
                  exact W.zret (v := 0) hx hb hr (by decide) (fun t9 ht hW => ⟨0, h_335, rfl, ⟨zb0, hT, hkf, ⟨se, wg_342, F_m9, ⟨m_345, m_346, (by omega), ⟨by omega, by omega⟩, ⟨by omega, by omega⟩⟩, ⟨(by rw [aI_of F_A17, aI_of F_A19, aI_of F_A20]; exact hSq), fun _ => hw0⟩⟩⟩, by rw [ht]; exact hH, by rw [ht]; exact hz⟩) hLo d_Mo_isRead_185
          · skip
            refine lv_aload_n hx hb d_Mo_isRead_130 rfl (lv_at hl 1 rfl) ?_
            refine lv_iload_n hx hb d_Mo_isRead_131 rfl (lv_at hl 0 rfl) ?_
            refine lv_sipush (v := 128) hx hb d_Mo_isRead_132 (by decide) ?_
            refine lv_iadd hx hb d_Mo_isRead_135 ?_
            refine lv_topi (fun v_350 e_351 => ?_)
            obtain rfl : v_40 = v_350 := (e_351.trans (e_41.symm)).symm
            refine hm_calli (va_runV (As := [.int v_40]) (b := m9) (rest := []) ⟨hx, hb, hml, hown, hts⟩ (m_no l D t G ak av hh5 τ n m9 v_40 A th sd lo le wr ma nu di pl se wg op   hn hT T_m9  F_m9 hA ⟨hsd, hlo, (by omega), ⟨by omega, by omega⟩, ⟨by omega, by omega⟩⟩ (by omega)) ⟨cw9B 1 hts mw_738 mw_739 mw_579 rfl rfl (by decide +kernel) ⟨Nat.le_of_ble_eq_true rfl, Nat.le_of_ble_eq_true rfl⟩, hts _ mw_740, hts _ mw_741⟩ (hP_V (q := (R_Mo, F_Mo, 41)) kE_ok hE hK hH F_m9 rfl) rfl rfl hl.1 rfl (lv_room (Nat.le_of_ble_eq_true rfl)) d_Mo_isRead_136 ⟨Nat.le_of_ble_eq_true rfl, Nat.le_of_ble_eq_true rfl⟩) hLo (fun r_352 h_353 H_354 locs hp_356 hH z_355 hLo => ?_)
            have hz : s.heap.size ≤ H_354.size := Nat.le_trans hz z_355
            have hT0 := hT
            obtain ⟨c_357, hT, kf_359, xp_358⟩ := hp_356
            have F_A0 : h_353 (A 0) = some (.inl ((t 0), 819200, .inl g_1)) := kf_at kf_359 (hA 0 (by decide)) (by decide) tn0 (nmc (tne (hA 0 (by decide)) T_m9 (by decide)) nm0) F_A0
            have F_A17 : h_353 (A 17) = some (.inl ((t 2), 31, .inl g_3)) := kf_at kf_359 (hA 17 (by decide)) (by decide) tn0 (nmc (tne (hA 17 (by decide)) T_m9 (by decide)) nm0) F_A17
            have F_A19 : h_353 (A 19) = some (.inl ((t 2), 31, .inl g_4)) := kf_at kf_359 (hA 19 (by decide)) (by decide) tn0 (nmc (tne (hA 19 (by decide)) T_m9 (by decide)) nm0) F_A19
            have F_A20 : h_353 (A 20) = some (.inl ((t 2), 31, .inl g_5)) := kf_at kf_359 (hA 20 (by decide)) (by decide) tn0 (nmc (tne (hA 20 (by decide)) T_m9 (by decide)) nm0) F_A20
            have hkf : kf τ [(30, 17), (30, 18), (30, 19), (30, 20), (30, 21), (30, 22)] [m9] h h_353 := kf_tr hkf kf_359 (List.forall_mem_nil _) (List.forall_mem_cons.mpr ⟨Or.inl (by simp), List.forall_mem_nil _⟩)
            obtain ⟨wg_360, F_m9, mk_361, xq_362⟩ := xp_358
            obtain ⟨m_363, m_364, m_365, m_366, m_367⟩ := mk_361
            obtain ⟨hr0, hw0⟩ := xq_362
            subst hr0
            exact W.zret (v := 0) hx hb hr (by decide) (fun t9 ht hW => ⟨0, h_353, rfl, ⟨zb0, hT, hkf, ⟨se, wg_360, F_m9, ⟨m_363, m_364, (by omega), ⟨by omega, by omega⟩, ⟨by omega, by omega⟩⟩, ⟨(by rw [aI_of F_A17, aI_of F_A19, aI_of F_A20]; exact hSq), fun _ => hw0⟩⟩⟩, by rw [ht]; exact hH, by rw [ht]; exact hz⟩) hLo d_Mo_isRead_139
      · skip
        have ic_368 : r_28.toInt = 0 := congrArg Int32.toInt hc_35
        refine lv_aload_n hx hb d_Mo_isRead_76 rfl (lv_at hl 0 rfl) ?_
        refine lv_sipush (v := 2048) hx hb d_Mo_isRead_77 (by decide) ?_
        refine lv_iload_n hx hb d_Mo_isRead_80 rfl (lv_at hl 1 rfl) ?_
        refine lv_bipush (v := 17) hx hb d_Mo_isRead_81 (by decide) ?_
        refine lv_iadd hx hb d_Mo_isRead_83 ?_
        refine lv_topi (fun v_369 e_370 => ?_)
        obtain rfl : v_25 = v_369 := (e_370.trans (e_26.symm)).symm
        refine lv_imul hx hb d_Mo_isRead_84 ?_
        refine lv_topi (fun v_371 e_372 => ?_)
        have is_373 : v_371.toInt = 2048 * v_25.toInt := by rw [e_372]; exact iMulL 2048 rfl (by omega) (by omega)
        refine hm_calli (va_runV (As := [.int v_371]) (b := m9) (rest := []) ⟨hx, hb, hml, hown, hts⟩ (m_no l D t G ak av hh5 τ n m9 v_371 A th sd lo le wr ma nu di pl se wg op   hn hT T_m9  F_m9 hA ⟨hsd, hlo, (by omega), ⟨by omega, by omega⟩, ⟨by omega, by omega⟩⟩ (by omega)) ⟨cw9B 1 hts mw_738 mw_739 mw_579 rfl rfl (by decide +kernel) ⟨Nat.le_of_ble_eq_true rfl, Nat.le_of_ble_eq_true rfl⟩, hts _ mw_740, hts _ mw_741⟩ (hP_V (q := (R_Mo, F_Mo, 41)) kE_ok hE hK hH F_m9 rfl) rfl rfl hl.1 rfl (lv_room (Nat.le_of_ble_eq_true rfl)) d_Mo_isRead_85 ⟨Nat.le_of_ble_eq_true rfl, Nat.le_of_ble_eq_true rfl⟩) hLo (fun r_374 h_375 H_376 locs hp_378 hH z_377 hLo => ?_)
        have hz : s.heap.size ≤ H_376.size := Nat.le_trans hz z_377
        have hT0 := hT
        obtain ⟨c_379, hT, kf_381, xp_380⟩ := hp_378
        have F_A0 : h_375 (A 0) = some (.inl ((t 0), 819200, .inl g_1)) := kf_at kf_381 (hA 0 (by decide)) (by decide) tn0 (nmc (tne (hA 0 (by decide)) T_m9 (by decide)) nm0) F_A0
        have F_A17 : h_375 (A 17) = some (.inl ((t 2), 31, .inl g_3)) := kf_at kf_381 (hA 17 (by decide)) (by decide) tn0 (nmc (tne (hA 17 (by decide)) T_m9 (by decide)) nm0) F_A17
        have F_A19 : h_375 (A 19) = some (.inl ((t 2), 31, .inl g_4)) := kf_at kf_381 (hA 19 (by decide)) (by decide) tn0 (nmc (tne (hA 19 (by decide)) T_m9 (by decide)) nm0) F_A19
        have F_A20 : h_375 (A 20) = some (.inl ((t 2), 31, .inl g_5)) := kf_at kf_381 (hA 20 (by decide)) (by decide) tn0 (nmc (tne (hA 20 (by decide)) T_m9 (by decide)) nm0) F_A20
        have hkf : kf τ [(30, 17), (30, 18), (30, 19), (30, 20), (30, 21), (30, 22)] [m9] h h_375 := kf_tr hkf kf_381 (List.forall_mem_nil _) (List.forall_mem_cons.mpr ⟨Or.inl (by simp), List.forall_mem_nil _⟩)
        obtain ⟨wg_382, F_m9, mk_383, xq_384⟩ := xp_380
        obtain ⟨m_385, m_386, m_387, m_388, m_389⟩ := mk_383
        obtain ⟨hr0, hw0⟩ := xq_384
        subst hr0
        exact W.zret (v := 0) hx hb hr (by decide) (fun t9 ht hW => ⟨0, h_375, rfl, ⟨zb0, hT, hkf, ⟨se, wg_382, F_m9, ⟨m_385, m_386, (by omega), ⟨by omega, by omega⟩, ⟨by omega, by omega⟩⟩, ⟨(by rw [aI_of F_A17, aI_of F_A19, aI_of F_A20]; exact hSq), fun _ => hw0⟩⟩⟩, by rw [ht]; exact hH, by rw [ht]; exact hz⟩) hLo d_Mo_isRead_88
    · skip
      have ic_390 : r_17.toInt = 0 := congrArg Int32.toInt hc_24
      refine lv_aload_n hx hb d_Mo_isRead_49 rfl (lv_at hl 0 rfl) ?_
      refine lv_sipush (v := 2048) hx hb d_Mo_isRead_50 (by decide) ?_
      refine lv_iload_n hx hb d_Mo_isRead_53 rfl (lv_at hl 1 rfl) ?_
      refine lv_bipush (v := 16) hx hb d_Mo_isRead_54 (by decide) ?_
      refine lv_iadd hx hb d_Mo_isRead_56 ?_
      refine lv_topi (fun v_391 e_392 => ?_)
      obtain rfl : v_6 = v_391 := (e_392.trans (e_7.symm)).symm
      refine lv_imul hx hb d_Mo_isRead_57 ?_
      refine lv_topi (fun v_393 e_394 => ?_)
      have is_395 : v_393.toInt = 2048 * v_6.toInt := by rw [e_394]; exact iMulL 2048 rfl (by omega) (by omega)
      refine hm_calli (va_runV (As := [.int v_393]) (b := m9) (rest := []) ⟨hx, hb, hml, hown, hts⟩ (m_no l D t G ak av hh5 τ n m9 v_393 A th sd lo le wr ma nu di pl se wg op   hn hT T_m9  F_m9 hA ⟨hsd, hlo, (by omega), ⟨by omega, by omega⟩, ⟨by omega, by omega⟩⟩ (by omega)) ⟨cw9B 1 hts mw_738 mw_739 mw_579 rfl rfl (by decide +kernel) ⟨Nat.le_of_ble_eq_true rfl, Nat.le_of_ble_eq_true rfl⟩, hts _ mw_740, hts _ mw_741⟩ (hP_V (q := (R_Mo, F_Mo, 41)) kE_ok hE hK hH F_m9 rfl) rfl rfl hl.1 rfl (lv_room (Nat.le_of_ble_eq_true rfl)) d_Mo_isRead_58 ⟨Nat.le_of_ble_eq_true rfl, Nat.le_of_ble_eq_true rfl⟩) hLo (fun r_396 h_397 H_398 locs hp_400 hH z_399 hLo => ?_)
      have hz : s.heap.size ≤ H_398.size := Nat.le_trans hz z_399
      have hT0 := hT
      obtain ⟨c_401, hT, kf_403, xp_402⟩ := hp_400
      have F_A0 : h_397 (A 0) = some (.inl ((t 0), 819200, .inl g_1)) := kf_at kf_403 (hA 0 (by decide)) (by decide) tn0 (nmc (tne (hA 0 (by decide)) T_m9 (by decide)) nm0) F_A0
      have F_A17 : h_397 (A 17) = some (.inl ((t 2), 31, .inl g_3)) := kf_at kf_403 (hA 17 (by decide)) (by decide) tn0 (nmc (tne (hA 17 (by decide)) T_m9 (by decide)) nm0) F_A17
      have F_A19 : h_397 (A 19) = some (.inl ((t 2), 31, .inl g_4)) := kf_at kf_403 (hA 19 (by decide)) (by decide) tn0 (nmc (tne (hA 19 (by decide)) T_m9 (by decide)) nm0) F_A19
      have F_A20 : h_397 (A 20) = some (.inl ((t 2), 31, .inl g_5)) := kf_at kf_403 (hA 20 (by decide)) (by decide) tn0 (nmc (tne (hA 20 (by decide)) T_m9 (by decide)) nm0) F_A20
      have hkf : kf τ [(30, 17), (30, 18), (30, 19), (30, 20), (30, 21), (30, 22)] [m9] h h_397 := kf_tr hkf kf_403 (List.forall_mem_nil _) (List.forall_mem_cons.mpr ⟨Or.inl (by simp), List.forall_mem_nil _⟩)
      obtain ⟨wg_404, F_m9, mk_405, xq_406⟩ := xp_402
      obtain ⟨m_407, m_408, m_409, m_410, m_411⟩ := mk_405
      obtain ⟨hr0, hw0⟩ := xq_406
      subst hr0
      exact W.zret (v := 0) hx hb hr (by decide) (fun t9 ht hW => ⟨0, h_397, rfl, ⟨zb0, hT, hkf, ⟨se, wg_404, F_m9, ⟨m_407, m_408, (by omega), ⟨by omega, by omega⟩, ⟨by omega, by omega⟩⟩, ⟨(by rw [aI_of F_A17, aI_of F_A19, aI_of F_A20]; exact hSq), fun _ => hw0⟩⟩⟩, by rw [ht]; exact hH, by rw [ht]; exact hz⟩) hLo d_Mo_isRead_61
  · skip
    have ic_412 : s9.toInt < v_9.toInt := iNe hc_12
    have iu_413 : v_9.toInt < 2147483648 := iUp _
    refine lv_aload_n hx hb d_Mo_isRead_13 rfl (lv_at hl 0 rfl) ?_
    refine lv_iload_n hx hb d_Mo_isRead_14 rfl (lv_at hl 2 rfl) ?_
    refine hm_callPi (va_runV (As := [.int s9]) (b := m9) (rest := []) ⟨hx, hb, hml, hown, hts⟩ (m_isW l D t G ak av hh5 τ n m9 s9 A th sd lo le wr ma nu di pl se wg op   hn hT T_m9  F_m9 hA ⟨hsd, hlo, (by omega), ⟨by omega, by omega⟩, ⟨by omega, by omega⟩⟩ ) ⟨cw9B 1 hts mw_734 mw_735 mw_579 rfl rfl (by decide +kernel) ⟨Nat.le_of_ble_eq_true rfl, Nat.le_of_ble_eq_true rfl⟩, hts _ mw_736, hts _ mw_737⟩ (hP_V (q := (R_Mo, F_Mo, 41)) kE_ok hE hK hH F_m9 rfl) rfl rfl hl.1 rfl (lv_room (Nat.le_of_ble_eq_true rfl)) d_Mo_isRead_15 ⟨Nat.le_of_ble_eq_true rfl, Nat.le_of_ble_eq_true rfl⟩) (fun r_414 h_415 H_416 hp_418  hH z_417 => ?_)
    have hz : s.heap.size ≤ H_416.size := Nat.le_trans hz z_417
    obtain ⟨c_419, xp_420, rfl⟩ := hp_418
    rcases c_419 with rfl | rfl
    · skip
      refine lv_if_ne (tgt := 31) hx hb d_Mo_isRead_18 (by decide) (fun hc_421 => absurd hc_421 (by decide)) (fun hc_421 => ?_)
      refine lv_aload_n hx hb d_Mo_isRead_21 rfl (lv_at hl 0 rfl) ?_
      refine lv_sipush (v := 2048) hx hb d_Mo_isRead_22 (by decide) ?_
      refine lv_iload_n hx hb d_Mo_isRead_25 rfl (lv_at hl 2 rfl) ?_
      refine lv_imul hx hb d_Mo_isRead_26 ?_
      refine lv_topi (fun v_422 e_423 => ?_)
      have is_424 : v_422.toInt = 2048 * s9.toInt := by rw [e_423]; exact iMulL 2048 rfl (by omega) (by omega)
      refine hm_calli (va_runV (As := [.int v_422]) (b := m9) (rest := []) ⟨hx, hb, hml, hown, hts⟩ (m_no l D t G ak av hh5 τ n m9 v_422 A th sd lo le wr ma nu di pl se wg op   hn hT T_m9  F_m9 hA ⟨hsd, hlo, (by omega), ⟨by omega, by omega⟩, ⟨by omega, by omega⟩⟩ (by omega)) ⟨cw9B 1 hts mw_738 mw_739 mw_579 rfl rfl (by decide +kernel) ⟨Nat.le_of_ble_eq_true rfl, Nat.le_of_ble_eq_true rfl⟩, hts _ mw_740, hts _ mw_741⟩ (hP_V (q := (R_Mo, F_Mo, 41)) kE_ok hE hK hH F_m9 rfl) rfl rfl hl.1 rfl (lv_room (Nat.le_of_ble_eq_true rfl)) d_Mo_isRead_27 ⟨Nat.le_of_ble_eq_true rfl, Nat.le_of_ble_eq_true rfl⟩) hLo (fun r_425 h_426 H_427 locs hp_429 hH z_428 hLo => ?_)
      have hz : s.heap.size ≤ H_427.size := Nat.le_trans hz z_428
      have hT0 := hT
      obtain ⟨c_430, hT, kf_432, xp_431⟩ := hp_429
      have F_A0 : h_426 (A 0) = some (.inl ((t 0), 819200, .inl g_1)) := kf_at kf_432 (hA 0 (by decide)) (by decide) tn0 (nmc (tne (hA 0 (by decide)) T_m9 (by decide)) nm0) F_A0
      have F_A17 : h_426 (A 17) = some (.inl ((t 2), 31, .inl g_3)) := kf_at kf_432 (hA 17 (by decide)) (by decide) tn0 (nmc (tne (hA 17 (by decide)) T_m9 (by decide)) nm0) F_A17
      have F_A19 : h_426 (A 19) = some (.inl ((t 2), 31, .inl g_4)) := kf_at kf_432 (hA 19 (by decide)) (by decide) tn0 (nmc (tne (hA 19 (by decide)) T_m9 (by decide)) nm0) F_A19
      have F_A20 : h_426 (A 20) = some (.inl ((t 2), 31, .inl g_5)) := kf_at kf_432 (hA 20 (by decide)) (by decide) tn0 (nmc (tne (hA 20 (by decide)) T_m9 (by decide)) nm0) F_A20
      have hkf : kf τ [(30, 17), (30, 18), (30, 19), (30, 20), (30, 21), (30, 22)] [m9] h h_426 := kf_tr hkf kf_432 (List.forall_mem_nil _) (List.forall_mem_cons.mpr ⟨Or.inl (by simp), List.forall_mem_nil _⟩)
      obtain ⟨wg_433, F_m9, mk_434, xq_435⟩ := xp_431
      obtain ⟨m_436, m_437, m_438, m_439, m_440⟩ := mk_434
      obtain ⟨hr0, hw0⟩ := xq_435
      subst hr0
      exact W.zret (v := 0) hx hb hr (by decide) (fun t9 ht hW => ⟨0, h_426, rfl, ⟨zb0, hT, hkf, ⟨se, wg_433, F_m9, ⟨m_436, m_437, (by omega), ⟨by omega, by omega⟩, ⟨by omega, by omega⟩⟩, ⟨(by rw [aI_of F_A17, aI_of F_A19, aI_of F_A20]; exact hSq), fun _ => hw0⟩⟩⟩, by rw [ht]; exact hH, by rw [ht]; exact hz⟩) hLo d_Mo_isRead_30
    · skip
      have iwn := xp_420 rfl
      refine lv_if_ne (tgt := 31) hx hb d_Mo_isRead_18 (by decide) (fun hc_441 => ?_) (fun hc_441 => absurd hc_441 (by decide))
      obtain ⟨j_442, e_443⟩ : ∃ z : Int32, z = s9 + 1 := ⟨_, rfl⟩
      refine lv_iinc (v := j_442) (lv' := [(2, .int j_442), (0, .ref m9), (1, .int b9)]) hx hb d_Mo_isRead_31 hl (k := 2) rfl e_443.symm (by decide) rfl (fun ls hl => ?_)
      refine lv_goto (tgt := 5) hx hb d_Mo_isRead_34 (by decide) ?_
      have is_444 : j_442.toInt = s9.toInt + 1 := by rw [e_443]; exact iAddK 1 rfl (by omega) (by omega)
      exact ih5 (mU j_442) ls _ locs _ (by rw [hk5]; exact mU_lt (by omega)) ⟨j_442, rfl, (lv_sub hl [1, 2, 0] rfl), hH, hz, hLo, F_m9, F_A0, F_A17, F_A19, F_A20, hT, hkf, ⟨by omega, by omega, by omega⟩⟩

set_option maxHeartbeats 4000000 in
set_option maxRecDepth 100000 in
theorem m_look (l : Launch) (D : va_G) (t : Nat → ClassId) (G : hG) (ak av : Nat → Nat) (h : hM) (τ : tM) (n : Nat) (m9 : Nat) (b9 : Int32) (A : Nat → Nat) (th sd lo le wr ma nu di pl se wg op : Int32) (hn : n ≤ 200) (hT : TI τ t n h) (T_m9 : τ m9 = (20, 0)) (F_m9 : h m9 = some (.inr (9, mf A n th sd lo le wr ma nu di pl se wg op))) (hA : ∀ i, i < 28 → τ (A i) = (30, i)) (hmk : mOk sd lo ma se op) (hb0 : 0 ≤ b9.toInt) (hb1 : b9.toInt < 200) : Met l y_Mo_look (.code y_Mo_look b_Mo_look 2 (some .int) :: lw_g) { frames := 7, cells := 0, slots := 0, locals := 171 } (hP (kE D t G ak av) D vwCl G h [.ref m9, .int b9]) (hQi D vwCl G (fun r h' => TI τ t n h' ∧ kf τ [(30, 17), (30, 18), (30, 19), (30, 20), (30, 21), (30, 22)] [m9] h h' ∧ (∃ (se' : Int32) (wg' : Int32), h' m9 = some (.inr (9, mf A n th sd lo le wr ma nu di pl se' wg' op)) ∧ mOk sd lo ma se' op ∧ (r.toInt < 0 ∨ (r = se' ∧ seQ (aI h' (A 17)) (aI h' (A 19)) (aI h' (A 20)) se'.toInt.toNat n))))) 0 0 G.P := by
  refine Met.ofW (cc := b_Mo_look) (maxL := 2) (ret := (some .int)) (by decide) rfl ?_
  intro p e s m args below meth c s₁ Bd hml hv
  obtain ⟨ha, hE, hH⟩ := hv
  have hx := Bd.exec
  have hb := Bd.bytes
  have hr := Bd.returns
  have hts : ∀ w ∈ lw_g, w.before args s = true := fun w hw => atoms_spec (ws := (.code y_Mo_look b_Mo_look 2 (some .int) :: lw_g)) Bd.pre w (List.mem_cons_of_mem _ hw)
  have hown : s.vm.findClass R_Mo = some m.cls := findClass_of_methodNamed Bd.named
  have hlocks := Bd.notSynchronized
  have hK := hE.1
  have hH0 := hH
  have hLo : hLc G.P [] := hLc_nil
  have hz : s.heap.size ≤ s.heap.size := Nat.le_refl _
  have hl := lv_entry [.ref m9, .int b9] (n := 2) (Nat.le_of_ble_eq_true rfl)
  rw [show entryFrame m args 2 = F0 m 0 ((lg_sl [.ref m9, .int b9] ++ List.replicate (2 - (lg_sl [.ref m9, .int b9]).length) Slot.unset).toArray) [] from (by rw [ha]; exact lg_entry_eq m [.ref m9, .int b9] 2)]
  generalize (lg_sl [.ref m9, .int b9] ++ List.replicate (2 - (lg_sl [.ref m9, .int b9]).length) Slot.unset).toArray = ls at hl ⊢
  have hl : lv_has ls 2 [(0, .ref m9), (1, .int b9)] := hl
  have hkf : kf τ [(30, 17), (30, 18), (30, 19), (30, 20), (30, 21), (30, 22)] [m9] h h := kf_rf
  obtain ⟨hsd, hlo, hma, hse, hop⟩ := id hmk
  have inI : (nI n).toInt = n := nI_toInt (by omega)
  refine lv_aload_n hx hb d_Mo_look_0 rfl (lv_at hl 0 rfl) ?_
  refine lv_iconst (v := 0) hx hb d_Mo_look_1 (by decide) ?_
  refine hm_put (ci := 9) (v := .int 0) (ty := .int) (C := R_Mo) (T := F_Mo) (N := 41) hx hb hts ig_Mo t_Mo tk_Mo nm_Mo hown hK hH hLo F_m9 rfl 27 (by decide) (hts _ mw_766) (fun _ h9 => h9) rfl (by decide +kernel) rfl rfl (Nat.le_of_ble_eq_true rfl) d_Mo_look_2 (fun H_1 locs hH z_2 hLo => ?_)
  have hz : s.heap.size ≤ H_1.size := by rw [z_2]; exact hz
  obtain ⟨h_3, e_4⟩ : ∃ z, z = hu h m9 (.inr (9, mf A n th sd lo le wr ma nu di pl 0 wg op)) := ⟨_, rfl⟩
  have hH : hm D vwCl G h_3 H_1 := by rw [e_4]; exact hH
  have F_m9 : h_3 m9 = some (.inr (9, mf A n th sd lo le wr ma nu di pl 0 wg op)) := by rw [e_4]; exact hu_s _ _ _
  have hT : TI τ t n h_3 := by rw [e_4]; exact TI_put hT T_m9 (by decide) ⟨_, rfl⟩
  have hkf : kf τ [(30, 17), (30, 18), (30, 19), (30, 20), (30, 21), (30, 22)] [m9] h h_3 := by rw [e_4]; exact kf_putM hkf (by simp)
  refine lv_aload_n hx hb d_Mo_look_5 rfl (lv_at hl 0 rfl) ?_
  refine lv_iload_n hx hb d_Mo_look_6 rfl (lv_at hl 1 rfl) ?_
  refine hm_calli (va_runV (As := [.int b9]) (b := m9) (rest := []) ⟨hx, hb, hml, hown, hts⟩ (m_isRead l D t G ak av h_3 τ n m9 b9 A th sd lo le wr ma nu di pl (0 : Int32) wg op   hn hT T_m9  F_m9 hA ⟨hsd, hlo, (by omega), ⟨by decide, by decide⟩, ⟨by omega, by omega⟩⟩ (seQ_z rfl) hb0 hb1) ⟨cw9B 1 hts mw_795 mw_796 mw_579 rfl rfl (by decide +kernel) ⟨Nat.le_of_ble_eq_true rfl, Nat.le_of_ble_eq_true rfl⟩, hts _ mw_797, hts _ mw_798⟩ (hP_V (q := (R_Mo, F_Mo, 41)) kE_ok hE hK hH F_m9 rfl) rfl rfl hl.1 rfl (lv_room (Nat.le_of_ble_eq_true rfl)) d_Mo_look_7 ⟨Nat.le_of_ble_eq_true rfl, Nat.le_of_ble_eq_true rfl⟩) hLo (fun r_5 h_6 H_7 locs hp_9 hH z_8 hLo => ?_)
  have hz : s.heap.size ≤ H_7.size := Nat.le_trans hz z_8
  have hT0 := hT
  obtain ⟨c_10, hT, kf_12, xp_11⟩ := hp_9
  have hkf : kf τ [(30, 17), (30, 18), (30, 19), (30, 20), (30, 21), (30, 22)] [m9] h h_6 := kf_tr hkf kf_12 (List.forall_mem_cons.mpr ⟨List.mem_cons_self, List.forall_mem_cons.mpr ⟨(List.mem_cons_of_mem _ List.mem_cons_self), List.forall_mem_cons.mpr ⟨(List.mem_cons_of_mem _ (List.mem_cons_of_mem _ List.mem_cons_self)), List.forall_mem_cons.mpr ⟨(List.mem_cons_of_mem _ (List.mem_cons_of_mem _ (List.mem_cons_of_mem _ List.mem_cons_self))), List.forall_mem_cons.mpr ⟨(List.mem_cons_of_mem _ (List.mem_cons_of_mem _ (List.mem_cons_of_mem _ (List.mem_cons_of_mem _ List.mem_cons_self)))), List.forall_mem_cons.mpr ⟨(List.mem_cons_of_mem _ (List.mem_cons_of_mem _ (List.mem_cons_of_mem _ (List.mem_cons_of_mem _ (List.mem_cons_of_mem _ List.mem_cons_self))))), List.forall_mem_nil _⟩⟩⟩⟩⟩⟩) (List.forall_mem_cons.mpr ⟨Or.inl (by simp), List.forall_mem_nil _⟩)
  obtain ⟨se_13, wg_14, F_m9, mk_15, xq_16⟩ := xp_11
  obtain ⟨m_17, m_18, m_19, m_20, m_21⟩ := mk_15
  obtain ⟨xl1, xl2⟩ := xq_16
  rcases c_10 with rfl | rfl
  · skip
    have hw0 := xl2 rfl
    refine lv_if_eq (tgt := 20) hx hb d_Mo_look_10 (by decide) (fun hc_22 => ?_) (fun hc_22 => absurd hc_22 (by decide))
    refine lv_iconst (v := -1) hx hb d_Mo_look_20 (by decide) ?_
    refine lv_aload_n hx hb d_Mo_look_21 rfl (lv_at hl 0 rfl) ?_
    refine hm_get (ci := 9) (v := .int wg_14) (C := R_Mo) (T := F_Mo) (N := 41) hx hb hts ig_Mo hown hK hH F_m9 rfl 28 (by decide) (hts _ mw_733) (fun _ h9 => h9) rfl d_Mo_look_22 ?_
    refine lv_isub hx hb d_Mo_look_25 ?_
    refine lv_topi (fun v_23 e_24 => ?_)
    have iuw := iUp wg_14
    have is_25 : v_23.toInt = (-1) - wg_14.toInt := by rw [e_24]; exact iSubL (-1) rfl (by omega) (by omega)
    exact W.iret (v := v_23) hx hb hr (fun t9 ht hW => ⟨v_23, h_6, rfl, ⟨hT, hkf, ⟨se_13, wg_14, F_m9, ⟨m_17, m_18, (by omega), ⟨by omega, by omega⟩, ⟨by omega, by omega⟩⟩, Or.inl (by omega)⟩⟩, by rw [ht]; exact hH, by rw [ht]; exact hz⟩) hLo d_Mo_look_26
  · skip
    refine lv_if_eq (tgt := 20) hx hb d_Mo_look_10 (by decide) (fun hc_26 => absurd hc_26 (by decide)) (fun hc_26 => ?_)
    refine lv_aload_n hx hb d_Mo_look_13 rfl (lv_at hl 0 rfl) ?_
    refine hm_get (ci := 9) (v := .int se_13) (C := R_Mo) (T := F_Mo) (N := 41) hx hb hts ig_Mo hown hK hH F_m9 rfl 27 (by decide) (hts _ mw_766) (fun _ h9 => h9) rfl d_Mo_look_14 ?_
    refine lv_goto (tgt := 26) hx hb d_Mo_look_17 (by decide) ?_
    exact W.iret (v := se_13) hx hb hr (fun t9 ht hW => ⟨se_13, h_6, rfl, ⟨hT, hkf, ⟨se_13, wg_14, F_m9, ⟨m_17, m_18, (by omega), ⟨by omega, by omega⟩, ⟨by omega, by omega⟩⟩, Or.inr ⟨rfl, xl1⟩⟩⟩, by rw [ht]; exact hH, by rw [ht]; exact hz⟩) hLo d_Mo_look_26
