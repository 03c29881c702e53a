set_option maxRecDepth 100000 in
theorem mw_524 : Cond.code y_Mo_letters b_Mo_letters 7 none ∈ lw_g := lw_gin (List.mem_append_right _ (List.mem_of_getElem? (i := 1205) rfl)) (by decide +kernel)
set_option maxRecDepth 100000 in
theorem mw_525 : Cond.methodLink R_Mo 218 y_Mo_letters ∈ lw_g := lw_gin (List.mem_append_right _ (List.mem_of_getElem? (i := 1202) rfl)) (by decide +kernel)
set_option maxRecDepth 100000 in
theorem mw_526 : Cond.instanceMethod y_Mo_letters ∈ lw_g := lw_gin (List.mem_append_right _ (List.mem_of_getElem? (i := 1204) rfl)) (by decide +kernel)
set_option maxRecDepth 100000 in
theorem mw_527 : Cond.selects R_Mo y_Mo_letters y_Mo_letters ∈ lw_g := lw_gin (List.mem_append_left _ (List.mem_of_getElem? (i := 50) rfl)) (by decide +kernel)
theorem d_Mo_design_0 : decode b_Mo_design 0 = .ok (.iconst 0, 1) := by decide +kernel
theorem d_Mo_design_1 : decode b_Mo_design 1 = .ok (.istore 4, 2) := by decide +kernel
theorem d_Mo_design_3 : decode b_Mo_design 3 = .ok (.iload 4, 2) := by decide +kernel
theorem d_Mo_design_5 : decode b_Mo_design 5 = .ok (.sipush 2048, 3) := by decide +kernel
theorem d_Mo_design_8 : decode b_Mo_design 8 = .ok (.iload_n 2, 1) := by decide +kernel
theorem d_Mo_design_9 : decode b_Mo_design 9 = .ok (.bipush 16, 2) := by decide +kernel
theorem d_Mo_design_11 : decode b_Mo_design 11 = .ok (.isub, 1) := by decide +kernel
theorem d_Mo_design_12 : decode b_Mo_design 12 = .ok (.imul, 1) := by decide +kernel
theorem d_Mo_design_13 : decode b_Mo_design 13 = .ok (.if_icmp .ge 17, 3) := by decide +kernel
theorem d_Mo_design_30 : decode b_Mo_design 30 = .ok (.aload_n 0, 1) := by decide +kernel
theorem d_Mo_design_31 : decode b_Mo_design 31 = .ok (.getfield 54, 3) := by decide +kernel
theorem d_Mo_design_34 : decode b_Mo_design 34 = .ok (.iconst 0, 1) := by decide +kernel
theorem d_Mo_design_35 : decode b_Mo_design 35 = .ok (.iconst 1, 1) := by decide +kernel
theorem d_Mo_design_36 : decode b_Mo_design 36 = .ok (.bastore, 1) := by decide +kernel
theorem d_Mo_design_37 : decode b_Mo_design 37 = .ok (.aload_n 0, 1) := by decide +kernel
theorem d_Mo_design_38 : decode b_Mo_design 38 = .ok (.iconst 1, 1) := by decide +kernel
theorem d_Mo_design_39 : decode b_Mo_design 39 = .ok (.bipush 67, 2) := by decide +kernel
theorem d_Mo_design_41 : decode b_Mo_design 41 = .ok (.bipush 68, 2) := by decide +kernel
theorem d_Mo_design_43 : decode b_Mo_design 43 = .ok (.bipush 48, 2) := by decide +kernel
theorem d_Mo_design_45 : decode b_Mo_design 45 = .ok (.bipush 48, 2) := by decide +kernel
theorem d_Mo_design_47 : decode b_Mo_design 47 = .ok (.bipush 49, 2) := by decide +kernel
theorem d_Mo_design_49 : decode b_Mo_design 49 = .ok (.invokevirtual 218, 3) := by decide +kernel
theorem d_Mo_design_52 : decode b_Mo_design 52 = .ok (.aload_n 0, 1) := by decide +kernel
theorem d_Mo_design_53 : decode b_Mo_design 53 = .ok (.getfield 54, 3) := by decide +kernel
theorem d_Mo_design_56 : decode b_Mo_design 56 = .ok (.bipush 6, 2) := by decide +kernel
theorem d_Mo_design_58 : decode b_Mo_design 58 = .ok (.iconst 1, 1) := by decide +kernel
theorem d_Mo_design_59 : decode b_Mo_design 59 = .ok (.bastore, 1) := by decide +kernel
theorem d_Mo_design_60 : decode b_Mo_design 60 = .ok (.aload_n 0, 1) := by decide +kernel
theorem d_Mo_design_61 : decode b_Mo_design 61 = .ok (.bipush 80, 2) := by decide +kernel
theorem d_Mo_design_63 : decode b_Mo_design 63 = .ok (.iconst 4, 1) := by decide +kernel
theorem d_Mo_design_64 : decode b_Mo_design 64 = .ok (.aload_n 0, 1) := by decide +kernel
theorem d_Mo_design_65 : decode b_Mo_design 65 = .ok (.getfield 99, 3) := by decide +kernel
theorem d_Mo_design_68 : decode b_Mo_design 68 = .ok (.invokevirtual 199, 3) := by decide +kernel
theorem d_Mo_design_71 : decode b_Mo_design 71 = .ok (.aload_n 0, 1) := by decide +kernel
theorem d_Mo_design_72 : decode b_Mo_design 72 = .ok (.sipush 128, 3) := by decide +kernel
theorem d_Mo_design_75 : decode b_Mo_design 75 = .ok (.iconst 2, 1) := by decide +kernel
theorem d_Mo_design_76 : decode b_Mo_design 76 = .ok (.sipush 2048, 3) := by decide +kernel
theorem d_Mo_design_79 : decode b_Mo_design 79 = .ok (.invokevirtual 199, 3) := by decide +kernel
theorem d_Mo_design_82 : decode b_Mo_design 82 = .ok (.aload_n 0, 1) := by decide +kernel
theorem d_Mo_design_83 : decode b_Mo_design 83 = .ok (.sipush 140, 3) := by decide +kernel
theorem d_Mo_design_86 : decode b_Mo_design 86 = .ok (.iconst 4, 1) := by decide +kernel
theorem d_Mo_design_87 : decode b_Mo_design 87 = .ok (.iload_n 1, 1) := by decide +kernel
theorem d_Mo_design_88 : decode b_Mo_design 88 = .ok (.bipush 18, 2) := by decide +kernel
theorem d_Mo_design_90 : decode b_Mo_design 90 = .ok (.iadd, 1) := by decide +kernel
theorem d_Mo_design_91 : decode b_Mo_design 91 = .ok (.invokevirtual 181, 3) := by decide +kernel
theorem d_Mo_design_94 : decode b_Mo_design 94 = .ok (.aload_n 0, 1) := by decide +kernel
theorem d_Mo_design_95 : decode b_Mo_design 95 = .ok (.sipush 148, 3) := by decide +kernel
theorem d_Mo_design_98 : decode b_Mo_design 98 = .ok (.iconst 4, 1) := by decide +kernel
theorem d_Mo_design_99 : decode b_Mo_design 99 = .ok (.iload_n 1, 1) := by decide +kernel
theorem d_Mo_design_100 : decode b_Mo_design 100 = .ok (.bipush 19, 2) := by decide +kernel
theorem d_Mo_design_102 : decode b_Mo_design 102 = .ok (.iadd, 1) := by decide +kernel
theorem d_Mo_design_103 : decode b_Mo_design 103 = .ok (.invokevirtual 185, 3) := by decide +kernel
theorem d_Mo_design_106 : decode b_Mo_design 106 = .ok (.aload_n 0, 1) := by decide +kernel
theorem d_Mo_design_107 : decode b_Mo_design 107 = .ok (.sipush 156, 3) := by decide +kernel
theorem d_Mo_design_110 : decode b_Mo_design 110 = .ok (.iconst 0, 1) := by decide +kernel
theorem d_Mo_design_111 : decode b_Mo_design 111 = .ok (.iconst 0, 1) := by decide +kernel
theorem d_Mo_design_112 : decode b_Mo_design 112 = .ok (.invokevirtual 205, 3) := by decide +kernel
theorem d_Mo_design_115 : decode b_Mo_design 115 = .ok (.aload_n 0, 1) := by decide +kernel
theorem d_Mo_design_116 : decode b_Mo_design 116 = .ok (.getfield 54, 3) := by decide +kernel
theorem d_Mo_design_119 : decode b_Mo_design 119 = .ok (.sipush 2048, 3) := by decide +kernel
theorem d_Mo_design_122 : decode b_Mo_design 122 = .ok (.iconst (-1), 1) := by decide +kernel
theorem d_Mo_design_123 : decode b_Mo_design 123 = .ok (.bastore, 1) := by decide +kernel
theorem d_Mo_design_124 : decode b_Mo_design 124 = .ok (.aload_n 0, 1) := by decide +kernel
theorem d_Mo_design_125 : decode b_Mo_design 125 = .ok (.sipush 2049, 3) := by decide +kernel
theorem d_Mo_design_128 : decode b_Mo_design 128 = .ok (.bipush 67, 2) := by decide +kernel
theorem d_Mo_design_130 : decode b_Mo_design 130 = .ok (.bipush 68, 2) := by decide +kernel
theorem d_Mo_design_132 : decode b_Mo_design 132 = .ok (.bipush 48, 2) := by decide +kernel
theorem d_Mo_design_134 : decode b_Mo_design 134 = .ok (.bipush 48, 2) := by decide +kernel
theorem d_Mo_design_136 : decode b_Mo_design 136 = .ok (.bipush 49, 2) := by decide +kernel
theorem d_Mo_design_138 : decode b_Mo_design 138 = .ok (.invokevirtual 218, 3) := by decide +kernel
theorem d_Mo_design_141 : decode b_Mo_design 141 = .ok (.aload_n 0, 1) := by decide +kernel
theorem d_Mo_design_142 : decode b_Mo_design 142 = .ok (.getfield 54, 3) := by decide +kernel
theorem d_Mo_design_145 : decode b_Mo_design 145 = .ok (.sipush 2054, 3) := by decide +kernel
theorem d_Mo_design_148 : decode b_Mo_design 148 = .ok (.iconst 1, 1) := by decide +kernel
theorem d_Mo_design_149 : decode b_Mo_design 149 = .ok (.bastore, 1) := by decide +kernel
theorem d_Mo_design_150 : decode b_Mo_design 150 = .ok (.sipush 4096, 3) := by decide +kernel
theorem d_Mo_design_153 : decode b_Mo_design 153 = .ok (.istore 4, 2) := by decide +kernel
theorem d_Mo_design_155 : decode b_Mo_design 155 = .ok (.iconst 0, 1) := by decide +kernel
theorem d_Mo_design_156 : decode b_Mo_design 156 = .ok (.istore 5, 2) := by decide +kernel
theorem d_Mo_design_158 : decode b_Mo_design 158 = .ok (.iload 5, 2) := by decide +kernel
theorem d_Mo_design_160 : decode b_Mo_design 160 = .ok (.aload_n 0, 1) := by decide +kernel
theorem d_Mo_design_161 : decode b_Mo_design 161 = .ok (.getfield 208, 3) := by decide +kernel
theorem d_Mo_design_164 : decode b_Mo_design 164 = .ok (.if_icmp .ge 252, 3) := by decide +kernel
theorem d_Mo_design_167 : decode b_Mo_design 167 = .ok (.aload_n 0, 1) := by decide +kernel
theorem d_Mo_design_168 : decode b_Mo_design 168 = .ok (.getfield 57, 3) := by decide +kernel
theorem d_Mo_design_171 : decode b_Mo_design 171 = .ok (.iload 5, 2) := by decide +kernel
theorem d_Mo_design_173 : decode b_Mo_design 173 = .ok (.iaload, 1) := by decide +kernel
theorem d_Mo_design_174 : decode b_Mo_design 174 = .ok (.istore 6, 2) := by decide +kernel
theorem d_Mo_design_176 : decode b_Mo_design 176 = .ok (.aload_n 0, 1) := by decide +kernel
theorem d_Mo_design_177 : decode b_Mo_design 177 = .ok (.iload 6, 2) := by decide +kernel
theorem d_Mo_design_179 : decode b_Mo_design 179 = .ok (.ifCond .ne 7, 3) := by decide +kernel
theorem d_Mo_design_182 : decode b_Mo_design 182 = .ok (.iconst 0, 1) := by decide +kernel
theorem d_Mo_design_183 : decode b_Mo_design 183 = .ok (.goto 4, 3) := by decide +kernel
theorem d_Mo_design_187 : decode b_Mo_design 187 = .ok (.iload 6, 2) := by decide +kernel
theorem d_Mo_design_189 : decode b_Mo_design 189 = .ok (.invokevirtual 192, 3) := by decide +kernel
theorem d_Mo_design_192 : decode b_Mo_design 192 = .ok (.istore 7, 2) := by decide +kernel
theorem d_Mo_design_194 : decode b_Mo_design 194 = .ok (.iload 6, 2) := by decide +kernel
theorem d_Mo_design_196 : decode b_Mo_design 196 = .ok (.ifCond .ne 7, 3) := by decide +kernel
theorem d_Mo_design_199 : decode b_Mo_design 199 = .ok (.iconst 1, 1) := by decide +kernel
theorem d_Mo_design_200 : decode b_Mo_design 200 = .ok (.goto 14, 3) := by decide +kernel
theorem d_Mo_design_214 : decode b_Mo_design 214 = .ok (.istore 8, 2) := by decide +kernel
theorem d_Mo_design_216 : decode b_Mo_design 216 = .ok (.aload_n 0, 1) := by decide +kernel
theorem d_Mo_design_217 : decode b_Mo_design 217 = .ok (.getfield 54, 3) := by decide +kernel
theorem d_Mo_design_220 : decode b_Mo_design 220 = .ok (.iload 4, 2) := by decide +kernel
theorem d_Mo_design_222 : decode b_Mo_design 222 = .ok (.iload 7, 2) := by decide +kernel
theorem d_Mo_design_224 : decode b_Mo_design 224 = .ok (.i2b, 1) := by decide +kernel
theorem d_Mo_design_225 : decode b_Mo_design 225 = .ok (.bastore, 1) := by decide +kernel
theorem d_Mo_design_226 : decode b_Mo_design 226 = .ok (.aload_n 0, 1) := by decide +kernel
theorem d_Mo_design_227 : decode b_Mo_design 227 = .ok (.getfield 54, 3) := by decide +kernel
theorem d_Mo_design_230 : decode b_Mo_design 230 = .ok (.iload 4, 2) := by decide +kernel
theorem d_Mo_design_232 : decode b_Mo_design 232 = .ok (.sipush 2048, 3) := by decide +kernel
theorem d_Mo_design_235 : decode b_Mo_design 235 = .ok (.iadd, 1) := by decide +kernel
theorem d_Mo_design_236 : decode b_Mo_design 236 = .ok (.iload 7, 2) := by decide +kernel
theorem d_Mo_design_238 : decode b_Mo_design 238 = .ok (.i2b, 1) := by decide +kernel
theorem d_Mo_design_239 : decode b_Mo_design 239 = .ok (.bastore, 1) := by decide +kernel
theorem d_Mo_design_240 : decode b_Mo_design 240 = .ok (.aload_n 0, 1) := by decide +kernel
theorem d_Mo_design_241 : decode b_Mo_design 241 = .ok (.iload 4, 2) := by decide +kernel
theorem d_Mo_design_243 : decode b_Mo_design 243 = .ok (.iconst 2, 1) := by decide +kernel
theorem d_Mo_design_244 : decode b_Mo_design 244 = .ok (.iadd, 1) := by decide +kernel
theorem d_Mo_design_245 : decode b_Mo_design 245 = .ok (.iconst 4, 1) := by decide +kernel
theorem d_Mo_design_246 : decode b_Mo_design 246 = .ok (.aload_n 0, 1) := by decide +kernel
theorem d_Mo_design_247 : decode b_Mo_design 247 = .ok (.getfield 60, 3) := by decide +kernel
theorem d_Mo_design_250 : decode b_Mo_design 250 = .ok (.iload 6, 2) := by decide +kernel
theorem d_Mo_design_252 : decode b_Mo_design 252 = .ok (.iaload, 1) := by decide +kernel
theorem d_Mo_design_253 : decode b_Mo_design 253 = .ok (.invokevirtual 181, 3) := by decide +kernel
theorem d_Mo_design_256 : decode b_Mo_design 256 = .ok (.aload_n 0, 1) := by decide +kernel
theorem d_Mo_design_257 : decode b_Mo_design 257 = .ok (.iload 4, 2) := by decide +kernel
theorem d_Mo_design_259 : decode b_Mo_design 259 = .ok (.sipush 2050, 3) := by decide +kernel
theorem d_Mo_design_262 : decode b_Mo_design 262 = .ok (.iadd, 1) := by decide +kernel
theorem d_Mo_design_263 : decode b_Mo_design 263 = .ok (.iconst 4, 1) := by decide +kernel
theorem d_Mo_design_264 : decode b_Mo_design 264 = .ok (.aload_n 0, 1) := by decide +kernel
theorem d_Mo_design_265 : decode b_Mo_design 265 = .ok (.getfield 60, 3) := by decide +kernel
theorem d_Mo_design_268 : decode b_Mo_design 268 = .ok (.iload 6, 2) := by decide +kernel
theorem d_Mo_design_270 : decode b_Mo_design 270 = .ok (.iaload, 1) := by decide +kernel
theorem d_Mo_design_271 : decode b_Mo_design 271 = .ok (.invokevirtual 185, 3) := by decide +kernel
theorem d_Mo_design_274 : decode b_Mo_design 274 = .ok (.aload_n 0, 1) := by decide +kernel
theorem d_Mo_design_275 : decode b_Mo_design 275 = .ok (.iload 4, 2) := by decide +kernel
theorem d_Mo_design_277 : decode b_Mo_design 277 = .ok (.bipush 6, 2) := by decide +kernel
theorem d_Mo_design_279 : decode b_Mo_design 279 = .ok (.iadd, 1) := by decide +kernel
theorem d_Mo_design_280 : decode b_Mo_design 280 = .ok (.iconst 2, 1) := by decide +kernel
theorem d_Mo_design_281 : decode b_Mo_design 281 = .ok (.iload 8, 2) := by decide +kernel
theorem d_Mo_design_283 : decode b_Mo_design 283 = .ok (.invokevirtual 181, 3) := by decide +kernel
theorem d_Mo_design_286 : decode b_Mo_design 286 = .ok (.aload_n 0, 1) := by decide +kernel
theorem d_Mo_design_287 : decode b_Mo_design 287 = .ok (.iload 4, 2) := by decide +kernel
theorem d_Mo_design_289 : decode b_Mo_design 289 = .ok (.sipush 2054, 3) := by decide +kernel
theorem d_Mo_design_292 : decode b_Mo_design 292 = .ok (.iadd, 1) := by decide +kernel
theorem d_Mo_design_293 : decode b_Mo_design 293 = .ok (.iconst 2, 1) := by decide +kernel
theorem d_Mo_design_294 : decode b_Mo_design 294 = .ok (.iload 8, 2) := by decide +kernel
theorem d_Mo_design_296 : decode b_Mo_design 296 = .ok (.invokevirtual 185, 3) := by decide +kernel
theorem d_Mo_design_299 : decode b_Mo_design 299 = .ok (.iconst 0, 1) := by decide +kernel
theorem d_Mo_design_300 : decode b_Mo_design 300 = .ok (.istore 9, 2) := by decide +kernel
theorem d_Mo_design_302 : decode b_Mo_design 302 = .ok (.iload 9, 2) := by decide +kernel
theorem d_Mo_design_304 : decode b_Mo_design 304 = .ok (.iload 7, 2) := by decide +kernel
theorem d_Mo_design_306 : decode b_Mo_design 306 = .ok (.if_icmp .ge 67, 3) := by decide +kernel
theorem d_Mo_design_309 : decode b_Mo_design 309 = .ok (.iload 6, 2) := by decide +kernel
theorem d_Mo_design_311 : decode b_Mo_design 311 = .ok (.ifCond .le 62, 3) := by decide +kernel
theorem d_Mo_design_373 : decode b_Mo_design 373 = .ok (.iload 4, 2) := by decide +kernel
theorem d_Mo_design_375 : decode b_Mo_design 375 = .ok (.bipush 8, 2) := by decide +kernel
theorem d_Mo_design_377 : decode b_Mo_design 377 = .ok (.iload 7, 2) := by decide +kernel
theorem d_Mo_design_379 : decode b_Mo_design 379 = .ok (.invokestatic 196, 3) := by decide +kernel
theorem d_Mo_design_382 : decode b_Mo_design 382 = .ok (.iadd, 1) := by decide +kernel
theorem d_Mo_design_383 : decode b_Mo_design 383 = .ok (.iadd, 1) := by decide +kernel
theorem d_Mo_design_384 : decode b_Mo_design 384 = .ok (.istore 4, 2) := by decide +kernel
theorem d_Mo_design_386 : decode b_Mo_design 386 = .ok (.aload_n 0, 1) := by decide +kernel
theorem d_Mo_design_387 : decode b_Mo_design 387 = .ok (.iload 6, 2) := by decide +kernel
theorem d_Mo_design_389 : decode b_Mo_design 389 = .ok (.sipush 2048, 3) := by decide +kernel
theorem d_Mo_design_392 : decode b_Mo_design 392 = .ok (.aload_n 0, 1) := by decide +kernel
theorem d_Mo_design_393 : decode b_Mo_design 393 = .ok (.getfield 60, 3) := by decide +kernel
theorem d_Mo_design_396 : decode b_Mo_design 396 = .ok (.iload 6, 2) := by decide +kernel
theorem d_Mo_design_398 : decode b_Mo_design 398 = .ok (.iaload, 1) := by decide +kernel
theorem d_Mo_design_399 : decode b_Mo_design 399 = .ok (.iload_n 1, 1) := by decide +kernel
theorem d_Mo_design_400 : decode b_Mo_design 400 = .ok (.isub, 1) := by decide +kernel
theorem d_Mo_design_401 : decode b_Mo_design 401 = .ok (.bipush 16, 2) := by decide +kernel
theorem d_Mo_design_403 : decode b_Mo_design 403 = .ok (.isub, 1) := by decide +kernel
theorem d_Mo_design_404 : decode b_Mo_design 404 = .ok (.imul, 1) := by decide +kernel
theorem d_Mo_design_405 : decode b_Mo_design 405 = .ok (.iconst 1, 1) := by decide +kernel
theorem d_Mo_design_406 : decode b_Mo_design 406 = .ok (.invokevirtual 214, 3) := by decide +kernel
theorem d_Mo_design_409 : decode b_Mo_design 409 = .ok (.pop, 1) := by decide +kernel
theorem d_Mo_design_410 : decode b_Mo_design 410 = .ok (.iinc 5 1, 3) := by decide +kernel
theorem d_Mo_design_413 : decode b_Mo_design 413 = .ok (.goto (-255), 3) := by decide +kernel
theorem d_Mo_design_416 : decode b_Mo_design 416 = .ok (.aload_n 0, 1) := by decide +kernel
theorem d_Mo_design_417 : decode b_Mo_design 417 = .ok (.sipush 132, 3) := by decide +kernel
theorem d_Mo_design_420 : decode b_Mo_design 420 = .ok (.iconst 4, 1) := by decide +kernel
theorem d_Mo_design_421 : decode b_Mo_design 421 = .ok (.iload 4, 2) := by decide +kernel
theorem d_Mo_design_423 : decode b_Mo_design 423 = .ok (.sipush 4096, 3) := by decide +kernel
theorem d_Mo_design_426 : decode b_Mo_design 426 = .ok (.isub, 1) := by decide +kernel
theorem d_Mo_design_427 : decode b_Mo_design 427 = .ok (.invokevirtual 199, 3) := by decide +kernel
theorem d_Mo_design_430 : decode b_Mo_design 430 = .ok (.sipush 2048, 3) := by decide +kernel
theorem d_Mo_design_433 : decode b_Mo_design 433 = .ok (.iload_n 2, 1) := by decide +kernel
theorem d_Mo_design_434 : decode b_Mo_design 434 = .ok (.bipush 17, 2) := by decide +kernel
theorem d_Mo_design_436 : decode b_Mo_design 436 = .ok (.isub, 1) := by decide +kernel
theorem d_Mo_design_437 : decode b_Mo_design 437 = .ok (.imul, 1) := by decide +kernel
theorem d_Mo_design_438 : decode b_Mo_design 438 = .ok (.istore 5, 2) := by decide +kernel
theorem d_Mo_design_440 : decode b_Mo_design 440 = .ok (.aload_n 0, 1) := by decide +kernel
theorem d_Mo_design_441 : decode b_Mo_design 441 = .ok (.iload 5, 2) := by decide +kernel
theorem d_Mo_design_443 : decode b_Mo_design 443 = .ok (.bipush 77, 2) := by decide +kernel
theorem d_Mo_design_445 : decode b_Mo_design 445 = .ok (.bipush 65, 2) := by decide +kernel
theorem d_Mo_design_447 : decode b_Mo_design 447 = .ok (.bipush 82, 2) := by decide +kernel
theorem d_Mo_design_449 : decode b_Mo_design 449 = .ok (.bipush 75, 2) := by decide +kernel
theorem d_Mo_design_451 : decode b_Mo_design 451 = .ok (.iconst 0, 1) := by decide +kernel
theorem d_Mo_design_452 : decode b_Mo_design 452 = .ok (.invokevirtual 218, 3) := by decide +kernel
theorem d_Mo_design_455 : decode b_Mo_design 455 = .ok (.aload_n 0, 1) := by decide +kernel
theorem d_Mo_design_456 : decode b_Mo_design 456 = .ok (.iload 5, 2) := by decide +kernel
theorem d_Mo_design_458 : decode b_Mo_design 458 = .ok (.iconst 4, 1) := by decide +kernel
theorem d_Mo_design_459 : decode b_Mo_design 459 = .ok (.iadd, 1) := by decide +kernel
theorem d_Mo_design_460 : decode b_Mo_design 460 = .ok (.iconst 4, 1) := by decide +kernel
theorem d_Mo_design_461 : decode b_Mo_design 461 = .ok (.iload_n 1, 1) := by decide +kernel
theorem d_Mo_design_462 : decode b_Mo_design 462 = .ok (.invokevirtual 181, 3) := by decide +kernel
theorem d_Mo_design_465 : decode b_Mo_design 465 = .ok (.aload_n 0, 1) := by decide +kernel
theorem d_Mo_design_466 : decode b_Mo_design 466 = .ok (.iload 5, 2) := by decide +kernel
theorem d_Mo_design_468 : decode b_Mo_design 468 = .ok (.bipush 8, 2) := by decide +kernel
theorem d_Mo_design_470 : decode b_Mo_design 470 = .ok (.iadd, 1) := by decide +kernel
theorem d_Mo_design_471 : decode b_Mo_design 471 = .ok (.iconst 4, 1) := by decide +kernel
theorem d_Mo_design_472 : decode b_Mo_design 472 = .ok (.iload_n 3, 1) := by decide +kernel
theorem d_Mo_design_473 : decode b_Mo_design 473 = .ok (.invokevirtual 181, 3) := by decide +kernel
theorem d_Mo_design_476 : decode b_Mo_design 476 = .ok (.return_, 1) := by decide +kernel
theorem d_Mo_design_16 : decode b_Mo_design 16 = .ok (.aload_n 0, 1) := by decide +kernel
theorem d_Mo_design_17 : decode b_Mo_design 17 = .ok (.getfield 54, 3) := by decide +kernel
theorem d_Mo_design_20 : decode b_Mo_design 20 = .ok (.iload 4, 2) := by decide +kernel
theorem d_Mo_design_22 : decode b_Mo_design 22 = .ok (.iconst 0, 1) := by decide +kernel
theorem d_Mo_design_23 : decode b_Mo_design 23 = .ok (.bastore, 1) := by decide +kernel
theorem d_Mo_design_24 : decode b_Mo_design 24 = .ok (.iinc 4 1, 3) := by decide +kernel
theorem d_Mo_design_27 : decode b_Mo_design 27 = .ok (.goto (-24), 3) := by decide +kernel
set_option maxHeartbeats 4000000 in
set_option maxRecDepth 100000 in
theorem c_m_design (l : Launch) (D : va_G) (t : Nat → ClassId) (G : hG) (ak av : Nat → Nat) (h : hM) (mo n aBy aSt aDe aPa aIt aId aPr aNa aSi aSe aIw aEx aOl aPl aTa aAt aLo aS1 aS2 aS3 aS4 aS5 aS6 aO1 aO2 aO3 aO4 aO5 : Nat) (wt : Int32) (gPl gId gTa gAt gLo : Nat → Int32) (nu : Int32) (f_m : h mo = some (.inr (9, [.int 0, .int (nI n), .int 0, .ref aBy, .ref aSt, .ref aDe, .int 0, .int (-1), .int wt, .ref aPa, .int 1, .ref aIt, .ref aId, .ref aPr, .ref aNa, .ref aSi, .ref aSe, .ref aIw, .ref aEx, .ref aOl, .int 0, .ref aPl, .int 1, .int 0, .ref aTa, .ref aAt, .ref aLo, .int 0, .int 0, .ref aS1, .ref aS2, .ref aS3, .ref aS4, .ref aS5, .ref aS6, .int 0, .ref aO1, .ref aO2, .ref aO3, .ref aO4, .ref aO5]))) (f_aPl : h aPl = some (.inl ((t 0), 163840, .inl gPl))) (f_aId : h aId = some (.inl ((t 1), 700, .inl gId))) (f_aTa : h aTa = some (.inl ((t 2), 30, .inl gTa))) (f_aAt : h aAt = some (.inl ((t 2), 700, .inl gAt))) (f_aLo : h aLo = some (.inl ((t 2), 700, .inl gLo))) (zId : gId 0 = 1) (hta : gTa 0 = 0) (hat : gAt 0 = 20) (ne_aId_aAt : aId ≠ aAt) (ne_aId_aLo : aId ≠ aLo) (ne_aAt_aLo : aAt ≠ aLo) : Met l y_Mo_design (.code y_Mo_design b_Mo_design 10 none :: lw_g) { frames := 4, cells := 0, slots := 0, locals := 100 } (hP (kE D t G ak av) D vwCl G h [.ref mo, .int 0, .int 22, .int nu]) (hQv D vwCl G (fun h' => kp [aPl] h h' ∧ ∃ g : Nat → Int32, h' aPl = some (.inl ((t 0), 163840, .inl g)))) 0 0 G.P := by
  refine Met.ofW (cc := b_Mo_design) (maxL := 10) (ret := none) (by decide) rfl ?_
  intro p e s m args below meth c s₁ Bd hml hv
  obtain ⟨ha, hE, hH⟩ := hv
  have hx := Bd.exec
  have hb := Bd.bytes
  have hr := Bd.returns
  have hts : ∀ w ∈ lw_g, w.before args s = true := fun w hw => atoms_spec (ws := (.code y_Mo_design b_Mo_design 10 none :: lw_g)) Bd.pre w (List.mem_cons_of_mem _ hw)
  have hown : s.vm.findClass R_Mo = some m.cls := findClass_of_methodNamed Bd.named
  have hlocks := Bd.notSynchronized
  have hK := hE.1
  have hH0 := hH
  have hLo : hLc G.P [] := hLc_nil
  have hz : s.heap.size ≤ s.heap.size := Nat.le_refl _
  have hkp : kp [aPl] h h := kp_rf
  have hl := lv_entry [.ref mo, .int 0, .int 22, .int nu] (n := 10) (Nat.le_of_ble_eq_true rfl)
  rw [show entryFrame m args 10 = F0 m 0 ((lg_sl [.ref mo, .int 0, .int 22, .int nu] ++ List.replicate (10 - (lg_sl [.ref mo, .int 0, .int 22, .int nu]).length) Slot.unset).toArray) [] from (by rw [ha]; exact lg_entry_eq m [.ref mo, .int 0, .int 22, .int nu] 10)]
  generalize (lg_sl [.ref mo, .int 0, .int 22, .int nu] ++ List.replicate (10 - (lg_sl [.ref mo, .int 0, .int 22, .int nu]).length) Slot.unset).toArray = ls at hl ⊢
  have hl : lv_has ls 10 [(0, .ref mo), (1, .int 0), (2, .int 22), (3, .int nu)] := hl
  refine lv_iconst (v := 0) hx hb d_Mo_design_0 (by decide) ?_
  refine lv_topi (fun v1 e2 => ?_)
  obtain rfl : v1 = nI 0 := e2.trans (by decide)
  refine lv_istore (lv' := [(4, .int (nI 0)), (0, .ref mo), (1, .int 0), (2, .int 22), (3, .int nu)]) hx hb d_Mo_design_1 hl (by decide) rfl (fun ls hl => ?_)
  refine hm_loop (fun k ls H locs hh => ∃ (k9 : Nat) (g9 : Nat → Int32), k = 12288 - k9 ∧ lv_has ls 10 [(4, .int (nI k9)), (0, .ref mo), (1, .int 0), (2, .int 22), (3, .int nu)] ∧ hm D vwCl G hh H ∧ s.heap.size ≤ H.size ∧ hLc G.P locs ∧ kp [aPl] h hh ∧ hh mo = some (.inr (9, [.int 0, .int (nI n), .int 0, .ref aBy, .ref aSt, .ref aDe, .int 0, .int (-1), .int wt, .ref aPa, .int 1, .ref aIt, .ref aId, .ref aPr, .ref aNa, .ref aSi, .ref aSe, .ref aIw, .ref aEx, .ref aOl, .int 0, .ref aPl, .int 1, .int 0, .ref aTa, .ref aAt, .ref aLo, .int 0, .int 0, .ref aS1, .ref aS2, .ref aS3, .ref aS4, .ref aS5, .ref aS6, .int 0, .ref aO1, .ref aO2, .ref aO3, .ref aO4, .ref aO5])) ∧ hh aPl = some (.inl ((t 0), 163840, .inl g9)) ∧ hh aId = some (.inl ((t 1), 700, .inl gId)) ∧ hh aTa = some (.inl ((t 2), 30, .inl gTa)) ∧ hh aAt = some (.inl ((t 2), 700, .inl gAt)) ∧ hh aLo = some (.inl ((t 2), 700, .inl gLo)) ∧ (k9 ≤ 12288)) ?_ (hh := h) ⟨0, gPl, rfl, (lv_sub hl [0, 1, 2, 3, 4] rfl), hH, hz, hLo, hkp, f_m, f_aPl, f_aId, f_aTa, f_aAt, f_aLo, by omega⟩
  rintro k ls H locs hh ⟨k9, g9, hk, hl, hH, hz, hLo, hkp, f_m, f_aPl, f_aId, f_aTa, f_aAt, f_aLo, hk9⟩ ih
  refine lv_iload hx hb d_Mo_design_3 (lv_at hl 0 rfl) ?_
  refine lv_sipush (v := 2048) hx hb d_Mo_design_5 (by decide) ?_
  refine lv_iload_n hx hb d_Mo_design_8 rfl (lv_at hl 3 rfl) ?_
  refine lv_bipush (v := 16) hx hb d_Mo_design_9 (by decide) ?_
  refine lv_isub hx hb d_Mo_design_11 ?_
  refine lv_imul hx hb d_Mo_design_12 ?_
  refine lv_topi (fun v3 e4 => ?_)
  obtain rfl : v3 = nI 12288 := e4.trans (by decide)
  refine lv_icmp_ge (tgt := 30) hx hb d_Mo_design_13 (by decide) (fun hc5 => ?_) (fun hc5 => ?_)
  · skip
    refine lv_aload_n hx hb d_Mo_design_30 rfl (lv_at hl 1 rfl) ?_
    refine hm_get (ci := 9) (v := .ref aPl) (C := R_Mo) (T := F_Mo) (N := 41) hx hb hts ig_Mo hown hK hH f_m rfl 21 (by decide) (hts _ mw_410) (fun _ h9 => h9) rfl d_Mo_design_31 ?_
    refine lv_iconst (v := 0) hx hb d_Mo_design_34 (by decide) ?_
    refine lv_iconst (v := 1) hx hb d_Mo_design_35 (by decide) ?_
    refine hj_bast hx hb hK hH hLo 0 f_aPl rfl 0 (by decide) (by decide) (by decide) d_Mo_design_36 (fun H6 locs hH z7 hLo => ?_)
    have hz : s.heap.size ≤ H6.size := by rw [z7]; exact hz
    obtain ⟨h8, e9⟩ : ∃ z, z = hu hh aPl (.inl ((t 0), 163840, .inl (upd g9 0 (vp_nar .byte 1)))) := ⟨_, rfl⟩
    have hH : hm D vwCl G h8 H6 := by rw [e9]; exact hH
    have f_m : h8 mo = some (.inr (9, [.int 0, .int (nI n), .int 0, .ref aBy, .ref aSt, .ref aDe, .int 0, .int (-1), .int wt, .ref aPa, .int 1, .ref aIt, .ref aId, .ref aPr, .ref aNa, .ref aSi, .ref aSe, .ref aIw, .ref aEx, .ref aOl, .int 0, .ref aPl, .int 1, .int 0, .ref aTa, .ref aAt, .ref aLo, .int 0, .int 0, .ref aS1, .ref aS2, .ref aS3, .ref aS4, .ref aS5, .ref aS6, .int 0, .ref aO1, .ref aO2, .ref aO3, .ref aO4, .ref aO5])) := by rw [e9, hu_n (Ne.symm (h_neA f_aPl f_m))]; exact f_m
    have f_aId : h8 aId = some (.inl ((t 1), 700, .inl gId)) := by rw [e9, hu_n (h_neL (k1 := 700) (k2 := 163840) f_aId f_aPl rfl rfl (by omega))]; exact f_aId
    have f_aTa : h8 aTa = some (.inl ((t 2), 30, .inl gTa)) := by rw [e9, hu_n (h_neL (k1 := 30) (k2 := 163840) f_aTa f_aPl rfl rfl (by omega))]; exact f_aTa
    have f_aAt : h8 aAt = some (.inl ((t 2), 700, .inl gAt)) := by rw [e9, hu_n (h_neL (k1 := 700) (k2 := 163840) f_aAt f_aPl rfl rfl (by omega))]; exact f_aAt
    have f_aLo : h8 aLo = some (.inl ((t 2), 700, .inl gLo)) := by rw [e9, hu_n (h_neL (k1 := 700) (k2 := 163840) f_aLo f_aPl rfl rfl (by omega))]; exact f_aLo
    have f_aPl : h8 aPl = some (.inl ((t 0), 163840, .inl (upd g9 0 (vp_nar .byte 1)))) := by rw [e9]; exact hu_s _ _ _
    have hkp : kp [aPl] h h8 := by rw [e9]; exact kp_put hkp (by simp)
    refine lv_aload_n hx hb d_Mo_design_37 rfl (lv_at hl 1 rfl) ?_
    refine lv_iconst (v := 1) hx hb d_Mo_design_38 (by decide) ?_
    refine lv_bipush (v := 67) hx hb d_Mo_design_39 (by decide) ?_
    refine lv_bipush (v := 68) hx hb d_Mo_design_41 (by decide) ?_
    refine lv_bipush (v := 48) hx hb d_Mo_design_43 (by decide) ?_
    refine lv_bipush (v := 48) hx hb d_Mo_design_45 (by decide) ?_
    refine lv_bipush (v := 49) hx hb d_Mo_design_47 (by decide) ?_
    refine hm_callv (va_runV (As := [.int 1, .int 67, .int 68, .int 48, .int 48, .int 49]) (b := mo) (rest := []) ⟨hx, hb, hml, hown, hts⟩ (c_m_letters l D t G ak av h8 mo n aBy aSt aDe aPa aIt aId aPr aNa aSi aSe aIw aEx aOl aPl aTa aAt aLo aS1 aS2 aS3 aS4 aS5 aS6 aO1 aO2 aO3 aO4 aO5 1 wt (upd g9 0 (vp_nar .byte 1)) 1 1 67 68 48 48 49 f_m f_aPl (by decide) (by omega)) ⟨cw9B 6 hts mw_524 mw_525 mw_428 rfl rfl (by decide +kernel) ⟨Nat.le_of_ble_eq_true rfl, Nat.le_of_ble_eq_true rfl⟩, hts _ mw_526, hts _ mw_527⟩ (hP_V (q := (R_Mo, F_Mo, 41)) kE_ok hE hK hH f_m rfl) rfl rfl hl.1 rfl (lv_room (Nat.le_of_ble_eq_true rfl)) d_Mo_design_49 ⟨Nat.le_of_ble_eq_true rfl, Nat.le_of_ble_eq_true rfl⟩) hLo (fun h10 H11 locs hp13 hH z12 hLo => ?_)
    have hz : s.heap.size ≤ H11.size := Nat.le_trans hz z12
    obtain ⟨hk9, g14, hg9⟩ := hp13
    have f_m : h10 mo = some (.inr (9, [.int 0, .int (nI n), .int 0, .ref aBy, .ref aSt, .ref aDe, .int 0, .int (-1), .int wt, .ref aPa, .int 1, .ref aIt, .ref aId, .ref aPr, .ref aNa, .ref aSi, .ref aSe, .ref aIw, .ref aEx, .ref aOl, .int 0, .ref aPl, .int 1, .int 0, .ref aTa, .ref aAt, .ref aLo, .int 0, .int 0, .ref aS1, .ref aS2, .ref aS3, .ref aS4, .ref aS5, .ref aS6, .int 0, .ref aO1, .ref aO2, .ref aO3, .ref aO4, .ref aO5])) := kp_at hk9 f_m (nmc (Ne.symm (h_neA f_aPl f_m)) nm0)
    have f_aId : h10 aId = some (.inl ((t 1), 700, .inl gId)) := kp_at hk9 f_aId (nmc (h_neL (k1 := 700) (k2 := 163840) f_aId f_aPl rfl rfl (by omega)) nm0)
    have f_aTa : h10 aTa = some (.inl ((t 2), 30, .inl gTa)) := kp_at hk9 f_aTa (nmc (h_neL (k1 := 30) (k2 := 163840) f_aTa f_aPl rfl rfl (by omega)) nm0)
    have f_aAt : h10 aAt = some (.inl ((t 2), 700, .inl gAt)) := kp_at hk9 f_aAt (nmc (h_neL (k1 := 700) (k2 := 163840) f_aAt f_aPl rfl rfl (by omega)) nm0)
    have f_aLo : h10 aLo = some (.inl ((t 2), 700, .inl gLo)) := kp_at hk9 f_aLo (nmc (h_neL (k1 := 700) (k2 := 163840) f_aLo f_aPl rfl rfl (by omega)) nm0)
    have hkp : kp [aPl] h h10 := kp_tr2 hkp hk9 (List.forall_mem_cons.mpr ⟨Or.inl (by simp), List.forall_mem_nil _⟩)
    have f_aPl : h10 aPl = some (.inl ((t 0), 163840, .inl g14)) := hg9
    refine lv_aload_n hx hb d_Mo_design_52 rfl (lv_at hl 1 rfl) ?_
    refine hm_get (ci := 9) (v := .ref aPl) (C := R_Mo) (T := F_Mo) (N := 41) hx hb hts ig_Mo hown hK hH f_m rfl 21 (by decide) (hts _ mw_410) (fun _ h9 => h9) rfl d_Mo_design_53 ?_
    refine lv_bipush (v := 6) hx hb d_Mo_design_56 (by decide) ?_
    refine lv_iconst (v := 1) hx hb d_Mo_design_58 (by decide) ?_
    refine hj_bast hx hb hK hH hLo 0 f_aPl rfl 6 (by decide) (by decide) (by decide) d_Mo_design_59 (fun H15 locs hH z16 hLo => ?_)
    have hz : s.heap.size ≤ H15.size := by rw [z16]; exact hz
    obtain ⟨h17, e18⟩ : ∃ z, z = hu h10 aPl (.inl ((t 0), 163840, .inl (upd g14 6 (vp_nar .byte 1)))) := ⟨_, rfl⟩
    have hH : hm D vwCl G h17 H15 := by rw [e18]; exact hH
    have f_m : h17 mo = some (.inr (9, [.int 0, .int (nI n), .int 0, .ref aBy, .ref aSt, .ref aDe, .int 0, .int (-1), .int wt, .ref aPa, .int 1, .ref aIt, .ref aId, .ref aPr, .ref aNa, .ref aSi, .ref aSe, .ref aIw, .ref aEx, .ref aOl, .int 0, .ref aPl, .int 1, .int 0, .ref aTa, .ref aAt, .ref aLo, .int 0, .int 0, .ref aS1, .ref aS2, .ref aS3, .ref aS4, .ref aS5, .ref aS6, .int 0, .ref aO1, .ref aO2, .ref aO3, .ref aO4, .ref aO5])) := by rw [e18, hu_n (Ne.symm (h_neA f_aPl f_m))]; exact f_m
    have f_aId : h17 aId = some (.inl ((t 1), 700, .inl gId)) := by rw [e18, hu_n (h_neL (k1 := 700) (k2 := 163840) f_aId f_aPl rfl rfl (by omega))]; exact f_aId
    have f_aTa : h17 aTa = some (.inl ((t 2), 30, .inl gTa)) := by rw [e18, hu_n (h_neL (k1 := 30) (k2 := 163840) f_aTa f_aPl rfl rfl (by omega))]; exact f_aTa
    have f_aAt : h17 aAt = some (.inl ((t 2), 700, .inl gAt)) := by rw [e18, hu_n (h_neL (k1 := 700) (k2 := 163840) f_aAt f_aPl rfl rfl (by omega))]; exact f_aAt
    have f_aLo : h17 aLo = some (.inl ((t 2), 700, .inl gLo)) := by rw [e18, hu_n (h_neL (k1 := 700) (k2 := 163840) f_aLo f_aPl rfl rfl (by omega))]; exact f_aLo
    have f_aPl : h17 aPl = some (.inl ((t 0), 163840, .inl (upd g14 6 (vp_nar .byte 1)))) := by rw [e18]; exact hu_s _ _ _
    have hkp : kp [aPl] h h17 := by rw [e18]; exact kp_put hkp (by simp)
    refine lv_aload_n hx hb d_Mo_design_60 rfl (lv_at hl 1 rfl) ?_
    refine lv_bipush (v := 80) hx hb d_Mo_design_61 (by decide) ?_
    refine lv_iconst (v := 4) hx hb d_Mo_design_63 (by decide) ?_
    refine lv_aload_n hx hb d_Mo_design_64 rfl (lv_at hl 1 rfl) ?_
    refine hm_get (ci := 9) (v := .int (nI n)) (C := R_Mo) (T := F_Mo) (N := 41) hx hb hts ig_Mo hown hK hH f_m rfl 1 (by decide) (hts _ mw_425) (fun _ h9 => h9) rfl d_Mo_design_65 ?_
    refine hm_callv (va_runV (As := [.int 80, .int 4, .int (nI n)]) (b := mo) (rest := []) ⟨hx, hb, hml, hown, hts⟩ (c_m_both l D t G ak av h17 mo n aBy aSt aDe aPa aIt aId aPr aNa aSi aSe aIw aEx aOl aPl aTa aAt aLo aS1 aS2 aS3 aS4 aS5 aS6 aO1 aO2 aO3 aO4 aO5 1 wt (upd g14 6 (vp_nar .byte 1)) 80 4 80 4 (nI n) f_m f_aPl (by decide) rfl (by omega)) ⟨cw9B 3 hts mw_503 mw_504 mw_428 rfl rfl (by decide +kernel) ⟨Nat.le_of_ble_eq_true rfl, Nat.le_of_ble_eq_true rfl⟩, hts _ mw_505, hts _ mw_506⟩ (hP_V (q := (R_Mo, F_Mo, 41)) kE_ok hE hK hH f_m rfl) rfl rfl hl.1 rfl (lv_room (Nat.le_of_ble_eq_true rfl)) d_Mo_design_68 ⟨Nat.le_of_ble_eq_true rfl, Nat.le_of_ble_eq_true rfl⟩) hLo (fun h19 H20 locs hp22 hH z21 hLo => ?_)
    have hz : s.heap.size ≤ H20.size := Nat.le_trans hz z21
    obtain ⟨hk9, g23, hg9⟩ := hp22
    have f_m : h19 mo = some (.inr (9, [.int 0, .int (nI n), .int 0, .ref aBy, .ref aSt, .ref aDe, .int 0, .int (-1), .int wt, .ref aPa, .int 1, .ref aIt, .ref aId, .ref aPr, .ref aNa, .ref aSi, .ref aSe, .ref aIw, .ref aEx, .ref aOl, .int 0, .ref aPl, .int 1, .int 0, .ref aTa, .ref aAt, .ref aLo, .int 0, .int 0, .ref aS1, .ref aS2, .ref aS3, .ref aS4, .ref aS5, .ref aS6, .int 0, .ref aO1, .ref aO2, .ref aO3, .ref aO4, .ref aO5])) := kp_at hk9 f_m (nmc (Ne.symm (h_neA f_aPl f_m)) nm0)
    have f_aId : h19 aId = some (.inl ((t 1), 700, .inl gId)) := kp_at hk9 f_aId (nmc (h_neL (k1 := 700) (k2 := 163840) f_aId f_aPl rfl rfl (by omega)) nm0)
    have f_aTa : h19 aTa = some (.inl ((t 2), 30, .inl gTa)) := kp_at hk9 f_aTa (nmc (h_neL (k1 := 30) (k2 := 163840) f_aTa f_aPl rfl rfl (by omega)) nm0)
    have f_aAt : h19 aAt = some (.inl ((t 2), 700, .inl gAt)) := kp_at hk9 f_aAt (nmc (h_neL (k1 := 700) (k2 := 163840) f_aAt f_aPl rfl rfl (by omega)) nm0)
    have f_aLo : h19 aLo = some (.inl ((t 2), 700, .inl gLo)) := kp_at hk9 f_aLo (nmc (h_neL (k1 := 700) (k2 := 163840) f_aLo f_aPl rfl rfl (by omega)) nm0)
    have hkp : kp [aPl] h h19 := kp_tr2 hkp hk9 (List.forall_mem_cons.mpr ⟨Or.inl (by simp), List.forall_mem_nil _⟩)
    have f_aPl : h19 aPl = some (.inl ((t 0), 163840, .inl g23)) := hg9
    refine lv_aload_n hx hb d_Mo_design_71 rfl (lv_at hl 1 rfl) ?_
    refine lv_sipush (v := 128) hx hb d_Mo_design_72 (by decide) ?_
    refine lv_iconst (v := 2) hx hb d_Mo_design_75 (by decide) ?_
    refine lv_sipush (v := 2048) hx hb d_Mo_design_76 (by decide) ?_
    refine hm_callv (va_runV (As := [.int 128, .int 2, .int 2048]) (b := mo) (rest := []) ⟨hx, hb, hml, hown, hts⟩ (c_m_both l D t G ak av h19 mo n aBy aSt aDe aPa aIt aId aPr aNa aSi aSe aIw aEx aOl aPl aTa aAt aLo aS1 aS2 aS3 aS4 aS5 aS6 aO1 aO2 aO3 aO4 aO5 1 wt g23 128 2 128 2 2048 f_m f_aPl (by decide) rfl (by omega)) ⟨cw9B 3 hts mw_503 mw_504 mw_428 rfl rfl (by decide +kernel) ⟨Nat.le_of_ble_eq_true rfl, Nat.le_of_ble_eq_true rfl⟩, hts _ mw_505, hts _ mw_506⟩ (hP_V (q := (R_Mo, F_Mo, 41)) kE_ok hE hK hH f_m rfl) rfl rfl hl.1 rfl (lv_room (Nat.le_of_ble_eq_true rfl)) d_Mo_design_79 ⟨Nat.le_of_ble_eq_true rfl, Nat.le_of_ble_eq_true rfl⟩) hLo (fun h24 H25 locs hp27 hH z26 hLo => ?_)
    have hz : s.heap.size ≤ H25.size := Nat.le_trans hz z26
    obtain ⟨hk9, g28, hg9⟩ := hp27
    have f_m : h24 mo = some (.inr (9, [.int 0, .int (nI n), .int 0, .ref aBy, .ref aSt, .ref aDe, .int 0, .int (-1), .int wt, .ref aPa, .int 1, .ref aIt, .ref aId, .ref aPr, .ref aNa, .ref aSi, .ref aSe, .ref aIw, .ref aEx, .ref aOl, .int 0, .ref aPl, .int 1, .int 0, .ref aTa, .ref aAt, .ref aLo, .int 0, .int 0, .ref aS1, .ref aS2, .ref aS3, .ref aS4, .ref aS5, .ref aS6, .int 0, .ref aO1, .ref aO2, .ref aO3, .ref aO4, .ref aO5])) := kp_at hk9 f_m (nmc (Ne.symm (h_neA f_aPl f_m)) nm0)
    have f_aId : h24 aId = some (.inl ((t 1), 700, .inl gId)) := kp_at hk9 f_aId (nmc (h_neL (k1 := 700) (k2 := 163840) f_aId f_aPl rfl rfl (by omega)) nm0)
    have f_aTa : h24 aTa = some (.inl ((t 2), 30, .inl gTa)) := kp_at hk9 f_aTa (nmc (h_neL (k1 := 30) (k2 := 163840) f_aTa f_aPl rfl rfl (by omega)) nm0)
    have f_aAt : h24 aAt = some (.inl ((t 2), 700, .inl gAt)) := kp_at hk9 f_aAt (nmc (h_neL (k1 := 700) (k2 := 163840) f_aAt f_aPl rfl rfl (by omega)) nm0)
    have f_aLo : h24 aLo = some (.inl ((t 2), 700, .inl gLo)) := kp_at hk9 f_aLo (nmc (h_neL (k1 := 700) (k2 := 163840) f_aLo f_aPl rfl rfl (by omega)) nm0)
    have hkp : kp [aPl] h h24 := kp_tr2 hkp hk9 (List.forall_mem_cons.mpr ⟨Or.inl (by simp), List.forall_mem_nil _⟩)
    have f_aPl : h24 aPl = some (.inl ((t 0), 163840, .inl g28)) := hg9
    refine lv_aload_n hx hb d_Mo_design_82 rfl (lv_at hl 1 rfl) ?_
    refine lv_sipush (v := 140) hx hb d_Mo_design_83 (by decide) ?_
    refine lv_iconst (v := 4) hx hb d_Mo_design_86 (by decide) ?_
    refine lv_iload_n hx hb d_Mo_design_87 rfl (lv_at hl 2 rfl) ?_
    refine lv_bipush (v := 18) hx hb d_Mo_design_88 (by decide) ?_
    refine lv_iadd hx hb d_Mo_design_90 ?_
    refine hm_callv (va_runV (As := [.int 140, .int 4, .int (0 + 18)]) (b := mo) (rest := []) ⟨hx, hb, hml, hown, hts⟩ (c_m_low l D t G ak av h24 mo n aBy aSt aDe aPa aIt aId aPr aNa aSi aSe aIw aEx aOl aPl aTa aAt aLo aS1 aS2 aS3 aS4 aS5 aS6 aO1 aO2 aO3 aO4 aO5 1 wt g28 140 4 140 4 (0 + 18) f_m f_aPl (by decide) rfl (by omega)) ⟨cw9B 3 hts mw_488 mw_489 mw_428 rfl rfl (by decide +kernel) ⟨Nat.le_of_ble_eq_true rfl, Nat.le_of_ble_eq_true rfl⟩, hts _ mw_490, hts _ mw_491⟩ (hP_V (q := (R_Mo, F_Mo, 41)) kE_ok hE hK hH f_m rfl) rfl rfl hl.1 rfl (lv_room (Nat.le_of_ble_eq_true rfl)) d_Mo_design_91 ⟨Nat.le_of_ble_eq_true rfl, Nat.le_of_ble_eq_true rfl⟩) hLo (fun h29 H30 locs hp32 hH z31 hLo => ?_)
    have hz : s.heap.size ≤ H30.size := Nat.le_trans hz z31
    obtain ⟨hk9, g33, hg9⟩ := hp32
    have f_m : h29 mo = some (.inr (9, [.int 0, .int (nI n), .int 0, .ref aBy, .ref aSt, .ref aDe, .int 0, .int (-1), .int wt, .ref aPa, .int 1, .ref aIt, .ref aId, .ref aPr, .ref aNa, .ref aSi, .ref aSe, .ref aIw, .ref aEx, .ref aOl, .int 0, .ref aPl, .int 1, .int 0, .ref aTa, .ref aAt, .ref aLo, .int 0, .int 0, .ref aS1, .ref aS2, .ref aS3, .ref aS4, .ref aS5, .ref aS6, .int 0, .ref aO1, .ref aO2, .ref aO3, .ref aO4, .ref aO5])) := kp_at hk9 f_m (nmc (Ne.symm (h_neA f_aPl f_m)) nm0)
    have f_aId : h29 aId = some (.inl ((t 1), 700, .inl gId)) := kp_at hk9 f_aId (nmc (h_neL (k1 := 700) (k2 := 163840) f_aId f_aPl rfl rfl (by omega)) nm0)
    have f_aTa : h29 aTa = some (.inl ((t 2), 30, .inl gTa)) := kp_at hk9 f_aTa (nmc (h_neL (k1 := 30) (k2 := 163840) f_aTa f_aPl rfl rfl (by omega)) nm0)
    have f_aAt : h29 aAt = some (.inl ((t 2), 700, .inl gAt)) := kp_at hk9 f_aAt (nmc (h_neL (k1 := 700) (k2 := 163840) f_aAt f_aPl rfl rfl (by omega)) nm0)
    have f_aLo : h29 aLo = some (.inl ((t 2), 700, .inl gLo)) := kp_at hk9 f_aLo (nmc (h_neL (k1 := 700) (k2 := 163840) f_aLo f_aPl rfl rfl (by omega)) nm0)
    have hkp : kp [aPl] h h29 := kp_tr2 hkp hk9 (List.forall_mem_cons.mpr ⟨Or.inl (by simp), List.forall_mem_nil _⟩)
    have f_aPl : h29 aPl = some (.inl ((t 0), 163840, .inl g33)) := hg9
    refine lv_aload_n hx hb d_Mo_design_94 rfl (lv_at hl 1 rfl) ?_
    refine lv_sipush (v := 148) hx hb d_Mo_design_95 (by decide) ?_
    refine lv_iconst (v := 4) hx hb d_Mo_design_98 (by decide) ?_
    refine lv_iload_n hx hb d_Mo_design_99 rfl (lv_at hl 2 rfl) ?_
    refine lv_bipush (v := 19) hx hb d_Mo_design_100 (by decide) ?_
    refine lv_iadd hx hb d_Mo_design_102 ?_
    refine hm_callv (va_runV (As := [.int 148, .int 4, .int (0 + 19)]) (b := mo) (rest := []) ⟨hx, hb, hml, hown, hts⟩ (c_m_high l D t G ak av h29 mo n aBy aSt aDe aPa aIt aId aPr aNa aSi aSe aIw aEx aOl aPl aTa aAt aLo aS1 aS2 aS3 aS4 aS5 aS6 aO1 aO2 aO3 aO4 aO5 1 wt g33 148 4 148 4 (0 + 19) f_m f_aPl (by decide) rfl (by omega)) ⟨cw9B 3 hts mw_492 mw_493 mw_428 rfl rfl (by decide +kernel) ⟨Nat.le_of_ble_eq_true rfl, Nat.le_of_ble_eq_true rfl⟩, hts _ mw_494, hts _ mw_495⟩ (hP_V (q := (R_Mo, F_Mo, 41)) kE_ok hE hK hH f_m rfl) rfl rfl hl.1 rfl (lv_room (Nat.le_of_ble_eq_true rfl)) d_Mo_design_103 ⟨Nat.le_of_ble_eq_true rfl, Nat.le_of_ble_eq_true rfl⟩) hLo (fun h34 H35 locs hp37 hH z36 hLo => ?_)
    have hz : s.heap.size ≤ H35.size := Nat.le_trans hz z36
    obtain ⟨hk9, g38, hg9⟩ := hp37
    have f_m : h34 mo = some (.inr (9, [.int 0, .int (nI n), .int 0, .ref aBy, .ref aSt, .ref aDe, .int 0, .int (-1), .int wt, .ref aPa, .int 1, .ref aIt, .ref aId, .ref aPr, .ref aNa, .ref aSi, .ref aSe, .ref aIw, .ref aEx, .ref aOl, .int 0, .ref aPl, .int 1, .int 0, .ref aTa, .ref aAt, .ref aLo, .int 0, .int 0, .ref aS1, .ref aS2, .ref aS3, .ref aS4, .ref aS5, .ref aS6, .int 0, .ref aO1, .ref aO2, .ref aO3, .ref aO4, .ref aO5])) := kp_at hk9 f_m (nmc (Ne.symm (h_neA f_aPl f_m)) nm0)
    have f_aId : h34 aId = some (.inl ((t 1), 700, .inl gId)) := kp_at hk9 f_aId (nmc (h_neL (k1 := 700) (k2 := 163840) f_aId f_aPl rfl rfl (by omega)) nm0)
    have f_aTa : h34 aTa = some (.inl ((t 2), 30, .inl gTa)) := kp_at hk9 f_aTa (nmc (h_neL (k1 := 30) (k2 := 163840) f_aTa f_aPl rfl rfl (by omega)) nm0)
    have f_aAt : h34 aAt = some (.inl ((t 2), 700, .inl gAt)) := kp_at hk9 f_aAt (nmc (h_neL (k1 := 700) (k2 := 163840) f_aAt f_aPl rfl rfl (by omega)) nm0)
    have f_aLo : h34 aLo = some (.inl ((t 2), 700, .inl gLo)) := kp_at hk9 f_aLo (nmc (h_neL (k1 := 700) (k2 := 163840) f_aLo f_aPl rfl rfl (by omega)) nm0)
    have hkp : kp [aPl] h h34 := kp_tr2 hkp hk9 (List.forall_mem_cons.mpr ⟨Or.inl (by simp), List.forall_mem_nil _⟩)
    have f_aPl : h34 aPl = some (.inl ((t 0), 163840, .inl g38)) := hg9
    refine lv_aload_n hx hb d_Mo_design_106 rfl (lv_at hl 1 rfl) ?_
    refine lv_sipush (v := 156) hx hb d_Mo_design_107 (by decide) ?_
    refine lv_iconst (v := 0) hx hb d_Mo_design_110 (by decide) ?_
    refine lv_iconst (v := 0) hx hb d_Mo_design_111 (by decide) ?_
    refine hm_callv (va_runV (As := [.int 156, .int 0, .int 0]) (b := mo) (rest := []) ⟨hx, hb, hml, hown, hts⟩ (c_m_record l D t G ak av h34 mo n aBy aSt aDe aPa aIt aId aPr aNa aSi aSe aIw aEx aOl aPl aTa aAt aLo aS1 aS2 aS3 aS4 aS5 aS6 aO1 aO2 aO3 aO4 aO5 1 wt g38 gId gAt gLo 156 156 0 f_m f_aPl f_aId f_aAt f_aLo zId (by decide) (by decide) (by omega) ne_aId_aAt ne_aId_aLo ne_aAt_aLo) ⟨cw9B 3 hts mw_511 mw_512 mw_428 rfl rfl (by decide +kernel) ⟨Nat.le_of_ble_eq_true rfl, Nat.le_of_ble_eq_true rfl⟩, hts _ mw_513, hts _ mw_514⟩ (hP_V (q := (R_Mo, F_Mo, 41)) kE_ok hE hK hH f_m rfl) rfl rfl hl.1 rfl (lv_room (Nat.le_of_ble_eq_true rfl)) d_Mo_design_112 ⟨Nat.le_of_ble_eq_true rfl, Nat.le_of_ble_eq_true rfl⟩) hLo (fun h39 H40 locs hp42 hH z41 hLo => ?_)
    have hz : s.heap.size ≤ H40.size := Nat.le_trans hz z41
    obtain ⟨hk9, g43, hg9⟩ := hp42
    have f_m : h39 mo = some (.inr (9, [.int 0, .int (nI n), .int 0, .ref aBy, .ref aSt, .ref aDe, .int 0, .int (-1), .int wt, .ref aPa, .int 1, .ref aIt, .ref aId, .ref aPr, .ref aNa, .ref aSi, .ref aSe, .ref aIw, .ref aEx, .ref aOl, .int 0, .ref aPl, .int 1, .int 0, .ref aTa, .ref aAt, .ref aLo, .int 0, .int 0, .ref aS1, .ref aS2, .ref aS3, .ref aS4, .ref aS5, .ref aS6, .int 0, .ref aO1, .ref aO2, .ref aO3, .ref aO4, .ref aO5])) := kp_at hk9 f_m (nmc (Ne.symm (h_neA f_aPl f_m)) nm0)
    have f_aId : h39 aId = some (.inl ((t 1), 700, .inl gId)) := kp_at hk9 f_aId (nmc (h_neL (k1 := 700) (k2 := 163840) f_aId f_aPl rfl rfl (by omega)) nm0)
    have f_aTa : h39 aTa = some (.inl ((t 2), 30, .inl gTa)) := kp_at hk9 f_aTa (nmc (h_neL (k1 := 30) (k2 := 163840) f_aTa f_aPl rfl rfl (by omega)) nm0)
    have f_aAt : h39 aAt = some (.inl ((t 2), 700, .inl gAt)) := kp_at hk9 f_aAt (nmc (h_neL (k1 := 700) (k2 := 163840) f_aAt f_aPl rfl rfl (by omega)) nm0)
    have f_aLo : h39 aLo = some (.inl ((t 2), 700, .inl gLo)) := kp_at hk9 f_aLo (nmc (h_neL (k1 := 700) (k2 := 163840) f_aLo f_aPl rfl rfl (by omega)) nm0)
    have hkp : kp [aPl] h h39 := kp_tr2 hkp hk9 (List.forall_mem_cons.mpr ⟨Or.inl (by simp), List.forall_mem_nil _⟩)
    have f_aPl : h39 aPl = some (.inl ((t 0), 163840, .inl g43)) := hg9
    refine lv_aload_n hx hb d_Mo_design_115 rfl (lv_at hl 1 rfl) ?_
    refine hm_get (ci := 9) (v := .ref aPl) (C := R_Mo) (T := F_Mo) (N := 41) hx hb hts ig_Mo hown hK hH f_m rfl 21 (by decide) (hts _ mw_410) (fun _ h9 => h9) rfl d_Mo_design_116 ?_
    refine lv_sipush (v := 2048) hx hb d_Mo_design_119 (by decide) ?_
    refine lv_iconst (v := -1) hx hb d_Mo_design_122 (by decide) ?_
    refine hj_bast hx hb hK hH hLo 0 f_aPl rfl 2048 (by decide) (by decide) (by decide) d_Mo_design_123 (fun H44 locs hH z45 hLo => ?_)
    have hz : s.heap.size ≤ H44.size := by rw [z45]; exact hz
    obtain ⟨h46, e47⟩ : ∃ z, z = hu h39 aPl (.inl ((t 0), 163840, .inl (upd g43 2048 (vp_nar .byte (-1))))) := ⟨_, rfl⟩
    have hH : hm D vwCl G h46 H44 := by rw [e47]; exact hH
    have f_m : h46 mo = some (.inr (9, [.int 0, .int (nI n), .int 0, .ref aBy, .ref aSt, .ref aDe, .int 0, .int (-1), .int wt, .ref aPa, .int 1, .ref aIt, .ref aId, .ref aPr, .ref aNa, .ref aSi, .ref aSe, .ref aIw, .ref aEx, .ref aOl, .int 0, .ref aPl, .int 1, .int 0, .ref aTa, .ref aAt, .ref aLo, .int 0, .int 0, .ref aS1, .ref aS2, .ref aS3, .ref aS4, .ref aS5, .ref aS6, .int 0, .ref aO1, .ref aO2, .ref aO3, .ref aO4, .ref aO5])) := by rw [e47, hu_n (Ne.symm (h_neA f_aPl f_m))]; exact f_m
    have f_aId : h46 aId = some (.inl ((t 1), 700, .inl gId)) := by rw [e47, hu_n (h_neL (k1 := 700) (k2 := 163840) f_aId f_aPl rfl rfl (by omega))]; exact f_aId
    have f_aTa : h46 aTa = some (.inl ((t 2), 30, .inl gTa)) := by rw [e47, hu_n (h_neL (k1 := 30) (k2 := 163840) f_aTa f_aPl rfl rfl (by omega))]; exact f_aTa
    have f_aAt : h46 aAt = some (.inl ((t 2), 700, .inl gAt)) := by rw [e47, hu_n (h_neL (k1 := 700) (k2 := 163840) f_aAt f_aPl rfl rfl (by omega))]; exact f_aAt
    have f_aLo : h46 aLo = some (.inl ((t 2), 700, .inl gLo)) := by rw [e47, hu_n (h_neL (k1 := 700) (k2 := 163840) f_aLo f_aPl rfl rfl (by omega))]; exact f_aLo
    have f_aPl : h46 aPl = some (.inl ((t 0), 163840, .inl (upd g43 2048 (vp_nar .byte (-1))))) := by rw [e47]; exact hu_s _ _ _
    have hkp : kp [aPl] h h46 := by rw [e47]; exact kp_put hkp (by simp)
    refine lv_aload_n hx hb d_Mo_design_124 rfl (lv_at hl 1 rfl) ?_
    refine lv_sipush (v := 2049) hx hb d_Mo_design_125 (by decide) ?_
    refine lv_bipush (v := 67) hx hb d_Mo_design_128 (by decide) ?_
    refine lv_bipush (v := 68) hx hb d_Mo_design_130 (by decide) ?_
    refine lv_bipush (v := 48) hx hb d_Mo_design_132 (by decide) ?_
    refine lv_bipush (v := 48) hx hb d_Mo_design_134 (by decide) ?_
    refine lv_bipush (v := 49) hx hb d_Mo_design_136 (by decide) ?_
    refine hm_callv (va_runV (As := [.int 2049, .int 67, .int 68, .int 48, .int 48, .int 49]) (b := mo) (rest := []) ⟨hx, hb, hml, hown, hts⟩ (c_m_letters l D t G ak av h46 mo n aBy aSt aDe aPa aIt aId aPr aNa aSi aSe aIw aEx aOl aPl aTa aAt aLo aS1 aS2 aS3 aS4 aS5 aS6 aO1 aO2 aO3 aO4 aO5 1 wt (upd g43 2048 (vp_nar .byte (-1))) 2049 2049 67 68 48 48 49 f_m f_aPl (by decide) (by omega)) ⟨cw9B 6 hts mw_524 mw_525 mw_428 rfl rfl (by decide +kernel) ⟨Nat.le_of_ble_eq_true rfl, Nat.le_of_ble_eq_true rfl⟩, hts _ mw_526, hts _ mw_527⟩ (hP_V (q := (R_Mo, F_Mo, 41)) kE_ok hE hK hH f_m rfl) rfl rfl hl.1 rfl (lv_room (Nat.le_of_ble_eq_true rfl)) d_Mo_design_138 ⟨Nat.le_of_ble_eq_true rfl, Nat.le_of_ble_eq_true rfl⟩) hLo (fun h48 H49 locs hp51 hH z50 hLo => ?_)
    have hz : s.heap.size ≤ H49.size := Nat.le_trans hz z50
    obtain ⟨hk9, g52, hg9⟩ := hp51
    have f_m : h48 mo = some (.inr (9, [.int 0, .int (nI n), .int 0, .ref aBy, .ref aSt, .ref aDe, .int 0, .int (-1), .int wt, .ref aPa, .int 1, .ref aIt, .ref aId, .ref aPr, .ref aNa, .ref aSi, .ref aSe, .ref aIw, .ref aEx, .ref aOl, .int 0, .ref aPl, .int 1, .int 0, .ref aTa, .ref aAt, .ref aLo, .int 0, .int 0, .ref aS1, .ref aS2, .ref aS3, .ref aS4, .ref aS5, .ref aS6, .int 0, .ref aO1, .ref aO2, .ref aO3, .ref aO4, .ref aO5])) := kp_at hk9 f_m (nmc (Ne.symm (h_neA f_aPl f_m)) nm0)
    have f_aId : h48 aId = some (.inl ((t 1), 700, .inl gId)) := kp_at hk9 f_aId (nmc (h_neL (k1 := 700) (k2 := 163840) f_aId f_aPl rfl rfl (by omega)) nm0)
    have f_aTa : h48 aTa = some (.inl ((t 2), 30, .inl gTa)) := kp_at hk9 f_aTa (nmc (h_neL (k1 := 30) (k2 := 163840) f_aTa f_aPl rfl rfl (by omega)) nm0)
    have f_aAt : h48 aAt = some (.inl ((t 2), 700, .inl gAt)) := kp_at hk9 f_aAt (nmc (h_neL (k1 := 700) (k2 := 163840) f_aAt f_aPl rfl rfl (by omega)) nm0)
    have f_aLo : h48 aLo = some (.inl ((t 2), 700, .inl gLo)) := kp_at hk9 f_aLo (nmc (h_neL (k1 := 700) (k2 := 163840) f_aLo f_aPl rfl rfl (by omega)) nm0)
    have hkp : kp [aPl] h h48 := kp_tr2 hkp hk9 (List.forall_mem_cons.mpr ⟨Or.inl (by simp), List.forall_mem_nil _⟩)
    have f_aPl : h48 aPl = some (.inl ((t 0), 163840, .inl g52)) := hg9
    refine lv_aload_n hx hb d_Mo_design_141 rfl (lv_at hl 1 rfl) ?_
    refine hm_get (ci := 9) (v := .ref aPl) (C := R_Mo) (T := F_Mo) (N := 41) hx hb hts ig_Mo hown hK hH f_m rfl 21 (by decide) (hts _ mw_410) (fun _ h9 => h9) rfl d_Mo_design_142 ?_
    refine lv_sipush (v := 2054) hx hb d_Mo_design_145 (by decide) ?_
    refine lv_iconst (v := 1) hx hb d_Mo_design_148 (by decide) ?_
    refine hj_bast hx hb hK hH hLo 0 f_aPl rfl 2054 (by decide) (by decide) (by decide) d_Mo_design_149 (fun H53 locs hH z54 hLo => ?_)
    have hz : s.heap.size ≤ H53.size := by rw [z54]; exact hz
    obtain ⟨h55, e56⟩ : ∃ z, z = hu h48 aPl (.inl ((t 0), 163840, .inl (upd g52 2054 (vp_nar .byte 1)))) := ⟨_, rfl⟩
    have hH : hm D vwCl G h55 H53 := by rw [e56]; exact hH
    have f_m : h55 mo = some (.inr (9, [.int 0, .int (nI n), .int 0, .ref aBy, .ref aSt, .ref aDe, .int 0, .int (-1), .int wt, .ref aPa, .int 1, .ref aIt, .ref aId, .ref aPr, .ref aNa, .ref aSi, .ref aSe, .ref aIw, .ref aEx, .ref aOl, .int 0, .ref aPl, .int 1, .int 0, .ref aTa, .ref aAt, .ref aLo, .int 0, .int 0, .ref aS1, .ref aS2, .ref aS3, .ref aS4, .ref aS5, .ref aS6, .int 0, .ref aO1, .ref aO2, .ref aO3, .ref aO4, .ref aO5])) := by rw [e56, hu_n (Ne.symm (h_neA f_aPl f_m))]; exact f_m
    have f_aId : h55 aId = some (.inl ((t 1), 700, .inl gId)) := by rw [e56, hu_n (h_neL (k1 := 700) (k2 := 163840) f_aId f_aPl rfl rfl (by omega))]; exact f_aId
    have f_aTa : h55 aTa = some (.inl ((t 2), 30, .inl gTa)) := by rw [e56, hu_n (h_neL (k1 := 30) (k2 := 163840) f_aTa f_aPl rfl rfl (by omega))]; exact f_aTa
    have f_aAt : h55 aAt = some (.inl ((t 2), 700, .inl gAt)) := by rw [e56, hu_n (h_neL (k1 := 700) (k2 := 163840) f_aAt f_aPl rfl rfl (by omega))]; exact f_aAt
    have f_aLo : h55 aLo = some (.inl ((t 2), 700, .inl gLo)) := by rw [e56, hu_n (h_neL (k1 := 700) (k2 := 163840) f_aLo f_aPl rfl rfl (by omega))]; exact f_aLo
    have f_aPl : h55 aPl = some (.inl ((t 0), 163840, .inl (upd g52 2054 (vp_nar .byte 1)))) := by rw [e56]; exact hu_s _ _ _
    have hkp : kp [aPl] h h55 := by rw [e56]; exact kp_put hkp (by simp)
    refine lv_sipush (v := 4096) hx hb d_Mo_design_150 (by decide) ?_
    refine lv_istore (lv' := [(4, .int 4096), (0, .ref mo), (1, .int 0), (2, .int 22), (3, .int nu)]) hx hb d_Mo_design_153 hl (by decide) rfl (fun ls hl => ?_)
    refine lv_iconst (v := 0) hx hb d_Mo_design_155 (by decide) ?_
    refine lv_istore (lv' := [(5, .int 0), (4, .int 4096), (0, .ref mo), (1, .int 0), (2, .int 22), (3, .int nu)]) hx hb d_Mo_design_156 hl (by decide) rfl (fun ls hl => ?_)
    refine lv_iload hx hb d_Mo_design_158 (lv_at hl 0 rfl) ?_
    refine lv_aload_n hx hb d_Mo_design_160 rfl (lv_at hl 2 rfl) ?_
    refine hm_get (ci := 9) (v := .int 1) (C := R_Mo) (T := F_Mo) (N := 41) hx hb hts ig_Mo hown hK hH f_m rfl 22 (by decide) (hts _ mw_515) (fun _ h9 => h9) rfl d_Mo_design_161 ?_
    refine lv_icmp_ge (tgt := 416) hx hb d_Mo_design_164 (by decide) (fun hc57 => absurd hc57 (by decide)) (fun hc57 => ?_)
    refine lv_aload_n hx hb d_Mo_design_167 rfl (lv_at hl 2 rfl) ?_
    refine hm_get (ci := 9) (v := .ref aTa) (C := R_Mo) (T := F_Mo) (N := 41) hx hb hts ig_Mo hown hK hH f_m rfl 24 (by decide) (hts _ mw_411) (fun _ h9 => h9) rfl d_Mo_design_168 ?_
    refine lv_iload hx hb d_Mo_design_171 (lv_at hl 0 rfl) ?_
    refine hj_iald hx hb hK hH 2 f_aTa rfl 0 (by decide) (by decide) (by decide) d_Mo_design_173 ?_
    refine lv_topi (fun v58 e59 => ?_)
    obtain rfl : v58 = 0 := e59.trans (hta)
    refine lv_istore (lv' := [(6, .int 0), (5, .int 0), (4, .int 4096), (0, .ref mo), (1, .int 0), (2, .int 22), (3, .int nu)]) hx hb d_Mo_design_174 hl (by decide) rfl (fun ls hl => ?_)
    refine lv_aload_n hx hb d_Mo_design_176 rfl (lv_at hl 3 rfl) ?_
    refine lv_iload hx hb d_Mo_design_177 (lv_at hl 0 rfl) ?_
    refine lv_if_ne (tgt := 186) hx hb d_Mo_design_179 (by decide) (fun hc60 => absurd rfl hc60) (fun hc60 => ?_)
    refine lv_iconst (v := 0) hx hb d_Mo_design_182 (by decide) ?_
    refine lv_goto (tgt := 187) hx hb d_Mo_design_183 (by decide) ?_
    refine lv_iload hx hb d_Mo_design_187 (lv_at hl 0 rfl) ?_
    refine hm_calli (va_runV (As := [.int 0, .int 0]) (b := mo) (rest := []) ⟨hx, hb, hml, hown, hts⟩ (c_m_recordId l D t G ak av h55 mo 0 0 (by decide)) ⟨cw9B 2 hts mw_496 mw_497 mw_428 rfl rfl (by decide +kernel) ⟨Nat.le_of_ble_eq_true rfl, Nat.le_of_ble_eq_true rfl⟩, hts _ mw_498, hts _ mw_499⟩ (hP_V (q := (R_Mo, F_Mo, 41)) kE_ok hE hK hH f_m rfl) rfl rfl hl.1 rfl (lv_room (Nat.le_of_ble_eq_true rfl)) d_Mo_design_189 ⟨Nat.le_of_ble_eq_true rfl, Nat.le_of_ble_eq_true rfl⟩) hLo (fun r61 h62 H63 locs hp65 hH z64 hLo => ?_)
    have hz : s.heap.size ≤ H63.size := Nat.le_trans hz z64
    obtain ⟨rfl, rfl⟩ := hp65
    refine lv_istore (lv' := [(7, .int 1), (6, .int 0), (5, .int 0), (4, .int 4096), (0, .ref mo), (1, .int 0), (2, .int 22), (3, .int nu)]) hx hb d_Mo_design_192 hl (by decide) rfl (fun ls hl => ?_)
    refine lv_iload hx hb d_Mo_design_194 (lv_at hl 1 rfl) ?_
    refine lv_if_ne (tgt := 203) hx hb d_Mo_design_196 (by decide) (fun hc66 => absurd rfl hc66) (fun hc66 => ?_)
    refine lv_iconst (v := 1) hx hb d_Mo_design_199 (by decide) ?_
    refine lv_goto (tgt := 214) hx hb d_Mo_design_200 (by decide) ?_
    refine lv_istore (lv' := [(8, .int 1), (7, .int 1), (6, .int 0), (5, .int 0), (4, .int 4096), (0, .ref mo), (1, .int 0), (2, .int 22), (3, .int nu)]) hx hb d_Mo_design_214 hl (by decide) rfl (fun ls hl => ?_)
    refine lv_aload_n hx hb d_Mo_design_216 rfl (lv_at hl 5 rfl) ?_
    refine hm_get (ci := 9) (v := .ref aPl) (C := R_Mo) (T := F_Mo) (N := 41) hx hb hts ig_Mo hown hK hH f_m rfl 21 (by decide) (hts _ mw_410) (fun _ h9 => h9) rfl d_Mo_design_217 ?_
    refine lv_iload hx hb d_Mo_design_220 (lv_at hl 4 rfl) ?_
    refine lv_iload hx hb d_Mo_design_222 (lv_at hl 1 rfl) ?_
    refine lv_i2b (v := (1 : Int32).toInt8.toInt32) hx hb d_Mo_design_224 rfl ?_
    refine hj_bast hx hb hK hH hLo 0 f_aPl rfl 4096 (by decide) (by decide) (by decide) d_Mo_design_225 (fun H67 locs hH z68 hLo => ?_)
    have hz : s.heap.size ≤ H67.size := by rw [z68]; exact hz
    obtain ⟨h69, e70⟩ : ∃ z, z = hu h55 aPl (.inl ((t 0), 163840, .inl (upd (upd g52 2054 (vp_nar .byte 1)) 4096 (vp_nar .byte ((1 : Int32).toInt8.toInt32))))) := ⟨_, rfl⟩
    have hH : hm D vwCl G h69 H67 := by rw [e70]; exact hH
    have f_m : h69 mo = some (.inr (9, [.int 0, .int (nI n), .int 0, .ref aBy, .ref aSt, .ref aDe, .int 0, .int (-1), .int wt, .ref aPa, .int 1, .ref aIt, .ref aId, .ref aPr, .ref aNa, .ref aSi, .ref aSe, .ref aIw, .ref aEx, .ref aOl, .int 0, .ref aPl, .int 1, .int 0, .ref aTa, .ref aAt, .ref aLo, .int 0, .int 0, .ref aS1, .ref aS2, .ref aS3, .ref aS4, .ref aS5, .ref aS6, .int 0, .ref aO1, .ref aO2, .ref aO3, .ref aO4, .ref aO5])) := by rw [e70, hu_n (Ne.symm (h_neA f_aPl f_m))]; exact f_m
    have f_aId : h69 aId = some (.inl ((t 1), 700, .inl gId)) := by rw [e70, hu_n (h_neL (k1 := 700) (k2 := 163840) f_aId f_aPl rfl rfl (by omega))]; exact f_aId
    have f_aTa : h69 aTa = some (.inl ((t 2), 30, .inl gTa)) := by rw [e70, hu_n (h_neL (k1 := 30) (k2 := 163840) f_aTa f_aPl rfl rfl (by omega))]; exact f_aTa
    have f_aAt : h69 aAt = some (.inl ((t 2), 700, .inl gAt)) := by rw [e70, hu_n (h_neL (k1 := 700) (k2 := 163840) f_aAt f_aPl rfl rfl (by omega))]; exact f_aAt
    have f_aLo : h69 aLo = some (.inl ((t 2), 700, .inl gLo)) := by rw [e70, hu_n (h_neL (k1 := 700) (k2 := 163840) f_aLo f_aPl rfl rfl (by omega))]; exact f_aLo
    have f_aPl : h69 aPl = some (.inl ((t 0), 163840, .inl (upd (upd g52 2054 (vp_nar .byte 1)) 4096 (vp_nar .byte ((1 : Int32).toInt8.toInt32))))) := by rw [e70]; exact hu_s _ _ _
    have hkp : kp [aPl] h h69 := by rw [e70]; exact kp_put hkp (by simp)
    refine lv_aload_n hx hb d_Mo_design_226 rfl (lv_at hl 5 rfl) ?_
    refine hm_get (ci := 9) (v := .ref aPl) (C := R_Mo) (T := F_Mo) (N := 41) hx hb hts ig_Mo hown hK hH f_m rfl 21 (by decide) (hts _ mw_410) (fun _ h9 => h9) rfl d_Mo_design_227 ?_
    refine lv_iload hx hb d_Mo_design_230 (lv_at hl 4 rfl) ?_
    refine lv_sipush (v := 2048) hx hb d_Mo_design_232 (by decide) ?_
    refine lv_iadd hx hb d_Mo_design_235 ?_
    refine lv_iload hx hb d_Mo_design_236 (lv_at hl 1 rfl) ?_
    refine lv_i2b (v := (1 : Int32).toInt8.toInt32) hx hb d_Mo_design_238 rfl ?_
    refine hj_bast hx hb hK hH hLo 0 f_aPl rfl 6144 (by decide) (by decide) (by decide) d_Mo_design_239 (fun H71 locs hH z72 hLo => ?_)
    have hz : s.heap.size ≤ H71.size := by rw [z72]; exact hz
    obtain ⟨h73, e74⟩ : ∃ z, z = hu h69 aPl (.inl ((t 0), 163840, .inl (upd (upd (upd g52 2054 (vp_nar .byte 1)) 4096 (vp_nar .byte ((1 : Int32).toInt8.toInt32))) 6144 (vp_nar .byte ((1 : Int32).toInt8.toInt32))))) := ⟨_, rfl⟩
    have hH : hm D vwCl G h73 H71 := by rw [e74]; exact hH
    have f_m : h73 mo = some (.inr (9, [.int 0, .int (nI n), .int 0, .ref aBy, .ref aSt, .ref aDe, .int 0, .int (-1), .int wt, .ref aPa, .int 1, .ref aIt, .ref aId, .ref aPr, .ref aNa, .ref aSi, .ref aSe, .ref aIw, .ref aEx, .ref aOl, .int 0, .ref aPl, .int 1, .int 0, .ref aTa, .ref aAt, .ref aLo, .int 0, .int 0, .ref aS1, .ref aS2, .ref aS3, .ref aS4, .ref aS5, .ref aS6, .int 0, .ref aO1, .ref aO2, .ref aO3, .ref aO4, .ref aO5])) := by rw [e74, hu_n (Ne.symm (h_neA f_aPl f_m))]; exact f_m
    have f_aId : h73 aId = some (.inl ((t 1), 700, .inl gId)) := by rw [e74, hu_n (h_neL (k1 := 700) (k2 := 163840) f_aId f_aPl rfl rfl (by omega))]; exact f_aId
    have f_aTa : h73 aTa = some (.inl ((t 2), 30, .inl gTa)) := by rw [e74, hu_n (h_neL (k1 := 30) (k2 := 163840) f_aTa f_aPl rfl rfl (by omega))]; exact f_aTa
    have f_aAt : h73 aAt = some (.inl ((t 2), 700, .inl gAt)) := by rw [e74, hu_n (h_neL (k1 := 700) (k2 := 163840) f_aAt f_aPl rfl rfl (by omega))]; exact f_aAt
    have f_aLo : h73 aLo = some (.inl ((t 2), 700, .inl gLo)) := by rw [e74, hu_n (h_neL (k1 := 700) (k2 := 163840) f_aLo f_aPl rfl rfl (by omega))]; exact f_aLo
    have f_aPl : h73 aPl = some (.inl ((t 0), 163840, .inl (upd (upd (upd g52 2054 (vp_nar .byte 1)) 4096 (vp_nar .byte ((1 : Int32).toInt8.toInt32))) 6144 (vp_nar .byte ((1 : Int32).toInt8.toInt32))))) := by rw [e74]; exact hu_s _ _ _
    have hkp : kp [aPl] h h73 := by rw [e74]; exact kp_put hkp (by simp)
    refine lv_aload_n hx hb d_Mo_design_240 rfl (lv_at hl 5 rfl) ?_
    refine lv_iload hx hb d_Mo_design_241 (lv_at hl 4 rfl) ?_
    refine lv_iconst (v := 2) hx hb d_Mo_design_243 (by decide) ?_
    refine lv_iadd hx hb d_Mo_design_244 ?_
    refine lv_iconst (v := 4) hx hb d_Mo_design_245 (by decide) ?_
    refine lv_aload_n hx hb d_Mo_design_246 rfl (lv_at hl 5 rfl) ?_
    refine hm_get (ci := 9) (v := .ref aAt) (C := R_Mo) (T := F_Mo) (N := 41) hx hb hts ig_Mo hown hK hH f_m rfl 25 (by decide) (hts _ mw_412) (fun _ h9 => h9) rfl d_Mo_design_247 ?_
    refine lv_iload hx hb d_Mo_design_250 (lv_at hl 2 rfl) ?_
    refine hj_iald hx hb hK hH 2 f_aAt rfl 0 (by decide) (by decide) (by decide) d_Mo_design_252 ?_
    refine hm_callv (va_runV (As := [.int (4096 + 2), .int 4, .int (gAt 0)]) (b := mo) (rest := []) ⟨hx, hb, hml, hown, hts⟩ (c_m_low l D t G ak av h73 mo n aBy aSt aDe aPa aIt aId aPr aNa aSi aSe aIw aEx aOl aPl aTa aAt aLo aS1 aS2 aS3 aS4 aS5 aS6 aO1 aO2 aO3 aO4 aO5 1 wt (upd (upd (upd g52 2054 (vp_nar .byte 1)) 4096 (vp_nar .byte ((1 : Int32).toInt8.toInt32))) 6144 (vp_nar .byte ((1 : Int32).toInt8.toInt32))) 4098 4 (4096 + 2) 4 (gAt 0) f_m f_aPl (by decide) rfl (by omega)) ⟨cw9B 3 hts mw_488 mw_489 mw_428 rfl rfl (by decide +kernel) ⟨Nat.le_of_ble_eq_true rfl, Nat.le_of_ble_eq_true rfl⟩, hts _ mw_490, hts _ mw_491⟩ (hP_V (q := (R_Mo, F_Mo, 41)) kE_ok hE hK hH f_m rfl) rfl rfl hl.1 rfl (lv_room (Nat.le_of_ble_eq_true rfl)) d_Mo_design_253 ⟨Nat.le_of_ble_eq_true rfl, Nat.le_of_ble_eq_true rfl⟩) hLo (fun h75 H76 locs hp78 hH z77 hLo => ?_)
    have hz : s.heap.size ≤ H76.size := Nat.le_trans hz z77
    obtain ⟨hk9, g79, hg9⟩ := hp78
    have f_m : h75 mo = some (.inr (9, [.int 0, .int (nI n), .int 0, .ref aBy, .ref aSt, .ref aDe, .int 0, .int (-1), .int wt, .ref aPa, .int 1, .ref aIt, .ref aId, .ref aPr, .ref aNa, .ref aSi, .ref aSe, .ref aIw, .ref aEx, .ref aOl, .int 0, .ref aPl, .int 1, .int 0, .ref aTa, .ref aAt, .ref aLo, .int 0, .int 0, .ref aS1, .ref aS2, .ref aS3, .ref aS4, .ref aS5, .ref aS6, .int 0, .ref aO1, .ref aO2, .ref aO3, .ref aO4, .ref aO5])) := kp_at hk9 f_m (nmc (Ne.symm (h_neA f_aPl f_m)) nm0)
    have f_aId : h75 aId = some (.inl ((t 1), 700, .inl gId)) := kp_at hk9 f_aId (nmc (h_neL (k1 := 700) (k2 := 163840) f_aId f_aPl rfl rfl (by omega)) nm0)
    have f_aTa : h75 aTa = some (.inl ((t 2), 30, .inl gTa)) := kp_at hk9 f_aTa (nmc (h_neL (k1 := 30) (k2 := 163840) f_aTa f_aPl rfl rfl (by omega)) nm0)
    have f_aAt : h75 aAt = some (.inl ((t 2), 700, .inl gAt)) := kp_at hk9 f_aAt (nmc (h_neL (k1 := 700) (k2 := 163840) f_aAt f_aPl rfl rfl (by omega)) nm0)
    have f_aLo : h75 aLo = some (.inl ((t 2), 700, .inl gLo)) := kp_at hk9 f_aLo (nmc (h_neL (k1 := 700) (k2 := 163840) f_aLo f_aPl rfl rfl (by omega)) nm0)
    have hkp : kp [aPl] h h75 := kp_tr2 hkp hk9 (List.forall_mem_cons.mpr ⟨Or.inl (by simp), List.forall_mem_nil _⟩)
    have f_aPl : h75 aPl = some (.inl ((t 0), 163840, .inl g79)) := hg9
    refine lv_aload_n hx hb d_Mo_design_256 rfl (lv_at hl 5 rfl) ?_
    refine lv_iload hx hb d_Mo_design_257 (lv_at hl 4 rfl) ?_
    refine lv_sipush (v := 2050) hx hb d_Mo_design_259 (by decide) ?_
    refine lv_iadd hx hb d_Mo_design_262 ?_
    refine lv_iconst (v := 4) hx hb d_Mo_design_263 (by decide) ?_
    refine lv_aload_n hx hb d_Mo_design_264 rfl (lv_at hl 5 rfl) ?_
    refine hm_get (ci := 9) (v := .ref aAt) (C := R_Mo) (T := F_Mo) (N := 41) hx hb hts ig_Mo hown hK hH f_m rfl 25 (by decide) (hts _ mw_412) (fun _ h9 => h9) rfl d_Mo_design_265 ?_
    refine lv_iload hx hb d_Mo_design_268 (lv_at hl 2 rfl) ?_
    refine hj_iald hx hb hK hH 2 f_aAt rfl 0 (by decide) (by decide) (by decide) d_Mo_design_270 ?_
    refine hm_callv (va_runV (As := [.int (4096 + 2050), .int 4, .int (gAt 0)]) (b := mo) (rest := []) ⟨hx, hb, hml, hown, hts⟩ (c_m_high l D t G ak av h75 mo n aBy aSt aDe aPa aIt aId aPr aNa aSi aSe aIw aEx aOl aPl aTa aAt aLo aS1 aS2 aS3 aS4 aS5 aS6 aO1 aO2 aO3 aO4 aO5 1 wt g79 6146 4 (4096 + 2050) 4 (gAt 0) f_m f_aPl (by decide) rfl (by omega)) ⟨cw9B 3 hts mw_492 mw_493 mw_428 rfl rfl (by decide +kernel) ⟨Nat.le_of_ble_eq_true rfl, Nat.le_of_ble_eq_true rfl⟩, hts _ mw_494, hts _ mw_495⟩ (hP_V (q := (R_Mo, F_Mo, 41)) kE_ok hE hK hH f_m rfl) rfl rfl hl.1 rfl (lv_room (Nat.le_of_ble_eq_true rfl)) d_Mo_design_271 ⟨Nat.le_of_ble_eq_true rfl, Nat.le_of_ble_eq_true rfl⟩) hLo (fun h80 H81 locs hp83 hH z82 hLo => ?_)
    have hz : s.heap.size ≤ H81.size := Nat.le_trans hz z82
    obtain ⟨hk9, g84, hg9⟩ := hp83
    have f_m : h80 mo = some (.inr (9, [.int 0, .int (nI n), .int 0, .ref aBy, .ref aSt, .ref aDe, .int 0, .int (-1), .int wt, .ref aPa, .int 1, .ref aIt, .ref aId, .ref aPr, .ref aNa, .ref aSi, .ref aSe, .ref aIw, .ref aEx, .ref aOl, .int 0, .ref aPl, .int 1, .int 0, .ref aTa, .ref aAt, .ref aLo, .int 0, .int 0, .ref aS1, .ref aS2, .ref aS3, .ref aS4, .ref aS5, .ref aS6, .int 0, .ref aO1, .ref aO2, .ref aO3, .ref aO4, .ref aO5])) := kp_at hk9 f_m (nmc (Ne.symm (h_neA f_aPl f_m)) nm0)
    have f_aId : h80 aId = some (.inl ((t 1), 700, .inl gId)) := kp_at hk9 f_aId (nmc (h_neL (k1 := 700) (k2 := 163840) f_aId f_aPl rfl rfl (by omega)) nm0)
    have f_aTa : h80 aTa = some (.inl ((t 2), 30, .inl gTa)) := kp_at hk9 f_aTa (nmc (h_neL (k1 := 30) (k2 := 163840) f_aTa f_aPl rfl rfl (by omega)) nm0)
    have f_aAt : h80 aAt = some (.inl ((t 2), 700, .inl gAt)) := kp_at hk9 f_aAt (nmc (h_neL (k1 := 700) (k2 := 163840) f_aAt f_aPl rfl rfl (by omega)) nm0)
    have f_aLo : h80 aLo = some (.inl ((t 2), 700, .inl gLo)) := kp_at hk9 f_aLo (nmc (h_neL (k1 := 700) (k2 := 163840) f_aLo f_aPl rfl rfl (by omega)) nm0)
    have hkp : kp [aPl] h h80 := kp_tr2 hkp hk9 (List.forall_mem_cons.mpr ⟨Or.inl (by simp), List.forall_mem_nil _⟩)
    have f_aPl : h80 aPl = some (.inl ((t 0), 163840, .inl g84)) := hg9
    refine lv_aload_n hx hb d_Mo_design_274 rfl (lv_at hl 5 rfl) ?_
    refine lv_iload hx hb d_Mo_design_275 (lv_at hl 4 rfl) ?_
    refine lv_bipush (v := 6) hx hb d_Mo_design_277 (by decide) ?_
    refine lv_iadd hx hb d_Mo_design_279 ?_
    refine lv_iconst (v := 2) hx hb d_Mo_design_280 (by decide) ?_
    refine lv_iload hx hb d_Mo_design_281 (lv_at hl 0 rfl) ?_
    refine hm_callv (va_runV (As := [.int (4096 + 6), .int 2, .int 1]) (b := mo) (rest := []) ⟨hx, hb, hml, hown, hts⟩ (c_m_low l D t G ak av h80 mo n aBy aSt aDe aPa aIt aId aPr aNa aSi aSe aIw aEx aOl aPl aTa aAt aLo aS1 aS2 aS3 aS4 aS5 aS6 aO1 aO2 aO3 aO4 aO5 1 wt g84 4102 2 (4096 + 6) 2 1 f_m f_aPl (by decide) rfl (by omega)) ⟨cw9B 3 hts mw_488 mw_489 mw_428 rfl rfl (by decide +kernel) ⟨Nat.le_of_ble_eq_true rfl, Nat.le_of_ble_eq_true rfl⟩, hts _ mw_490, hts _ mw_491⟩ (hP_V (q := (R_Mo, F_Mo, 41)) kE_ok hE hK hH f_m rfl) rfl rfl hl.1 rfl (lv_room (Nat.le_of_ble_eq_true rfl)) d_Mo_design_283 ⟨Nat.le_of_ble_eq_true rfl, Nat.le_of_ble_eq_true rfl⟩) hLo (fun h85 H86 locs hp88 hH z87 hLo => ?_)
    have hz : s.heap.size ≤ H86.size := Nat.le_trans hz z87
    obtain ⟨hk9, g89, hg9⟩ := hp88
    have f_m : h85 mo = some (.inr (9, [.int 0, .int (nI n), .int 0, .ref aBy, .ref aSt, .ref aDe, .int 0, .int (-1), .int wt, .ref aPa, .int 1, .ref aIt, .ref aId, .ref aPr, .ref aNa, .ref aSi, .ref aSe, .ref aIw, .ref aEx, .ref aOl, .int 0, .ref aPl, .int 1, .int 0, .ref aTa, .ref aAt, .ref aLo, .int 0, .int 0, .ref aS1, .ref aS2, .ref aS3, .ref aS4, .ref aS5, .ref aS6, .int 0, .ref aO1, .ref aO2, .ref aO3, .ref aO4, .ref aO5])) := kp_at hk9 f_m (nmc (Ne.symm (h_neA f_aPl f_m)) nm0)
    have f_aId : h85 aId = some (.inl ((t 1), 700, .inl gId)) := kp_at hk9 f_aId (nmc (h_neL (k1 := 700) (k2 := 163840) f_aId f_aPl rfl rfl (by omega)) nm0)
    have f_aTa : h85 aTa = some (.inl ((t 2), 30, .inl gTa)) := kp_at hk9 f_aTa (nmc (h_neL (k1 := 30) (k2 := 163840) f_aTa f_aPl rfl rfl (by omega)) nm0)
    have f_aAt : h85 aAt = some (.inl ((t 2), 700, .inl gAt)) := kp_at hk9 f_aAt (nmc (h_neL (k1 := 700) (k2 := 163840) f_aAt f_aPl rfl rfl (by omega)) nm0)
    have f_aLo : h85 aLo = some (.inl ((t 2), 700, .inl gLo)) := kp_at hk9 f_aLo (nmc (h_neL (k1 := 700) (k2 := 163840) f_aLo f_aPl rfl rfl (by omega)) nm0)
    have hkp : kp [aPl] h h85 := kp_tr2 hkp hk9 (List.forall_mem_cons.mpr ⟨Or.inl (by simp), List.forall_mem_nil _⟩)
    have f_aPl : h85 aPl = some (.inl ((t 0), 163840, .inl g89)) := hg9
    refine lv_aload_n hx hb d_Mo_design_286 rfl (lv_at hl 5 rfl) ?_
    refine lv_iload hx hb d_Mo_design_287 (lv_at hl 4 rfl) ?_
    refine lv_sipush (v := 2054) hx hb d_Mo_design_289 (by decide) ?_
    refine lv_iadd hx hb d_Mo_design_292 ?_
    refine lv_iconst (v := 2) hx hb d_Mo_design_293 (by decide) ?_
    refine lv_iload hx hb d_Mo_design_294 (lv_at hl 0 rfl) ?_
    refine hm_callv (va_runV (As := [.int (4096 + 2054), .int 2, .int 1]) (b := mo) (rest := []) ⟨hx, hb, hml, hown, hts⟩ (c_m_high l D t G ak av h85 mo n aBy aSt aDe aPa aIt aId aPr aNa aSi aSe aIw aEx aOl aPl aTa aAt aLo aS1 aS2 aS3 aS4 aS5 aS6 aO1 aO2 aO3 aO4 aO5 1 wt g89 6150 2 (4096 + 2054) 2 1 f_m f_aPl (by decide) rfl (by omega)) ⟨cw9B 3 hts mw_492 mw_493 mw_428 rfl rfl (by decide +kernel) ⟨Nat.le_of_ble_eq_true rfl, Nat.le_of_ble_eq_true rfl⟩, hts _ mw_494, hts _ mw_495⟩ (hP_V (q := (R_Mo, F_Mo, 41)) kE_ok hE hK hH f_m rfl) rfl rfl hl.1 rfl (lv_room (Nat.le_of_ble_eq_true rfl)) d_Mo_design_296 ⟨Nat.le_of_ble_eq_true rfl, Nat.le_of_ble_eq_true rfl⟩) hLo (fun h90 H91 locs hp93 hH z92 hLo => ?_)
    have hz : s.heap.size ≤ H91.size := Nat.le_trans hz z92
    obtain ⟨hk9, g94, hg9⟩ := hp93
    have f_m : h90 mo = some (.inr (9, [.int 0, .int (nI n), .int 0, .ref aBy, .ref aSt, .ref aDe, .int 0, .int (-1), .int wt, .ref aPa, .int 1, .ref aIt, .ref aId, .ref aPr, .ref aNa, .ref aSi, .ref aSe, .ref aIw, .ref aEx, .ref aOl, .int 0, .ref aPl, .int 1, .int 0, .ref aTa, .ref aAt, .ref aLo, .int 0, .int 0, .ref aS1, .ref aS2, .ref aS3, .ref aS4, .ref aS5, .ref aS6, .int 0, .ref aO1, .ref aO2, .ref aO3, .ref aO4, .ref aO5])) := kp_at hk9 f_m (nmc (Ne.symm (h_neA f_aPl f_m)) nm0)
    have f_aId : h90 aId = some (.inl ((t 1), 700, .inl gId)) := kp_at hk9 f_aId (nmc (h_neL (k1 := 700) (k2 := 163840) f_aId f_aPl rfl rfl (by omega)) nm0)
    have f_aTa : h90 aTa = some (.inl ((t 2), 30, .inl gTa)) := kp_at hk9 f_aTa (nmc (h_neL (k1 := 30) (k2 := 163840) f_aTa f_aPl rfl rfl (by omega)) nm0)
    have f_aAt : h90 aAt = some (.inl ((t 2), 700, .inl gAt)) := kp_at hk9 f_aAt (nmc (h_neL (k1 := 700) (k2 := 163840) f_aAt f_aPl rfl rfl (by omega)) nm0)
    have f_aLo : h90 aLo = some (.inl ((t 2), 700, .inl gLo)) := kp_at hk9 f_aLo (nmc (h_neL (k1 := 700) (k2 := 163840) f_aLo f_aPl rfl rfl (by omega)) nm0)
    have hkp : kp [aPl] h h90 := kp_tr2 hkp hk9 (List.forall_mem_cons.mpr ⟨Or.inl (by simp), List.forall_mem_nil _⟩)
    have f_aPl : h90 aPl = some (.inl ((t 0), 163840, .inl g94)) := hg9
    refine lv_iconst (v := 0) hx hb d_Mo_design_299 (by decide) ?_
    refine lv_istore (lv' := [(9, .int 0), (8, .int 1), (7, .int 1), (6, .int 0), (5, .int 0), (4, .int 4096), (0, .ref mo), (1, .int 0), (2, .int 22), (3, .int nu)]) hx hb d_Mo_design_300 hl (by decide) rfl (fun ls hl => ?_)
    refine lv_iload hx hb d_Mo_design_302 (lv_at hl 0 rfl) ?_
    refine lv_iload hx hb d_Mo_design_304 (lv_at hl 2 rfl) ?_
    refine lv_icmp_ge (tgt := 373) hx hb d_Mo_design_306 (by decide) (fun hc95 => absurd hc95 (by decide)) (fun hc95 => ?_)
    refine lv_iload hx hb d_Mo_design_309 (lv_at hl 3 rfl) ?_
    refine lv_if_le (tgt := 373) hx hb d_Mo_design_311 (by decide) (fun hc96 => ?_) (fun hc96 => absurd (by decide) hc96)
    refine lv_iload hx hb d_Mo_design_373 (lv_at hl 5 rfl) ?_
    refine lv_bipush (v := 8) hx hb d_Mo_design_375 (by decide) ?_
    refine lv_iload hx hb d_Mo_design_377 (lv_at hl 2 rfl) ?_
    refine hm_calli (va_runS (As := [.int 1]) (rest := [.int 8, .int 4096]) ⟨hx, hb, hml, hown, hts⟩ (c_m_even l D t G ak av h90 1) ⟨cw9B 1 hts mw_500 mw_501 mw_428 rfl rfl (by decide +kernel) ⟨Nat.le_of_ble_eq_true rfl, Nat.le_of_ble_eq_true rfl⟩, hts _ mw_502⟩ (hP_S kE_ok hE hH) rfl rfl hl.1 rfl (lv_room (Nat.le_of_ble_eq_true rfl)) d_Mo_design_379 ⟨Nat.le_of_ble_eq_true rfl, Nat.le_of_ble_eq_true rfl⟩) hLo (fun r97 h98 H99 locs hp101 hH z100 hLo => ?_)
    have hz : s.heap.size ≤ H99.size := Nat.le_trans hz z100
    obtain ⟨rfl, rfl⟩ := hp101
    refine lv_topi (fun v102 e103 => ?_)
    obtain rfl : v102 = 2 := e103.trans (by decide)
    refine lv_iadd hx hb d_Mo_design_382 ?_
    refine lv_iadd hx hb d_Mo_design_383 ?_
    refine lv_topi (fun v104 e105 => ?_)
    obtain rfl : v104 = 4106 := e105.trans (by decide)
    refine lv_istore (lv' := [(4, .int 4106), (9, .int 0), (8, .int 1), (7, .int 1), (6, .int 0), (5, .int 0), (0, .ref mo), (1, .int 0), (2, .int 22), (3, .int nu)]) hx hb d_Mo_design_384 hl (by decide) rfl (fun ls hl => ?_)
    refine lv_aload_n hx hb d_Mo_design_386 rfl (lv_at hl 6 rfl) ?_
    refine lv_iload hx hb d_Mo_design_387 (lv_at hl 4 rfl) ?_
    refine lv_sipush (v := 2048) hx hb d_Mo_design_389 (by decide) ?_
    refine lv_aload_n hx hb d_Mo_design_392 rfl (lv_at hl 6 rfl) ?_
    refine hm_get (ci := 9) (v := .ref aAt) (C := R_Mo) (T := F_Mo) (N := 41) hx hb hts ig_Mo hown hK hH f_m rfl 25 (by decide) (hts _ mw_412) (fun _ h9 => h9) rfl d_Mo_design_393 ?_
    refine lv_iload hx hb d_Mo_design_396 (lv_at hl 4 rfl) ?_
    refine hj_iald hx hb hK hH 2 f_aAt rfl 0 (by decide) (by decide) (by decide) d_Mo_design_398 ?_
    refine lv_topi (fun v106 e107 => ?_)
    obtain rfl : v106 = 20 := e107.trans (hat)
    refine lv_iload_n hx hb d_Mo_design_399 rfl (lv_at hl 7 rfl) ?_
    refine lv_isub hx hb d_Mo_design_400 ?_
    refine lv_bipush (v := 16) hx hb d_Mo_design_401 (by decide) ?_
    refine lv_isub hx hb d_Mo_design_403 ?_
    refine lv_imul hx hb d_Mo_design_404 ?_
    refine lv_iconst (v := 1) hx hb d_Mo_design_405 (by decide) ?_
    refine hm_calli (va_runV (As := [.int 0, .int (2048 * ((20 - 0) - 16)), .int 1]) (b := mo) (rest := []) ⟨hx, hb, hml, hown, hts⟩ (c_m_along1 l D t G ak av h90 mo n aBy aSt aDe aPa aIt aId aPr aNa aSi aSe aIw aEx aOl aPl aTa aAt aLo aS1 aS2 aS3 aS4 aS5 aS6 aO1 aO2 aO3 aO4 aO5 1 wt g94 gId gAt gLo 8192 (2048 * (20 - 0 - 16)) f_m f_aPl f_aId f_aAt f_aLo zId (by decide) (by omega) ne_aId_aAt ne_aId_aLo ne_aAt_aLo) ⟨cw9B 3 hts mw_520 mw_521 mw_428 rfl rfl (by decide +kernel) ⟨Nat.le_of_ble_eq_true rfl, Nat.le_of_ble_eq_true rfl⟩, hts _ mw_522, hts _ mw_523⟩ (hP_V (q := (R_Mo, F_Mo, 41)) kE_ok hE hK hH f_m rfl) rfl rfl hl.1 rfl (lv_room (Nat.le_of_ble_eq_true rfl)) d_Mo_design_406 ⟨Nat.le_of_ble_eq_true rfl, Nat.le_of_ble_eq_true rfl⟩) hLo (fun r108 h109 H110 locs hp112 hH z111 hLo => ?_)
    have hz : s.heap.size ≤ H110.size := Nat.le_trans hz z111
    obtain ⟨hk9, g113, hg9⟩ := hp112
    have f_m : h109 mo = some (.inr (9, [.int 0, .int (nI n), .int 0, .ref aBy, .ref aSt, .ref aDe, .int 0, .int (-1), .int wt, .ref aPa, .int 1, .ref aIt, .ref aId, .ref aPr, .ref aNa, .ref aSi, .ref aSe, .ref aIw, .ref aEx, .ref aOl, .int 0, .ref aPl, .int 1, .int 0, .ref aTa, .ref aAt, .ref aLo, .int 0, .int 0, .ref aS1, .ref aS2, .ref aS3, .ref aS4, .ref aS5, .ref aS6, .int 0, .ref aO1, .ref aO2, .ref aO3, .ref aO4, .ref aO5])) := kp_at hk9 f_m (nmc (Ne.symm (h_neA f_aPl f_m)) nm0)
    have f_aId : h109 aId = some (.inl ((t 1), 700, .inl gId)) := kp_at hk9 f_aId (nmc (h_neL (k1 := 700) (k2 := 163840) f_aId f_aPl rfl rfl (by omega)) nm0)
    have f_aTa : h109 aTa = some (.inl ((t 2), 30, .inl gTa)) := kp_at hk9 f_aTa (nmc (h_neL (k1 := 30) (k2 := 163840) f_aTa f_aPl rfl rfl (by omega)) nm0)
    have f_aAt : h109 aAt = some (.inl ((t 2), 700, .inl gAt)) := kp_at hk9 f_aAt (nmc (h_neL (k1 := 700) (k2 := 163840) f_aAt f_aPl rfl rfl (by omega)) nm0)
    have f_aLo : h109 aLo = some (.inl ((t 2), 700, .inl gLo)) := kp_at hk9 f_aLo (nmc (h_neL (k1 := 700) (k2 := 163840) f_aLo f_aPl rfl rfl (by omega)) nm0)
    have hkp : kp [aPl] h h109 := kp_tr2 hkp hk9 (List.forall_mem_cons.mpr ⟨Or.inl (by simp), List.forall_mem_nil _⟩)
    have f_aPl : h109 aPl = some (.inl ((t 0), 163840, .inl g113)) := hg9
    refine lv_pop hx hb d_Mo_design_409 rfl ?_
    refine lv_iinc (v := 0 + 1) (lv' := [(5, .int (0 + 1)), (4, .int 4106), (9, .int 0), (8, .int 1), (7, .int 1), (6, .int 0), (0, .ref mo), (1, .int 0), (2, .int 22), (3, .int nu)]) hx hb d_Mo_design_410 hl (k := 5) rfl (by rfl) (by decide) rfl (fun ls hl => ?_)
    refine lv_goto (tgt := 158) hx hb d_Mo_design_413 (by decide) ?_
    refine lv_iload hx hb d_Mo_design_158 (lv_at hl 0 rfl) ?_
    refine lv_aload_n hx hb d_Mo_design_160 rfl (lv_at hl 6 rfl) ?_
    refine hm_get (ci := 9) (v := .int 1) (C := R_Mo) (T := F_Mo) (N := 41) hx hb hts ig_Mo hown hK hH f_m rfl 22 (by decide) (hts _ mw_515) (fun _ h9 => h9) rfl d_Mo_design_161 ?_
    refine lv_icmp_ge (tgt := 416) hx hb d_Mo_design_164 (by decide) (fun hc114 => ?_) (fun hc114 => absurd (by decide) hc114)
    refine lv_aload_n hx hb d_Mo_design_416 rfl (lv_at hl 6 rfl) ?_
    refine lv_sipush (v := 132) hx hb d_Mo_design_417 (by decide) ?_
    refine lv_iconst (v := 4) hx hb d_Mo_design_420 (by decide) ?_
    refine lv_iload hx hb d_Mo_design_421 (lv_at hl 1 rfl) ?_
    refine lv_sipush (v := 4096) hx hb d_Mo_design_423 (by decide) ?_
    refine lv_isub hx hb d_Mo_design_426 ?_
    refine hm_callv (va_runV (As := [.int 132, .int 4, .int (4106 - 4096)]) (b := mo) (rest := []) ⟨hx, hb, hml, hown, hts⟩ (c_m_both l D t G ak av h109 mo n aBy aSt aDe aPa aIt aId aPr aNa aSi aSe aIw aEx aOl aPl aTa aAt aLo aS1 aS2 aS3 aS4 aS5 aS6 aO1 aO2 aO3 aO4 aO5 1 wt g113 132 4 132 4 (4106 - 4096) f_m f_aPl (by decide) rfl (by omega)) ⟨cw9B 3 hts mw_503 mw_504 mw_428 rfl rfl (by decide +kernel) ⟨Nat.le_of_ble_eq_true rfl, Nat.le_of_ble_eq_true rfl⟩, hts _ mw_505, hts _ mw_506⟩ (hP_V (q := (R_Mo, F_Mo, 41)) kE_ok hE hK hH f_m rfl) rfl rfl hl.1 rfl (lv_room (Nat.le_of_ble_eq_true rfl)) d_Mo_design_427 ⟨Nat.le_of_ble_eq_true rfl, Nat.le_of_ble_eq_true rfl⟩) hLo (fun h115 H116 locs hp118 hH z117 hLo => ?_)
    have hz : s.heap.size ≤ H116.size := Nat.le_trans hz z117
    obtain ⟨hk9, g119, hg9⟩ := hp118
    have f_m : h115 mo = some (.inr (9, [.int 0, .int (nI n), .int 0, .ref aBy, .ref aSt, .ref aDe, .int 0, .int (-1), .int wt, .ref aPa, .int 1, .ref aIt, .ref aId, .ref aPr, .ref aNa, .ref aSi, .ref aSe, .ref aIw, .ref aEx, .ref aOl, .int 0, .ref aPl, .int 1, .int 0, .ref aTa, .ref aAt, .ref aLo, .int 0, .int 0, .ref aS1, .ref aS2, .ref aS3, .ref aS4, .ref aS5, .ref aS6, .int 0, .ref aO1, .ref aO2, .ref aO3, .ref aO4, .ref aO5])) := kp_at hk9 f_m (nmc (Ne.symm (h_neA f_aPl f_m)) nm0)
    have f_aId : h115 aId = some (.inl ((t 1), 700, .inl gId)) := kp_at hk9 f_aId (nmc (h_neL (k1 := 700) (k2 := 163840) f_aId f_aPl rfl rfl (by omega)) nm0)
    have f_aTa : h115 aTa = some (.inl ((t 2), 30, .inl gTa)) := kp_at hk9 f_aTa (nmc (h_neL (k1 := 30) (k2 := 163840) f_aTa f_aPl rfl rfl (by omega)) nm0)
    have f_aAt : h115 aAt = some (.inl ((t 2), 700, .inl gAt)) := kp_at hk9 f_aAt (nmc (h_neL (k1 := 700) (k2 := 163840) f_aAt f_aPl rfl rfl (by omega)) nm0)
    have f_aLo : h115 aLo = some (.inl ((t 2), 700, .inl gLo)) := kp_at hk9 f_aLo (nmc (h_neL (k1 := 700) (k2 := 163840) f_aLo f_aPl rfl rfl (by omega)) nm0)
    have hkp : kp [aPl] h h115 := kp_tr2 hkp hk9 (List.forall_mem_cons.mpr ⟨Or.inl (by simp), List.forall_mem_nil _⟩)
    have f_aPl : h115 aPl = some (.inl ((t 0), 163840, .inl g119)) := hg9
    refine lv_sipush (v := 2048) hx hb d_Mo_design_430 (by decide) ?_
    refine lv_iload_n hx hb d_Mo_design_433 rfl (lv_at hl 8 rfl) ?_
    refine lv_bipush (v := 17) hx hb d_Mo_design_434 (by decide) ?_
    refine lv_isub hx hb d_Mo_design_436 ?_
    refine lv_imul hx hb d_Mo_design_437 ?_
    refine lv_topi (fun v120 e121 => ?_)
    obtain rfl : v120 = 10240 := e121.trans (by decide)
    refine lv_istore (lv' := [(5, .int 10240), (4, .int 4106), (9, .int 0), (8, .int 1), (7, .int 1), (6, .int 0), (0, .ref mo), (1, .int 0), (2, .int 22), (3, .int nu)]) hx hb d_Mo_design_438 hl (by decide) rfl (fun ls hl => ?_)
    refine lv_aload_n hx hb d_Mo_design_440 rfl (lv_at hl 6 rfl) ?_
    refine lv_iload hx hb d_Mo_design_441 (lv_at hl 0 rfl) ?_
    refine lv_bipush (v := 77) hx hb d_Mo_design_443 (by decide) ?_
    refine lv_bipush (v := 65) hx hb d_Mo_design_445 (by decide) ?_
    refine lv_bipush (v := 82) hx hb d_Mo_design_447 (by decide) ?_
    refine lv_bipush (v := 75) hx hb d_Mo_design_449 (by decide) ?_
    refine lv_iconst (v := 0) hx hb d_Mo_design_451 (by decide) ?_
    refine hm_callv (va_runV (As := [.int 10240, .int 77, .int 65, .int 82, .int 75, .int 0]) (b := mo) (rest := []) ⟨hx, hb, hml, hown, hts⟩ (c_m_letters l D t G ak av h115 mo n aBy aSt aDe aPa aIt aId aPr aNa aSi aSe aIw aEx aOl aPl aTa aAt aLo aS1 aS2 aS3 aS4 aS5 aS6 aO1 aO2 aO3 aO4 aO5 1 wt g119 10240 10240 77 65 82 75 0 f_m f_aPl (by decide) (by omega)) ⟨cw9B 6 hts mw_524 mw_525 mw_428 rfl rfl (by decide +kernel) ⟨Nat.le_of_ble_eq_true rfl, Nat.le_of_ble_eq_true rfl⟩, hts _ mw_526, hts _ mw_527⟩ (hP_V (q := (R_Mo, F_Mo, 41)) kE_ok hE hK hH f_m rfl) rfl rfl hl.1 rfl (lv_room (Nat.le_of_ble_eq_true rfl)) d_Mo_design_452 ⟨Nat.le_of_ble_eq_true rfl, Nat.le_of_ble_eq_true rfl⟩) hLo (fun h122 H123 locs hp125 hH z124 hLo => ?_)
    have hz : s.heap.size ≤ H123.size := Nat.le_trans hz z124
    obtain ⟨hk9, g126, hg9⟩ := hp125
    have f_m : h122 mo = some (.inr (9, [.int 0, .int (nI n), .int 0, .ref aBy, .ref aSt, .ref aDe, .int 0, .int (-1), .int wt, .ref aPa, .int 1, .ref aIt, .ref aId, .ref aPr, .ref aNa, .ref aSi, .ref aSe, .ref aIw, .ref aEx, .ref aOl, .int 0, .ref aPl, .int 1, .int 0, .ref aTa, .ref aAt, .ref aLo, .int 0, .int 0, .ref aS1, .ref aS2, .ref aS3, .ref aS4, .ref aS5, .ref aS6, .int 0, .ref aO1, .ref aO2, .ref aO3, .ref aO4, .ref aO5])) := kp_at hk9 f_m (nmc (Ne.symm (h_neA f_aPl f_m)) nm0)
    have f_aId : h122 aId = some (.inl ((t 1), 700, .inl gId)) := kp_at hk9 f_aId (nmc (h_neL (k1 := 700) (k2 := 163840) f_aId f_aPl rfl rfl (by omega)) nm0)
    have f_aTa : h122 aTa = some (.inl ((t 2), 30, .inl gTa)) := kp_at hk9 f_aTa (nmc (h_neL (k1 := 30) (k2 := 163840) f_aTa f_aPl rfl rfl (by omega)) nm0)
    have f_aAt : h122 aAt = some (.inl ((t 2), 700, .inl gAt)) := kp_at hk9 f_aAt (nmc (h_neL (k1 := 700) (k2 := 163840) f_aAt f_aPl rfl rfl (by omega)) nm0)
    have f_aLo : h122 aLo = some (.inl ((t 2), 700, .inl gLo)) := kp_at hk9 f_aLo (nmc (h_neL (k1 := 700) (k2 := 163840) f_aLo f_aPl rfl rfl (by omega)) nm0)
    have hkp : kp [aPl] h h122 := kp_tr2 hkp hk9 (List.forall_mem_cons.mpr ⟨Or.inl (by simp), List.forall_mem_nil _⟩)
    have f_aPl : h122 aPl = some (.inl ((t 0), 163840, .inl g126)) := hg9
    refine lv_aload_n hx hb d_Mo_design_455 rfl (lv_at hl 6 rfl) ?_
    refine lv_iload hx hb d_Mo_design_456 (lv_at hl 0 rfl) ?_
    refine lv_iconst (v := 4) hx hb d_Mo_design_458 (by decide) ?_
    refine lv_iadd hx hb d_Mo_design_459 ?_
    refine lv_iconst (v := 4) hx hb d_Mo_design_460 (by decide) ?_
    refine lv_iload_n hx hb d_Mo_design_461 rfl (lv_at hl 7 rfl) ?_
    refine hm_callv (va_runV (As := [.int (10240 + 4), .int 4, .int 0]) (b := mo) (rest := []) ⟨hx, hb, hml, hown, hts⟩ (c_m_low l D t G ak av h122 mo n aBy aSt aDe aPa aIt aId aPr aNa aSi aSe aIw aEx aOl aPl aTa aAt aLo aS1 aS2 aS3 aS4 aS5 aS6 aO1 aO2 aO3 aO4 aO5 1 wt g126 10244 4 (10240 + 4) 4 0 f_m f_aPl (by decide) rfl (by omega)) ⟨cw9B 3 hts mw_488 mw_489 mw_428 rfl rfl (by decide +kernel) ⟨Nat.le_of_ble_eq_true rfl, Nat.le_of_ble_eq_true rfl⟩, hts _ mw_490, hts _ mw_491⟩ (hP_V (q := (R_Mo, F_Mo, 41)) kE_ok hE hK hH f_m rfl) rfl rfl hl.1 rfl (lv_room (Nat.le_of_ble_eq_true rfl)) d_Mo_design_462 ⟨Nat.le_of_ble_eq_true rfl, Nat.le_of_ble_eq_true rfl⟩) hLo (fun h127 H128 locs hp130 hH z129 hLo => ?_)
    have hz : s.heap.size ≤ H128.size := Nat.le_trans hz z129
    obtain ⟨hk9, g131, hg9⟩ := hp130
    have f_m : h127 mo = some (.inr (9, [.int 0, .int (nI n), .int 0, .ref aBy, .ref aSt, .ref aDe, .int 0, .int (-1), .int wt, .ref aPa, .int 1, .ref aIt, .ref aId, .ref aPr, .ref aNa, .ref aSi, .ref aSe, .ref aIw, .ref aEx, .ref aOl, .int 0, .ref aPl, .int 1, .int 0, .ref aTa, .ref aAt, .ref aLo, .int 0, .int 0, .ref aS1, .ref aS2, .ref aS3, .ref aS4, .ref aS5, .ref aS6, .int 0, .ref aO1, .ref aO2, .ref aO3, .ref aO4, .ref aO5])) := kp_at hk9 f_m (nmc (Ne.symm (h_neA f_aPl f_m)) nm0)
    have f_aId : h127 aId = some (.inl ((t 1), 700, .inl gId)) := kp_at hk9 f_aId (nmc (h_neL (k1 := 700) (k2 := 163840) f_aId f_aPl rfl rfl (by omega)) nm0)
    have f_aTa : h127 aTa = some (.inl ((t 2), 30, .inl gTa)) := kp_at hk9 f_aTa (nmc (h_neL (k1 := 30) (k2 := 163840) f_aTa f_aPl rfl rfl (by omega)) nm0)
    have f_aAt : h127 aAt = some (.inl ((t 2), 700, .inl gAt)) := kp_at hk9 f_aAt (nmc (h_neL (k1 := 700) (k2 := 163840) f_aAt f_aPl rfl rfl (by omega)) nm0)
    have f_aLo : h127 aLo = some (.inl ((t 2), 700, .inl gLo)) := kp_at hk9 f_aLo (nmc (h_neL (k1 := 700) (k2 := 163840) f_aLo f_aPl rfl rfl (by omega)) nm0)
    have hkp : kp [aPl] h h127 := kp_tr2 hkp hk9 (List.forall_mem_cons.mpr ⟨Or.inl (by simp), List.forall_mem_nil _⟩)
    have f_aPl : h127 aPl = some (.inl ((t 0), 163840, .inl g131)) := hg9
    refine lv_aload_n hx hb d_Mo_design_465 rfl (lv_at hl 6 rfl) ?_
    refine lv_iload hx hb d_Mo_design_466 (lv_at hl 0 rfl) ?_
    refine lv_bipush (v := 8) hx hb d_Mo_design_468 (by decide) ?_
    refine lv_iadd hx hb d_Mo_design_470 ?_
    refine lv_iconst (v := 4) hx hb d_Mo_design_471 (by decide) ?_
    refine lv_iload_n hx hb d_Mo_design_472 rfl (lv_at hl 9 rfl) ?_
    refine hm_callv (va_runV (As := [.int (10240 + 8), .int 4, .int nu]) (b := mo) (rest := []) ⟨hx, hb, hml, hown, hts⟩ (c_m_low l D t G ak av h127 mo n aBy aSt aDe aPa aIt aId aPr aNa aSi aSe aIw aEx aOl aPl aTa aAt aLo aS1 aS2 aS3 aS4 aS5 aS6 aO1 aO2 aO3 aO4 aO5 1 wt g131 10248 4 (10240 + 8) 4 nu f_m f_aPl (by decide) rfl (by omega)) ⟨cw9B 3 hts mw_488 mw_489 mw_428 rfl rfl (by decide +kernel) ⟨Nat.le_of_ble_eq_true rfl, Nat.le_of_ble_eq_true rfl⟩, hts _ mw_490, hts _ mw_491⟩ (hP_V (q := (R_Mo, F_Mo, 41)) kE_ok hE hK hH f_m rfl) rfl rfl hl.1 rfl (lv_room (Nat.le_of_ble_eq_true rfl)) d_Mo_design_473 ⟨Nat.le_of_ble_eq_true rfl, Nat.le_of_ble_eq_true rfl⟩) hLo (fun h132 H133 locs hp135 hH z134 hLo => ?_)
    have hz : s.heap.size ≤ H133.size := Nat.le_trans hz z134
    obtain ⟨hk9, g136, hg9⟩ := hp135
    have f_m : h132 mo = some (.inr (9, [.int 0, .int (nI n), .int 0, .ref aBy, .ref aSt, .ref aDe, .int 0, .int (-1), .int wt, .ref aPa, .int 1, .ref aIt, .ref aId, .ref aPr, .ref aNa, .ref aSi, .ref aSe, .ref aIw, .ref aEx, .ref aOl, .int 0, .ref aPl, .int 1, .int 0, .ref aTa, .ref aAt, .ref aLo, .int 0, .int 0, .ref aS1, .ref aS2, .ref aS3, .ref aS4, .ref aS5, .ref aS6, .int 0, .ref aO1, .ref aO2, .ref aO3, .ref aO4, .ref aO5])) := kp_at hk9 f_m (nmc (Ne.symm (h_neA f_aPl f_m)) nm0)
    have f_aId : h132 aId = some (.inl ((t 1), 700, .inl gId)) := kp_at hk9 f_aId (nmc (h_neL (k1 := 700) (k2 := 163840) f_aId f_aPl rfl rfl (by omega)) nm0)
    have f_aTa : h132 aTa = some (.inl ((t 2), 30, .inl gTa)) := kp_at hk9 f_aTa (nmc (h_neL (k1 := 30) (k2 := 163840) f_aTa f_aPl rfl rfl (by omega)) nm0)
    have f_aAt : h132 aAt = some (.inl ((t 2), 700, .inl gAt)) := kp_at hk9 f_aAt (nmc (h_neL (k1 := 700) (k2 := 163840) f_aAt f_aPl rfl rfl (by omega)) nm0)
    have f_aLo : h132 aLo = some (.inl ((t 2), 700, .inl gLo)) := kp_at hk9 f_aLo (nmc (h_neL (k1 := 700) (k2 := 163840) f_aLo f_aPl rfl rfl (by omega)) nm0)
    have hkp : kp [aPl] h h132 := kp_tr2 hkp hk9 (List.forall_mem_cons.mpr ⟨Or.inl (by simp), List.forall_mem_nil _⟩)
    have f_aPl : h132 aPl = some (.inl ((t 0), 163840, .inl g136)) := hg9
    exact W.vret hx hb hr (fun t9 ht hW => ⟨h132, rfl, ⟨hkp, _, f_aPl⟩, by rw [ht]; exact hH, by rw [ht]; exact hz⟩) hLo d_Mo_design_476
  · skip
    have hk1 : k9 < 12288 := (nI_ltI (by omega) (by omega)).mp (Int32.not_le.mp hc5)
    refine lv_aload_n hx hb d_Mo_design_16 rfl (lv_at hl 1 rfl) ?_
    refine hm_get (ci := 9) (v := .ref aPl) (C := R_Mo) (T := F_Mo) (N := 41) hx hb hts ig_Mo hown hK hH f_m rfl 21 (by decide) (hts _ mw_410) (fun _ h9 => h9) rfl d_Mo_design_17 ?_
    refine lv_iload hx hb d_Mo_design_20 (lv_at hl 0 rfl) ?_
    refine lv_iconst (v := 0) hx hb d_Mo_design_22 (by decide) ?_
    refine hj_bast hx hb hK hH hLo 0 f_aPl rfl k9 rfl (by omega) (by decide) d_Mo_design_23 (fun H137 locs hH z138 hLo => ?_)
    have hz : s.heap.size ≤ H137.size := by rw [z138]; exact hz
    obtain ⟨h139, e140⟩ : ∃ z, z = hu hh aPl (.inl ((t 0), 163840, .inl (upd g9 k9 (vp_nar .byte 0)))) := ⟨_, rfl⟩
    have hH : hm D vwCl G h139 H137 := by rw [e140]; exact hH
    have f_m : h139 mo = some (.inr (9, [.int 0, .int (nI n), .int 0, .ref aBy, .ref aSt, .ref aDe, .int 0, .int (-1), .int wt, .ref aPa, .int 1, .ref aIt, .ref aId, .ref aPr, .ref aNa, .ref aSi, .ref aSe, .ref aIw, .ref aEx, .ref aOl, .int 0, .ref aPl, .int 1, .int 0, .ref aTa, .ref aAt, .ref aLo, .int 0, .int 0, .ref aS1, .ref aS2, .ref aS3, .ref aS4, .ref aS5, .ref aS6, .int 0, .ref aO1, .ref aO2, .ref aO3, .ref aO4, .ref aO5])) := by rw [e140, hu_n (Ne.symm (h_neA f_aPl f_m))]; exact f_m
    have f_aId : h139 aId = some (.inl ((t 1), 700, .inl gId)) := by rw [e140, hu_n (h_neL (k1 := 700) (k2 := 163840) f_aId f_aPl rfl rfl (by omega))]; exact f_aId
    have f_aTa : h139 aTa = some (.inl ((t 2), 30, .inl gTa)) := by rw [e140, hu_n (h_neL (k1 := 30) (k2 := 163840) f_aTa f_aPl rfl rfl (by omega))]; exact f_aTa
    have f_aAt : h139 aAt = some (.inl ((t 2), 700, .inl gAt)) := by rw [e140, hu_n (h_neL (k1 := 700) (k2 := 163840) f_aAt f_aPl rfl rfl (by omega))]; exact f_aAt
    have f_aLo : h139 aLo = some (.inl ((t 2), 700, .inl gLo)) := by rw [e140, hu_n (h_neL (k1 := 700) (k2 := 163840) f_aLo f_aPl rfl rfl (by omega))]; exact f_aLo
    have f_aPl : h139 aPl = some (.inl ((t 0), 163840, .inl (upd g9 k9 (vp_nar .byte 0)))) := by rw [e140]; exact hu_s _ _ _
    have hkp : kp [aPl] h h139 := by rw [e140]; exact kp_put hkp (by simp)
    refine lv_iinc (v := nI (k9 + 1)) (lv' := [(4, .int (nI (k9 + 1))), (0, .ref mo), (1, .int 0), (2, .int 22), (3, .int nu)]) hx hb d_Mo_design_24 hl (k := 0) rfl (nI_1 k9) (by decide) rfl (fun ls hl => ?_)
    refine lv_goto (tgt := 3) hx hb d_Mo_design_27 (by decide) ?_
    exact ih (12288 - (k9 + 1)) ls _ locs _ (by rw [hk]; omega) ⟨(k9 + 1), _, rfl, (lv_sub hl [0, 1, 2, 3, 4] rfl), hH, hz, hLo, hkp, f_m, f_aPl, f_aId, f_aTa, f_aAt, f_aLo, by omega⟩
