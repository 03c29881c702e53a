set_option maxRecDepth 100000 in
theorem mw_191 : Cond.code y_Pg_fillWithPathTable b_Pg_fillWithPathTable 7 (some .int) ∈ lw_g := lw_gin (List.mem_append_right _ (List.mem_of_getElem? (i := 532) rfl)) (by decide +kernel)
set_option maxRecDepth 100000 in
theorem mw_192 : Cond.methodLink R_Wr 121 y_Pg_fillWithPathTable ∈ lw_g := lw_gin (List.mem_append_right _ (List.mem_of_getElem? (i := 529) rfl)) (by decide +kernel)
set_option maxRecDepth 100000 in
theorem mw_193 : Cond.instanceMethod y_Pg_fillWithPathTable ∈ lw_g := lw_gin (List.mem_append_right _ (List.mem_of_getElem? (i := 530) rfl)) (by decide +kernel)
set_option maxRecDepth 100000 in
theorem mw_194 : Cond.selects R_Pg y_Pg_fillWithPathTable y_Pg_fillWithPathTable ∈ lw_g := lw_gin (List.mem_append_right _ (List.mem_of_getElem? (i := 531) rfl)) (by decide +kernel)
set_option maxRecDepth 100000 in
theorem mw_195 : Cond.fieldLink R_Wr 33 "WriteOnceDisc$Nodes" "slots" "[LWriteOnceDisc$Node;" ∈ lw_g := lw_gin (List.mem_append_right _ (List.mem_of_getElem? (i := 180) rfl)) (by decide +kernel)
set_option maxRecDepth 100000 in
theorem mw_196 : Cond.code y_Pg_fillWithDescriptor b_Pg_fillWithDescriptor 5 none ∈ lw_g := lw_gin (List.mem_append_right _ (List.mem_of_getElem? (i := 557) rfl)) (by decide +kernel)
set_option maxRecDepth 100000 in
theorem mw_197 : Cond.methodLink R_Wr 125 y_Pg_fillWithDescriptor ∈ lw_g := lw_gin (List.mem_append_right _ (List.mem_of_getElem? (i := 554) rfl)) (by decide +kernel)
set_option maxRecDepth 100000 in
theorem mw_198 : Cond.instanceMethod y_Pg_fillWithDescriptor ∈ lw_g := lw_gin (List.mem_append_right _ (List.mem_of_getElem? (i := 555) rfl)) (by decide +kernel)
set_option maxRecDepth 100000 in
theorem mw_199 : Cond.selects R_Pg y_Pg_fillWithDescriptor y_Pg_fillWithDescriptor ∈ lw_g := lw_gin (List.mem_append_right _ (List.mem_of_getElem? (i := 556) rfl)) (by decide +kernel)
set_option maxRecDepth 100000 in
theorem mw_200 : Cond.fieldLink R_Wr 88 "WriteOnceDisc$Page" "bytes" "[B" ∈ lw_g := lw_gin (List.mem_append_right _ (List.mem_of_getElem? (i := 62) rfl)) (by decide +kernel)
set_option maxRecDepth 100000 in
theorem mw_201 : Cond.code y_Me_write b_Me_write 6 (some .int) ∈ lw_g := lw_gin (List.mem_append_right _ (List.mem_of_getElem? (i := 432) rfl)) (by decide +kernel)
set_option maxRecDepth 100000 in
theorem mw_202 : Cond.methodLink R_Wr 92 y_Me_write ∈ lw_g := lw_gin (List.mem_append_right _ (List.mem_of_getElem? (i := 429) rfl)) (by decide +kernel)
set_option maxRecDepth 100000 in
theorem mw_203 : Cond.instanceMethod y_Me_write ∈ lw_g := lw_gin (List.mem_append_right _ (List.mem_of_getElem? (i := 430) rfl)) (by decide +kernel)
set_option maxRecDepth 100000 in
theorem mw_204 : Cond.selects R_Me y_Me_write y_Me_write ∈ lw_g := lw_gin (List.mem_append_right _ (List.mem_of_getElem? (i := 431) rfl)) (by decide +kernel)
set_option maxRecDepth 100000 in
theorem mw_205 : Cond.methodLink R_Wr 129 y_Pg_fillWithStandard ∈ lw_g := lw_gin (List.mem_append_right _ (List.mem_of_getElem? (i := 577) rfl)) (by decide +kernel)
set_option maxRecDepth 100000 in
theorem mw_206 : Cond.code y_Pg_fillWithDirectory b_Pg_fillWithDirectory 6 none ∈ lw_g := lw_gin (List.mem_append_right _ (List.mem_of_getElem? (i := 585) rfl)) (by decide +kernel)
set_option maxRecDepth 100000 in
theorem mw_207 : Cond.methodLink R_Wr 132 y_Pg_fillWithDirectory ∈ lw_g := lw_gin (List.mem_append_right _ (List.mem_of_getElem? (i := 582) rfl)) (by decide +kernel)
set_option maxRecDepth 100000 in
theorem mw_208 : Cond.instanceMethod y_Pg_fillWithDirectory ∈ lw_g := lw_gin (List.mem_append_right _ (List.mem_of_getElem? (i := 583) rfl)) (by decide +kernel)
set_option maxRecDepth 100000 in
theorem mw_209 : Cond.selects R_Pg y_Pg_fillWithDirectory y_Pg_fillWithDirectory ∈ lw_g := lw_gin (List.mem_append_right _ (List.mem_of_getElem? (i := 584) rfl)) (by decide +kernel)
set_option maxRecDepth 100000 in
theorem mw_210 : Cond.code y_Pg_fillWithMark b_Pg_fillWithMark 3 none ∈ lw_g := lw_gin (List.mem_append_right _ (List.mem_of_getElem? (i := 593) rfl)) (by decide +kernel)
set_option maxRecDepth 100000 in
theorem mw_211 : Cond.methodLink R_Wr 136 y_Pg_fillWithMark ∈ lw_g := lw_gin (List.mem_append_right _ (List.mem_of_getElem? (i := 590) rfl)) (by decide +kernel)
set_option maxRecDepth 100000 in
theorem mw_212 : Cond.instanceMethod y_Pg_fillWithMark ∈ lw_g := lw_gin (List.mem_append_right _ (List.mem_of_getElem? (i := 591) rfl)) (by decide +kernel)
set_option maxRecDepth 100000 in
theorem mw_213 : Cond.selects R_Pg y_Pg_fillWithMark y_Pg_fillWithMark ∈ lw_g := lw_gin (List.mem_append_right _ (List.mem_of_getElem? (i := 592) rfl)) (by decide +kernel)
set_option maxRecDepth 100000 in
theorem mw_214 : Cond.fieldLink R_Wr 73 "WriteOnceDisc$Medium" "front" "I" ∈ lw_g := lw_gin (List.mem_append_right _ (List.mem_of_getElem? (i := 229) rfl)) (by decide +kernel)
set_option maxRecDepth 100000 in
theorem mw_215 : Cond.code y_Ns_putInOrder b_Ns_putInOrder 3 none ∈ lw_g := lw_gin (List.mem_append_right _ (List.mem_of_getElem? (i := 455) rfl)) (by decide +kernel)
set_option maxRecDepth 100000 in
theorem mw_216 : Cond.methodLink R_Wr 96 y_Ns_putInOrder ∈ lw_g := lw_gin (List.mem_append_right _ (List.mem_of_getElem? (i := 452) rfl)) (by decide +kernel)
set_option maxRecDepth 100000 in
theorem mw_217 : Cond.instanceMethod y_Ns_putInOrder ∈ lw_g := lw_gin (List.mem_append_right _ (List.mem_of_getElem? (i := 453) rfl)) (by decide +kernel)
set_option maxRecDepth 100000 in
theorem mw_218 : Cond.selects R_Ns y_Ns_putInOrder y_Ns_putInOrder ∈ lw_g := lw_gin (List.mem_append_right _ (List.mem_of_getElem? (i := 454) rfl)) (by decide +kernel)
set_option maxRecDepth 100000 in
theorem mw_219 : Cond.fieldLink R_Wr 67 "WriteOnceDisc$Medium" "sectors" "[LWriteOnceDisc$Sector;" ∈ lw_g := lw_gin (List.mem_append_right _ (List.mem_of_getElem? (i := 225) rfl)) (by decide +kernel)
set_option maxRecDepth 100000 in
theorem mw_220 : Cond.code y_Wr_placeDirectories b_Wr_placeDirectories 5 (some .int) ∈ lw_g := lw_gin (List.mem_append_right _ (List.mem_of_getElem? (i := 524) rfl)) (by decide +kernel)
set_option maxRecDepth 100000 in
theorem mw_221 : Cond.initialized R_Wr ∈ lw_g := lw_gin (List.mem_append_right _ (List.mem_of_getElem? (i := 2) rfl)) (by decide +kernel)
set_option maxRecDepth 100000 in
theorem mw_222 : Cond.methodLink R_Wr 99 y_Wr_placeDirectories ∈ lw_g := lw_gin (List.mem_append_right _ (List.mem_of_getElem? (i := 521) rfl)) (by decide +kernel)
set_option maxRecDepth 100000 in
theorem mw_223 : Cond.instanceMethod y_Wr_placeDirectories ∈ lw_g := lw_gin (List.mem_append_right _ (List.mem_of_getElem? (i := 523) rfl)) (by decide +kernel)
set_option maxRecDepth 100000 in
theorem mw_224 : Cond.selects R_Wr y_Wr_placeDirectories y_Wr_placeDirectories ∈ lw_g := lw_gin (List.mem_append_left _ (List.mem_of_getElem? (i := 4) rfl)) (by decide +kernel)
set_option maxRecDepth 100000 in
theorem mw_225 : Cond.code y_Me_hasRoom b_Me_hasRoom 3 (some .boolean) ∈ lw_g := lw_gin (List.mem_append_right _ (List.mem_of_getElem? (i := 391) rfl)) (by decide +kernel)
set_option maxRecDepth 100000 in
theorem mw_226 : Cond.methodLink R_Wr 76 y_Me_hasRoom ∈ lw_g := lw_gin (List.mem_append_right _ (List.mem_of_getElem? (i := 388) rfl)) (by decide +kernel)
set_option maxRecDepth 100000 in
theorem mw_227 : Cond.instanceMethod y_Me_hasRoom ∈ lw_g := lw_gin (List.mem_append_right _ (List.mem_of_getElem? (i := 389) rfl)) (by decide +kernel)
set_option maxRecDepth 100000 in
theorem mw_228 : Cond.selects R_Me y_Me_hasRoom y_Me_hasRoom ∈ lw_g := lw_gin (List.mem_append_right _ (List.mem_of_getElem? (i := 390) rfl)) (by decide +kernel)
set_option maxRecDepth 100000 in
theorem mw_229 : Cond.code y_Wr_writeHead b_Wr_writeHead 7 (some .int) ∈ lw_g := lw_gin (List.mem_append_right _ (List.mem_of_getElem? (i := 528) rfl)) (by decide +kernel)
set_option maxRecDepth 100000 in
theorem mw_230 : Cond.methodLink R_Wr 103 y_Wr_writeHead ∈ lw_g := lw_gin (List.mem_append_right _ (List.mem_of_getElem? (i := 525) rfl)) (by decide +kernel)
set_option maxRecDepth 100000 in
theorem mw_231 : Cond.instanceMethod y_Wr_writeHead ∈ lw_g := lw_gin (List.mem_append_right _ (List.mem_of_getElem? (i := 527) rfl)) (by decide +kernel)
set_option maxRecDepth 100000 in
theorem mw_232 : Cond.selects R_Wr y_Wr_writeHead y_Wr_writeHead ∈ lw_g := lw_gin (List.mem_append_left _ (List.mem_of_getElem? (i := 5) rfl)) (by decide +kernel)
set_option maxRecDepth 100000 in
theorem mw_233 : Cond.code y_Wr_writeDirectories b_Wr_writeDirectories 5 (some .int) ∈ lw_g := lw_gin (List.mem_append_right _ (List.mem_of_getElem? (i := 581) rfl)) (by decide +kernel)
set_option maxRecDepth 100000 in
theorem mw_234 : Cond.methodLink R_Wr 107 y_Wr_writeDirectories ∈ lw_g := lw_gin (List.mem_append_right _ (List.mem_of_getElem? (i := 578) rfl)) (by decide +kernel)
set_option maxRecDepth 100000 in
theorem mw_235 : Cond.instanceMethod y_Wr_writeDirectories ∈ lw_g := lw_gin (List.mem_append_right _ (List.mem_of_getElem? (i := 580) rfl)) (by decide +kernel)
set_option maxRecDepth 100000 in
theorem mw_236 : Cond.selects R_Wr y_Wr_writeDirectories y_Wr_writeDirectories ∈ lw_g := lw_gin (List.mem_append_left _ (List.mem_of_getElem? (i := 9) rfl)) (by decide +kernel)
set_option maxRecDepth 100000 in
theorem mw_237 : Cond.code y_Wr_writeMark b_Wr_writeMark 4 (some .int) ∈ lw_g := lw_gin (List.mem_append_right _ (List.mem_of_getElem? (i := 589) rfl)) (by decide +kernel)
set_option maxRecDepth 100000 in
theorem mw_238 : Cond.methodLink R_Wr 111 y_Wr_writeMark ∈ lw_g := lw_gin (List.mem_append_right _ (List.mem_of_getElem? (i := 586) rfl)) (by decide +kernel)
set_option maxRecDepth 100000 in
theorem mw_239 : Cond.instanceMethod y_Wr_writeMark ∈ lw_g := lw_gin (List.mem_append_right _ (List.mem_of_getElem? (i := 588) rfl)) (by decide +kernel)
set_option maxRecDepth 100000 in
theorem mw_240 : Cond.selects R_Wr y_Wr_writeMark y_Wr_writeMark ∈ lw_g := lw_gin (List.mem_append_left _ (List.mem_of_getElem? (i := 10) rfl)) (by decide +kernel)
theorem d_Wr_writeHead_0 : decode b_Wr_writeHead 0 = .ok (.aload_n 0, 1) := by decide +kernel
theorem d_Wr_writeHead_1 : decode b_Wr_writeHead 1 = .ok (.getfield 23, 3) := by decide +kernel
theorem d_Wr_writeHead_4 : decode b_Wr_writeHead 4 = .ok (.aload_n 1, 1) := by decide +kernel
theorem d_Wr_writeHead_5 : decode b_Wr_writeHead 5 = .ok (.getfield 115, 3) := by decide +kernel
theorem d_Wr_writeHead_8 : decode b_Wr_writeHead 8 = .ok (.aload_n 1, 1) := by decide +kernel
theorem d_Wr_writeHead_9 : decode b_Wr_writeHead 9 = .ok (.getfield 27, 3) := by decide +kernel
theorem d_Wr_writeHead_12 : decode b_Wr_writeHead 12 = .ok (.iconst 1, 1) := by decide +kernel
theorem d_Wr_writeHead_13 : decode b_Wr_writeHead 13 = .ok (.invokevirtual 121, 3) := by decide +kernel
theorem d_Wr_writeHead_16 : decode b_Wr_writeHead 16 = .ok (.istore 4, 2) := by decide +kernel
theorem d_Wr_writeHead_18 : decode b_Wr_writeHead 18 = .ok (.iconst 1, 1) := by decide +kernel
theorem d_Wr_writeHead_19 : decode b_Wr_writeHead 19 = .ok (.istore 5, 2) := by decide +kernel
theorem d_Wr_writeHead_21 : decode b_Wr_writeHead 21 = .ok (.bipush 16, 2) := by decide +kernel
theorem d_Wr_writeHead_23 : decode b_Wr_writeHead 23 = .ok (.istore 6, 2) := by decide +kernel
theorem d_Wr_writeHead_25 : decode b_Wr_writeHead 25 = .ok (.iload 6, 2) := by decide +kernel
theorem d_Wr_writeHead_27 : decode b_Wr_writeHead 27 = .ok (.bipush 19, 2) := by decide +kernel
theorem d_Wr_writeHead_29 : decode b_Wr_writeHead 29 = .ok (.if_icmp .gt 127, 3) := by decide +kernel
theorem d_Wr_writeHead_32 : decode b_Wr_writeHead 32 = .ok (.iload 5, 2) := by decide +kernel
theorem d_Wr_writeHead_34 : decode b_Wr_writeHead 34 = .ok (.iconst 1, 1) := by decide +kernel
theorem d_Wr_writeHead_35 : decode b_Wr_writeHead 35 = .ok (.if_icmp .ne 121, 3) := by decide +kernel
theorem d_Wr_writeHead_38 : decode b_Wr_writeHead 38 = .ok (.iload 6, 2) := by decide +kernel
theorem d_Wr_writeHead_40 : decode b_Wr_writeHead 40 = .ok (.lookupswitch 61 #[(16, 28), (17, 48)], 28) := by decide +kernel
theorem d_Wr_writeHead_68 : decode b_Wr_writeHead 68 = .ok (.aload_n 0, 1) := by decide +kernel
theorem d_Wr_writeHead_69 : decode b_Wr_writeHead 69 = .ok (.getfield 23, 3) := by decide +kernel
theorem d_Wr_writeHead_72 : decode b_Wr_writeHead 72 = .ok (.aload_n 2, 1) := by decide +kernel
theorem d_Wr_writeHead_73 : decode b_Wr_writeHead 73 = .ok (.iload_n 3, 1) := by decide +kernel
theorem d_Wr_writeHead_74 : decode b_Wr_writeHead 74 = .ok (.iload 4, 2) := by decide +kernel
theorem d_Wr_writeHead_76 : decode b_Wr_writeHead 76 = .ok (.aload_n 1, 1) := by decide +kernel
theorem d_Wr_writeHead_77 : decode b_Wr_writeHead 77 = .ok (.getfield 33, 3) := by decide +kernel
theorem d_Wr_writeHead_80 : decode b_Wr_writeHead 80 = .ok (.iconst 0, 1) := by decide +kernel
theorem d_Wr_writeHead_81 : decode b_Wr_writeHead 81 = .ok (.aaload, 1) := by decide +kernel
theorem d_Wr_writeHead_82 : decode b_Wr_writeHead 82 = .ok (.invokevirtual 125, 3) := by decide +kernel
theorem d_Wr_writeHead_85 : decode b_Wr_writeHead 85 = .ok (.goto 44, 3) := by decide +kernel
theorem d_Wr_writeHead_129 : decode b_Wr_writeHead 129 = .ok (.aload_n 2, 1) := by decide +kernel
theorem d_Wr_writeHead_130 : decode b_Wr_writeHead 130 = .ok (.iload_n 3, 1) := by decide +kernel
theorem d_Wr_writeHead_131 : decode b_Wr_writeHead 131 = .ok (.iload 6, 2) := by decide +kernel
theorem d_Wr_writeHead_133 : decode b_Wr_writeHead 133 = .ok (.iadd, 1) := by decide +kernel
theorem d_Wr_writeHead_134 : decode b_Wr_writeHead 134 = .ok (.aload_n 0, 1) := by decide +kernel
theorem d_Wr_writeHead_135 : decode b_Wr_writeHead 135 = .ok (.getfield 23, 3) := by decide +kernel
theorem d_Wr_writeHead_138 : decode b_Wr_writeHead 138 = .ok (.getfield 88, 3) := by decide +kernel
theorem d_Wr_writeHead_141 : decode b_Wr_writeHead 141 = .ok (.aload_n 0, 1) := by decide +kernel
theorem d_Wr_writeHead_142 : decode b_Wr_writeHead 142 = .ok (.getfield 12, 3) := by decide +kernel
theorem d_Wr_writeHead_145 : decode b_Wr_writeHead 145 = .ok (.invokevirtual 92, 3) := by decide +kernel
theorem d_Wr_writeHead_148 : decode b_Wr_writeHead 148 = .ok (.istore 5, 2) := by decide +kernel
theorem d_Wr_writeHead_150 : decode b_Wr_writeHead 150 = .ok (.iinc 6 1, 3) := by decide +kernel
theorem d_Wr_writeHead_153 : decode b_Wr_writeHead 153 = .ok (.goto (-128), 3) := by decide +kernel
theorem d_Wr_writeHead_88 : decode b_Wr_writeHead 88 = .ok (.aload_n 0, 1) := by decide +kernel
theorem d_Wr_writeHead_89 : decode b_Wr_writeHead 89 = .ok (.getfield 23, 3) := by decide +kernel
theorem d_Wr_writeHead_92 : decode b_Wr_writeHead 92 = .ok (.sipush 255, 3) := by decide +kernel
theorem d_Wr_writeHead_95 : decode b_Wr_writeHead 95 = .ok (.invokevirtual 129, 3) := by decide +kernel
theorem d_Wr_writeHead_98 : decode b_Wr_writeHead 98 = .ok (.goto 31, 3) := by decide +kernel
theorem d_Wr_writeHead_101 : decode b_Wr_writeHead 101 = .ok (.aload_n 0, 1) := by decide +kernel
theorem d_Wr_writeHead_102 : decode b_Wr_writeHead 102 = .ok (.getfield 23, 3) := by decide +kernel
theorem d_Wr_writeHead_105 : decode b_Wr_writeHead 105 = .ok (.aload_n 1, 1) := by decide +kernel
theorem d_Wr_writeHead_106 : decode b_Wr_writeHead 106 = .ok (.getfield 115, 3) := by decide +kernel
theorem d_Wr_writeHead_109 : decode b_Wr_writeHead 109 = .ok (.aload_n 1, 1) := by decide +kernel
theorem d_Wr_writeHead_110 : decode b_Wr_writeHead 110 = .ok (.getfield 27, 3) := by decide +kernel
theorem d_Wr_writeHead_113 : decode b_Wr_writeHead 113 = .ok (.iload 6, 2) := by decide +kernel
theorem d_Wr_writeHead_115 : decode b_Wr_writeHead 115 = .ok (.bipush 18, 2) := by decide +kernel
theorem d_Wr_writeHead_117 : decode b_Wr_writeHead 117 = .ok (.if_icmp .ne 7, 3) := by decide +kernel
theorem d_Wr_writeHead_120 : decode b_Wr_writeHead 120 = .ok (.iconst 1, 1) := by decide +kernel
theorem d_Wr_writeHead_121 : decode b_Wr_writeHead 121 = .ok (.goto 4, 3) := by decide +kernel
theorem d_Wr_writeHead_125 : decode b_Wr_writeHead 125 = .ok (.invokevirtual 121, 3) := by decide +kernel
theorem d_Wr_writeHead_128 : decode b_Wr_writeHead 128 = .ok (.pop, 1) := by decide +kernel
theorem d_Wr_writeHead_124 : decode b_Wr_writeHead 124 = .ok (.iconst 0, 1) := by decide +kernel
theorem d_Wr_writeHead_156 : decode b_Wr_writeHead 156 = .ok (.iload 5, 2) := by decide +kernel
theorem d_Wr_writeHead_158 : decode b_Wr_writeHead 158 = .ok (.ireturn, 1) := by decide +kernel
theorem d_Wr_writeDirectories_0 : decode b_Wr_writeDirectories 0 = .ok (.iconst 1, 1) := by decide +kernel
theorem d_Wr_writeDirectories_1 : decode b_Wr_writeDirectories 1 = .ok (.istore_n 3, 1) := by decide +kernel
theorem d_Wr_writeDirectories_2 : decode b_Wr_writeDirectories 2 = .ok (.iconst 0, 1) := by decide +kernel
theorem d_Wr_writeDirectories_3 : decode b_Wr_writeDirectories 3 = .ok (.istore 4, 2) := by decide +kernel
theorem d_Wr_writeDirectories_5 : decode b_Wr_writeDirectories 5 = .ok (.iload 4, 2) := by decide +kernel
theorem d_Wr_writeDirectories_7 : decode b_Wr_writeDirectories 7 = .ok (.aload_n 1, 1) := by decide +kernel
theorem d_Wr_writeDirectories_8 : decode b_Wr_writeDirectories 8 = .ok (.getfield 27, 3) := by decide +kernel
theorem d_Wr_writeDirectories_11 : decode b_Wr_writeDirectories 11 = .ok (.if_icmp .ge 75, 3) := by decide +kernel
theorem d_Wr_writeDirectories_14 : decode b_Wr_writeDirectories 14 = .ok (.iload_n 3, 1) := by decide +kernel
theorem d_Wr_writeDirectories_15 : decode b_Wr_writeDirectories 15 = .ok (.iconst 1, 1) := by decide +kernel
theorem d_Wr_writeDirectories_16 : decode b_Wr_writeDirectories 16 = .ok (.if_icmp .ne 70, 3) := by decide +kernel
theorem d_Wr_writeDirectories_19 : decode b_Wr_writeDirectories 19 = .ok (.aload_n 1, 1) := by decide +kernel
theorem d_Wr_writeDirectories_20 : decode b_Wr_writeDirectories 20 = .ok (.getfield 115, 3) := by decide +kernel
theorem d_Wr_writeDirectories_23 : decode b_Wr_writeDirectories 23 = .ok (.iload 4, 2) := by decide +kernel
theorem d_Wr_writeDirectories_25 : decode b_Wr_writeDirectories 25 = .ok (.aaload, 1) := by decide +kernel
theorem d_Wr_writeDirectories_26 : decode b_Wr_writeDirectories 26 = .ok (.getfield 118, 3) := by decide +kernel
theorem d_Wr_writeDirectories_29 : decode b_Wr_writeDirectories 29 = .ok (.ifCond .eq 51, 3) := by decide +kernel
theorem d_Wr_writeDirectories_32 : decode b_Wr_writeDirectories 32 = .ok (.aload_n 0, 1) := by decide +kernel
theorem d_Wr_writeDirectories_33 : decode b_Wr_writeDirectories 33 = .ok (.getfield 23, 3) := by decide +kernel
theorem d_Wr_writeDirectories_36 : decode b_Wr_writeDirectories 36 = .ok (.aload_n 1, 1) := by decide +kernel
theorem d_Wr_writeDirectories_37 : decode b_Wr_writeDirectories 37 = .ok (.getfield 115, 3) := by decide +kernel
theorem d_Wr_writeDirectories_40 : decode b_Wr_writeDirectories 40 = .ok (.iload 4, 2) := by decide +kernel
theorem d_Wr_writeDirectories_42 : decode b_Wr_writeDirectories 42 = .ok (.aaload, 1) := by decide +kernel
theorem d_Wr_writeDirectories_43 : decode b_Wr_writeDirectories 43 = .ok (.aload_n 1, 1) := by decide +kernel
theorem d_Wr_writeDirectories_44 : decode b_Wr_writeDirectories 44 = .ok (.getfield 115, 3) := by decide +kernel
theorem d_Wr_writeDirectories_47 : decode b_Wr_writeDirectories 47 = .ok (.aload_n 1, 1) := by decide +kernel
theorem d_Wr_writeDirectories_48 : decode b_Wr_writeDirectories 48 = .ok (.getfield 27, 3) := by decide +kernel
theorem d_Wr_writeDirectories_51 : decode b_Wr_writeDirectories 51 = .ok (.invokevirtual 132, 3) := by decide +kernel
theorem d_Wr_writeDirectories_54 : decode b_Wr_writeDirectories 54 = .ok (.aload_n 2, 1) := by decide +kernel
theorem d_Wr_writeDirectories_55 : decode b_Wr_writeDirectories 55 = .ok (.aload_n 1, 1) := by decide +kernel
theorem d_Wr_writeDirectories_56 : decode b_Wr_writeDirectories 56 = .ok (.getfield 115, 3) := by decide +kernel
theorem d_Wr_writeDirectories_59 : decode b_Wr_writeDirectories 59 = .ok (.iload 4, 2) := by decide +kernel
theorem d_Wr_writeDirectories_61 : decode b_Wr_writeDirectories 61 = .ok (.aaload, 1) := by decide +kernel
theorem d_Wr_writeDirectories_62 : decode b_Wr_writeDirectories 62 = .ok (.getfield 57, 3) := by decide +kernel
theorem d_Wr_writeDirectories_65 : decode b_Wr_writeDirectories 65 = .ok (.aload_n 0, 1) := by decide +kernel
theorem d_Wr_writeDirectories_66 : decode b_Wr_writeDirectories 66 = .ok (.getfield 23, 3) := by decide +kernel
theorem d_Wr_writeDirectories_69 : decode b_Wr_writeDirectories 69 = .ok (.getfield 88, 3) := by decide +kernel
theorem d_Wr_writeDirectories_72 : decode b_Wr_writeDirectories 72 = .ok (.aload_n 0, 1) := by decide +kernel
theorem d_Wr_writeDirectories_73 : decode b_Wr_writeDirectories 73 = .ok (.getfield 12, 3) := by decide +kernel
theorem d_Wr_writeDirectories_76 : decode b_Wr_writeDirectories 76 = .ok (.invokevirtual 92, 3) := by decide +kernel
theorem d_Wr_writeDirectories_79 : decode b_Wr_writeDirectories 79 = .ok (.istore_n 3, 1) := by decide +kernel
theorem d_Wr_writeDirectories_80 : decode b_Wr_writeDirectories 80 = .ok (.iinc 4 1, 3) := by decide +kernel
theorem d_Wr_writeDirectories_83 : decode b_Wr_writeDirectories 83 = .ok (.goto (-78), 3) := by decide +kernel
theorem d_Wr_writeDirectories_86 : decode b_Wr_writeDirectories 86 = .ok (.iload_n 3, 1) := by decide +kernel
theorem d_Wr_writeDirectories_87 : decode b_Wr_writeDirectories 87 = .ok (.ireturn, 1) := by decide +kernel
theorem d_Wr_writeMark_0 : decode b_Wr_writeMark 0 = .ok (.aload_n 0, 1) := by decide +kernel
theorem d_Wr_writeMark_1 : decode b_Wr_writeMark 1 = .ok (.getfield 23, 3) := by decide +kernel
theorem d_Wr_writeMark_4 : decode b_Wr_writeMark 4 = .ok (.iload_n 2, 1) := by decide +kernel
theorem d_Wr_writeMark_5 : decode b_Wr_writeMark 5 = .ok (.iload_n 3, 1) := by decide +kernel
theorem d_Wr_writeMark_6 : decode b_Wr_writeMark 6 = .ok (.invokevirtual 136, 3) := by decide +kernel
theorem d_Wr_writeMark_9 : decode b_Wr_writeMark 9 = .ok (.aload_n 1, 1) := by decide +kernel
theorem d_Wr_writeMark_10 : decode b_Wr_writeMark 10 = .ok (.aload_n 1, 1) := by decide +kernel
theorem d_Wr_writeMark_11 : decode b_Wr_writeMark 11 = .ok (.getfield 73, 3) := by decide +kernel
theorem d_Wr_writeMark_14 : decode b_Wr_writeMark 14 = .ok (.aload_n 0, 1) := by decide +kernel
theorem d_Wr_writeMark_15 : decode b_Wr_writeMark 15 = .ok (.getfield 23, 3) := by decide +kernel
theorem d_Wr_writeMark_18 : decode b_Wr_writeMark 18 = .ok (.getfield 88, 3) := by decide +kernel
theorem d_Wr_writeMark_21 : decode b_Wr_writeMark 21 = .ok (.aload_n 0, 1) := by decide +kernel
theorem d_Wr_writeMark_22 : decode b_Wr_writeMark 22 = .ok (.getfield 12, 3) := by decide +kernel
theorem d_Wr_writeMark_25 : decode b_Wr_writeMark 25 = .ok (.invokevirtual 92, 3) := by decide +kernel
theorem d_Wr_writeMark_28 : decode b_Wr_writeMark 28 = .ok (.ireturn, 1) := by decide +kernel
theorem d_Wr_writeSession_0 : decode b_Wr_writeSession 0 = .ok (.aload_n 1, 1) := by decide +kernel
theorem d_Wr_writeSession_1 : decode b_Wr_writeSession 1 = .ok (.invokevirtual 96, 3) := by decide +kernel
theorem d_Wr_writeSession_4 : decode b_Wr_writeSession 4 = .ok (.iconst 0, 1) := by decide +kernel
theorem d_Wr_writeSession_5 : decode b_Wr_writeSession 5 = .ok (.istore 4, 2) := by decide +kernel
theorem d_Wr_writeSession_7 : decode b_Wr_writeSession 7 = .ok (.iload 4, 2) := by decide +kernel
theorem d_Wr_writeSession_9 : decode b_Wr_writeSession 9 = .ok (.aload_n 2, 1) := by decide +kernel
theorem d_Wr_writeSession_10 : decode b_Wr_writeSession 10 = .ok (.getfield 67, 3) := by decide +kernel
theorem d_Wr_writeSession_13 : decode b_Wr_writeSession 13 = .ok (.arraylength, 1) := by decide +kernel
theorem d_Wr_writeSession_14 : decode b_Wr_writeSession 14 = .ok (.if_icmp .gt 95, 3) := by decide +kernel
theorem d_Wr_writeSession_17 : decode b_Wr_writeSession 17 = .ok (.aload_n 2, 1) := by decide +kernel
theorem d_Wr_writeSession_18 : decode b_Wr_writeSession 18 = .ok (.getfield 73, 3) := by decide +kernel
theorem d_Wr_writeSession_21 : decode b_Wr_writeSession 21 = .ok (.istore 5, 2) := by decide +kernel
theorem d_Wr_writeSession_23 : decode b_Wr_writeSession 23 = .ok (.aload_n 0, 1) := by decide +kernel
theorem d_Wr_writeSession_24 : decode b_Wr_writeSession 24 = .ok (.aload_n 1, 1) := by decide +kernel
theorem d_Wr_writeSession_25 : decode b_Wr_writeSession 25 = .ok (.iload 5, 2) := by decide +kernel
theorem d_Wr_writeSession_27 : decode b_Wr_writeSession 27 = .ok (.bipush 20, 2) := by decide +kernel
theorem d_Wr_writeSession_29 : decode b_Wr_writeSession 29 = .ok (.iadd, 1) := by decide +kernel
theorem d_Wr_writeSession_30 : decode b_Wr_writeSession 30 = .ok (.invokevirtual 99, 3) := by decide +kernel
theorem d_Wr_writeSession_33 : decode b_Wr_writeSession 33 = .ok (.istore 6, 2) := by decide +kernel
theorem d_Wr_writeSession_35 : decode b_Wr_writeSession 35 = .ok (.aload_n 2, 1) := by decide +kernel
theorem d_Wr_writeSession_36 : decode b_Wr_writeSession 36 = .ok (.iload 5, 2) := by decide +kernel
theorem d_Wr_writeSession_38 : decode b_Wr_writeSession 38 = .ok (.bipush 20, 2) := by decide +kernel
theorem d_Wr_writeSession_40 : decode b_Wr_writeSession 40 = .ok (.iload 6, 2) := by decide +kernel
theorem d_Wr_writeSession_42 : decode b_Wr_writeSession 42 = .ok (.iadd, 1) := by decide +kernel
theorem d_Wr_writeSession_43 : decode b_Wr_writeSession 43 = .ok (.iconst 1, 1) := by decide +kernel
theorem d_Wr_writeSession_44 : decode b_Wr_writeSession 44 = .ok (.iadd, 1) := by decide +kernel
theorem d_Wr_writeSession_45 : decode b_Wr_writeSession 45 = .ok (.invokevirtual 76, 3) := by decide +kernel
theorem d_Wr_writeSession_48 : decode b_Wr_writeSession 48 = .ok (.ifCond .ne 6, 3) := by decide +kernel
theorem d_Wr_writeSession_54 : decode b_Wr_writeSession 54 = .ok (.aload_n 0, 1) := by decide +kernel
theorem d_Wr_writeSession_55 : decode b_Wr_writeSession 55 = .ok (.aload_n 1, 1) := by decide +kernel
theorem d_Wr_writeSession_56 : decode b_Wr_writeSession 56 = .ok (.aload_n 2, 1) := by decide +kernel
theorem d_Wr_writeSession_57 : decode b_Wr_writeSession 57 = .ok (.iload 5, 2) := by decide +kernel
theorem d_Wr_writeSession_59 : decode b_Wr_writeSession 59 = .ok (.invokevirtual 103, 3) := by decide +kernel
theorem d_Wr_writeSession_62 : decode b_Wr_writeSession 62 = .ok (.istore 7, 2) := by decide +kernel
theorem d_Wr_writeSession_64 : decode b_Wr_writeSession 64 = .ok (.iload 7, 2) := by decide +kernel
theorem d_Wr_writeSession_66 : decode b_Wr_writeSession 66 = .ok (.iconst 1, 1) := by decide +kernel
theorem d_Wr_writeSession_67 : decode b_Wr_writeSession 67 = .ok (.if_icmp .ne 11, 3) := by decide +kernel
theorem d_Wr_writeSession_70 : decode b_Wr_writeSession 70 = .ok (.aload_n 0, 1) := by decide +kernel
theorem d_Wr_writeSession_71 : decode b_Wr_writeSession 71 = .ok (.aload_n 1, 1) := by decide +kernel
theorem d_Wr_writeSession_72 : decode b_Wr_writeSession 72 = .ok (.aload_n 2, 1) := by decide +kernel
theorem d_Wr_writeSession_73 : decode b_Wr_writeSession 73 = .ok (.invokevirtual 107, 3) := by decide +kernel
theorem d_Wr_writeSession_76 : decode b_Wr_writeSession 76 = .ok (.istore 7, 2) := by decide +kernel
theorem d_Wr_writeSession_78 : decode b_Wr_writeSession 78 = .ok (.iload 7, 2) := by decide +kernel
theorem d_Wr_writeSession_80 : decode b_Wr_writeSession 80 = .ok (.iconst 1, 1) := by decide +kernel
theorem d_Wr_writeSession_81 : decode b_Wr_writeSession 81 = .ok (.if_icmp .ne 13, 3) := by decide +kernel
theorem d_Wr_writeSession_84 : decode b_Wr_writeSession 84 = .ok (.aload_n 0, 1) := by decide +kernel
theorem d_Wr_writeSession_85 : decode b_Wr_writeSession 85 = .ok (.aload_n 2, 1) := by decide +kernel
theorem d_Wr_writeSession_86 : decode b_Wr_writeSession 86 = .ok (.iload 5, 2) := by decide +kernel
theorem d_Wr_writeSession_88 : decode b_Wr_writeSession 88 = .ok (.iload_n 3, 1) := by decide +kernel
theorem d_Wr_writeSession_89 : decode b_Wr_writeSession 89 = .ok (.invokevirtual 111, 3) := by decide +kernel
theorem d_Wr_writeSession_92 : decode b_Wr_writeSession 92 = .ok (.istore 7, 2) := by decide +kernel
theorem d_Wr_writeSession_94 : decode b_Wr_writeSession 94 = .ok (.iload 7, 2) := by decide +kernel
theorem d_Wr_writeSession_96 : decode b_Wr_writeSession 96 = .ok (.iconst 2, 1) := by decide +kernel
theorem d_Wr_writeSession_97 : decode b_Wr_writeSession 97 = .ok (.if_icmp .eq 6, 3) := by decide +kernel
theorem d_Wr_writeSession_100 : decode b_Wr_writeSession 100 = .ok (.iload 7, 2) := by decide +kernel
theorem d_Wr_writeSession_102 : decode b_Wr_writeSession 102 = .ok (.ireturn, 1) := by decide +kernel
theorem rmz22 {n : Nat} (h40 : 40 ≤ n) (h : n ≤ 200) : (0 : Int32) ≤ nI n - (20 + (0 + 1) + 1) := by
  rw [show (20 + (0 + 1) + 1 : Int32) = nI 22 by decide, pk_sub (by omega), Int32.le_iff_toInt_le, nI_toInt (by omega), Int32.toInt_zero]
  omega
theorem rmz0 {n : Nat} (h40 : 40 ≤ n) (h : n ≤ 200) : ¬ nI n < (0 : Int32) := nI_pos (by omega)

set_option maxHeartbeats 4000000 in
set_option maxRecDepth 100000 in
theorem c_Writer_head (l : Launch) (D : va_G) (t : Nat → ClassId) (G : hG) (ak av : Nat → Nat) (h : hM) (wr pg pb ns sl od rt md sa su n : Nat) (fs g fa : Nat → Option Nat) (sc np sp : Int32) (f_wr : h wr = some (.inr (7, [.ref su, .ref pg]))) (f_pg : h pg = some (.inr (3, [.ref pb]))) (f_ns : h ns = some (.inr (2, [.ref sl, .ref od, .int 1, .int 1]))) (f_sl : h sl = some (.inl ((t 4), 30, .inr (.inr (.inr (.inr fs)))))) (f_od : h od = some (.inl ((t 4), 30, .inr (.inr (.inr (.inr g)))))) (f_rt : h rt = some (.inr (1, [.int 0, .null, .int 1, .long 0, .int 0, .int 0, .int 0, .int 0, .int 0, .int sc, .int np]))) (f_md : h md = some (.inr (0, [.ref sa, .int (nI 0)]))) (f_sa : h sa = some (.inl ((t 5), n, .inr (.inr (.inr (.inr fa)))))) (f_su : h su = some (.inr (4, [.int (-1), .int 0, .int sp]))) (hpb : pgF t h pb 2048) (hf0 : fs 0 = some rt) (hg0 : g 0 = some rt) (hrow : rowP (.inr (6, [.int 0, .int 0, .null])) fa 0 n h) (hn40 : 40 ≤ n) (hn : n ≤ 200) : Met l y_Wr_writeHead (.code y_Wr_writeHead b_Wr_writeHead 7 (some .int) :: lw_g) { frames := 7, cells := 4, slots := 8192, locals := 153 } (hP (kE D t G ak av) D vwCl G h [.ref wr, .ref ns, .ref md, .int 0]) (hQi D vwCl G (fun r h' => r = 1 ∧ kx (.inr (6, [.int 0, .int 0, .null])) [pb, rt, md, su] h h' ∧ rowP (.inr (6, [.int 0, .int 0, .null])) fa (19 + 1) n h' ∧ h' rt = some (.inr (1, [.int 0, .null, .int 1, .long 0, .int 0, .int 0, .int 0, .int 0, .int 0, .int sc, .int (0 + 1)])) ∧ h' md = some (.inr (0, [.ref sa, .int (nI (19 + 1))])) ∧ h' su = some (.inr (4, [.int (-1), .int 0, .int (sp + 1 + 1 + 1 + 1)])) ∧ pgF t h' pb 2048)) 4 8192 G.P := by
  refine Met.ofW (cc := b_Wr_writeHead) (maxL := 7) (ret := (some .int)) (by decide) rfl ?_
  intro p e s m args below meth c s₁ Bd hml hv
  obtain ⟨ha, hE, hH⟩ := hv
  have hx := Bd.exec
  have hb := Bd.bytes
  have hr := Bd.returns
  have hts : ∀ w ∈ lw_g, w.before args s = true := fun w hw => atoms_spec (ws := (.code y_Wr_writeHead b_Wr_writeHead 7 (some .int) :: lw_g)) Bd.pre w (List.mem_cons_of_mem _ hw)
  have hown : s.vm.findClass R_Wr = some m.cls := findClass_of_methodNamed Bd.named
  have hlocks := Bd.notSynchronized
  have hK := hE.1
  have hH0 := hH
  have hLo : hLc G.P [] := hLc_nil
  have hz : s.heap.size ≤ s.heap.size := Nat.le_refl _
  have hkp : kx (.inr (6, [.int 0, .int 0, .null])) [pb, rt, md, su] h h := kx_rf
  have hl := lv_entry [.ref wr, .ref ns, .ref md, .int 0] (n := 7) (Nat.le_of_ble_eq_true rfl)
  rw [show entryFrame m args 7 = F0 m 0 ((lg_sl [.ref wr, .ref ns, .ref md, .int 0] ++ List.replicate (7 - (lg_sl [.ref wr, .ref ns, .ref md, .int 0]).length) Slot.unset).toArray) [] from (by rw [ha]; exact lg_entry_eq m [.ref wr, .ref ns, .ref md, .int 0] 7)]
  generalize (lg_sl [.ref wr, .ref ns, .ref md, .int 0] ++ List.replicate (7 - (lg_sl [.ref wr, .ref ns, .ref md, .int 0]).length) Slot.unset).toArray = ls at hl ⊢
  have hl : lv_has ls 7 [(0, .ref wr), (1, .ref ns), (2, .ref md), (3, .int 0)] := hl
  obtain ⟨f, hfit, f_pb⟩ := hpb
  refine lv_aload_n hx hb d_Wr_writeHead_0 rfl (lv_at hl 0 rfl) ?_
  refine hm_get (ci := 7) (v := .ref pg) (C := R_Wr) (T := F_Wr) (N := 2) hx hb hts ig_Wr hown hK hH f_wr rfl 1 (by decide) (hts _ mw_56) (fun _ h9 => h9) rfl d_Wr_writeHead_1 ?_
  refine lv_aload_n hx hb d_Wr_writeHead_4 rfl (lv_at hl 1 rfl) ?_
  refine hm_get (ci := 2) (v := .ref od) (C := R_Ns) (T := F_Ns) (N := 4) hx hb hts ig_Ns hown hK hH f_ns rfl 1 (by decide) (hts _ mw_181) (fun _ h9 => h9) rfl d_Wr_writeHead_5 ?_
  refine lv_aload_n hx hb d_Wr_writeHead_8 rfl (lv_at hl 1 rfl) ?_
  refine hm_get (ci := 2) (v := .int 1) (C := R_Ns) (T := F_Ns) (N := 4) hx hb hts ig_Ns hown hK hH f_ns rfl 2 (by decide) (hts _ mw_180) (fun _ h9 => h9) rfl d_Wr_writeHead_9 ?_
  refine lv_iconst (v := 1) hx hb d_Wr_writeHead_12 (by decide) ?_
  refine hm_calli (va_runV (As := [.ref od, .int 1, .int 1]) (b := pg) (rest := []) ⟨hx, hb, hml, hown, hts⟩ (c_Page_pathtable l D t G ak av h pg pb od rt g 1 sc np f_pg ⟨f, hfit, f_pb⟩ f_od f_rt hg0) ⟨cw9B 3 hts mw_191 mw_192 mw_52 rfl rfl (by decide +kernel) ⟨Nat.le_of_ble_eq_true rfl, Nat.le_of_ble_eq_true rfl⟩, hts _ mw_193, hts _ mw_194⟩ (hP_V (q := (R_Pg, F_Pg, 1)) kE_ok hE hK hH f_pg rfl) rfl rfl hl.1 rfl (lv_room (Nat.le_of_ble_eq_true rfl)) d_Wr_writeHead_13 ⟨Nat.le_of_ble_eq_true rfl, Nat.le_of_ble_eq_true rfl⟩) hLo (fun r1 h2 H3 locs hp5 hH z4 hLo => ?_)
  have hz : s.heap.size ≤ H3.size := Nat.le_trans hz z4
  obtain ⟨rfl, hk9, hr9, f, hfit, f_pb2⟩ := hp5
  have hrow : rowP (.inr (6, [.int 0, .int 0, .null])) fa 0 n h2 := rowP_kp hrow hk9 (List.forall_mem_cons.mpr ⟨by rw [f_pb]; simp, List.forall_mem_cons.mpr ⟨by rw [f_rt]; simp, List.forall_mem_nil _⟩⟩)
  have f_wr : h2 wr = some (.inr (7, [.ref su, .ref pg])) := kp_at hk9 f_wr (nmc (Ne.symm (h_neA f_pb f_wr)) (nmc (h_neC f_wr f_rt (by decide)) nm0))
  have f_pg : h2 pg = some (.inr (3, [.ref pb])) := kp_at hk9 f_pg (nmc (Ne.symm (h_neA f_pb f_pg)) (nmc (h_neC f_pg f_rt (by decide)) nm0))
  have f_ns : h2 ns = some (.inr (2, [.ref sl, .ref od, .int 1, .int 1])) := kp_at hk9 f_ns (nmc (Ne.symm (h_neA f_pb f_ns)) (nmc (h_neC f_ns f_rt (by decide)) nm0))
  have f_sl : h2 sl = some (.inl ((t 4), 30, .inr (.inr (.inr (.inr fs))))) := kp_at hk9 f_sl (nmc (h_neK (k1 := 4) (k2 := 0) f_sl f_pb rfl rfl (by decide)) (nmc (h_neA f_sl f_rt) nm0))
  have f_od : h2 od = some (.inl ((t 4), 30, .inr (.inr (.inr (.inr g))))) := kp_at hk9 f_od (nmc (h_neK (k1 := 4) (k2 := 0) f_od f_pb rfl rfl (by decide)) (nmc (h_neA f_od f_rt) nm0))
  have f_md : h2 md = some (.inr (0, [.ref sa, .int (nI 0)])) := kp_at hk9 f_md (nmc (Ne.symm (h_neA f_pb f_md)) (nmc (h_neC f_md f_rt (by decide)) nm0))
  have f_sa : h2 sa = some (.inl ((t 5), n, .inr (.inr (.inr (.inr fa))))) := kp_at hk9 f_sa (nmc (h_neK (k1 := 4) (k2 := 0) f_sa f_pb rfl rfl (by decide)) (nmc (h_neA f_sa f_rt) nm0))
  have f_su : h2 su = some (.inr (4, [.int (-1), .int 0, .int sp])) := kp_at hk9 f_su (nmc (Ne.symm (h_neA f_pb f_su)) (nmc (h_neC f_su f_rt (by decide)) nm0))
  have hkp : kx (.inr (6, [.int 0, .int 0, .null])) [pb, rt, md, su] h h2 := kx_trp hkp hk9 (List.forall_mem_cons.mpr ⟨Or.inl (by simp), List.forall_mem_cons.mpr ⟨Or.inl (by simp), List.forall_mem_nil _⟩⟩)
  have f_pb : h2 pb = some (.inl ((t 0), 2048, .inl f)) := f_pb2
  have f_rt : h2 rt = some (.inr (1, [.int 0, .null, .int 1, .long 0, .int 0, .int 0, .int 0, .int 0, .int 0, .int sc, .int (0 + 1)])) := hr9
  refine lv_istore (lv' := [(4, .int 10), (0, .ref wr), (1, .ref ns), (2, .ref md), (3, .int 0)]) hx hb d_Wr_writeHead_16 hl (by decide) rfl (fun ls hl => ?_)
  refine lv_iconst (v := 1) hx hb d_Wr_writeHead_18 (by decide) ?_
  refine lv_istore (lv' := [(5, .int 1), (4, .int 10), (0, .ref wr), (1, .ref ns), (2, .ref md), (3, .int 0)]) hx hb d_Wr_writeHead_19 hl (by decide) rfl (fun ls hl => ?_)
  refine lv_bipush (v := 16) hx hb d_Wr_writeHead_21 (by decide) ?_
  refine lv_istore (lv' := [(6, .int 16), (5, .int 1), (4, .int 10), (0, .ref wr), (1, .ref ns), (2, .ref md), (3, .int 0)]) hx hb d_Wr_writeHead_23 hl (by decide) rfl (fun ls hl => ?_)
  refine lv_iload hx hb d_Wr_writeHead_25 (lv_at hl 0 rfl) ?_
  refine lv_bipush (v := 19) hx hb d_Wr_writeHead_27 (by decide) ?_
  refine lv_icmp_gt (tgt := 156) hx hb d_Wr_writeHead_29 (by decide) (fun hc6 => absurd hc6 (by decide)) (fun hc6 => ?_)
  refine lv_iload hx hb d_Wr_writeHead_32 (lv_at hl 1 rfl) ?_
  refine lv_iconst (v := 1) hx hb d_Wr_writeHead_34 (by decide) ?_
  refine lv_icmp_ne (tgt := 156) hx hb d_Wr_writeHead_35 (by decide) (fun hc7 => absurd rfl hc7) (fun hc7 => ?_)
  refine lv_iload hx hb d_Wr_writeHead_38 (lv_at hl 0 rfl) ?_
  refine lv_lookup (x := 16) (off := 28) (tgt := 68) hx hb d_Wr_writeHead_40 (by decide) (by decide) (by decide) ?_
  refine lv_aload_n hx hb d_Wr_writeHead_68 rfl (lv_at hl 3 rfl) ?_
  refine hm_get (ci := 7) (v := .ref pg) (C := R_Wr) (T := F_Wr) (N := 2) hx hb hts ig_Wr hown hK hH f_wr rfl 1 (by decide) (hts _ mw_56) (fun _ h9 => h9) rfl d_Wr_writeHead_69 ?_
  refine lv_aload_n hx hb d_Wr_writeHead_72 rfl (lv_at hl 5 rfl) ?_
  refine lv_iload_n hx hb d_Wr_writeHead_73 rfl (lv_at hl 6 rfl) ?_
  refine lv_iload hx hb d_Wr_writeHead_74 (lv_at hl 2 rfl) ?_
  refine lv_aload_n hx hb d_Wr_writeHead_76 rfl (lv_at hl 4 rfl) ?_
  refine hm_get (ci := 2) (v := .ref sl) (C := R_Ns) (T := F_Ns) (N := 4) hx hb hts ig_Ns hown hK hH f_ns rfl 0 (by decide) (hts _ mw_195) (fun _ h9 => h9) rfl d_Wr_writeHead_77 ?_
  refine lv_iconst (v := 0) hx hb d_Wr_writeHead_80 (by decide) ?_
  refine hj_aald (v := .ref rt) hx hb hK hH 4 f_sl (C := R_No) rfl 0 (by decide) (by decide) (by decide) (by rw [hf0]; rfl) d_Wr_writeHead_81 ?_
  refine hm_callv (va_runV (As := [.ref md, .int 0, .int 10, .ref rt]) (b := pg) (rest := []) ⟨hx, hb, hml, hown, hts⟩ (c_Page_descriptor l D t G ak av h2 pg pb md sa rt n 0 fa 0 10 sc (0 + 1) f_pg ⟨f, hfit, f_pb⟩ f_md f_sa f_rt) ⟨cw9B 4 hts mw_196 mw_197 mw_52 rfl rfl (by decide +kernel) ⟨Nat.le_of_ble_eq_true rfl, Nat.le_of_ble_eq_true rfl⟩, hts _ mw_198, hts _ mw_199⟩ (hP_V (q := (R_Pg, F_Pg, 1)) kE_ok hE hK hH f_pg rfl) rfl rfl hl.1 rfl (lv_room (Nat.le_of_ble_eq_true rfl)) d_Wr_writeHead_82 ⟨Nat.le_of_ble_eq_true rfl, Nat.le_of_ble_eq_true rfl⟩) hLo (fun h8 H9 locs hp11 hH z10 hLo => ?_)
  have hz : s.heap.size ≤ H9.size := Nat.le_trans hz z10
  obtain ⟨hk9, f, hfit, f_pb2⟩ := hp11
  have hrow : rowP (.inr (6, [.int 0, .int 0, .null])) fa 0 n h8 := rowP_kp hrow hk9 (List.forall_mem_cons.mpr ⟨by rw [f_pb]; simp, List.forall_mem_nil _⟩)
  have f_wr : h8 wr = some (.inr (7, [.ref su, .ref pg])) := kp_at hk9 f_wr (nmc (Ne.symm (h_neA f_pb f_wr)) nm0)
  have f_pg : h8 pg = some (.inr (3, [.ref pb])) := kp_at hk9 f_pg (nmc (Ne.symm (h_neA f_pb f_pg)) nm0)
  have f_ns : h8 ns = some (.inr (2, [.ref sl, .ref od, .int 1, .int 1])) := kp_at hk9 f_ns (nmc (Ne.symm (h_neA f_pb f_ns)) nm0)
  have f_sl : h8 sl = some (.inl ((t 4), 30, .inr (.inr (.inr (.inr fs))))) := kp_at hk9 f_sl (nmc (h_neK (k1 := 4) (k2 := 0) f_sl f_pb rfl rfl (by decide)) nm0)
  have f_od : h8 od = some (.inl ((t 4), 30, .inr (.inr (.inr (.inr g))))) := kp_at hk9 f_od (nmc (h_neK (k1 := 4) (k2 := 0) f_od f_pb rfl rfl (by decide)) nm0)
  have f_rt : h8 rt = some (.inr (1, [.int 0, .null, .int 1, .long 0, .int 0, .int 0, .int 0, .int 0, .int 0, .int sc, .int (0 + 1)])) := kp_at hk9 f_rt (nmc (Ne.symm (h_neA f_pb f_rt)) nm0)
  have f_md : h8 md = some (.inr (0, [.ref sa, .int (nI 0)])) := kp_at hk9 f_md (nmc (Ne.symm (h_neA f_pb f_md)) nm0)
  have f_sa : h8 sa = some (.inl ((t 5), n, .inr (.inr (.inr (.inr fa))))) := kp_at hk9 f_sa (nmc (h_neK (k1 := 4) (k2 := 0) f_sa f_pb rfl rfl (by decide)) nm0)
  have f_su : h8 su = some (.inr (4, [.int (-1), .int 0, .int sp])) := kp_at hk9 f_su (nmc (Ne.symm (h_neA f_pb f_su)) nm0)
  have hkp : kx (.inr (6, [.int 0, .int 0, .null])) [pb, rt, md, su] h h8 := kx_trp hkp hk9 (List.forall_mem_cons.mpr ⟨Or.inl (by simp), List.forall_mem_nil _⟩)
  have f_pb : h8 pb = some (.inl ((t 0), 2048, .inl f)) := f_pb2
  refine lv_goto (tgt := 129) hx hb d_Wr_writeHead_85 (by decide) ?_
  refine lv_aload_n hx hb d_Wr_writeHead_129 rfl (lv_at hl 5 rfl) ?_
  refine lv_iload_n hx hb d_Wr_writeHead_130 rfl (lv_at hl 6 rfl) ?_
  refine lv_iload hx hb d_Wr_writeHead_131 (lv_at hl 0 rfl) ?_
  refine lv_iadd hx hb d_Wr_writeHead_133 ?_
  refine lv_topi (fun v12 e13 => ?_)
  obtain rfl : v12 = nI 16 := e13.trans (by decide)
  refine lv_aload_n hx hb d_Wr_writeHead_134 rfl (lv_at hl 3 rfl) ?_
  refine hm_get (ci := 7) (v := .ref pg) (C := R_Wr) (T := F_Wr) (N := 2) hx hb hts ig_Wr hown hK hH f_wr rfl 1 (by decide) (hts _ mw_56) (fun _ h9 => h9) rfl d_Wr_writeHead_135 ?_
  refine hm_get (ci := 3) (v := .ref pb) (C := R_Pg) (T := F_Pg) (N := 1) hx hb hts ig_Pg hown hK hH f_pg rfl 0 (by decide) (hts _ mw_200) (fun _ h9 => h9) rfl d_Wr_writeHead_138 ?_
  refine lv_aload_n hx hb d_Wr_writeHead_141 rfl (lv_at hl 3 rfl) ?_
  refine hm_get (ci := 7) (v := .ref su) (C := R_Wr) (T := F_Wr) (N := 2) hx hb hts ig_Wr hown hK hH f_wr rfl 0 (by decide) (hts _ mw_49) (fun _ h9 => h9) rfl d_Wr_writeHead_142 ?_
  refine hm_calli (va_runV (As := [.int (nI 16), .ref pb, .ref su]) (b := md) (rest := []) ⟨hx, hb, hml, hown, hts⟩ (c_Medium_write l D t G ak av h8 md sa pb su n 16 0 fa sp f_md f_sa f_su ⟨f, hfit, f_pb⟩ (rowP_mono hrow (by decide)) (by omega) (by decide) (by omega)) ⟨cw9B 3 hts mw_201 mw_202 mw_163 rfl rfl (by decide +kernel) ⟨Nat.le_of_ble_eq_true rfl, Nat.le_of_ble_eq_true rfl⟩, hts _ mw_203, hts _ mw_204⟩ (hP_V (q := (R_Me, F_Me, 2)) kE_ok hE hK hH f_md rfl) rfl rfl hl.1 rfl (lv_room (Nat.le_of_ble_eq_true rfl)) d_Wr_writeHead_145 ⟨Nat.le_of_ble_eq_true rfl, Nat.le_of_ble_eq_true rfl⟩) hLo (fun r14 h15 H16 locs hp18 hH z17 hLo => ?_)
  have hz : s.heap.size ≤ H16.size := Nat.le_trans hz z17
  obtain ⟨rfl, hrow, hk9, hm9, hs9⟩ := hp18
  have f_wr : h15 wr = some (.inr (7, [.ref su, .ref pg])) := kx_at hk9 f_wr (nmc (h_neC f_wr f_md (by decide)) (nmc (h_neC f_wr f_su (by decide)) nm0)) (by simp)
  have f_pg : h15 pg = some (.inr (3, [.ref pb])) := kx_at hk9 f_pg (nmc (h_neC f_pg f_md (by decide)) (nmc (h_neC f_pg f_su (by decide)) nm0)) (by simp)
  have f_ns : h15 ns = some (.inr (2, [.ref sl, .ref od, .int 1, .int 1])) := kx_at hk9 f_ns (nmc (h_neC f_ns f_md (by decide)) (nmc (h_neC f_ns f_su (by decide)) nm0)) (by simp)
  have f_sl : h15 sl = some (.inl ((t 4), 30, .inr (.inr (.inr (.inr fs))))) := kx_at hk9 f_sl (nmc (h_neA f_sl f_md) (nmc (h_neA f_sl f_su) nm0)) (by simp)
  have f_od : h15 od = some (.inl ((t 4), 30, .inr (.inr (.inr (.inr g))))) := kx_at hk9 f_od (nmc (h_neA f_od f_md) (nmc (h_neA f_od f_su) nm0)) (by simp)
  have f_rt : h15 rt = some (.inr (1, [.int 0, .null, .int 1, .long 0, .int 0, .int 0, .int 0, .int 0, .int 0, .int sc, .int (0 + 1)])) := kx_at hk9 f_rt (nmc (h_neC f_rt f_md (by decide)) (nmc (h_neC f_rt f_su (by decide)) nm0)) (by simp)
  have f_sa : h15 sa = some (.inl ((t 5), n, .inr (.inr (.inr (.inr fa))))) := kx_at hk9 f_sa (nmc (h_neA f_sa f_md) (nmc (h_neA f_sa f_su) nm0)) (by simp)
  have f_pb : h15 pb = some (.inl ((t 0), 2048, .inl f)) := kx_at hk9 f_pb (nmc (h_neA f_pb f_md) (nmc (h_neA f_pb f_su) nm0)) (by simp)
  have hkp : kx (.inr (6, [.int 0, .int 0, .null])) [pb, rt, md, su] h h15 := kx_trx hkp hk9 (List.forall_mem_cons.mpr ⟨Or.inl (by simp), List.forall_mem_cons.mpr ⟨Or.inl (by simp), List.forall_mem_nil _⟩⟩)
  have f_md : h15 md = some (.inr (0, [.ref sa, .int (nI (16 + 1))])) := hm9
  have f_su : h15 su = some (.inr (4, [.int (-1), .int 0, .int (sp + 1)])) := hs9
  refine lv_istore (lv' := [(5, .int 1), (6, .int 16), (4, .int 10), (0, .ref wr), (1, .ref ns), (2, .ref md), (3, .int 0)]) hx hb d_Wr_writeHead_148 hl (by decide) rfl (fun ls hl => ?_)
  refine lv_iinc (v := 16 + 1) (lv' := [(6, .int (16 + 1)), (5, .int 1), (4, .int 10), (0, .ref wr), (1, .ref ns), (2, .ref md), (3, .int 0)]) hx hb d_Wr_writeHead_150 hl (k := 1) rfl (by rfl) (by decide) rfl (fun ls hl => ?_)
  refine lv_goto (tgt := 25) hx hb d_Wr_writeHead_153 (by decide) ?_
  refine lv_iload hx hb d_Wr_writeHead_25 (lv_at hl 0 rfl) ?_
  refine lv_bipush (v := 19) hx hb d_Wr_writeHead_27 (by decide) ?_
  refine lv_icmp_gt (tgt := 156) hx hb d_Wr_writeHead_29 (by decide) (fun hc19 => absurd hc19 (by decide)) (fun hc19 => ?_)
  refine lv_iload hx hb d_Wr_writeHead_32 (lv_at hl 1 rfl) ?_
  refine lv_iconst (v := 1) hx hb d_Wr_writeHead_34 (by decide) ?_
  refine lv_icmp_ne (tgt := 156) hx hb d_Wr_writeHead_35 (by decide) (fun hc20 => absurd rfl hc20) (fun hc20 => ?_)
  refine lv_iload hx hb d_Wr_writeHead_38 (lv_at hl 0 rfl) ?_
  refine lv_topi (fun v21 e22 => ?_)
  obtain rfl : v21 = 17 := e22.trans (by decide)
  refine lv_lookup (x := 17) (off := 48) (tgt := 88) hx hb d_Wr_writeHead_40 (by decide) (by decide) (by decide) ?_
  refine lv_aload_n hx hb d_Wr_writeHead_88 rfl (lv_at hl 3 rfl) ?_
  refine hm_get (ci := 7) (v := .ref pg) (C := R_Wr) (T := F_Wr) (N := 2) hx hb hts ig_Wr hown hK hH f_wr rfl 1 (by decide) (hts _ mw_56) (fun _ h9 => h9) rfl d_Wr_writeHead_89 ?_
  refine lv_sipush (v := 255) hx hb d_Wr_writeHead_92 (by decide) ?_
  refine hm_callv (va_runV (As := [.int 255]) (b := pg) (rest := []) ⟨hx, hb, hml, hown, hts⟩ (c_Page_standard l D t G ak av h15 pg pb 255 f_pg ⟨f, hfit, f_pb⟩) ⟨cw9B 1 hts mw_140 mw_205 mw_52 rfl rfl (by decide +kernel) ⟨Nat.le_of_ble_eq_true rfl, Nat.le_of_ble_eq_true rfl⟩, hts _ mw_142, hts _ mw_143⟩ (hP_V (q := (R_Pg, F_Pg, 1)) kE_ok hE hK hH f_pg rfl) rfl rfl hl.1 rfl (lv_room (Nat.le_of_ble_eq_true rfl)) d_Wr_writeHead_95 ⟨Nat.le_of_ble_eq_true rfl, Nat.le_of_ble_eq_true rfl⟩) hLo (fun h23 H24 locs hp26 hH z25 hLo => ?_)
  have hz : s.heap.size ≤ H24.size := Nat.le_trans hz z25
  obtain ⟨hk9, f, hfit, f_pb2⟩ := hp26
  have hrow : rowP (.inr (6, [.int 0, .int 0, .null])) fa (16 + 1) n h23 := rowP_kp hrow hk9 (List.forall_mem_cons.mpr ⟨by rw [f_pb]; simp, List.forall_mem_nil _⟩)
  have f_wr : h23 wr = some (.inr (7, [.ref su, .ref pg])) := kp_at hk9 f_wr (nmc (Ne.symm (h_neA f_pb f_wr)) nm0)
  have f_pg : h23 pg = some (.inr (3, [.ref pb])) := kp_at hk9 f_pg (nmc (Ne.symm (h_neA f_pb f_pg)) nm0)
  have f_ns : h23 ns = some (.inr (2, [.ref sl, .ref od, .int 1, .int 1])) := kp_at hk9 f_ns (nmc (Ne.symm (h_neA f_pb f_ns)) nm0)
  have f_sl : h23 sl = some (.inl ((t 4), 30, .inr (.inr (.inr (.inr fs))))) := kp_at hk9 f_sl (nmc (h_neK (k1 := 4) (k2 := 0) f_sl f_pb rfl rfl (by decide)) nm0)
  have f_od : h23 od = some (.inl ((t 4), 30, .inr (.inr (.inr (.inr g))))) := kp_at hk9 f_od (nmc (h_neK (k1 := 4) (k2 := 0) f_od f_pb rfl rfl (by decide)) nm0)
  have f_rt : h23 rt = some (.inr (1, [.int 0, .null, .int 1, .long 0, .int 0, .int 0, .int 0, .int 0, .int 0, .int sc, .int (0 + 1)])) := kp_at hk9 f_rt (nmc (Ne.symm (h_neA f_pb f_rt)) nm0)
  have f_md : h23 md = some (.inr (0, [.ref sa, .int (nI (16 + 1))])) := kp_at hk9 f_md (nmc (Ne.symm (h_neA f_pb f_md)) nm0)
  have f_sa : h23 sa = some (.inl ((t 5), n, .inr (.inr (.inr (.inr fa))))) := kp_at hk9 f_sa (nmc (h_neK (k1 := 4) (k2 := 0) f_sa f_pb rfl rfl (by decide)) nm0)
  have f_su : h23 su = some (.inr (4, [.int (-1), .int 0, .int (sp + 1)])) := kp_at hk9 f_su (nmc (Ne.symm (h_neA f_pb f_su)) nm0)
  have hkp : kx (.inr (6, [.int 0, .int 0, .null])) [pb, rt, md, su] h h23 := kx_trp hkp hk9 (List.forall_mem_cons.mpr ⟨Or.inl (by simp), List.forall_mem_nil _⟩)
  have f_pb : h23 pb = some (.inl ((t 0), 2048, .inl f)) := f_pb2
  refine lv_goto (tgt := 129) hx hb d_Wr_writeHead_98 (by decide) ?_
  refine lv_aload_n hx hb d_Wr_writeHead_129 rfl (lv_at hl 5 rfl) ?_
  refine lv_iload_n hx hb d_Wr_writeHead_130 rfl (lv_at hl 6 rfl) ?_
  refine lv_iload hx hb d_Wr_writeHead_131 (lv_at hl 0 rfl) ?_
  refine lv_iadd hx hb d_Wr_writeHead_133 ?_
  refine lv_topi (fun v27 e28 => ?_)
  obtain rfl : v27 = nI 17 := e28.trans (by decide)
  refine lv_aload_n hx hb d_Wr_writeHead_134 rfl (lv_at hl 3 rfl) ?_
  refine hm_get (ci := 7) (v := .ref pg) (C := R_Wr) (T := F_Wr) (N := 2) hx hb hts ig_Wr hown hK hH f_wr rfl 1 (by decide) (hts _ mw_56) (fun _ h9 => h9) rfl d_Wr_writeHead_135 ?_
  refine hm_get (ci := 3) (v := .ref pb) (C := R_Pg) (T := F_Pg) (N := 1) hx hb hts ig_Pg hown hK hH f_pg rfl 0 (by decide) (hts _ mw_200) (fun _ h9 => h9) rfl d_Wr_writeHead_138 ?_
  refine lv_aload_n hx hb d_Wr_writeHead_141 rfl (lv_at hl 3 rfl) ?_
  refine hm_get (ci := 7) (v := .ref su) (C := R_Wr) (T := F_Wr) (N := 2) hx hb hts ig_Wr hown hK hH f_wr rfl 0 (by decide) (hts _ mw_49) (fun _ h9 => h9) rfl d_Wr_writeHead_142 ?_
  refine hm_calli (va_runV (As := [.int (nI 17), .ref pb, .ref su]) (b := md) (rest := []) ⟨hx, hb, hml, hown, hts⟩ (c_Medium_write l D t G ak av h23 md sa pb su n 17 (16 + 1) fa (sp + 1) f_md f_sa f_su ⟨f, hfit, f_pb⟩ (rowP_mono hrow (by decide)) (by omega) (by decide) (by omega)) ⟨cw9B 3 hts mw_201 mw_202 mw_163 rfl rfl (by decide +kernel) ⟨Nat.le_of_ble_eq_true rfl, Nat.le_of_ble_eq_true rfl⟩, hts _ mw_203, hts _ mw_204⟩ (hP_V (q := (R_Me, F_Me, 2)) kE_ok hE hK hH f_md rfl) rfl rfl hl.1 rfl (lv_room (Nat.le_of_ble_eq_true rfl)) d_Wr_writeHead_145 ⟨Nat.le_of_ble_eq_true rfl, Nat.le_of_ble_eq_true rfl⟩) hLo (fun r29 h30 H31 locs hp33 hH z32 hLo => ?_)
  have hz : s.heap.size ≤ H31.size := Nat.le_trans hz z32
  obtain ⟨rfl, hrow, hk9, hm9, hs9⟩ := hp33
  have f_wr : h30 wr = some (.inr (7, [.ref su, .ref pg])) := kx_at hk9 f_wr (nmc (h_neC f_wr f_md (by decide)) (nmc (h_neC f_wr f_su (by decide)) nm0)) (by simp)
  have f_pg : h30 pg = some (.inr (3, [.ref pb])) := kx_at hk9 f_pg (nmc (h_neC f_pg f_md (by decide)) (nmc (h_neC f_pg f_su (by decide)) nm0)) (by simp)
  have f_ns : h30 ns = some (.inr (2, [.ref sl, .ref od, .int 1, .int 1])) := kx_at hk9 f_ns (nmc (h_neC f_ns f_md (by decide)) (nmc (h_neC f_ns f_su (by decide)) nm0)) (by simp)
  have f_sl : h30 sl = some (.inl ((t 4), 30, .inr (.inr (.inr (.inr fs))))) := kx_at hk9 f_sl (nmc (h_neA f_sl f_md) (nmc (h_neA f_sl f_su) nm0)) (by simp)
  have f_od : h30 od = some (.inl ((t 4), 30, .inr (.inr (.inr (.inr g))))) := kx_at hk9 f_od (nmc (h_neA f_od f_md) (nmc (h_neA f_od f_su) nm0)) (by simp)
  have f_rt : h30 rt = some (.inr (1, [.int 0, .null, .int 1, .long 0, .int 0, .int 0, .int 0, .int 0, .int 0, .int sc, .int (0 + 1)])) := kx_at hk9 f_rt (nmc (h_neC f_rt f_md (by decide)) (nmc (h_neC f_rt f_su (by decide)) nm0)) (by simp)
  have f_sa : h30 sa = some (.inl ((t 5), n, .inr (.inr (.inr (.inr fa))))) := kx_at hk9 f_sa (nmc (h_neA f_sa f_md) (nmc (h_neA f_sa f_su) nm0)) (by simp)
  have f_pb : h30 pb = some (.inl ((t 0), 2048, .inl f)) := kx_at hk9 f_pb (nmc (h_neA f_pb f_md) (nmc (h_neA f_pb f_su) nm0)) (by simp)
  have hkp : kx (.inr (6, [.int 0, .int 0, .null])) [pb, rt, md, su] h h30 := kx_trx hkp hk9 (List.forall_mem_cons.mpr ⟨Or.inl (by simp), List.forall_mem_cons.mpr ⟨Or.inl (by simp), List.forall_mem_nil _⟩⟩)
  have f_md : h30 md = some (.inr (0, [.ref sa, .int (nI (17 + 1))])) := hm9
  have f_su : h30 su = some (.inr (4, [.int (-1), .int 0, .int (sp + 1 + 1)])) := hs9
  refine lv_istore (lv' := [(5, .int 1), (6, .int (16 + 1)), (4, .int 10), (0, .ref wr), (1, .ref ns), (2, .ref md), (3, .int 0)]) hx hb d_Wr_writeHead_148 hl (by decide) rfl (fun ls hl => ?_)
  refine lv_iinc (v := (16 + 1) + 1) (lv' := [(6, .int ((16 + 1) + 1)), (5, .int 1), (4, .int 10), (0, .ref wr), (1, .ref ns), (2, .ref md), (3, .int 0)]) hx hb d_Wr_writeHead_150 hl (k := 1) rfl (by rfl) (by decide) rfl (fun ls hl => ?_)
  refine lv_goto (tgt := 25) hx hb d_Wr_writeHead_153 (by decide) ?_
  refine lv_iload hx hb d_Wr_writeHead_25 (lv_at hl 0 rfl) ?_
  refine lv_bipush (v := 19) hx hb d_Wr_writeHead_27 (by decide) ?_
  refine lv_icmp_gt (tgt := 156) hx hb d_Wr_writeHead_29 (by decide) (fun hc34 => absurd hc34 (by decide)) (fun hc34 => ?_)
  refine lv_iload hx hb d_Wr_writeHead_32 (lv_at hl 1 rfl) ?_
  refine lv_iconst (v := 1) hx hb d_Wr_writeHead_34 (by decide) ?_
  refine lv_icmp_ne (tgt := 156) hx hb d_Wr_writeHead_35 (by decide) (fun hc35 => absurd rfl hc35) (fun hc35 => ?_)
  refine lv_iload hx hb d_Wr_writeHead_38 (lv_at hl 0 rfl) ?_
  refine lv_topi (fun v36 e37 => ?_)
  obtain rfl : v36 = 18 := e37.trans (by decide)
  refine lv_lookup (x := 18) (off := 61) (tgt := 101) hx hb d_Wr_writeHead_40 (by decide) (by decide) (by decide) ?_
  refine lv_aload_n hx hb d_Wr_writeHead_101 rfl (lv_at hl 3 rfl) ?_
  refine hm_get (ci := 7) (v := .ref pg) (C := R_Wr) (T := F_Wr) (N := 2) hx hb hts ig_Wr hown hK hH f_wr rfl 1 (by decide) (hts _ mw_56) (fun _ h9 => h9) rfl d_Wr_writeHead_102 ?_
  refine lv_aload_n hx hb d_Wr_writeHead_105 rfl (lv_at hl 4 rfl) ?_
  refine hm_get (ci := 2) (v := .ref od) (C := R_Ns) (T := F_Ns) (N := 4) hx hb hts ig_Ns hown hK hH f_ns rfl 1 (by decide) (hts _ mw_181) (fun _ h9 => h9) rfl d_Wr_writeHead_106 ?_
  refine lv_aload_n hx hb d_Wr_writeHead_109 rfl (lv_at hl 4 rfl) ?_
  refine hm_get (ci := 2) (v := .int 1) (C := R_Ns) (T := F_Ns) (N := 4) hx hb hts ig_Ns hown hK hH f_ns rfl 2 (by decide) (hts _ mw_180) (fun _ h9 => h9) rfl d_Wr_writeHead_110 ?_
  refine lv_iload hx hb d_Wr_writeHead_113 (lv_at hl 0 rfl) ?_
  refine lv_bipush (v := 18) hx hb d_Wr_writeHead_115 (by decide) ?_
  refine lv_icmp_ne (tgt := 124) hx hb d_Wr_writeHead_117 (by decide) (fun hc38 => absurd (by decide) hc38) (fun hc38 => ?_)
  refine lv_iconst (v := 1) hx hb d_Wr_writeHead_120 (by decide) ?_
  refine lv_goto (tgt := 125) hx hb d_Wr_writeHead_121 (by decide) ?_
  refine hm_calli (va_runV (As := [.ref od, .int 1, .int 1]) (b := pg) (rest := []) ⟨hx, hb, hml, hown, hts⟩ (c_Page_pathtable l D t G ak av h30 pg pb od rt g 1 sc (0 + 1) f_pg ⟨f, hfit, f_pb⟩ f_od f_rt hg0) ⟨cw9B 3 hts mw_191 mw_192 mw_52 rfl rfl (by decide +kernel) ⟨Nat.le_of_ble_eq_true rfl, Nat.le_of_ble_eq_true rfl⟩, hts _ mw_193, hts _ mw_194⟩ (hP_V (q := (R_Pg, F_Pg, 1)) kE_ok hE hK hH f_pg rfl) rfl rfl hl.1 rfl (lv_room (Nat.le_of_ble_eq_true rfl)) d_Wr_writeHead_125 ⟨Nat.le_of_ble_eq_true rfl, Nat.le_of_ble_eq_true rfl⟩) hLo (fun r39 h40 H41 locs hp43 hH z42 hLo => ?_)
  have hz : s.heap.size ≤ H41.size := Nat.le_trans hz z42
  obtain ⟨rfl, hk9, hr9, f, hfit, f_pb2⟩ := hp43
  have hrow : rowP (.inr (6, [.int 0, .int 0, .null])) fa (17 + 1) n h40 := rowP_kp hrow hk9 (List.forall_mem_cons.mpr ⟨by rw [f_pb]; simp, List.forall_mem_cons.mpr ⟨by rw [f_rt]; simp, List.forall_mem_nil _⟩⟩)
  have f_wr : h40 wr = some (.inr (7, [.ref su, .ref pg])) := kp_at hk9 f_wr (nmc (Ne.symm (h_neA f_pb f_wr)) (nmc (h_neC f_wr f_rt (by decide)) nm0))
  have f_pg : h40 pg = some (.inr (3, [.ref pb])) := kp_at hk9 f_pg (nmc (Ne.symm (h_neA f_pb f_pg)) (nmc (h_neC f_pg f_rt (by decide)) nm0))
  have f_ns : h40 ns = some (.inr (2, [.ref sl, .ref od, .int 1, .int 1])) := kp_at hk9 f_ns (nmc (Ne.symm (h_neA f_pb f_ns)) (nmc (h_neC f_ns f_rt (by decide)) nm0))
  have f_sl : h40 sl = some (.inl ((t 4), 30, .inr (.inr (.inr (.inr fs))))) := kp_at hk9 f_sl (nmc (h_neK (k1 := 4) (k2 := 0) f_sl f_pb rfl rfl (by decide)) (nmc (h_neA f_sl f_rt) nm0))
  have f_od : h40 od = some (.inl ((t 4), 30, .inr (.inr (.inr (.inr g))))) := kp_at hk9 f_od (nmc (h_neK (k1 := 4) (k2 := 0) f_od f_pb rfl rfl (by decide)) (nmc (h_neA f_od f_rt) nm0))
  have f_md : h40 md = some (.inr (0, [.ref sa, .int (nI (17 + 1))])) := kp_at hk9 f_md (nmc (Ne.symm (h_neA f_pb f_md)) (nmc (h_neC f_md f_rt (by decide)) nm0))
  have f_sa : h40 sa = some (.inl ((t 5), n, .inr (.inr (.inr (.inr fa))))) := kp_at hk9 f_sa (nmc (h_neK (k1 := 4) (k2 := 0) f_sa f_pb rfl rfl (by decide)) (nmc (h_neA f_sa f_rt) nm0))
  have f_su : h40 su = some (.inr (4, [.int (-1), .int 0, .int (sp + 1 + 1)])) := kp_at hk9 f_su (nmc (Ne.symm (h_neA f_pb f_su)) (nmc (h_neC f_su f_rt (by decide)) nm0))
  have hkp : kx (.inr (6, [.int 0, .int 0, .null])) [pb, rt, md, su] h h40 := kx_trp hkp hk9 (List.forall_mem_cons.mpr ⟨Or.inl (by simp), List.forall_mem_cons.mpr ⟨Or.inl (by simp), List.forall_mem_nil _⟩⟩)
  have f_pb : h40 pb = some (.inl ((t 0), 2048, .inl f)) := f_pb2
  have f_rt : h40 rt = some (.inr (1, [.int 0, .null, .int 1, .long 0, .int 0, .int 0, .int 0, .int 0, .int 0, .int sc, .int (0 + 1)])) := hr9
  refine lv_pop hx hb d_Wr_writeHead_128 rfl ?_
  refine lv_aload_n hx hb d_Wr_writeHead_129 rfl (lv_at hl 5 rfl) ?_
  refine lv_iload_n hx hb d_Wr_writeHead_130 rfl (lv_at hl 6 rfl) ?_
  refine lv_iload hx hb d_Wr_writeHead_131 (lv_at hl 0 rfl) ?_
  refine lv_iadd hx hb d_Wr_writeHead_133 ?_
  refine lv_topi (fun v44 e45 => ?_)
  obtain rfl : v44 = nI 18 := e45.trans (by decide)
  refine lv_aload_n hx hb d_Wr_writeHead_134 rfl (lv_at hl 3 rfl) ?_
  refine hm_get (ci := 7) (v := .ref pg) (C := R_Wr) (T := F_Wr) (N := 2) hx hb hts ig_Wr hown hK hH f_wr rfl 1 (by decide) (hts _ mw_56) (fun _ h9 => h9) rfl d_Wr_writeHead_135 ?_
  refine hm_get (ci := 3) (v := .ref pb) (C := R_Pg) (T := F_Pg) (N := 1) hx hb hts ig_Pg hown hK hH f_pg rfl 0 (by decide) (hts _ mw_200) (fun _ h9 => h9) rfl d_Wr_writeHead_138 ?_
  refine lv_aload_n hx hb d_Wr_writeHead_141 rfl (lv_at hl 3 rfl) ?_
  refine hm_get (ci := 7) (v := .ref su) (C := R_Wr) (T := F_Wr) (N := 2) hx hb hts ig_Wr hown hK hH f_wr rfl 0 (by decide) (hts _ mw_49) (fun _ h9 => h9) rfl d_Wr_writeHead_142 ?_
  refine hm_calli (va_runV (As := [.int (nI 18), .ref pb, .ref su]) (b := md) (rest := []) ⟨hx, hb, hml, hown, hts⟩ (c_Medium_write l D t G ak av h40 md sa pb su n 18 (17 + 1) fa (sp + 1 + 1) f_md f_sa f_su ⟨f, hfit, f_pb⟩ (rowP_mono hrow (by decide)) (by omega) (by decide) (by omega)) ⟨cw9B 3 hts mw_201 mw_202 mw_163 rfl rfl (by decide +kernel) ⟨Nat.le_of_ble_eq_true rfl, Nat.le_of_ble_eq_true rfl⟩, hts _ mw_203, hts _ mw_204⟩ (hP_V (q := (R_Me, F_Me, 2)) kE_ok hE hK hH f_md rfl) rfl rfl hl.1 rfl (lv_room (Nat.le_of_ble_eq_true rfl)) d_Wr_writeHead_145 ⟨Nat.le_of_ble_eq_true rfl, Nat.le_of_ble_eq_true rfl⟩) hLo (fun r46 h47 H48 locs hp50 hH z49 hLo => ?_)
  have hz : s.heap.size ≤ H48.size := Nat.le_trans hz z49
  obtain ⟨rfl, hrow, hk9, hm9, hs9⟩ := hp50
  have f_wr : h47 wr = some (.inr (7, [.ref su, .ref pg])) := kx_at hk9 f_wr (nmc (h_neC f_wr f_md (by decide)) (nmc (h_neC f_wr f_su (by decide)) nm0)) (by simp)
  have f_pg : h47 pg = some (.inr (3, [.ref pb])) := kx_at hk9 f_pg (nmc (h_neC f_pg f_md (by decide)) (nmc (h_neC f_pg f_su (by decide)) nm0)) (by simp)
  have f_ns : h47 ns = some (.inr (2, [.ref sl, .ref od, .int 1, .int 1])) := kx_at hk9 f_ns (nmc (h_neC f_ns f_md (by decide)) (nmc (h_neC f_ns f_su (by decide)) nm0)) (by simp)
  have f_sl : h47 sl = some (.inl ((t 4), 30, .inr (.inr (.inr (.inr fs))))) := kx_at hk9 f_sl (nmc (h_neA f_sl f_md) (nmc (h_neA f_sl f_su) nm0)) (by simp)
  have f_od : h47 od = some (.inl ((t 4), 30, .inr (.inr (.inr (.inr g))))) := kx_at hk9 f_od (nmc (h_neA f_od f_md) (nmc (h_neA f_od f_su) nm0)) (by simp)
  have f_rt : h47 rt = some (.inr (1, [.int 0, .null, .int 1, .long 0, .int 0, .int 0, .int 0, .int 0, .int 0, .int sc, .int (0 + 1)])) := kx_at hk9 f_rt (nmc (h_neC f_rt f_md (by decide)) (nmc (h_neC f_rt f_su (by decide)) nm0)) (by simp)
  have f_sa : h47 sa = some (.inl ((t 5), n, .inr (.inr (.inr (.inr fa))))) := kx_at hk9 f_sa (nmc (h_neA f_sa f_md) (nmc (h_neA f_sa f_su) nm0)) (by simp)
  have f_pb : h47 pb = some (.inl ((t 0), 2048, .inl f)) := kx_at hk9 f_pb (nmc (h_neA f_pb f_md) (nmc (h_neA f_pb f_su) nm0)) (by simp)
  have hkp : kx (.inr (6, [.int 0, .int 0, .null])) [pb, rt, md, su] h h47 := kx_trx hkp hk9 (List.forall_mem_cons.mpr ⟨Or.inl (by simp), List.forall_mem_cons.mpr ⟨Or.inl (by simp), List.forall_mem_nil _⟩⟩)
  have f_md : h47 md = some (.inr (0, [.ref sa, .int (nI (18 + 1))])) := hm9
  have f_su : h47 su = some (.inr (4, [.int (-1), .int 0, .int (sp + 1 + 1 + 1)])) := hs9
  refine lv_istore (lv' := [(5, .int 1), (6, .int ((16 + 1) + 1)), (4, .int 10), (0, .ref wr), (1, .ref ns), (2, .ref md), (3, .int 0)]) hx hb d_Wr_writeHead_148 hl (by decide) rfl (fun ls hl => ?_)
  refine lv_iinc (v := ((16 + 1) + 1) + 1) (lv' := [(6, .int (((16 + 1) + 1) + 1)), (5, .int 1), (4, .int 10), (0, .ref wr), (1, .ref ns), (2, .ref md), (3, .int 0)]) hx hb d_Wr_writeHead_150 hl (k := 1) rfl (by rfl) (by decide) rfl (fun ls hl => ?_)
  refine lv_goto (tgt := 25) hx hb d_Wr_writeHead_153 (by decide) ?_
  refine lv_iload hx hb d_Wr_writeHead_25 (lv_at hl 0 rfl) ?_
  refine lv_bipush (v := 19) hx hb d_Wr_writeHead_27 (by decide) ?_
  refine lv_icmp_gt (tgt := 156) hx hb d_Wr_writeHead_29 (by decide) (fun hc51 => absurd hc51 (by decide)) (fun hc51 => ?_)
  refine lv_iload hx hb d_Wr_writeHead_32 (lv_at hl 1 rfl) ?_
  refine lv_iconst (v := 1) hx hb d_Wr_writeHead_34 (by decide) ?_
  refine lv_icmp_ne (tgt := 156) hx hb d_Wr_writeHead_35 (by decide) (fun hc52 => absurd rfl hc52) (fun hc52 => ?_)
  refine lv_iload hx hb d_Wr_writeHead_38 (lv_at hl 0 rfl) ?_
  refine lv_topi (fun v53 e54 => ?_)
  obtain rfl : v53 = 19 := e54.trans (by decide)
  refine lv_lookup (x := 19) (off := 61) (tgt := 101) hx hb d_Wr_writeHead_40 (by decide) (by decide) (by decide) ?_
  refine lv_aload_n hx hb d_Wr_writeHead_101 rfl (lv_at hl 3 rfl) ?_
  refine hm_get (ci := 7) (v := .ref pg) (C := R_Wr) (T := F_Wr) (N := 2) hx hb hts ig_Wr hown hK hH f_wr rfl 1 (by decide) (hts _ mw_56) (fun _ h9 => h9) rfl d_Wr_writeHead_102 ?_
  refine lv_aload_n hx hb d_Wr_writeHead_105 rfl (lv_at hl 4 rfl) ?_
  refine hm_get (ci := 2) (v := .ref od) (C := R_Ns) (T := F_Ns) (N := 4) hx hb hts ig_Ns hown hK hH f_ns rfl 1 (by decide) (hts _ mw_181) (fun _ h9 => h9) rfl d_Wr_writeHead_106 ?_
  refine lv_aload_n hx hb d_Wr_writeHead_109 rfl (lv_at hl 4 rfl) ?_
  refine hm_get (ci := 2) (v := .int 1) (C := R_Ns) (T := F_Ns) (N := 4) hx hb hts ig_Ns hown hK hH f_ns rfl 2 (by decide) (hts _ mw_180) (fun _ h9 => h9) rfl d_Wr_writeHead_110 ?_
  refine lv_iload hx hb d_Wr_writeHead_113 (lv_at hl 0 rfl) ?_
  refine lv_bipush (v := 18) hx hb d_Wr_writeHead_115 (by decide) ?_
  refine lv_icmp_ne (tgt := 124) hx hb d_Wr_writeHead_117 (by decide) (fun hc55 => ?_) (fun hc55 => absurd hc55 (by decide))
  refine lv_iconst (v := 0) hx hb d_Wr_writeHead_124 (by decide) ?_
  refine hm_calli (va_runV (As := [.ref od, .int 1, .int 0]) (b := pg) (rest := []) ⟨hx, hb, hml, hown, hts⟩ (c_Page_pathtable l D t G ak av h47 pg pb od rt g 0 sc (0 + 1) f_pg ⟨f, hfit, f_pb⟩ f_od f_rt hg0) ⟨cw9B 3 hts mw_191 mw_192 mw_52 rfl rfl (by decide +kernel) ⟨Nat.le_of_ble_eq_true rfl, Nat.le_of_ble_eq_true rfl⟩, hts _ mw_193, hts _ mw_194⟩ (hP_V (q := (R_Pg, F_Pg, 1)) kE_ok hE hK hH f_pg rfl) rfl rfl hl.1 rfl (lv_room (Nat.le_of_ble_eq_true rfl)) d_Wr_writeHead_125 ⟨Nat.le_of_ble_eq_true rfl, Nat.le_of_ble_eq_true rfl⟩) hLo (fun r56 h57 H58 locs hp60 hH z59 hLo => ?_)
  have hz : s.heap.size ≤ H58.size := Nat.le_trans hz z59
  obtain ⟨rfl, hk9, hr9, f, hfit, f_pb2⟩ := hp60
  have hrow : rowP (.inr (6, [.int 0, .int 0, .null])) fa (18 + 1) n h57 := rowP_kp hrow hk9 (List.forall_mem_cons.mpr ⟨by rw [f_pb]; simp, List.forall_mem_cons.mpr ⟨by rw [f_rt]; simp, List.forall_mem_nil _⟩⟩)
  have f_wr : h57 wr = some (.inr (7, [.ref su, .ref pg])) := kp_at hk9 f_wr (nmc (Ne.symm (h_neA f_pb f_wr)) (nmc (h_neC f_wr f_rt (by decide)) nm0))
  have f_pg : h57 pg = some (.inr (3, [.ref pb])) := kp_at hk9 f_pg (nmc (Ne.symm (h_neA f_pb f_pg)) (nmc (h_neC f_pg f_rt (by decide)) nm0))
  have f_ns : h57 ns = some (.inr (2, [.ref sl, .ref od, .int 1, .int 1])) := kp_at hk9 f_ns (nmc (Ne.symm (h_neA f_pb f_ns)) (nmc (h_neC f_ns f_rt (by decide)) nm0))
  have f_sl : h57 sl = some (.inl ((t 4), 30, .inr (.inr (.inr (.inr fs))))) := kp_at hk9 f_sl (nmc (h_neK (k1 := 4) (k2 := 0) f_sl f_pb rfl rfl (by decide)) (nmc (h_neA f_sl f_rt) nm0))
  have f_od : h57 od = some (.inl ((t 4), 30, .inr (.inr (.inr (.inr g))))) := kp_at hk9 f_od (nmc (h_neK (k1 := 4) (k2 := 0) f_od f_pb rfl rfl (by decide)) (nmc (h_neA f_od f_rt) nm0))
  have f_md : h57 md = some (.inr (0, [.ref sa, .int (nI (18 + 1))])) := kp_at hk9 f_md (nmc (Ne.symm (h_neA f_pb f_md)) (nmc (h_neC f_md f_rt (by decide)) nm0))
  have f_sa : h57 sa = some (.inl ((t 5), n, .inr (.inr (.inr (.inr fa))))) := kp_at hk9 f_sa (nmc (h_neK (k1 := 4) (k2 := 0) f_sa f_pb rfl rfl (by decide)) (nmc (h_neA f_sa f_rt) nm0))
  have f_su : h57 su = some (.inr (4, [.int (-1), .int 0, .int (sp + 1 + 1 + 1)])) := kp_at hk9 f_su (nmc (Ne.symm (h_neA f_pb f_su)) (nmc (h_neC f_su f_rt (by decide)) nm0))
  have hkp : kx (.inr (6, [.int 0, .int 0, .null])) [pb, rt, md, su] h h57 := kx_trp hkp hk9 (List.forall_mem_cons.mpr ⟨Or.inl (by simp), List.forall_mem_cons.mpr ⟨Or.inl (by simp), List.forall_mem_nil _⟩⟩)
  have f_pb : h57 pb = some (.inl ((t 0), 2048, .inl f)) := f_pb2
  have f_rt : h57 rt = some (.inr (1, [.int 0, .null, .int 1, .long 0, .int 0, .int 0, .int 0, .int 0, .int 0, .int sc, .int (0 + 1)])) := hr9
  refine lv_pop hx hb d_Wr_writeHead_128 rfl ?_
  refine lv_aload_n hx hb d_Wr_writeHead_129 rfl (lv_at hl 5 rfl) ?_
  refine lv_iload_n hx hb d_Wr_writeHead_130 rfl (lv_at hl 6 rfl) ?_
  refine lv_iload hx hb d_Wr_writeHead_131 (lv_at hl 0 rfl) ?_
  refine lv_iadd hx hb d_Wr_writeHead_133 ?_
  refine lv_topi (fun v61 e62 => ?_)
  obtain rfl : v61 = nI 19 := e62.trans (by decide)
  refine lv_aload_n hx hb d_Wr_writeHead_134 rfl (lv_at hl 3 rfl) ?_
  refine hm_get (ci := 7) (v := .ref pg) (C := R_Wr) (T := F_Wr) (N := 2) hx hb hts ig_Wr hown hK hH f_wr rfl 1 (by decide) (hts _ mw_56) (fun _ h9 => h9) rfl d_Wr_writeHead_135 ?_
  refine hm_get (ci := 3) (v := .ref pb) (C := R_Pg) (T := F_Pg) (N := 1) hx hb hts ig_Pg hown hK hH f_pg rfl 0 (by decide) (hts _ mw_200) (fun _ h9 => h9) rfl d_Wr_writeHead_138 ?_
  refine lv_aload_n hx hb d_Wr_writeHead_141 rfl (lv_at hl 3 rfl) ?_
  refine hm_get (ci := 7) (v := .ref su) (C := R_Wr) (T := F_Wr) (N := 2) hx hb hts ig_Wr hown hK hH f_wr rfl 0 (by decide) (hts _ mw_49) (fun _ h9 => h9) rfl d_Wr_writeHead_142 ?_
  refine hm_calli (va_runV (As := [.int (nI 19), .ref pb, .ref su]) (b := md) (rest := []) ⟨hx, hb, hml, hown, hts⟩ (c_Medium_write l D t G ak av h57 md sa pb su n 19 (18 + 1) fa (sp + 1 + 1 + 1) f_md f_sa f_su ⟨f, hfit, f_pb⟩ (rowP_mono hrow (by decide)) (by omega) (by decide) (by omega)) ⟨cw9B 3 hts mw_201 mw_202 mw_163 rfl rfl (by decide +kernel) ⟨Nat.le_of_ble_eq_true rfl, Nat.le_of_ble_eq_true rfl⟩, hts _ mw_203, hts _ mw_204⟩ (hP_V (q := (R_Me, F_Me, 2)) kE_ok hE hK hH f_md rfl) rfl rfl hl.1 rfl (lv_room (Nat.le_of_ble_eq_true rfl)) d_Wr_writeHead_145 ⟨Nat.le_of_ble_eq_true rfl, Nat.le_of_ble_eq_true rfl⟩) hLo (fun r63 h64 H65 locs hp67 hH z66 hLo => ?_)
  have hz : s.heap.size ≤ H65.size := Nat.le_trans hz z66
  obtain ⟨rfl, hrow, hk9, hm9, hs9⟩ := hp67
  have f_wr : h64 wr = some (.inr (7, [.ref su, .ref pg])) := kx_at hk9 f_wr (nmc (h_neC f_wr f_md (by decide)) (nmc (h_neC f_wr f_su (by decide)) nm0)) (by simp)
  have f_pg : h64 pg = some (.inr (3, [.ref pb])) := kx_at hk9 f_pg (nmc (h_neC f_pg f_md (by decide)) (nmc (h_neC f_pg f_su (by decide)) nm0)) (by simp)
  have f_ns : h64 ns = some (.inr (2, [.ref sl, .ref od, .int 1, .int 1])) := kx_at hk9 f_ns (nmc (h_neC f_ns f_md (by decide)) (nmc (h_neC f_ns f_su (by decide)) nm0)) (by simp)
  have f_sl : h64 sl = some (.inl ((t 4), 30, .inr (.inr (.inr (.inr fs))))) := kx_at hk9 f_sl (nmc (h_neA f_sl f_md) (nmc (h_neA f_sl f_su) nm0)) (by simp)
  have f_od : h64 od = some (.inl ((t 4), 30, .inr (.inr (.inr (.inr g))))) := kx_at hk9 f_od (nmc (h_neA f_od f_md) (nmc (h_neA f_od f_su) nm0)) (by simp)
  have f_rt : h64 rt = some (.inr (1, [.int 0, .null, .int 1, .long 0, .int 0, .int 0, .int 0, .int 0, .int 0, .int sc, .int (0 + 1)])) := kx_at hk9 f_rt (nmc (h_neC f_rt f_md (by decide)) (nmc (h_neC f_rt f_su (by decide)) nm0)) (by simp)
  have f_sa : h64 sa = some (.inl ((t 5), n, .inr (.inr (.inr (.inr fa))))) := kx_at hk9 f_sa (nmc (h_neA f_sa f_md) (nmc (h_neA f_sa f_su) nm0)) (by simp)
  have f_pb : h64 pb = some (.inl ((t 0), 2048, .inl f)) := kx_at hk9 f_pb (nmc (h_neA f_pb f_md) (nmc (h_neA f_pb f_su) nm0)) (by simp)
  have hkp : kx (.inr (6, [.int 0, .int 0, .null])) [pb, rt, md, su] h h64 := kx_trx hkp hk9 (List.forall_mem_cons.mpr ⟨Or.inl (by simp), List.forall_mem_cons.mpr ⟨Or.inl (by simp), List.forall_mem_nil _⟩⟩)
  have f_md : h64 md = some (.inr (0, [.ref sa, .int (nI (19 + 1))])) := hm9
  have f_su : h64 su = some (.inr (4, [.int (-1), .int 0, .int (sp + 1 + 1 + 1 + 1)])) := hs9
  refine lv_istore (lv' := [(5, .int 1), (6, .int (((16 + 1) + 1) + 1)), (4, .int 10), (0, .ref wr), (1, .ref ns), (2, .ref md), (3, .int 0)]) hx hb d_Wr_writeHead_148 hl (by decide) rfl (fun ls hl => ?_)
  refine lv_iinc (v := (((16 + 1) + 1) + 1) + 1) (lv' := [(6, .int ((((16 + 1) + 1) + 1) + 1)), (5, .int 1), (4, .int 10), (0, .ref wr), (1, .ref ns), (2, .ref md), (3, .int 0)]) hx hb d_Wr_writeHead_150 hl (k := 1) rfl (by rfl) (by decide) rfl (fun ls hl => ?_)
  refine lv_goto (tgt := 25) hx hb d_Wr_writeHead_153 (by decide) ?_
  refine lv_iload hx hb d_Wr_writeHead_25 (lv_at hl 0 rfl) ?_
  refine lv_bipush (v := 19) hx hb d_Wr_writeHead_27 (by decide) ?_
  refine lv_icmp_gt (tgt := 156) hx hb d_Wr_writeHead_29 (by decide) (fun hc68 => ?_) (fun hc68 => absurd (by decide) hc68)
  refine lv_iload hx hb d_Wr_writeHead_156 (lv_at hl 1 rfl) ?_
  exact W.iret (v := 1) hx hb hr (fun t9 ht hW => ⟨1, h64, rfl, ⟨rfl, hkp, hrow, f_rt, f_md, f_su, f, hfit, f_pb⟩, by rw [ht]; exact hH, by rw [ht]; exact hz⟩) hLo d_Wr_writeHead_158

set_option maxHeartbeats 4000000 in
set_option maxRecDepth 100000 in
theorem c_Writer_dirs (l : Launch) (D : va_G) (t : Nat → ClassId) (G : hG) (ak av : Nat → Nat) (h : hM) (wr pg pb ns sl od rt md sa su n : Nat) (fs g fa : Nat → Option Nat) (np sp : Int32) (f_wr : h wr = some (.inr (7, [.ref su, .ref pg]))) (f_pg : h pg = some (.inr (3, [.ref pb]))) (f_ns : h ns = some (.inr (2, [.ref sl, .ref od, .int 1, .int 1]))) (f_sl : h sl = some (.inl ((t 4), 30, .inr (.inr (.inr (.inr fs)))))) (f_od : h od = some (.inl ((t 4), 30, .inr (.inr (.inr (.inr g)))))) (f_rt : h rt = some (.inr (1, [.int 0, .null, .int 1, .long 0, .int 0, .int 0, .int 0, .int 0, .int 0, .int 20, .int np]))) (f_md : h md = some (.inr (0, [.ref sa, .int (nI (19 + 1))]))) (f_sa : h sa = some (.inl ((t 5), n, .inr (.inr (.inr (.inr fa)))))) (f_su : h su = some (.inr (4, [.int (-1), .int 0, .int sp]))) (hpb : pgF t h pb 2048) (hf0 : fs 0 = some rt) (hg0 : g 0 = some rt) (hrow : rowP (.inr (6, [.int 0, .int 0, .null])) fa (19 + 1) n h) (hn40 : 40 ≤ n) (hn : n ≤ 200) : Met l y_Wr_writeDirectories (.code y_Wr_writeDirectories b_Wr_writeDirectories 5 (some .int) :: lw_g) { frames := 4, cells := 1, slots := 2048, locals := 126 } (hP (kE D t G ak av) D vwCl G h [.ref wr, .ref ns, .ref md]) (hQi D vwCl G (fun r h' => r = 1 ∧ kx (.inr (6, [.int 0, .int 0, .null])) [pb, md, su] h h' ∧ rowP (.inr (6, [.int 0, .int 0, .null])) fa (20 + 1) n h' ∧ h' md = some (.inr (0, [.ref sa, .int (nI (20 + 1))])) ∧ h' su = some (.inr (4, [.int (-1), .int 0, .int (sp + 1)])) ∧ pgF t h' pb 2048)) 1 2048 G.P := by
  refine Met.ofW (cc := b_Wr_writeDirectories) (maxL := 5) (ret := (some .int)) (by decide) rfl ?_
  intro p e s m args below meth c s₁ Bd hml hv
  obtain ⟨ha, hE, hH⟩ := hv
  have hx := Bd.exec
  have hb := Bd.bytes
  have hr := Bd.returns
  have hts : ∀ w ∈ lw_g, w.before args s = true := fun w hw => atoms_spec (ws := (.code y_Wr_writeDirectories b_Wr_writeDirectories 5 (some .int) :: lw_g)) Bd.pre w (List.mem_cons_of_mem _ hw)
  have hown : s.vm.findClass R_Wr = some m.cls := findClass_of_methodNamed Bd.named
  have hlocks := Bd.notSynchronized
  have hK := hE.1
  have hH0 := hH
  have hLo : hLc G.P [] := hLc_nil
  have hz : s.heap.size ≤ s.heap.size := Nat.le_refl _
  have hkp : kx (.inr (6, [.int 0, .int 0, .null])) [pb, md, su] h h := kx_rf
  have hl := lv_entry [.ref wr, .ref ns, .ref md] (n := 5) (Nat.le_of_ble_eq_true rfl)
  rw [show entryFrame m args 5 = F0 m 0 ((lg_sl [.ref wr, .ref ns, .ref md] ++ List.replicate (5 - (lg_sl [.ref wr, .ref ns, .ref md]).length) Slot.unset).toArray) [] from (by rw [ha]; exact lg_entry_eq m [.ref wr, .ref ns, .ref md] 5)]
  generalize (lg_sl [.ref wr, .ref ns, .ref md] ++ List.replicate (5 - (lg_sl [.ref wr, .ref ns, .ref md]).length) Slot.unset).toArray = ls at hl ⊢
  have hl : lv_has ls 5 [(0, .ref wr), (1, .ref ns), (2, .ref md)] := hl
  obtain ⟨f, hfit, f_pb⟩ := hpb
  refine lv_iconst (v := 1) hx hb d_Wr_writeDirectories_0 (by decide) ?_
  refine lv_istore_n (lv' := [(3, .int 1), (0, .ref wr), (1, .ref ns), (2, .ref md)]) hx hb d_Wr_writeDirectories_1 rfl hl (by decide) rfl (fun ls hl => ?_)
  refine lv_iconst (v := 0) hx hb d_Wr_writeDirectories_2 (by decide) ?_
  refine lv_istore (lv' := [(4, .int 0), (3, .int 1), (0, .ref wr), (1, .ref ns), (2, .ref md)]) hx hb d_Wr_writeDirectories_3 hl (by decide) rfl (fun ls hl => ?_)
  refine lv_iload hx hb d_Wr_writeDirectories_5 (lv_at hl 0 rfl) ?_
  refine lv_aload_n hx hb d_Wr_writeDirectories_7 rfl (lv_at hl 3 rfl) ?_
  refine hm_get (ci := 2) (v := .int 1) (C := R_Ns) (T := F_Ns) (N := 4) hx hb hts ig_Ns hown hK hH f_ns rfl 2 (by decide) (hts _ mw_180) (fun _ h9 => h9) rfl d_Wr_writeDirectories_8 ?_
  refine lv_icmp_ge (tgt := 86) hx hb d_Wr_writeDirectories_11 (by decide) (fun hc1 => absurd hc1 (by decide)) (fun hc1 => ?_)
  refine lv_iload_n hx hb d_Wr_writeDirectories_14 rfl (lv_at hl 1 rfl) ?_
  refine lv_iconst (v := 1) hx hb d_Wr_writeDirectories_15 (by decide) ?_
  refine lv_icmp_ne (tgt := 86) hx hb d_Wr_writeDirectories_16 (by decide) (fun hc2 => absurd rfl hc2) (fun hc2 => ?_)
  refine lv_aload_n hx hb d_Wr_writeDirectories_19 rfl (lv_at hl 3 rfl) ?_
  refine hm_get (ci := 2) (v := .ref od) (C := R_Ns) (T := F_Ns) (N := 4) hx hb hts ig_Ns hown hK hH f_ns rfl 1 (by decide) (hts _ mw_181) (fun _ h9 => h9) rfl d_Wr_writeDirectories_20 ?_
  refine lv_iload hx hb d_Wr_writeDirectories_23 (lv_at hl 0 rfl) ?_
  refine hj_aald (v := .ref rt) hx hb hK hH 4 f_od (C := R_No) rfl 0 (by decide) (by decide) (by decide) (by rw [hg0]; rfl) d_Wr_writeDirectories_25 ?_
  refine hm_get (ci := 1) (v := .int 1) (C := R_No) (T := F_No) (N := 11) hx hb hts ig_No hown hK hH f_rt rfl 2 (by decide) (hts _ mw_182) (fun _ h9 => h9) rfl d_Wr_writeDirectories_26 ?_
  refine lv_if_eq (tgt := 80) hx hb d_Wr_writeDirectories_29 (by decide) (fun hc3 => absurd hc3 (by decide)) (fun hc3 => ?_)
  refine lv_aload_n hx hb d_Wr_writeDirectories_32 rfl (lv_at hl 2 rfl) ?_
  refine hm_get (ci := 7) (v := .ref pg) (C := R_Wr) (T := F_Wr) (N := 2) hx hb hts ig_Wr hown hK hH f_wr rfl 1 (by decide) (hts _ mw_56) (fun _ h9 => h9) rfl d_Wr_writeDirectories_33 ?_
  refine lv_aload_n hx hb d_Wr_writeDirectories_36 rfl (lv_at hl 3 rfl) ?_
  refine hm_get (ci := 2) (v := .ref od) (C := R_Ns) (T := F_Ns) (N := 4) hx hb hts ig_Ns hown hK hH f_ns rfl 1 (by decide) (hts _ mw_181) (fun _ h9 => h9) rfl d_Wr_writeDirectories_37 ?_
  refine lv_iload hx hb d_Wr_writeDirectories_40 (lv_at hl 0 rfl) ?_
  refine hj_aald (v := .ref rt) hx hb hK hH 4 f_od (C := R_No) rfl 0 (by decide) (by decide) (by decide) (by rw [hg0]; rfl) d_Wr_writeDirectories_42 ?_
  refine lv_aload_n hx hb d_Wr_writeDirectories_43 rfl (lv_at hl 3 rfl) ?_
  refine hm_get (ci := 2) (v := .ref od) (C := R_Ns) (T := F_Ns) (N := 4) hx hb hts ig_Ns hown hK hH f_ns rfl 1 (by decide) (hts _ mw_181) (fun _ h9 => h9) rfl d_Wr_writeDirectories_44 ?_
  refine lv_aload_n hx hb d_Wr_writeDirectories_47 rfl (lv_at hl 3 rfl) ?_
  refine hm_get (ci := 2) (v := .int 1) (C := R_Ns) (T := F_Ns) (N := 4) hx hb hts ig_Ns hown hK hH f_ns rfl 2 (by decide) (hts _ mw_180) (fun _ h9 => h9) rfl d_Wr_writeDirectories_48 ?_
  refine hm_callv (va_runV (As := [.ref rt, .ref od, .int 1]) (b := pg) (rest := []) ⟨hx, hb, hml, hown, hts⟩ (c_Page_directory l D t G ak av h pg pb od rt g 20 np f_pg ⟨f, hfit, f_pb⟩ f_od f_rt hg0) ⟨cw9B 3 hts mw_206 mw_207 mw_52 rfl rfl (by decide +kernel) ⟨Nat.le_of_ble_eq_true rfl, Nat.le_of_ble_eq_true rfl⟩, hts _ mw_208, hts _ mw_209⟩ (hP_V (q := (R_Pg, F_Pg, 1)) kE_ok hE hK hH f_pg rfl) rfl rfl hl.1 rfl (lv_room (Nat.le_of_ble_eq_true rfl)) d_Wr_writeDirectories_51 ⟨Nat.le_of_ble_eq_true rfl, Nat.le_of_ble_eq_true rfl⟩) hLo (fun h4 H5 locs hp7 hH z6 hLo => ?_)
  have hz : s.heap.size ≤ H5.size := Nat.le_trans hz z6
  obtain ⟨hk9, f, hfit, f_pb2⟩ := hp7
  have hrow : rowP (.inr (6, [.int 0, .int 0, .null])) fa (19 + 1) n h4 := rowP_kp hrow hk9 (List.forall_mem_cons.mpr ⟨by rw [f_pb]; simp, List.forall_mem_nil _⟩)
  have f_wr : h4 wr = some (.inr (7, [.ref su, .ref pg])) := kp_at hk9 f_wr (nmc (Ne.symm (h_neA f_pb f_wr)) nm0)
  have f_pg : h4 pg = some (.inr (3, [.ref pb])) := kp_at hk9 f_pg (nmc (Ne.symm (h_neA f_pb f_pg)) nm0)
  have f_ns : h4 ns = some (.inr (2, [.ref sl, .ref od, .int 1, .int 1])) := kp_at hk9 f_ns (nmc (Ne.symm (h_neA f_pb f_ns)) nm0)
  have f_sl : h4 sl = some (.inl ((t 4), 30, .inr (.inr (.inr (.inr fs))))) := kp_at hk9 f_sl (nmc (h_neK (k1 := 4) (k2 := 0) f_sl f_pb rfl rfl (by decide)) nm0)
  have f_od : h4 od = some (.inl ((t 4), 30, .inr (.inr (.inr (.inr g))))) := kp_at hk9 f_od (nmc (h_neK (k1 := 4) (k2 := 0) f_od f_pb rfl rfl (by decide)) nm0)
  have f_rt : h4 rt = some (.inr (1, [.int 0, .null, .int 1, .long 0, .int 0, .int 0, .int 0, .int 0, .int 0, .int 20, .int np])) := kp_at hk9 f_rt (nmc (Ne.symm (h_neA f_pb f_rt)) nm0)
  have f_md : h4 md = some (.inr (0, [.ref sa, .int (nI (19 + 1))])) := kp_at hk9 f_md (nmc (Ne.symm (h_neA f_pb f_md)) nm0)
  have f_sa : h4 sa = some (.inl ((t 5), n, .inr (.inr (.inr (.inr fa))))) := kp_at hk9 f_sa (nmc (h_neK (k1 := 4) (k2 := 0) f_sa f_pb rfl rfl (by decide)) nm0)
  have f_su : h4 su = some (.inr (4, [.int (-1), .int 0, .int sp])) := kp_at hk9 f_su (nmc (Ne.symm (h_neA f_pb f_su)) nm0)
  have hkp : kx (.inr (6, [.int 0, .int 0, .null])) [pb, md, su] h h4 := kx_trp hkp hk9 (List.forall_mem_cons.mpr ⟨Or.inl (by simp), List.forall_mem_nil _⟩)
  have f_pb : h4 pb = some (.inl ((t 0), 2048, .inl f)) := f_pb2
  refine lv_aload_n hx hb d_Wr_writeDirectories_54 rfl (lv_at hl 4 rfl) ?_
  refine lv_aload_n hx hb d_Wr_writeDirectories_55 rfl (lv_at hl 3 rfl) ?_
  refine hm_get (ci := 2) (v := .ref od) (C := R_Ns) (T := F_Ns) (N := 4) hx hb hts ig_Ns hown hK hH f_ns rfl 1 (by decide) (hts _ mw_181) (fun _ h9 => h9) rfl d_Wr_writeDirectories_56 ?_
  refine lv_iload hx hb d_Wr_writeDirectories_59 (lv_at hl 0 rfl) ?_
  refine hj_aald (v := .ref rt) hx hb hK hH 4 f_od (C := R_No) rfl 0 (by decide) (by decide) (by decide) (by rw [hg0]; rfl) d_Wr_writeDirectories_61 ?_
  refine hm_get (ci := 1) (v := .int 20) (C := R_No) (T := F_No) (N := 11) hx hb hts ig_No hown hK hH f_rt rfl 9 (by decide) (hts _ mw_183) (fun _ h9 => h9) rfl d_Wr_writeDirectories_62 ?_
  refine lv_topi (fun v8 e9 => ?_)
  obtain rfl : v8 = nI 20 := e9.trans (by decide)
  refine lv_aload_n hx hb d_Wr_writeDirectories_65 rfl (lv_at hl 2 rfl) ?_
  refine hm_get (ci := 7) (v := .ref pg) (C := R_Wr) (T := F_Wr) (N := 2) hx hb hts ig_Wr hown hK hH f_wr rfl 1 (by decide) (hts _ mw_56) (fun _ h9 => h9) rfl d_Wr_writeDirectories_66 ?_
  refine hm_get (ci := 3) (v := .ref pb) (C := R_Pg) (T := F_Pg) (N := 1) hx hb hts ig_Pg hown hK hH f_pg rfl 0 (by decide) (hts _ mw_200) (fun _ h9 => h9) rfl d_Wr_writeDirectories_69 ?_
  refine lv_aload_n hx hb d_Wr_writeDirectories_72 rfl (lv_at hl 2 rfl) ?_
  refine hm_get (ci := 7) (v := .ref su) (C := R_Wr) (T := F_Wr) (N := 2) hx hb hts ig_Wr hown hK hH f_wr rfl 0 (by decide) (hts _ mw_49) (fun _ h9 => h9) rfl d_Wr_writeDirectories_73 ?_
  refine hm_calli (va_runV (As := [.int (nI 20), .ref pb, .ref su]) (b := md) (rest := []) ⟨hx, hb, hml, hown, hts⟩ (c_Medium_write l D t G ak av h4 md sa pb su n 20 (19 + 1) fa sp f_md f_sa f_su ⟨f, hfit, f_pb⟩ (rowP_mono hrow (by decide)) (by omega) (by decide) (by omega)) ⟨cw9B 3 hts mw_201 mw_202 mw_163 rfl rfl (by decide +kernel) ⟨Nat.le_of_ble_eq_true rfl, Nat.le_of_ble_eq_true rfl⟩, hts _ mw_203, hts _ mw_204⟩ (hP_V (q := (R_Me, F_Me, 2)) kE_ok hE hK hH f_md rfl) rfl rfl hl.1 rfl (lv_room (Nat.le_of_ble_eq_true rfl)) d_Wr_writeDirectories_76 ⟨Nat.le_of_ble_eq_true rfl, Nat.le_of_ble_eq_true rfl⟩) hLo (fun r10 h11 H12 locs hp14 hH z13 hLo => ?_)
  have hz : s.heap.size ≤ H12.size := Nat.le_trans hz z13
  obtain ⟨rfl, hrow, hk9, hm9, hs9⟩ := hp14
  have f_wr : h11 wr = some (.inr (7, [.ref su, .ref pg])) := kx_at hk9 f_wr (nmc (h_neC f_wr f_md (by decide)) (nmc (h_neC f_wr f_su (by decide)) nm0)) (by simp)
  have f_pg : h11 pg = some (.inr (3, [.ref pb])) := kx_at hk9 f_pg (nmc (h_neC f_pg f_md (by decide)) (nmc (h_neC f_pg f_su (by decide)) nm0)) (by simp)
  have f_ns : h11 ns = some (.inr (2, [.ref sl, .ref od, .int 1, .int 1])) := kx_at hk9 f_ns (nmc (h_neC f_ns f_md (by decide)) (nmc (h_neC f_ns f_su (by decide)) nm0)) (by simp)
  have f_sl : h11 sl = some (.inl ((t 4), 30, .inr (.inr (.inr (.inr fs))))) := kx_at hk9 f_sl (nmc (h_neA f_sl f_md) (nmc (h_neA f_sl f_su) nm0)) (by simp)
  have f_od : h11 od = some (.inl ((t 4), 30, .inr (.inr (.inr (.inr g))))) := kx_at hk9 f_od (nmc (h_neA f_od f_md) (nmc (h_neA f_od f_su) nm0)) (by simp)
  have f_rt : h11 rt = some (.inr (1, [.int 0, .null, .int 1, .long 0, .int 0, .int 0, .int 0, .int 0, .int 0, .int 20, .int np])) := kx_at hk9 f_rt (nmc (h_neC f_rt f_md (by decide)) (nmc (h_neC f_rt f_su (by decide)) nm0)) (by simp)
  have f_sa : h11 sa = some (.inl ((t 5), n, .inr (.inr (.inr (.inr fa))))) := kx_at hk9 f_sa (nmc (h_neA f_sa f_md) (nmc (h_neA f_sa f_su) nm0)) (by simp)
  have f_pb : h11 pb = some (.inl ((t 0), 2048, .inl f)) := kx_at hk9 f_pb (nmc (h_neA f_pb f_md) (nmc (h_neA f_pb f_su) nm0)) (by simp)
  have hkp : kx (.inr (6, [.int 0, .int 0, .null])) [pb, md, su] h h11 := kx_trx hkp hk9 (List.forall_mem_cons.mpr ⟨Or.inl (by simp), List.forall_mem_cons.mpr ⟨Or.inl (by simp), List.forall_mem_nil _⟩⟩)
  have f_md : h11 md = some (.inr (0, [.ref sa, .int (nI (20 + 1))])) := hm9
  have f_su : h11 su = some (.inr (4, [.int (-1), .int 0, .int (sp + 1)])) := hs9
  refine lv_istore_n (lv' := [(3, .int 1), (4, .int 0), (0, .ref wr), (1, .ref ns), (2, .ref md)]) hx hb d_Wr_writeDirectories_79 rfl hl (by decide) rfl (fun ls hl => ?_)
  refine lv_iinc (v := 0 + 1) (lv' := [(4, .int (0 + 1)), (3, .int 1), (0, .ref wr), (1, .ref ns), (2, .ref md)]) hx hb d_Wr_writeDirectories_80 hl (k := 1) rfl (by rfl) (by decide) rfl (fun ls hl => ?_)
  refine lv_goto (tgt := 5) hx hb d_Wr_writeDirectories_83 (by decide) ?_
  refine lv_iload hx hb d_Wr_writeDirectories_5 (lv_at hl 0 rfl) ?_
  refine lv_aload_n hx hb d_Wr_writeDirectories_7 rfl (lv_at hl 3 rfl) ?_
  refine hm_get (ci := 2) (v := .int 1) (C := R_Ns) (T := F_Ns) (N := 4) hx hb hts ig_Ns hown hK hH f_ns rfl 2 (by decide) (hts _ mw_180) (fun _ h9 => h9) rfl d_Wr_writeDirectories_8 ?_
  refine lv_icmp_ge (tgt := 86) hx hb d_Wr_writeDirectories_11 (by decide) (fun hc15 => ?_) (fun hc15 => absurd (by decide) hc15)
  refine lv_iload_n hx hb d_Wr_writeDirectories_86 rfl (lv_at hl 1 rfl) ?_
  exact W.iret (v := 1) hx hb hr (fun t9 ht hW => ⟨1, h11, rfl, ⟨rfl, hkp, hrow, f_md, f_su, f, hfit, f_pb⟩, by rw [ht]; exact hH, by rw [ht]; exact hz⟩) hLo d_Wr_writeDirectories_87

set_option maxHeartbeats 4000000 in
set_option maxRecDepth 100000 in
theorem c_Writer_mark (l : Launch) (D : va_G) (t : Nat → ClassId) (G : hG) (ak av : Nat → Nat) (h : hM) (wr pg pb md sa su n : Nat) (fa : Nat → Option Nat) (sp nu : Int32) (f_wr : h wr = some (.inr (7, [.ref su, .ref pg]))) (f_pg : h pg = some (.inr (3, [.ref pb]))) (f_md : h md = some (.inr (0, [.ref sa, .int (nI (20 + 1))]))) (f_sa : h sa = some (.inl ((t 5), n, .inr (.inr (.inr (.inr fa)))))) (f_su : h su = some (.inr (4, [.int (-1), .int 0, .int sp]))) (hpb : pgF t h pb 2048) (hrow : rowP (.inr (6, [.int 0, .int 0, .null])) fa (20 + 1) n h) (hn40 : 40 ≤ n) (hn : n ≤ 200) : Met l y_Wr_writeMark (.code y_Wr_writeMark b_Wr_writeMark 4 (some .int) :: lw_g) { frames := 6, cells := 1, slots := 2048, locals := 130 } (hP (kE D t G ak av) D vwCl G h [.ref wr, .ref md, .int 0, .int nu]) (hQi D vwCl G (fun r h' => r = 1 ∧ kx (.inr (6, [.int 0, .int 0, .null])) [pb, md, su] h h')) 1 2048 G.P := by
  refine Met.ofW (cc := b_Wr_writeMark) (maxL := 4) (ret := (some .int)) (by decide) rfl ?_
  intro p e s m args below meth c s₁ Bd hml hv
  obtain ⟨ha, hE, hH⟩ := hv
  have hx := Bd.exec
  have hb := Bd.bytes
  have hr := Bd.returns
  have hts : ∀ w ∈ lw_g, w.before args s = true := fun w hw => atoms_spec (ws := (.code y_Wr_writeMark b_Wr_writeMark 4 (some .int) :: lw_g)) Bd.pre w (List.mem_cons_of_mem _ hw)
  have hown : s.vm.findClass R_Wr = some m.cls := findClass_of_methodNamed Bd.named
  have hlocks := Bd.notSynchronized
  have hK := hE.1
  have hH0 := hH
  have hLo : hLc G.P [] := hLc_nil
  have hz : s.heap.size ≤ s.heap.size := Nat.le_refl _
  have hkp : kx (.inr (6, [.int 0, .int 0, .null])) [pb, md, su] h h := kx_rf
  have hl := lv_entry [.ref wr, .ref md, .int 0, .int nu] (n := 4) (Nat.le_of_ble_eq_true rfl)
  rw [show entryFrame m args 4 = F0 m 0 ((lg_sl [.ref wr, .ref md, .int 0, .int nu] ++ List.replicate (4 - (lg_sl [.ref wr, .ref md, .int 0, .int nu]).length) Slot.unset).toArray) [] from (by rw [ha]; exact lg_entry_eq m [.ref wr, .ref md, .int 0, .int nu] 4)]
  generalize (lg_sl [.ref wr, .ref md, .int 0, .int nu] ++ List.replicate (4 - (lg_sl [.ref wr, .ref md, .int 0, .int nu]).length) Slot.unset).toArray = ls at hl ⊢
  have hl : lv_has ls 4 [(0, .ref wr), (1, .ref md), (2, .int 0), (3, .int nu)] := hl
  obtain ⟨f, hfit, f_pb⟩ := hpb
  refine lv_aload_n hx hb d_Wr_writeMark_0 rfl (lv_at hl 0 rfl) ?_
  refine hm_get (ci := 7) (v := .ref pg) (C := R_Wr) (T := F_Wr) (N := 2) hx hb hts ig_Wr hown hK hH f_wr rfl 1 (by decide) (hts _ mw_56) (fun _ h9 => h9) rfl d_Wr_writeMark_1 ?_
  refine lv_iload_n hx hb d_Wr_writeMark_4 rfl (lv_at hl 2 rfl) ?_
  refine lv_iload_n hx hb d_Wr_writeMark_5 rfl (lv_at hl 3 rfl) ?_
  refine hm_callv (va_runV (As := [.int 0, .int nu]) (b := pg) (rest := []) ⟨hx, hb, hml, hown, hts⟩ (c_Page_mark l D t G ak av h pg pb 0 nu f_pg ⟨f, hfit, f_pb⟩) ⟨cw9B 2 hts mw_210 mw_211 mw_52 rfl rfl (by decide +kernel) ⟨Nat.le_of_ble_eq_true rfl, Nat.le_of_ble_eq_true rfl⟩, hts _ mw_212, hts _ mw_213⟩ (hP_V (q := (R_Pg, F_Pg, 1)) kE_ok hE hK hH f_pg rfl) rfl rfl hl.1 rfl (lv_room (Nat.le_of_ble_eq_true rfl)) d_Wr_writeMark_6 ⟨Nat.le_of_ble_eq_true rfl, Nat.le_of_ble_eq_true rfl⟩) hLo (fun h1 H2 locs hp4 hH z3 hLo => ?_)
  have hz : s.heap.size ≤ H2.size := Nat.le_trans hz z3
  obtain ⟨hk9, f, hfit, f_pb2⟩ := hp4
  have hrow : rowP (.inr (6, [.int 0, .int 0, .null])) fa (20 + 1) n h1 := rowP_kp hrow hk9 (List.forall_mem_cons.mpr ⟨by rw [f_pb]; simp, List.forall_mem_nil _⟩)
  have f_wr : h1 wr = some (.inr (7, [.ref su, .ref pg])) := kp_at hk9 f_wr (nmc (Ne.symm (h_neA f_pb f_wr)) nm0)
  have f_pg : h1 pg = some (.inr (3, [.ref pb])) := kp_at hk9 f_pg (nmc (Ne.symm (h_neA f_pb f_pg)) nm0)
  have f_md : h1 md = some (.inr (0, [.ref sa, .int (nI (20 + 1))])) := kp_at hk9 f_md (nmc (Ne.symm (h_neA f_pb f_md)) nm0)
  have f_sa : h1 sa = some (.inl ((t 5), n, .inr (.inr (.inr (.inr fa))))) := kp_at hk9 f_sa (nmc (h_neK (k1 := 4) (k2 := 0) f_sa f_pb rfl rfl (by decide)) nm0)
  have f_su : h1 su = some (.inr (4, [.int (-1), .int 0, .int sp])) := kp_at hk9 f_su (nmc (Ne.symm (h_neA f_pb f_su)) nm0)
  have hkp : kx (.inr (6, [.int 0, .int 0, .null])) [pb, md, su] h h1 := kx_trp hkp hk9 (List.forall_mem_cons.mpr ⟨Or.inl (by simp), List.forall_mem_nil _⟩)
  have f_pb : h1 pb = some (.inl ((t 0), 2048, .inl f)) := f_pb2
  refine lv_aload_n hx hb d_Wr_writeMark_9 rfl (lv_at hl 1 rfl) ?_
  refine lv_aload_n hx hb d_Wr_writeMark_10 rfl (lv_at hl 1 rfl) ?_
  refine hm_get (ci := 0) (v := .int (nI (20 + 1))) (C := R_Me) (T := F_Me) (N := 2) hx hb hts ig_Me hown hK hH f_md rfl 1 (by decide) (hts _ mw_214) (fun _ h9 => h9) rfl d_Wr_writeMark_11 ?_
  refine lv_topi (fun v5 e6 => ?_)
  obtain rfl : v5 = nI 21 := e6.trans (by decide)
  refine lv_aload_n hx hb d_Wr_writeMark_14 rfl (lv_at hl 0 rfl) ?_
  refine hm_get (ci := 7) (v := .ref pg) (C := R_Wr) (T := F_Wr) (N := 2) hx hb hts ig_Wr hown hK hH f_wr rfl 1 (by decide) (hts _ mw_56) (fun _ h9 => h9) rfl d_Wr_writeMark_15 ?_
  refine hm_get (ci := 3) (v := .ref pb) (C := R_Pg) (T := F_Pg) (N := 1) hx hb hts ig_Pg hown hK hH f_pg rfl 0 (by decide) (hts _ mw_200) (fun _ h9 => h9) rfl d_Wr_writeMark_18 ?_
  refine lv_aload_n hx hb d_Wr_writeMark_21 rfl (lv_at hl 0 rfl) ?_
  refine hm_get (ci := 7) (v := .ref su) (C := R_Wr) (T := F_Wr) (N := 2) hx hb hts ig_Wr hown hK hH f_wr rfl 0 (by decide) (hts _ mw_49) (fun _ h9 => h9) rfl d_Wr_writeMark_22 ?_
  refine hm_calli (va_runV (As := [.int (nI 21), .ref pb, .ref su]) (b := md) (rest := []) ⟨hx, hb, hml, hown, hts⟩ (c_Medium_write l D t G ak av h1 md sa pb su n 21 (20 + 1) fa sp f_md f_sa f_su ⟨f, hfit, f_pb⟩ (rowP_mono hrow (by decide)) (by omega) (by decide) (by omega)) ⟨cw9B 3 hts mw_201 mw_202 mw_163 rfl rfl (by decide +kernel) ⟨Nat.le_of_ble_eq_true rfl, Nat.le_of_ble_eq_true rfl⟩, hts _ mw_203, hts _ mw_204⟩ (hP_V (q := (R_Me, F_Me, 2)) kE_ok hE hK hH f_md rfl) rfl rfl hl.1 rfl (lv_room (Nat.le_of_ble_eq_true rfl)) d_Wr_writeMark_25 ⟨Nat.le_of_ble_eq_true rfl, Nat.le_of_ble_eq_true rfl⟩) hLo (fun r7 h8 H9 locs hp11 hH z10 hLo => ?_)
  have hz : s.heap.size ≤ H9.size := Nat.le_trans hz z10
  obtain ⟨rfl, hrow, hk9, hm9, hs9⟩ := hp11
  have f_wr : h8 wr = some (.inr (7, [.ref su, .ref pg])) := kx_at hk9 f_wr (nmc (h_neC f_wr f_md (by decide)) (nmc (h_neC f_wr f_su (by decide)) nm0)) (by simp)
  have f_pg : h8 pg = some (.inr (3, [.ref pb])) := kx_at hk9 f_pg (nmc (h_neC f_pg f_md (by decide)) (nmc (h_neC f_pg f_su (by decide)) nm0)) (by simp)
  have f_sa : h8 sa = some (.inl ((t 5), n, .inr (.inr (.inr (.inr fa))))) := kx_at hk9 f_sa (nmc (h_neA f_sa f_md) (nmc (h_neA f_sa f_su) nm0)) (by simp)
  have f_pb : h8 pb = some (.inl ((t 0), 2048, .inl f)) := kx_at hk9 f_pb (nmc (h_neA f_pb f_md) (nmc (h_neA f_pb f_su) nm0)) (by simp)
  have hkp : kx (.inr (6, [.int 0, .int 0, .null])) [pb, md, su] h h8 := kx_trx hkp hk9 (List.forall_mem_cons.mpr ⟨Or.inl (by simp), List.forall_mem_cons.mpr ⟨Or.inl (by simp), List.forall_mem_nil _⟩⟩)
  have f_md : h8 md = some (.inr (0, [.ref sa, .int (nI (21 + 1))])) := hm9
  have f_su : h8 su = some (.inr (4, [.int (-1), .int 0, .int (sp + 1)])) := hs9
  exact W.iret (v := 1) hx hb hr (fun t9 ht hW => ⟨1, h8, rfl, ⟨rfl, hkp⟩, by rw [ht]; exact hH, by rw [ht]; exact hz⟩) hLo d_Wr_writeMark_28

set_option maxHeartbeats 4000000 in
set_option maxRecDepth 100000 in
theorem c_Writer_session (l : Launch) (D : va_G) (t : Nat → ClassId) (G : hG) (ak av : Nat → Nat) (h : hM) (wr pg pb ns sl od rt md sa su n : Nat) (fs g fa : Nat → Option Nat) (sc np sp : Int32) (nu : Int32) (f_wr : h wr = some (.inr (7, [.ref su, .ref pg]))) (f_pg : h pg = some (.inr (3, [.ref pb]))) (f_ns : h ns = some (.inr (2, [.ref sl, .ref od, .int 1, .int 1]))) (f_sl : h sl = some (.inl ((t 4), 30, .inr (.inr (.inr (.inr fs)))))) (f_od : h od = some (.inl ((t 4), 30, .inr (.inr (.inr (.inr g)))))) (f_rt : h rt = some (.inr (1, [.int 0, .null, .int 1, .long 0, .int 0, .int 0, .int 0, .int 0, .int 0, .int sc, .int np]))) (f_md : h md = some (.inr (0, [.ref sa, .int (nI 0)]))) (f_sa : h sa = some (.inl ((t 5), n, .inr (.inr (.inr (.inr fa)))))) (f_su : h su = some (.inr (4, [.int (-1), .int 0, .int sp]))) (hpb : pgF t h pb 2048) (hf0 : fs 0 = some rt) (hrow : rowP (.inr (6, [.int 0, .int 0, .null])) fa 0 n h) (hn40 : 40 ≤ n) (hn : n ≤ 200) (ne_sl_od : sl ≠ od) : Met l y_Wr_writeSession (.code y_Wr_writeSession b_Wr_writeSession 8 (some .int) :: lw_g) { frames := 8, cells := 6, slots := 12288, locals := 179 } (hP (kE D t G ak av) D vwCl G h [.ref wr, .ref ns, .ref md, .int nu]) (hQi D vwCl G (fun r h' => r = 1 ∧ kx (.inr (6, [.int 0, .int 0, .null])) [pb, rt, md, su, od] h h' ∧ h' rt = some (.inr (1, [.int 0, .null, .int 1, .long 0, .int 0, .int 0, .int 0, .int 0, .int 0, .int 20, .int (0 + 1)])))) 6 12288 G.P := by
  refine Met.ofW (cc := b_Wr_writeSession) (maxL := 8) (ret := (some .int)) (by decide) rfl ?_
  intro p e s m args below meth c s₁ Bd hml hv
  obtain ⟨ha, hE, hH⟩ := hv
  have hx := Bd.exec
  have hb := Bd.bytes
  have hr := Bd.returns
  have hts : ∀ w ∈ lw_g, w.before args s = true := fun w hw => atoms_spec (ws := (.code y_Wr_writeSession b_Wr_writeSession 8 (some .int) :: lw_g)) Bd.pre w (List.mem_cons_of_mem _ hw)
  have hown : s.vm.findClass R_Wr = some m.cls := findClass_of_methodNamed Bd.named
  have hlocks := Bd.notSynchronized
  have hK := hE.1
  have hH0 := hH
  have hLo : hLc G.P [] := hLc_nil
  have hz : s.heap.size ≤ s.heap.size := Nat.le_refl _
  have hkp : kx (.inr (6, [.int 0, .int 0, .null])) [pb, rt, md, su, od] h h := kx_rf
  have hl := lv_entry [.ref wr, .ref ns, .ref md, .int nu] (n := 8) (Nat.le_of_ble_eq_true rfl)
  rw [show entryFrame m args 8 = F0 m 0 ((lg_sl [.ref wr, .ref ns, .ref md, .int nu] ++ List.replicate (8 - (lg_sl [.ref wr, .ref ns, .ref md, .int nu]).length) Slot.unset).toArray) [] from (by rw [ha]; exact lg_entry_eq m [.ref wr, .ref ns, .ref md, .int nu] 8)]
  generalize (lg_sl [.ref wr, .ref ns, .ref md, .int nu] ++ List.replicate (8 - (lg_sl [.ref wr, .ref ns, .ref md, .int nu]).length) Slot.unset).toArray = ls at hl ⊢
  have hl : lv_has ls 8 [(0, .ref wr), (1, .ref ns), (2, .ref md), (3, .int nu)] := hl
  obtain ⟨f, hfit, f_pb⟩ := hpb
  refine lv_aload_n hx hb d_Wr_writeSession_0 rfl (lv_at hl 1 rfl) ?_
  refine hm_callv (va_runV (As := []) (b := ns) (rest := []) ⟨hx, hb, hml, hown, hts⟩ (c_Nodes_order l D t G ak av h ns sl od rt fs g sc np f_ns f_sl f_od f_rt hf0 ne_sl_od) ⟨cw9B 0 hts mw_215 mw_216 mw_187 rfl rfl (by decide +kernel) ⟨Nat.le_of_ble_eq_true rfl, Nat.le_of_ble_eq_true rfl⟩, hts _ mw_217, hts _ mw_218⟩ (hP_V (q := (R_Ns, F_Ns, 4)) kE_ok hE hK hH f_ns rfl) rfl rfl hl.1 rfl (lv_room (Nat.le_of_ble_eq_true rfl)) d_Wr_writeSession_1 ⟨Nat.le_of_ble_eq_true rfl, Nat.le_of_ble_eq_true rfl⟩) hLo (fun h1 H2 locs hp4 hH z3 hLo => ?_)
  have hz : s.heap.size ≤ H2.size := Nat.le_trans hz z3
  obtain ⟨hk9, ho9⟩ := hp4
  have hrow : rowP (.inr (6, [.int 0, .int 0, .null])) fa 0 n h1 := rowP_kp hrow hk9 (List.forall_mem_cons.mpr ⟨by rw [f_od]; simp, List.forall_mem_nil _⟩)
  have f_wr : h1 wr = some (.inr (7, [.ref su, .ref pg])) := kp_at hk9 f_wr (nmc (Ne.symm (h_neA f_od f_wr)) nm0)
  have f_pg : h1 pg = some (.inr (3, [.ref pb])) := kp_at hk9 f_pg (nmc (Ne.symm (h_neA f_od f_pg)) nm0)
  have f_ns : h1 ns = some (.inr (2, [.ref sl, .ref od, .int 1, .int 1])) := kp_at hk9 f_ns (nmc (Ne.symm (h_neA f_od f_ns)) nm0)
  have f_sl : h1 sl = some (.inl ((t 4), 30, .inr (.inr (.inr (.inr fs))))) := kp_at hk9 f_sl (nmc ne_sl_od nm0)
  have f_rt : h1 rt = some (.inr (1, [.int 0, .null, .int 1, .long 0, .int 0, .int 0, .int 0, .int 0, .int 0, .int sc, .int np])) := kp_at hk9 f_rt (nmc (Ne.symm (h_neA f_od f_rt)) nm0)
  have f_md : h1 md = some (.inr (0, [.ref sa, .int (nI 0)])) := kp_at hk9 f_md (nmc (Ne.symm (h_neA f_od f_md)) nm0)
  have f_sa : h1 sa = some (.inl ((t 5), n, .inr (.inr (.inr (.inr fa))))) := kp_at hk9 f_sa (nmc (h_neL (k1 := n) (k2 := 30) f_sa f_od rfl rfl (by omega)) nm0)
  have f_su : h1 su = some (.inr (4, [.int (-1), .int 0, .int sp])) := kp_at hk9 f_su (nmc (Ne.symm (h_neA f_od f_su)) nm0)
  have f_pb : h1 pb = some (.inl ((t 0), 2048, .inl f)) := kp_at hk9 f_pb (nmc (h_neK (k1 := 0) (k2 := 4) f_pb f_od rfl rfl (by decide)) nm0)
  have hkp : kx (.inr (6, [.int 0, .int 0, .null])) [pb, rt, md, su, od] h h1 := kx_trp hkp hk9 (List.forall_mem_cons.mpr ⟨Or.inl (by simp), List.forall_mem_nil _⟩)
  have f_od : h1 od = some (.inl ((t 4), 30, .inr (.inr (.inr (.inr (va_up g 0 (some rt))))))) := ho9
  have hg0 := va_up_self g 0 (some rt)
  refine lv_iconst (v := 0) hx hb d_Wr_writeSession_4 (by decide) ?_
  refine lv_istore (lv' := [(4, .int 0), (0, .ref wr), (1, .ref ns), (2, .ref md), (3, .int nu)]) hx hb d_Wr_writeSession_5 hl (by decide) rfl (fun ls hl => ?_)
  refine lv_iload hx hb d_Wr_writeSession_7 (lv_at hl 0 rfl) ?_
  refine lv_aload_n hx hb d_Wr_writeSession_9 rfl (lv_at hl 3 rfl) ?_
  refine hm_get (ci := 0) (v := .ref sa) (C := R_Me) (T := F_Me) (N := 2) hx hb hts ig_Me hown hK hH f_md rfl 0 (by decide) (hts _ mw_219) (fun _ h9 => h9) rfl d_Wr_writeSession_10 ?_
  refine hm_alen (v := nI n) hx hb hK hH 5 f_sa (ty := (.object "WriteOnceDisc$Sector")) rfl rfl d_Wr_writeSession_13 ?_
  refine lv_icmp_gt (tgt := 109) hx hb d_Wr_writeSession_14 (by decide) (fun hc5 => absurd hc5 (rmz0 hn40 hn)) (fun hc5 => ?_)
  refine lv_aload_n hx hb d_Wr_writeSession_17 rfl (lv_at hl 3 rfl) ?_
  refine hm_get (ci := 0) (v := .int (nI 0)) (C := R_Me) (T := F_Me) (N := 2) hx hb hts ig_Me hown hK hH f_md rfl 1 (by decide) (hts _ mw_214) (fun _ h9 => h9) rfl d_Wr_writeSession_18 ?_
  refine lv_topi (fun v6 e7 => ?_)
  obtain rfl : v6 = 0 := e7.trans (nI_0)
  refine lv_istore (lv' := [(5, .int 0), (4, .int 0), (0, .ref wr), (1, .ref ns), (2, .ref md), (3, .int nu)]) hx hb d_Wr_writeSession_21 hl (by decide) rfl (fun ls hl => ?_)
  refine lv_aload_n hx hb d_Wr_writeSession_23 rfl (lv_at hl 2 rfl) ?_
  refine lv_aload_n hx hb d_Wr_writeSession_24 rfl (lv_at hl 3 rfl) ?_
  refine lv_iload hx hb d_Wr_writeSession_25 (lv_at hl 0 rfl) ?_
  refine lv_bipush (v := 20) hx hb d_Wr_writeSession_27 (by decide) ?_
  refine lv_iadd hx hb d_Wr_writeSession_29 ?_
  refine hm_calli (va_runV (As := [.ref ns, .int (0 + 20)]) (b := wr) (rest := []) ⟨hx, hb, hml, hown, hts⟩ (c_Writer_place l D t G ak av h1 wr ns sl od rt _ sc np (0 + 20) f_ns f_od f_rt hg0) ⟨cw9B 2 hts mw_220 mw_222 mw_221 rfl rfl (by decide +kernel) ⟨Nat.le_of_ble_eq_true rfl, Nat.le_of_ble_eq_true rfl⟩, hts _ mw_223, hts _ mw_224⟩ (hP_V (q := (R_Wr, F_Wr, 2)) kE_ok hE hK hH f_wr rfl) rfl rfl hl.1 rfl (lv_room (Nat.le_of_ble_eq_true rfl)) d_Wr_writeSession_30 ⟨Nat.le_of_ble_eq_true rfl, Nat.le_of_ble_eq_true rfl⟩) hLo (fun r8 h9 H10 locs hp12 hH z11 hLo => ?_)
  have hz : s.heap.size ≤ H10.size := Nat.le_trans hz z11
  obtain ⟨rfl, hk9, hr9⟩ := hp12
  have hrow : rowP (.inr (6, [.int 0, .int 0, .null])) fa 0 n h9 := rowP_kp hrow hk9 (List.forall_mem_cons.mpr ⟨by rw [f_rt]; simp, List.forall_mem_nil _⟩)
  have f_wr : h9 wr = some (.inr (7, [.ref su, .ref pg])) := kp_at hk9 f_wr (nmc (h_neC f_wr f_rt (by decide)) nm0)
  have f_pg : h9 pg = some (.inr (3, [.ref pb])) := kp_at hk9 f_pg (nmc (h_neC f_pg f_rt (by decide)) nm0)
  have f_ns : h9 ns = some (.inr (2, [.ref sl, .ref od, .int 1, .int 1])) := kp_at hk9 f_ns (nmc (h_neC f_ns f_rt (by decide)) nm0)
  have f_sl : h9 sl = some (.inl ((t 4), 30, .inr (.inr (.inr (.inr fs))))) := kp_at hk9 f_sl (nmc (h_neA f_sl f_rt) nm0)
  have f_od : h9 od = some (.inl ((t 4), 30, .inr (.inr (.inr (.inr (va_up g 0 (some rt))))))) := kp_at hk9 f_od (nmc (h_neA f_od f_rt) nm0)
  have f_md : h9 md = some (.inr (0, [.ref sa, .int (nI 0)])) := kp_at hk9 f_md (nmc (h_neC f_md f_rt (by decide)) nm0)
  have f_sa : h9 sa = some (.inl ((t 5), n, .inr (.inr (.inr (.inr fa))))) := kp_at hk9 f_sa (nmc (h_neA f_sa f_rt) nm0)
  have f_su : h9 su = some (.inr (4, [.int (-1), .int 0, .int sp])) := kp_at hk9 f_su (nmc (h_neC f_su f_rt (by decide)) nm0)
  have f_pb : h9 pb = some (.inl ((t 0), 2048, .inl f)) := kp_at hk9 f_pb (nmc (h_neA f_pb f_rt) nm0)
  have hkp : kx (.inr (6, [.int 0, .int 0, .null])) [pb, rt, md, su, od] h h9 := kx_trp hkp hk9 (List.forall_mem_cons.mpr ⟨Or.inl (by simp), List.forall_mem_nil _⟩)
  have f_rt : h9 rt = some (.inr (1, [.int 0, .null, .int 1, .long 0, .int 0, .int 0, .int 0, .int 0, .int 0, .int 20, .int np])) := hr9
  refine lv_istore (lv' := [(6, .int (0 + 1)), (5, .int 0), (4, .int 0), (0, .ref wr), (1, .ref ns), (2, .ref md), (3, .int nu)]) hx hb d_Wr_writeSession_33 hl (by decide) rfl (fun ls hl => ?_)
  refine lv_aload_n hx hb d_Wr_writeSession_35 rfl (lv_at hl 5 rfl) ?_
  refine lv_iload hx hb d_Wr_writeSession_36 (lv_at hl 1 rfl) ?_
  refine lv_bipush (v := 20) hx hb d_Wr_writeSession_38 (by decide) ?_
  refine lv_iload hx hb d_Wr_writeSession_40 (lv_at hl 0 rfl) ?_
  refine lv_iadd hx hb d_Wr_writeSession_42 ?_
  refine lv_iconst (v := 1) hx hb d_Wr_writeSession_43 (by decide) ?_
  refine lv_iadd hx hb d_Wr_writeSession_44 ?_
  refine hm_calli (va_runV (As := [.int 0, .int ((20 + (0 + 1)) + 1)]) (b := md) (rest := []) ⟨hx, hb, hml, hown, hts⟩ (c_Medium_hasRoom l D t G ak av h9 md sa n fa (nI 0) 0 (20 + (0 + 1) + 1) f_md f_sa (rmz22 hn40 hn)) ⟨cw9B 2 hts mw_225 mw_226 mw_163 rfl rfl (by decide +kernel) ⟨Nat.le_of_ble_eq_true rfl, Nat.le_of_ble_eq_true rfl⟩, hts _ mw_227, hts _ mw_228⟩ (hP_V (q := (R_Me, F_Me, 2)) kE_ok hE hK hH f_md rfl) rfl rfl hl.1 rfl (lv_room (Nat.le_of_ble_eq_true rfl)) d_Wr_writeSession_45 ⟨Nat.le_of_ble_eq_true rfl, Nat.le_of_ble_eq_true rfl⟩) hLo (fun r13 h14 H15 locs hp17 hH z16 hLo => ?_)
  have hz : s.heap.size ≤ H15.size := Nat.le_trans hz z16
  obtain ⟨rfl, rfl⟩ := hp17
  refine lv_if_ne (tgt := 54) hx hb d_Wr_writeSession_48 (by decide) (fun hc18 => ?_) (fun hc18 => absurd hc18 (by decide))
  refine lv_aload_n hx hb d_Wr_writeSession_54 rfl (lv_at hl 3 rfl) ?_
  refine lv_aload_n hx hb d_Wr_writeSession_55 rfl (lv_at hl 4 rfl) ?_
  refine lv_aload_n hx hb d_Wr_writeSession_56 rfl (lv_at hl 5 rfl) ?_
  refine lv_iload hx hb d_Wr_writeSession_57 (lv_at hl 1 rfl) ?_
  refine hm_calli (va_runV (As := [.ref ns, .ref md, .int 0]) (b := wr) (rest := []) ⟨hx, hb, hml, hown, hts⟩ (c_Writer_head l D t G ak av h9 wr pg pb ns sl od rt md sa su n fs _ fa 20 np sp f_wr f_pg f_ns f_sl f_od f_rt f_md f_sa f_su ⟨f, hfit, f_pb⟩ hf0 hg0 hrow hn40 hn) ⟨cw9B 3 hts mw_229 mw_230 mw_221 rfl rfl (by decide +kernel) ⟨Nat.le_of_ble_eq_true rfl, Nat.le_of_ble_eq_true rfl⟩, hts _ mw_231, hts _ mw_232⟩ (hP_V (q := (R_Wr, F_Wr, 2)) kE_ok hE hK hH f_wr rfl) rfl rfl hl.1 rfl (lv_room (Nat.le_of_ble_eq_true rfl)) d_Wr_writeSession_59 ⟨Nat.le_of_ble_eq_true rfl, Nat.le_of_ble_eq_true rfl⟩) hLo (fun r19 h20 H21 locs hp23 hH z22 hLo => ?_)
  have hz : s.heap.size ≤ H21.size := Nat.le_trans hz z22
  obtain ⟨rfl, hk9, hrow, hr9, hm9, hs9, f, hfit, f_pb2⟩ := hp23
  have f_wr : h20 wr = some (.inr (7, [.ref su, .ref pg])) := kx_at hk9 f_wr (nmc (Ne.symm (h_neA f_pb f_wr)) (nmc (h_neC f_wr f_rt (by decide)) (nmc (h_neC f_wr f_md (by decide)) (nmc (h_neC f_wr f_su (by decide)) nm0)))) (by simp)
  have f_pg : h20 pg = some (.inr (3, [.ref pb])) := kx_at hk9 f_pg (nmc (Ne.symm (h_neA f_pb f_pg)) (nmc (h_neC f_pg f_rt (by decide)) (nmc (h_neC f_pg f_md (by decide)) (nmc (h_neC f_pg f_su (by decide)) nm0)))) (by simp)
  have f_ns : h20 ns = some (.inr (2, [.ref sl, .ref od, .int 1, .int 1])) := kx_at hk9 f_ns (nmc (Ne.symm (h_neA f_pb f_ns)) (nmc (h_neC f_ns f_rt (by decide)) (nmc (h_neC f_ns f_md (by decide)) (nmc (h_neC f_ns f_su (by decide)) nm0)))) (by simp)
  have f_sl : h20 sl = some (.inl ((t 4), 30, .inr (.inr (.inr (.inr fs))))) := kx_at hk9 f_sl (nmc (h_neK (k1 := 4) (k2 := 0) f_sl f_pb rfl rfl (by decide)) (nmc (h_neA f_sl f_rt) (nmc (h_neA f_sl f_md) (nmc (h_neA f_sl f_su) nm0)))) (by simp)
  have f_od : h20 od = some (.inl ((t 4), 30, .inr (.inr (.inr (.inr (va_up g 0 (some rt))))))) := kx_at hk9 f_od (nmc (h_neK (k1 := 4) (k2 := 0) f_od f_pb rfl rfl (by decide)) (nmc (h_neA f_od f_rt) (nmc (h_neA f_od f_md) (nmc (h_neA f_od f_su) nm0)))) (by simp)
  have f_sa : h20 sa = some (.inl ((t 5), n, .inr (.inr (.inr (.inr fa))))) := kx_at hk9 f_sa (nmc (h_neK (k1 := 4) (k2 := 0) f_sa f_pb rfl rfl (by decide)) (nmc (h_neA f_sa f_rt) (nmc (h_neA f_sa f_md) (nmc (h_neA f_sa f_su) nm0)))) (by simp)
  have hkp : kx (.inr (6, [.int 0, .int 0, .null])) [pb, rt, md, su, od] h h20 := kx_trx hkp hk9 (List.forall_mem_cons.mpr ⟨Or.inl (by simp), List.forall_mem_cons.mpr ⟨Or.inl (by simp), List.forall_mem_cons.mpr ⟨Or.inl (by simp), List.forall_mem_cons.mpr ⟨Or.inl (by simp), List.forall_mem_nil _⟩⟩⟩⟩)
  have f_rt : h20 rt = some (.inr (1, [.int 0, .null, .int 1, .long 0, .int 0, .int 0, .int 0, .int 0, .int 0, .int 20, .int (0 + 1)])) := hr9
  have f_md : h20 md = some (.inr (0, [.ref sa, .int (nI (19 + 1))])) := hm9
  have f_su : h20 su = some (.inr (4, [.int (-1), .int 0, .int (sp + 1 + 1 + 1 + 1)])) := hs9
  have f_pb : h20 pb = some (.inl ((t 0), 2048, .inl f)) := f_pb2
  refine lv_istore (lv' := [(7, .int 1), (6, .int (0 + 1)), (5, .int 0), (4, .int 0), (0, .ref wr), (1, .ref ns), (2, .ref md), (3, .int nu)]) hx hb d_Wr_writeSession_62 hl (by decide) rfl (fun ls hl => ?_)
  refine lv_iload hx hb d_Wr_writeSession_64 (lv_at hl 0 rfl) ?_
  refine lv_iconst (v := 1) hx hb d_Wr_writeSession_66 (by decide) ?_
  refine lv_icmp_ne (tgt := 78) hx hb d_Wr_writeSession_67 (by decide) (fun hc24 => absurd rfl hc24) (fun hc24 => ?_)
  refine lv_aload_n hx hb d_Wr_writeSession_70 rfl (lv_at hl 4 rfl) ?_
  refine lv_aload_n hx hb d_Wr_writeSession_71 rfl (lv_at hl 5 rfl) ?_
  refine lv_aload_n hx hb d_Wr_writeSession_72 rfl (lv_at hl 6 rfl) ?_
  refine hm_calli (va_runV (As := [.ref ns, .ref md]) (b := wr) (rest := []) ⟨hx, hb, hml, hown, hts⟩ (c_Writer_dirs l D t G ak av h20 wr pg pb ns sl od rt md sa su n fs _ fa (0 + 1) (sp + 1 + 1 + 1 + 1) f_wr f_pg f_ns f_sl f_od f_rt f_md f_sa f_su ⟨f, hfit, f_pb⟩ hf0 hg0 hrow hn40 hn) ⟨cw9B 2 hts mw_233 mw_234 mw_221 rfl rfl (by decide +kernel) ⟨Nat.le_of_ble_eq_true rfl, Nat.le_of_ble_eq_true rfl⟩, hts _ mw_235, hts _ mw_236⟩ (hP_V (q := (R_Wr, F_Wr, 2)) kE_ok hE hK hH f_wr rfl) rfl rfl hl.1 rfl (lv_room (Nat.le_of_ble_eq_true rfl)) d_Wr_writeSession_73 ⟨Nat.le_of_ble_eq_true rfl, Nat.le_of_ble_eq_true rfl⟩) hLo (fun r25 h26 H27 locs hp29 hH z28 hLo => ?_)
  have hz : s.heap.size ≤ H27.size := Nat.le_trans hz z28
  obtain ⟨rfl, hk9, hrow, hm9, hs9, f, hfit, f_pb2⟩ := hp29
  have f_wr : h26 wr = some (.inr (7, [.ref su, .ref pg])) := kx_at hk9 f_wr (nmc (Ne.symm (h_neA f_pb f_wr)) (nmc (h_neC f_wr f_md (by decide)) (nmc (h_neC f_wr f_su (by decide)) nm0))) (by simp)
  have f_pg : h26 pg = some (.inr (3, [.ref pb])) := kx_at hk9 f_pg (nmc (Ne.symm (h_neA f_pb f_pg)) (nmc (h_neC f_pg f_md (by decide)) (nmc (h_neC f_pg f_su (by decide)) nm0))) (by simp)
  have f_ns : h26 ns = some (.inr (2, [.ref sl, .ref od, .int 1, .int 1])) := kx_at hk9 f_ns (nmc (Ne.symm (h_neA f_pb f_ns)) (nmc (h_neC f_ns f_md (by decide)) (nmc (h_neC f_ns f_su (by decide)) nm0))) (by simp)
  have f_sl : h26 sl = some (.inl ((t 4), 30, .inr (.inr (.inr (.inr fs))))) := kx_at hk9 f_sl (nmc (h_neK (k1 := 4) (k2 := 0) f_sl f_pb rfl rfl (by decide)) (nmc (h_neA f_sl f_md) (nmc (h_neA f_sl f_su) nm0))) (by simp)
  have f_od : h26 od = some (.inl ((t 4), 30, .inr (.inr (.inr (.inr (va_up g 0 (some rt))))))) := kx_at hk9 f_od (nmc (h_neK (k1 := 4) (k2 := 0) f_od f_pb rfl rfl (by decide)) (nmc (h_neA f_od f_md) (nmc (h_neA f_od f_su) nm0))) (by simp)
  have f_rt : h26 rt = some (.inr (1, [.int 0, .null, .int 1, .long 0, .int 0, .int 0, .int 0, .int 0, .int 0, .int 20, .int (0 + 1)])) := kx_at hk9 f_rt (nmc (Ne.symm (h_neA f_pb f_rt)) (nmc (h_neC f_rt f_md (by decide)) (nmc (h_neC f_rt f_su (by decide)) nm0))) (by simp)
  have f_sa : h26 sa = some (.inl ((t 5), n, .inr (.inr (.inr (.inr fa))))) := kx_at hk9 f_sa (nmc (h_neK (k1 := 4) (k2 := 0) f_sa f_pb rfl rfl (by decide)) (nmc (h_neA f_sa f_md) (nmc (h_neA f_sa f_su) nm0))) (by simp)
  have hkp : kx (.inr (6, [.int 0, .int 0, .null])) [pb, rt, md, su, od] h h26 := kx_trx hkp hk9 (List.forall_mem_cons.mpr ⟨Or.inl (by simp), List.forall_mem_cons.mpr ⟨Or.inl (by simp), List.forall_mem_cons.mpr ⟨Or.inl (by simp), List.forall_mem_nil _⟩⟩⟩)
  have f_md : h26 md = some (.inr (0, [.ref sa, .int (nI (20 + 1))])) := hm9
  have f_su : h26 su = some (.inr (4, [.int (-1), .int 0, .int (sp + 1 + 1 + 1 + 1 + 1)])) := hs9
  have f_pb : h26 pb = some (.inl ((t 0), 2048, .inl f)) := f_pb2
  refine lv_istore (lv' := [(7, .int 1), (6, .int (0 + 1)), (5, .int 0), (4, .int 0), (0, .ref wr), (1, .ref ns), (2, .ref md), (3, .int nu)]) hx hb d_Wr_writeSession_76 hl (by decide) rfl (fun ls hl => ?_)
  refine lv_iload hx hb d_Wr_writeSession_78 (lv_at hl 0 rfl) ?_
  refine lv_iconst (v := 1) hx hb d_Wr_writeSession_80 (by decide) ?_
  refine lv_icmp_ne (tgt := 94) hx hb d_Wr_writeSession_81 (by decide) (fun hc30 => absurd rfl hc30) (fun hc30 => ?_)
  refine lv_aload_n hx hb d_Wr_writeSession_84 rfl (lv_at hl 4 rfl) ?_
  refine lv_aload_n hx hb d_Wr_writeSession_85 rfl (lv_at hl 6 rfl) ?_
  refine lv_iload hx hb d_Wr_writeSession_86 (lv_at hl 2 rfl) ?_
  refine lv_iload_n hx hb d_Wr_writeSession_88 rfl (lv_at hl 7 rfl) ?_
  refine hm_calli (va_runV (As := [.ref md, .int 0, .int nu]) (b := wr) (rest := []) ⟨hx, hb, hml, hown, hts⟩ (c_Writer_mark l D t G ak av h26 wr pg pb md sa su n fa (sp + 1 + 1 + 1 + 1 + 1) nu f_wr f_pg f_md f_sa f_su ⟨f, hfit, f_pb⟩ hrow hn40 hn) ⟨cw9B 3 hts mw_237 mw_238 mw_221 rfl rfl (by decide +kernel) ⟨Nat.le_of_ble_eq_true rfl, Nat.le_of_ble_eq_true rfl⟩, hts _ mw_239, hts _ mw_240⟩ (hP_V (q := (R_Wr, F_Wr, 2)) kE_ok hE hK hH f_wr rfl) rfl rfl hl.1 rfl (lv_room (Nat.le_of_ble_eq_true rfl)) d_Wr_writeSession_89 ⟨Nat.le_of_ble_eq_true rfl, Nat.le_of_ble_eq_true rfl⟩) hLo (fun r31 h32 H33 locs hp35 hH z34 hLo => ?_)
  have hz : s.heap.size ≤ H33.size := Nat.le_trans hz z34
  obtain ⟨rfl, hk9⟩ := hp35
  have f_wr : h32 wr = some (.inr (7, [.ref su, .ref pg])) := kx_at hk9 f_wr (nmc (Ne.symm (h_neA f_pb f_wr)) (nmc (h_neC f_wr f_md (by decide)) (nmc (h_neC f_wr f_su (by decide)) nm0))) (by simp)
  have f_pg : h32 pg = some (.inr (3, [.ref pb])) := kx_at hk9 f_pg (nmc (Ne.symm (h_neA f_pb f_pg)) (nmc (h_neC f_pg f_md (by decide)) (nmc (h_neC f_pg f_su (by decide)) nm0))) (by simp)
  have f_ns : h32 ns = some (.inr (2, [.ref sl, .ref od, .int 1, .int 1])) := kx_at hk9 f_ns (nmc (Ne.symm (h_neA f_pb f_ns)) (nmc (h_neC f_ns f_md (by decide)) (nmc (h_neC f_ns f_su (by decide)) nm0))) (by simp)
  have f_sl : h32 sl = some (.inl ((t 4), 30, .inr (.inr (.inr (.inr fs))))) := kx_at hk9 f_sl (nmc (h_neK (k1 := 4) (k2 := 0) f_sl f_pb rfl rfl (by decide)) (nmc (h_neA f_sl f_md) (nmc (h_neA f_sl f_su) nm0))) (by simp)
  have f_od : h32 od = some (.inl ((t 4), 30, .inr (.inr (.inr (.inr (va_up g 0 (some rt))))))) := kx_at hk9 f_od (nmc (h_neK (k1 := 4) (k2 := 0) f_od f_pb rfl rfl (by decide)) (nmc (h_neA f_od f_md) (nmc (h_neA f_od f_su) nm0))) (by simp)
  have f_rt : h32 rt = some (.inr (1, [.int 0, .null, .int 1, .long 0, .int 0, .int 0, .int 0, .int 0, .int 0, .int 20, .int (0 + 1)])) := kx_at hk9 f_rt (nmc (Ne.symm (h_neA f_pb f_rt)) (nmc (h_neC f_rt f_md (by decide)) (nmc (h_neC f_rt f_su (by decide)) nm0))) (by simp)
  have f_sa : h32 sa = some (.inl ((t 5), n, .inr (.inr (.inr (.inr fa))))) := kx_at hk9 f_sa (nmc (h_neK (k1 := 4) (k2 := 0) f_sa f_pb rfl rfl (by decide)) (nmc (h_neA f_sa f_md) (nmc (h_neA f_sa f_su) nm0))) (by simp)
  have hkp : kx (.inr (6, [.int 0, .int 0, .null])) [pb, rt, md, su, od] h h32 := kx_trx hkp hk9 (List.forall_mem_cons.mpr ⟨Or.inl (by simp), List.forall_mem_cons.mpr ⟨Or.inl (by simp), List.forall_mem_cons.mpr ⟨Or.inl (by simp), List.forall_mem_nil _⟩⟩⟩)
  refine lv_istore (lv' := [(7, .int 1), (6, .int (0 + 1)), (5, .int 0), (4, .int 0), (0, .ref wr), (1, .ref ns), (2, .ref md), (3, .int nu)]) hx hb d_Wr_writeSession_92 hl (by decide) rfl (fun ls hl => ?_)
  refine lv_iload hx hb d_Wr_writeSession_94 (lv_at hl 0 rfl) ?_
  refine lv_iconst (v := 2) hx hb d_Wr_writeSession_96 (by decide) ?_
  refine lv_icmp_eq (tgt := 103) hx hb d_Wr_writeSession_97 (by decide) (fun hc36 => absurd hc36 (by decide)) (fun hc36 => ?_)
  refine lv_iload hx hb d_Wr_writeSession_100 (lv_at hl 0 rfl) ?_
  exact W.iret (v := 1) hx hb hr (fun t9 ht hW => ⟨1, h32, rfl, ⟨rfl, hkp, f_rt⟩, by rw [ht]; exact hH, by rw [ht]; exact hz⟩) hLo d_Wr_writeSession_102
