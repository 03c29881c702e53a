set_option maxRecDepth 100000 in
theorem mw_171 : Cond.methodLink R_Pg 124 y_No_identifierLength ∈ lw_g := lw_gin (List.mem_append_right _ (List.mem_of_getElem? (i := 549) rfl)) (by decide +kernel)
set_option maxRecDepth 100000 in
theorem mw_172 : Cond.methodLink R_Pg 127 y_No_identifierByte ∈ lw_g := lw_gin (List.mem_append_right _ (List.mem_of_getElem? (i := 550) rfl)) (by decide +kernel)
set_option maxRecDepth 100000 in
theorem mw_173 : Cond.code y_Di_evened b_Di_evened 1 (some .int) ∈ lw_g := lw_gin (List.mem_append_right _ (List.mem_of_getElem? (i := 553) rfl)) (by decide +kernel)
set_option maxRecDepth 100000 in
theorem mw_174 : Cond.static y_Di_evened ∈ lw_g := lw_gin (List.mem_append_right _ (List.mem_of_getElem? (i := 552) rfl)) (by decide +kernel)
set_option maxRecDepth 100000 in
theorem mw_175 : Cond.fieldLink R_Pg 114 "WriteOnceDisc$Node" "sector" "I" ∈ lw_g := lw_gin (List.mem_append_right _ (List.mem_of_getElem? (i := 127) rfl)) (by decide +kernel)
set_option maxRecDepth 100000 in
theorem mw_176 : Cond.code y_Pg_putBoth b_Pg_putBoth 5 none ∈ lw_g := lw_gin (List.mem_append_right _ (List.mem_of_getElem? (i := 572) rfl)) (by decide +kernel)
set_option maxRecDepth 100000 in
theorem mw_177 : Cond.methodLink R_Pg 60 y_Pg_putBoth ∈ lw_g := lw_gin (List.mem_append_right _ (List.mem_of_getElem? (i := 569) rfl)) (by decide +kernel)
set_option maxRecDepth 100000 in
theorem mw_178 : Cond.instanceMethod y_Pg_putBoth ∈ lw_g := lw_gin (List.mem_append_right _ (List.mem_of_getElem? (i := 570) rfl)) (by decide +kernel)
set_option maxRecDepth 100000 in
theorem mw_179 : Cond.selects R_Pg y_Pg_putBoth y_Pg_putBoth ∈ lw_g := lw_gin (List.mem_append_right _ (List.mem_of_getElem? (i := 571) rfl)) (by decide +kernel)
set_option maxRecDepth 100000 in
theorem mw_180 : Cond.code y_Pg_putIdentifier b_Pg_putIdentifier 4 none ∈ lw_g := lw_gin (List.mem_append_right _ (List.mem_of_getElem? (i := 548) rfl)) (by decide +kernel)
set_option maxRecDepth 100000 in
theorem mw_181 : Cond.methodLink R_Pg 117 y_Pg_putIdentifier ∈ lw_g := lw_gin (List.mem_append_right _ (List.mem_of_getElem? (i := 545) rfl)) (by decide +kernel)
set_option maxRecDepth 100000 in
theorem mw_182 : Cond.instanceMethod y_Pg_putIdentifier ∈ lw_g := lw_gin (List.mem_append_right _ (List.mem_of_getElem? (i := 547) rfl)) (by decide +kernel)
set_option maxRecDepth 100000 in
theorem mw_183 : Cond.selects R_Pg y_Pg_putIdentifier y_Pg_putIdentifier ∈ lw_g := lw_gin (List.mem_append_left _ (List.mem_of_getElem? (i := 7) rfl)) (by decide +kernel)
set_option maxRecDepth 100000 in
theorem mw_184 : Cond.fieldLink R_Pg 101 "WriteOnceDisc$Node" "isDirectory" "Z" ∈ lw_g := lw_gin (List.mem_append_right _ (List.mem_of_getElem? (i := 103) rfl)) (by decide +kernel)
set_option maxRecDepth 100000 in
theorem mw_185 : Cond.fieldLink R_Pg 76 "WriteOnceDisc$Node" "size" "I" ∈ lw_g := lw_gin (List.mem_append_right _ (List.mem_of_getElem? (i := 112) rfl)) (by decide +kernel)
set_option maxRecDepth 100000 in
theorem mw_186 : Cond.code y_Pg_putHigh b_Pg_putHigh 5 none ∈ lw_g := lw_gin (List.mem_append_right _ (List.mem_of_getElem? (i := 544) rfl)) (by decide +kernel)
set_option maxRecDepth 100000 in
theorem mw_187 : Cond.methodLink R_Pg 63 y_Pg_putHigh ∈ lw_g := lw_gin (List.mem_append_right _ (List.mem_of_getElem? (i := 541) rfl)) (by decide +kernel)
set_option maxRecDepth 100000 in
theorem mw_188 : Cond.instanceMethod y_Pg_putHigh ∈ lw_g := lw_gin (List.mem_append_right _ (List.mem_of_getElem? (i := 542) rfl)) (by decide +kernel)
set_option maxRecDepth 100000 in
theorem mw_189 : Cond.selects R_Pg y_Pg_putHigh y_Pg_putHigh ∈ lw_g := lw_gin (List.mem_append_right _ (List.mem_of_getElem? (i := 543) rfl)) (by decide +kernel)
set_option maxRecDepth 100000 in
theorem mw_190 : Cond.fieldLink R_Pg 70 "WriteOnceDisc$Node" "parent" "LWriteOnceDisc$Node;" ∈ lw_g := lw_gin (List.mem_append_right _ (List.mem_of_getElem? (i := 97) rfl)) (by decide +kernel)
set_option maxRecDepth 100000 in
theorem mw_191 : Cond.fieldLink R_Pg 111 "WriteOnceDisc$Node" "letters" "I" ∈ lw_g := lw_gin (List.mem_append_right _ (List.mem_of_getElem? (i := 108) rfl)) (by decide +kernel)
set_option maxRecDepth 100000 in
theorem mw_192 : Cond.fieldLink R_Pg 104 "WriteOnceDisc$Node" "numberInPathTable" "I" ∈ lw_g := lw_gin (List.mem_append_right _ (List.mem_of_getElem? (i := 130) rfl)) (by decide +kernel)
set_option maxRecDepth 100000 in
theorem mw_193 : Cond.code y_Pg_fillWithStandard b_Pg_fillWithStandard 2 none ∈ lw_g := lw_gin (List.mem_append_right _ (List.mem_of_getElem? (i := 561) rfl)) (by decide +kernel)
set_option maxRecDepth 100000 in
theorem mw_194 : Cond.methodLink R_Pg 50 y_Pg_fillWithStandard ∈ lw_g := lw_gin (List.mem_append_right _ (List.mem_of_getElem? (i := 558) rfl)) (by decide +kernel)
set_option maxRecDepth 100000 in
theorem mw_195 : Cond.instanceMethod y_Pg_fillWithStandard ∈ lw_g := lw_gin (List.mem_append_right _ (List.mem_of_getElem? (i := 559) rfl)) (by decide +kernel)
set_option maxRecDepth 100000 in
theorem mw_196 : Cond.selects R_Pg y_Pg_fillWithStandard y_Pg_fillWithStandard ∈ lw_g := lw_gin (List.mem_append_right _ (List.mem_of_getElem? (i := 560) rfl)) (by decide +kernel)
set_option maxRecDepth 100000 in
theorem mw_197 : Cond.fieldLink R_Pg 54 "WriteOnceDisc$Medium" "sectors" "[LWriteOnceDisc$Sector;" ∈ lw_g := lw_gin (List.mem_append_right _ (List.mem_of_getElem? (i := 226) rfl)) (by decide +kernel)
set_option maxRecDepth 100000 in
theorem mw_198 : Cond.code y_Pg_putRecord b_Pg_putRecord 6 (some .int) ∈ lw_g := lw_gin (List.mem_append_right _ (List.mem_of_getElem? (i := 576) rfl)) (by decide +kernel)
set_option maxRecDepth 100000 in
theorem mw_199 : Cond.methodLink R_Pg 66 y_Pg_putRecord ∈ lw_g := lw_gin (List.mem_append_right _ (List.mem_of_getElem? (i := 573) rfl)) (by decide +kernel)
set_option maxRecDepth 100000 in
theorem mw_200 : Cond.instanceMethod y_Pg_putRecord ∈ lw_g := lw_gin (List.mem_append_right _ (List.mem_of_getElem? (i := 575) rfl)) (by decide +kernel)
set_option maxRecDepth 100000 in
theorem mw_201 : Cond.selects R_Pg y_Pg_putRecord y_Pg_putRecord ∈ lw_g := lw_gin (List.mem_append_left _ (List.mem_of_getElem? (i := 8) rfl)) (by decide +kernel)
set_option maxRecDepth 100000 in
theorem mw_202 : Cond.methodLink R_Me 59 arraycopyName ∈ lw_g := lw_gin (List.mem_append_right _ (List.mem_of_getElem? (i := 418) rfl)) (by decide +kernel)
set_option maxRecDepth 100000 in
theorem mw_203 : Cond.native arraycopyName ∈ lw_g := lw_gin (List.mem_append_right _ (List.mem_of_getElem? (i := 420) rfl)) (by decide +kernel)
set_option maxRecDepth 100000 in
theorem mw_204 : Cond.static arraycopyName ∈ lw_g := lw_gin (List.mem_append_right _ (List.mem_of_getElem? (i := 419) rfl)) (by decide +kernel)
set_option maxRecDepth 100000 in
theorem mw_205 : Cond.initialized "java/lang/System" ∈ lw_g := lw_gin (List.mem_append_right _ (List.mem_of_getElem? (i := 13) rfl)) (by decide +kernel)
set_option maxRecDepth 100000 in
theorem mw_206 : Cond.methodLink R_Pg 80 Lib.Math.min.name ∈ lw_g := lw_gin (List.mem_append_right _ (List.mem_of_getElem? (i := 407) rfl)) (by decide +kernel)
set_option maxRecDepth 100000 in
theorem mw_207 : Cond.static Lib.Math.min.name ∈ lw_g := lw_gin (List.mem_append_right _ (List.mem_of_getElem? (i := 408) rfl)) (by decide +kernel)
set_option maxRecDepth 100000 in
theorem mw_208 : Cond.code Lib.Math.min.name Lib.Math.min.code 2 (some .int) ∈ lw_g := lw_gin (List.mem_append_right _ (List.mem_of_getElem? (i := 409) rfl)) (by decide +kernel)
set_option maxRecDepth 100000 in
theorem mw_209 : Cond.fieldLink R_Pg 86 "WriteOnceDisc$Node" "isWritten" "Z" ∈ lw_g := lw_gin (List.mem_append_right _ (List.mem_of_getElem? (i := 118) rfl)) (by decide +kernel)
set_option maxRecDepth 100000 in
theorem mw_210 : Cond.code y_No_contentByte b_No_contentByte 2 (some .int) ∈ lw_g := lw_gin (List.mem_append_right _ (List.mem_of_getElem? (i := 424) rfl)) (by decide +kernel)
set_option maxRecDepth 100000 in
theorem mw_211 : Cond.methodLink R_Pg 97 y_No_contentByte ∈ lw_g := lw_gin (List.mem_append_right _ (List.mem_of_getElem? (i := 421) rfl)) (by decide +kernel)
set_option maxRecDepth 100000 in
theorem mw_212 : Cond.instanceMethod y_No_contentByte ∈ lw_g := lw_gin (List.mem_append_right _ (List.mem_of_getElem? (i := 422) rfl)) (by decide +kernel)
set_option maxRecDepth 100000 in
theorem mw_213 : Cond.selects R_No y_No_contentByte y_No_contentByte ∈ lw_g := lw_gin (List.mem_append_right _ (List.mem_of_getElem? (i := 423) rfl)) (by decide +kernel)
set_option maxRecDepth 100000 in
theorem mw_214 : Cond.fieldLink R_Pg 90 "WriteOnceDisc$Node" "extent" "I" ∈ lw_g := lw_gin (List.mem_append_right _ (List.mem_of_getElem? (i := 121) rfl)) (by decide +kernel)
set_option maxRecDepth 100000 in
theorem mw_215 : Cond.code y_Me_copyInto b_Me_copyInto 4 none ∈ lw_g := lw_gin (List.mem_append_right _ (List.mem_of_getElem? (i := 413) rfl)) (by decide +kernel)
set_option maxRecDepth 100000 in
theorem mw_216 : Cond.methodLink R_Pg 93 y_Me_copyInto ∈ lw_g := lw_gin (List.mem_append_right _ (List.mem_of_getElem? (i := 410) rfl)) (by decide +kernel)
set_option maxRecDepth 100000 in
theorem mw_217 : Cond.instanceMethod y_Me_copyInto ∈ lw_g := lw_gin (List.mem_append_right _ (List.mem_of_getElem? (i := 411) rfl)) (by decide +kernel)
set_option maxRecDepth 100000 in
theorem mw_218 : Cond.selects R_Me y_Me_copyInto y_Me_copyInto ∈ lw_g := lw_gin (List.mem_append_right _ (List.mem_of_getElem? (i := 412) rfl)) (by decide +kernel)
set_option maxRecDepth 100000 in
theorem mw_219 : Cond.code y_Pg_putPathEntry b_Pg_putPathEntry 6 (some .int) ∈ lw_g := lw_gin (List.mem_append_right _ (List.mem_of_getElem? (i := 536) rfl)) (by decide +kernel)
set_option maxRecDepth 100000 in
theorem mw_220 : Cond.methodLink R_Pg 107 y_Pg_putPathEntry ∈ lw_g := lw_gin (List.mem_append_right _ (List.mem_of_getElem? (i := 533) rfl)) (by decide +kernel)
set_option maxRecDepth 100000 in
theorem mw_221 : Cond.instanceMethod y_Pg_putPathEntry ∈ lw_g := lw_gin (List.mem_append_right _ (List.mem_of_getElem? (i := 535) rfl)) (by decide +kernel)
set_option maxRecDepth 100000 in
theorem mw_222 : Cond.selects R_Pg y_Pg_putPathEntry y_Pg_putPathEntry ∈ lw_g := lw_gin (List.mem_append_left _ (List.mem_of_getElem? (i := 6) rfl)) (by decide +kernel)
theorem d_Pg_putIdentifier_0 : decode b_Pg_putIdentifier 0 = .ok (.iconst 0, 1) := by decide +kernel
theorem d_Pg_putIdentifier_1 : decode b_Pg_putIdentifier 1 = .ok (.istore_n 3, 1) := by decide +kernel
theorem d_Pg_putIdentifier_2 : decode b_Pg_putIdentifier 2 = .ok (.iload_n 3, 1) := by decide +kernel
theorem d_Pg_putIdentifier_3 : decode b_Pg_putIdentifier 3 = .ok (.aload_n 2, 1) := by decide +kernel
theorem d_Pg_putIdentifier_4 : decode b_Pg_putIdentifier 4 = .ok (.invokevirtual 124, 3) := by decide +kernel
theorem d_Pg_putIdentifier_7 : decode b_Pg_putIdentifier 7 = .ok (.if_icmp .ge 21, 3) := by decide +kernel
theorem d_Pg_putIdentifier_28 : decode b_Pg_putIdentifier 28 = .ok (.return_, 1) := by decide +kernel
theorem d_Pg_putIdentifier_10 : decode b_Pg_putIdentifier 10 = .ok (.aload_n 0, 1) := by decide +kernel
theorem d_Pg_putIdentifier_11 : decode b_Pg_putIdentifier 11 = .ok (.iload_n 1, 1) := by decide +kernel
theorem d_Pg_putIdentifier_12 : decode b_Pg_putIdentifier 12 = .ok (.iload_n 3, 1) := by decide +kernel
theorem d_Pg_putIdentifier_13 : decode b_Pg_putIdentifier 13 = .ok (.iadd, 1) := by decide +kernel
theorem d_Pg_putIdentifier_14 : decode b_Pg_putIdentifier 14 = .ok (.aload_n 2, 1) := by decide +kernel
theorem d_Pg_putIdentifier_15 : decode b_Pg_putIdentifier 15 = .ok (.iload_n 3, 1) := by decide +kernel
theorem d_Pg_putIdentifier_16 : decode b_Pg_putIdentifier 16 = .ok (.invokevirtual 127, 3) := by decide +kernel
theorem d_Pg_putIdentifier_19 : decode b_Pg_putIdentifier 19 = .ok (.invokevirtual 31, 3) := by decide +kernel
theorem d_Pg_putIdentifier_22 : decode b_Pg_putIdentifier 22 = .ok (.iinc 3 1, 3) := by decide +kernel
theorem d_Pg_putIdentifier_25 : decode b_Pg_putIdentifier 25 = .ok (.goto (-23), 3) := by decide +kernel
theorem d_Pg_putRecord_13 : decode b_Pg_putRecord 13 = .ok (.istore 4, 2) := by decide +kernel
theorem d_Pg_putRecord_15 : decode b_Pg_putRecord 15 = .ok (.bipush 33, 2) := by decide +kernel
theorem d_Pg_putRecord_17 : decode b_Pg_putRecord 17 = .ok (.iload 4, 2) := by decide +kernel
theorem d_Pg_putRecord_19 : decode b_Pg_putRecord 19 = .ok (.iadd, 1) := by decide +kernel
theorem d_Pg_putRecord_20 : decode b_Pg_putRecord 20 = .ok (.invokestatic 121, 3) := by decide +kernel
theorem d_Pg_putRecord_23 : decode b_Pg_putRecord 23 = .ok (.istore 5, 2) := by decide +kernel
theorem d_Pg_putRecord_25 : decode b_Pg_putRecord 25 = .ok (.aload_n 0, 1) := by decide +kernel
theorem d_Pg_putRecord_26 : decode b_Pg_putRecord 26 = .ok (.iload_n 1, 1) := by decide +kernel
theorem d_Pg_putRecord_27 : decode b_Pg_putRecord 27 = .ok (.iload 5, 2) := by decide +kernel
theorem d_Pg_putRecord_29 : decode b_Pg_putRecord 29 = .ok (.invokevirtual 31, 3) := by decide +kernel
theorem d_Pg_putRecord_32 : decode b_Pg_putRecord 32 = .ok (.aload_n 0, 1) := by decide +kernel
theorem d_Pg_putRecord_33 : decode b_Pg_putRecord 33 = .ok (.iload_n 1, 1) := by decide +kernel
theorem d_Pg_putRecord_34 : decode b_Pg_putRecord 34 = .ok (.iconst 2, 1) := by decide +kernel
theorem d_Pg_putRecord_35 : decode b_Pg_putRecord 35 = .ok (.iadd, 1) := by decide +kernel
theorem d_Pg_putRecord_36 : decode b_Pg_putRecord 36 = .ok (.iconst 4, 1) := by decide +kernel
theorem d_Pg_putRecord_37 : decode b_Pg_putRecord 37 = .ok (.aload_n 2, 1) := by decide +kernel
theorem d_Pg_putRecord_38 : decode b_Pg_putRecord 38 = .ok (.getfield 114, 3) := by decide +kernel
theorem d_Pg_putRecord_41 : decode b_Pg_putRecord 41 = .ok (.invokevirtual 60, 3) := by decide +kernel
theorem d_Pg_putRecord_67 : decode b_Pg_putRecord 67 = .ok (.invokevirtual 60, 3) := by decide +kernel
theorem d_Pg_putRecord_87 : decode b_Pg_putRecord 87 = .ok (.invokevirtual 31, 3) := by decide +kernel
theorem d_Pg_putRecord_90 : decode b_Pg_putRecord 90 = .ok (.aload_n 0, 1) := by decide +kernel
theorem d_Pg_putRecord_91 : decode b_Pg_putRecord 91 = .ok (.iload_n 1, 1) := by decide +kernel
theorem d_Pg_putRecord_92 : decode b_Pg_putRecord 92 = .ok (.bipush 28, 2) := by decide +kernel
theorem d_Pg_putRecord_94 : decode b_Pg_putRecord 94 = .ok (.iadd, 1) := by decide +kernel
theorem d_Pg_putRecord_95 : decode b_Pg_putRecord 95 = .ok (.iconst 2, 1) := by decide +kernel
theorem d_Pg_putRecord_96 : decode b_Pg_putRecord 96 = .ok (.iconst 1, 1) := by decide +kernel
theorem d_Pg_putRecord_97 : decode b_Pg_putRecord 97 = .ok (.invokevirtual 60, 3) := by decide +kernel
theorem d_Pg_putRecord_100 : decode b_Pg_putRecord 100 = .ok (.aload_n 0, 1) := by decide +kernel
theorem d_Pg_putRecord_101 : decode b_Pg_putRecord 101 = .ok (.iload_n 1, 1) := by decide +kernel
theorem d_Pg_putRecord_102 : decode b_Pg_putRecord 102 = .ok (.bipush 32, 2) := by decide +kernel
theorem d_Pg_putRecord_104 : decode b_Pg_putRecord 104 = .ok (.iadd, 1) := by decide +kernel
theorem d_Pg_putRecord_105 : decode b_Pg_putRecord 105 = .ok (.iload 4, 2) := by decide +kernel
theorem d_Pg_putRecord_107 : decode b_Pg_putRecord 107 = .ok (.invokevirtual 31, 3) := by decide +kernel
theorem d_Pg_putRecord_136 : decode b_Pg_putRecord 136 = .ok (.iload_n 1, 1) := by decide +kernel
theorem d_Pg_putRecord_137 : decode b_Pg_putRecord 137 = .ok (.iload 5, 2) := by decide +kernel
theorem d_Pg_putRecord_139 : decode b_Pg_putRecord 139 = .ok (.iadd, 1) := by decide +kernel
theorem d_Pg_putRecord_140 : decode b_Pg_putRecord 140 = .ok (.ireturn, 1) := by decide +kernel
theorem d_Pg_putRecord_110 : decode b_Pg_putRecord 110 = .ok (.iload_n 3, 1) := by decide +kernel
theorem d_Pg_putRecord_111 : decode b_Pg_putRecord 111 = .ok (.iconst (-1), 1) := by decide +kernel
theorem d_Pg_putRecord_112 : decode b_Pg_putRecord 112 = .ok (.if_icmp .ne 15, 3) := by decide +kernel
theorem d_Pg_putRecord_127 : decode b_Pg_putRecord 127 = .ok (.aload_n 0, 1) := by decide +kernel
theorem d_Pg_putRecord_128 : decode b_Pg_putRecord 128 = .ok (.iload_n 1, 1) := by decide +kernel
theorem d_Pg_putRecord_129 : decode b_Pg_putRecord 129 = .ok (.bipush 33, 2) := by decide +kernel
theorem d_Pg_putRecord_131 : decode b_Pg_putRecord 131 = .ok (.iadd, 1) := by decide +kernel
theorem d_Pg_putRecord_132 : decode b_Pg_putRecord 132 = .ok (.iload_n 3, 1) := by decide +kernel
theorem d_Pg_putRecord_133 : decode b_Pg_putRecord 133 = .ok (.invokevirtual 31, 3) := by decide +kernel
theorem d_Pg_putRecord_115 : decode b_Pg_putRecord 115 = .ok (.aload_n 0, 1) := by decide +kernel
theorem d_Pg_putRecord_116 : decode b_Pg_putRecord 116 = .ok (.iload_n 1, 1) := by decide +kernel
theorem d_Pg_putRecord_117 : decode b_Pg_putRecord 117 = .ok (.bipush 33, 2) := by decide +kernel
theorem d_Pg_putRecord_119 : decode b_Pg_putRecord 119 = .ok (.iadd, 1) := by decide +kernel
theorem d_Pg_putRecord_120 : decode b_Pg_putRecord 120 = .ok (.aload_n 2, 1) := by decide +kernel
theorem d_Pg_putRecord_121 : decode b_Pg_putRecord 121 = .ok (.invokevirtual 117, 3) := by decide +kernel
theorem d_Pg_putRecord_124 : decode b_Pg_putRecord 124 = .ok (.goto 12, 3) := by decide +kernel
theorem d_Pg_putRecord_70 : decode b_Pg_putRecord 70 = .ok (.aload_n 0, 1) := by decide +kernel
theorem d_Pg_putRecord_71 : decode b_Pg_putRecord 71 = .ok (.iload_n 1, 1) := by decide +kernel
theorem d_Pg_putRecord_72 : decode b_Pg_putRecord 72 = .ok (.bipush 25, 2) := by decide +kernel
theorem d_Pg_putRecord_74 : decode b_Pg_putRecord 74 = .ok (.iadd, 1) := by decide +kernel
theorem d_Pg_putRecord_75 : decode b_Pg_putRecord 75 = .ok (.aload_n 2, 1) := by decide +kernel
theorem d_Pg_putRecord_76 : decode b_Pg_putRecord 76 = .ok (.getfield 101, 3) := by decide +kernel
theorem d_Pg_putRecord_79 : decode b_Pg_putRecord 79 = .ok (.ifCond .eq 7, 3) := by decide +kernel
theorem d_Pg_putRecord_86 : decode b_Pg_putRecord 86 = .ok (.iconst 0, 1) := by decide +kernel
theorem d_Pg_putRecord_82 : decode b_Pg_putRecord 82 = .ok (.iconst 2, 1) := by decide +kernel
theorem d_Pg_putRecord_83 : decode b_Pg_putRecord 83 = .ok (.goto 4, 3) := by decide +kernel
theorem d_Pg_putRecord_44 : decode b_Pg_putRecord 44 = .ok (.aload_n 0, 1) := by decide +kernel
theorem d_Pg_putRecord_45 : decode b_Pg_putRecord 45 = .ok (.iload_n 1, 1) := by decide +kernel
theorem d_Pg_putRecord_46 : decode b_Pg_putRecord 46 = .ok (.bipush 10, 2) := by decide +kernel
theorem d_Pg_putRecord_48 : decode b_Pg_putRecord 48 = .ok (.iadd, 1) := by decide +kernel
theorem d_Pg_putRecord_49 : decode b_Pg_putRecord 49 = .ok (.iconst 4, 1) := by decide +kernel
theorem d_Pg_putRecord_50 : decode b_Pg_putRecord 50 = .ok (.aload_n 2, 1) := by decide +kernel
theorem d_Pg_putRecord_51 : decode b_Pg_putRecord 51 = .ok (.getfield 101, 3) := by decide +kernel
theorem d_Pg_putRecord_54 : decode b_Pg_putRecord 54 = .ok (.ifCond .eq 9, 3) := by decide +kernel
theorem d_Pg_putRecord_63 : decode b_Pg_putRecord 63 = .ok (.aload_n 2, 1) := by decide +kernel
theorem d_Pg_putRecord_64 : decode b_Pg_putRecord 64 = .ok (.getfield 76, 3) := by decide +kernel
theorem d_Pg_putRecord_57 : decode b_Pg_putRecord 57 = .ok (.sipush 2048, 3) := by decide +kernel
theorem d_Pg_putRecord_60 : decode b_Pg_putRecord 60 = .ok (.goto 7, 3) := by decide +kernel
theorem d_Pg_putRecord_0 : decode b_Pg_putRecord 0 = .ok (.iload_n 3, 1) := by decide +kernel
theorem d_Pg_putRecord_1 : decode b_Pg_putRecord 1 = .ok (.iconst (-1), 1) := by decide +kernel
theorem d_Pg_putRecord_2 : decode b_Pg_putRecord 2 = .ok (.if_icmp .ne 10, 3) := by decide +kernel
theorem d_Pg_putRecord_12 : decode b_Pg_putRecord 12 = .ok (.iconst 1, 1) := by decide +kernel
theorem d_Pg_putRecord_5 : decode b_Pg_putRecord 5 = .ok (.aload_n 2, 1) := by decide +kernel
theorem d_Pg_putRecord_6 : decode b_Pg_putRecord 6 = .ok (.invokevirtual 124, 3) := by decide +kernel
theorem d_Pg_putRecord_9 : decode b_Pg_putRecord 9 = .ok (.goto 4, 3) := by decide +kernel
theorem d_Pg_putPathEntry_18 : decode b_Pg_putPathEntry 18 = .ok (.istore 4, 2) := by decide +kernel
theorem d_Pg_putPathEntry_35 : decode b_Pg_putPathEntry 35 = .ok (.istore 5, 2) := by decide +kernel
theorem d_Pg_putPathEntry_37 : decode b_Pg_putPathEntry 37 = .ok (.aload_n 0, 1) := by decide +kernel
theorem d_Pg_putPathEntry_38 : decode b_Pg_putPathEntry 38 = .ok (.iload_n 1, 1) := by decide +kernel
theorem d_Pg_putPathEntry_39 : decode b_Pg_putPathEntry 39 = .ok (.iload 5, 2) := by decide +kernel
theorem d_Pg_putPathEntry_41 : decode b_Pg_putPathEntry 41 = .ok (.invokevirtual 31, 3) := by decide +kernel
theorem d_Pg_putPathEntry_97 : decode b_Pg_putPathEntry 97 = .ok (.aload_n 0, 1) := by decide +kernel
theorem d_Pg_putPathEntry_98 : decode b_Pg_putPathEntry 98 = .ok (.iload_n 1, 1) := by decide +kernel
theorem d_Pg_putPathEntry_99 : decode b_Pg_putPathEntry 99 = .ok (.bipush 8, 2) := by decide +kernel
theorem d_Pg_putPathEntry_101 : decode b_Pg_putPathEntry 101 = .ok (.iadd, 1) := by decide +kernel
theorem d_Pg_putPathEntry_102 : decode b_Pg_putPathEntry 102 = .ok (.aload_n 2, 1) := by decide +kernel
theorem d_Pg_putPathEntry_103 : decode b_Pg_putPathEntry 103 = .ok (.invokevirtual 117, 3) := by decide +kernel
theorem d_Pg_putPathEntry_106 : decode b_Pg_putPathEntry 106 = .ok (.iload_n 1, 1) := by decide +kernel
theorem d_Pg_putPathEntry_107 : decode b_Pg_putPathEntry 107 = .ok (.bipush 8, 2) := by decide +kernel
theorem d_Pg_putPathEntry_109 : decode b_Pg_putPathEntry 109 = .ok (.iadd, 1) := by decide +kernel
theorem d_Pg_putPathEntry_110 : decode b_Pg_putPathEntry 110 = .ok (.iload 5, 2) := by decide +kernel
theorem d_Pg_putPathEntry_112 : decode b_Pg_putPathEntry 112 = .ok (.invokestatic 121, 3) := by decide +kernel
theorem d_Pg_putPathEntry_115 : decode b_Pg_putPathEntry 115 = .ok (.iadd, 1) := by decide +kernel
theorem d_Pg_putPathEntry_116 : decode b_Pg_putPathEntry 116 = .ok (.ireturn, 1) := by decide +kernel
theorem d_Pg_putPathEntry_44 : decode b_Pg_putPathEntry 44 = .ok (.iload_n 3, 1) := by decide +kernel
theorem d_Pg_putPathEntry_45 : decode b_Pg_putPathEntry 45 = .ok (.ifCond .eq 29, 3) := by decide +kernel
theorem d_Pg_putPathEntry_74 : decode b_Pg_putPathEntry 74 = .ok (.aload_n 0, 1) := by decide +kernel
theorem d_Pg_putPathEntry_75 : decode b_Pg_putPathEntry 75 = .ok (.iload_n 1, 1) := by decide +kernel
theorem d_Pg_putPathEntry_76 : decode b_Pg_putPathEntry 76 = .ok (.iconst 2, 1) := by decide +kernel
theorem d_Pg_putPathEntry_77 : decode b_Pg_putPathEntry 77 = .ok (.iadd, 1) := by decide +kernel
theorem d_Pg_putPathEntry_78 : decode b_Pg_putPathEntry 78 = .ok (.iconst 4, 1) := by decide +kernel
theorem d_Pg_putPathEntry_79 : decode b_Pg_putPathEntry 79 = .ok (.aload_n 2, 1) := by decide +kernel
theorem d_Pg_putPathEntry_80 : decode b_Pg_putPathEntry 80 = .ok (.getfield 114, 3) := by decide +kernel
theorem d_Pg_putPathEntry_83 : decode b_Pg_putPathEntry 83 = .ok (.invokevirtual 63, 3) := by decide +kernel
theorem d_Pg_putPathEntry_86 : decode b_Pg_putPathEntry 86 = .ok (.aload_n 0, 1) := by decide +kernel
theorem d_Pg_putPathEntry_87 : decode b_Pg_putPathEntry 87 = .ok (.iload_n 1, 1) := by decide +kernel
theorem d_Pg_putPathEntry_88 : decode b_Pg_putPathEntry 88 = .ok (.bipush 6, 2) := by decide +kernel
theorem d_Pg_putPathEntry_90 : decode b_Pg_putPathEntry 90 = .ok (.iadd, 1) := by decide +kernel
theorem d_Pg_putPathEntry_91 : decode b_Pg_putPathEntry 91 = .ok (.iconst 2, 1) := by decide +kernel
theorem d_Pg_putPathEntry_92 : decode b_Pg_putPathEntry 92 = .ok (.iload 4, 2) := by decide +kernel
theorem d_Pg_putPathEntry_94 : decode b_Pg_putPathEntry 94 = .ok (.invokevirtual 63, 3) := by decide +kernel
theorem d_Pg_putPathEntry_48 : decode b_Pg_putPathEntry 48 = .ok (.aload_n 0, 1) := by decide +kernel
theorem d_Pg_putPathEntry_49 : decode b_Pg_putPathEntry 49 = .ok (.iload_n 1, 1) := by decide +kernel
theorem d_Pg_putPathEntry_50 : decode b_Pg_putPathEntry 50 = .ok (.iconst 2, 1) := by decide +kernel
theorem d_Pg_putPathEntry_51 : decode b_Pg_putPathEntry 51 = .ok (.iadd, 1) := by decide +kernel
theorem d_Pg_putPathEntry_52 : decode b_Pg_putPathEntry 52 = .ok (.iconst 4, 1) := by decide +kernel
theorem d_Pg_putPathEntry_53 : decode b_Pg_putPathEntry 53 = .ok (.aload_n 2, 1) := by decide +kernel
theorem d_Pg_putPathEntry_54 : decode b_Pg_putPathEntry 54 = .ok (.getfield 114, 3) := by decide +kernel
theorem d_Pg_putPathEntry_57 : decode b_Pg_putPathEntry 57 = .ok (.invokevirtual 46, 3) := by decide +kernel
theorem d_Pg_putPathEntry_60 : decode b_Pg_putPathEntry 60 = .ok (.aload_n 0, 1) := by decide +kernel
theorem d_Pg_putPathEntry_61 : decode b_Pg_putPathEntry 61 = .ok (.iload_n 1, 1) := by decide +kernel
theorem d_Pg_putPathEntry_62 : decode b_Pg_putPathEntry 62 = .ok (.bipush 6, 2) := by decide +kernel
theorem d_Pg_putPathEntry_64 : decode b_Pg_putPathEntry 64 = .ok (.iadd, 1) := by decide +kernel
theorem d_Pg_putPathEntry_65 : decode b_Pg_putPathEntry 65 = .ok (.iconst 2, 1) := by decide +kernel
theorem d_Pg_putPathEntry_66 : decode b_Pg_putPathEntry 66 = .ok (.iload 4, 2) := by decide +kernel
theorem d_Pg_putPathEntry_68 : decode b_Pg_putPathEntry 68 = .ok (.invokevirtual 46, 3) := by decide +kernel
theorem d_Pg_putPathEntry_71 : decode b_Pg_putPathEntry 71 = .ok (.goto 26, 3) := by decide +kernel
theorem d_Pg_putPathEntry_20 : decode b_Pg_putPathEntry 20 = .ok (.aload_n 2, 1) := by decide +kernel
theorem d_Pg_putPathEntry_21 : decode b_Pg_putPathEntry 21 = .ok (.getfield 70, 3) := by decide +kernel
theorem d_Pg_putPathEntry_24 : decode b_Pg_putPathEntry 24 = .ok (.ifnonnull 7, 3) := by decide +kernel
theorem d_Pg_putPathEntry_27 : decode b_Pg_putPathEntry 27 = .ok (.iconst 1, 1) := by decide +kernel
theorem d_Pg_putPathEntry_28 : decode b_Pg_putPathEntry 28 = .ok (.goto 7, 3) := by decide +kernel
theorem d_Pg_putPathEntry_31 : decode b_Pg_putPathEntry 31 = .ok (.aload_n 2, 1) := by decide +kernel
theorem d_Pg_putPathEntry_32 : decode b_Pg_putPathEntry 32 = .ok (.getfield 111, 3) := by decide +kernel
theorem d_Pg_putPathEntry_0 : decode b_Pg_putPathEntry 0 = .ok (.aload_n 2, 1) := by decide +kernel
theorem d_Pg_putPathEntry_1 : decode b_Pg_putPathEntry 1 = .ok (.getfield 70, 3) := by decide +kernel
theorem d_Pg_putPathEntry_4 : decode b_Pg_putPathEntry 4 = .ok (.ifnonnull 7, 3) := by decide +kernel
theorem d_Pg_putPathEntry_7 : decode b_Pg_putPathEntry 7 = .ok (.iconst 1, 1) := by decide +kernel
theorem d_Pg_putPathEntry_8 : decode b_Pg_putPathEntry 8 = .ok (.goto 10, 3) := by decide +kernel
theorem d_Pg_putPathEntry_11 : decode b_Pg_putPathEntry 11 = .ok (.aload_n 2, 1) := by decide +kernel
theorem d_Pg_putPathEntry_12 : decode b_Pg_putPathEntry 12 = .ok (.getfield 70, 3) := by decide +kernel
theorem d_Pg_putPathEntry_15 : decode b_Pg_putPathEntry 15 = .ok (.getfield 104, 3) := by decide +kernel
theorem d_Pg_fillWithDescriptor_0 : decode b_Pg_fillWithDescriptor 0 = .ok (.aload_n 0, 1) := by decide +kernel
theorem d_Pg_fillWithDescriptor_1 : decode b_Pg_fillWithDescriptor 1 = .ok (.iconst 1, 1) := by decide +kernel
theorem d_Pg_fillWithDescriptor_2 : decode b_Pg_fillWithDescriptor 2 = .ok (.invokevirtual 50, 3) := by decide +kernel
theorem d_Pg_fillWithDescriptor_5 : decode b_Pg_fillWithDescriptor 5 = .ok (.aload_n 0, 1) := by decide +kernel
theorem d_Pg_fillWithDescriptor_6 : decode b_Pg_fillWithDescriptor 6 = .ok (.bipush 80, 2) := by decide +kernel
theorem d_Pg_fillWithDescriptor_8 : decode b_Pg_fillWithDescriptor 8 = .ok (.iconst 4, 1) := by decide +kernel
theorem d_Pg_fillWithDescriptor_9 : decode b_Pg_fillWithDescriptor 9 = .ok (.aload_n 1, 1) := by decide +kernel
theorem d_Pg_fillWithDescriptor_10 : decode b_Pg_fillWithDescriptor 10 = .ok (.getfield 54, 3) := by decide +kernel
theorem d_Pg_fillWithDescriptor_13 : decode b_Pg_fillWithDescriptor 13 = .ok (.arraylength, 1) := by decide +kernel
theorem d_Pg_fillWithDescriptor_14 : decode b_Pg_fillWithDescriptor 14 = .ok (.invokevirtual 60, 3) := by decide +kernel
theorem d_Pg_fillWithDescriptor_17 : decode b_Pg_fillWithDescriptor 17 = .ok (.aload_n 0, 1) := by decide +kernel
theorem d_Pg_fillWithDescriptor_18 : decode b_Pg_fillWithDescriptor 18 = .ok (.sipush 128, 3) := by decide +kernel
theorem d_Pg_fillWithDescriptor_21 : decode b_Pg_fillWithDescriptor 21 = .ok (.iconst 2, 1) := by decide +kernel
theorem d_Pg_fillWithDescriptor_22 : decode b_Pg_fillWithDescriptor 22 = .ok (.sipush 2048, 3) := by decide +kernel
theorem d_Pg_fillWithDescriptor_25 : decode b_Pg_fillWithDescriptor 25 = .ok (.invokevirtual 60, 3) := by decide +kernel
theorem d_Pg_fillWithDescriptor_28 : decode b_Pg_fillWithDescriptor 28 = .ok (.aload_n 0, 1) := by decide +kernel
theorem d_Pg_fillWithDescriptor_29 : decode b_Pg_fillWithDescriptor 29 = .ok (.sipush 132, 3) := by decide +kernel
theorem d_Pg_fillWithDescriptor_32 : decode b_Pg_fillWithDescriptor 32 = .ok (.iconst 4, 1) := by decide +kernel
theorem d_Pg_fillWithDescriptor_33 : decode b_Pg_fillWithDescriptor 33 = .ok (.iload_n 3, 1) := by decide +kernel
theorem d_Pg_fillWithDescriptor_34 : decode b_Pg_fillWithDescriptor 34 = .ok (.invokevirtual 60, 3) := by decide +kernel
theorem d_Pg_fillWithDescriptor_37 : decode b_Pg_fillWithDescriptor 37 = .ok (.aload_n 0, 1) := by decide +kernel
theorem d_Pg_fillWithDescriptor_38 : decode b_Pg_fillWithDescriptor 38 = .ok (.sipush 140, 3) := by decide +kernel
theorem d_Pg_fillWithDescriptor_41 : decode b_Pg_fillWithDescriptor 41 = .ok (.iconst 4, 1) := by decide +kernel
theorem d_Pg_fillWithDescriptor_42 : decode b_Pg_fillWithDescriptor 42 = .ok (.iload_n 2, 1) := by decide +kernel
theorem d_Pg_fillWithDescriptor_43 : decode b_Pg_fillWithDescriptor 43 = .ok (.bipush 18, 2) := by decide +kernel
theorem d_Pg_fillWithDescriptor_45 : decode b_Pg_fillWithDescriptor 45 = .ok (.iadd, 1) := by decide +kernel
theorem d_Pg_fillWithDescriptor_46 : decode b_Pg_fillWithDescriptor 46 = .ok (.invokevirtual 46, 3) := by decide +kernel
theorem d_Pg_fillWithDescriptor_49 : decode b_Pg_fillWithDescriptor 49 = .ok (.aload_n 0, 1) := by decide +kernel
theorem d_Pg_fillWithDescriptor_50 : decode b_Pg_fillWithDescriptor 50 = .ok (.sipush 148, 3) := by decide +kernel
theorem d_Pg_fillWithDescriptor_53 : decode b_Pg_fillWithDescriptor 53 = .ok (.iconst 4, 1) := by decide +kernel
theorem d_Pg_fillWithDescriptor_54 : decode b_Pg_fillWithDescriptor 54 = .ok (.iload_n 2, 1) := by decide +kernel
theorem d_Pg_fillWithDescriptor_55 : decode b_Pg_fillWithDescriptor 55 = .ok (.bipush 19, 2) := by decide +kernel
theorem d_Pg_fillWithDescriptor_57 : decode b_Pg_fillWithDescriptor 57 = .ok (.iadd, 1) := by decide +kernel
theorem d_Pg_fillWithDescriptor_58 : decode b_Pg_fillWithDescriptor 58 = .ok (.invokevirtual 63, 3) := by decide +kernel
theorem d_Pg_fillWithDescriptor_61 : decode b_Pg_fillWithDescriptor 61 = .ok (.aload_n 0, 1) := by decide +kernel
theorem d_Pg_fillWithDescriptor_62 : decode b_Pg_fillWithDescriptor 62 = .ok (.sipush 156, 3) := by decide +kernel
theorem d_Pg_fillWithDescriptor_65 : decode b_Pg_fillWithDescriptor 65 = .ok (.aload 4, 2) := by decide +kernel
theorem d_Pg_fillWithDescriptor_67 : decode b_Pg_fillWithDescriptor 67 = .ok (.iconst 0, 1) := by decide +kernel
theorem d_Pg_fillWithDescriptor_68 : decode b_Pg_fillWithDescriptor 68 = .ok (.invokevirtual 66, 3) := by decide +kernel
theorem d_Pg_fillWithDescriptor_71 : decode b_Pg_fillWithDescriptor 71 = .ok (.pop, 1) := by decide +kernel
theorem d_Pg_fillWithDescriptor_72 : decode b_Pg_fillWithDescriptor 72 = .ok (.return_, 1) := by decide +kernel
theorem d_Pg_fillWithDirectory_0 : decode b_Pg_fillWithDirectory 0 = .ok (.aload_n 0, 1) := by decide +kernel
theorem d_Pg_fillWithDirectory_1 : decode b_Pg_fillWithDirectory 1 = .ok (.invokevirtual 35, 3) := by decide +kernel
theorem d_Pg_fillWithDirectory_4 : decode b_Pg_fillWithDirectory 4 = .ok (.aload_n 0, 1) := by decide +kernel
theorem d_Pg_fillWithDirectory_5 : decode b_Pg_fillWithDirectory 5 = .ok (.iconst 0, 1) := by decide +kernel
theorem d_Pg_fillWithDirectory_6 : decode b_Pg_fillWithDirectory 6 = .ok (.aload_n 1, 1) := by decide +kernel
theorem d_Pg_fillWithDirectory_7 : decode b_Pg_fillWithDirectory 7 = .ok (.iconst 0, 1) := by decide +kernel
theorem d_Pg_fillWithDirectory_8 : decode b_Pg_fillWithDirectory 8 = .ok (.invokevirtual 66, 3) := by decide +kernel
theorem d_Pg_fillWithDirectory_11 : decode b_Pg_fillWithDirectory 11 = .ok (.istore 4, 2) := by decide +kernel
theorem d_Pg_fillWithDirectory_31 : decode b_Pg_fillWithDirectory 31 = .ok (.iconst 1, 1) := by decide +kernel
theorem d_Pg_fillWithDirectory_32 : decode b_Pg_fillWithDirectory 32 = .ok (.invokevirtual 66, 3) := by decide +kernel
theorem d_Pg_fillWithDirectory_35 : decode b_Pg_fillWithDirectory 35 = .ok (.istore 4, 2) := by decide +kernel
theorem d_Pg_fillWithDirectory_37 : decode b_Pg_fillWithDirectory 37 = .ok (.iconst 0, 1) := by decide +kernel
theorem d_Pg_fillWithDirectory_38 : decode b_Pg_fillWithDirectory 38 = .ok (.istore 5, 2) := by decide +kernel
theorem d_Pg_fillWithDirectory_40 : decode b_Pg_fillWithDirectory 40 = .ok (.iload 5, 2) := by decide +kernel
theorem d_Pg_fillWithDirectory_42 : decode b_Pg_fillWithDirectory 42 = .ok (.iload_n 3, 1) := by decide +kernel
theorem d_Pg_fillWithDirectory_43 : decode b_Pg_fillWithDirectory 43 = .ok (.if_icmp .ge 40, 3) := by decide +kernel
theorem d_Pg_fillWithDirectory_83 : decode b_Pg_fillWithDirectory 83 = .ok (.return_, 1) := by decide +kernel
theorem d_Pg_fillWithDirectory_46 : decode b_Pg_fillWithDirectory 46 = .ok (.iload 5, 2) := by decide +kernel
theorem d_Pg_fillWithDirectory_48 : decode b_Pg_fillWithDirectory 48 = .ok (.aload_n 2, 1) := by decide +kernel
theorem d_Pg_fillWithDirectory_49 : decode b_Pg_fillWithDirectory 49 = .ok (.arraylength, 1) := by decide +kernel
theorem d_Pg_fillWithDirectory_50 : decode b_Pg_fillWithDirectory 50 = .ok (.if_icmp .ge 33, 3) := by decide +kernel
theorem d_Pg_fillWithDirectory_53 : decode b_Pg_fillWithDirectory 53 = .ok (.aload_n 2, 1) := by decide +kernel
theorem d_Pg_fillWithDirectory_54 : decode b_Pg_fillWithDirectory 54 = .ok (.iload 5, 2) := by decide +kernel
theorem d_Pg_fillWithDirectory_56 : decode b_Pg_fillWithDirectory 56 = .ok (.aaload, 1) := by decide +kernel
theorem d_Pg_fillWithDirectory_57 : decode b_Pg_fillWithDirectory 57 = .ok (.getfield 70, 3) := by decide +kernel
theorem d_Pg_fillWithDirectory_60 : decode b_Pg_fillWithDirectory 60 = .ok (.aload_n 1, 1) := by decide +kernel
theorem d_Pg_fillWithDirectory_61 : decode b_Pg_fillWithDirectory 61 = .ok (.if_acmp .ne 16, 3) := by decide +kernel
theorem d_Pg_fillWithDirectory_77 : decode b_Pg_fillWithDirectory 77 = .ok (.iinc 5 1, 3) := by decide +kernel
theorem d_Pg_fillWithDirectory_80 : decode b_Pg_fillWithDirectory 80 = .ok (.goto (-40), 3) := by decide +kernel
theorem d_Pg_fillWithDirectory_64 : decode b_Pg_fillWithDirectory 64 = .ok (.aload_n 0, 1) := by decide +kernel
theorem d_Pg_fillWithDirectory_65 : decode b_Pg_fillWithDirectory 65 = .ok (.iload 4, 2) := by decide +kernel
theorem d_Pg_fillWithDirectory_67 : decode b_Pg_fillWithDirectory 67 = .ok (.aload_n 2, 1) := by decide +kernel
theorem d_Pg_fillWithDirectory_68 : decode b_Pg_fillWithDirectory 68 = .ok (.iload 5, 2) := by decide +kernel
theorem d_Pg_fillWithDirectory_70 : decode b_Pg_fillWithDirectory 70 = .ok (.aaload, 1) := by decide +kernel
theorem d_Pg_fillWithDirectory_71 : decode b_Pg_fillWithDirectory 71 = .ok (.iconst (-1), 1) := by decide +kernel
theorem d_Pg_fillWithDirectory_72 : decode b_Pg_fillWithDirectory 72 = .ok (.invokevirtual 66, 3) := by decide +kernel
theorem d_Pg_fillWithDirectory_75 : decode b_Pg_fillWithDirectory 75 = .ok (.istore 4, 2) := by decide +kernel
theorem d_Pg_fillWithDirectory_13 : decode b_Pg_fillWithDirectory 13 = .ok (.aload_n 0, 1) := by decide +kernel
theorem d_Pg_fillWithDirectory_14 : decode b_Pg_fillWithDirectory 14 = .ok (.iload 4, 2) := by decide +kernel
theorem d_Pg_fillWithDirectory_16 : decode b_Pg_fillWithDirectory 16 = .ok (.aload_n 1, 1) := by decide +kernel
theorem d_Pg_fillWithDirectory_17 : decode b_Pg_fillWithDirectory 17 = .ok (.getfield 70, 3) := by decide +kernel
theorem d_Pg_fillWithDirectory_20 : decode b_Pg_fillWithDirectory 20 = .ok (.ifnonnull 7, 3) := by decide +kernel
theorem d_Pg_fillWithDirectory_23 : decode b_Pg_fillWithDirectory 23 = .ok (.aload_n 1, 1) := by decide +kernel
theorem d_Pg_fillWithDirectory_24 : decode b_Pg_fillWithDirectory 24 = .ok (.goto 7, 3) := by decide +kernel
theorem d_Pg_fillWithDirectory_27 : decode b_Pg_fillWithDirectory 27 = .ok (.aload_n 1, 1) := by decide +kernel
theorem d_Pg_fillWithDirectory_28 : decode b_Pg_fillWithDirectory 28 = .ok (.getfield 70, 3) := by decide +kernel
theorem d_Me_copyInto_0 : decode b_Me_copyInto 0 = .ok (.aload_n 0, 1) := by decide +kernel
theorem d_Me_copyInto_1 : decode b_Me_copyInto 1 = .ok (.iload_n 2, 1) := by decide +kernel
theorem d_Me_copyInto_2 : decode b_Me_copyInto 2 = .ok (.invokevirtual 56, 3) := by decide +kernel
theorem d_Me_copyInto_5 : decode b_Me_copyInto 5 = .ok (.ifCond .eq 15, 3) := by decide +kernel
theorem d_Me_copyInto_20 : decode b_Me_copyInto 20 = .ok (.return_, 1) := by decide +kernel
theorem d_Me_copyInto_8 : decode b_Me_copyInto 8 = .ok (.aload_n 0, 1) := by decide +kernel
theorem d_Me_copyInto_9 : decode b_Me_copyInto 9 = .ok (.getfield 17, 3) := by decide +kernel
theorem d_Me_copyInto_12 : decode b_Me_copyInto 12 = .ok (.iload_n 2, 1) := by decide +kernel
theorem d_Me_copyInto_13 : decode b_Me_copyInto 13 = .ok (.aaload, 1) := by decide +kernel
theorem d_Me_copyInto_14 : decode b_Me_copyInto 14 = .ok (.getfield 52, 3) := by decide +kernel
theorem d_Me_copyInto_17 : decode b_Me_copyInto 17 = .ok (.ifnonnull 4, 3) := by decide +kernel
theorem d_Me_copyInto_21 : decode b_Me_copyInto 21 = .ok (.iload_n 3, 1) := by decide +kernel
theorem d_Me_copyInto_22 : decode b_Me_copyInto 22 = .ok (.ifCond .lt 16, 3) := by decide +kernel
theorem d_Me_copyInto_38 : decode b_Me_copyInto 38 = .ok (.return_, 1) := by decide +kernel
theorem d_Me_copyInto_25 : decode b_Me_copyInto 25 = .ok (.iload_n 3, 1) := by decide +kernel
theorem d_Me_copyInto_26 : decode b_Me_copyInto 26 = .ok (.sipush 2048, 3) := by decide +kernel
theorem d_Me_copyInto_29 : decode b_Me_copyInto 29 = .ok (.if_icmp .gt 9, 3) := by decide +kernel
theorem d_Me_copyInto_32 : decode b_Me_copyInto 32 = .ok (.iload_n 3, 1) := by decide +kernel
theorem d_Me_copyInto_33 : decode b_Me_copyInto 33 = .ok (.aload_n 1, 1) := by decide +kernel
theorem d_Me_copyInto_34 : decode b_Me_copyInto 34 = .ok (.arraylength, 1) := by decide +kernel
theorem d_Me_copyInto_35 : decode b_Me_copyInto 35 = .ok (.if_icmp .le 4, 3) := by decide +kernel
theorem d_Me_copyInto_39 : decode b_Me_copyInto 39 = .ok (.aload_n 0, 1) := by decide +kernel
theorem d_Me_copyInto_40 : decode b_Me_copyInto 40 = .ok (.getfield 17, 3) := by decide +kernel
theorem d_Me_copyInto_43 : decode b_Me_copyInto 43 = .ok (.iload_n 2, 1) := by decide +kernel
theorem d_Me_copyInto_44 : decode b_Me_copyInto 44 = .ok (.aaload, 1) := by decide +kernel
theorem d_Me_copyInto_45 : decode b_Me_copyInto 45 = .ok (.getfield 52, 3) := by decide +kernel
theorem d_Me_copyInto_48 : decode b_Me_copyInto 48 = .ok (.iconst 0, 1) := by decide +kernel
theorem d_Me_copyInto_49 : decode b_Me_copyInto 49 = .ok (.aload_n 1, 1) := by decide +kernel
theorem d_Me_copyInto_50 : decode b_Me_copyInto 50 = .ok (.iconst 0, 1) := by decide +kernel
theorem d_Me_copyInto_51 : decode b_Me_copyInto 51 = .ok (.iload_n 3, 1) := by decide +kernel
theorem d_Me_copyInto_52 : decode b_Me_copyInto 52 = .ok (.invokestatic 59, 3) := by decide +kernel
theorem d_Me_copyInto_55 : decode b_Me_copyInto 55 = .ok (.return_, 1) := by decide +kernel
theorem d_Pg_fillWithFile_0 : decode b_Pg_fillWithFile 0 = .ok (.aload_n 0, 1) := by decide +kernel
theorem d_Pg_fillWithFile_1 : decode b_Pg_fillWithFile 1 = .ok (.invokevirtual 35, 3) := by decide +kernel
theorem d_Pg_fillWithFile_4 : decode b_Pg_fillWithFile 4 = .ok (.iload_n 2, 1) := by decide +kernel
theorem d_Pg_fillWithFile_5 : decode b_Pg_fillWithFile 5 = .ok (.sipush 2048, 3) := by decide +kernel
theorem d_Pg_fillWithFile_8 : decode b_Pg_fillWithFile 8 = .ok (.imul, 1) := by decide +kernel
theorem d_Pg_fillWithFile_9 : decode b_Pg_fillWithFile 9 = .ok (.istore 4, 2) := by decide +kernel
theorem d_Pg_fillWithFile_11 : decode b_Pg_fillWithFile 11 = .ok (.sipush 2048, 3) := by decide +kernel
theorem d_Pg_fillWithFile_14 : decode b_Pg_fillWithFile 14 = .ok (.aload_n 1, 1) := by decide +kernel
theorem d_Pg_fillWithFile_15 : decode b_Pg_fillWithFile 15 = .ok (.getfield 76, 3) := by decide +kernel
theorem d_Pg_fillWithFile_18 : decode b_Pg_fillWithFile 18 = .ok (.iload 4, 2) := by decide +kernel
theorem d_Pg_fillWithFile_20 : decode b_Pg_fillWithFile 20 = .ok (.isub, 1) := by decide +kernel
theorem d_Pg_fillWithFile_21 : decode b_Pg_fillWithFile 21 = .ok (.invokestatic 80, 3) := by decide +kernel
theorem d_Pg_fillWithFile_24 : decode b_Pg_fillWithFile 24 = .ok (.istore 5, 2) := by decide +kernel
theorem d_Pg_fillWithFile_26 : decode b_Pg_fillWithFile 26 = .ok (.aload_n 1, 1) := by decide +kernel
theorem d_Pg_fillWithFile_27 : decode b_Pg_fillWithFile 27 = .ok (.getfield 86, 3) := by decide +kernel
theorem d_Pg_fillWithFile_30 : decode b_Pg_fillWithFile 30 = .ok (.ifCond .eq 22, 3) := by decide +kernel
theorem d_Pg_fillWithFile_52 : decode b_Pg_fillWithFile 52 = .ok (.iconst 0, 1) := by decide +kernel
theorem d_Pg_fillWithFile_53 : decode b_Pg_fillWithFile 53 = .ok (.istore 6, 2) := by decide +kernel
theorem d_Pg_fillWithFile_55 : decode b_Pg_fillWithFile 55 = .ok (.iload 6, 2) := by decide +kernel
theorem d_Pg_fillWithFile_57 : decode b_Pg_fillWithFile 57 = .ok (.iload 5, 2) := by decide +kernel
theorem d_Pg_fillWithFile_59 : decode b_Pg_fillWithFile 59 = .ok (.if_icmp .ge 24, 3) := by decide +kernel
theorem d_Pg_fillWithFile_83 : decode b_Pg_fillWithFile 83 = .ok (.return_, 1) := by decide +kernel
theorem d_Pg_fillWithFile_62 : decode b_Pg_fillWithFile 62 = .ok (.aload_n 0, 1) := by decide +kernel
theorem d_Pg_fillWithFile_63 : decode b_Pg_fillWithFile 63 = .ok (.iload 6, 2) := by decide +kernel
theorem d_Pg_fillWithFile_65 : decode b_Pg_fillWithFile 65 = .ok (.aload_n 1, 1) := by decide +kernel
theorem d_Pg_fillWithFile_66 : decode b_Pg_fillWithFile 66 = .ok (.iload 4, 2) := by decide +kernel
theorem d_Pg_fillWithFile_68 : decode b_Pg_fillWithFile 68 = .ok (.iload 6, 2) := by decide +kernel
theorem d_Pg_fillWithFile_70 : decode b_Pg_fillWithFile 70 = .ok (.iadd, 1) := by decide +kernel
theorem d_Pg_fillWithFile_71 : decode b_Pg_fillWithFile 71 = .ok (.invokevirtual 97, 3) := by decide +kernel
theorem d_Pg_fillWithFile_74 : decode b_Pg_fillWithFile 74 = .ok (.invokevirtual 31, 3) := by decide +kernel
theorem d_Pg_fillWithFile_77 : decode b_Pg_fillWithFile 77 = .ok (.iinc 6 1, 3) := by decide +kernel
theorem d_Pg_fillWithFile_80 : decode b_Pg_fillWithFile 80 = .ok (.goto (-25), 3) := by decide +kernel
theorem d_Pg_fillWithFile_33 : decode b_Pg_fillWithFile 33 = .ok (.aload_n 3, 1) := by decide +kernel
theorem d_Pg_fillWithFile_34 : decode b_Pg_fillWithFile 34 = .ok (.aload_n 0, 1) := by decide +kernel
theorem d_Pg_fillWithFile_35 : decode b_Pg_fillWithFile 35 = .ok (.getfield 9, 3) := by decide +kernel
theorem d_Pg_fillWithFile_38 : decode b_Pg_fillWithFile 38 = .ok (.aload_n 1, 1) := by decide +kernel
theorem d_Pg_fillWithFile_39 : decode b_Pg_fillWithFile 39 = .ok (.getfield 90, 3) := by decide +kernel
theorem d_Pg_fillWithFile_42 : decode b_Pg_fillWithFile 42 = .ok (.iload_n 2, 1) := by decide +kernel
theorem d_Pg_fillWithFile_43 : decode b_Pg_fillWithFile 43 = .ok (.iadd, 1) := by decide +kernel
theorem d_Pg_fillWithFile_44 : decode b_Pg_fillWithFile 44 = .ok (.iload 5, 2) := by decide +kernel
theorem d_Pg_fillWithFile_46 : decode b_Pg_fillWithFile 46 = .ok (.invokevirtual 93, 3) := by decide +kernel
theorem d_Pg_fillWithFile_49 : decode b_Pg_fillWithFile 49 = .ok (.goto 34, 3) := by decide +kernel
theorem d_Pg_fillWithPathTable_0 : decode b_Pg_fillWithPathTable 0 = .ok (.aload_n 0, 1) := by decide +kernel
theorem d_Pg_fillWithPathTable_1 : decode b_Pg_fillWithPathTable 1 = .ok (.invokevirtual 35, 3) := by decide +kernel
theorem d_Pg_fillWithPathTable_4 : decode b_Pg_fillWithPathTable 4 = .ok (.iconst 0, 1) := by decide +kernel
theorem d_Pg_fillWithPathTable_5 : decode b_Pg_fillWithPathTable 5 = .ok (.istore 4, 2) := by decide +kernel
theorem d_Pg_fillWithPathTable_7 : decode b_Pg_fillWithPathTable 7 = .ok (.iconst 0, 1) := by decide +kernel
theorem d_Pg_fillWithPathTable_8 : decode b_Pg_fillWithPathTable 8 = .ok (.istore 5, 2) := by decide +kernel
theorem d_Pg_fillWithPathTable_10 : decode b_Pg_fillWithPathTable 10 = .ok (.iconst 0, 1) := by decide +kernel
theorem d_Pg_fillWithPathTable_11 : decode b_Pg_fillWithPathTable 11 = .ok (.istore 6, 2) := by decide +kernel
theorem d_Pg_fillWithPathTable_13 : decode b_Pg_fillWithPathTable 13 = .ok (.iload 6, 2) := by decide +kernel
theorem d_Pg_fillWithPathTable_15 : decode b_Pg_fillWithPathTable 15 = .ok (.iload_n 2, 1) := by decide +kernel
theorem d_Pg_fillWithPathTable_16 : decode b_Pg_fillWithPathTable 16 = .ok (.if_icmp .ge 51, 3) := by decide +kernel
theorem d_Pg_fillWithPathTable_67 : decode b_Pg_fillWithPathTable 67 = .ok (.iload 4, 2) := by decide +kernel
theorem d_Pg_fillWithPathTable_69 : decode b_Pg_fillWithPathTable 69 = .ok (.ireturn, 1) := by decide +kernel
theorem d_Pg_fillWithPathTable_19 : decode b_Pg_fillWithPathTable 19 = .ok (.iload 6, 2) := by decide +kernel
theorem d_Pg_fillWithPathTable_21 : decode b_Pg_fillWithPathTable 21 = .ok (.aload_n 1, 1) := by decide +kernel
theorem d_Pg_fillWithPathTable_22 : decode b_Pg_fillWithPathTable 22 = .ok (.arraylength, 1) := by decide +kernel
theorem d_Pg_fillWithPathTable_23 : decode b_Pg_fillWithPathTable 23 = .ok (.if_icmp .ge 44, 3) := by decide +kernel
theorem d_Pg_fillWithPathTable_26 : decode b_Pg_fillWithPathTable 26 = .ok (.aload_n 1, 1) := by decide +kernel
theorem d_Pg_fillWithPathTable_27 : decode b_Pg_fillWithPathTable 27 = .ok (.iload 6, 2) := by decide +kernel
theorem d_Pg_fillWithPathTable_29 : decode b_Pg_fillWithPathTable 29 = .ok (.aaload, 1) := by decide +kernel
theorem d_Pg_fillWithPathTable_30 : decode b_Pg_fillWithPathTable 30 = .ok (.getfield 101, 3) := by decide +kernel
theorem d_Pg_fillWithPathTable_33 : decode b_Pg_fillWithPathTable 33 = .ok (.ifCond .eq 28, 3) := by decide +kernel
theorem d_Pg_fillWithPathTable_61 : decode b_Pg_fillWithPathTable 61 = .ok (.iinc 6 1, 3) := by decide +kernel
theorem d_Pg_fillWithPathTable_64 : decode b_Pg_fillWithPathTable 64 = .ok (.goto (-51), 3) := by decide +kernel
theorem d_Pg_fillWithPathTable_36 : decode b_Pg_fillWithPathTable 36 = .ok (.iinc 5 1, 3) := by decide +kernel
theorem d_Pg_fillWithPathTable_39 : decode b_Pg_fillWithPathTable 39 = .ok (.aload_n 1, 1) := by decide +kernel
theorem d_Pg_fillWithPathTable_40 : decode b_Pg_fillWithPathTable 40 = .ok (.iload 6, 2) := by decide +kernel
theorem d_Pg_fillWithPathTable_42 : decode b_Pg_fillWithPathTable 42 = .ok (.aaload, 1) := by decide +kernel
theorem d_Pg_fillWithPathTable_43 : decode b_Pg_fillWithPathTable 43 = .ok (.iload 5, 2) := by decide +kernel
theorem d_Pg_fillWithPathTable_45 : decode b_Pg_fillWithPathTable 45 = .ok (.putfield 104, 3) := by decide +kernel
theorem d_Pg_fillWithPathTable_48 : decode b_Pg_fillWithPathTable 48 = .ok (.aload_n 0, 1) := by decide +kernel
theorem d_Pg_fillWithPathTable_49 : decode b_Pg_fillWithPathTable 49 = .ok (.iload 4, 2) := by decide +kernel
theorem d_Pg_fillWithPathTable_51 : decode b_Pg_fillWithPathTable 51 = .ok (.aload_n 1, 1) := by decide +kernel
theorem d_Pg_fillWithPathTable_52 : decode b_Pg_fillWithPathTable 52 = .ok (.iload 6, 2) := by decide +kernel
theorem d_Pg_fillWithPathTable_54 : decode b_Pg_fillWithPathTable 54 = .ok (.aaload, 1) := by decide +kernel
theorem d_Pg_fillWithPathTable_55 : decode b_Pg_fillWithPathTable 55 = .ok (.iload_n 3, 1) := by decide +kernel
theorem d_Pg_fillWithPathTable_56 : decode b_Pg_fillWithPathTable 56 = .ok (.invokevirtual 107, 3) := by decide +kernel
theorem d_Pg_fillWithPathTable_59 : decode b_Pg_fillWithPathTable 59 = .ok (.istore 4, 2) := by decide +kernel
set_option maxHeartbeats 4000000 in
set_option maxRecDepth 100000 in
theorem t_putId (l : Launch) (D : va_G) (t : Nat → ClassId) (G : hG) (ak av : Nat → Nat) (h : hM) (τ : tM) (n f g : Nat) (p9 : Nat) (a9 : Int32) (d9 : Nat) (hn : n ≤ 200) (hT : TI τ t n h) (T_p9 : τ p9 = (4, f)) (T_d9 : τ d9 = (10, g)) : Met l y_Pg_putIdentifier (.code y_Pg_putIdentifier b_Pg_putIdentifier 4 none :: lw_g) { frames := 5, cells := 0, slots := 0, locals := 107 } (hP (kE D t G ak av) D vwCl G h [.ref p9, .int a9, .ref d9]) (hQv D vwCl G (fun h' => TI τ t n h' ∧ kf τ [(5, f)] [] h h')) 0 0 G.P := by
  refine Met.ofW (cc := b_Pg_putIdentifier) (maxL := 4) (ret := none) (by decide) rfl ?_
  intro p e s m args below meth c s₁ Bd hml hv
  obtain ⟨ha, hE, hH⟩ := hv
  have hx := Bd.exec
  have hb := Bd.bytes
  have hr := Bd.returns
  have hts : ∀ w ∈ lw_g, w.before args s = true := fun w hw => atoms_spec (ws := (.code y_Pg_putIdentifier b_Pg_putIdentifier 4 none :: lw_g)) Bd.pre w (List.mem_cons_of_mem _ hw)
  have hown : s.vm.findClass R_Pg = some m.cls := findClass_of_methodNamed Bd.named
  have hlocks := Bd.notSynchronized
  have hK := hE.1
  have hH0 := hH
  have hLo : hLc G.P [] := hLc_nil
  have hz : s.heap.size ≤ s.heap.size := Nat.le_refl _
  have hl := lv_entry [.ref p9, .int a9, .ref d9] (n := 4) (Nat.le_of_ble_eq_true rfl)
  rw [show entryFrame m args 4 = F0 m 0 ((lg_sl [.ref p9, .int a9, .ref d9] ++ List.replicate (4 - (lg_sl [.ref p9, .int a9, .ref d9]).length) Slot.unset).toArray) [] from (by rw [ha]; exact lg_entry_eq m [.ref p9, .int a9, .ref d9] 4)]
  generalize (lg_sl [.ref p9, .int a9, .ref d9] ++ List.replicate (4 - (lg_sl [.ref p9, .int a9, .ref d9]).length) Slot.unset).toArray = ls at hl ⊢
  have hl : lv_has ls 4 [(0, .ref p9), (1, .int a9), (2, .ref d9)] := hl
  have hkf : kf τ [(5, f)] [] h h := kf_rf
  refine lv_iconst (v := 0) hx hb d_Pg_putIdentifier_0 (by decide) ?_
  refine lv_istore_n (lv' := [(3, .int 0), (0, .ref p9), (1, .int a9), (2, .ref d9)]) hx hb d_Pg_putIdentifier_1 rfl hl (by decide) rfl (fun ls hl => ?_)
  refine hm_loop (fun k2 ls H locs hh2 => ∃ (i9 : Int32), k2 = mU i9 ∧ lv_has ls 4 [(0, .ref p9), (1, .int a9), (2, .ref d9), (3, .int i9)] ∧ hm D vwCl G hh2 H ∧ s.heap.size ≤ H.size ∧ hLc G.P locs ∧ (TI τ t n hh2) ∧ (kf τ [(5, f)] [] h hh2) ∧ (0 ≤ i9.toInt)) ?_ (hh := h) ⟨0, rfl, (lv_sub hl [1, 2, 3, 0] rfl), hH, hz, hLo, hT, hkf, (by decide)⟩
  rintro k2 ls H locs hh2 ⟨i9, hk2, hl, hH, hz, hLo, hT, hkf, I_i9⟩ ih2
  refine lv_iload_n hx hb d_Pg_putIdentifier_2 rfl (lv_at hl 3 rfl) ?_
  refine lv_aload_n hx hb d_Pg_putIdentifier_3 rfl (lv_at hl 2 rfl) ?_
  obtain ⟨v_1, v_2, v_4, v_6, v_7, v_9, v_10, v_11, v_13, v_14, v_15, F_d9, c_3, c_5, c_8, c_12⟩ := TI_node hT T_d9
  refine hm_callPi (va_runV (As := []) (b := d9) (rest := [.int i9]) ⟨hx, hb, hml, hown, hts⟩ (t_idLen l D t G ak av hh2 τ n g d9  hn hT T_d9) ⟨cw9B 0 hts mw_105 mw_171 mw_106 rfl rfl (by decide +kernel) ⟨Nat.le_of_ble_eq_true rfl, Nat.le_of_ble_eq_true rfl⟩, hts _ mw_108, hts _ mw_109⟩ (hP_V (q := (R_No, F_No, 11)) kE_ok hE hK hH F_d9 rfl) rfl rfl hl.1 rfl (lv_room (Nat.le_of_ble_eq_true rfl)) d_Pg_putIdentifier_4 ⟨Nat.le_of_ble_eq_true rfl, Nat.le_of_ble_eq_true rfl⟩) (fun r_16 h_17 H_18 hp_20  hH z_19 => ?_)
  have hz : s.heap.size ≤ H_18.size := Nat.le_trans hz z_19
  obtain rfl := hp_20
  refine lv_icmp_ge (tgt := 28) hx hb d_Pg_putIdentifier_7 (by decide) (fun hc_22 => ?_) (fun hc_22 => ?_)
  · skip
    have ic_23 : r_16.toInt ≤ i9.toInt := iLe hc_22
    exact W.vret hx hb hr (fun t9 ht hW => ⟨hh2, rfl, ⟨hT, hkf⟩, by rw [ht]; exact hH, by rw [ht]; exact hz⟩) hLo d_Pg_putIdentifier_28
  · skip
    have ic_24 : i9.toInt < r_16.toInt := iNe hc_22
    have iu_25 : r_16.toInt < 2147483648 := iUp _
    refine lv_aload_n hx hb d_Pg_putIdentifier_10 rfl (lv_at hl 0 rfl) ?_
    refine lv_iload_n hx hb d_Pg_putIdentifier_11 rfl (lv_at hl 1 rfl) ?_
    refine lv_iload_n hx hb d_Pg_putIdentifier_12 rfl (lv_at hl 3 rfl) ?_
    refine lv_iadd hx hb d_Pg_putIdentifier_13 ?_
    refine lv_aload_n hx hb d_Pg_putIdentifier_14 rfl (lv_at hl 2 rfl) ?_
    refine lv_iload_n hx hb d_Pg_putIdentifier_15 rfl (lv_at hl 3 rfl) ?_
    refine hm_callPi (va_runV (As := [.int i9]) (b := d9) (rest := [.int (a9 + i9), .ref p9]) ⟨hx, hb, hml, hown, hts⟩ (t_idByte l D t G ak av hh2 τ n g d9 i9  hn hT T_d9 (by omega)) ⟨cw9B 1 hts mw_110 mw_172 mw_106 rfl rfl (by decide +kernel) ⟨Nat.le_of_ble_eq_true rfl, Nat.le_of_ble_eq_true rfl⟩, hts _ mw_112, hts _ mw_113⟩ (hP_V (q := (R_No, F_No, 11)) kE_ok hE hK hH F_d9 rfl) rfl rfl hl.1 rfl (lv_room (Nat.le_of_ble_eq_true rfl)) d_Pg_putIdentifier_16 ⟨Nat.le_of_ble_eq_true rfl, Nat.le_of_ble_eq_true rfl⟩) (fun r_26 h_27 H_28 hp_30  hH z_29 => ?_)
    have hz : s.heap.size ≤ H_28.size := Nat.le_trans hz z_29
    obtain rfl := hp_30
    obtain ⟨v_32, F_p9, c_33⟩ := TI_page hT T_p9
    refine hm_callv (va_runV (As := [.int (a9 + i9), .int r_26]) (b := p9) (rest := []) ⟨hx, hb, hml, hown, hts⟩ (t_put l D t G ak av hh2 τ n f p9 (a9 + i9) r_26  hn hT T_p9) ⟨cw9B 2 hts mw_76 mw_78 mw_77 rfl rfl (by decide +kernel) ⟨Nat.le_of_ble_eq_true rfl, Nat.le_of_ble_eq_true rfl⟩, hts _ mw_79, hts _ mw_80⟩ (hP_V (q := (R_Pg, F_Pg, 1)) kE_ok hE hK hH F_p9 rfl) rfl rfl hl.1 rfl (lv_room (Nat.le_of_ble_eq_true rfl)) d_Pg_putIdentifier_19 ⟨Nat.le_of_ble_eq_true rfl, Nat.le_of_ble_eq_true rfl⟩) hLo (fun h_34 H_35 locs hp_37 hH z_36 hLo => ?_)
    have hz : s.heap.size ≤ H_35.size := Nat.le_trans hz z_36
    have hT0 := hT
    obtain ⟨hT, kf_39⟩ := hp_37
    have F_d9 : h_34 d9 = some (.inr (1, [.int v_1, va_rf v_2, .int v_4, .long v_6, .int v_7, .int v_9, .int v_10, .int v_11, .int v_13, .int v_14, .int v_15])) := kf_at kf_39 T_d9 (by decide) (tnc (by decide) tn0) nm0 F_d9
    have F_p9 : h_34 p9 = some (.inr (3, [.ref v_32])) := kf_at kf_39 T_p9 (by decide) (tnc (by decide) tn0) nm0 F_p9
    have hkf : kf τ [(5, f)] [] h h_34 := kf_tr hkf kf_39 (List.forall_mem_cons.mpr ⟨List.mem_cons_self, List.forall_mem_nil _⟩) (List.forall_mem_nil _)
    obtain ⟨j_40, e_41⟩ : ∃ z : Int32, z = i9 + 1 := ⟨_, rfl⟩
    refine lv_iinc (v := j_40) (lv' := [(3, .int j_40), (0, .ref p9), (1, .int a9), (2, .ref d9)]) hx hb d_Pg_putIdentifier_22 hl (k := 3) rfl e_41.symm (by decide) rfl (fun ls hl => ?_)
    refine lv_goto (tgt := 2) hx hb d_Pg_putIdentifier_25 (by decide) ?_
    have is_42 : j_40.toInt = i9.toInt + 1 := by rw [e_41]; exact iAddK 1 rfl (by omega) (by omega)
    exact ih2 (mU j_40) ls _ locs _ (by rw [hk2]; exact mU_lt (by omega)) ⟨j_40, rfl, (lv_sub hl [1, 2, 3, 0] rfl), hH, hz, hLo, hT, hkf, (by omega)⟩

set_option maxHeartbeats 4000000 in
set_option maxRecDepth 100000 in
theorem t_putRec (l : Launch) (D : va_G) (t : Nat → ClassId) (G : hG) (ak av : Nat → Nat) (h : hM) (τ : tM) (n f g : Nat) (p9 : Nat) (a9 : Int32) (d9 : Nat) (i8 : Int32) (hn : n ≤ 200) (hT : TI τ t n h) (T_p9 : τ p9 = (4, f)) (T_d9 : τ d9 = (10, g)) : Met l y_Pg_putRecord (.code y_Pg_putRecord b_Pg_putRecord 6 (some .int) :: lw_g) { frames := 6, cells := 0, slots := 0, locals := 130 } (hP (kE D t G ak av) D vwCl G h [.ref p9, .int a9, .ref d9, .int i8]) (hQi D vwCl G (fun r h' => TI τ t n h' ∧ kf τ [(5, f)] [] h h')) 0 0 G.P := by
  refine Met.ofW (cc := b_Pg_putRecord) (maxL := 6) (ret := (some .int)) (by decide) rfl ?_
  intro p e s m args below meth c s₁ Bd hml hv
  obtain ⟨ha, hE, hH⟩ := hv
  have hx := Bd.exec
  have hb := Bd.bytes
  have hr := Bd.returns
  have hts : ∀ w ∈ lw_g, w.before args s = true := fun w hw => atoms_spec (ws := (.code y_Pg_putRecord b_Pg_putRecord 6 (some .int) :: lw_g)) Bd.pre w (List.mem_cons_of_mem _ hw)
  have hown : s.vm.findClass R_Pg = some m.cls := findClass_of_methodNamed Bd.named
  have hlocks := Bd.notSynchronized
  have hK := hE.1
  have hH0 := hH
  have hLo : hLc G.P [] := hLc_nil
  have hz : s.heap.size ≤ s.heap.size := Nat.le_refl _
  have hl := lv_entry [.ref p9, .int a9, .ref d9, .int i8] (n := 6) (Nat.le_of_ble_eq_true rfl)
  rw [show entryFrame m args 6 = F0 m 0 ((lg_sl [.ref p9, .int a9, .ref d9, .int i8] ++ List.replicate (6 - (lg_sl [.ref p9, .int a9, .ref d9, .int i8]).length) Slot.unset).toArray) [] from (by rw [ha]; exact lg_entry_eq m [.ref p9, .int a9, .ref d9, .int i8] 6)]
  generalize (lg_sl [.ref p9, .int a9, .ref d9, .int i8] ++ List.replicate (6 - (lg_sl [.ref p9, .int a9, .ref d9, .int i8]).length) Slot.unset).toArray = ls at hl ⊢
  have hl : lv_has ls 6 [(0, .ref p9), (1, .int a9), (2, .ref d9), (3, .int i8)] := hl
  have hkf : kf τ [(5, f)] [] h h := kf_rf
  refine hm_cut (α := Int32) (fun il9 ls H locs HH => (lv_has ls 6 [(0, .ref p9), (1, .int a9), (2, .ref d9), (3, .int i8)]) ∧ (hm D vwCl G HH H) ∧ (s.heap.size ≤ H.size) ∧ (hLc G.P locs) ∧ (TI τ t n HH) ∧ (kf τ [(5, f)] [] h HH)) 13 (fun il9 => [.int il9]) ?_ (fun J13 => ?_)
  · skip
    rintro il9 ls H locs HH ⟨hl, hH, hz, hLo, hT, hkf⟩
    refine lv_istore (lv' := [(4, .int il9), (0, .ref p9), (1, .int a9), (2, .ref d9), (3, .int i8)]) hx hb d_Pg_putRecord_13 hl (by decide) rfl (fun ls hl => ?_)
    refine lv_bipush (v := 33) hx hb d_Pg_putRecord_15 (by decide) ?_
    refine lv_iload hx hb d_Pg_putRecord_17 (lv_at hl 0 rfl) ?_
    refine lv_iadd hx hb d_Pg_putRecord_19 ?_
    refine hm_callPi (va_runSN (As := [.int (33 + il9)]) (rest := []) ⟨hx, hb, hml, hown, hts⟩ (t_evened l D t G ak av HH τ n (33 + il9)  hn hT ) ⟨cw9N 1 hts mw_173 (nmU hE nM_7) mw_25 rfl rfl (by decide +kernel) ⟨Nat.le_of_ble_eq_true rfl, Nat.le_of_ble_eq_true rfl⟩, hts _ mw_174, trivial⟩ (hP_S kE_ok hE hH) rfl rfl hl.1 rfl (lv_room (Nat.le_of_ble_eq_true rfl)) d_Pg_putRecord_20 ⟨Nat.le_of_ble_eq_true rfl, Nat.le_of_ble_eq_true rfl⟩) (fun r_1 h_2 H_3 hp_5  hH z_4 => ?_)
    have hz : s.heap.size ≤ H_3.size := Nat.le_trans hz z_4
    obtain rfl := hp_5
    refine lv_istore (lv' := [(5, .int r_1), (4, .int il9), (0, .ref p9), (1, .int a9), (2, .ref d9), (3, .int i8)]) hx hb d_Pg_putRecord_23 hl (by decide) rfl (fun ls hl => ?_)
    refine lv_aload_n hx hb d_Pg_putRecord_25 rfl (lv_at hl 2 rfl) ?_
    refine lv_iload_n hx hb d_Pg_putRecord_26 rfl (lv_at hl 3 rfl) ?_
    refine lv_iload hx hb d_Pg_putRecord_27 (lv_at hl 0 rfl) ?_
    obtain ⟨v_7, F_p9, c_8⟩ := TI_page hT T_p9
    refine hm_callv (va_runV (As := [.int a9, .int r_1]) (b := p9) (rest := []) ⟨hx, hb, hml, hown, hts⟩ (t_put l D t G ak av HH τ n f p9 a9 r_1  hn hT T_p9) ⟨cw9B 2 hts mw_76 mw_78 mw_77 rfl rfl (by decide +kernel) ⟨Nat.le_of_ble_eq_true rfl, Nat.le_of_ble_eq_true rfl⟩, hts _ mw_79, hts _ mw_80⟩ (hP_V (q := (R_Pg, F_Pg, 1)) kE_ok hE hK hH F_p9 rfl) rfl rfl hl.1 rfl (lv_room (Nat.le_of_ble_eq_true rfl)) d_Pg_putRecord_29 ⟨Nat.le_of_ble_eq_true rfl, Nat.le_of_ble_eq_true rfl⟩) hLo (fun h_9 H_10 locs hp_12 hH z_11 hLo => ?_)
    have hz : s.heap.size ≤ H_10.size := Nat.le_trans hz z_11
    have hT0 := hT
    obtain ⟨hT, kf_14⟩ := hp_12
    have F_p9 : h_9 p9 = some (.inr (3, [.ref v_7])) := kf_at kf_14 T_p9 (by decide) (tnc (by decide) tn0) nm0 F_p9
    have hkf : kf τ [(5, f)] [] h h_9 := kf_tr hkf kf_14 (List.forall_mem_cons.mpr ⟨List.mem_cons_self, List.forall_mem_nil _⟩) (List.forall_mem_nil _)
    refine lv_aload_n hx hb d_Pg_putRecord_32 rfl (lv_at hl 2 rfl) ?_
    refine lv_iload_n hx hb d_Pg_putRecord_33 rfl (lv_at hl 3 rfl) ?_
    refine lv_iconst (v := 2) hx hb d_Pg_putRecord_34 (by decide) ?_
    refine lv_iadd hx hb d_Pg_putRecord_35 ?_
    refine lv_iconst (v := 4) hx hb d_Pg_putRecord_36 (by decide) ?_
    refine lv_aload_n hx hb d_Pg_putRecord_37 rfl (lv_at hl 4 rfl) ?_
    obtain ⟨v_15, v_16, v_18, v_20, v_21, v_23, v_24, v_25, v_27, v_28, v_29, F_d9, c_17, c_19, c_22, c_26⟩ := TI_node hT T_d9
    refine hm_get (ci := 1) (v := .int v_28) (C := R_No) (T := F_No) (N := 11) hx hb hts ig_No hown hK hH F_d9 rfl 9 (by decide) (hts _ mw_175) (fun _ h9 => h9) rfl d_Pg_putRecord_38 ?_
    refine hm_callv (va_runV (As := [.int (a9 + 2), .int 4, .int v_28]) (b := p9) (rest := []) ⟨hx, hb, hml, hown, hts⟩ (t_putBoth l D t G ak av h_9 τ n f p9 (a9 + 2) 4 v_28  hn hT T_p9) ⟨cw9B 3 hts mw_176 mw_177 mw_77 rfl rfl (by decide +kernel) ⟨Nat.le_of_ble_eq_true rfl, Nat.le_of_ble_eq_true rfl⟩, hts _ mw_178, hts _ mw_179⟩ (hP_V (q := (R_Pg, F_Pg, 1)) kE_ok hE hK hH F_p9 rfl) rfl rfl hl.1 rfl (lv_room (Nat.le_of_ble_eq_true rfl)) d_Pg_putRecord_41 ⟨Nat.le_of_ble_eq_true rfl, Nat.le_of_ble_eq_true rfl⟩) hLo (fun h_30 H_31 locs hp_33 hH z_32 hLo => ?_)
    have hz : s.heap.size ≤ H_31.size := Nat.le_trans hz z_32
    have hT0 := hT
    obtain ⟨hT, kf_35⟩ := hp_33
    have F_p9 : h_30 p9 = some (.inr (3, [.ref v_7])) := kf_at kf_35 T_p9 (by decide) (tnc (by decide) tn0) nm0 F_p9
    have F_d9 : h_30 d9 = some (.inr (1, [.int v_15, va_rf v_16, .int v_18, .long v_20, .int v_21, .int v_23, .int v_24, .int v_25, .int v_27, .int v_28, .int v_29])) := kf_at kf_35 T_d9 (by decide) (tnc (by decide) tn0) nm0 F_d9
    have hkf : kf τ [(5, f)] [] h h_30 := kf_tr hkf kf_35 (List.forall_mem_cons.mpr ⟨List.mem_cons_self, List.forall_mem_nil _⟩) (List.forall_mem_nil _)
    refine hm_cut (α := Int32) (fun sz9 ls H locs HH => (lv_has ls 6 [(0, .ref p9), (1, .int a9), (2, .ref d9), (3, .int i8), (4, .int il9), (5, .int r_1)]) ∧ (hm D vwCl G HH H) ∧ (s.heap.size ≤ H.size) ∧ (hLc G.P locs) ∧ (TI τ t n HH) ∧ (kf τ [(5, f)] [] h HH)) 67 (fun sz9 => [.int sz9, .int 4, .int (a9 + 10), .ref p9]) ?_ (fun J67 => ?_)
    · skip
      rintro sz9 ls H locs HH ⟨hl, hH, hz, hLo, hT, hkf⟩
      obtain ⟨v_36, F_p9, c_37⟩ := TI_page hT T_p9
      refine hm_callv (va_runV (As := [.int (a9 + 10), .int 4, .int sz9]) (b := p9) (rest := []) ⟨hx, hb, hml, hown, hts⟩ (t_putBoth l D t G ak av HH τ n f p9 (a9 + 10) 4 sz9  hn hT T_p9) ⟨cw9B 3 hts mw_176 mw_177 mw_77 rfl rfl (by decide +kernel) ⟨Nat.le_of_ble_eq_true rfl, Nat.le_of_ble_eq_true rfl⟩, hts _ mw_178, hts _ mw_179⟩ (hP_V (q := (R_Pg, F_Pg, 1)) kE_ok hE hK hH F_p9 rfl) rfl rfl hl.1 rfl (lv_room (Nat.le_of_ble_eq_true rfl)) d_Pg_putRecord_67 ⟨Nat.le_of_ble_eq_true rfl, Nat.le_of_ble_eq_true rfl⟩) hLo (fun h_38 H_39 locs hp_41 hH z_40 hLo => ?_)
      have hz : s.heap.size ≤ H_39.size := Nat.le_trans hz z_40
      have hT0 := hT
      obtain ⟨hT, kf_43⟩ := hp_41
      have F_p9 : h_38 p9 = some (.inr (3, [.ref v_36])) := kf_at kf_43 T_p9 (by decide) (tnc (by decide) tn0) nm0 F_p9
      have hkf : kf τ [(5, f)] [] h h_38 := kf_tr hkf kf_43 (List.forall_mem_cons.mpr ⟨List.mem_cons_self, List.forall_mem_nil _⟩) (List.forall_mem_nil _)
      refine hm_cut (α := Int32) (fun k9 ls H locs HH => (lv_has ls 6 [(0, .ref p9), (1, .int a9), (2, .ref d9), (3, .int i8), (4, .int il9), (5, .int r_1)]) ∧ (hm D vwCl G HH H) ∧ (s.heap.size ≤ H.size) ∧ (hLc G.P locs) ∧ (TI τ t n HH) ∧ (kf τ [(5, f)] [] h HH)) 87 (fun k9 => [.int k9, .int (a9 + 25), .ref p9]) ?_ (fun J87 => ?_)
      · skip
        rintro k9 ls H locs HH ⟨hl, hH, hz, hLo, hT, hkf⟩
        obtain ⟨v_44, F_p9, c_45⟩ := TI_page hT T_p9
        refine hm_callv (va_runV (As := [.int (a9 + 25), .int k9]) (b := p9) (rest := []) ⟨hx, hb, hml, hown, hts⟩ (t_put l D t G ak av HH τ n f p9 (a9 + 25) k9  hn hT T_p9) ⟨cw9B 2 hts mw_76 mw_78 mw_77 rfl rfl (by decide +kernel) ⟨Nat.le_of_ble_eq_true rfl, Nat.le_of_ble_eq_true rfl⟩, hts _ mw_79, hts _ mw_80⟩ (hP_V (q := (R_Pg, F_Pg, 1)) kE_ok hE hK hH F_p9 rfl) rfl rfl hl.1 rfl (lv_room (Nat.le_of_ble_eq_true rfl)) d_Pg_putRecord_87 ⟨Nat.le_of_ble_eq_true rfl, Nat.le_of_ble_eq_true rfl⟩) hLo (fun h_46 H_47 locs hp_49 hH z_48 hLo => ?_)
        have hz : s.heap.size ≤ H_47.size := Nat.le_trans hz z_48
        have hT0 := hT
        obtain ⟨hT, kf_51⟩ := hp_49
        have F_p9 : h_46 p9 = some (.inr (3, [.ref v_44])) := kf_at kf_51 T_p9 (by decide) (tnc (by decide) tn0) nm0 F_p9
        have hkf : kf τ [(5, f)] [] h h_46 := kf_tr hkf kf_51 (List.forall_mem_cons.mpr ⟨List.mem_cons_self, List.forall_mem_nil _⟩) (List.forall_mem_nil _)
        refine lv_aload_n hx hb d_Pg_putRecord_90 rfl (lv_at hl 0 rfl) ?_
        refine lv_iload_n hx hb d_Pg_putRecord_91 rfl (lv_at hl 1 rfl) ?_
        refine lv_bipush (v := 28) hx hb d_Pg_putRecord_92 (by decide) ?_
        refine lv_iadd hx hb d_Pg_putRecord_94 ?_
        refine lv_iconst (v := 2) hx hb d_Pg_putRecord_95 (by decide) ?_
        refine lv_iconst (v := 1) hx hb d_Pg_putRecord_96 (by decide) ?_
        refine hm_callv (va_runV (As := [.int (a9 + 28), .int 2, .int 1]) (b := p9) (rest := []) ⟨hx, hb, hml, hown, hts⟩ (t_putBoth l D t G ak av h_46 τ n f p9 (a9 + 28) 2 1  hn hT T_p9) ⟨cw9B 3 hts mw_176 mw_177 mw_77 rfl rfl (by decide +kernel) ⟨Nat.le_of_ble_eq_true rfl, Nat.le_of_ble_eq_true rfl⟩, hts _ mw_178, hts _ mw_179⟩ (hP_V (q := (R_Pg, F_Pg, 1)) kE_ok hE hK hH F_p9 rfl) rfl rfl hl.1 rfl (lv_room (Nat.le_of_ble_eq_true rfl)) d_Pg_putRecord_97 ⟨Nat.le_of_ble_eq_true rfl, Nat.le_of_ble_eq_true rfl⟩) hLo (fun h_52 H_53 locs hp_55 hH z_54 hLo => ?_)
        have hz : s.heap.size ≤ H_53.size := Nat.le_trans hz z_54
        have hT0 := hT
        obtain ⟨hT, kf_57⟩ := hp_55
        have F_p9 : h_52 p9 = some (.inr (3, [.ref v_44])) := kf_at kf_57 T_p9 (by decide) (tnc (by decide) tn0) nm0 F_p9
        have hkf : kf τ [(5, f)] [] h h_52 := kf_tr hkf kf_57 (List.forall_mem_cons.mpr ⟨List.mem_cons_self, List.forall_mem_nil _⟩) (List.forall_mem_nil _)
        refine lv_aload_n hx hb d_Pg_putRecord_100 rfl (lv_at hl 0 rfl) ?_
        refine lv_iload_n hx hb d_Pg_putRecord_101 rfl (lv_at hl 1 rfl) ?_
        refine lv_bipush (v := 32) hx hb d_Pg_putRecord_102 (by decide) ?_
        refine lv_iadd hx hb d_Pg_putRecord_104 ?_
        refine lv_iload hx hb d_Pg_putRecord_105 (lv_at hl 4 rfl) ?_
        refine hm_callv (va_runV (As := [.int (a9 + 32), .int il9]) (b := p9) (rest := []) ⟨hx, hb, hml, hown, hts⟩ (t_put l D t G ak av h_52 τ n f p9 (a9 + 32) il9  hn hT T_p9) ⟨cw9B 2 hts mw_76 mw_78 mw_77 rfl rfl (by decide +kernel) ⟨Nat.le_of_ble_eq_true rfl, Nat.le_of_ble_eq_true rfl⟩, hts _ mw_79, hts _ mw_80⟩ (hP_V (q := (R_Pg, F_Pg, 1)) kE_ok hE hK hH F_p9 rfl) rfl rfl hl.1 rfl (lv_room (Nat.le_of_ble_eq_true rfl)) d_Pg_putRecord_107 ⟨Nat.le_of_ble_eq_true rfl, Nat.le_of_ble_eq_true rfl⟩) hLo (fun h_58 H_59 locs hp_61 hH z_60 hLo => ?_)
        have hz : s.heap.size ≤ H_59.size := Nat.le_trans hz z_60
        have hT0 := hT
        obtain ⟨hT, kf_63⟩ := hp_61
        have F_p9 : h_58 p9 = some (.inr (3, [.ref v_44])) := kf_at kf_63 T_p9 (by decide) (tnc (by decide) tn0) nm0 F_p9
        have hkf : kf τ [(5, f)] [] h h_58 := kf_tr hkf kf_63 (List.forall_mem_cons.mpr ⟨List.mem_cons_self, List.forall_mem_nil _⟩) (List.forall_mem_nil _)
        refine hm_cut (α := Unit) (fun un9 ls H locs HH => (lv_has ls 6 [(0, .ref p9), (1, .int a9), (2, .ref d9), (3, .int i8), (4, .int il9), (5, .int r_1)]) ∧ (hm D vwCl G HH H) ∧ (s.heap.size ≤ H.size) ∧ (hLc G.P locs) ∧ (TI τ t n HH) ∧ (kf τ [(5, f)] [] h HH)) 136 (fun un9 => []) ?_ (fun J136 => ?_)
        · skip
          rintro un9 ls H locs HH ⟨hl, hH, hz, hLo, hT, hkf⟩
          refine lv_iload_n hx hb d_Pg_putRecord_136 rfl (lv_at hl 1 rfl) ?_
          refine lv_iload hx hb d_Pg_putRecord_137 (lv_at hl 5 rfl) ?_
          refine lv_iadd hx hb d_Pg_putRecord_139 ?_
          exact W.iret (v := a9 + r_1) hx hb hr (fun t9 ht hW => ⟨a9 + r_1, HH, rfl, ⟨hT, hkf⟩, by rw [ht]; exact hH, by rw [ht]; exact hz⟩) hLo d_Pg_putRecord_140
        · skip
          refine lv_iload_n hx hb d_Pg_putRecord_110 rfl (lv_at hl 3 rfl) ?_
          refine lv_iconst (v := -1) hx hb d_Pg_putRecord_111 (by decide) ?_
          refine lv_icmp_ne (tgt := 127) hx hb d_Pg_putRecord_112 (by decide) (fun hc_64 => ?_) (fun hc_64 => ?_)
          · skip
            refine lv_aload_n hx hb d_Pg_putRecord_127 rfl (lv_at hl 0 rfl) ?_
            refine lv_iload_n hx hb d_Pg_putRecord_128 rfl (lv_at hl 1 rfl) ?_
            refine lv_bipush (v := 33) hx hb d_Pg_putRecord_129 (by decide) ?_
            refine lv_iadd hx hb d_Pg_putRecord_131 ?_
            refine lv_iload_n hx hb d_Pg_putRecord_132 rfl (lv_at hl 3 rfl) ?_
            refine hm_callv (va_runV (As := [.int (a9 + 33), .int i8]) (b := p9) (rest := []) ⟨hx, hb, hml, hown, hts⟩ (t_put l D t G ak av h_58 τ n f p9 (a9 + 33) i8  hn hT T_p9) ⟨cw9B 2 hts mw_76 mw_78 mw_77 rfl rfl (by decide +kernel) ⟨Nat.le_of_ble_eq_true rfl, Nat.le_of_ble_eq_true rfl⟩, hts _ mw_79, hts _ mw_80⟩ (hP_V (q := (R_Pg, F_Pg, 1)) kE_ok hE hK hH F_p9 rfl) rfl rfl hl.1 rfl (lv_room (Nat.le_of_ble_eq_true rfl)) d_Pg_putRecord_133 ⟨Nat.le_of_ble_eq_true rfl, Nat.le_of_ble_eq_true rfl⟩) hLo (fun h_65 H_66 locs hp_68 hH z_67 hLo => ?_)
            have hz : s.heap.size ≤ H_66.size := Nat.le_trans hz z_67
            have hT0 := hT
            obtain ⟨hT, kf_70⟩ := hp_68
            have F_p9 : h_65 p9 = some (.inr (3, [.ref v_44])) := kf_at kf_70 T_p9 (by decide) (tnc (by decide) tn0) nm0 F_p9
            have hkf : kf τ [(5, f)] [] h h_65 := kf_tr hkf kf_70 (List.forall_mem_cons.mpr ⟨List.mem_cons_self, List.forall_mem_nil _⟩) (List.forall_mem_nil _)
            exact J136 () _ _ _ _ ⟨(lv_sub hl [0, 1, 2, 3, 4, 5] rfl), hH, hz, hLo, hT, hkf⟩
          · skip
            have ic_71 : i8.toInt = (-1) := congrArg Int32.toInt hc_64
            refine lv_aload_n hx hb d_Pg_putRecord_115 rfl (lv_at hl 0 rfl) ?_
            refine lv_iload_n hx hb d_Pg_putRecord_116 rfl (lv_at hl 1 rfl) ?_
            refine lv_bipush (v := 33) hx hb d_Pg_putRecord_117 (by decide) ?_
            refine lv_iadd hx hb d_Pg_putRecord_119 ?_
            refine lv_aload_n hx hb d_Pg_putRecord_120 rfl (lv_at hl 2 rfl) ?_
            refine hm_callv (va_runV (As := [.int (a9 + 33), .ref d9]) (b := p9) (rest := []) ⟨hx, hb, hml, hown, hts⟩ (t_putId l D t G ak av h_58 τ n f g p9 (a9 + 33) d9  hn hT T_p9 T_d9) ⟨cw9B 2 hts mw_180 mw_181 mw_77 rfl rfl (by decide +kernel) ⟨Nat.le_of_ble_eq_true rfl, Nat.le_of_ble_eq_true rfl⟩, hts _ mw_182, hts _ mw_183⟩ (hP_V (q := (R_Pg, F_Pg, 1)) kE_ok hE hK hH F_p9 rfl) rfl rfl hl.1 rfl (lv_room (Nat.le_of_ble_eq_true rfl)) d_Pg_putRecord_121 ⟨Nat.le_of_ble_eq_true rfl, Nat.le_of_ble_eq_true rfl⟩) hLo (fun h_72 H_73 locs hp_75 hH z_74 hLo => ?_)
            have hz : s.heap.size ≤ H_73.size := Nat.le_trans hz z_74
            have hT0 := hT
            obtain ⟨hT, kf_77⟩ := hp_75
            have F_p9 : h_72 p9 = some (.inr (3, [.ref v_44])) := kf_at kf_77 T_p9 (by decide) (tnc (by decide) tn0) nm0 F_p9
            have hkf : kf τ [(5, f)] [] h h_72 := kf_tr hkf kf_77 (List.forall_mem_cons.mpr ⟨List.mem_cons_self, List.forall_mem_nil _⟩) (List.forall_mem_nil _)
            refine lv_goto (tgt := 136) hx hb d_Pg_putRecord_124 (by decide) ?_
            exact J136 () _ _ _ _ ⟨(lv_sub hl [0, 1, 2, 3, 4, 5] rfl), hH, hz, hLo, hT, hkf⟩
      · skip
        refine lv_aload_n hx hb d_Pg_putRecord_70 rfl (lv_at hl 0 rfl) ?_
        refine lv_iload_n hx hb d_Pg_putRecord_71 rfl (lv_at hl 1 rfl) ?_
        refine lv_bipush (v := 25) hx hb d_Pg_putRecord_72 (by decide) ?_
        refine lv_iadd hx hb d_Pg_putRecord_74 ?_
        refine lv_aload_n hx hb d_Pg_putRecord_75 rfl (lv_at hl 2 rfl) ?_
        obtain ⟨v_78, v_79, v_81, v_83, v_84, v_86, v_87, v_88, v_90, v_91, v_92, F_d9, c_80, c_82, c_85, c_89⟩ := TI_node hT T_d9
        refine hm_get (ci := 1) (v := .int v_81) (C := R_No) (T := F_No) (N := 11) hx hb hts ig_No hown hK hH F_d9 rfl 2 (by decide) (hts _ mw_184) (fun _ h9 => h9) rfl d_Pg_putRecord_76 ?_
        refine lv_if_eq (tgt := 86) hx hb d_Pg_putRecord_79 (by decide) (fun hc_93 => ?_) (fun hc_93 => ?_)
        · skip
          have ic_94 : v_81.toInt = 0 := congrArg Int32.toInt hc_93
          refine lv_iconst (v := 0) hx hb d_Pg_putRecord_86 (by decide) ?_
          exact J87 0 _ _ _ _ ⟨(lv_sub hl [0, 1, 2, 3, 4, 5] rfl), hH, hz, hLo, hT, hkf⟩
        · skip
          refine lv_iconst (v := 2) hx hb d_Pg_putRecord_82 (by decide) ?_
          refine lv_goto (tgt := 87) hx hb d_Pg_putRecord_83 (by decide) ?_
          exact J87 2 _ _ _ _ ⟨(lv_sub hl [0, 1, 2, 3, 4, 5] rfl), hH, hz, hLo, hT, hkf⟩
    · skip
      refine lv_aload_n hx hb d_Pg_putRecord_44 rfl (lv_at hl 2 rfl) ?_
      refine lv_iload_n hx hb d_Pg_putRecord_45 rfl (lv_at hl 3 rfl) ?_
      refine lv_bipush (v := 10) hx hb d_Pg_putRecord_46 (by decide) ?_
      refine lv_iadd hx hb d_Pg_putRecord_48 ?_
      refine lv_iconst (v := 4) hx hb d_Pg_putRecord_49 (by decide) ?_
      refine lv_aload_n hx hb d_Pg_putRecord_50 rfl (lv_at hl 4 rfl) ?_
      refine hm_get (ci := 1) (v := .int v_18) (C := R_No) (T := F_No) (N := 11) hx hb hts ig_No hown hK hH F_d9 rfl 2 (by decide) (hts _ mw_184) (fun _ h9 => h9) rfl d_Pg_putRecord_51 ?_
      refine lv_if_eq (tgt := 63) hx hb d_Pg_putRecord_54 (by decide) (fun hc_95 => ?_) (fun hc_95 => ?_)
      · skip
        have ic_96 : v_18.toInt = 0 := congrArg Int32.toInt hc_95
        refine lv_aload_n hx hb d_Pg_putRecord_63 rfl (lv_at hl 4 rfl) ?_
        refine hm_get (ci := 1) (v := .int v_23) (C := R_No) (T := F_No) (N := 11) hx hb hts ig_No hown hK hH F_d9 rfl 5 (by decide) (hts _ mw_185) (fun _ h9 => h9) rfl d_Pg_putRecord_64 ?_
        exact J67 v_23 _ _ _ _ ⟨(lv_sub hl [2, 3, 4, 5, 1, 0] rfl), hH, hz, hLo, hT, hkf⟩
      · skip
        refine lv_sipush (v := 2048) hx hb d_Pg_putRecord_57 (by decide) ?_
        refine lv_goto (tgt := 67) hx hb d_Pg_putRecord_60 (by decide) ?_
        exact J67 2048 _ _ _ _ ⟨(lv_sub hl [2, 3, 4, 5, 1, 0] rfl), hH, hz, hLo, hT, hkf⟩
  · skip
    refine lv_iload_n hx hb d_Pg_putRecord_0 rfl (lv_at hl 3 rfl) ?_
    refine lv_iconst (v := -1) hx hb d_Pg_putRecord_1 (by decide) ?_
    refine lv_icmp_ne (tgt := 12) hx hb d_Pg_putRecord_2 (by decide) (fun hc_97 => ?_) (fun hc_97 => ?_)
    · skip
      refine lv_iconst (v := 1) hx hb d_Pg_putRecord_12 (by decide) ?_
      exact J13 1 _ _ _ _ ⟨(lv_sub hl [0, 1, 2, 3] rfl), hH, hz, hLo, hT, hkf⟩
    · skip
      have ic_98 : i8.toInt = (-1) := congrArg Int32.toInt hc_97
      refine lv_aload_n hx hb d_Pg_putRecord_5 rfl (lv_at hl 2 rfl) ?_
      obtain ⟨v_99, v_100, v_102, v_104, v_105, v_107, v_108, v_109, v_111, v_112, v_113, F_d9, c_101, c_103, c_106, c_110⟩ := TI_node hT T_d9
      refine hm_callPi (va_runV (As := []) (b := d9) (rest := []) ⟨hx, hb, hml, hown, hts⟩ (t_idLen l D t G ak av h τ n g d9  hn hT T_d9) ⟨cw9B 0 hts mw_105 mw_171 mw_106 rfl rfl (by decide +kernel) ⟨Nat.le_of_ble_eq_true rfl, Nat.le_of_ble_eq_true rfl⟩, hts _ mw_108, hts _ mw_109⟩ (hP_V (q := (R_No, F_No, 11)) kE_ok hE hK hH F_d9 rfl) rfl rfl hl.1 rfl (lv_room (Nat.le_of_ble_eq_true rfl)) d_Pg_putRecord_6 ⟨Nat.le_of_ble_eq_true rfl, Nat.le_of_ble_eq_true rfl⟩) (fun r_114 h_115 H_116 hp_118  hH z_117 => ?_)
      have hz : s.heap.size ≤ H_116.size := Nat.le_trans hz z_117
      obtain rfl := hp_118
      refine lv_goto (tgt := 13) hx hb d_Pg_putRecord_9 (by decide) ?_
      exact J13 r_114 _ _ _ _ ⟨(lv_sub hl [0, 1, 2, 3] rfl), hH, hz, hLo, hT, hkf⟩

set_option maxHeartbeats 4000000 in
set_option maxRecDepth 100000 in
theorem t_putPath (l : Launch) (D : va_G) (t : Nat → ClassId) (G : hG) (ak av : Nat → Nat) (h : hM) (τ : tM) (n f g : Nat) (p9 : Nat) (a9 : Int32) (d9 : Nat) (z9 : Int32) (hn : n ≤ 200) (hT : TI τ t n h) (T_p9 : τ p9 = (4, f)) (T_d9 : τ d9 = (10, g)) (Z_z9 : zb z9) : Met l y_Pg_putPathEntry (.code y_Pg_putPathEntry b_Pg_putPathEntry 6 (some .int) :: lw_g) { frames := 6, cells := 0, slots := 0, locals := 130 } (hP (kE D t G ak av) D vwCl G h [.ref p9, .int a9, .ref d9, .int z9]) (hQi D vwCl G (fun r h' => TI τ t n h' ∧ kf τ [(5, f)] [] h h')) 0 0 G.P := by
  refine Met.ofW (cc := b_Pg_putPathEntry) (maxL := 6) (ret := (some .int)) (by decide) rfl ?_
  intro p e s m args below meth c s₁ Bd hml hv
  obtain ⟨ha, hE, hH⟩ := hv
  have hx := Bd.exec
  have hb := Bd.bytes
  have hr := Bd.returns
  have hts : ∀ w ∈ lw_g, w.before args s = true := fun w hw => atoms_spec (ws := (.code y_Pg_putPathEntry b_Pg_putPathEntry 6 (some .int) :: lw_g)) Bd.pre w (List.mem_cons_of_mem _ hw)
  have hown : s.vm.findClass R_Pg = some m.cls := findClass_of_methodNamed Bd.named
  have hlocks := Bd.notSynchronized
  have hK := hE.1
  have hH0 := hH
  have hLo : hLc G.P [] := hLc_nil
  have hz : s.heap.size ≤ s.heap.size := Nat.le_refl _
  have hl := lv_entry [.ref p9, .int a9, .ref d9, .int z9] (n := 6) (Nat.le_of_ble_eq_true rfl)
  rw [show entryFrame m args 6 = F0 m 0 ((lg_sl [.ref p9, .int a9, .ref d9, .int z9] ++ List.replicate (6 - (lg_sl [.ref p9, .int a9, .ref d9, .int z9]).length) Slot.unset).toArray) [] from (by rw [ha]; exact lg_entry_eq m [.ref p9, .int a9, .ref d9, .int z9] 6)]
  generalize (lg_sl [.ref p9, .int a9, .ref d9, .int z9] ++ List.replicate (6 - (lg_sl [.ref p9, .int a9, .ref d9, .int z9]).length) Slot.unset).toArray = ls at hl ⊢
  have hl : lv_has ls 6 [(0, .ref p9), (1, .int a9), (2, .ref d9), (3, .int z9)] := hl
  have hkf : kf τ [(5, f)] [] h h := kf_rf
  refine hm_cut (α := Int32) (fun ab9 ls H locs HH => (lv_has ls 6 [(0, .ref p9), (1, .int a9), (2, .ref d9), (3, .int z9)]) ∧ (hm D vwCl G HH H) ∧ (s.heap.size ≤ H.size) ∧ (hLc G.P locs) ∧ (TI τ t n HH) ∧ (kf τ [(5, f)] [] h HH)) 18 (fun ab9 => [.int ab9]) ?_ (fun J18 => ?_)
  · skip
    rintro ab9 ls H locs HH ⟨hl, hH, hz, hLo, hT, hkf⟩
    refine lv_istore (lv' := [(4, .int ab9), (0, .ref p9), (1, .int a9), (2, .ref d9), (3, .int z9)]) hx hb d_Pg_putPathEntry_18 hl (by decide) rfl (fun ls hl => ?_)
    refine hm_cut (α := Int32) (fun ln9 ls H locs HH => (lv_has ls 6 [(0, .ref p9), (1, .int a9), (2, .ref d9), (3, .int z9), (4, .int ab9)]) ∧ (hm D vwCl G HH H) ∧ (s.heap.size ≤ H.size) ∧ (hLc G.P locs) ∧ (TI τ t n HH) ∧ (kf τ [(5, f)] [] h HH)) 35 (fun ln9 => [.int ln9]) ?_ (fun J35 => ?_)
    · skip
      rintro ln9 ls H locs HH ⟨hl, hH, hz, hLo, hT, hkf⟩
      refine lv_istore (lv' := [(5, .int ln9), (0, .ref p9), (1, .int a9), (2, .ref d9), (3, .int z9), (4, .int ab9)]) hx hb d_Pg_putPathEntry_35 hl (by decide) rfl (fun ls hl => ?_)
      refine lv_aload_n hx hb d_Pg_putPathEntry_37 rfl (lv_at hl 1 rfl) ?_
      refine lv_iload_n hx hb d_Pg_putPathEntry_38 rfl (lv_at hl 2 rfl) ?_
      refine lv_iload hx hb d_Pg_putPathEntry_39 (lv_at hl 0 rfl) ?_
      obtain ⟨v_1, F_p9, c_2⟩ := TI_page hT T_p9
      refine hm_callv (va_runV (As := [.int a9, .int ln9]) (b := p9) (rest := []) ⟨hx, hb, hml, hown, hts⟩ (t_put l D t G ak av HH τ n f p9 a9 ln9  hn hT T_p9) ⟨cw9B 2 hts mw_76 mw_78 mw_77 rfl rfl (by decide +kernel) ⟨Nat.le_of_ble_eq_true rfl, Nat.le_of_ble_eq_true rfl⟩, hts _ mw_79, hts _ mw_80⟩ (hP_V (q := (R_Pg, F_Pg, 1)) kE_ok hE hK hH F_p9 rfl) rfl rfl hl.1 rfl (lv_room (Nat.le_of_ble_eq_true rfl)) d_Pg_putPathEntry_41 ⟨Nat.le_of_ble_eq_true rfl, Nat.le_of_ble_eq_true rfl⟩) hLo (fun h_3 H_4 locs hp_6 hH z_5 hLo => ?_)
      have hz : s.heap.size ≤ H_4.size := Nat.le_trans hz z_5
      have hT0 := hT
      obtain ⟨hT, kf_8⟩ := hp_6
      have F_p9 : h_3 p9 = some (.inr (3, [.ref v_1])) := kf_at kf_8 T_p9 (by decide) (tnc (by decide) tn0) nm0 F_p9
      have hkf : kf τ [(5, f)] [] h h_3 := kf_tr hkf kf_8 (List.forall_mem_cons.mpr ⟨List.mem_cons_self, List.forall_mem_nil _⟩) (List.forall_mem_nil _)
      refine hm_cut (α := Unit) (fun un9 ls H locs HH => (lv_has ls 6 [(0, .ref p9), (1, .int a9), (2, .ref d9), (3, .int z9), (4, .int ab9), (5, .int ln9)]) ∧ (hm D vwCl G HH H) ∧ (s.heap.size ≤ H.size) ∧ (hLc G.P locs) ∧ (TI τ t n HH) ∧ (kf τ [(5, f)] [] h HH)) 97 (fun un9 => []) ?_ (fun J97 => ?_)
      · skip
        rintro un9 ls H locs HH ⟨hl, hH, hz, hLo, hT, hkf⟩
        refine lv_aload_n hx hb d_Pg_putPathEntry_97 rfl (lv_at hl 0 rfl) ?_
        refine lv_iload_n hx hb d_Pg_putPathEntry_98 rfl (lv_at hl 1 rfl) ?_
        refine lv_bipush (v := 8) hx hb d_Pg_putPathEntry_99 (by decide) ?_
        refine lv_iadd hx hb d_Pg_putPathEntry_101 ?_
        refine lv_aload_n hx hb d_Pg_putPathEntry_102 rfl (lv_at hl 2 rfl) ?_
        obtain ⟨v_9, F_p9, c_10⟩ := TI_page hT T_p9
        refine hm_callv (va_runV (As := [.int (a9 + 8), .ref d9]) (b := p9) (rest := []) ⟨hx, hb, hml, hown, hts⟩ (t_putId l D t G ak av HH τ n f g p9 (a9 + 8) d9  hn hT T_p9 T_d9) ⟨cw9B 2 hts mw_180 mw_181 mw_77 rfl rfl (by decide +kernel) ⟨Nat.le_of_ble_eq_true rfl, Nat.le_of_ble_eq_true rfl⟩, hts _ mw_182, hts _ mw_183⟩ (hP_V (q := (R_Pg, F_Pg, 1)) kE_ok hE hK hH F_p9 rfl) rfl rfl hl.1 rfl (lv_room (Nat.le_of_ble_eq_true rfl)) d_Pg_putPathEntry_103 ⟨Nat.le_of_ble_eq_true rfl, Nat.le_of_ble_eq_true rfl⟩) hLo (fun h_11 H_12 locs hp_14 hH z_13 hLo => ?_)
        have hz : s.heap.size ≤ H_12.size := Nat.le_trans hz z_13
        have hT0 := hT
        obtain ⟨hT, kf_16⟩ := hp_14
        have F_p9 : h_11 p9 = some (.inr (3, [.ref v_9])) := kf_at kf_16 T_p9 (by decide) (tnc (by decide) tn0) nm0 F_p9
        have hkf : kf τ [(5, f)] [] h h_11 := kf_tr hkf kf_16 (List.forall_mem_cons.mpr ⟨List.mem_cons_self, List.forall_mem_nil _⟩) (List.forall_mem_nil _)
        refine lv_iload_n hx hb d_Pg_putPathEntry_106 rfl (lv_at hl 1 rfl) ?_
        refine lv_bipush (v := 8) hx hb d_Pg_putPathEntry_107 (by decide) ?_
        refine lv_iadd hx hb d_Pg_putPathEntry_109 ?_
        refine lv_iload hx hb d_Pg_putPathEntry_110 (lv_at hl 5 rfl) ?_
        refine hm_callPi (va_runSN (As := [.int ln9]) (rest := [.int (a9 + 8)]) ⟨hx, hb, hml, hown, hts⟩ (t_evened l D t G ak av h_11 τ n ln9  hn hT ) ⟨cw9N 1 hts mw_173 (nmU hE nM_7) mw_25 rfl rfl (by decide +kernel) ⟨Nat.le_of_ble_eq_true rfl, Nat.le_of_ble_eq_true rfl⟩, hts _ mw_174, trivial⟩ (hP_S kE_ok hE hH) rfl rfl hl.1 rfl (lv_room (Nat.le_of_ble_eq_true rfl)) d_Pg_putPathEntry_112 ⟨Nat.le_of_ble_eq_true rfl, Nat.le_of_ble_eq_true rfl⟩) (fun r_17 h_18 H_19 hp_21  hH z_20 => ?_)
        have hz : s.heap.size ≤ H_19.size := Nat.le_trans hz z_20
        obtain rfl := hp_21
        refine lv_iadd hx hb d_Pg_putPathEntry_115 ?_
        exact W.iret (v := (a9 + 8) + r_17) hx hb hr (fun t9 ht hW => ⟨(a9 + 8) + r_17, h_11, rfl, ⟨hT, hkf⟩, by rw [ht]; exact hH, by rw [ht]; exact hz⟩) hLo d_Pg_putPathEntry_116
      · skip
        refine lv_iload_n hx hb d_Pg_putPathEntry_44 rfl (lv_at hl 4 rfl) ?_
        refine lv_if_eq (tgt := 74) hx hb d_Pg_putPathEntry_45 (by decide) (fun hc_23 => ?_) (fun hc_23 => ?_)
        · skip
          have ic_24 : z9.toInt = 0 := congrArg Int32.toInt hc_23
          refine lv_aload_n hx hb d_Pg_putPathEntry_74 rfl (lv_at hl 1 rfl) ?_
          refine lv_iload_n hx hb d_Pg_putPathEntry_75 rfl (lv_at hl 2 rfl) ?_
          refine lv_iconst (v := 2) hx hb d_Pg_putPathEntry_76 (by decide) ?_
          refine lv_iadd hx hb d_Pg_putPathEntry_77 ?_
          refine lv_iconst (v := 4) hx hb d_Pg_putPathEntry_78 (by decide) ?_
          refine lv_aload_n hx hb d_Pg_putPathEntry_79 rfl (lv_at hl 3 rfl) ?_
          obtain ⟨v_25, v_26, v_28, v_30, v_31, v_33, v_34, v_35, v_37, v_38, v_39, F_d9, c_27, c_29, c_32, c_36⟩ := TI_node hT T_d9
          refine hm_get (ci := 1) (v := .int v_38) (C := R_No) (T := F_No) (N := 11) hx hb hts ig_No hown hK hH F_d9 rfl 9 (by decide) (hts _ mw_175) (fun _ h9 => h9) rfl d_Pg_putPathEntry_80 ?_
          refine hm_callv (va_runV (As := [.int (a9 + 2), .int 4, .int v_38]) (b := p9) (rest := []) ⟨hx, hb, hml, hown, hts⟩ (t_putHigh l D t G ak av h_3 τ n f p9 (a9 + 2) 4 v_38  hn hT T_p9) ⟨cw9B 3 hts mw_186 mw_187 mw_77 rfl rfl (by decide +kernel) ⟨Nat.le_of_ble_eq_true rfl, Nat.le_of_ble_eq_true rfl⟩, hts _ mw_188, hts _ mw_189⟩ (hP_V (q := (R_Pg, F_Pg, 1)) kE_ok hE hK hH F_p9 rfl) rfl rfl hl.1 rfl (lv_room (Nat.le_of_ble_eq_true rfl)) d_Pg_putPathEntry_83 ⟨Nat.le_of_ble_eq_true rfl, Nat.le_of_ble_eq_true rfl⟩) hLo (fun h_40 H_41 locs hp_43 hH z_42 hLo => ?_)
          have hz : s.heap.size ≤ H_41.size := Nat.le_trans hz z_42
          have hT0 := hT
          obtain ⟨hT, kf_45⟩ := hp_43
          have F_p9 : h_40 p9 = some (.inr (3, [.ref v_1])) := kf_at kf_45 T_p9 (by decide) (tnc (by decide) tn0) nm0 F_p9
          have F_d9 : h_40 d9 = some (.inr (1, [.int v_25, va_rf v_26, .int v_28, .long v_30, .int v_31, .int v_33, .int v_34, .int v_35, .int v_37, .int v_38, .int v_39])) := kf_at kf_45 T_d9 (by decide) (tnc (by decide) tn0) nm0 F_d9
          have hkf : kf τ [(5, f)] [] h h_40 := kf_tr hkf kf_45 (List.forall_mem_cons.mpr ⟨List.mem_cons_self, List.forall_mem_nil _⟩) (List.forall_mem_nil _)
          refine lv_aload_n hx hb d_Pg_putPathEntry_86 rfl (lv_at hl 1 rfl) ?_
          refine lv_iload_n hx hb d_Pg_putPathEntry_87 rfl (lv_at hl 2 rfl) ?_
          refine lv_bipush (v := 6) hx hb d_Pg_putPathEntry_88 (by decide) ?_
          refine lv_iadd hx hb d_Pg_putPathEntry_90 ?_
          refine lv_iconst (v := 2) hx hb d_Pg_putPathEntry_91 (by decide) ?_
          refine lv_iload hx hb d_Pg_putPathEntry_92 (lv_at hl 5 rfl) ?_
          refine hm_callv (va_runV (As := [.int (a9 + 6), .int 2, .int ab9]) (b := p9) (rest := []) ⟨hx, hb, hml, hown, hts⟩ (t_putHigh l D t G ak av h_40 τ n f p9 (a9 + 6) 2 ab9  hn hT T_p9) ⟨cw9B 3 hts mw_186 mw_187 mw_77 rfl rfl (by decide +kernel) ⟨Nat.le_of_ble_eq_true rfl, Nat.le_of_ble_eq_true rfl⟩, hts _ mw_188, hts _ mw_189⟩ (hP_V (q := (R_Pg, F_Pg, 1)) kE_ok hE hK hH F_p9 rfl) rfl rfl hl.1 rfl (lv_room (Nat.le_of_ble_eq_true rfl)) d_Pg_putPathEntry_94 ⟨Nat.le_of_ble_eq_true rfl, Nat.le_of_ble_eq_true rfl⟩) hLo (fun h_46 H_47 locs hp_49 hH z_48 hLo => ?_)
          have hz : s.heap.size ≤ H_47.size := Nat.le_trans hz z_48
          have hT0 := hT
          obtain ⟨hT, kf_51⟩ := hp_49
          have F_p9 : h_46 p9 = some (.inr (3, [.ref v_1])) := kf_at kf_51 T_p9 (by decide) (tnc (by decide) tn0) nm0 F_p9
          have F_d9 : h_46 d9 = some (.inr (1, [.int v_25, va_rf v_26, .int v_28, .long v_30, .int v_31, .int v_33, .int v_34, .int v_35, .int v_37, .int v_38, .int v_39])) := kf_at kf_51 T_d9 (by decide) (tnc (by decide) tn0) nm0 F_d9
          have hkf : kf τ [(5, f)] [] h h_46 := kf_tr hkf kf_51 (List.forall_mem_cons.mpr ⟨List.mem_cons_self, List.forall_mem_nil _⟩) (List.forall_mem_nil _)
          exact J97 () _ _ _ _ ⟨(lv_sub hl [1, 2, 3, 4, 5, 0] rfl), hH, hz, hLo, hT, hkf⟩
        · skip
          refine lv_aload_n hx hb d_Pg_putPathEntry_48 rfl (lv_at hl 1 rfl) ?_
          refine lv_iload_n hx hb d_Pg_putPathEntry_49 rfl (lv_at hl 2 rfl) ?_
          refine lv_iconst (v := 2) hx hb d_Pg_putPathEntry_50 (by decide) ?_
          refine lv_iadd hx hb d_Pg_putPathEntry_51 ?_
          refine lv_iconst (v := 4) hx hb d_Pg_putPathEntry_52 (by decide) ?_
          refine lv_aload_n hx hb d_Pg_putPathEntry_53 rfl (lv_at hl 3 rfl) ?_
          obtain ⟨v_52, v_53, v_55, v_57, v_58, v_60, v_61, v_62, v_64, v_65, v_66, F_d9, c_54, c_56, c_59, c_63⟩ := TI_node hT T_d9
          refine hm_get (ci := 1) (v := .int v_65) (C := R_No) (T := F_No) (N := 11) hx hb hts ig_No hown hK hH F_d9 rfl 9 (by decide) (hts _ mw_175) (fun _ h9 => h9) rfl d_Pg_putPathEntry_54 ?_
          refine hm_callv (va_runV (As := [.int (a9 + 2), .int 4, .int v_65]) (b := p9) (rest := []) ⟨hx, hb, hml, hown, hts⟩ (t_putLow l D t G ak av h_3 τ n f p9 (a9 + 2) 4 v_65  hn hT T_p9) ⟨cw9B 3 hts mw_89 mw_90 mw_77 rfl rfl (by decide +kernel) ⟨Nat.le_of_ble_eq_true rfl, Nat.le_of_ble_eq_true rfl⟩, hts _ mw_91, hts _ mw_92⟩ (hP_V (q := (R_Pg, F_Pg, 1)) kE_ok hE hK hH F_p9 rfl) rfl rfl hl.1 rfl (lv_room (Nat.le_of_ble_eq_true rfl)) d_Pg_putPathEntry_57 ⟨Nat.le_of_ble_eq_true rfl, Nat.le_of_ble_eq_true rfl⟩) hLo (fun h_67 H_68 locs hp_70 hH z_69 hLo => ?_)
          have hz : s.heap.size ≤ H_68.size := Nat.le_trans hz z_69
          have hT0 := hT
          obtain ⟨hT, kf_72⟩ := hp_70
          have F_p9 : h_67 p9 = some (.inr (3, [.ref v_1])) := kf_at kf_72 T_p9 (by decide) (tnc (by decide) tn0) nm0 F_p9
          have F_d9 : h_67 d9 = some (.inr (1, [.int v_52, va_rf v_53, .int v_55, .long v_57, .int v_58, .int v_60, .int v_61, .int v_62, .int v_64, .int v_65, .int v_66])) := kf_at kf_72 T_d9 (by decide) (tnc (by decide) tn0) nm0 F_d9
          have hkf : kf τ [(5, f)] [] h h_67 := kf_tr hkf kf_72 (List.forall_mem_cons.mpr ⟨List.mem_cons_self, List.forall_mem_nil _⟩) (List.forall_mem_nil _)
          refine lv_aload_n hx hb d_Pg_putPathEntry_60 rfl (lv_at hl 1 rfl) ?_
          refine lv_iload_n hx hb d_Pg_putPathEntry_61 rfl (lv_at hl 2 rfl) ?_
          refine lv_bipush (v := 6) hx hb d_Pg_putPathEntry_62 (by decide) ?_
          refine lv_iadd hx hb d_Pg_putPathEntry_64 ?_
          refine lv_iconst (v := 2) hx hb d_Pg_putPathEntry_65 (by decide) ?_
          refine lv_iload hx hb d_Pg_putPathEntry_66 (lv_at hl 5 rfl) ?_
          refine hm_callv (va_runV (As := [.int (a9 + 6), .int 2, .int ab9]) (b := p9) (rest := []) ⟨hx, hb, hml, hown, hts⟩ (t_putLow l D t G ak av h_67 τ n f p9 (a9 + 6) 2 ab9  hn hT T_p9) ⟨cw9B 3 hts mw_89 mw_90 mw_77 rfl rfl (by decide +kernel) ⟨Nat.le_of_ble_eq_true rfl, Nat.le_of_ble_eq_true rfl⟩, hts _ mw_91, hts _ mw_92⟩ (hP_V (q := (R_Pg, F_Pg, 1)) kE_ok hE hK hH F_p9 rfl) rfl rfl hl.1 rfl (lv_room (Nat.le_of_ble_eq_true rfl)) d_Pg_putPathEntry_68 ⟨Nat.le_of_ble_eq_true rfl, Nat.le_of_ble_eq_true rfl⟩) hLo (fun h_73 H_74 locs hp_76 hH z_75 hLo => ?_)
          have hz : s.heap.size ≤ H_74.size := Nat.le_trans hz z_75
          have hT0 := hT
          obtain ⟨hT, kf_78⟩ := hp_76
          have F_p9 : h_73 p9 = some (.inr (3, [.ref v_1])) := kf_at kf_78 T_p9 (by decide) (tnc (by decide) tn0) nm0 F_p9
          have F_d9 : h_73 d9 = some (.inr (1, [.int v_52, va_rf v_53, .int v_55, .long v_57, .int v_58, .int v_60, .int v_61, .int v_62, .int v_64, .int v_65, .int v_66])) := kf_at kf_78 T_d9 (by decide) (tnc (by decide) tn0) nm0 F_d9
          have hkf : kf τ [(5, f)] [] h h_73 := kf_tr hkf kf_78 (List.forall_mem_cons.mpr ⟨List.mem_cons_self, List.forall_mem_nil _⟩) (List.forall_mem_nil _)
          refine lv_goto (tgt := 97) hx hb d_Pg_putPathEntry_71 (by decide) ?_
          exact J97 () _ _ _ _ ⟨(lv_sub hl [1, 2, 3, 4, 5, 0] rfl), hH, hz, hLo, hT, hkf⟩
    · skip
      refine lv_aload_n hx hb d_Pg_putPathEntry_20 rfl (lv_at hl 3 rfl) ?_
      obtain ⟨v_79, v_80, v_82, v_84, v_85, v_87, v_88, v_89, v_91, v_92, v_93, F_d9, c_81, c_83, c_86, c_90⟩ := TI_node hT T_d9
      refine hm_get (ci := 1) (v := va_rf v_80) (C := R_No) (T := F_No) (N := 11) hx hb hts ig_No hown hK hH F_d9 rfl 1 (by decide) (hts _ mw_190) (fun _ h9 => h9) rfl d_Pg_putPathEntry_21 ?_
      rcases v_80 with _ | q_94
      · skip
        refine lv_ifnonnullN hx hb d_Pg_putPathEntry_24 ?_
        refine lv_iconst (v := 1) hx hb d_Pg_putPathEntry_27 (by decide) ?_
        refine lv_goto (tgt := 35) hx hb d_Pg_putPathEntry_28 (by decide) ?_
        exact J35 1 _ _ _ _ ⟨(lv_sub hl [1, 2, 3, 4, 0] rfl), hH, hz, hLo, hT, hkf⟩
      · skip
        have T_95 := c_81 q_94 rfl
        refine lv_ifnonnull (tgt := 31) hx hb d_Pg_putPathEntry_24 (by decide) ?_
        refine lv_aload_n hx hb d_Pg_putPathEntry_31 rfl (lv_at hl 3 rfl) ?_
        refine hm_get (ci := 1) (v := .int v_85) (C := R_No) (T := F_No) (N := 11) hx hb hts ig_No hown hK hH F_d9 rfl 4 (by decide) (hts _ mw_191) (fun _ h9 => h9) rfl d_Pg_putPathEntry_32 ?_
        exact J35 v_85 _ _ _ _ ⟨(lv_sub hl [1, 2, 3, 4, 0] rfl), hH, hz, hLo, hT, hkf⟩
  · skip
    refine lv_aload_n hx hb d_Pg_putPathEntry_0 rfl (lv_at hl 2 rfl) ?_
    obtain ⟨v_96, v_97, v_99, v_101, v_102, v_104, v_105, v_106, v_108, v_109, v_110, F_d9, c_98, c_100, c_103, c_107⟩ := TI_node hT T_d9
    refine hm_get (ci := 1) (v := va_rf v_97) (C := R_No) (T := F_No) (N := 11) hx hb hts ig_No hown hK hH F_d9 rfl 1 (by decide) (hts _ mw_190) (fun _ h9 => h9) rfl d_Pg_putPathEntry_1 ?_
    rcases v_97 with _ | q_111
    · skip
      refine lv_ifnonnullN hx hb d_Pg_putPathEntry_4 ?_
      refine lv_iconst (v := 1) hx hb d_Pg_putPathEntry_7 (by decide) ?_
      refine lv_goto (tgt := 18) hx hb d_Pg_putPathEntry_8 (by decide) ?_
      exact J18 1 _ _ _ _ ⟨(lv_sub hl [0, 1, 2, 3] rfl), hH, hz, hLo, hT, hkf⟩
    · skip
      have T_112 := c_98 q_111 rfl
      refine lv_ifnonnull (tgt := 11) hx hb d_Pg_putPathEntry_4 (by decide) ?_
      refine lv_aload_n hx hb d_Pg_putPathEntry_11 rfl (lv_at hl 2 rfl) ?_
      refine hm_get (ci := 1) (v := .ref q_111) (C := R_No) (T := F_No) (N := 11) hx hb hts ig_No hown hK hH F_d9 rfl 1 (by decide) (hts _ mw_190) (fun _ h9 => h9) rfl d_Pg_putPathEntry_12 ?_
      obtain ⟨v_113, v_114, v_116, v_118, v_119, v_121, v_122, v_123, v_125, v_126, v_127, F_q_111, c_115, c_117, c_120, c_124⟩ := TI_node hT T_112
      refine hm_get (ci := 1) (v := .int v_127) (C := R_No) (T := F_No) (N := 11) hx hb hts ig_No hown hK hH F_q_111 rfl 10 (by decide) (hts _ mw_192) (fun _ h9 => h9) rfl d_Pg_putPathEntry_15 ?_
      exact J18 v_127 _ _ _ _ ⟨(lv_sub hl [0, 1, 2, 3] rfl), hH, hz, hLo, hT, hkf⟩

set_option maxHeartbeats 4000000 in
set_option maxRecDepth 100000 in
theorem t_fdesc (l : Launch) (D : va_G) (t : Nat → ClassId) (G : hG) (ak av : Nat → Nat) (h : hM) (τ : tM) (n f g : Nat) (p9 : Nat) (m9 : Nat) (b9 : Int32) (c9 : Int32) (d9 : Nat) (hn : n ≤ 200) (hT : TI τ t n h) (T_p9 : τ p9 = (4, f)) (T_m9 : τ m9 = (11, 0)) (T_d9 : τ d9 = (10, g)) : Met l y_Pg_fillWithDescriptor (.code y_Pg_fillWithDescriptor b_Pg_fillWithDescriptor 5 none :: lw_g) { frames := 7, cells := 0, slots := 0, locals := 155 } (hP (kE D t G ak av) D vwCl G h [.ref p9, .ref m9, .int b9, .int c9, .ref d9]) (hQv D vwCl G (fun h' => TI τ t n h' ∧ kf τ [(5, f)] [] h h')) 0 0 G.P := by
  refine Met.ofW (cc := b_Pg_fillWithDescriptor) (maxL := 5) (ret := none) (by decide) rfl ?_
  intro p e s m args below meth c s₁ Bd hml hv
  obtain ⟨ha, hE, hH⟩ := hv
  have hx := Bd.exec
  have hb := Bd.bytes
  have hr := Bd.returns
  have hts : ∀ w ∈ lw_g, w.before args s = true := fun w hw => atoms_spec (ws := (.code y_Pg_fillWithDescriptor b_Pg_fillWithDescriptor 5 none :: lw_g)) Bd.pre w (List.mem_cons_of_mem _ hw)
  have hown : s.vm.findClass R_Pg = some m.cls := findClass_of_methodNamed Bd.named
  have hlocks := Bd.notSynchronized
  have hK := hE.1
  have hH0 := hH
  have hLo : hLc G.P [] := hLc_nil
  have hz : s.heap.size ≤ s.heap.size := Nat.le_refl _
  have hl := lv_entry [.ref p9, .ref m9, .int b9, .int c9, .ref d9] (n := 5) (Nat.le_of_ble_eq_true rfl)
  rw [show entryFrame m args 5 = F0 m 0 ((lg_sl [.ref p9, .ref m9, .int b9, .int c9, .ref d9] ++ List.replicate (5 - (lg_sl [.ref p9, .ref m9, .int b9, .int c9, .ref d9]).length) Slot.unset).toArray) [] from (by rw [ha]; exact lg_entry_eq m [.ref p9, .ref m9, .int b9, .int c9, .ref d9] 5)]
  generalize (lg_sl [.ref p9, .ref m9, .int b9, .int c9, .ref d9] ++ List.replicate (5 - (lg_sl [.ref p9, .ref m9, .int b9, .int c9, .ref d9]).length) Slot.unset).toArray = ls at hl ⊢
  have hl : lv_has ls 5 [(0, .ref p9), (1, .ref m9), (2, .int b9), (3, .int c9), (4, .ref d9)] := hl
  have hkf : kf τ [(5, f)] [] h h := kf_rf
  refine lv_aload_n hx hb d_Pg_fillWithDescriptor_0 rfl (lv_at hl 0 rfl) ?_
  refine lv_iconst (v := 1) hx hb d_Pg_fillWithDescriptor_1 (by decide) ?_
  obtain ⟨v_1, F_p9, c_2⟩ := TI_page hT T_p9
  refine hm_callv (va_runV (As := [.int 1]) (b := p9) (rest := []) ⟨hx, hb, hml, hown, hts⟩ (t_std l D t G ak av h τ n f p9 1  hn hT T_p9) ⟨cw9B 1 hts mw_193 mw_194 mw_77 rfl rfl (by decide +kernel) ⟨Nat.le_of_ble_eq_true rfl, Nat.le_of_ble_eq_true rfl⟩, hts _ mw_195, hts _ mw_196⟩ (hP_V (q := (R_Pg, F_Pg, 1)) kE_ok hE hK hH F_p9 rfl) rfl rfl hl.1 rfl (lv_room (Nat.le_of_ble_eq_true rfl)) d_Pg_fillWithDescriptor_2 ⟨Nat.le_of_ble_eq_true rfl, Nat.le_of_ble_eq_true rfl⟩) hLo (fun h_3 H_4 locs hp_6 hH z_5 hLo => ?_)
  have hz : s.heap.size ≤ H_4.size := Nat.le_trans hz z_5
  have hT0 := hT
  obtain ⟨hT, kf_8⟩ := hp_6
  have F_p9 : h_3 p9 = some (.inr (3, [.ref v_1])) := kf_at kf_8 T_p9 (by decide) (tnc (by decide) tn0) nm0 F_p9
  have hkf : kf τ [(5, f)] [] h h_3 := kf_tr hkf kf_8 (List.forall_mem_cons.mpr ⟨List.mem_cons_self, List.forall_mem_nil _⟩) (List.forall_mem_nil _)
  refine lv_aload_n hx hb d_Pg_fillWithDescriptor_5 rfl (lv_at hl 0 rfl) ?_
  refine lv_bipush (v := 80) hx hb d_Pg_fillWithDescriptor_6 (by decide) ?_
  refine lv_iconst (v := 4) hx hb d_Pg_fillWithDescriptor_8 (by decide) ?_
  refine lv_aload_n hx hb d_Pg_fillWithDescriptor_9 rfl (lv_at hl 1 rfl) ?_
  obtain ⟨v_9, v_11, F_m9, c_10⟩ := TI_med hT T_m9
  refine hm_get (ci := 0) (v := .ref v_9) (C := R_Me) (T := F_Me) (N := 2) hx hb hts ig_Me hown hK hH F_m9 rfl 0 (by decide) (hts _ mw_197) (fun _ h9 => h9) rfl d_Pg_fillWithDescriptor_10 ?_
  obtain ⟨g_12, F_v_9, c_13⟩ := TI_secs hT c_10
  have iln_14 : (nI n).toInt = (n : Nat) := nI_toInt (by omega)
  refine hm_alen (v := nI n) hx hb hK hH 5 F_v_9 (ty := (.object "WriteOnceDisc$Sector")) rfl rfl d_Pg_fillWithDescriptor_13 ?_
  refine hm_callv (va_runV (As := [.int 80, .int 4, .int (nI n)]) (b := p9) (rest := []) ⟨hx, hb, hml, hown, hts⟩ (t_putBoth l D t G ak av h_3 τ n f p9 80 4 (nI n)  hn hT T_p9) ⟨cw9B 3 hts mw_176 mw_177 mw_77 rfl rfl (by decide +kernel) ⟨Nat.le_of_ble_eq_true rfl, Nat.le_of_ble_eq_true rfl⟩, hts _ mw_178, hts _ mw_179⟩ (hP_V (q := (R_Pg, F_Pg, 1)) kE_ok hE hK hH F_p9 rfl) rfl rfl hl.1 rfl (lv_room (Nat.le_of_ble_eq_true rfl)) d_Pg_fillWithDescriptor_14 ⟨Nat.le_of_ble_eq_true rfl, Nat.le_of_ble_eq_true rfl⟩) hLo (fun h_15 H_16 locs hp_18 hH z_17 hLo => ?_)
  have hz : s.heap.size ≤ H_16.size := Nat.le_trans hz z_17
  have hT0 := hT
  obtain ⟨hT, kf_20⟩ := hp_18
  have F_p9 : h_15 p9 = some (.inr (3, [.ref v_1])) := kf_at kf_20 T_p9 (by decide) (tnc (by decide) tn0) nm0 F_p9
  have F_m9 : h_15 m9 = some (.inr (0, [.ref v_9, .int v_11])) := kf_at kf_20 T_m9 (by decide) (tnc (by decide) tn0) nm0 F_m9
  have F_v_9 : h_15 v_9 = some (.inl ((t 5), n, .inr (.inr (.inr (.inr g_12))))) := kf_at kf_20 c_10 (by decide) (tnc (by decide) tn0) nm0 F_v_9
  have hkf : kf τ [(5, f)] [] h h_15 := kf_tr hkf kf_20 (List.forall_mem_cons.mpr ⟨List.mem_cons_self, List.forall_mem_nil _⟩) (List.forall_mem_nil _)
  refine lv_aload_n hx hb d_Pg_fillWithDescriptor_17 rfl (lv_at hl 0 rfl) ?_
  refine lv_sipush (v := 128) hx hb d_Pg_fillWithDescriptor_18 (by decide) ?_
  refine lv_iconst (v := 2) hx hb d_Pg_fillWithDescriptor_21 (by decide) ?_
  refine lv_sipush (v := 2048) hx hb d_Pg_fillWithDescriptor_22 (by decide) ?_
  refine hm_callv (va_runV (As := [.int 128, .int 2, .int 2048]) (b := p9) (rest := []) ⟨hx, hb, hml, hown, hts⟩ (t_putBoth l D t G ak av h_15 τ n f p9 128 2 2048  hn hT T_p9) ⟨cw9B 3 hts mw_176 mw_177 mw_77 rfl rfl (by decide +kernel) ⟨Nat.le_of_ble_eq_true rfl, Nat.le_of_ble_eq_true rfl⟩, hts _ mw_178, hts _ mw_179⟩ (hP_V (q := (R_Pg, F_Pg, 1)) kE_ok hE hK hH F_p9 rfl) rfl rfl hl.1 rfl (lv_room (Nat.le_of_ble_eq_true rfl)) d_Pg_fillWithDescriptor_25 ⟨Nat.le_of_ble_eq_true rfl, Nat.le_of_ble_eq_true rfl⟩) hLo (fun h_21 H_22 locs hp_24 hH z_23 hLo => ?_)
  have hz : s.heap.size ≤ H_22.size := Nat.le_trans hz z_23
  have hT0 := hT
  obtain ⟨hT, kf_26⟩ := hp_24
  have F_p9 : h_21 p9 = some (.inr (3, [.ref v_1])) := kf_at kf_26 T_p9 (by decide) (tnc (by decide) tn0) nm0 F_p9
  have F_m9 : h_21 m9 = some (.inr (0, [.ref v_9, .int v_11])) := kf_at kf_26 T_m9 (by decide) (tnc (by decide) tn0) nm0 F_m9
  have F_v_9 : h_21 v_9 = some (.inl ((t 5), n, .inr (.inr (.inr (.inr g_12))))) := kf_at kf_26 c_10 (by decide) (tnc (by decide) tn0) nm0 F_v_9
  have hkf : kf τ [(5, f)] [] h h_21 := kf_tr hkf kf_26 (List.forall_mem_cons.mpr ⟨List.mem_cons_self, List.forall_mem_nil _⟩) (List.forall_mem_nil _)
  refine lv_aload_n hx hb d_Pg_fillWithDescriptor_28 rfl (lv_at hl 0 rfl) ?_
  refine lv_sipush (v := 132) hx hb d_Pg_fillWithDescriptor_29 (by decide) ?_
  refine lv_iconst (v := 4) hx hb d_Pg_fillWithDescriptor_32 (by decide) ?_
  refine lv_iload_n hx hb d_Pg_fillWithDescriptor_33 rfl (lv_at hl 3 rfl) ?_
  refine hm_callv (va_runV (As := [.int 132, .int 4, .int c9]) (b := p9) (rest := []) ⟨hx, hb, hml, hown, hts⟩ (t_putBoth l D t G ak av h_21 τ n f p9 132 4 c9  hn hT T_p9) ⟨cw9B 3 hts mw_176 mw_177 mw_77 rfl rfl (by decide +kernel) ⟨Nat.le_of_ble_eq_true rfl, Nat.le_of_ble_eq_true rfl⟩, hts _ mw_178, hts _ mw_179⟩ (hP_V (q := (R_Pg, F_Pg, 1)) kE_ok hE hK hH F_p9 rfl) rfl rfl hl.1 rfl (lv_room (Nat.le_of_ble_eq_true rfl)) d_Pg_fillWithDescriptor_34 ⟨Nat.le_of_ble_eq_true rfl, Nat.le_of_ble_eq_true rfl⟩) hLo (fun h_27 H_28 locs hp_30 hH z_29 hLo => ?_)
  have hz : s.heap.size ≤ H_28.size := Nat.le_trans hz z_29
  have hT0 := hT
  obtain ⟨hT, kf_32⟩ := hp_30
  have F_p9 : h_27 p9 = some (.inr (3, [.ref v_1])) := kf_at kf_32 T_p9 (by decide) (tnc (by decide) tn0) nm0 F_p9
  have F_m9 : h_27 m9 = some (.inr (0, [.ref v_9, .int v_11])) := kf_at kf_32 T_m9 (by decide) (tnc (by decide) tn0) nm0 F_m9
  have F_v_9 : h_27 v_9 = some (.inl ((t 5), n, .inr (.inr (.inr (.inr g_12))))) := kf_at kf_32 c_10 (by decide) (tnc (by decide) tn0) nm0 F_v_9
  have hkf : kf τ [(5, f)] [] h h_27 := kf_tr hkf kf_32 (List.forall_mem_cons.mpr ⟨List.mem_cons_self, List.forall_mem_nil _⟩) (List.forall_mem_nil _)
  refine lv_aload_n hx hb d_Pg_fillWithDescriptor_37 rfl (lv_at hl 0 rfl) ?_
  refine lv_sipush (v := 140) hx hb d_Pg_fillWithDescriptor_38 (by decide) ?_
  refine lv_iconst (v := 4) hx hb d_Pg_fillWithDescriptor_41 (by decide) ?_
  refine lv_iload_n hx hb d_Pg_fillWithDescriptor_42 rfl (lv_at hl 2 rfl) ?_
  refine lv_bipush (v := 18) hx hb d_Pg_fillWithDescriptor_43 (by decide) ?_
  refine lv_iadd hx hb d_Pg_fillWithDescriptor_45 ?_
  refine hm_callv (va_runV (As := [.int 140, .int 4, .int (b9 + 18)]) (b := p9) (rest := []) ⟨hx, hb, hml, hown, hts⟩ (t_putLow l D t G ak av h_27 τ n f p9 140 4 (b9 + 18)  hn hT T_p9) ⟨cw9B 3 hts mw_89 mw_90 mw_77 rfl rfl (by decide +kernel) ⟨Nat.le_of_ble_eq_true rfl, Nat.le_of_ble_eq_true rfl⟩, hts _ mw_91, hts _ mw_92⟩ (hP_V (q := (R_Pg, F_Pg, 1)) kE_ok hE hK hH F_p9 rfl) rfl rfl hl.1 rfl (lv_room (Nat.le_of_ble_eq_true rfl)) d_Pg_fillWithDescriptor_46 ⟨Nat.le_of_ble_eq_true rfl, Nat.le_of_ble_eq_true rfl⟩) hLo (fun h_33 H_34 locs hp_36 hH z_35 hLo => ?_)
  have hz : s.heap.size ≤ H_34.size := Nat.le_trans hz z_35
  have hT0 := hT
  obtain ⟨hT, kf_38⟩ := hp_36
  have F_p9 : h_33 p9 = some (.inr (3, [.ref v_1])) := kf_at kf_38 T_p9 (by decide) (tnc (by decide) tn0) nm0 F_p9
  have F_m9 : h_33 m9 = some (.inr (0, [.ref v_9, .int v_11])) := kf_at kf_38 T_m9 (by decide) (tnc (by decide) tn0) nm0 F_m9
  have F_v_9 : h_33 v_9 = some (.inl ((t 5), n, .inr (.inr (.inr (.inr g_12))))) := kf_at kf_38 c_10 (by decide) (tnc (by decide) tn0) nm0 F_v_9
  have hkf : kf τ [(5, f)] [] h h_33 := kf_tr hkf kf_38 (List.forall_mem_cons.mpr ⟨List.mem_cons_self, List.forall_mem_nil _⟩) (List.forall_mem_nil _)
  refine lv_aload_n hx hb d_Pg_fillWithDescriptor_49 rfl (lv_at hl 0 rfl) ?_
  refine lv_sipush (v := 148) hx hb d_Pg_fillWithDescriptor_50 (by decide) ?_
  refine lv_iconst (v := 4) hx hb d_Pg_fillWithDescriptor_53 (by decide) ?_
  refine lv_iload_n hx hb d_Pg_fillWithDescriptor_54 rfl (lv_at hl 2 rfl) ?_
  refine lv_bipush (v := 19) hx hb d_Pg_fillWithDescriptor_55 (by decide) ?_
  refine lv_iadd hx hb d_Pg_fillWithDescriptor_57 ?_
  refine hm_callv (va_runV (As := [.int 148, .int 4, .int (b9 + 19)]) (b := p9) (rest := []) ⟨hx, hb, hml, hown, hts⟩ (t_putHigh l D t G ak av h_33 τ n f p9 148 4 (b9 + 19)  hn hT T_p9) ⟨cw9B 3 hts mw_186 mw_187 mw_77 rfl rfl (by decide +kernel) ⟨Nat.le_of_ble_eq_true rfl, Nat.le_of_ble_eq_true rfl⟩, hts _ mw_188, hts _ mw_189⟩ (hP_V (q := (R_Pg, F_Pg, 1)) kE_ok hE hK hH F_p9 rfl) rfl rfl hl.1 rfl (lv_room (Nat.le_of_ble_eq_true rfl)) d_Pg_fillWithDescriptor_58 ⟨Nat.le_of_ble_eq_true rfl, Nat.le_of_ble_eq_true rfl⟩) hLo (fun h_39 H_40 locs hp_42 hH z_41 hLo => ?_)
  have hz : s.heap.size ≤ H_40.size := Nat.le_trans hz z_41
  have hT0 := hT
  obtain ⟨hT, kf_44⟩ := hp_42
  have F_p9 : h_39 p9 = some (.inr (3, [.ref v_1])) := kf_at kf_44 T_p9 (by decide) (tnc (by decide) tn0) nm0 F_p9
  have F_m9 : h_39 m9 = some (.inr (0, [.ref v_9, .int v_11])) := kf_at kf_44 T_m9 (by decide) (tnc (by decide) tn0) nm0 F_m9
  have F_v_9 : h_39 v_9 = some (.inl ((t 5), n, .inr (.inr (.inr (.inr g_12))))) := kf_at kf_44 c_10 (by decide) (tnc (by decide) tn0) nm0 F_v_9
  have hkf : kf τ [(5, f)] [] h h_39 := kf_tr hkf kf_44 (List.forall_mem_cons.mpr ⟨List.mem_cons_self, List.forall_mem_nil _⟩) (List.forall_mem_nil _)
  refine lv_aload_n hx hb d_Pg_fillWithDescriptor_61 rfl (lv_at hl 0 rfl) ?_
  refine lv_sipush (v := 156) hx hb d_Pg_fillWithDescriptor_62 (by decide) ?_
  refine lv_aload hx hb d_Pg_fillWithDescriptor_65 (lv_at hl 4 rfl) ?_
  refine lv_iconst (v := 0) hx hb d_Pg_fillWithDescriptor_67 (by decide) ?_
  refine hm_calli (va_runV (As := [.int 156, .ref d9, .int 0]) (b := p9) (rest := []) ⟨hx, hb, hml, hown, hts⟩ (t_putRec l D t G ak av h_39 τ n f g p9 156 d9 0  hn hT T_p9 T_d9) ⟨cw9B 3 hts mw_198 mw_199 mw_77 rfl rfl (by decide +kernel) ⟨Nat.le_of_ble_eq_true rfl, Nat.le_of_ble_eq_true rfl⟩, hts _ mw_200, hts _ mw_201⟩ (hP_V (q := (R_Pg, F_Pg, 1)) kE_ok hE hK hH F_p9 rfl) rfl rfl hl.1 rfl (lv_room (Nat.le_of_ble_eq_true rfl)) d_Pg_fillWithDescriptor_68 ⟨Nat.le_of_ble_eq_true rfl, Nat.le_of_ble_eq_true rfl⟩) hLo (fun r_45 h_46 H_47 locs hp_49 hH z_48 hLo => ?_)
  have hz : s.heap.size ≤ H_47.size := Nat.le_trans hz z_48
  have hT0 := hT
  obtain ⟨hT, kf_51⟩ := hp_49
  have F_p9 : h_46 p9 = some (.inr (3, [.ref v_1])) := kf_at kf_51 T_p9 (by decide) (tnc (by decide) tn0) nm0 F_p9
  have F_m9 : h_46 m9 = some (.inr (0, [.ref v_9, .int v_11])) := kf_at kf_51 T_m9 (by decide) (tnc (by decide) tn0) nm0 F_m9
  have F_v_9 : h_46 v_9 = some (.inl ((t 5), n, .inr (.inr (.inr (.inr g_12))))) := kf_at kf_51 c_10 (by decide) (tnc (by decide) tn0) nm0 F_v_9
  have hkf : kf τ [(5, f)] [] h h_46 := kf_tr hkf kf_51 (List.forall_mem_cons.mpr ⟨List.mem_cons_self, List.forall_mem_nil _⟩) (List.forall_mem_nil _)
  refine lv_pop hx hb d_Pg_fillWithDescriptor_71 rfl ?_
  exact W.vret hx hb hr (fun t9 ht hW => ⟨h_46, rfl, ⟨hT, hkf⟩, by rw [ht]; exact hH, by rw [ht]; exact hz⟩) hLo d_Pg_fillWithDescriptor_72

set_option maxHeartbeats 4000000 in
set_option maxRecDepth 100000 in
theorem t_fdir (l : Launch) (D : va_G) (t : Nat → ClassId) (G : hG) (ak av : Nat → Nat) (h : hM) (τ : tM) (n f g : Nat) (p9 : Nat) (d9 : Nat) (q9 : Nat) (c9 : Int32) (hn : n ≤ 200) (hT : TI τ t n h) (T_p9 : τ p9 = (4, f)) (T_d9 : τ d9 = (10, g)) (T_q9 : τ q9 = (9, g)) : Met l y_Pg_fillWithDirectory (.code y_Pg_fillWithDirectory b_Pg_fillWithDirectory 6 none :: lw_g) { frames := 7, cells := 0, slots := 0, locals := 155 } (hP (kE D t G ak av) D vwCl G h [.ref p9, .ref d9, .ref q9, .int c9]) (hQv D vwCl G (fun h' => TI τ t n h' ∧ kf τ [(5, f)] [] h h')) 0 0 G.P := by
  refine Met.ofW (cc := b_Pg_fillWithDirectory) (maxL := 6) (ret := none) (by decide) rfl ?_
  intro p e s m args below meth c s₁ Bd hml hv
  obtain ⟨ha, hE, hH⟩ := hv
  have hx := Bd.exec
  have hb := Bd.bytes
  have hr := Bd.returns
  have hts : ∀ w ∈ lw_g, w.before args s = true := fun w hw => atoms_spec (ws := (.code y_Pg_fillWithDirectory b_Pg_fillWithDirectory 6 none :: lw_g)) Bd.pre w (List.mem_cons_of_mem _ hw)
  have hown : s.vm.findClass R_Pg = some m.cls := findClass_of_methodNamed Bd.named
  have hlocks := Bd.notSynchronized
  have hK := hE.1
  have hH0 := hH
  have hLo : hLc G.P [] := hLc_nil
  have hz : s.heap.size ≤ s.heap.size := Nat.le_refl _
  have hl := lv_entry [.ref p9, .ref d9, .ref q9, .int c9] (n := 6) (Nat.le_of_ble_eq_true rfl)
  rw [show entryFrame m args 6 = F0 m 0 ((lg_sl [.ref p9, .ref d9, .ref q9, .int c9] ++ List.replicate (6 - (lg_sl [.ref p9, .ref d9, .ref q9, .int c9]).length) Slot.unset).toArray) [] from (by rw [ha]; exact lg_entry_eq m [.ref p9, .ref d9, .ref q9, .int c9] 6)]
  generalize (lg_sl [.ref p9, .ref d9, .ref q9, .int c9] ++ List.replicate (6 - (lg_sl [.ref p9, .ref d9, .ref q9, .int c9]).length) Slot.unset).toArray = ls at hl ⊢
  have hl : lv_has ls 6 [(0, .ref p9), (1, .ref d9), (2, .ref q9), (3, .int c9)] := hl
  have hkf : kf τ [(5, f)] [] h h := kf_rf
  refine lv_aload_n hx hb d_Pg_fillWithDirectory_0 rfl (lv_at hl 0 rfl) ?_
  obtain ⟨v_1, F_p9, c_2⟩ := TI_page hT T_p9
  refine hm_callv (va_runV (As := []) (b := p9) (rest := []) ⟨hx, hb, hml, hown, hts⟩ (t_clear l D t G ak av h τ n f p9  hn hT T_p9) ⟨cw9B 0 hts mw_81 mw_82 mw_77 rfl rfl (by decide +kernel) ⟨Nat.le_of_ble_eq_true rfl, Nat.le_of_ble_eq_true rfl⟩, hts _ mw_83, hts _ mw_84⟩ (hP_V (q := (R_Pg, F_Pg, 1)) kE_ok hE hK hH F_p9 rfl) rfl rfl hl.1 rfl (lv_room (Nat.le_of_ble_eq_true rfl)) d_Pg_fillWithDirectory_1 ⟨Nat.le_of_ble_eq_true rfl, Nat.le_of_ble_eq_true rfl⟩) hLo (fun h_3 H_4 locs hp_6 hH z_5 hLo => ?_)
  have hz : s.heap.size ≤ H_4.size := Nat.le_trans hz z_5
  have hT0 := hT
  obtain ⟨hT, kf_8⟩ := hp_6
  have F_p9 : h_3 p9 = some (.inr (3, [.ref v_1])) := kf_at kf_8 T_p9 (by decide) (tnc (by decide) tn0) nm0 F_p9
  have hkf : kf τ [(5, f)] [] h h_3 := kf_tr hkf kf_8 (List.forall_mem_cons.mpr ⟨List.mem_cons_self, List.forall_mem_nil _⟩) (List.forall_mem_nil _)
  refine lv_aload_n hx hb d_Pg_fillWithDirectory_4 rfl (lv_at hl 0 rfl) ?_
  refine lv_iconst (v := 0) hx hb d_Pg_fillWithDirectory_5 (by decide) ?_
  refine lv_aload_n hx hb d_Pg_fillWithDirectory_6 rfl (lv_at hl 1 rfl) ?_
  refine lv_iconst (v := 0) hx hb d_Pg_fillWithDirectory_7 (by decide) ?_
  refine hm_calli (va_runV (As := [.int 0, .ref d9, .int 0]) (b := p9) (rest := []) ⟨hx, hb, hml, hown, hts⟩ (t_putRec l D t G ak av h_3 τ n f g p9 0 d9 0  hn hT T_p9 T_d9) ⟨cw9B 3 hts mw_198 mw_199 mw_77 rfl rfl (by decide +kernel) ⟨Nat.le_of_ble_eq_true rfl, Nat.le_of_ble_eq_true rfl⟩, hts _ mw_200, hts _ mw_201⟩ (hP_V (q := (R_Pg, F_Pg, 1)) kE_ok hE hK hH F_p9 rfl) rfl rfl hl.1 rfl (lv_room (Nat.le_of_ble_eq_true rfl)) d_Pg_fillWithDirectory_8 ⟨Nat.le_of_ble_eq_true rfl, Nat.le_of_ble_eq_true rfl⟩) hLo (fun r_9 h_10 H_11 locs hp_13 hH z_12 hLo => ?_)
  have hz : s.heap.size ≤ H_11.size := Nat.le_trans hz z_12
  have hT0 := hT
  obtain ⟨hT, kf_15⟩ := hp_13
  have F_p9 : h_10 p9 = some (.inr (3, [.ref v_1])) := kf_at kf_15 T_p9 (by decide) (tnc (by decide) tn0) nm0 F_p9
  have hkf : kf τ [(5, f)] [] h h_10 := kf_tr hkf kf_15 (List.forall_mem_cons.mpr ⟨List.mem_cons_self, List.forall_mem_nil _⟩) (List.forall_mem_nil _)
  refine lv_istore (lv' := [(4, .int r_9), (0, .ref p9), (1, .ref d9), (2, .ref q9), (3, .int c9)]) hx hb d_Pg_fillWithDirectory_11 hl (by decide) rfl (fun ls hl => ?_)
  refine hm_cut (α := Nat) (fun u9 ls H locs HH => (lv_has ls 6 [(0, .ref p9), (1, .ref d9), (2, .ref q9), (3, .int c9), (4, .int r_9)]) ∧ (hm D vwCl G HH H) ∧ (s.heap.size ≤ H.size) ∧ (hLc G.P locs) ∧ (TI τ t n HH) ∧ (kf τ [(5, f)] [] h HH) ∧ (τ u9 = (10, g))) 31 (fun u9 => [.ref u9, .int r_9, .ref p9]) ?_ (fun J31 => ?_)
  · skip
    rintro u9 ls H locs HH ⟨hl, hH, hz, hLo, hT, hkf, P_u9⟩
    refine lv_iconst (v := 1) hx hb d_Pg_fillWithDirectory_31 (by decide) ?_
    obtain ⟨v_16, F_p9, c_17⟩ := TI_page hT T_p9
    refine hm_calli (va_runV (As := [.int r_9, .ref u9, .int 1]) (b := p9) (rest := []) ⟨hx, hb, hml, hown, hts⟩ (t_putRec l D t G ak av HH τ n f g p9 r_9 u9 1  hn hT T_p9 P_u9) ⟨cw9B 3 hts mw_198 mw_199 mw_77 rfl rfl (by decide +kernel) ⟨Nat.le_of_ble_eq_true rfl, Nat.le_of_ble_eq_true rfl⟩, hts _ mw_200, hts _ mw_201⟩ (hP_V (q := (R_Pg, F_Pg, 1)) kE_ok hE hK hH F_p9 rfl) rfl rfl hl.1 rfl (lv_room (Nat.le_of_ble_eq_true rfl)) d_Pg_fillWithDirectory_32 ⟨Nat.le_of_ble_eq_true rfl, Nat.le_of_ble_eq_true rfl⟩) hLo (fun r_18 h_19 H_20 locs hp_22 hH z_21 hLo => ?_)
    have hz : s.heap.size ≤ H_20.size := Nat.le_trans hz z_21
    have hT0 := hT
    obtain ⟨hT, kf_24⟩ := hp_22
    have F_p9 : h_19 p9 = some (.inr (3, [.ref v_16])) := kf_at kf_24 T_p9 (by decide) (tnc (by decide) tn0) nm0 F_p9
    have hkf : kf τ [(5, f)] [] h h_19 := kf_tr hkf kf_24 (List.forall_mem_cons.mpr ⟨List.mem_cons_self, List.forall_mem_nil _⟩) (List.forall_mem_nil _)
    refine lv_istore (lv' := [(4, .int r_18), (0, .ref p9), (1, .ref d9), (2, .ref q9), (3, .int c9)]) hx hb d_Pg_fillWithDirectory_35 hl (by decide) rfl (fun ls hl => ?_)
    refine lv_iconst (v := 0) hx hb d_Pg_fillWithDirectory_37 (by decide) ?_
    refine lv_istore (lv' := [(5, .int 0), (4, .int r_18), (0, .ref p9), (1, .ref d9), (2, .ref q9), (3, .int c9)]) hx hb d_Pg_fillWithDirectory_38 hl (by decide) rfl (fun ls hl => ?_)
    refine hm_loop (fun k40 ls H locs hh40 => ∃ (at9 : Int32) (i9 : Int32), k40 = mU i9 ∧ lv_has ls 6 [(0, .ref p9), (1, .ref d9), (2, .ref q9), (3, .int c9), (4, .int at9), (5, .int i9)] ∧ hm D vwCl G hh40 H ∧ s.heap.size ≤ H.size ∧ hLc G.P locs ∧ (TI τ t n hh40) ∧ (kf τ [(5, f)] [] h hh40) ∧ (0 ≤ i9.toInt)) ?_ (hh := h_19) ⟨r_18, 0, rfl, (lv_sub hl [2, 3, 4, 5, 1, 0] rfl), hH, hz, hLo, hT, hkf, (by decide)⟩
    rintro k40 ls H locs hh40 ⟨at9, i9, hk40, hl, hH, hz, hLo, hT, hkf, I_i9⟩ ih40
    refine lv_iload hx hb d_Pg_fillWithDirectory_40 (lv_at hl 5 rfl) ?_
    refine lv_iload_n hx hb d_Pg_fillWithDirectory_42 rfl (lv_at hl 3 rfl) ?_
    refine lv_icmp_ge (tgt := 83) hx hb d_Pg_fillWithDirectory_43 (by decide) (fun hc_25 => ?_) (fun hc_25 => ?_)
    · skip
      have ic_26 : c9.toInt ≤ i9.toInt := iLe hc_25
      exact W.vret hx hb hr (fun t9 ht hW => ⟨hh40, rfl, ⟨hT, hkf⟩, by rw [ht]; exact hH, by rw [ht]; exact hz⟩) hLo d_Pg_fillWithDirectory_83
    · skip
      have ic_27 : i9.toInt < c9.toInt := iNe hc_25
      have iu_28 : c9.toInt < 2147483648 := iUp _
      refine lv_iload hx hb d_Pg_fillWithDirectory_46 (lv_at hl 5 rfl) ?_
      refine lv_aload_n hx hb d_Pg_fillWithDirectory_48 rfl (lv_at hl 2 rfl) ?_
      obtain ⟨g_29, F_q9, c_30⟩ := TI_ord hT T_q9
      refine hm_alen (v := 30) hx hb hK hH 4 F_q9 (ty := (.object "WriteOnceDisc$Node")) rfl (show Int32.ofNat 30 = 30 by decide) d_Pg_fillWithDirectory_49 ?_
      refine lv_icmp_ge (tgt := 83) hx hb d_Pg_fillWithDirectory_50 (by decide) (fun hc_31 => ?_) (fun hc_31 => ?_)
      · skip
        have ic_32 : 30 ≤ i9.toInt := iLe hc_31
        exact W.vret hx hb hr (fun t9 ht hW => ⟨hh40, rfl, ⟨hT, hkf⟩, by rw [ht]; exact hH, by rw [ht]; exact hz⟩) hLo d_Pg_fillWithDirectory_83
      · skip
        have ic_33 : i9.toInt < 30 := iNe hc_31
        refine lv_aload_n hx hb d_Pg_fillWithDirectory_53 rfl (lv_at hl 2 rfl) ?_
        refine lv_iload hx hb d_Pg_fillWithDirectory_54 (lv_at hl 5 rfl) ?_
        obtain ⟨a_34, e_35, T_36⟩ := c_30 i9.toNatClampNeg (iCl (by omega) (by omega))
        refine hm_aald (v := .ref a_34) hx hb hK hH 4 F_q9 (C := R_No) rfl (iIn (by omega) (by omega)) (by rw [e_35]; rfl) d_Pg_fillWithDirectory_56 ?_
        obtain ⟨v_37, v_38, v_40, v_42, v_43, v_45, v_46, v_47, v_49, v_50, v_51, F_a_34, c_39, c_41, c_44, c_48⟩ := TI_node hT T_36
        refine hm_get (ci := 1) (v := va_rf v_38) (C := R_No) (T := F_No) (N := 11) hx hb hts ig_No hown hK hH F_a_34 rfl 1 (by decide) (hts _ mw_190) (fun _ h9 => h9) rfl d_Pg_fillWithDirectory_57 ?_
        refine lv_aload_n hx hb d_Pg_fillWithDirectory_60 rfl (lv_at hl 1 rfl) ?_
        refine lv_acmp_ne (rx := v_38) (ry := some d9) (tgt := 77) hx hb d_Pg_fillWithDirectory_61 (by decide) (fun hc_52 => ?_) (fun hc_52 => ?_)
        · skip
          obtain ⟨j_53, e_54⟩ : ∃ z : Int32, z = i9 + 1 := ⟨_, rfl⟩
          refine lv_iinc (v := j_53) (lv' := [(5, .int j_53), (0, .ref p9), (1, .ref d9), (2, .ref q9), (3, .int c9), (4, .int at9)]) hx hb d_Pg_fillWithDirectory_77 hl (k := 5) rfl e_54.symm (by decide) rfl (fun ls hl => ?_)
          refine lv_goto (tgt := 40) hx hb d_Pg_fillWithDirectory_80 (by decide) ?_
          have is_55 : j_53.toInt = i9.toInt + 1 := by rw [e_54]; exact iAddK 1 rfl (by omega) (by omega)
          exact ih40 (mU j_53) ls _ locs _ (by rw [hk40]; exact mU_lt (by omega)) ⟨at9, j_53, rfl, (lv_sub hl [1, 2, 3, 4, 5, 0] rfl), hH, hz, hLo, hT, hkf, (by omega)⟩
        · skip
          refine lv_aload_n hx hb d_Pg_fillWithDirectory_64 rfl (lv_at hl 0 rfl) ?_
          refine lv_iload hx hb d_Pg_fillWithDirectory_65 (lv_at hl 4 rfl) ?_
          refine lv_aload_n hx hb d_Pg_fillWithDirectory_67 rfl (lv_at hl 2 rfl) ?_
          refine lv_iload hx hb d_Pg_fillWithDirectory_68 (lv_at hl 5 rfl) ?_
          refine hm_aald (v := .ref a_34) hx hb hK hH 4 F_q9 (C := R_No) rfl (iIn (by omega) (by omega)) (by rw [e_35]; rfl) d_Pg_fillWithDirectory_70 ?_
          refine lv_iconst (v := -1) hx hb d_Pg_fillWithDirectory_71 (by decide) ?_
          obtain ⟨v_56, F_p9, c_57⟩ := TI_page hT T_p9
          refine hm_calli (va_runV (As := [.int at9, .ref a_34, .int (-1)]) (b := p9) (rest := []) ⟨hx, hb, hml, hown, hts⟩ (t_putRec l D t G ak av hh40 τ n f g p9 at9 a_34 (-1)  hn hT T_p9 T_36) ⟨cw9B 3 hts mw_198 mw_199 mw_77 rfl rfl (by decide +kernel) ⟨Nat.le_of_ble_eq_true rfl, Nat.le_of_ble_eq_true rfl⟩, hts _ mw_200, hts _ mw_201⟩ (hP_V (q := (R_Pg, F_Pg, 1)) kE_ok hE hK hH F_p9 rfl) rfl rfl hl.1 rfl (lv_room (Nat.le_of_ble_eq_true rfl)) d_Pg_fillWithDirectory_72 ⟨Nat.le_of_ble_eq_true rfl, Nat.le_of_ble_eq_true rfl⟩) hLo (fun r_58 h_59 H_60 locs hp_62 hH z_61 hLo => ?_)
          have hz : s.heap.size ≤ H_60.size := Nat.le_trans hz z_61
          have hT0 := hT
          obtain ⟨hT, kf_64⟩ := hp_62
          have F_q9 : h_59 q9 = some (.inl ((t 4), 30, .inr (.inr (.inr (.inr g_29))))) := kf_at kf_64 T_q9 (by decide) (tnc (by decide) tn0) nm0 F_q9
          have F_a_34 : h_59 a_34 = some (.inr (1, [.int v_37, va_rf v_38, .int v_40, .long v_42, .int v_43, .int v_45, .int v_46, .int v_47, .int v_49, .int v_50, .int v_51])) := kf_at kf_64 T_36 (by decide) (tnc (by decide) tn0) nm0 F_a_34
          have F_p9 : h_59 p9 = some (.inr (3, [.ref v_56])) := kf_at kf_64 T_p9 (by decide) (tnc (by decide) tn0) nm0 F_p9
          have hkf : kf τ [(5, f)] [] h h_59 := kf_tr hkf kf_64 (List.forall_mem_cons.mpr ⟨List.mem_cons_self, List.forall_mem_nil _⟩) (List.forall_mem_nil _)
          refine lv_istore (lv' := [(4, .int r_58), (0, .ref p9), (1, .ref d9), (2, .ref q9), (3, .int c9), (5, .int i9)]) hx hb d_Pg_fillWithDirectory_75 hl (by decide) rfl (fun ls hl => ?_)
          obtain ⟨j_65, e_66⟩ : ∃ z : Int32, z = i9 + 1 := ⟨_, rfl⟩
          refine lv_iinc (v := j_65) (lv' := [(5, .int j_65), (4, .int r_58), (0, .ref p9), (1, .ref d9), (2, .ref q9), (3, .int c9)]) hx hb d_Pg_fillWithDirectory_77 hl (k := 5) rfl e_66.symm (by decide) rfl (fun ls hl => ?_)
          refine lv_goto (tgt := 40) hx hb d_Pg_fillWithDirectory_80 (by decide) ?_
          have is_67 : j_65.toInt = i9.toInt + 1 := by rw [e_66]; exact iAddK 1 rfl (by omega) (by omega)
          exact ih40 (mU j_65) ls _ locs _ (by rw [hk40]; exact mU_lt (by omega)) ⟨r_58, j_65, rfl, (lv_sub hl [2, 3, 4, 5, 1, 0] rfl), hH, hz, hLo, hT, hkf, (by omega)⟩
  · skip
    refine lv_aload_n hx hb d_Pg_fillWithDirectory_13 rfl (lv_at hl 1 rfl) ?_
    refine lv_iload hx hb d_Pg_fillWithDirectory_14 (lv_at hl 0 rfl) ?_
    refine lv_aload_n hx hb d_Pg_fillWithDirectory_16 rfl (lv_at hl 2 rfl) ?_
    obtain ⟨v_68, v_69, v_71, v_73, v_74, v_76, v_77, v_78, v_80, v_81, v_82, F_d9, c_70, c_72, c_75, c_79⟩ := TI_node hT T_d9
    refine hm_get (ci := 1) (v := va_rf v_69) (C := R_No) (T := F_No) (N := 11) hx hb hts ig_No hown hK hH F_d9 rfl 1 (by decide) (hts _ mw_190) (fun _ h9 => h9) rfl d_Pg_fillWithDirectory_17 ?_
    rcases v_69 with _ | q_83
    · skip
      refine lv_ifnonnullN hx hb d_Pg_fillWithDirectory_20 ?_
      refine lv_aload_n hx hb d_Pg_fillWithDirectory_23 rfl (lv_at hl 2 rfl) ?_
      refine lv_goto (tgt := 31) hx hb d_Pg_fillWithDirectory_24 (by decide) ?_
      exact J31 d9 _ _ _ _ ⟨(lv_sub hl [1, 2, 3, 4, 0] rfl), hH, hz, hLo, hT, hkf, T_d9⟩
    · skip
      have T_84 := c_70 q_83 rfl
      refine lv_ifnonnull (tgt := 27) hx hb d_Pg_fillWithDirectory_20 (by decide) ?_
      refine lv_aload_n hx hb d_Pg_fillWithDirectory_27 rfl (lv_at hl 2 rfl) ?_
      refine hm_get (ci := 1) (v := .ref q_83) (C := R_No) (T := F_No) (N := 11) hx hb hts ig_No hown hK hH F_d9 rfl 1 (by decide) (hts _ mw_190) (fun _ h9 => h9) rfl d_Pg_fillWithDirectory_28 ?_
      exact J31 q_83 _ _ _ _ ⟨(lv_sub hl [1, 2, 3, 4, 0] rfl), hH, hz, hLo, hT, hkf, T_84⟩

set_option maxHeartbeats 4000000 in
set_option maxRecDepth 100000 in
theorem t_copyInto (l : Launch) (D : va_G) (t : Nat → ClassId) (G : hG) (ak av : Nat → Nat) (h : hM) (τ : tM) (n f : Nat) (m9 : Nat) (b9 : Nat) (s9 : Int32) (l9 : Int32) (hn : n ≤ 200) (hT : TI τ t n h) (T_m9 : τ m9 = (11, 0)) (T_b9 : τ b9 = (5, f)) : Met l y_Me_copyInto (.code y_Me_copyInto b_Me_copyInto 4 none :: lw_g) { frames := 1, cells := 0, slots := 0, locals := 80 } (hP (kE D t G ak av) D vwCl G h [.ref m9, .ref b9, .int s9, .int l9]) (hQv D vwCl G (fun h' => TI τ t n h' ∧ kf τ [(5, f)] [] h h')) 0 0 G.P := by
  refine Met.ofW (cc := b_Me_copyInto) (maxL := 4) (ret := none) (by decide) rfl ?_
  intro p e s m args below meth c s₁ Bd hml hv
  obtain ⟨ha, hE, hH⟩ := hv
  have hx := Bd.exec
  have hb := Bd.bytes
  have hr := Bd.returns
  have hts : ∀ w ∈ lw_g, w.before args s = true := fun w hw => atoms_spec (ws := (.code y_Me_copyInto b_Me_copyInto 4 none :: lw_g)) Bd.pre w (List.mem_cons_of_mem _ hw)
  have hown : s.vm.findClass R_Me = some m.cls := findClass_of_methodNamed Bd.named
  have hlocks := Bd.notSynchronized
  have hK := hE.1
  have hH0 := hH
  have hLo : hLc G.P [] := hLc_nil
  have hz : s.heap.size ≤ s.heap.size := Nat.le_refl _
  have hl := lv_entry [.ref m9, .ref b9, .int s9, .int l9] (n := 4) (Nat.le_of_ble_eq_true rfl)
  rw [show entryFrame m args 4 = F0 m 0 ((lg_sl [.ref m9, .ref b9, .int s9, .int l9] ++ List.replicate (4 - (lg_sl [.ref m9, .ref b9, .int s9, .int l9]).length) Slot.unset).toArray) [] from (by rw [ha]; exact lg_entry_eq m [.ref m9, .ref b9, .int s9, .int l9] 4)]
  generalize (lg_sl [.ref m9, .ref b9, .int s9, .int l9] ++ List.replicate (4 - (lg_sl [.ref m9, .ref b9, .int s9, .int l9]).length) Slot.unset).toArray = ls at hl ⊢
  have hl : lv_has ls 4 [(0, .ref m9), (1, .ref b9), (2, .int s9), (3, .int l9)] := hl
  have hkf : kf τ [(5, f)] [] h h := kf_rf
  refine lv_aload_n hx hb d_Me_copyInto_0 rfl (lv_at hl 0 rfl) ?_
  refine lv_iload_n hx hb d_Me_copyInto_1 rfl (lv_at hl 2 rfl) ?_
  obtain ⟨v_1, v_3, F_m9, c_2⟩ := TI_med hT T_m9
  refine hm_callPi (va_runV (As := [.int s9]) (b := m9) (rest := []) ⟨hx, hb, hml, hown, hts⟩ (t_isWritten l D t G ak av h τ n m9 s9  hn hT T_m9) ⟨cw9B 1 hts mw_48 mw_49 mw_32 rfl rfl (by decide +kernel) ⟨Nat.le_of_ble_eq_true rfl, Nat.le_of_ble_eq_true rfl⟩, hts _ mw_50, hts _ mw_51⟩ (hP_V (q := (R_Me, F_Me, 2)) kE_ok hE hK hH F_m9 rfl) rfl rfl hl.1 rfl (lv_room (Nat.le_of_ble_eq_true rfl)) d_Me_copyInto_2 ⟨Nat.le_of_ble_eq_true rfl, Nat.le_of_ble_eq_true rfl⟩) (fun r_4 h_5 H_6 hp_8  hH z_7 => ?_)
  have hz : s.heap.size ≤ H_6.size := Nat.le_trans hz z_7
  obtain ⟨c_9, xp_10, rfl⟩ := hp_8
  rcases xp_10 with rfl | ⟨rfl, ix9, iy9⟩
  · skip
    refine lv_if_eq (tgt := 20) hx hb d_Me_copyInto_5 (by decide) (fun hc_11 => ?_) (fun hc_11 => absurd hc_11 (by decide))
    exact W.vret hx hb hr (fun t9 ht hW => ⟨h, rfl, ⟨hT, hkf⟩, by rw [ht]; exact hH, by rw [ht]; exact hz⟩) hLo d_Me_copyInto_20
  · skip
    refine lv_if_eq (tgt := 20) hx hb d_Me_copyInto_5 (by decide) (fun hc_12 => absurd hc_12 (by decide)) (fun hc_12 => ?_)
    refine lv_aload_n hx hb d_Me_copyInto_8 rfl (lv_at hl 0 rfl) ?_
    refine hm_get (ci := 0) (v := .ref v_1) (C := R_Me) (T := F_Me) (N := 2) hx hb hts ig_Me hown hK hH F_m9 rfl 0 (by decide) (hts _ mw_28) (fun _ h9 => h9) rfl d_Me_copyInto_9 ?_
    refine lv_iload_n hx hb d_Me_copyInto_12 rfl (lv_at hl 2 rfl) ?_
    obtain ⟨g_13, F_v_1, c_14⟩ := TI_secs hT c_2
    obtain ⟨a_15, e_16, T_17⟩ := c_14 s9.toNatClampNeg (iCl (by omega) (by omega))
    refine hm_aald (v := .ref a_15) hx hb hK hH 5 F_v_1 (C := R_Se) rfl (iIn (by omega) (by omega)) (by rw [e_16]; rfl) d_Me_copyInto_13 ?_
    obtain ⟨v_18, v_19, v_21, F_a_15, c_20, c_22⟩ := TI_sec hT T_17
    refine hm_get (ci := 6) (v := va_rf v_21) (C := R_Se) (T := F_Se) (N := 3) hx hb hts ig_Se hown hK hH F_a_15 rfl 2 (by decide) (hts _ mw_30) (fun _ h9 => h9) rfl d_Me_copyInto_14 ?_
    rcases v_21 with _ | q_23
    · skip
      refine lv_ifnonnullN hx hb d_Me_copyInto_17 ?_
      exact W.vret hx hb hr (fun t9 ht hW => ⟨h, rfl, ⟨hT, hkf⟩, by rw [ht]; exact hH, by rw [ht]; exact hz⟩) hLo d_Me_copyInto_20
    · skip
      have T_24 := c_22 q_23 rfl
      refine lv_ifnonnull (tgt := 21) hx hb d_Me_copyInto_17 (by decide) ?_
      refine lv_iload_n hx hb d_Me_copyInto_21 rfl (lv_at hl 3 rfl) ?_
      refine lv_if_lt (tgt := 38) hx hb d_Me_copyInto_22 (by decide) (fun hc_25 => ?_) (fun hc_25 => ?_)
      · skip
        have ic_26 : l9.toInt < 0 := iLt hc_25
        exact W.vret hx hb hr (fun t9 ht hW => ⟨h, rfl, ⟨hT, hkf⟩, by rw [ht]; exact hH, by rw [ht]; exact hz⟩) hLo d_Me_copyInto_38
      · skip
        have ic_27 : 0 ≤ l9.toInt := iNl hc_25
        refine lv_iload_n hx hb d_Me_copyInto_25 rfl (lv_at hl 3 rfl) ?_
        refine lv_sipush (v := 2048) hx hb d_Me_copyInto_26 (by decide) ?_
        refine lv_icmp_gt (tgt := 38) hx hb d_Me_copyInto_29 (by decide) (fun hc_28 => ?_) (fun hc_28 => ?_)
        · skip
          have ic_29 : 2048 < l9.toInt := iLt hc_28
          have iu_30 : l9.toInt < 2147483648 := iUp _
          exact W.vret hx hb hr (fun t9 ht hW => ⟨h, rfl, ⟨hT, hkf⟩, by rw [ht]; exact hH, by rw [ht]; exact hz⟩) hLo d_Me_copyInto_38
        · skip
          have ic_31 : l9.toInt ≤ 2048 := iNl hc_28
          refine lv_iload_n hx hb d_Me_copyInto_32 rfl (lv_at hl 3 rfl) ?_
          refine lv_aload_n hx hb d_Me_copyInto_33 rfl (lv_at hl 1 rfl) ?_
          obtain ⟨g_32, F_b9, c_33⟩ := TI_byts hT T_b9
          have iln_34 : (nI (pgn f)).toInt = ((pgn f) : Nat) := nI_toInt (pgn_lt _)
          refine hm_alen (v := nI (pgn f)) hx hb hK hH 0 F_b9 (ty := .byte) rfl rfl d_Me_copyInto_34 ?_
          refine lv_icmp_le (tgt := 39) hx hb d_Me_copyInto_35 (by decide) (fun hc_35 => ?_) (fun hc_35 => ?_)
          · skip
            have ic_36 : l9.toInt ≤ (nI (pgn f)).toInt := iLe hc_35
            refine lv_aload_n hx hb d_Me_copyInto_39 rfl (lv_at hl 0 rfl) ?_
            refine hm_get (ci := 0) (v := .ref v_1) (C := R_Me) (T := F_Me) (N := 2) hx hb hts ig_Me hown hK hH F_m9 rfl 0 (by decide) (hts _ mw_28) (fun _ h9 => h9) rfl d_Me_copyInto_40 ?_
            refine lv_iload_n hx hb d_Me_copyInto_43 rfl (lv_at hl 2 rfl) ?_
            refine hm_aald (v := .ref a_15) hx hb hK hH 5 F_v_1 (C := R_Se) rfl (iIn (by omega) (by omega)) (by rw [e_16]; rfl) d_Me_copyInto_44 ?_
            refine hm_get (ci := 6) (v := .ref q_23) (C := R_Se) (T := F_Se) (N := 3) hx hb hts ig_Se hown hK hH F_a_15 rfl 2 (by decide) (hts _ mw_30) (fun _ h9 => h9) rfl d_Me_copyInto_45 ?_
            refine lv_iconst (v := 0) hx hb d_Me_copyInto_48 (by decide) ?_
            refine lv_aload_n hx hb d_Me_copyInto_49 rfl (lv_at hl 1 rfl) ?_
            refine lv_iconst (v := 0) hx hb d_Me_copyInto_50 (by decide) ?_
            refine lv_iload_n hx hb d_Me_copyInto_51 rfl (lv_at hl 3 rfl) ?_
            obtain ⟨hu0_q_23, g_37, hu1_q_23, hu2_q_23⟩ := T_24
            refine hm_copyb hx hb (hml.trans hl.1.symm) hown (hts _ mw_202) (hts _ mw_203) (hts _ mw_204) (hts _ mw_205) hK hH hLo 0 hu2_q_23 F_b9 rfl l9.toInt.toNat (i_nI (by omega)) (by omega) (by omega) (by omega) hu1_q_23 (Nat.le_of_ble_eq_true rfl) (Nat.le_of_ble_eq_true rfl) d_Me_copyInto_52 (fun H_38 locs hH z_39 hLo => ?_)
            have hz : s.heap.size ≤ H_38.size := by rw [z_39]; exact hz
            obtain ⟨h_40, e_41⟩ : ∃ z, z = hu h b9 (.inl ((t 0), (pgn f), .inl (va_cpy g_37 g_32 0 0 l9.toInt.toNat))) := ⟨_, rfl⟩
            have hH : hm D vwCl G h_40 H_38 := by rw [e_41]; exact hH
            have F_m9 : h_40 m9 = some (.inr (0, [.ref v_1, .int v_3])) := by rw [e_41, hu_n (tne T_m9 T_b9 (by decide))]; exact F_m9
            have F_v_1 : h_40 v_1 = some (.inl ((t 5), n, .inr (.inr (.inr (.inr g_13))))) := by rw [e_41, hu_n (tne c_2 T_b9 (by decide))]; exact F_v_1
            have F_a_15 : h_40 a_15 = some (.inr (6, [.int v_18, .int v_19, .ref q_23])) := by rw [e_41, hu_n (tne T_17 T_b9 (by decide))]; exact F_a_15
            have F_b9 : h_40 b9 = some (.inl ((t 0), (pgn f), .inl (va_cpy g_37 g_32 0 0 l9.toInt.toNat))) := by rw [e_41]; exact hu_s _ _ _
            have hT : TI τ t n h_40 := by rw [e_41]; exact TI_put hT T_b9 (by decide) ⟨_, rfl, (fitCp9 hu1_q_23 c_33)⟩
            have hkf : kf τ [(5, f)] [] h h_40 := by rw [e_41]; exact kf_put hkf T_b9 List.mem_cons_self
            have c_42 : ∀ q, (some q_23) = some q → isB τ t h_40 q := fun q hq => by rw [e_41]; exact isB_put (by rw [T_b9]; exact Nat.succ_ne_zero _) (c_22 q hq)
            exact W.vret hx hb hr (fun t9 ht hW => ⟨h_40, rfl, ⟨hT, hkf⟩, by rw [ht]; exact hH, by rw [ht]; exact hz⟩) hLo d_Me_copyInto_55
          · skip
            have ic_43 : (nI (pgn f)).toInt < l9.toInt := iNe hc_35
            have iu_44 : l9.toInt < 2147483648 := iUp _
            exact W.vret hx hb hr (fun t9 ht hW => ⟨h, rfl, ⟨hT, hkf⟩, by rw [ht]; exact hH, by rw [ht]; exact hz⟩) hLo d_Me_copyInto_38

set_option maxHeartbeats 4000000 in
set_option maxRecDepth 100000 in
theorem t_ffile (l : Launch) (D : va_G) (t : Nat → ClassId) (G : hG) (ak av : Nat → Nat) (h : hM) (τ : tM) (n f g : Nat) (p9 : Nat) (d9 : Nat) (c9 : Int32) (m9 : Nat) (hn : n ≤ 200) (hT : TI τ t n h) (T_p9 : τ p9 = (4, f)) (T_d9 : τ d9 = (10, g)) (T_m9 : τ m9 = (11, 0)) : Met l y_Pg_fillWithFile (.code y_Pg_fillWithFile b_Pg_fillWithFile 7 none :: lw_g) { frames := 2, cells := 0, slots := 0, locals := 103 } (hP (kE D t G ak av) D vwCl G h [.ref p9, .ref d9, .int c9, .ref m9]) (hQv D vwCl G (fun h' => TI τ t n h' ∧ kf τ [(5, f)] [] h h')) 0 0 G.P := by
  refine Met.ofW (cc := b_Pg_fillWithFile) (maxL := 7) (ret := none) (by decide) rfl ?_
  intro p e s m args below meth c s₁ Bd hml hv
  obtain ⟨ha, hE, hH⟩ := hv
  have hx := Bd.exec
  have hb := Bd.bytes
  have hr := Bd.returns
  have hts : ∀ w ∈ lw_g, w.before args s = true := fun w hw => atoms_spec (ws := (.code y_Pg_fillWithFile b_Pg_fillWithFile 7 none :: lw_g)) Bd.pre w (List.mem_cons_of_mem _ hw)
  have hown : s.vm.findClass R_Pg = some m.cls := findClass_of_methodNamed Bd.named
  have hlocks := Bd.notSynchronized
  have hK := hE.1
  have hH0 := hH
  have hLo : hLc G.P [] := hLc_nil
  have hz : s.heap.size ≤ s.heap.size := Nat.le_refl _
  have hl := lv_entry [.ref p9, .ref d9, .int c9, .ref m9] (n := 7) (Nat.le_of_ble_eq_true rfl)
  rw [show entryFrame m args 7 = F0 m 0 ((lg_sl [.ref p9, .ref d9, .int c9, .ref m9] ++ List.replicate (7 - (lg_sl [.ref p9, .ref d9, .int c9, .ref m9]).length) Slot.unset).toArray) [] from (by rw [ha]; exact lg_entry_eq m [.ref p9, .ref d9, .int c9, .ref m9] 7)]
  generalize (lg_sl [.ref p9, .ref d9, .int c9, .ref m9] ++ List.replicate (7 - (lg_sl [.ref p9, .ref d9, .int c9, .ref m9]).length) Slot.unset).toArray = ls at hl ⊢
  have hl : lv_has ls 7 [(0, .ref p9), (1, .ref d9), (2, .int c9), (3, .ref m9)] := hl
  have hkf : kf τ [(5, f)] [] h h := kf_rf
  refine lv_aload_n hx hb d_Pg_fillWithFile_0 rfl (lv_at hl 0 rfl) ?_
  obtain ⟨v_1, F_p9, c_2⟩ := TI_page hT T_p9
  refine hm_callv (va_runV (As := []) (b := p9) (rest := []) ⟨hx, hb, hml, hown, hts⟩ (t_clear l D t G ak av h τ n f p9  hn hT T_p9) ⟨cw9B 0 hts mw_81 mw_82 mw_77 rfl rfl (by decide +kernel) ⟨Nat.le_of_ble_eq_true rfl, Nat.le_of_ble_eq_true rfl⟩, hts _ mw_83, hts _ mw_84⟩ (hP_V (q := (R_Pg, F_Pg, 1)) kE_ok hE hK hH F_p9 rfl) rfl rfl hl.1 rfl (lv_room (Nat.le_of_ble_eq_true rfl)) d_Pg_fillWithFile_1 ⟨Nat.le_of_ble_eq_true rfl, Nat.le_of_ble_eq_true rfl⟩) hLo (fun h_3 H_4 locs hp_6 hH z_5 hLo => ?_)
  have hz : s.heap.size ≤ H_4.size := Nat.le_trans hz z_5
  have hT0 := hT
  obtain ⟨hT, kf_8⟩ := hp_6
  have F_p9 : h_3 p9 = some (.inr (3, [.ref v_1])) := kf_at kf_8 T_p9 (by decide) (tnc (by decide) tn0) nm0 F_p9
  have hkf : kf τ [(5, f)] [] h h_3 := kf_tr hkf kf_8 (List.forall_mem_cons.mpr ⟨List.mem_cons_self, List.forall_mem_nil _⟩) (List.forall_mem_nil _)
  refine lv_iload_n hx hb d_Pg_fillWithFile_4 rfl (lv_at hl 2 rfl) ?_
  refine lv_sipush (v := 2048) hx hb d_Pg_fillWithFile_5 (by decide) ?_
  refine lv_imul hx hb d_Pg_fillWithFile_8 ?_
  refine lv_topi (fun v_9 e_10 => ?_)
  refine lv_istore (lv' := [(4, .int v_9), (0, .ref p9), (1, .ref d9), (2, .int c9), (3, .ref m9)]) hx hb d_Pg_fillWithFile_9 hl (by decide) rfl (fun ls hl => ?_)
  refine lv_sipush (v := 2048) hx hb d_Pg_fillWithFile_11 (by decide) ?_
  refine lv_aload_n hx hb d_Pg_fillWithFile_14 rfl (lv_at hl 2 rfl) ?_
  obtain ⟨v_11, v_12, v_14, v_16, v_17, v_19, v_20, v_21, v_23, v_24, v_25, F_d9, c_13, c_15, c_18, c_22⟩ := TI_node hT T_d9
  refine hm_get (ci := 1) (v := .int v_19) (C := R_No) (T := F_No) (N := 11) hx hb hts ig_No hown hK hH F_d9 rfl 5 (by decide) (hts _ mw_185) (fun _ h9 => h9) rfl d_Pg_fillWithFile_15 ?_
  refine lv_iload hx hb d_Pg_fillWithFile_18 (lv_at hl 0 rfl) ?_
  refine lv_isub hx hb d_Pg_fillWithFile_20 ?_
  refine va_mmin (x := 2048) (y := v_19 - v_9) hx hb (hml.trans hl.1.symm) hown (hts _ mw_206) (hts _ mw_207) (hts _ mw_149) (hts _ mw_208) (Nat.le_of_ble_eq_true rfl) (Nat.le_of_ble_eq_true rfl) (Nat.le_of_ble_eq_true rfl) (Nat.le_of_ble_eq_true rfl) d_Pg_fillWithFile_21 ?_
  refine lv_topi (fun v_26 e_27 => ?_)
  refine lv_istore (lv' := [(5, .int v_26), (4, .int v_9), (0, .ref p9), (1, .ref d9), (2, .int c9), (3, .ref m9)]) hx hb d_Pg_fillWithFile_24 hl (by decide) rfl (fun ls hl => ?_)
  refine lv_aload_n hx hb d_Pg_fillWithFile_26 rfl (lv_at hl 3 rfl) ?_
  refine hm_get (ci := 1) (v := .int v_21) (C := R_No) (T := F_No) (N := 11) hx hb hts ig_No hown hK hH F_d9 rfl 7 (by decide) (hts _ mw_209) (fun _ h9 => h9) rfl d_Pg_fillWithFile_27 ?_
  refine lv_if_eq (tgt := 52) hx hb d_Pg_fillWithFile_30 (by decide) (fun hc_28 => ?_) (fun hc_28 => ?_)
  · skip
    have ic_29 : v_21.toInt = 0 := congrArg Int32.toInt hc_28
    refine lv_iconst (v := 0) hx hb d_Pg_fillWithFile_52 (by decide) ?_
    refine lv_istore (lv' := [(6, .int 0), (5, .int v_26), (4, .int v_9), (0, .ref p9), (1, .ref d9), (2, .int c9), (3, .ref m9)]) hx hb d_Pg_fillWithFile_53 hl (by decide) rfl (fun ls hl => ?_)
    refine hm_loop (fun k55 ls H locs hh55 => ∃ (i9 : Int32), k55 = mU i9 ∧ lv_has ls 7 [(0, .ref p9), (1, .ref d9), (2, .int c9), (3, .ref m9), (4, .int v_9), (5, .int v_26), (6, .int i9)] ∧ hm D vwCl G hh55 H ∧ s.heap.size ≤ H.size ∧ hLc G.P locs ∧ (TI τ t n hh55) ∧ (kf τ [(5, f)] [] h hh55) ∧ (0 ≤ i9.toInt)) ?_ (hh := h_3) ⟨0, rfl, (lv_sub hl [3, 4, 5, 6, 2, 1, 0] rfl), hH, hz, hLo, hT, hkf, (by decide)⟩
    rintro k55 ls H locs hh55 ⟨i9, hk55, hl, hH, hz, hLo, hT, hkf, I_i9⟩ ih55
    refine lv_iload hx hb d_Pg_fillWithFile_55 (lv_at hl 6 rfl) ?_
    refine lv_iload hx hb d_Pg_fillWithFile_57 (lv_at hl 5 rfl) ?_
    refine lv_icmp_ge (tgt := 83) hx hb d_Pg_fillWithFile_59 (by decide) (fun hc_30 => ?_) (fun hc_30 => ?_)
    · skip
      have ic_31 : v_26.toInt ≤ i9.toInt := iLe hc_30
      exact W.vret hx hb hr (fun t9 ht hW => ⟨hh55, rfl, ⟨hT, hkf⟩, by rw [ht]; exact hH, by rw [ht]; exact hz⟩) hLo d_Pg_fillWithFile_83
    · skip
      have ic_32 : i9.toInt < v_26.toInt := iNe hc_30
      have iu_33 : v_26.toInt < 2147483648 := iUp _
      refine lv_aload_n hx hb d_Pg_fillWithFile_62 rfl (lv_at hl 0 rfl) ?_
      refine lv_iload hx hb d_Pg_fillWithFile_63 (lv_at hl 6 rfl) ?_
      refine lv_aload_n hx hb d_Pg_fillWithFile_65 rfl (lv_at hl 1 rfl) ?_
      refine lv_iload hx hb d_Pg_fillWithFile_66 (lv_at hl 4 rfl) ?_
      refine lv_iload hx hb d_Pg_fillWithFile_68 (lv_at hl 6 rfl) ?_
      refine lv_iadd hx hb d_Pg_fillWithFile_70 ?_
      obtain ⟨v_34, v_35, v_37, v_39, v_40, v_42, v_43, v_44, v_46, v_47, v_48, F_d9, c_36, c_38, c_41, c_45⟩ := TI_node hT T_d9
      refine hm_callPi (va_runV (As := [.int (v_9 + i9)]) (b := d9) (rest := [.int i9, .ref p9]) ⟨hx, hb, hml, hown, hts⟩ (t_content l D t G ak av hh55 τ n g d9 (v_9 + i9)  hn hT T_d9) ⟨cw9B 1 hts mw_210 mw_211 mw_106 rfl rfl (by decide +kernel) ⟨Nat.le_of_ble_eq_true rfl, Nat.le_of_ble_eq_true rfl⟩, hts _ mw_212, hts _ mw_213⟩ (hP_V (q := (R_No, F_No, 11)) kE_ok hE hK hH F_d9 rfl) rfl rfl hl.1 rfl (lv_room (Nat.le_of_ble_eq_true rfl)) d_Pg_fillWithFile_71 ⟨Nat.le_of_ble_eq_true rfl, Nat.le_of_ble_eq_true rfl⟩) (fun r_49 h_50 H_51 hp_53  hH z_52 => ?_)
      have hz : s.heap.size ≤ H_51.size := Nat.le_trans hz z_52
      obtain rfl := hp_53
      obtain ⟨v_55, F_p9, c_56⟩ := TI_page hT T_p9
      refine hm_callv (va_runV (As := [.int i9, .int r_49]) (b := p9) (rest := []) ⟨hx, hb, hml, hown, hts⟩ (t_put l D t G ak av hh55 τ n f p9 i9 r_49  hn hT T_p9) ⟨cw9B 2 hts mw_76 mw_78 mw_77 rfl rfl (by decide +kernel) ⟨Nat.le_of_ble_eq_true rfl, Nat.le_of_ble_eq_true rfl⟩, hts _ mw_79, hts _ mw_80⟩ (hP_V (q := (R_Pg, F_Pg, 1)) kE_ok hE hK hH F_p9 rfl) rfl rfl hl.1 rfl (lv_room (Nat.le_of_ble_eq_true rfl)) d_Pg_fillWithFile_74 ⟨Nat.le_of_ble_eq_true rfl, Nat.le_of_ble_eq_true rfl⟩) hLo (fun h_57 H_58 locs hp_60 hH z_59 hLo => ?_)
      have hz : s.heap.size ≤ H_58.size := Nat.le_trans hz z_59
      have hT0 := hT
      obtain ⟨hT, kf_62⟩ := hp_60
      have F_d9 : h_57 d9 = some (.inr (1, [.int v_34, va_rf v_35, .int v_37, .long v_39, .int v_40, .int v_42, .int v_43, .int v_44, .int v_46, .int v_47, .int v_48])) := kf_at kf_62 T_d9 (by decide) (tnc (by decide) tn0) nm0 F_d9
      have F_p9 : h_57 p9 = some (.inr (3, [.ref v_55])) := kf_at kf_62 T_p9 (by decide) (tnc (by decide) tn0) nm0 F_p9
      have hkf : kf τ [(5, f)] [] h h_57 := kf_tr hkf kf_62 (List.forall_mem_cons.mpr ⟨List.mem_cons_self, List.forall_mem_nil _⟩) (List.forall_mem_nil _)
      obtain ⟨j_63, e_64⟩ : ∃ z : Int32, z = i9 + 1 := ⟨_, rfl⟩
      refine lv_iinc (v := j_63) (lv' := [(6, .int j_63), (0, .ref p9), (1, .ref d9), (2, .int c9), (3, .ref m9), (4, .int v_9), (5, .int v_26)]) hx hb d_Pg_fillWithFile_77 hl (k := 6) rfl e_64.symm (by decide) rfl (fun ls hl => ?_)
      refine lv_goto (tgt := 55) hx hb d_Pg_fillWithFile_80 (by decide) ?_
      have is_65 : j_63.toInt = i9.toInt + 1 := by rw [e_64]; exact iAddK 1 rfl (by omega) (by omega)
      exact ih55 (mU j_63) ls _ locs _ (by rw [hk55]; exact mU_lt (by omega)) ⟨j_63, rfl, (lv_sub hl [1, 2, 3, 4, 5, 6, 0] rfl), hH, hz, hLo, hT, hkf, (by omega)⟩
  · skip
    refine lv_aload_n hx hb d_Pg_fillWithFile_33 rfl (lv_at hl 5 rfl) ?_
    refine lv_aload_n hx hb d_Pg_fillWithFile_34 rfl (lv_at hl 2 rfl) ?_
    refine hm_get (ci := 3) (v := .ref v_1) (C := R_Pg) (T := F_Pg) (N := 1) hx hb hts ig_Pg hown hK hH F_p9 rfl 0 (by decide) (hts _ mw_69) (fun _ h9 => h9) rfl d_Pg_fillWithFile_35 ?_
    refine lv_aload_n hx hb d_Pg_fillWithFile_38 rfl (lv_at hl 3 rfl) ?_
    refine hm_get (ci := 1) (v := .int v_23) (C := R_No) (T := F_No) (N := 11) hx hb hts ig_No hown hK hH F_d9 rfl 8 (by decide) (hts _ mw_214) (fun _ h9 => h9) rfl d_Pg_fillWithFile_39 ?_
    refine lv_iload_n hx hb d_Pg_fillWithFile_42 rfl (lv_at hl 4 rfl) ?_
    refine lv_iadd hx hb d_Pg_fillWithFile_43 ?_
    refine lv_iload hx hb d_Pg_fillWithFile_44 (lv_at hl 0 rfl) ?_
    obtain ⟨v_66, v_68, F_m9, c_67⟩ := TI_med hT T_m9
    refine hm_callv (va_runV (As := [.ref v_1, .int (v_23 + c9), .int v_26]) (b := m9) (rest := []) ⟨hx, hb, hml, hown, hts⟩ (t_copyInto l D t G ak av h_3 τ n f m9 v_1 (v_23 + c9) v_26  hn hT T_m9 c_2) ⟨cw9B 3 hts mw_215 mw_216 mw_32 rfl rfl (by decide +kernel) ⟨Nat.le_of_ble_eq_true rfl, Nat.le_of_ble_eq_true rfl⟩, hts _ mw_217, hts _ mw_218⟩ (hP_V (q := (R_Me, F_Me, 2)) kE_ok hE hK hH F_m9 rfl) rfl rfl hl.1 rfl (lv_room (Nat.le_of_ble_eq_true rfl)) d_Pg_fillWithFile_46 ⟨Nat.le_of_ble_eq_true rfl, Nat.le_of_ble_eq_true rfl⟩) hLo (fun h_69 H_70 locs hp_72 hH z_71 hLo => ?_)
    have hz : s.heap.size ≤ H_70.size := Nat.le_trans hz z_71
    have hT0 := hT
    obtain ⟨hT, kf_74⟩ := hp_72
    have F_p9 : h_69 p9 = some (.inr (3, [.ref v_1])) := kf_at kf_74 T_p9 (by decide) (tnc (by decide) tn0) nm0 F_p9
    have F_d9 : h_69 d9 = some (.inr (1, [.int v_11, va_rf v_12, .int v_14, .long v_16, .int v_17, .int v_19, .int v_20, .int v_21, .int v_23, .int v_24, .int v_25])) := kf_at kf_74 T_d9 (by decide) (tnc (by decide) tn0) nm0 F_d9
    have F_m9 : h_69 m9 = some (.inr (0, [.ref v_66, .int v_68])) := kf_at kf_74 T_m9 (by decide) (tnc (by decide) tn0) nm0 F_m9
    have hkf : kf τ [(5, f)] [] h h_69 := kf_tr hkf kf_74 (List.forall_mem_cons.mpr ⟨List.mem_cons_self, List.forall_mem_nil _⟩) (List.forall_mem_nil _)
    refine lv_goto (tgt := 83) hx hb d_Pg_fillWithFile_49 (by decide) ?_
    exact W.vret hx hb hr (fun t9 ht hW => ⟨h_69, rfl, ⟨hT, hkf⟩, by rw [ht]; exact hH, by rw [ht]; exact hz⟩) hLo d_Pg_fillWithFile_83

set_option maxHeartbeats 4000000 in
set_option maxRecDepth 100000 in
theorem t_fpath8 (l : Launch) (D : va_G) (t : Nat → ClassId) (G : hG) (ak av : Nat → Nat) (h : hM) (τ : tM) (n f g : Nat) (p9 : Nat) (q9 : Nat) (c9 : Int32) (z9 : Int32) (hn : n ≤ 200) (hT : TI τ t n h) (T_p9 : τ p9 = (4, f)) (T_q9 : τ q9 = (8, g)) (Z_z9 : zb z9) : Met l y_Pg_fillWithPathTable (.code y_Pg_fillWithPathTable b_Pg_fillWithPathTable 7 (some .int) :: lw_g) { frames := 7, cells := 0, slots := 0, locals := 155 } (hP (kE D t G ak av) D vwCl G h [.ref p9, .ref q9, .int c9, .int z9]) (hQi D vwCl G (fun r h' => TI τ t n h' ∧ kf τ [(5, f), (10, g)] [] h h' ∧ knp τ g h h')) 0 0 G.P := by
  refine Met.ofW (cc := b_Pg_fillWithPathTable) (maxL := 7) (ret := (some .int)) (by decide) rfl ?_
  intro p e s m args below meth c s₁ Bd hml hv
  obtain ⟨ha, hE, hH⟩ := hv
  have hx := Bd.exec
  have hb := Bd.bytes
  have hr := Bd.returns
  have hts : ∀ w ∈ lw_g, w.before args s = true := fun w hw => atoms_spec (ws := (.code y_Pg_fillWithPathTable b_Pg_fillWithPathTable 7 (some .int) :: lw_g)) Bd.pre w (List.mem_cons_of_mem _ hw)
  have hown : s.vm.findClass R_Pg = some m.cls := findClass_of_methodNamed Bd.named
  have hlocks := Bd.notSynchronized
  have hK := hE.1
  have hH0 := hH
  have hLo : hLc G.P [] := hLc_nil
  have hz : s.heap.size ≤ s.heap.size := Nat.le_refl _
  have hl := lv_entry [.ref p9, .ref q9, .int c9, .int z9] (n := 7) (Nat.le_of_ble_eq_true rfl)
  rw [show entryFrame m args 7 = F0 m 0 ((lg_sl [.ref p9, .ref q9, .int c9, .int z9] ++ List.replicate (7 - (lg_sl [.ref p9, .ref q9, .int c9, .int z9]).length) Slot.unset).toArray) [] from (by rw [ha]; exact lg_entry_eq m [.ref p9, .ref q9, .int c9, .int z9] 7)]
  generalize (lg_sl [.ref p9, .ref q9, .int c9, .int z9] ++ List.replicate (7 - (lg_sl [.ref p9, .ref q9, .int c9, .int z9]).length) Slot.unset).toArray = ls at hl ⊢
  have hl : lv_has ls 7 [(0, .ref p9), (1, .ref q9), (2, .int c9), (3, .int z9)] := hl
  have hkf : kf τ [(5, f), (10, g)] [] h h := kf_rf
  have hnp_g : knp τ g h h := knp_rf
  refine lv_aload_n hx hb d_Pg_fillWithPathTable_0 rfl (lv_at hl 0 rfl) ?_
  obtain ⟨v_1, F_p9, c_2⟩ := TI_page hT T_p9
  refine hm_callv (va_runV (As := []) (b := p9) (rest := []) ⟨hx, hb, hml, hown, hts⟩ (t_clear l D t G ak av h τ n f p9  hn hT T_p9) ⟨cw9B 0 hts mw_81 mw_82 mw_77 rfl rfl (by decide +kernel) ⟨Nat.le_of_ble_eq_true rfl, Nat.le_of_ble_eq_true rfl⟩, hts _ mw_83, hts _ mw_84⟩ (hP_V (q := (R_Pg, F_Pg, 1)) kE_ok hE hK hH F_p9 rfl) rfl rfl hl.1 rfl (lv_room (Nat.le_of_ble_eq_true rfl)) d_Pg_fillWithPathTable_1 ⟨Nat.le_of_ble_eq_true rfl, Nat.le_of_ble_eq_true rfl⟩) hLo (fun h_3 H_4 locs hp_6 hH z_5 hLo => ?_)
  have hz : s.heap.size ≤ H_4.size := Nat.le_trans hz z_5
  have hT0 := hT
  obtain ⟨hT, kf_8⟩ := hp_6
  have F_p9 : h_3 p9 = some (.inr (3, [.ref v_1])) := kf_at kf_8 T_p9 (by decide) (tnc (by decide) tn0) nm0 F_p9
  have hnp_g : knp τ g h h_3 := knp_kf hnp_g kf_8 (tnc (by decide) tn0) (List.forall_mem_nil _)
  have hkf : kf τ [(5, f), (10, g)] [] h h_3 := kf_tr hkf kf_8 (List.forall_mem_cons.mpr ⟨List.mem_cons_self, List.forall_mem_nil _⟩) (List.forall_mem_nil _)
  refine lv_iconst (v := 0) hx hb d_Pg_fillWithPathTable_4 (by decide) ?_
  refine lv_istore (lv' := [(4, .int 0), (0, .ref p9), (1, .ref q9), (2, .int c9), (3, .int z9)]) hx hb d_Pg_fillWithPathTable_5 hl (by decide) rfl (fun ls hl => ?_)
  refine lv_iconst (v := 0) hx hb d_Pg_fillWithPathTable_7 (by decide) ?_
  refine lv_istore (lv' := [(5, .int 0), (4, .int 0), (0, .ref p9), (1, .ref q9), (2, .int c9), (3, .int z9)]) hx hb d_Pg_fillWithPathTable_8 hl (by decide) rfl (fun ls hl => ?_)
  refine lv_iconst (v := 0) hx hb d_Pg_fillWithPathTable_10 (by decide) ?_
  refine lv_istore (lv' := [(6, .int 0), (5, .int 0), (4, .int 0), (0, .ref p9), (1, .ref q9), (2, .int c9), (3, .int z9)]) hx hb d_Pg_fillWithPathTable_11 hl (by decide) rfl (fun ls hl => ?_)
  refine hm_loop (fun k13 ls H locs hh13 => ∃ (at9 : Int32) (ds9 : Int32) (i9 : Int32), k13 = mU i9 ∧ lv_has ls 7 [(0, .ref p9), (1, .ref q9), (2, .int c9), (3, .int z9), (4, .int at9), (5, .int ds9), (6, .int i9)] ∧ hm D vwCl G hh13 H ∧ s.heap.size ≤ H.size ∧ hLc G.P locs ∧ (TI τ t n hh13) ∧ (kf τ [(5, f), (10, g)] [] h hh13) ∧ (knp τ g h hh13) ∧ (0 ≤ i9.toInt)) ?_ (hh := h_3) ⟨0, 0, 0, rfl, (lv_sub hl [3, 4, 5, 6, 2, 1, 0] rfl), hH, hz, hLo, hT, hkf, hnp_g, (by decide)⟩
  rintro k13 ls H locs hh13 ⟨at9, ds9, i9, hk13, hl, hH, hz, hLo, hT, hkf, hnp_g, I_i9⟩ ih13
  refine lv_iload hx hb d_Pg_fillWithPathTable_13 (lv_at hl 6 rfl) ?_
  refine lv_iload_n hx hb d_Pg_fillWithPathTable_15 rfl (lv_at hl 2 rfl) ?_
  refine lv_icmp_ge (tgt := 67) hx hb d_Pg_fillWithPathTable_16 (by decide) (fun hc_9 => ?_) (fun hc_9 => ?_)
  · skip
    have ic_10 : c9.toInt ≤ i9.toInt := iLe hc_9
    refine lv_iload hx hb d_Pg_fillWithPathTable_67 (lv_at hl 4 rfl) ?_
    exact W.iret (v := at9) hx hb hr (fun t9 ht hW => ⟨at9, hh13, rfl, ⟨hT, hkf, hnp_g⟩, by rw [ht]; exact hH, by rw [ht]; exact hz⟩) hLo d_Pg_fillWithPathTable_69
  · skip
    have ic_11 : i9.toInt < c9.toInt := iNe hc_9
    have iu_12 : c9.toInt < 2147483648 := iUp _
    refine lv_iload hx hb d_Pg_fillWithPathTable_19 (lv_at hl 6 rfl) ?_
    refine lv_aload_n hx hb d_Pg_fillWithPathTable_21 rfl (lv_at hl 1 rfl) ?_
    obtain ⟨g_13, F_q9, c_14, c_15⟩ := TI_slo hT T_q9
    refine hm_alen (v := 30) hx hb hK hH 4 F_q9 (ty := (.object "WriteOnceDisc$Node")) rfl (show Int32.ofNat 30 = 30 by decide) d_Pg_fillWithPathTable_22 ?_
    refine lv_icmp_ge (tgt := 67) hx hb d_Pg_fillWithPathTable_23 (by decide) (fun hc_16 => ?_) (fun hc_16 => ?_)
    · skip
      have ic_17 : 30 ≤ i9.toInt := iLe hc_16
      refine lv_iload hx hb d_Pg_fillWithPathTable_67 (lv_at hl 4 rfl) ?_
      exact W.iret (v := at9) hx hb hr (fun t9 ht hW => ⟨at9, hh13, rfl, ⟨hT, hkf, hnp_g⟩, by rw [ht]; exact hH, by rw [ht]; exact hz⟩) hLo d_Pg_fillWithPathTable_69
    · skip
      have ic_18 : i9.toInt < 30 := iNe hc_16
      refine lv_aload_n hx hb d_Pg_fillWithPathTable_26 rfl (lv_at hl 1 rfl) ?_
      refine lv_iload hx hb d_Pg_fillWithPathTable_27 (lv_at hl 6 rfl) ?_
      obtain ⟨a_19, e_20, T_21⟩ := c_14 i9.toNatClampNeg (iCl (by omega) (by omega))
      refine hm_aald (v := .ref a_19) hx hb hK hH 4 F_q9 (C := R_No) rfl (iIn (by omega) (by omega)) (by rw [e_20]; rfl) d_Pg_fillWithPathTable_29 ?_
      obtain ⟨v_22, v_23, v_25, v_27, v_28, v_30, v_31, v_32, v_34, v_35, v_36, F_a_19, c_24, c_26, c_29, c_33⟩ := TI_node hT T_21
      refine hm_get (ci := 1) (v := .int v_25) (C := R_No) (T := F_No) (N := 11) hx hb hts ig_No hown hK hH F_a_19 rfl 2 (by decide) (hts _ mw_184) (fun _ h9 => h9) rfl d_Pg_fillWithPathTable_30 ?_
      refine lv_if_eq (tgt := 61) hx hb d_Pg_fillWithPathTable_33 (by decide) (fun hc_37 => ?_) (fun hc_37 => ?_)
      · skip
        have ic_38 : v_25.toInt = 0 := congrArg Int32.toInt hc_37
        obtain ⟨j_39, e_40⟩ : ∃ z : Int32, z = i9 + 1 := ⟨_, rfl⟩
        refine lv_iinc (v := j_39) (lv' := [(6, .int j_39), (0, .ref p9), (1, .ref q9), (2, .int c9), (3, .int z9), (4, .int at9), (5, .int ds9)]) hx hb d_Pg_fillWithPathTable_61 hl (k := 6) rfl e_40.symm (by decide) rfl (fun ls hl => ?_)
        refine lv_goto (tgt := 13) hx hb d_Pg_fillWithPathTable_64 (by decide) ?_
        have is_41 : j_39.toInt = i9.toInt + 1 := by rw [e_40]; exact iAddK 1 rfl (by omega) (by omega)
        exact ih13 (mU j_39) ls _ locs _ (by rw [hk13]; exact mU_lt (by omega)) ⟨at9, ds9, j_39, rfl, (lv_sub hl [1, 2, 3, 4, 5, 6, 0] rfl), hH, hz, hLo, hT, hkf, hnp_g, (by omega)⟩
      · skip
        obtain ⟨j_42, e_43⟩ : ∃ z : Int32, z = ds9 + 1 := ⟨_, rfl⟩
        refine lv_iinc (v := j_42) (lv' := [(5, .int j_42), (0, .ref p9), (1, .ref q9), (2, .int c9), (3, .int z9), (4, .int at9), (6, .int i9)]) hx hb d_Pg_fillWithPathTable_36 hl (k := 5) rfl e_43.symm (by decide) rfl (fun ls hl => ?_)
        refine lv_aload_n hx hb d_Pg_fillWithPathTable_39 rfl (lv_at hl 2 rfl) ?_
        refine lv_iload hx hb d_Pg_fillWithPathTable_40 (lv_at hl 6 rfl) ?_
        refine hm_aald (v := .ref a_19) hx hb hK hH 4 F_q9 (C := R_No) rfl (iIn (by omega) (by omega)) (by rw [e_20]; rfl) d_Pg_fillWithPathTable_42 ?_
        refine lv_iload hx hb d_Pg_fillWithPathTable_43 (lv_at hl 0 rfl) ?_
        refine hm_put (ci := 1) (v := .int j_42) (ty := .int) (C := R_No) (T := F_No) (N := 11) hx hb hts ig_No t_No tk_No nm_No hown hK hH hLo F_a_19 rfl 10 (by decide) (hts _ mw_192) (fun _ h9 => h9) rfl (by decide +kernel) rfl rfl (Nat.le_of_ble_eq_true rfl) d_Pg_fillWithPathTable_45 (fun H_44 locs hH z_45 hLo => ?_)
        have hz : s.heap.size ≤ H_44.size := by rw [z_45]; exact hz
        obtain ⟨h_46, e_47⟩ : ∃ z, z = hu hh13 a_19 (.inr (1, [.int v_22, va_rf v_23, .int v_25, .long v_27, .int v_28, .int v_30, .int v_31, .int v_32, .int v_34, .int v_35, .int j_42])) := ⟨_, rfl⟩
        have hH : hm D vwCl G h_46 H_44 := by rw [e_47]; exact hH
        have F_q9 : h_46 q9 = some (.inl ((t 4), 30, .inr (.inr (.inr (.inr g_13))))) := by rw [e_47, hu_n (tne T_q9 T_21 (by decide))]; exact F_q9
        have hOld := F_a_19
        have F_a_19 : h_46 a_19 = some (.inr (1, [.int v_22, va_rf v_23, .int v_25, .long v_27, .int v_28, .int v_30, .int v_31, .int v_32, .int v_34, .int v_35, .int j_42])) := by rw [e_47]; exact hu_s _ _ _
        have hT : TI τ t n h_46 := by rw [e_47]; exact TI_put hT T_21 (by decide) ⟨v_22, v_23, v_25, v_27, v_28, v_30, v_31, v_32, v_34, v_35, j_42, rfl, c_24, c_26, c_29, c_33⟩
        have hkf : kf τ [(5, f), (10, g)] [] h h_46 := by rw [e_47]; exact kf_put hkf T_21 (List.mem_cons_of_mem _ List.mem_cons_self)
        have hnp_g : knp τ g h h_46 := by rw [e_47]; exact knp_put hnp_g hOld
        refine lv_aload_n hx hb d_Pg_fillWithPathTable_48 rfl (lv_at hl 1 rfl) ?_
        refine lv_iload hx hb d_Pg_fillWithPathTable_49 (lv_at hl 5 rfl) ?_
        refine lv_aload_n hx hb d_Pg_fillWithPathTable_51 rfl (lv_at hl 2 rfl) ?_
        refine lv_iload hx hb d_Pg_fillWithPathTable_52 (lv_at hl 6 rfl) ?_
        refine hm_aald (v := .ref a_19) hx hb hK hH 4 F_q9 (C := R_No) rfl (iIn (by omega) (by omega)) (by rw [e_20]; rfl) d_Pg_fillWithPathTable_54 ?_
        refine lv_iload_n hx hb d_Pg_fillWithPathTable_55 rfl (lv_at hl 4 rfl) ?_
        obtain ⟨v_48, F_p9, c_49⟩ := TI_page hT T_p9
        refine hm_calli (va_runV (As := [.int at9, .ref a_19, .int z9]) (b := p9) (rest := []) ⟨hx, hb, hml, hown, hts⟩ (t_putPath l D t G ak av h_46 τ n f g p9 at9 a_19 z9  hn hT T_p9 T_21 Z_z9) ⟨cw9B 3 hts mw_219 mw_220 mw_77 rfl rfl (by decide +kernel) ⟨Nat.le_of_ble_eq_true rfl, Nat.le_of_ble_eq_true rfl⟩, hts _ mw_221, hts _ mw_222⟩ (hP_V (q := (R_Pg, F_Pg, 1)) kE_ok hE hK hH F_p9 rfl) rfl rfl hl.1 rfl (lv_room (Nat.le_of_ble_eq_true rfl)) d_Pg_fillWithPathTable_56 ⟨Nat.le_of_ble_eq_true rfl, Nat.le_of_ble_eq_true rfl⟩) hLo (fun r_50 h_51 H_52 locs hp_54 hH z_53 hLo => ?_)
        have hz : s.heap.size ≤ H_52.size := Nat.le_trans hz z_53
        have hT0 := hT
        obtain ⟨hT, kf_56⟩ := hp_54
        have F_q9 : h_51 q9 = some (.inl ((t 4), 30, .inr (.inr (.inr (.inr g_13))))) := kf_at kf_56 T_q9 (by decide) (tnc (by decide) tn0) nm0 F_q9
        have F_a_19 : h_51 a_19 = some (.inr (1, [.int v_22, va_rf v_23, .int v_25, .long v_27, .int v_28, .int v_30, .int v_31, .int v_32, .int v_34, .int v_35, .int j_42])) := kf_at kf_56 T_21 (by decide) (tnc (by decide) tn0) nm0 F_a_19
        have F_p9 : h_51 p9 = some (.inr (3, [.ref v_48])) := kf_at kf_56 T_p9 (by decide) (tnc (by decide) tn0) nm0 F_p9
        have hnp_g : knp τ g h h_51 := knp_kf hnp_g kf_56 (tnc (by decide) tn0) (List.forall_mem_nil _)
        have hkf : kf τ [(5, f), (10, g)] [] h h_51 := kf_tr hkf kf_56 (List.forall_mem_cons.mpr ⟨List.mem_cons_self, List.forall_mem_nil _⟩) (List.forall_mem_nil _)
        refine lv_istore (lv' := [(4, .int r_50), (5, .int j_42), (0, .ref p9), (1, .ref q9), (2, .int c9), (3, .int z9), (6, .int i9)]) hx hb d_Pg_fillWithPathTable_59 hl (by decide) rfl (fun ls hl => ?_)
        obtain ⟨j_57, e_58⟩ : ∃ z : Int32, z = i9 + 1 := ⟨_, rfl⟩
        refine lv_iinc (v := j_57) (lv' := [(6, .int j_57), (4, .int r_50), (5, .int j_42), (0, .ref p9), (1, .ref q9), (2, .int c9), (3, .int z9)]) hx hb d_Pg_fillWithPathTable_61 hl (k := 6) rfl e_58.symm (by decide) rfl (fun ls hl => ?_)
        refine lv_goto (tgt := 13) hx hb d_Pg_fillWithPathTable_64 (by decide) ?_
        have is_59 : j_57.toInt = i9.toInt + 1 := by rw [e_58]; exact iAddK 1 rfl (by omega) (by omega)
        exact ih13 (mU j_57) ls _ locs _ (by rw [hk13]; exact mU_lt (by omega)) ⟨r_50, j_42, j_57, rfl, (lv_sub hl [3, 4, 5, 6, 1, 2, 0] rfl), hH, hz, hLo, hT, hkf, hnp_g, (by omega)⟩

set_option maxHeartbeats 4000000 in
set_option maxRecDepth 100000 in
theorem t_fpath9 (l : Launch) (D : va_G) (t : Nat → ClassId) (G : hG) (ak av : Nat → Nat) (h : hM) (τ : tM) (n f g : Nat) (p9 : Nat) (q9 : Nat) (c9 : Int32) (z9 : Int32) (hn : n ≤ 200) (hT : TI τ t n h) (T_p9 : τ p9 = (4, f)) (T_q9 : τ q9 = (9, g)) (Z_z9 : zb z9) : Met l y_Pg_fillWithPathTable (.code y_Pg_fillWithPathTable b_Pg_fillWithPathTable 7 (some .int) :: lw_g) { frames := 7, cells := 0, slots := 0, locals := 155 } (hP (kE D t G ak av) D vwCl G h [.ref p9, .ref q9, .int c9, .int z9]) (hQi D vwCl G (fun r h' => TI τ t n h' ∧ kf τ [(5, f), (10, g)] [] h h' ∧ knp τ g h h')) 0 0 G.P := by
  refine Met.ofW (cc := b_Pg_fillWithPathTable) (maxL := 7) (ret := (some .int)) (by decide) rfl ?_
  intro p e s m args below meth c s₁ Bd hml hv
  obtain ⟨ha, hE, hH⟩ := hv
  have hx := Bd.exec
  have hb := Bd.bytes
  have hr := Bd.returns
  have hts : ∀ w ∈ lw_g, w.before args s = true := fun w hw => atoms_spec (ws := (.code y_Pg_fillWithPathTable b_Pg_fillWithPathTable 7 (some .int) :: lw_g)) Bd.pre w (List.mem_cons_of_mem _ hw)
  have hown : s.vm.findClass R_Pg = some m.cls := findClass_of_methodNamed Bd.named
  have hlocks := Bd.notSynchronized
  have hK := hE.1
  have hH0 := hH
  have hLo : hLc G.P [] := hLc_nil
  have hz : s.heap.size ≤ s.heap.size := Nat.le_refl _
  have hl := lv_entry [.ref p9, .ref q9, .int c9, .int z9] (n := 7) (Nat.le_of_ble_eq_true rfl)
  rw [show entryFrame m args 7 = F0 m 0 ((lg_sl [.ref p9, .ref q9, .int c9, .int z9] ++ List.replicate (7 - (lg_sl [.ref p9, .ref q9, .int c9, .int z9]).length) Slot.unset).toArray) [] from (by rw [ha]; exact lg_entry_eq m [.ref p9, .ref q9, .int c9, .int z9] 7)]
  generalize (lg_sl [.ref p9, .ref q9, .int c9, .int z9] ++ List.replicate (7 - (lg_sl [.ref p9, .ref q9, .int c9, .int z9]).length) Slot.unset).toArray = ls at hl ⊢
  have hl : lv_has ls 7 [(0, .ref p9), (1, .ref q9), (2, .int c9), (3, .int z9)] := hl
  have hkf : kf τ [(5, f), (10, g)] [] h h := kf_rf
  have hnp_g : knp τ g h h := knp_rf
  refine lv_aload_n hx hb d_Pg_fillWithPathTable_0 rfl (lv_at hl 0 rfl) ?_
  obtain ⟨v_1, F_p9, c_2⟩ := TI_page hT T_p9
  refine hm_callv (va_runV (As := []) (b := p9) (rest := []) ⟨hx, hb, hml, hown, hts⟩ (t_clear l D t G ak av h τ n f p9  hn hT T_p9) ⟨cw9B 0 hts mw_81 mw_82 mw_77 rfl rfl (by decide +kernel) ⟨Nat.le_of_ble_eq_true rfl, Nat.le_of_ble_eq_true rfl⟩, hts _ mw_83, hts _ mw_84⟩ (hP_V (q := (R_Pg, F_Pg, 1)) kE_ok hE hK hH F_p9 rfl) rfl rfl hl.1 rfl (lv_room (Nat.le_of_ble_eq_true rfl)) d_Pg_fillWithPathTable_1 ⟨Nat.le_of_ble_eq_true rfl, Nat.le_of_ble_eq_true rfl⟩) hLo (fun h_3 H_4 locs hp_6 hH z_5 hLo => ?_)
  have hz : s.heap.size ≤ H_4.size := Nat.le_trans hz z_5
  have hT0 := hT
  obtain ⟨hT, kf_8⟩ := hp_6
  have F_p9 : h_3 p9 = some (.inr (3, [.ref v_1])) := kf_at kf_8 T_p9 (by decide) (tnc (by decide) tn0) nm0 F_p9
  have hnp_g : knp τ g h h_3 := knp_kf hnp_g kf_8 (tnc (by decide) tn0) (List.forall_mem_nil _)
  have hkf : kf τ [(5, f), (10, g)] [] h h_3 := kf_tr hkf kf_8 (List.forall_mem_cons.mpr ⟨List.mem_cons_self, List.forall_mem_nil _⟩) (List.forall_mem_nil _)
  refine lv_iconst (v := 0) hx hb d_Pg_fillWithPathTable_4 (by decide) ?_
  refine lv_istore (lv' := [(4, .int 0), (0, .ref p9), (1, .ref q9), (2, .int c9), (3, .int z9)]) hx hb d_Pg_fillWithPathTable_5 hl (by decide) rfl (fun ls hl => ?_)
  refine lv_iconst (v := 0) hx hb d_Pg_fillWithPathTable_7 (by decide) ?_
  refine lv_istore (lv' := [(5, .int 0), (4, .int 0), (0, .ref p9), (1, .ref q9), (2, .int c9), (3, .int z9)]) hx hb d_Pg_fillWithPathTable_8 hl (by decide) rfl (fun ls hl => ?_)
  refine lv_iconst (v := 0) hx hb d_Pg_fillWithPathTable_10 (by decide) ?_
  refine lv_istore (lv' := [(6, .int 0), (5, .int 0), (4, .int 0), (0, .ref p9), (1, .ref q9), (2, .int c9), (3, .int z9)]) hx hb d_Pg_fillWithPathTable_11 hl (by decide) rfl (fun ls hl => ?_)
  refine hm_loop (fun k13 ls H locs hh13 => ∃ (at9 : Int32) (ds9 : Int32) (i9 : Int32), k13 = mU i9 ∧ lv_has ls 7 [(0, .ref p9), (1, .ref q9), (2, .int c9), (3, .int z9), (4, .int at9), (5, .int ds9), (6, .int i9)] ∧ hm D vwCl G hh13 H ∧ s.heap.size ≤ H.size ∧ hLc G.P locs ∧ (TI τ t n hh13) ∧ (kf τ [(5, f), (10, g)] [] h hh13) ∧ (knp τ g h hh13) ∧ (0 ≤ i9.toInt)) ?_ (hh := h_3) ⟨0, 0, 0, rfl, (lv_sub hl [3, 4, 5, 6, 2, 1, 0] rfl), hH, hz, hLo, hT, hkf, hnp_g, (by decide)⟩
  rintro k13 ls H locs hh13 ⟨at9, ds9, i9, hk13, hl, hH, hz, hLo, hT, hkf, hnp_g, I_i9⟩ ih13
  refine lv_iload hx hb d_Pg_fillWithPathTable_13 (lv_at hl 6 rfl) ?_
  refine lv_iload_n hx hb d_Pg_fillWithPathTable_15 rfl (lv_at hl 2 rfl) ?_
  refine lv_icmp_ge (tgt := 67) hx hb d_Pg_fillWithPathTable_16 (by decide) (fun hc_9 => ?_) (fun hc_9 => ?_)
  · skip
    have ic_10 : c9.toInt ≤ i9.toInt := iLe hc_9
    refine lv_iload hx hb d_Pg_fillWithPathTable_67 (lv_at hl 4 rfl) ?_
    exact W.iret (v := at9) hx hb hr (fun t9 ht hW => ⟨at9, hh13, rfl, ⟨hT, hkf, hnp_g⟩, by rw [ht]; exact hH, by rw [ht]; exact hz⟩) hLo d_Pg_fillWithPathTable_69
  · skip
    have ic_11 : i9.toInt < c9.toInt := iNe hc_9
    have iu_12 : c9.toInt < 2147483648 := iUp _
    refine lv_iload hx hb d_Pg_fillWithPathTable_19 (lv_at hl 6 rfl) ?_
    refine lv_aload_n hx hb d_Pg_fillWithPathTable_21 rfl (lv_at hl 1 rfl) ?_
    obtain ⟨g_13, F_q9, c_14⟩ := TI_ord hT T_q9
    refine hm_alen (v := 30) hx hb hK hH 4 F_q9 (ty := (.object "WriteOnceDisc$Node")) rfl (show Int32.ofNat 30 = 30 by decide) d_Pg_fillWithPathTable_22 ?_
    refine lv_icmp_ge (tgt := 67) hx hb d_Pg_fillWithPathTable_23 (by decide) (fun hc_15 => ?_) (fun hc_15 => ?_)
    · skip
      have ic_16 : 30 ≤ i9.toInt := iLe hc_15
      refine lv_iload hx hb d_Pg_fillWithPathTable_67 (lv_at hl 4 rfl) ?_
      exact W.iret (v := at9) hx hb hr (fun t9 ht hW => ⟨at9, hh13, rfl, ⟨hT, hkf, hnp_g⟩, by rw [ht]; exact hH, by rw [ht]; exact hz⟩) hLo d_Pg_fillWithPathTable_69
    · skip
      have ic_17 : i9.toInt < 30 := iNe hc_15
      refine lv_aload_n hx hb d_Pg_fillWithPathTable_26 rfl (lv_at hl 1 rfl) ?_
      refine lv_iload hx hb d_Pg_fillWithPathTable_27 (lv_at hl 6 rfl) ?_
      obtain ⟨a_18, e_19, T_20⟩ := c_14 i9.toNatClampNeg (iCl (by omega) (by omega))
      refine hm_aald (v := .ref a_18) hx hb hK hH 4 F_q9 (C := R_No) rfl (iIn (by omega) (by omega)) (by rw [e_19]; rfl) d_Pg_fillWithPathTable_29 ?_
      obtain ⟨v_21, v_22, v_24, v_26, v_27, v_29, v_30, v_31, v_33, v_34, v_35, F_a_18, c_23, c_25, c_28, c_32⟩ := TI_node hT T_20
      refine hm_get (ci := 1) (v := .int v_24) (C := R_No) (T := F_No) (N := 11) hx hb hts ig_No hown hK hH F_a_18 rfl 2 (by decide) (hts _ mw_184) (fun _ h9 => h9) rfl d_Pg_fillWithPathTable_30 ?_
      refine lv_if_eq (tgt := 61) hx hb d_Pg_fillWithPathTable_33 (by decide) (fun hc_36 => ?_) (fun hc_36 => ?_)
      · skip
        have ic_37 : v_24.toInt = 0 := congrArg Int32.toInt hc_36
        obtain ⟨j_38, e_39⟩ : ∃ z : Int32, z = i9 + 1 := ⟨_, rfl⟩
        refine lv_iinc (v := j_38) (lv' := [(6, .int j_38), (0, .ref p9), (1, .ref q9), (2, .int c9), (3, .int z9), (4, .int at9), (5, .int ds9)]) hx hb d_Pg_fillWithPathTable_61 hl (k := 6) rfl e_39.symm (by decide) rfl (fun ls hl => ?_)
        refine lv_goto (tgt := 13) hx hb d_Pg_fillWithPathTable_64 (by decide) ?_
        have is_40 : j_38.toInt = i9.toInt + 1 := by rw [e_39]; exact iAddK 1 rfl (by omega) (by omega)
        exact ih13 (mU j_38) ls _ locs _ (by rw [hk13]; exact mU_lt (by omega)) ⟨at9, ds9, j_38, rfl, (lv_sub hl [1, 2, 3, 4, 5, 6, 0] rfl), hH, hz, hLo, hT, hkf, hnp_g, (by omega)⟩
      · skip
        obtain ⟨j_41, e_42⟩ : ∃ z : Int32, z = ds9 + 1 := ⟨_, rfl⟩
        refine lv_iinc (v := j_41) (lv' := [(5, .int j_41), (0, .ref p9), (1, .ref q9), (2, .int c9), (3, .int z9), (4, .int at9), (6, .int i9)]) hx hb d_Pg_fillWithPathTable_36 hl (k := 5) rfl e_42.symm (by decide) rfl (fun ls hl => ?_)
        refine lv_aload_n hx hb d_Pg_fillWithPathTable_39 rfl (lv_at hl 2 rfl) ?_
        refine lv_iload hx hb d_Pg_fillWithPathTable_40 (lv_at hl 6 rfl) ?_
        refine hm_aald (v := .ref a_18) hx hb hK hH 4 F_q9 (C := R_No) rfl (iIn (by omega) (by omega)) (by rw [e_19]; rfl) d_Pg_fillWithPathTable_42 ?_
        refine lv_iload hx hb d_Pg_fillWithPathTable_43 (lv_at hl 0 rfl) ?_
        refine hm_put (ci := 1) (v := .int j_41) (ty := .int) (C := R_No) (T := F_No) (N := 11) hx hb hts ig_No t_No tk_No nm_No hown hK hH hLo F_a_18 rfl 10 (by decide) (hts _ mw_192) (fun _ h9 => h9) rfl (by decide +kernel) rfl rfl (Nat.le_of_ble_eq_true rfl) d_Pg_fillWithPathTable_45 (fun H_43 locs hH z_44 hLo => ?_)
        have hz : s.heap.size ≤ H_43.size := by rw [z_44]; exact hz
        obtain ⟨h_45, e_46⟩ : ∃ z, z = hu hh13 a_18 (.inr (1, [.int v_21, va_rf v_22, .int v_24, .long v_26, .int v_27, .int v_29, .int v_30, .int v_31, .int v_33, .int v_34, .int j_41])) := ⟨_, rfl⟩
        have hH : hm D vwCl G h_45 H_43 := by rw [e_46]; exact hH
        have F_q9 : h_45 q9 = some (.inl ((t 4), 30, .inr (.inr (.inr (.inr g_13))))) := by rw [e_46, hu_n (tne T_q9 T_20 (by decide))]; exact F_q9
        have hOld := F_a_18
        have F_a_18 : h_45 a_18 = some (.inr (1, [.int v_21, va_rf v_22, .int v_24, .long v_26, .int v_27, .int v_29, .int v_30, .int v_31, .int v_33, .int v_34, .int j_41])) := by rw [e_46]; exact hu_s _ _ _
        have hT : TI τ t n h_45 := by rw [e_46]; exact TI_put hT T_20 (by decide) ⟨v_21, v_22, v_24, v_26, v_27, v_29, v_30, v_31, v_33, v_34, j_41, rfl, c_23, c_25, c_28, c_32⟩
        have hkf : kf τ [(5, f), (10, g)] [] h h_45 := by rw [e_46]; exact kf_put hkf T_20 (List.mem_cons_of_mem _ List.mem_cons_self)
        have hnp_g : knp τ g h h_45 := by rw [e_46]; exact knp_put hnp_g hOld
        refine lv_aload_n hx hb d_Pg_fillWithPathTable_48 rfl (lv_at hl 1 rfl) ?_
        refine lv_iload hx hb d_Pg_fillWithPathTable_49 (lv_at hl 5 rfl) ?_
        refine lv_aload_n hx hb d_Pg_fillWithPathTable_51 rfl (lv_at hl 2 rfl) ?_
        refine lv_iload hx hb d_Pg_fillWithPathTable_52 (lv_at hl 6 rfl) ?_
        refine hm_aald (v := .ref a_18) hx hb hK hH 4 F_q9 (C := R_No) rfl (iIn (by omega) (by omega)) (by rw [e_19]; rfl) d_Pg_fillWithPathTable_54 ?_
        refine lv_iload_n hx hb d_Pg_fillWithPathTable_55 rfl (lv_at hl 4 rfl) ?_
        obtain ⟨v_47, F_p9, c_48⟩ := TI_page hT T_p9
        refine hm_calli (va_runV (As := [.int at9, .ref a_18, .int z9]) (b := p9) (rest := []) ⟨hx, hb, hml, hown, hts⟩ (t_putPath l D t G ak av h_45 τ n f g p9 at9 a_18 z9  hn hT T_p9 T_20 Z_z9) ⟨cw9B 3 hts mw_219 mw_220 mw_77 rfl rfl (by decide +kernel) ⟨Nat.le_of_ble_eq_true rfl, Nat.le_of_ble_eq_true rfl⟩, hts _ mw_221, hts _ mw_222⟩ (hP_V (q := (R_Pg, F_Pg, 1)) kE_ok hE hK hH F_p9 rfl) rfl rfl hl.1 rfl (lv_room (Nat.le_of_ble_eq_true rfl)) d_Pg_fillWithPathTable_56 ⟨Nat.le_of_ble_eq_true rfl, Nat.le_of_ble_eq_true rfl⟩) hLo (fun r_49 h_50 H_51 locs hp_53 hH z_52 hLo => ?_)
        have hz : s.heap.size ≤ H_51.size := Nat.le_trans hz z_52
        have hT0 := hT
        obtain ⟨hT, kf_55⟩ := hp_53
        have F_q9 : h_50 q9 = some (.inl ((t 4), 30, .inr (.inr (.inr (.inr g_13))))) := kf_at kf_55 T_q9 (by decide) (tnc (by decide) tn0) nm0 F_q9
        have F_a_18 : h_50 a_18 = some (.inr (1, [.int v_21, va_rf v_22, .int v_24, .long v_26, .int v_27, .int v_29, .int v_30, .int v_31, .int v_33, .int v_34, .int j_41])) := kf_at kf_55 T_20 (by decide) (tnc (by decide) tn0) nm0 F_a_18
        have F_p9 : h_50 p9 = some (.inr (3, [.ref v_47])) := kf_at kf_55 T_p9 (by decide) (tnc (by decide) tn0) nm0 F_p9
        have hnp_g : knp τ g h h_50 := knp_kf hnp_g kf_55 (tnc (by decide) tn0) (List.forall_mem_nil _)
        have hkf : kf τ [(5, f), (10, g)] [] h h_50 := kf_tr hkf kf_55 (List.forall_mem_cons.mpr ⟨List.mem_cons_self, List.forall_mem_nil _⟩) (List.forall_mem_nil _)
        refine lv_istore (lv' := [(4, .int r_49), (5, .int j_41), (0, .ref p9), (1, .ref q9), (2, .int c9), (3, .int z9), (6, .int i9)]) hx hb d_Pg_fillWithPathTable_59 hl (by decide) rfl (fun ls hl => ?_)
        obtain ⟨j_56, e_57⟩ : ∃ z : Int32, z = i9 + 1 := ⟨_, rfl⟩
        refine lv_iinc (v := j_56) (lv' := [(6, .int j_56), (4, .int r_49), (5, .int j_41), (0, .ref p9), (1, .ref q9), (2, .int c9), (3, .int z9)]) hx hb d_Pg_fillWithPathTable_61 hl (k := 6) rfl e_57.symm (by decide) rfl (fun ls hl => ?_)
        refine lv_goto (tgt := 13) hx hb d_Pg_fillWithPathTable_64 (by decide) ?_
        have is_58 : j_56.toInt = i9.toInt + 1 := by rw [e_57]; exact iAddK 1 rfl (by omega) (by omega)
        exact ih13 (mU j_56) ls _ locs _ (by rw [hk13]; exact mU_lt (by omega)) ⟨r_49, j_41, j_56, rfl, (lv_sub hl [3, 4, 5, 6, 1, 2, 0] rfl), hH, hz, hLo, hT, hkf, hnp_g, (by omega)⟩
