set_option maxRecDepth 100000 in
theorem mw_440 : Cond.fieldLink R_Mo 125 "WriteOnceDiscModel" "lost" "Z" ∈ lw_g := lw_gin (List.mem_append_right _ (List.mem_of_getElem? (i := 923) rfl)) (by decide +kernel)
set_option maxRecDepth 100000 in
theorem mw_441 : Cond.code y_Mo_told b_Mo_told 6 (some .long) ∈ lw_g := lw_gin (List.mem_append_right _ (List.mem_of_getElem? (i := 1068) rfl)) (by decide +kernel)
set_option maxRecDepth 100000 in
theorem mw_442 : Cond.methodLink R_Mo 135 y_Mo_told ∈ lw_g := lw_gin (List.mem_append_right _ (List.mem_of_getElem? (i := 1066) rfl)) (by decide +kernel)
set_option maxRecDepth 100000 in
theorem mw_443 : Cond.static y_Mo_told ∈ lw_g := lw_gin (List.mem_append_right _ (List.mem_of_getElem? (i := 1067) rfl)) (by decide +kernel)
set_option maxRecDepth 100000 in
theorem mw_444 : Cond.code y_Mo_isNode b_Mo_isNode 2 (some .boolean) ∈ lw_g := lw_gin (List.mem_append_right _ (List.mem_of_getElem? (i := 1076) rfl)) (by decide +kernel)
set_option maxRecDepth 100000 in
theorem mw_445 : Cond.methodLink R_Mo 139 y_Mo_isNode ∈ lw_g := lw_gin (List.mem_append_right _ (List.mem_of_getElem? (i := 1073) rfl)) (by decide +kernel)
set_option maxRecDepth 100000 in
theorem mw_446 : Cond.instanceMethod y_Mo_isNode ∈ lw_g := lw_gin (List.mem_append_right _ (List.mem_of_getElem? (i := 1075) rfl)) (by decide +kernel)
set_option maxRecDepth 100000 in
theorem mw_447 : Cond.selects R_Mo y_Mo_isNode y_Mo_isNode ∈ lw_g := lw_gin (List.mem_append_left _ (List.mem_of_getElem? (i := 29) rfl)) (by decide +kernel)
set_option maxRecDepth 100000 in
theorem mw_448 : Cond.code y_Mo_depthOf b_Mo_depthOf 4 (some .int) ∈ lw_g := lw_gin (List.mem_append_right _ (List.mem_of_getElem? (i := 1080) rfl)) (by decide +kernel)
set_option maxRecDepth 100000 in
theorem mw_449 : Cond.methodLink R_Mo 142 y_Mo_depthOf ∈ lw_g := lw_gin (List.mem_append_right _ (List.mem_of_getElem? (i := 1077) rfl)) (by decide +kernel)
set_option maxRecDepth 100000 in
theorem mw_450 : Cond.instanceMethod y_Mo_depthOf ∈ lw_g := lw_gin (List.mem_append_right _ (List.mem_of_getElem? (i := 1079) rfl)) (by decide +kernel)
set_option maxRecDepth 100000 in
theorem mw_451 : Cond.selects R_Mo y_Mo_depthOf y_Mo_depthOf ∈ lw_g := lw_gin (List.mem_append_left _ (List.mem_of_getElem? (i := 30) rfl)) (by decide +kernel)
set_option maxRecDepth 100000 in
theorem mw_452 : Cond.code y_Mo_namedIn b_Mo_namedIn 5 (some .int) ∈ lw_g := lw_gin (List.mem_append_right _ (List.mem_of_getElem? (i := 1084) rfl)) (by decide +kernel)
set_option maxRecDepth 100000 in
theorem mw_453 : Cond.methodLink R_Mo 146 y_Mo_namedIn ∈ lw_g := lw_gin (List.mem_append_right _ (List.mem_of_getElem? (i := 1081) rfl)) (by decide +kernel)
set_option maxRecDepth 100000 in
theorem mw_454 : Cond.instanceMethod y_Mo_namedIn ∈ lw_g := lw_gin (List.mem_append_right _ (List.mem_of_getElem? (i := 1083) rfl)) (by decide +kernel)
set_option maxRecDepth 100000 in
theorem mw_455 : Cond.selects R_Mo y_Mo_namedIn y_Mo_namedIn ∈ lw_g := lw_gin (List.mem_append_left _ (List.mem_of_getElem? (i := 31) rfl)) (by decide +kernel)
set_option maxRecDepth 100000 in
theorem mw_456 : Cond.code y_Mo_alive b_Mo_alive 3 (some .int) ∈ lw_g := lw_gin (List.mem_append_right _ (List.mem_of_getElem? (i := 1088) rfl)) (by decide +kernel)
set_option maxRecDepth 100000 in
theorem mw_457 : Cond.methodLink R_Mo 150 y_Mo_alive ∈ lw_g := lw_gin (List.mem_append_right _ (List.mem_of_getElem? (i := 1085) rfl)) (by decide +kernel)
set_option maxRecDepth 100000 in
theorem mw_458 : Cond.instanceMethod y_Mo_alive ∈ lw_g := lw_gin (List.mem_append_right _ (List.mem_of_getElem? (i := 1087) rfl)) (by decide +kernel)
set_option maxRecDepth 100000 in
theorem mw_459 : Cond.selects R_Mo y_Mo_alive y_Mo_alive ∈ lw_g := lw_gin (List.mem_append_left _ (List.mem_of_getElem? (i := 32) rfl)) (by decide +kernel)
set_option maxRecDepth 100000 in
theorem mw_460 : Cond.code y_Mo_add b_Mo_add 11 (some .int) ∈ lw_g := lw_gin (List.mem_append_right _ (List.mem_of_getElem? (i := 1065) rfl)) (by decide +kernel)
set_option maxRecDepth 100000 in
theorem mw_461 : Cond.methodLink R_Mo 154 y_Mo_add ∈ lw_g := lw_gin (List.mem_append_right _ (List.mem_of_getElem? (i := 1062) rfl)) (by decide +kernel)
set_option maxRecDepth 100000 in
theorem mw_462 : Cond.instanceMethod y_Mo_add ∈ lw_g := lw_gin (List.mem_append_right _ (List.mem_of_getElem? (i := 1064) rfl)) (by decide +kernel)
set_option maxRecDepth 100000 in
theorem mw_463 : Cond.selects R_Mo y_Mo_add y_Mo_add ∈ lw_g := lw_gin (List.mem_append_left _ (List.mem_of_getElem? (i := 28) rfl)) (by decide +kernel)
set_option maxRecDepth 100000 in
theorem mw_464 : Cond.code y_Mo_isContent b_Mo_isContent 2 (some .boolean) ∈ lw_g := lw_gin (List.mem_append_right _ (List.mem_of_getElem? (i := 1095) rfl)) (by decide +kernel)
set_option maxRecDepth 100000 in
theorem mw_465 : Cond.methodLink R_Mo 158 y_Mo_isContent ∈ lw_g := lw_gin (List.mem_append_right _ (List.mem_of_getElem? (i := 1093) rfl)) (by decide +kernel)
set_option maxRecDepth 100000 in
theorem mw_466 : Cond.static y_Mo_isContent ∈ lw_g := lw_gin (List.mem_append_right _ (List.mem_of_getElem? (i := 1094) rfl)) (by decide +kernel)
theorem d_Mo_add_0 : decode b_Mo_add 0 = .ok (.aload_n 0, 1) := by decide +kernel
theorem d_Mo_add_1 : decode b_Mo_add 1 = .ok (.getfield 125, 3) := by decide +kernel
theorem d_Mo_add_4 : decode b_Mo_add 4 = .ok (.ifCond .eq 6, 3) := by decide +kernel
theorem d_Mo_add_10 : decode b_Mo_add 10 = .ok (.lload_n 2, 1) := by decide +kernel
theorem d_Mo_add_11 : decode b_Mo_add 11 = .ok (.invokestatic 135, 3) := by decide +kernel
theorem d_Mo_add_14 : decode b_Mo_add 14 = .ok (.lstore 8, 2) := by decide +kernel
theorem d_Mo_add_16 : decode b_Mo_add 16 = .ok (.iload 7, 2) := by decide +kernel
theorem d_Mo_add_18 : decode b_Mo_add 18 = .ok (.ifCond .eq 44, 3) := by decide +kernel
theorem d_Mo_add_62 : decode b_Mo_add 62 = .ok (.bipush (-2), 2) := by decide +kernel
theorem d_Mo_add_64 : decode b_Mo_add 64 = .ok (.ireturn, 1) := by decide +kernel
theorem d_Mo_add_21 : decode b_Mo_add 21 = .ok (.aload_n 0, 1) := by decide +kernel
theorem d_Mo_add_22 : decode b_Mo_add 22 = .ok (.iload_n 1, 1) := by decide +kernel
theorem d_Mo_add_23 : decode b_Mo_add 23 = .ok (.invokevirtual 139, 3) := by decide +kernel
theorem d_Mo_add_26 : decode b_Mo_add 26 = .ok (.ifCond .eq 36, 3) := by decide +kernel
theorem d_Mo_add_29 : decode b_Mo_add 29 = .ok (.aload_n 0, 1) := by decide +kernel
theorem d_Mo_add_30 : decode b_Mo_add 30 = .ok (.getfield 27, 3) := by decide +kernel
theorem d_Mo_add_33 : decode b_Mo_add 33 = .ok (.iload_n 1, 1) := by decide +kernel
theorem d_Mo_add_34 : decode b_Mo_add 34 = .ok (.baload, 1) := by decide +kernel
theorem d_Mo_add_35 : decode b_Mo_add 35 = .ok (.ifCond .eq 27, 3) := by decide +kernel
theorem d_Mo_add_38 : decode b_Mo_add 38 = .ok (.lload 8, 2) := by decide +kernel
theorem d_Mo_add_40 : decode b_Mo_add 40 = .ok (.lconst 0, 1) := by decide +kernel
theorem d_Mo_add_41 : decode b_Mo_add 41 = .ok (.lcmp, 1) := by decide +kernel
theorem d_Mo_add_42 : decode b_Mo_add 42 = .ok (.ifCond .eq 20, 3) := by decide +kernel
theorem d_Mo_add_45 : decode b_Mo_add 45 = .ok (.iload 4, 2) := by decide +kernel
theorem d_Mo_add_47 : decode b_Mo_add 47 = .ok (.ifCond .eq 18, 3) := by decide +kernel
theorem d_Mo_add_50 : decode b_Mo_add 50 = .ok (.aload_n 0, 1) := by decide +kernel
theorem d_Mo_add_51 : decode b_Mo_add 51 = .ok (.iload_n 1, 1) := by decide +kernel
theorem d_Mo_add_52 : decode b_Mo_add 52 = .ok (.invokevirtual 142, 3) := by decide +kernel
theorem d_Mo_add_55 : decode b_Mo_add 55 = .ok (.iconst 1, 1) := by decide +kernel
theorem d_Mo_add_56 : decode b_Mo_add 56 = .ok (.iadd, 1) := by decide +kernel
theorem d_Mo_add_57 : decode b_Mo_add 57 = .ok (.bipush 6, 2) := by decide +kernel
theorem d_Mo_add_59 : decode b_Mo_add 59 = .ok (.if_icmp .le 6, 3) := by decide +kernel
theorem d_Mo_add_65 : decode b_Mo_add 65 = .ok (.aload_n 0, 1) := by decide +kernel
theorem d_Mo_add_66 : decode b_Mo_add 66 = .ok (.iload_n 1, 1) := by decide +kernel
theorem d_Mo_add_67 : decode b_Mo_add 67 = .ok (.lload 8, 2) := by decide +kernel
theorem d_Mo_add_69 : decode b_Mo_add 69 = .ok (.invokevirtual 146, 3) := by decide +kernel
theorem d_Mo_add_72 : decode b_Mo_add 72 = .ok (.ifCond .lt 6, 3) := by decide +kernel
theorem d_Mo_add_78 : decode b_Mo_add 78 = .ok (.aload_n 0, 1) := by decide +kernel
theorem d_Mo_add_79 : decode b_Mo_add 79 = .ok (.invokevirtual 150, 3) := by decide +kernel
theorem d_Mo_add_82 : decode b_Mo_add 82 = .ok (.bipush 30, 2) := by decide +kernel
theorem d_Mo_add_84 : decode b_Mo_add 84 = .ok (.if_icmp .ne 6, 3) := by decide +kernel
theorem d_Mo_add_90 : decode b_Mo_add 90 = .ok (.aload_n 0, 1) := by decide +kernel
theorem d_Mo_add_91 : decode b_Mo_add 91 = .ok (.getfield 112, 3) := by decide +kernel
theorem d_Mo_add_94 : decode b_Mo_add 94 = .ok (.istore 10, 2) := by decide +kernel
theorem d_Mo_add_96 : decode b_Mo_add 96 = .ok (.aload_n 0, 1) := by decide +kernel
theorem d_Mo_add_97 : decode b_Mo_add 97 = .ok (.dup, 1) := by decide +kernel
theorem d_Mo_add_98 : decode b_Mo_add 98 = .ok (.getfield 112, 3) := by decide +kernel
theorem d_Mo_add_101 : decode b_Mo_add 101 = .ok (.iconst 1, 1) := by decide +kernel
theorem d_Mo_add_102 : decode b_Mo_add 102 = .ok (.iadd, 1) := by decide +kernel
theorem d_Mo_add_103 : decode b_Mo_add 103 = .ok (.putfield 112, 3) := by decide +kernel
theorem d_Mo_add_106 : decode b_Mo_add 106 = .ok (.aload_n 0, 1) := by decide +kernel
theorem d_Mo_add_107 : decode b_Mo_add 107 = .ok (.getfield 24, 3) := by decide +kernel
theorem d_Mo_add_110 : decode b_Mo_add 110 = .ok (.iload 10, 2) := by decide +kernel
theorem d_Mo_add_112 : decode b_Mo_add 112 = .ok (.iconst 1, 1) := by decide +kernel
theorem d_Mo_add_113 : decode b_Mo_add 113 = .ok (.bastore, 1) := by decide +kernel
theorem d_Mo_add_114 : decode b_Mo_add 114 = .ok (.aload_n 0, 1) := by decide +kernel
theorem d_Mo_add_115 : decode b_Mo_add 115 = .ok (.getfield 27, 3) := by decide +kernel
theorem d_Mo_add_118 : decode b_Mo_add 118 = .ok (.iload 10, 2) := by decide +kernel
theorem d_Mo_add_120 : decode b_Mo_add 120 = .ok (.iload 4, 2) := by decide +kernel
theorem d_Mo_add_122 : decode b_Mo_add 122 = .ok (.bastore, 1) := by decide +kernel
theorem d_Mo_add_123 : decode b_Mo_add 123 = .ok (.aload_n 0, 1) := by decide +kernel
theorem d_Mo_add_124 : decode b_Mo_add 124 = .ok (.getfield 30, 3) := by decide +kernel
theorem d_Mo_add_127 : decode b_Mo_add 127 = .ok (.iload 10, 2) := by decide +kernel
theorem d_Mo_add_129 : decode b_Mo_add 129 = .ok (.iload_n 1, 1) := by decide +kernel
theorem d_Mo_add_130 : decode b_Mo_add 130 = .ok (.iastore, 1) := by decide +kernel
theorem d_Mo_add_131 : decode b_Mo_add 131 = .ok (.aload_n 0, 1) := by decide +kernel
theorem d_Mo_add_132 : decode b_Mo_add 132 = .ok (.getfield 34, 3) := by decide +kernel
theorem d_Mo_add_135 : decode b_Mo_add 135 = .ok (.iload 10, 2) := by decide +kernel
theorem d_Mo_add_137 : decode b_Mo_add 137 = .ok (.lload 8, 2) := by decide +kernel
theorem d_Mo_add_139 : decode b_Mo_add 139 = .ok (.lastore, 1) := by decide +kernel
theorem d_Mo_add_140 : decode b_Mo_add 140 = .ok (.aload_n 0, 1) := by decide +kernel
theorem d_Mo_add_141 : decode b_Mo_add 141 = .ok (.getfield 38, 3) := by decide +kernel
theorem d_Mo_add_144 : decode b_Mo_add 144 = .ok (.iload 10, 2) := by decide +kernel
theorem d_Mo_add_146 : decode b_Mo_add 146 = .ok (.iload 5, 2) := by decide +kernel
theorem d_Mo_add_148 : decode b_Mo_add 148 = .ok (.iastore, 1) := by decide +kernel
theorem d_Mo_add_149 : decode b_Mo_add 149 = .ok (.aload_n 0, 1) := by decide +kernel
theorem d_Mo_add_150 : decode b_Mo_add 150 = .ok (.getfield 41, 3) := by decide +kernel
theorem d_Mo_add_153 : decode b_Mo_add 153 = .ok (.iload 10, 2) := by decide +kernel
theorem d_Mo_add_155 : decode b_Mo_add 155 = .ok (.iload 6, 2) := by decide +kernel
theorem d_Mo_add_157 : decode b_Mo_add 157 = .ok (.iastore, 1) := by decide +kernel
theorem d_Mo_add_158 : decode b_Mo_add 158 = .ok (.aload_n 0, 1) := by decide +kernel
theorem d_Mo_add_159 : decode b_Mo_add 159 = .ok (.getfield 44, 3) := by decide +kernel
theorem d_Mo_add_162 : decode b_Mo_add 162 = .ok (.iload 10, 2) := by decide +kernel
theorem d_Mo_add_164 : decode b_Mo_add 164 = .ok (.iconst 0, 1) := by decide +kernel
theorem d_Mo_add_165 : decode b_Mo_add 165 = .ok (.bastore, 1) := by decide +kernel
theorem d_Mo_add_166 : decode b_Mo_add 166 = .ok (.aload_n 0, 1) := by decide +kernel
theorem d_Mo_add_167 : decode b_Mo_add 167 = .ok (.getfield 47, 3) := by decide +kernel
theorem d_Mo_add_170 : decode b_Mo_add 170 = .ok (.iload 10, 2) := by decide +kernel
theorem d_Mo_add_172 : decode b_Mo_add 172 = .ok (.iconst 0, 1) := by decide +kernel
theorem d_Mo_add_173 : decode b_Mo_add 173 = .ok (.iastore, 1) := by decide +kernel
theorem d_Mo_add_174 : decode b_Mo_add 174 = .ok (.iload 10, 2) := by decide +kernel
theorem d_Mo_add_176 : decode b_Mo_add 176 = .ok (.ireturn, 1) := by decide +kernel
theorem d_Mo_directory_0 : decode b_Mo_directory 0 = .ok (.aload_n 0, 1) := by decide +kernel
theorem d_Mo_directory_1 : decode b_Mo_directory 1 = .ok (.iconst 0, 1) := by decide +kernel
theorem d_Mo_directory_2 : decode b_Mo_directory 2 = .ok (.putfield 109, 3) := by decide +kernel
theorem d_Mo_directory_5 : decode b_Mo_directory 5 = .ok (.aload_n 0, 1) := by decide +kernel
theorem d_Mo_directory_6 : decode b_Mo_directory 6 = .ok (.iload_n 1, 1) := by decide +kernel
theorem d_Mo_directory_7 : decode b_Mo_directory 7 = .ok (.lload_n 2, 1) := by decide +kernel
theorem d_Mo_directory_8 : decode b_Mo_directory 8 = .ok (.iconst 1, 1) := by decide +kernel
theorem d_Mo_directory_9 : decode b_Mo_directory 9 = .ok (.iconst 0, 1) := by decide +kernel
theorem d_Mo_directory_10 : decode b_Mo_directory 10 = .ok (.iconst 0, 1) := by decide +kernel
theorem d_Mo_directory_11 : decode b_Mo_directory 11 = .ok (.iconst 1, 1) := by decide +kernel
theorem d_Mo_directory_12 : decode b_Mo_directory 12 = .ok (.invokevirtual 154, 3) := by decide +kernel
theorem d_Mo_directory_15 : decode b_Mo_directory 15 = .ok (.ireturn, 1) := by decide +kernel
theorem d_Mo_file_0 : decode b_Mo_file 0 = .ok (.aload_n 0, 1) := by decide +kernel
theorem d_Mo_file_1 : decode b_Mo_file 1 = .ok (.iconst 0, 1) := by decide +kernel
theorem d_Mo_file_2 : decode b_Mo_file 2 = .ok (.putfield 109, 3) := by decide +kernel
theorem d_Mo_file_5 : decode b_Mo_file 5 = .ok (.aload_n 0, 1) := by decide +kernel
theorem d_Mo_file_6 : decode b_Mo_file 6 = .ok (.iload_n 1, 1) := by decide +kernel
theorem d_Mo_file_7 : decode b_Mo_file 7 = .ok (.lload_n 2, 1) := by decide +kernel
theorem d_Mo_file_8 : decode b_Mo_file 8 = .ok (.iconst 0, 1) := by decide +kernel
theorem d_Mo_file_9 : decode b_Mo_file 9 = .ok (.iload 4, 2) := by decide +kernel
theorem d_Mo_file_11 : decode b_Mo_file 11 = .ok (.iload 5, 2) := by decide +kernel
theorem d_Mo_file_13 : decode b_Mo_file 13 = .ok (.iload 4, 2) := by decide +kernel
theorem d_Mo_file_15 : decode b_Mo_file 15 = .ok (.iload 5, 2) := by decide +kernel
theorem d_Mo_file_17 : decode b_Mo_file 17 = .ok (.invokestatic 158, 3) := by decide +kernel
theorem d_Mo_file_20 : decode b_Mo_file 20 = .ok (.invokevirtual 154, 3) := by decide +kernel
theorem d_Mo_file_23 : decode b_Mo_file 23 = .ok (.ireturn, 1) := by decide +kernel
set_option maxHeartbeats 4000000 in
set_option maxRecDepth 100000 in
theorem c_m_add1 (l : Launch) (D : va_G) (t : Nat → ClassId) (G : hG) (ak av : Nat → Nat) (h : hM) (mo n aBy aSt aDe aPa aIt aId aPr aNa aSi aSe aIw aEx aOl aPl aTa aAt aLo aS1 aS2 aS3 aS4 aS5 aS6 aO1 aO2 aO3 aO4 aO5 : Nat) (gIt gId gPr gSi gSe gIw gEx : Nat → Int32) (gNa : Nat → Int64) (d9 sz sd ri : Int32) (wo : Int64) (f_m : h mo = some (.inr (9, [.int 0, .int (nI n), .int 0, .ref aBy, .ref aSt, .ref aDe, .int 0, .int (-1), .int 0, .ref aPa, .int 1, .ref aIt, .ref aId, .ref aPr, .ref aNa, .ref aSi, .ref aSe, .ref aIw, .ref aEx, .ref aOl, .int 0, .ref aPl, .int 0, .int 0, .ref aTa, .ref aAt, .ref aLo, .int 0, .int 0, .ref aS1, .ref aS2, .ref aS3, .ref aS4, .ref aS5, .ref aS6, .int 0, .ref aO1, .ref aO2, .ref aO3, .ref aO4, .ref aO5]))) (f_aIt : h aIt = some (.inl ((t 1), 700, .inl gIt))) (f_aId : h aId = some (.inl ((t 1), 700, .inl gId))) (f_aPr : h aPr = some (.inl ((t 2), 700, .inl gPr))) (f_aNa : h aNa = some (.inl ((t 3), 700, .inr (.inl gNa)))) (f_aSi : h aSi = some (.inl ((t 2), 700, .inl gSi))) (f_aSe : h aSe = some (.inl ((t 2), 700, .inl gSe))) (f_aIw : h aIw = some (.inl ((t 1), 700, .inl gIw))) (f_aEx : h aEx = some (.inl ((t 2), 700, .inl gEx))) (zIt : gIt 0 = 1) (zId : gId 0 = 1) (ne_aIt_aId : aIt ≠ aId) (ne_aIt_aPr : aIt ≠ aPr) (ne_aIt_aSi : aIt ≠ aSi) (ne_aIt_aSe : aIt ≠ aSe) (ne_aIt_aEx : aIt ≠ aEx) (ne_aId_aPr : aId ≠ aPr) (ne_aId_aSi : aId ≠ aSi) (ne_aId_aSe : aId ≠ aSe) (ne_aId_aEx : aId ≠ aEx) (ne_aPr_aSi : aPr ≠ aSi) (ne_aPr_aSe : aPr ≠ aSe) (ne_aPr_aEx : aPr ≠ aEx) (ne_aSi_aSe : aSi ≠ aSe) (ne_aSi_aEx : aSi ≠ aEx) (ne_aSe_aEx : aSe ≠ aEx) (ne_aIt_aIw : aIt ≠ aIw) (ne_aId_aIw : aId ≠ aIw) (ne_aPr_aIw : aPr ≠ aIw) (ne_aSi_aIw : aSi ≠ aIw) (ne_aSe_aIw : aSe ≠ aIw) (ne_aIw_aEx : aIw ≠ aEx) : Met l y_Mo_add (.code y_Mo_add b_Mo_add 11 (some .int) :: lw_g) { frames := 2, cells := 0, slots := 0, locals := 45 } (hP (kE D t G ak av) D vwCl G h [.ref mo, .int d9, .long wo, .int 1, .int sz, .int sd, .int ri]) (hQi D vwCl G (fun r h' => (r = -2 ∧ ¬ (d9 = 0 ∧ tlV wo ≠ 0 ∧ ri ≠ 0)) ∨ (r = 1 ∧ d9 = 0 ∧ tlV wo ≠ 0 ∧ ri ≠ 0))) 0 0 G.P := by
  refine Met.ofW (cc := b_Mo_add) (maxL := 11) (ret := (some .int)) (by decide) rfl ?_
  intro p e s m args below meth c s₁ Bd hml hv
  obtain ⟨ha, hE, hH⟩ := hv
  have hx := Bd.exec
  have hb := Bd.bytes
  have hr := Bd.returns
  have hts : ∀ w ∈ lw_g, w.before args s = true := fun w hw => atoms_spec (ws := (.code y_Mo_add b_Mo_add 11 (some .int) :: lw_g)) Bd.pre w (List.mem_cons_of_mem _ hw)
  have hown : s.vm.findClass R_Mo = some m.cls := findClass_of_methodNamed Bd.named
  have hlocks := Bd.notSynchronized
  have hK := hE.1
  have hH0 := hH
  have hLo : hLc G.P [] := hLc_nil
  have hz : s.heap.size ≤ s.heap.size := Nat.le_refl _
  have hkp : kp [] h h := kp_rf
  have hl := lv_entry [.ref mo, .int d9, .long wo, .int 1, .int sz, .int sd, .int ri] (n := 11) (Nat.le_of_ble_eq_true rfl)
  rw [show entryFrame m args 11 = F0 m 0 ((lg_sl [.ref mo, .int d9, .long wo, .int 1, .int sz, .int sd, .int ri] ++ List.replicate (11 - (lg_sl [.ref mo, .int d9, .long wo, .int 1, .int sz, .int sd, .int ri]).length) Slot.unset).toArray) [] from (by rw [ha]; exact lg_entry_eq m [.ref mo, .int d9, .long wo, .int 1, .int sz, .int sd, .int ri] 11)]
  generalize (lg_sl [.ref mo, .int d9, .long wo, .int 1, .int sz, .int sd, .int ri] ++ List.replicate (11 - (lg_sl [.ref mo, .int d9, .long wo, .int 1, .int sz, .int sd, .int ri]).length) Slot.unset).toArray = ls at hl ⊢
  have hl : lv_has ls 11 [(0, .ref mo), (1, .int d9), (2, .long wo), (4, .int 1), (5, .int sz), (6, .int sd), (7, .int ri)] := hl
  refine lv_aload_n hx hb d_Mo_add_0 rfl (lv_at hl 0 rfl) ?_
  refine hm_get (ci := 9) (v := .int 0) (C := R_Mo) (T := F_Mo) (N := 41) hx hb hts ig_Mo hown hK hH f_m rfl 6 (by decide) (hts _ mw_440) (fun _ h9 => h9) rfl d_Mo_add_1 ?_
  refine lv_if_eq (tgt := 10) hx hb d_Mo_add_4 (by decide) (fun hc1 => ?_) (fun hc1 => absurd rfl hc1)
  refine lv_lload_n hx hb d_Mo_add_10 rfl (lv_at hl 2 rfl) ?_
  refine hm_calll (va_runS (As := [.long wo]) (rest := []) ⟨hx, hb, hml, hown, hts⟩ (c_m_told l D t G ak av h wo) ⟨cw9B 1 hts mw_441 mw_442 mw_428 rfl rfl (by decide +kernel) ⟨Nat.le_of_ble_eq_true rfl, Nat.le_of_ble_eq_true rfl⟩, hts _ mw_443⟩ (hP_S kE_ok hE hH) rfl rfl hl.1 rfl (lv_room (Nat.le_of_ble_eq_true rfl)) d_Mo_add_11 ⟨Nat.le_of_ble_eq_true rfl, Nat.le_of_ble_eq_true rfl⟩) hLo (fun r2 h3 H4 locs hp6 hH z5 hLo => ?_)
  have hz : s.heap.size ≤ H4.size := Nat.le_trans hz z5
  obtain ⟨rfl, rfl⟩ := hp6
  refine lv_lstore (lv' := [(8, .long (tlV wo)), (0, .ref mo), (1, .int d9), (2, .long wo), (4, .int 1), (5, .int sz), (6, .int sd), (7, .int ri)]) hx hb d_Mo_add_14 hl (by decide) rfl (fun ls hl => ?_)
  refine lv_iload hx hb d_Mo_add_16 (lv_at hl 7 rfl) ?_
  refine lv_if_eq (tgt := 62) hx hb d_Mo_add_18 (by decide) (fun hc7 => ?_) (fun hc7 => ?_)
  · skip
    refine lv_bipush (v := -2) hx hb d_Mo_add_62 (by decide) ?_
    exact W.iret (v := (-2)) hx hb hr (fun t9 ht hW => ⟨(-2), h, rfl, Or.inl ⟨rfl, fun q => q.2.2 hc7⟩, by rw [ht]; exact hH, by rw [ht]; exact hz⟩) hLo d_Mo_add_64
  · skip
    refine lv_aload_n hx hb d_Mo_add_21 rfl (lv_at hl 1 rfl) ?_
    refine lv_iload_n hx hb d_Mo_add_22 rfl (lv_at hl 2 rfl) ?_
    by_cases hin : d9 = 0
    · skip
      refine hm_calli (va_runV (As := [.int d9]) (b := mo) (rest := []) ⟨hx, hb, hml, hown, hts⟩ (c_m_isNode l D t G ak av h mo n aBy aSt aDe aPa aIt aId aPr aNa aSi aSe aIw aEx aOl aPl aTa aAt aLo aS1 aS2 aS3 aS4 aS5 aS6 aO1 aO2 aO3 aO4 aO5 gIt d9 f_m f_aIt zIt) ⟨cw9B 1 hts mw_444 mw_445 mw_428 rfl rfl (by decide +kernel) ⟨Nat.le_of_ble_eq_true rfl, Nat.le_of_ble_eq_true rfl⟩, hts _ mw_446, hts _ mw_447⟩ (hP_V (q := (R_Mo, F_Mo, 41)) kE_ok hE hK hH f_m rfl) rfl rfl hl.1 rfl (lv_room (Nat.le_of_ble_eq_true rfl)) d_Mo_add_23 ⟨Nat.le_of_ble_eq_true rfl, Nat.le_of_ble_eq_true rfl⟩) hLo (fun r8 h9 H10 locs hp12 hH z11 hLo => ?_)
      have hz : s.heap.size ≤ H10.size := Nat.le_trans hz z11
      obtain ⟨hr9, rfl⟩ := hp12
      rw [if_pos hin] at hr9
      subst hr9
      have hink := hin
      subst hin
      refine lv_if_eq (tgt := 62) hx hb d_Mo_add_26 (by decide) (fun hc13 => absurd hc13 (by decide)) (fun hc13 => ?_)
      refine lv_aload_n hx hb d_Mo_add_29 rfl (lv_at hl 1 rfl) ?_
      refine hm_get (ci := 9) (v := .ref aId) (C := R_Mo) (T := F_Mo) (N := 41) hx hb hts ig_Mo hown hK hH f_m rfl 12 (by decide) (hts _ mw_392) (fun _ h9 => h9) rfl d_Mo_add_30 ?_
      refine lv_iload_n hx hb d_Mo_add_33 rfl (lv_at hl 2 rfl) ?_
      refine hj_zald hx hb hK hH 1 f_aId rfl 0 (by decide) (by decide) (by decide) d_Mo_add_34 ?_
      refine lv_if_eq (tgt := 62) hx hb d_Mo_add_35 (by decide) (fun hc14 => absurd hc14 (by rw [zId]; decide)) (fun hc14 => ?_)
      refine lv_lload hx hb d_Mo_add_38 (lv_at hl 0 rfl) ?_
      refine lv_lconst (v := 0) hx hb d_Mo_add_40 (by decide) ?_
      refine W.lcmp hx hb d_Mo_add_41 ?_
      refine lv_if_eq (tgt := 62) hx hb d_Mo_add_42 (by decide) (fun hc15 => ?_) (fun hc15 => ?_)
      · skip
        refine lv_bipush (v := -2) hx hb d_Mo_add_62 (by decide) ?_
        exact W.iret (v := (-2)) hx hb hr (fun t9 ht hW => ⟨(-2), h, rfl, Or.inl ⟨rfl, fun q => q.2.1 ((lg_cmp_eq _ _).mp hc15)⟩, by rw [ht]; exact hH, by rw [ht]; exact hz⟩) hLo d_Mo_add_64
      · skip
        refine lv_iload hx hb d_Mo_add_45 (lv_at hl 4 rfl) ?_
        refine lv_if_eq (tgt := 65) hx hb d_Mo_add_47 (by decide) (fun hc16 => absurd hc16 (by decide)) (fun hc16 => ?_)
        refine lv_aload_n hx hb d_Mo_add_50 rfl (lv_at hl 1 rfl) ?_
        refine lv_iload_n hx hb d_Mo_add_51 rfl (lv_at hl 2 rfl) ?_
        refine hm_calli (va_runV (As := [.int 0]) (b := mo) (rest := []) ⟨hx, hb, hml, hown, hts⟩ (c_m_depthOf l D t G ak av h mo) ⟨cw9B 1 hts mw_448 mw_449 mw_428 rfl rfl (by decide +kernel) ⟨Nat.le_of_ble_eq_true rfl, Nat.le_of_ble_eq_true rfl⟩, hts _ mw_450, hts _ mw_451⟩ (hP_V (q := (R_Mo, F_Mo, 41)) kE_ok hE hK hH f_m rfl) rfl rfl hl.1 rfl (lv_room (Nat.le_of_ble_eq_true rfl)) d_Mo_add_52 ⟨Nat.le_of_ble_eq_true rfl, Nat.le_of_ble_eq_true rfl⟩) hLo (fun r17 h18 H19 locs hp21 hH z20 hLo => ?_)
        have hz : s.heap.size ≤ H19.size := Nat.le_trans hz z20
        obtain ⟨rfl, rfl⟩ := hp21
        refine lv_iconst (v := 1) hx hb d_Mo_add_55 (by decide) ?_
        refine lv_iadd hx hb d_Mo_add_56 ?_
        refine lv_bipush (v := 6) hx hb d_Mo_add_57 (by decide) ?_
        refine lv_icmp_le (tgt := 65) hx hb d_Mo_add_59 (by decide) (fun hc22 => ?_) (fun hc22 => absurd (by decide) hc22)
        refine lv_aload_n hx hb d_Mo_add_65 rfl (lv_at hl 1 rfl) ?_
        refine lv_iload_n hx hb d_Mo_add_66 rfl (lv_at hl 2 rfl) ?_
        refine lv_lload hx hb d_Mo_add_67 (lv_at hl 0 rfl) ?_
        refine hm_calli (va_runV (As := [.int 0, .long (tlV wo)]) (b := mo) (rest := []) ⟨hx, hb, hml, hown, hts⟩ (c_m_namedIn l D t G ak av h mo n aBy aSt aDe aPa aIt aId aPr aNa aSi aSe aIw aEx aOl aPl aTa aAt aLo aS1 aS2 aS3 aS4 aS5 aS6 aO1 aO2 aO3 aO4 aO5 0 (tlV wo) f_m) ⟨cw9B 2 hts mw_452 mw_453 mw_428 rfl rfl (by decide +kernel) ⟨Nat.le_of_ble_eq_true rfl, Nat.le_of_ble_eq_true rfl⟩, hts _ mw_454, hts _ mw_455⟩ (hP_V (q := (R_Mo, F_Mo, 41)) kE_ok hE hK hH f_m rfl) rfl rfl hl.1 rfl (lv_room (Nat.le_of_ble_eq_true rfl)) d_Mo_add_69 ⟨Nat.le_of_ble_eq_true rfl, Nat.le_of_ble_eq_true rfl⟩) hLo (fun r23 h24 H25 locs hp27 hH z26 hLo => ?_)
        have hz : s.heap.size ≤ H25.size := Nat.le_trans hz z26
        obtain ⟨rfl, rfl⟩ := hp27
        refine lv_if_lt (tgt := 78) hx hb d_Mo_add_72 (by decide) (fun hc28 => ?_) (fun hc28 => absurd (by decide) hc28)
        refine lv_aload_n hx hb d_Mo_add_78 rfl (lv_at hl 1 rfl) ?_
        refine hm_calli (va_runV (As := []) (b := mo) (rest := []) ⟨hx, hb, hml, hown, hts⟩ (c_m_alive l D t G ak av h mo n aBy aSt aDe aPa aIt aId aPr aNa aSi aSe aIw aEx aOl aPl aTa aAt aLo aS1 aS2 aS3 aS4 aS5 aS6 aO1 aO2 aO3 aO4 aO5 gIt f_m f_aIt zIt) ⟨cw9B 0 hts mw_456 mw_457 mw_428 rfl rfl (by decide +kernel) ⟨Nat.le_of_ble_eq_true rfl, Nat.le_of_ble_eq_true rfl⟩, hts _ mw_458, hts _ mw_459⟩ (hP_V (q := (R_Mo, F_Mo, 41)) kE_ok hE hK hH f_m rfl) rfl rfl hl.1 rfl (lv_room (Nat.le_of_ble_eq_true rfl)) d_Mo_add_79 ⟨Nat.le_of_ble_eq_true rfl, Nat.le_of_ble_eq_true rfl⟩) hLo (fun r29 h30 H31 locs hp33 hH z32 hLo => ?_)
        have hz : s.heap.size ≤ H31.size := Nat.le_trans hz z32
        obtain ⟨rfl, rfl⟩ := hp33
        refine lv_bipush (v := 30) hx hb d_Mo_add_82 (by decide) ?_
        refine lv_icmp_ne (tgt := 90) hx hb d_Mo_add_84 (by decide) (fun hc34 => ?_) (fun hc34 => absurd hc34 (by decide))
        refine lv_aload_n hx hb d_Mo_add_90 rfl (lv_at hl 1 rfl) ?_
        refine hm_get (ci := 9) (v := .int 1) (C := R_Mo) (T := F_Mo) (N := 41) hx hb hts ig_Mo hown hK hH f_m rfl 10 (by decide) (hts _ mw_390) (fun _ h9 => h9) rfl d_Mo_add_91 ?_
        refine lv_istore (lv' := [(10, .int 1), (8, .long (tlV wo)), (0, .ref mo), (1, .int 0), (2, .long wo), (4, .int 1), (5, .int sz), (6, .int sd), (7, .int ri)]) hx hb d_Mo_add_94 hl (by decide) rfl (fun ls hl => ?_)
        refine lv_aload_n hx hb d_Mo_add_96 rfl (lv_at hl 2 rfl) ?_
        refine lv_dup hx hb d_Mo_add_97 rfl ?_
        refine hm_get (ci := 9) (v := .int 1) (C := R_Mo) (T := F_Mo) (N := 41) hx hb hts ig_Mo hown hK hH f_m rfl 10 (by decide) (hts _ mw_390) (fun _ h9 => h9) rfl d_Mo_add_98 ?_
        refine lv_iconst (v := 1) hx hb d_Mo_add_101 (by decide) ?_
        refine lv_iadd hx hb d_Mo_add_102 ?_
        refine hm_put (ci := 9) (v := .int (1 + 1)) (ty := .int) (C := R_Mo) (T := F_Mo) (N := 41) hx hb hts ig_Mo t_Mo tk_Mo nm_Mo hown hK hH hLo f_m rfl 10 (by decide) (hts _ mw_390) (fun _ h9 => h9) rfl (by decide +kernel) rfl rfl (Nat.le_of_ble_eq_true rfl) d_Mo_add_103 (fun H35 locs hH z36 hLo => ?_)
        have hz : s.heap.size ≤ H35.size := by rw [z36]; exact hz
        obtain ⟨h37, e38⟩ : ∃ z, z = hu h mo (.inr (9, [.int 0, .int (nI n), .int 0, .ref aBy, .ref aSt, .ref aDe, .int 0, .int (-1), .int 0, .ref aPa, .int (1 + 1), .ref aIt, .ref aId, .ref aPr, .ref aNa, .ref aSi, .ref aSe, .ref aIw, .ref aEx, .ref aOl, .int 0, .ref aPl, .int 0, .int 0, .ref aTa, .ref aAt, .ref aLo, .int 0, .int 0, .ref aS1, .ref aS2, .ref aS3, .ref aS4, .ref aS5, .ref aS6, .int 0, .ref aO1, .ref aO2, .ref aO3, .ref aO4, .ref aO5])) := ⟨_, rfl⟩
        have hH : hm D vwCl G h37 H35 := by rw [e38]; exact hH
        have f_aIt : h37 aIt = some (.inl ((t 1), 700, .inl gIt)) := by rw [e38, hu_n (h_neA f_aIt f_m)]; exact f_aIt
        have f_aId : h37 aId = some (.inl ((t 1), 700, .inl gId)) := by rw [e38, hu_n (h_neA f_aId f_m)]; exact f_aId
        have f_aPr : h37 aPr = some (.inl ((t 2), 700, .inl gPr)) := by rw [e38, hu_n (h_neA f_aPr f_m)]; exact f_aPr
        have f_aNa : h37 aNa = some (.inl ((t 3), 700, .inr (.inl gNa))) := by rw [e38, hu_n (h_neA f_aNa f_m)]; exact f_aNa
        have f_aSi : h37 aSi = some (.inl ((t 2), 700, .inl gSi)) := by rw [e38, hu_n (h_neA f_aSi f_m)]; exact f_aSi
        have f_aSe : h37 aSe = some (.inl ((t 2), 700, .inl gSe)) := by rw [e38, hu_n (h_neA f_aSe f_m)]; exact f_aSe
        have f_aIw : h37 aIw = some (.inl ((t 1), 700, .inl gIw)) := by rw [e38, hu_n (h_neA f_aIw f_m)]; exact f_aIw
        have f_aEx : h37 aEx = some (.inl ((t 2), 700, .inl gEx)) := by rw [e38, hu_n (h_neA f_aEx f_m)]; exact f_aEx
        have f_m : h37 mo = some (.inr (9, [.int 0, .int (nI n), .int 0, .ref aBy, .ref aSt, .ref aDe, .int 0, .int (-1), .int 0, .ref aPa, .int (1 + 1), .ref aIt, .ref aId, .ref aPr, .ref aNa, .ref aSi, .ref aSe, .ref aIw, .ref aEx, .ref aOl, .int 0, .ref aPl, .int 0, .int 0, .ref aTa, .ref aAt, .ref aLo, .int 0, .int 0, .ref aS1, .ref aS2, .ref aS3, .ref aS4, .ref aS5, .ref aS6, .int 0, .ref aO1, .ref aO2, .ref aO3, .ref aO4, .ref aO5])) := by rw [e38]; exact hu_s _ _ _
        refine lv_aload_n hx hb d_Mo_add_106 rfl (lv_at hl 2 rfl) ?_
        refine hm_get (ci := 9) (v := .ref aIt) (C := R_Mo) (T := F_Mo) (N := 41) hx hb hts ig_Mo hown hK hH f_m rfl 11 (by decide) (hts _ mw_391) (fun _ h9 => h9) rfl d_Mo_add_107 ?_
        refine lv_iload hx hb d_Mo_add_110 (lv_at hl 0 rfl) ?_
        refine lv_iconst (v := 1) hx hb d_Mo_add_112 (by decide) ?_
        refine hj_zast hx hb hK hH hLo 1 f_aIt rfl 1 (by decide) (by decide) (by decide) d_Mo_add_113 (fun H39 locs hH z40 hLo => ?_)
        have hz : s.heap.size ≤ H39.size := by rw [z40]; exact hz
        obtain ⟨h41, e42⟩ : ∃ z, z = hu h37 aIt (.inl ((t 1), 700, .inl (upd gIt 1 (vp_nar .boolean 1)))) := ⟨_, rfl⟩
        have hH : hm D vwCl G h41 H39 := by rw [e42]; exact hH
        have f_m : h41 mo = some (.inr (9, [.int 0, .int (nI n), .int 0, .ref aBy, .ref aSt, .ref aDe, .int 0, .int (-1), .int 0, .ref aPa, .int (1 + 1), .ref aIt, .ref aId, .ref aPr, .ref aNa, .ref aSi, .ref aSe, .ref aIw, .ref aEx, .ref aOl, .int 0, .ref aPl, .int 0, .int 0, .ref aTa, .ref aAt, .ref aLo, .int 0, .int 0, .ref aS1, .ref aS2, .ref aS3, .ref aS4, .ref aS5, .ref aS6, .int 0, .ref aO1, .ref aO2, .ref aO3, .ref aO4, .ref aO5])) := by rw [e42, hu_n (Ne.symm (h_neA f_aIt f_m))]; exact f_m
        have f_aId : h41 aId = some (.inl ((t 1), 700, .inl gId)) := by rw [e42, hu_n (Ne.symm ne_aIt_aId)]; exact f_aId
        have f_aPr : h41 aPr = some (.inl ((t 2), 700, .inl gPr)) := by rw [e42, hu_n (Ne.symm ne_aIt_aPr)]; exact f_aPr
        have f_aNa : h41 aNa = some (.inl ((t 3), 700, .inr (.inl gNa))) := by rw [e42, hu_n (h_neK (k1 := 1) (k2 := 0) f_aNa f_aIt rfl rfl (by decide))]; exact f_aNa
        have f_aSi : h41 aSi = some (.inl ((t 2), 700, .inl gSi)) := by rw [e42, hu_n (Ne.symm ne_aIt_aSi)]; exact f_aSi
        have f_aSe : h41 aSe = some (.inl ((t 2), 700, .inl gSe)) := by rw [e42, hu_n (Ne.symm ne_aIt_aSe)]; exact f_aSe
        have f_aIw : h41 aIw = some (.inl ((t 1), 700, .inl gIw)) := by rw [e42, hu_n (Ne.symm ne_aIt_aIw)]; exact f_aIw
        have f_aEx : h41 aEx = some (.inl ((t 2), 700, .inl gEx)) := by rw [e42, hu_n (Ne.symm ne_aIt_aEx)]; exact f_aEx
        have f_aIt : h41 aIt = some (.inl ((t 1), 700, .inl (upd gIt 1 (vp_nar .boolean 1)))) := by rw [e42]; exact hu_s _ _ _
        refine lv_aload_n hx hb d_Mo_add_114 rfl (lv_at hl 2 rfl) ?_
        refine hm_get (ci := 9) (v := .ref aId) (C := R_Mo) (T := F_Mo) (N := 41) hx hb hts ig_Mo hown hK hH f_m rfl 12 (by decide) (hts _ mw_392) (fun _ h9 => h9) rfl d_Mo_add_115 ?_
        refine lv_iload hx hb d_Mo_add_118 (lv_at hl 0 rfl) ?_
        refine lv_iload hx hb d_Mo_add_120 (lv_at hl 5 rfl) ?_
        refine hj_zast hx hb hK hH hLo 1 f_aId rfl 1 (by decide) (by decide) (by decide) d_Mo_add_122 (fun H43 locs hH z44 hLo => ?_)
        have hz : s.heap.size ≤ H43.size := by rw [z44]; exact hz
        obtain ⟨h45, e46⟩ : ∃ z, z = hu h41 aId (.inl ((t 1), 700, .inl (upd gId 1 (vp_nar .boolean 1)))) := ⟨_, rfl⟩
        have hH : hm D vwCl G h45 H43 := by rw [e46]; exact hH
        have f_m : h45 mo = some (.inr (9, [.int 0, .int (nI n), .int 0, .ref aBy, .ref aSt, .ref aDe, .int 0, .int (-1), .int 0, .ref aPa, .int (1 + 1), .ref aIt, .ref aId, .ref aPr, .ref aNa, .ref aSi, .ref aSe, .ref aIw, .ref aEx, .ref aOl, .int 0, .ref aPl, .int 0, .int 0, .ref aTa, .ref aAt, .ref aLo, .int 0, .int 0, .ref aS1, .ref aS2, .ref aS3, .ref aS4, .ref aS5, .ref aS6, .int 0, .ref aO1, .ref aO2, .ref aO3, .ref aO4, .ref aO5])) := by rw [e46, hu_n (Ne.symm (h_neA f_aId f_m))]; exact f_m
        have f_aPr : h45 aPr = some (.inl ((t 2), 700, .inl gPr)) := by rw [e46, hu_n (Ne.symm ne_aId_aPr)]; exact f_aPr
        have f_aNa : h45 aNa = some (.inl ((t 3), 700, .inr (.inl gNa))) := by rw [e46, hu_n (h_neK (k1 := 1) (k2 := 0) f_aNa f_aId rfl rfl (by decide))]; exact f_aNa
        have f_aSi : h45 aSi = some (.inl ((t 2), 700, .inl gSi)) := by rw [e46, hu_n (Ne.symm ne_aId_aSi)]; exact f_aSi
        have f_aSe : h45 aSe = some (.inl ((t 2), 700, .inl gSe)) := by rw [e46, hu_n (Ne.symm ne_aId_aSe)]; exact f_aSe
        have f_aIw : h45 aIw = some (.inl ((t 1), 700, .inl gIw)) := by rw [e46, hu_n (Ne.symm ne_aId_aIw)]; exact f_aIw
        have f_aEx : h45 aEx = some (.inl ((t 2), 700, .inl gEx)) := by rw [e46, hu_n (Ne.symm ne_aId_aEx)]; exact f_aEx
        have f_aId : h45 aId = some (.inl ((t 1), 700, .inl (upd gId 1 (vp_nar .boolean 1)))) := by rw [e46]; exact hu_s _ _ _
        refine lv_aload_n hx hb d_Mo_add_123 rfl (lv_at hl 2 rfl) ?_
        refine hm_get (ci := 9) (v := .ref aPr) (C := R_Mo) (T := F_Mo) (N := 41) hx hb hts ig_Mo hown hK hH f_m rfl 13 (by decide) (hts _ mw_393) (fun _ h9 => h9) rfl d_Mo_add_124 ?_
        refine lv_iload hx hb d_Mo_add_127 (lv_at hl 0 rfl) ?_
        refine lv_iload_n hx hb d_Mo_add_129 rfl (lv_at hl 3 rfl) ?_
        refine hj_iast hx hb hK hH hLo 2 f_aPr rfl 1 (by decide) (by decide) (by decide) d_Mo_add_130 (fun H47 locs hH z48 hLo => ?_)
        have hz : s.heap.size ≤ H47.size := by rw [z48]; exact hz
        obtain ⟨h49, e50⟩ : ∃ z, z = hu h45 aPr (.inl ((t 2), 700, .inl (upd gPr 1 0))) := ⟨_, rfl⟩
        have hH : hm D vwCl G h49 H47 := by rw [e50]; exact hH
        have f_m : h49 mo = some (.inr (9, [.int 0, .int (nI n), .int 0, .ref aBy, .ref aSt, .ref aDe, .int 0, .int (-1), .int 0, .ref aPa, .int (1 + 1), .ref aIt, .ref aId, .ref aPr, .ref aNa, .ref aSi, .ref aSe, .ref aIw, .ref aEx, .ref aOl, .int 0, .ref aPl, .int 0, .int 0, .ref aTa, .ref aAt, .ref aLo, .int 0, .int 0, .ref aS1, .ref aS2, .ref aS3, .ref aS4, .ref aS5, .ref aS6, .int 0, .ref aO1, .ref aO2, .ref aO3, .ref aO4, .ref aO5])) := by rw [e50, hu_n (Ne.symm (h_neA f_aPr f_m))]; exact f_m
        have f_aNa : h49 aNa = some (.inl ((t 3), 700, .inr (.inl gNa))) := by rw [e50, hu_n (h_neK (k1 := 1) (k2 := 0) f_aNa f_aPr rfl rfl (by decide))]; exact f_aNa
        have f_aSi : h49 aSi = some (.inl ((t 2), 700, .inl gSi)) := by rw [e50, hu_n (Ne.symm ne_aPr_aSi)]; exact f_aSi
        have f_aSe : h49 aSe = some (.inl ((t 2), 700, .inl gSe)) := by rw [e50, hu_n (Ne.symm ne_aPr_aSe)]; exact f_aSe
        have f_aIw : h49 aIw = some (.inl ((t 1), 700, .inl gIw)) := by rw [e50, hu_n (Ne.symm ne_aPr_aIw)]; exact f_aIw
        have f_aEx : h49 aEx = some (.inl ((t 2), 700, .inl gEx)) := by rw [e50, hu_n (Ne.symm ne_aPr_aEx)]; exact f_aEx
        have f_aPr : h49 aPr = some (.inl ((t 2), 700, .inl (upd gPr 1 0))) := by rw [e50]; exact hu_s _ _ _
        refine lv_aload_n hx hb d_Mo_add_131 rfl (lv_at hl 2 rfl) ?_
        refine hm_get (ci := 9) (v := .ref aNa) (C := R_Mo) (T := F_Mo) (N := 41) hx hb hts ig_Mo hown hK hH f_m rfl 14 (by decide) (hts _ mw_394) (fun _ h9 => h9) rfl d_Mo_add_132 ?_
        refine lv_iload hx hb d_Mo_add_135 (lv_at hl 0 rfl) ?_
        refine lv_lload hx hb d_Mo_add_137 (lv_at hl 1 rfl) ?_
        refine hj_last hx hb hK hH hLo 3 f_aNa rfl 1 (by decide) (by decide) (by decide) d_Mo_add_139 (fun H51 locs hH z52 hLo => ?_)
        have hz : s.heap.size ≤ H51.size := by rw [z52]; exact hz
        obtain ⟨h53, e54⟩ : ∃ z, z = hu h49 aNa (.inl ((t 3), 700, .inr (.inl (vp_updL gNa 1 (tlV wo))))) := ⟨_, rfl⟩
        have hH : hm D vwCl G h53 H51 := by rw [e54]; exact hH
        have f_m : h53 mo = some (.inr (9, [.int 0, .int (nI n), .int 0, .ref aBy, .ref aSt, .ref aDe, .int 0, .int (-1), .int 0, .ref aPa, .int (1 + 1), .ref aIt, .ref aId, .ref aPr, .ref aNa, .ref aSi, .ref aSe, .ref aIw, .ref aEx, .ref aOl, .int 0, .ref aPl, .int 0, .int 0, .ref aTa, .ref aAt, .ref aLo, .int 0, .int 0, .ref aS1, .ref aS2, .ref aS3, .ref aS4, .ref aS5, .ref aS6, .int 0, .ref aO1, .ref aO2, .ref aO3, .ref aO4, .ref aO5])) := by rw [e54, hu_n (Ne.symm (h_neA f_aNa f_m))]; exact f_m
        have f_aSi : h53 aSi = some (.inl ((t 2), 700, .inl gSi)) := by rw [e54, hu_n (h_neK (k1 := 0) (k2 := 1) f_aSi f_aNa rfl rfl (by decide))]; exact f_aSi
        have f_aSe : h53 aSe = some (.inl ((t 2), 700, .inl gSe)) := by rw [e54, hu_n (h_neK (k1 := 0) (k2 := 1) f_aSe f_aNa rfl rfl (by decide))]; exact f_aSe
        have f_aIw : h53 aIw = some (.inl ((t 1), 700, .inl gIw)) := by rw [e54, hu_n (h_neK (k1 := 0) (k2 := 1) f_aIw f_aNa rfl rfl (by decide))]; exact f_aIw
        have f_aEx : h53 aEx = some (.inl ((t 2), 700, .inl gEx)) := by rw [e54, hu_n (h_neK (k1 := 0) (k2 := 1) f_aEx f_aNa rfl rfl (by decide))]; exact f_aEx
        have f_aNa : h53 aNa = some (.inl ((t 3), 700, .inr (.inl (vp_updL gNa 1 (tlV wo))))) := by rw [e54]; exact hu_s _ _ _
        refine lv_aload_n hx hb d_Mo_add_140 rfl (lv_at hl 2 rfl) ?_
        refine hm_get (ci := 9) (v := .ref aSi) (C := R_Mo) (T := F_Mo) (N := 41) hx hb hts ig_Mo hown hK hH f_m rfl 15 (by decide) (hts _ mw_395) (fun _ h9 => h9) rfl d_Mo_add_141 ?_
        refine lv_iload hx hb d_Mo_add_144 (lv_at hl 0 rfl) ?_
        refine lv_iload hx hb d_Mo_add_146 (lv_at hl 6 rfl) ?_
        refine hj_iast hx hb hK hH hLo 2 f_aSi rfl 1 (by decide) (by decide) (by decide) d_Mo_add_148 (fun H55 locs hH z56 hLo => ?_)
        have hz : s.heap.size ≤ H55.size := by rw [z56]; exact hz
        obtain ⟨h57, e58⟩ : ∃ z, z = hu h53 aSi (.inl ((t 2), 700, .inl (upd gSi 1 sz))) := ⟨_, rfl⟩
        have hH : hm D vwCl G h57 H55 := by rw [e58]; exact hH
        have f_m : h57 mo = some (.inr (9, [.int 0, .int (nI n), .int 0, .ref aBy, .ref aSt, .ref aDe, .int 0, .int (-1), .int 0, .ref aPa, .int (1 + 1), .ref aIt, .ref aId, .ref aPr, .ref aNa, .ref aSi, .ref aSe, .ref aIw, .ref aEx, .ref aOl, .int 0, .ref aPl, .int 0, .int 0, .ref aTa, .ref aAt, .ref aLo, .int 0, .int 0, .ref aS1, .ref aS2, .ref aS3, .ref aS4, .ref aS5, .ref aS6, .int 0, .ref aO1, .ref aO2, .ref aO3, .ref aO4, .ref aO5])) := by rw [e58, hu_n (Ne.symm (h_neA f_aSi f_m))]; exact f_m
        have f_aSe : h57 aSe = some (.inl ((t 2), 700, .inl gSe)) := by rw [e58, hu_n (Ne.symm ne_aSi_aSe)]; exact f_aSe
        have f_aIw : h57 aIw = some (.inl ((t 1), 700, .inl gIw)) := by rw [e58, hu_n (Ne.symm ne_aSi_aIw)]; exact f_aIw
        have f_aEx : h57 aEx = some (.inl ((t 2), 700, .inl gEx)) := by rw [e58, hu_n (Ne.symm ne_aSi_aEx)]; exact f_aEx
        have f_aSi : h57 aSi = some (.inl ((t 2), 700, .inl (upd gSi 1 sz))) := by rw [e58]; exact hu_s _ _ _
        refine lv_aload_n hx hb d_Mo_add_149 rfl (lv_at hl 2 rfl) ?_
        refine hm_get (ci := 9) (v := .ref aSe) (C := R_Mo) (T := F_Mo) (N := 41) hx hb hts ig_Mo hown hK hH f_m rfl 16 (by decide) (hts _ mw_396) (fun _ h9 => h9) rfl d_Mo_add_150 ?_
        refine lv_iload hx hb d_Mo_add_153 (lv_at hl 0 rfl) ?_
        refine lv_iload hx hb d_Mo_add_155 (lv_at hl 7 rfl) ?_
        refine hj_iast hx hb hK hH hLo 2 f_aSe rfl 1 (by decide) (by decide) (by decide) d_Mo_add_157 (fun H59 locs hH z60 hLo => ?_)
        have hz : s.heap.size ≤ H59.size := by rw [z60]; exact hz
        obtain ⟨h61, e62⟩ : ∃ z, z = hu h57 aSe (.inl ((t 2), 700, .inl (upd gSe 1 sd))) := ⟨_, rfl⟩
        have hH : hm D vwCl G h61 H59 := by rw [e62]; exact hH
        have f_m : h61 mo = some (.inr (9, [.int 0, .int (nI n), .int 0, .ref aBy, .ref aSt, .ref aDe, .int 0, .int (-1), .int 0, .ref aPa, .int (1 + 1), .ref aIt, .ref aId, .ref aPr, .ref aNa, .ref aSi, .ref aSe, .ref aIw, .ref aEx, .ref aOl, .int 0, .ref aPl, .int 0, .int 0, .ref aTa, .ref aAt, .ref aLo, .int 0, .int 0, .ref aS1, .ref aS2, .ref aS3, .ref aS4, .ref aS5, .ref aS6, .int 0, .ref aO1, .ref aO2, .ref aO3, .ref aO4, .ref aO5])) := by rw [e62, hu_n (Ne.symm (h_neA f_aSe f_m))]; exact f_m
        have f_aIw : h61 aIw = some (.inl ((t 1), 700, .inl gIw)) := by rw [e62, hu_n (Ne.symm ne_aSe_aIw)]; exact f_aIw
        have f_aEx : h61 aEx = some (.inl ((t 2), 700, .inl gEx)) := by rw [e62, hu_n (Ne.symm ne_aSe_aEx)]; exact f_aEx
        have f_aSe : h61 aSe = some (.inl ((t 2), 700, .inl (upd gSe 1 sd))) := by rw [e62]; exact hu_s _ _ _
        refine lv_aload_n hx hb d_Mo_add_158 rfl (lv_at hl 2 rfl) ?_
        refine hm_get (ci := 9) (v := .ref aIw) (C := R_Mo) (T := F_Mo) (N := 41) hx hb hts ig_Mo hown hK hH f_m rfl 17 (by decide) (hts _ mw_407) (fun _ h9 => h9) rfl d_Mo_add_159 ?_
        refine lv_iload hx hb d_Mo_add_162 (lv_at hl 0 rfl) ?_
        refine lv_iconst (v := 0) hx hb d_Mo_add_164 (by decide) ?_
        refine hj_zast hx hb hK hH hLo 1 f_aIw rfl 1 (by decide) (by decide) (by decide) d_Mo_add_165 (fun H63 locs hH z64 hLo => ?_)
        have hz : s.heap.size ≤ H63.size := by rw [z64]; exact hz
        obtain ⟨h65, e66⟩ : ∃ z, z = hu h61 aIw (.inl ((t 1), 700, .inl (upd gIw 1 (vp_nar .boolean 0)))) := ⟨_, rfl⟩
        have hH : hm D vwCl G h65 H63 := by rw [e66]; exact hH
        have f_m : h65 mo = some (.inr (9, [.int 0, .int (nI n), .int 0, .ref aBy, .ref aSt, .ref aDe, .int 0, .int (-1), .int 0, .ref aPa, .int (1 + 1), .ref aIt, .ref aId, .ref aPr, .ref aNa, .ref aSi, .ref aSe, .ref aIw, .ref aEx, .ref aOl, .int 0, .ref aPl, .int 0, .int 0, .ref aTa, .ref aAt, .ref aLo, .int 0, .int 0, .ref aS1, .ref aS2, .ref aS3, .ref aS4, .ref aS5, .ref aS6, .int 0, .ref aO1, .ref aO2, .ref aO3, .ref aO4, .ref aO5])) := by rw [e66, hu_n (Ne.symm (h_neA f_aIw f_m))]; exact f_m
        have f_aEx : h65 aEx = some (.inl ((t 2), 700, .inl gEx)) := by rw [e66, hu_n (Ne.symm ne_aIw_aEx)]; exact f_aEx
        have f_aIw : h65 aIw = some (.inl ((t 1), 700, .inl (upd gIw 1 (vp_nar .boolean 0)))) := by rw [e66]; exact hu_s _ _ _
        refine lv_aload_n hx hb d_Mo_add_166 rfl (lv_at hl 2 rfl) ?_
        refine hm_get (ci := 9) (v := .ref aEx) (C := R_Mo) (T := F_Mo) (N := 41) hx hb hts ig_Mo hown hK hH f_m rfl 18 (by decide) (hts _ mw_397) (fun _ h9 => h9) rfl d_Mo_add_167 ?_
        refine lv_iload hx hb d_Mo_add_170 (lv_at hl 0 rfl) ?_
        refine lv_iconst (v := 0) hx hb d_Mo_add_172 (by decide) ?_
        refine hj_iast hx hb hK hH hLo 2 f_aEx rfl 1 (by decide) (by decide) (by decide) d_Mo_add_173 (fun H67 locs hH z68 hLo => ?_)
        have hz : s.heap.size ≤ H67.size := by rw [z68]; exact hz
        obtain ⟨h69, e70⟩ : ∃ z, z = hu h65 aEx (.inl ((t 2), 700, .inl (upd gEx 1 0))) := ⟨_, rfl⟩
        have hH : hm D vwCl G h69 H67 := by rw [e70]; exact hH
        have f_m : h69 mo = some (.inr (9, [.int 0, .int (nI n), .int 0, .ref aBy, .ref aSt, .ref aDe, .int 0, .int (-1), .int 0, .ref aPa, .int (1 + 1), .ref aIt, .ref aId, .ref aPr, .ref aNa, .ref aSi, .ref aSe, .ref aIw, .ref aEx, .ref aOl, .int 0, .ref aPl, .int 0, .int 0, .ref aTa, .ref aAt, .ref aLo, .int 0, .int 0, .ref aS1, .ref aS2, .ref aS3, .ref aS4, .ref aS5, .ref aS6, .int 0, .ref aO1, .ref aO2, .ref aO3, .ref aO4, .ref aO5])) := by rw [e70, hu_n (Ne.symm (h_neA f_aEx f_m))]; exact f_m
        have f_aEx : h69 aEx = some (.inl ((t 2), 700, .inl (upd gEx 1 0))) := by rw [e70]; exact hu_s _ _ _
        refine lv_iload hx hb d_Mo_add_174 (lv_at hl 0 rfl) ?_
        exact W.iret (v := 1) hx hb hr (fun t9 ht hW => ⟨1, h69, rfl, Or.inr ⟨rfl, rfl, mt (lg_cmp_eq _ _).mpr hc15, hc7⟩, by rw [ht]; exact hH, by rw [ht]; exact hz⟩) hLo d_Mo_add_176
    · skip
      refine hm_calli (va_runV (As := [.int d9]) (b := mo) (rest := []) ⟨hx, hb, hml, hown, hts⟩ (c_m_isNode l D t G ak av h mo n aBy aSt aDe aPa aIt aId aPr aNa aSi aSe aIw aEx aOl aPl aTa aAt aLo aS1 aS2 aS3 aS4 aS5 aS6 aO1 aO2 aO3 aO4 aO5 gIt d9 f_m f_aIt zIt) ⟨cw9B 1 hts mw_444 mw_445 mw_428 rfl rfl (by decide +kernel) ⟨Nat.le_of_ble_eq_true rfl, Nat.le_of_ble_eq_true rfl⟩, hts _ mw_446, hts _ mw_447⟩ (hP_V (q := (R_Mo, F_Mo, 41)) kE_ok hE hK hH f_m rfl) rfl rfl hl.1 rfl (lv_room (Nat.le_of_ble_eq_true rfl)) d_Mo_add_23 ⟨Nat.le_of_ble_eq_true rfl, Nat.le_of_ble_eq_true rfl⟩) hLo (fun r71 h72 H73 locs hp75 hH z74 hLo => ?_)
      have hz : s.heap.size ≤ H73.size := Nat.le_trans hz z74
      obtain ⟨hr9, rfl⟩ := hp75
      rw [if_neg hin] at hr9
      subst hr9
      refine lv_if_eq (tgt := 62) hx hb d_Mo_add_26 (by decide) (fun hc76 => ?_) (fun hc76 => absurd rfl hc76)
      refine lv_bipush (v := -2) hx hb d_Mo_add_62 (by decide) ?_
      exact W.iret (v := (-2)) hx hb hr (fun t9 ht hW => ⟨(-2), h, rfl, Or.inl ⟨rfl, fun q => hin q.1⟩, by rw [ht]; exact hH, by rw [ht]; exact hz⟩) hLo d_Mo_add_64

set_option maxHeartbeats 4000000 in
set_option maxRecDepth 100000 in
theorem c_m_add0 (l : Launch) (D : va_G) (t : Nat → ClassId) (G : hG) (ak av : Nat → Nat) (h : hM) (mo n aBy aSt aDe aPa aIt aId aPr aNa aSi aSe aIw aEx aOl aPl aTa aAt aLo aS1 aS2 aS3 aS4 aS5 aS6 aO1 aO2 aO3 aO4 aO5 : Nat) (gIt gId gPr gSi gSe gIw gEx : Nat → Int32) (gNa : Nat → Int64) (d9 sz sd ri : Int32) (wo : Int64) (f_m : h mo = some (.inr (9, [.int 0, .int (nI n), .int 0, .ref aBy, .ref aSt, .ref aDe, .int 0, .int (-1), .int 0, .ref aPa, .int 1, .ref aIt, .ref aId, .ref aPr, .ref aNa, .ref aSi, .ref aSe, .ref aIw, .ref aEx, .ref aOl, .int 0, .ref aPl, .int 0, .int 0, .ref aTa, .ref aAt, .ref aLo, .int 0, .int 0, .ref aS1, .ref aS2, .ref aS3, .ref aS4, .ref aS5, .ref aS6, .int 0, .ref aO1, .ref aO2, .ref aO3, .ref aO4, .ref aO5]))) (f_aIt : h aIt = some (.inl ((t 1), 700, .inl gIt))) (f_aId : h aId = some (.inl ((t 1), 700, .inl gId))) (f_aPr : h aPr = some (.inl ((t 2), 700, .inl gPr))) (f_aNa : h aNa = some (.inl ((t 3), 700, .inr (.inl gNa)))) (f_aSi : h aSi = some (.inl ((t 2), 700, .inl gSi))) (f_aSe : h aSe = some (.inl ((t 2), 700, .inl gSe))) (f_aIw : h aIw = some (.inl ((t 1), 700, .inl gIw))) (f_aEx : h aEx = some (.inl ((t 2), 700, .inl gEx))) (zIt : gIt 0 = 1) (zId : gId 0 = 1) (ne_aIt_aId : aIt ≠ aId) (ne_aIt_aPr : aIt ≠ aPr) (ne_aIt_aSi : aIt ≠ aSi) (ne_aIt_aSe : aIt ≠ aSe) (ne_aIt_aEx : aIt ≠ aEx) (ne_aId_aPr : aId ≠ aPr) (ne_aId_aSi : aId ≠ aSi) (ne_aId_aSe : aId ≠ aSe) (ne_aId_aEx : aId ≠ aEx) (ne_aPr_aSi : aPr ≠ aSi) (ne_aPr_aSe : aPr ≠ aSe) (ne_aPr_aEx : aPr ≠ aEx) (ne_aSi_aSe : aSi ≠ aSe) (ne_aSi_aEx : aSi ≠ aEx) (ne_aSe_aEx : aSe ≠ aEx) (ne_aIt_aIw : aIt ≠ aIw) (ne_aId_aIw : aId ≠ aIw) (ne_aPr_aIw : aPr ≠ aIw) (ne_aSi_aIw : aSi ≠ aIw) (ne_aSe_aIw : aSe ≠ aIw) (ne_aIw_aEx : aIw ≠ aEx) : Met l y_Mo_add (.code y_Mo_add b_Mo_add 11 (some .int) :: lw_g) { frames := 2, cells := 0, slots := 0, locals := 45 } (hP (kE D t G ak av) D vwCl G h [.ref mo, .int d9, .long wo, .int 0, .int sz, .int sd, .int ri]) (hQi D vwCl G (fun r h' => (r = -2 ∧ ¬ (d9 = 0 ∧ tlV wo ≠ 0 ∧ ri ≠ 0)) ∨ (r = 1 ∧ d9 = 0 ∧ tlV wo ≠ 0 ∧ ri ≠ 0))) 0 0 G.P := by
  refine Met.ofW (cc := b_Mo_add) (maxL := 11) (ret := (some .int)) (by decide) rfl ?_
  intro p e s m args below meth c s₁ Bd hml hv
  obtain ⟨ha, hE, hH⟩ := hv
  have hx := Bd.exec
  have hb := Bd.bytes
  have hr := Bd.returns
  have hts : ∀ w ∈ lw_g, w.before args s = true := fun w hw => atoms_spec (ws := (.code y_Mo_add b_Mo_add 11 (some .int) :: lw_g)) Bd.pre w (List.mem_cons_of_mem _ hw)
  have hown : s.vm.findClass R_Mo = some m.cls := findClass_of_methodNamed Bd.named
  have hlocks := Bd.notSynchronized
  have hK := hE.1
  have hH0 := hH
  have hLo : hLc G.P [] := hLc_nil
  have hz : s.heap.size ≤ s.heap.size := Nat.le_refl _
  have hkp : kp [] h h := kp_rf
  have hl := lv_entry [.ref mo, .int d9, .long wo, .int 0, .int sz, .int sd, .int ri] (n := 11) (Nat.le_of_ble_eq_true rfl)
  rw [show entryFrame m args 11 = F0 m 0 ((lg_sl [.ref mo, .int d9, .long wo, .int 0, .int sz, .int sd, .int ri] ++ List.replicate (11 - (lg_sl [.ref mo, .int d9, .long wo, .int 0, .int sz, .int sd, .int ri]).length) Slot.unset).toArray) [] from (by rw [ha]; exact lg_entry_eq m [.ref mo, .int d9, .long wo, .int 0, .int sz, .int sd, .int ri] 11)]
  generalize (lg_sl [.ref mo, .int d9, .long wo, .int 0, .int sz, .int sd, .int ri] ++ List.replicate (11 - (lg_sl [.ref mo, .int d9, .long wo, .int 0, .int sz, .int sd, .int ri]).length) Slot.unset).toArray = ls at hl ⊢
  have hl : lv_has ls 11 [(0, .ref mo), (1, .int d9), (2, .long wo), (4, .int 0), (5, .int sz), (6, .int sd), (7, .int ri)] := hl
  refine lv_aload_n hx hb d_Mo_add_0 rfl (lv_at hl 0 rfl) ?_
  refine hm_get (ci := 9) (v := .int 0) (C := R_Mo) (T := F_Mo) (N := 41) hx hb hts ig_Mo hown hK hH f_m rfl 6 (by decide) (hts _ mw_440) (fun _ h9 => h9) rfl d_Mo_add_1 ?_
  refine lv_if_eq (tgt := 10) hx hb d_Mo_add_4 (by decide) (fun hc1 => ?_) (fun hc1 => absurd rfl hc1)
  refine lv_lload_n hx hb d_Mo_add_10 rfl (lv_at hl 2 rfl) ?_
  refine hm_calll (va_runS (As := [.long wo]) (rest := []) ⟨hx, hb, hml, hown, hts⟩ (c_m_told l D t G ak av h wo) ⟨cw9B 1 hts mw_441 mw_442 mw_428 rfl rfl (by decide +kernel) ⟨Nat.le_of_ble_eq_true rfl, Nat.le_of_ble_eq_true rfl⟩, hts _ mw_443⟩ (hP_S kE_ok hE hH) rfl rfl hl.1 rfl (lv_room (Nat.le_of_ble_eq_true rfl)) d_Mo_add_11 ⟨Nat.le_of_ble_eq_true rfl, Nat.le_of_ble_eq_true rfl⟩) hLo (fun r2 h3 H4 locs hp6 hH z5 hLo => ?_)
  have hz : s.heap.size ≤ H4.size := Nat.le_trans hz z5
  obtain ⟨rfl, rfl⟩ := hp6
  refine lv_lstore (lv' := [(8, .long (tlV wo)), (0, .ref mo), (1, .int d9), (2, .long wo), (4, .int 0), (5, .int sz), (6, .int sd), (7, .int ri)]) hx hb d_Mo_add_14 hl (by decide) rfl (fun ls hl => ?_)
  refine lv_iload hx hb d_Mo_add_16 (lv_at hl 7 rfl) ?_
  refine lv_if_eq (tgt := 62) hx hb d_Mo_add_18 (by decide) (fun hc7 => ?_) (fun hc7 => ?_)
  · skip
    refine lv_bipush (v := -2) hx hb d_Mo_add_62 (by decide) ?_
    exact W.iret (v := (-2)) hx hb hr (fun t9 ht hW => ⟨(-2), h, rfl, Or.inl ⟨rfl, fun q => q.2.2 hc7⟩, by rw [ht]; exact hH, by rw [ht]; exact hz⟩) hLo d_Mo_add_64
  · skip
    refine lv_aload_n hx hb d_Mo_add_21 rfl (lv_at hl 1 rfl) ?_
    refine lv_iload_n hx hb d_Mo_add_22 rfl (lv_at hl 2 rfl) ?_
    by_cases hin : d9 = 0
    · skip
      refine hm_calli (va_runV (As := [.int d9]) (b := mo) (rest := []) ⟨hx, hb, hml, hown, hts⟩ (c_m_isNode l D t G ak av h mo n aBy aSt aDe aPa aIt aId aPr aNa aSi aSe aIw aEx aOl aPl aTa aAt aLo aS1 aS2 aS3 aS4 aS5 aS6 aO1 aO2 aO3 aO4 aO5 gIt d9 f_m f_aIt zIt) ⟨cw9B 1 hts mw_444 mw_445 mw_428 rfl rfl (by decide +kernel) ⟨Nat.le_of_ble_eq_true rfl, Nat.le_of_ble_eq_true rfl⟩, hts _ mw_446, hts _ mw_447⟩ (hP_V (q := (R_Mo, F_Mo, 41)) kE_ok hE hK hH f_m rfl) rfl rfl hl.1 rfl (lv_room (Nat.le_of_ble_eq_true rfl)) d_Mo_add_23 ⟨Nat.le_of_ble_eq_true rfl, Nat.le_of_ble_eq_true rfl⟩) hLo (fun r8 h9 H10 locs hp12 hH z11 hLo => ?_)
      have hz : s.heap.size ≤ H10.size := Nat.le_trans hz z11
      obtain ⟨hr9, rfl⟩ := hp12
      rw [if_pos hin] at hr9
      subst hr9
      have hink := hin
      subst hin
      refine lv_if_eq (tgt := 62) hx hb d_Mo_add_26 (by decide) (fun hc13 => absurd hc13 (by decide)) (fun hc13 => ?_)
      refine lv_aload_n hx hb d_Mo_add_29 rfl (lv_at hl 1 rfl) ?_
      refine hm_get (ci := 9) (v := .ref aId) (C := R_Mo) (T := F_Mo) (N := 41) hx hb hts ig_Mo hown hK hH f_m rfl 12 (by decide) (hts _ mw_392) (fun _ h9 => h9) rfl d_Mo_add_30 ?_
      refine lv_iload_n hx hb d_Mo_add_33 rfl (lv_at hl 2 rfl) ?_
      refine hj_zald hx hb hK hH 1 f_aId rfl 0 (by decide) (by decide) (by decide) d_Mo_add_34 ?_
      refine lv_if_eq (tgt := 62) hx hb d_Mo_add_35 (by decide) (fun hc14 => absurd hc14 (by rw [zId]; decide)) (fun hc14 => ?_)
      refine lv_lload hx hb d_Mo_add_38 (lv_at hl 0 rfl) ?_
      refine lv_lconst (v := 0) hx hb d_Mo_add_40 (by decide) ?_
      refine W.lcmp hx hb d_Mo_add_41 ?_
      refine lv_if_eq (tgt := 62) hx hb d_Mo_add_42 (by decide) (fun hc15 => ?_) (fun hc15 => ?_)
      · skip
        refine lv_bipush (v := -2) hx hb d_Mo_add_62 (by decide) ?_
        exact W.iret (v := (-2)) hx hb hr (fun t9 ht hW => ⟨(-2), h, rfl, Or.inl ⟨rfl, fun q => q.2.1 ((lg_cmp_eq _ _).mp hc15)⟩, by rw [ht]; exact hH, by rw [ht]; exact hz⟩) hLo d_Mo_add_64
      · skip
        refine lv_iload hx hb d_Mo_add_45 (lv_at hl 4 rfl) ?_
        refine lv_if_eq (tgt := 65) hx hb d_Mo_add_47 (by decide) (fun hc16 => ?_) (fun hc16 => absurd rfl hc16)
        refine lv_aload_n hx hb d_Mo_add_65 rfl (lv_at hl 1 rfl) ?_
        refine lv_iload_n hx hb d_Mo_add_66 rfl (lv_at hl 2 rfl) ?_
        refine lv_lload hx hb d_Mo_add_67 (lv_at hl 0 rfl) ?_
        refine hm_calli (va_runV (As := [.int 0, .long (tlV wo)]) (b := mo) (rest := []) ⟨hx, hb, hml, hown, hts⟩ (c_m_namedIn l D t G ak av h mo n aBy aSt aDe aPa aIt aId aPr aNa aSi aSe aIw aEx aOl aPl aTa aAt aLo aS1 aS2 aS3 aS4 aS5 aS6 aO1 aO2 aO3 aO4 aO5 0 (tlV wo) f_m) ⟨cw9B 2 hts mw_452 mw_453 mw_428 rfl rfl (by decide +kernel) ⟨Nat.le_of_ble_eq_true rfl, Nat.le_of_ble_eq_true rfl⟩, hts _ mw_454, hts _ mw_455⟩ (hP_V (q := (R_Mo, F_Mo, 41)) kE_ok hE hK hH f_m rfl) rfl rfl hl.1 rfl (lv_room (Nat.le_of_ble_eq_true rfl)) d_Mo_add_69 ⟨Nat.le_of_ble_eq_true rfl, Nat.le_of_ble_eq_true rfl⟩) hLo (fun r17 h18 H19 locs hp21 hH z20 hLo => ?_)
        have hz : s.heap.size ≤ H19.size := Nat.le_trans hz z20
        obtain ⟨rfl, rfl⟩ := hp21
        refine lv_if_lt (tgt := 78) hx hb d_Mo_add_72 (by decide) (fun hc22 => ?_) (fun hc22 => absurd (by decide) hc22)
        refine lv_aload_n hx hb d_Mo_add_78 rfl (lv_at hl 1 rfl) ?_
        refine hm_calli (va_runV (As := []) (b := mo) (rest := []) ⟨hx, hb, hml, hown, hts⟩ (c_m_alive l D t G ak av h mo n aBy aSt aDe aPa aIt aId aPr aNa aSi aSe aIw aEx aOl aPl aTa aAt aLo aS1 aS2 aS3 aS4 aS5 aS6 aO1 aO2 aO3 aO4 aO5 gIt f_m f_aIt zIt) ⟨cw9B 0 hts mw_456 mw_457 mw_428 rfl rfl (by decide +kernel) ⟨Nat.le_of_ble_eq_true rfl, Nat.le_of_ble_eq_true rfl⟩, hts _ mw_458, hts _ mw_459⟩ (hP_V (q := (R_Mo, F_Mo, 41)) kE_ok hE hK hH f_m rfl) rfl rfl hl.1 rfl (lv_room (Nat.le_of_ble_eq_true rfl)) d_Mo_add_79 ⟨Nat.le_of_ble_eq_true rfl, Nat.le_of_ble_eq_true rfl⟩) hLo (fun r23 h24 H25 locs hp27 hH z26 hLo => ?_)
        have hz : s.heap.size ≤ H25.size := Nat.le_trans hz z26
        obtain ⟨rfl, rfl⟩ := hp27
        refine lv_bipush (v := 30) hx hb d_Mo_add_82 (by decide) ?_
        refine lv_icmp_ne (tgt := 90) hx hb d_Mo_add_84 (by decide) (fun hc28 => ?_) (fun hc28 => absurd hc28 (by decide))
        refine lv_aload_n hx hb d_Mo_add_90 rfl (lv_at hl 1 rfl) ?_
        refine hm_get (ci := 9) (v := .int 1) (C := R_Mo) (T := F_Mo) (N := 41) hx hb hts ig_Mo hown hK hH f_m rfl 10 (by decide) (hts _ mw_390) (fun _ h9 => h9) rfl d_Mo_add_91 ?_
        refine lv_istore (lv' := [(10, .int 1), (8, .long (tlV wo)), (0, .ref mo), (1, .int 0), (2, .long wo), (4, .int 0), (5, .int sz), (6, .int sd), (7, .int ri)]) hx hb d_Mo_add_94 hl (by decide) rfl (fun ls hl => ?_)
        refine lv_aload_n hx hb d_Mo_add_96 rfl (lv_at hl 2 rfl) ?_
        refine lv_dup hx hb d_Mo_add_97 rfl ?_
        refine hm_get (ci := 9) (v := .int 1) (C := R_Mo) (T := F_Mo) (N := 41) hx hb hts ig_Mo hown hK hH f_m rfl 10 (by decide) (hts _ mw_390) (fun _ h9 => h9) rfl d_Mo_add_98 ?_
        refine lv_iconst (v := 1) hx hb d_Mo_add_101 (by decide) ?_
        refine lv_iadd hx hb d_Mo_add_102 ?_
        refine hm_put (ci := 9) (v := .int (1 + 1)) (ty := .int) (C := R_Mo) (T := F_Mo) (N := 41) hx hb hts ig_Mo t_Mo tk_Mo nm_Mo hown hK hH hLo f_m rfl 10 (by decide) (hts _ mw_390) (fun _ h9 => h9) rfl (by decide +kernel) rfl rfl (Nat.le_of_ble_eq_true rfl) d_Mo_add_103 (fun H29 locs hH z30 hLo => ?_)
        have hz : s.heap.size ≤ H29.size := by rw [z30]; exact hz
        obtain ⟨h31, e32⟩ : ∃ z, z = hu h mo (.inr (9, [.int 0, .int (nI n), .int 0, .ref aBy, .ref aSt, .ref aDe, .int 0, .int (-1), .int 0, .ref aPa, .int (1 + 1), .ref aIt, .ref aId, .ref aPr, .ref aNa, .ref aSi, .ref aSe, .ref aIw, .ref aEx, .ref aOl, .int 0, .ref aPl, .int 0, .int 0, .ref aTa, .ref aAt, .ref aLo, .int 0, .int 0, .ref aS1, .ref aS2, .ref aS3, .ref aS4, .ref aS5, .ref aS6, .int 0, .ref aO1, .ref aO2, .ref aO3, .ref aO4, .ref aO5])) := ⟨_, rfl⟩
        have hH : hm D vwCl G h31 H29 := by rw [e32]; exact hH
        have f_aIt : h31 aIt = some (.inl ((t 1), 700, .inl gIt)) := by rw [e32, hu_n (h_neA f_aIt f_m)]; exact f_aIt
        have f_aId : h31 aId = some (.inl ((t 1), 700, .inl gId)) := by rw [e32, hu_n (h_neA f_aId f_m)]; exact f_aId
        have f_aPr : h31 aPr = some (.inl ((t 2), 700, .inl gPr)) := by rw [e32, hu_n (h_neA f_aPr f_m)]; exact f_aPr
        have f_aNa : h31 aNa = some (.inl ((t 3), 700, .inr (.inl gNa))) := by rw [e32, hu_n (h_neA f_aNa f_m)]; exact f_aNa
        have f_aSi : h31 aSi = some (.inl ((t 2), 700, .inl gSi)) := by rw [e32, hu_n (h_neA f_aSi f_m)]; exact f_aSi
        have f_aSe : h31 aSe = some (.inl ((t 2), 700, .inl gSe)) := by rw [e32, hu_n (h_neA f_aSe f_m)]; exact f_aSe
        have f_aIw : h31 aIw = some (.inl ((t 1), 700, .inl gIw)) := by rw [e32, hu_n (h_neA f_aIw f_m)]; exact f_aIw
        have f_aEx : h31 aEx = some (.inl ((t 2), 700, .inl gEx)) := by rw [e32, hu_n (h_neA f_aEx f_m)]; exact f_aEx
        have f_m : h31 mo = some (.inr (9, [.int 0, .int (nI n), .int 0, .ref aBy, .ref aSt, .ref aDe, .int 0, .int (-1), .int 0, .ref aPa, .int (1 + 1), .ref aIt, .ref aId, .ref aPr, .ref aNa, .ref aSi, .ref aSe, .ref aIw, .ref aEx, .ref aOl, .int 0, .ref aPl, .int 0, .int 0, .ref aTa, .ref aAt, .ref aLo, .int 0, .int 0, .ref aS1, .ref aS2, .ref aS3, .ref aS4, .ref aS5, .ref aS6, .int 0, .ref aO1, .ref aO2, .ref aO3, .ref aO4, .ref aO5])) := by rw [e32]; exact hu_s _ _ _
        refine lv_aload_n hx hb d_Mo_add_106 rfl (lv_at hl 2 rfl) ?_
        refine hm_get (ci := 9) (v := .ref aIt) (C := R_Mo) (T := F_Mo) (N := 41) hx hb hts ig_Mo hown hK hH f_m rfl 11 (by decide) (hts _ mw_391) (fun _ h9 => h9) rfl d_Mo_add_107 ?_
        refine lv_iload hx hb d_Mo_add_110 (lv_at hl 0 rfl) ?_
        refine lv_iconst (v := 1) hx hb d_Mo_add_112 (by decide) ?_
        refine hj_zast hx hb hK hH hLo 1 f_aIt rfl 1 (by decide) (by decide) (by decide) d_Mo_add_113 (fun H33 locs hH z34 hLo => ?_)
        have hz : s.heap.size ≤ H33.size := by rw [z34]; exact hz
        obtain ⟨h35, e36⟩ : ∃ z, z = hu h31 aIt (.inl ((t 1), 700, .inl (upd gIt 1 (vp_nar .boolean 1)))) := ⟨_, rfl⟩
        have hH : hm D vwCl G h35 H33 := by rw [e36]; exact hH
        have f_m : h35 mo = some (.inr (9, [.int 0, .int (nI n), .int 0, .ref aBy, .ref aSt, .ref aDe, .int 0, .int (-1), .int 0, .ref aPa, .int (1 + 1), .ref aIt, .ref aId, .ref aPr, .ref aNa, .ref aSi, .ref aSe, .ref aIw, .ref aEx, .ref aOl, .int 0, .ref aPl, .int 0, .int 0, .ref aTa, .ref aAt, .ref aLo, .int 0, .int 0, .ref aS1, .ref aS2, .ref aS3, .ref aS4, .ref aS5, .ref aS6, .int 0, .ref aO1, .ref aO2, .ref aO3, .ref aO4, .ref aO5])) := by rw [e36, hu_n (Ne.symm (h_neA f_aIt f_m))]; exact f_m
        have f_aId : h35 aId = some (.inl ((t 1), 700, .inl gId)) := by rw [e36, hu_n (Ne.symm ne_aIt_aId)]; exact f_aId
        have f_aPr : h35 aPr = some (.inl ((t 2), 700, .inl gPr)) := by rw [e36, hu_n (Ne.symm ne_aIt_aPr)]; exact f_aPr
        have f_aNa : h35 aNa = some (.inl ((t 3), 700, .inr (.inl gNa))) := by rw [e36, hu_n (h_neK (k1 := 1) (k2 := 0) f_aNa f_aIt rfl rfl (by decide))]; exact f_aNa
        have f_aSi : h35 aSi = some (.inl ((t 2), 700, .inl gSi)) := by rw [e36, hu_n (Ne.symm ne_aIt_aSi)]; exact f_aSi
        have f_aSe : h35 aSe = some (.inl ((t 2), 700, .inl gSe)) := by rw [e36, hu_n (Ne.symm ne_aIt_aSe)]; exact f_aSe
        have f_aIw : h35 aIw = some (.inl ((t 1), 700, .inl gIw)) := by rw [e36, hu_n (Ne.symm ne_aIt_aIw)]; exact f_aIw
        have f_aEx : h35 aEx = some (.inl ((t 2), 700, .inl gEx)) := by rw [e36, hu_n (Ne.symm ne_aIt_aEx)]; exact f_aEx
        have f_aIt : h35 aIt = some (.inl ((t 1), 700, .inl (upd gIt 1 (vp_nar .boolean 1)))) := by rw [e36]; exact hu_s _ _ _
        refine lv_aload_n hx hb d_Mo_add_114 rfl (lv_at hl 2 rfl) ?_
        refine hm_get (ci := 9) (v := .ref aId) (C := R_Mo) (T := F_Mo) (N := 41) hx hb hts ig_Mo hown hK hH f_m rfl 12 (by decide) (hts _ mw_392) (fun _ h9 => h9) rfl d_Mo_add_115 ?_
        refine lv_iload hx hb d_Mo_add_118 (lv_at hl 0 rfl) ?_
        refine lv_iload hx hb d_Mo_add_120 (lv_at hl 5 rfl) ?_
        refine hj_zast hx hb hK hH hLo 1 f_aId rfl 1 (by decide) (by decide) (by decide) d_Mo_add_122 (fun H37 locs hH z38 hLo => ?_)
        have hz : s.heap.size ≤ H37.size := by rw [z38]; exact hz
        obtain ⟨h39, e40⟩ : ∃ z, z = hu h35 aId (.inl ((t 1), 700, .inl (upd gId 1 (vp_nar .boolean 0)))) := ⟨_, rfl⟩
        have hH : hm D vwCl G h39 H37 := by rw [e40]; exact hH
        have f_m : h39 mo = some (.inr (9, [.int 0, .int (nI n), .int 0, .ref aBy, .ref aSt, .ref aDe, .int 0, .int (-1), .int 0, .ref aPa, .int (1 + 1), .ref aIt, .ref aId, .ref aPr, .ref aNa, .ref aSi, .ref aSe, .ref aIw, .ref aEx, .ref aOl, .int 0, .ref aPl, .int 0, .int 0, .ref aTa, .ref aAt, .ref aLo, .int 0, .int 0, .ref aS1, .ref aS2, .ref aS3, .ref aS4, .ref aS5, .ref aS6, .int 0, .ref aO1, .ref aO2, .ref aO3, .ref aO4, .ref aO5])) := by rw [e40, hu_n (Ne.symm (h_neA f_aId f_m))]; exact f_m
        have f_aPr : h39 aPr = some (.inl ((t 2), 700, .inl gPr)) := by rw [e40, hu_n (Ne.symm ne_aId_aPr)]; exact f_aPr
        have f_aNa : h39 aNa = some (.inl ((t 3), 700, .inr (.inl gNa))) := by rw [e40, hu_n (h_neK (k1 := 1) (k2 := 0) f_aNa f_aId rfl rfl (by decide))]; exact f_aNa
        have f_aSi : h39 aSi = some (.inl ((t 2), 700, .inl gSi)) := by rw [e40, hu_n (Ne.symm ne_aId_aSi)]; exact f_aSi
        have f_aSe : h39 aSe = some (.inl ((t 2), 700, .inl gSe)) := by rw [e40, hu_n (Ne.symm ne_aId_aSe)]; exact f_aSe
        have f_aIw : h39 aIw = some (.inl ((t 1), 700, .inl gIw)) := by rw [e40, hu_n (Ne.symm ne_aId_aIw)]; exact f_aIw
        have f_aEx : h39 aEx = some (.inl ((t 2), 700, .inl gEx)) := by rw [e40, hu_n (Ne.symm ne_aId_aEx)]; exact f_aEx
        have f_aId : h39 aId = some (.inl ((t 1), 700, .inl (upd gId 1 (vp_nar .boolean 0)))) := by rw [e40]; exact hu_s _ _ _
        refine lv_aload_n hx hb d_Mo_add_123 rfl (lv_at hl 2 rfl) ?_
        refine hm_get (ci := 9) (v := .ref aPr) (C := R_Mo) (T := F_Mo) (N := 41) hx hb hts ig_Mo hown hK hH f_m rfl 13 (by decide) (hts _ mw_393) (fun _ h9 => h9) rfl d_Mo_add_124 ?_
        refine lv_iload hx hb d_Mo_add_127 (lv_at hl 0 rfl) ?_
        refine lv_iload_n hx hb d_Mo_add_129 rfl (lv_at hl 3 rfl) ?_
        refine hj_iast hx hb hK hH hLo 2 f_aPr rfl 1 (by decide) (by decide) (by decide) d_Mo_add_130 (fun H41 locs hH z42 hLo => ?_)
        have hz : s.heap.size ≤ H41.size := by rw [z42]; exact hz
        obtain ⟨h43, e44⟩ : ∃ z, z = hu h39 aPr (.inl ((t 2), 700, .inl (upd gPr 1 0))) := ⟨_, rfl⟩
        have hH : hm D vwCl G h43 H41 := by rw [e44]; exact hH
        have f_m : h43 mo = some (.inr (9, [.int 0, .int (nI n), .int 0, .ref aBy, .ref aSt, .ref aDe, .int 0, .int (-1), .int 0, .ref aPa, .int (1 + 1), .ref aIt, .ref aId, .ref aPr, .ref aNa, .ref aSi, .ref aSe, .ref aIw, .ref aEx, .ref aOl, .int 0, .ref aPl, .int 0, .int 0, .ref aTa, .ref aAt, .ref aLo, .int 0, .int 0, .ref aS1, .ref aS2, .ref aS3, .ref aS4, .ref aS5, .ref aS6, .int 0, .ref aO1, .ref aO2, .ref aO3, .ref aO4, .ref aO5])) := by rw [e44, hu_n (Ne.symm (h_neA f_aPr f_m))]; exact f_m
        have f_aNa : h43 aNa = some (.inl ((t 3), 700, .inr (.inl gNa))) := by rw [e44, hu_n (h_neK (k1 := 1) (k2 := 0) f_aNa f_aPr rfl rfl (by decide))]; exact f_aNa
        have f_aSi : h43 aSi = some (.inl ((t 2), 700, .inl gSi)) := by rw [e44, hu_n (Ne.symm ne_aPr_aSi)]; exact f_aSi
        have f_aSe : h43 aSe = some (.inl ((t 2), 700, .inl gSe)) := by rw [e44, hu_n (Ne.symm ne_aPr_aSe)]; exact f_aSe
        have f_aIw : h43 aIw = some (.inl ((t 1), 700, .inl gIw)) := by rw [e44, hu_n (Ne.symm ne_aPr_aIw)]; exact f_aIw
        have f_aEx : h43 aEx = some (.inl ((t 2), 700, .inl gEx)) := by rw [e44, hu_n (Ne.symm ne_aPr_aEx)]; exact f_aEx
        have f_aPr : h43 aPr = some (.inl ((t 2), 700, .inl (upd gPr 1 0))) := by rw [e44]; exact hu_s _ _ _
        refine lv_aload_n hx hb d_Mo_add_131 rfl (lv_at hl 2 rfl) ?_
        refine hm_get (ci := 9) (v := .ref aNa) (C := R_Mo) (T := F_Mo) (N := 41) hx hb hts ig_Mo hown hK hH f_m rfl 14 (by decide) (hts _ mw_394) (fun _ h9 => h9) rfl d_Mo_add_132 ?_
        refine lv_iload hx hb d_Mo_add_135 (lv_at hl 0 rfl) ?_
        refine lv_lload hx hb d_Mo_add_137 (lv_at hl 1 rfl) ?_
        refine hj_last hx hb hK hH hLo 3 f_aNa rfl 1 (by decide) (by decide) (by decide) d_Mo_add_139 (fun H45 locs hH z46 hLo => ?_)
        have hz : s.heap.size ≤ H45.size := by rw [z46]; exact hz
        obtain ⟨h47, e48⟩ : ∃ z, z = hu h43 aNa (.inl ((t 3), 700, .inr (.inl (vp_updL gNa 1 (tlV wo))))) := ⟨_, rfl⟩
        have hH : hm D vwCl G h47 H45 := by rw [e48]; exact hH
        have f_m : h47 mo = some (.inr (9, [.int 0, .int (nI n), .int 0, .ref aBy, .ref aSt, .ref aDe, .int 0, .int (-1), .int 0, .ref aPa, .int (1 + 1), .ref aIt, .ref aId, .ref aPr, .ref aNa, .ref aSi, .ref aSe, .ref aIw, .ref aEx, .ref aOl, .int 0, .ref aPl, .int 0, .int 0, .ref aTa, .ref aAt, .ref aLo, .int 0, .int 0, .ref aS1, .ref aS2, .ref aS3, .ref aS4, .ref aS5, .ref aS6, .int 0, .ref aO1, .ref aO2, .ref aO3, .ref aO4, .ref aO5])) := by rw [e48, hu_n (Ne.symm (h_neA f_aNa f_m))]; exact f_m
        have f_aSi : h47 aSi = some (.inl ((t 2), 700, .inl gSi)) := by rw [e48, hu_n (h_neK (k1 := 0) (k2 := 1) f_aSi f_aNa rfl rfl (by decide))]; exact f_aSi
        have f_aSe : h47 aSe = some (.inl ((t 2), 700, .inl gSe)) := by rw [e48, hu_n (h_neK (k1 := 0) (k2 := 1) f_aSe f_aNa rfl rfl (by decide))]; exact f_aSe
        have f_aIw : h47 aIw = some (.inl ((t 1), 700, .inl gIw)) := by rw [e48, hu_n (h_neK (k1 := 0) (k2 := 1) f_aIw f_aNa rfl rfl (by decide))]; exact f_aIw
        have f_aEx : h47 aEx = some (.inl ((t 2), 700, .inl gEx)) := by rw [e48, hu_n (h_neK (k1 := 0) (k2 := 1) f_aEx f_aNa rfl rfl (by decide))]; exact f_aEx
        have f_aNa : h47 aNa = some (.inl ((t 3), 700, .inr (.inl (vp_updL gNa 1 (tlV wo))))) := by rw [e48]; exact hu_s _ _ _
        refine lv_aload_n hx hb d_Mo_add_140 rfl (lv_at hl 2 rfl) ?_
        refine hm_get (ci := 9) (v := .ref aSi) (C := R_Mo) (T := F_Mo) (N := 41) hx hb hts ig_Mo hown hK hH f_m rfl 15 (by decide) (hts _ mw_395) (fun _ h9 => h9) rfl d_Mo_add_141 ?_
        refine lv_iload hx hb d_Mo_add_144 (lv_at hl 0 rfl) ?_
        refine lv_iload hx hb d_Mo_add_146 (lv_at hl 6 rfl) ?_
        refine hj_iast hx hb hK hH hLo 2 f_aSi rfl 1 (by decide) (by decide) (by decide) d_Mo_add_148 (fun H49 locs hH z50 hLo => ?_)
        have hz : s.heap.size ≤ H49.size := by rw [z50]; exact hz
        obtain ⟨h51, e52⟩ : ∃ z, z = hu h47 aSi (.inl ((t 2), 700, .inl (upd gSi 1 sz))) := ⟨_, rfl⟩
        have hH : hm D vwCl G h51 H49 := by rw [e52]; exact hH
        have f_m : h51 mo = some (.inr (9, [.int 0, .int (nI n), .int 0, .ref aBy, .ref aSt, .ref aDe, .int 0, .int (-1), .int 0, .ref aPa, .int (1 + 1), .ref aIt, .ref aId, .ref aPr, .ref aNa, .ref aSi, .ref aSe, .ref aIw, .ref aEx, .ref aOl, .int 0, .ref aPl, .int 0, .int 0, .ref aTa, .ref aAt, .ref aLo, .int 0, .int 0, .ref aS1, .ref aS2, .ref aS3, .ref aS4, .ref aS5, .ref aS6, .int 0, .ref aO1, .ref aO2, .ref aO3, .ref aO4, .ref aO5])) := by rw [e52, hu_n (Ne.symm (h_neA f_aSi f_m))]; exact f_m
        have f_aSe : h51 aSe = some (.inl ((t 2), 700, .inl gSe)) := by rw [e52, hu_n (Ne.symm ne_aSi_aSe)]; exact f_aSe
        have f_aIw : h51 aIw = some (.inl ((t 1), 700, .inl gIw)) := by rw [e52, hu_n (Ne.symm ne_aSi_aIw)]; exact f_aIw
        have f_aEx : h51 aEx = some (.inl ((t 2), 700, .inl gEx)) := by rw [e52, hu_n (Ne.symm ne_aSi_aEx)]; exact f_aEx
        have f_aSi : h51 aSi = some (.inl ((t 2), 700, .inl (upd gSi 1 sz))) := by rw [e52]; exact hu_s _ _ _
        refine lv_aload_n hx hb d_Mo_add_149 rfl (lv_at hl 2 rfl) ?_
        refine hm_get (ci := 9) (v := .ref aSe) (C := R_Mo) (T := F_Mo) (N := 41) hx hb hts ig_Mo hown hK hH f_m rfl 16 (by decide) (hts _ mw_396) (fun _ h9 => h9) rfl d_Mo_add_150 ?_
        refine lv_iload hx hb d_Mo_add_153 (lv_at hl 0 rfl) ?_
        refine lv_iload hx hb d_Mo_add_155 (lv_at hl 7 rfl) ?_
        refine hj_iast hx hb hK hH hLo 2 f_aSe rfl 1 (by decide) (by decide) (by decide) d_Mo_add_157 (fun H53 locs hH z54 hLo => ?_)
        have hz : s.heap.size ≤ H53.size := by rw [z54]; exact hz
        obtain ⟨h55, e56⟩ : ∃ z, z = hu h51 aSe (.inl ((t 2), 700, .inl (upd gSe 1 sd))) := ⟨_, rfl⟩
        have hH : hm D vwCl G h55 H53 := by rw [e56]; exact hH
        have f_m : h55 mo = some (.inr (9, [.int 0, .int (nI n), .int 0, .ref aBy, .ref aSt, .ref aDe, .int 0, .int (-1), .int 0, .ref aPa, .int (1 + 1), .ref aIt, .ref aId, .ref aPr, .ref aNa, .ref aSi, .ref aSe, .ref aIw, .ref aEx, .ref aOl, .int 0, .ref aPl, .int 0, .int 0, .ref aTa, .ref aAt, .ref aLo, .int 0, .int 0, .ref aS1, .ref aS2, .ref aS3, .ref aS4, .ref aS5, .ref aS6, .int 0, .ref aO1, .ref aO2, .ref aO3, .ref aO4, .ref aO5])) := by rw [e56, hu_n (Ne.symm (h_neA f_aSe f_m))]; exact f_m
        have f_aIw : h55 aIw = some (.inl ((t 1), 700, .inl gIw)) := by rw [e56, hu_n (Ne.symm ne_aSe_aIw)]; exact f_aIw
        have f_aEx : h55 aEx = some (.inl ((t 2), 700, .inl gEx)) := by rw [e56, hu_n (Ne.symm ne_aSe_aEx)]; exact f_aEx
        have f_aSe : h55 aSe = some (.inl ((t 2), 700, .inl (upd gSe 1 sd))) := by rw [e56]; exact hu_s _ _ _
        refine lv_aload_n hx hb d_Mo_add_158 rfl (lv_at hl 2 rfl) ?_
        refine hm_get (ci := 9) (v := .ref aIw) (C := R_Mo) (T := F_Mo) (N := 41) hx hb hts ig_Mo hown hK hH f_m rfl 17 (by decide) (hts _ mw_407) (fun _ h9 => h9) rfl d_Mo_add_159 ?_
        refine lv_iload hx hb d_Mo_add_162 (lv_at hl 0 rfl) ?_
        refine lv_iconst (v := 0) hx hb d_Mo_add_164 (by decide) ?_
        refine hj_zast hx hb hK hH hLo 1 f_aIw rfl 1 (by decide) (by decide) (by decide) d_Mo_add_165 (fun H57 locs hH z58 hLo => ?_)
        have hz : s.heap.size ≤ H57.size := by rw [z58]; exact hz
        obtain ⟨h59, e60⟩ : ∃ z, z = hu h55 aIw (.inl ((t 1), 700, .inl (upd gIw 1 (vp_nar .boolean 0)))) := ⟨_, rfl⟩
        have hH : hm D vwCl G h59 H57 := by rw [e60]; exact hH
        have f_m : h59 mo = some (.inr (9, [.int 0, .int (nI n), .int 0, .ref aBy, .ref aSt, .ref aDe, .int 0, .int (-1), .int 0, .ref aPa, .int (1 + 1), .ref aIt, .ref aId, .ref aPr, .ref aNa, .ref aSi, .ref aSe, .ref aIw, .ref aEx, .ref aOl, .int 0, .ref aPl, .int 0, .int 0, .ref aTa, .ref aAt, .ref aLo, .int 0, .int 0, .ref aS1, .ref aS2, .ref aS3, .ref aS4, .ref aS5, .ref aS6, .int 0, .ref aO1, .ref aO2, .ref aO3, .ref aO4, .ref aO5])) := by rw [e60, hu_n (Ne.symm (h_neA f_aIw f_m))]; exact f_m
        have f_aEx : h59 aEx = some (.inl ((t 2), 700, .inl gEx)) := by rw [e60, hu_n (Ne.symm ne_aIw_aEx)]; exact f_aEx
        have f_aIw : h59 aIw = some (.inl ((t 1), 700, .inl (upd gIw 1 (vp_nar .boolean 0)))) := by rw [e60]; exact hu_s _ _ _
        refine lv_aload_n hx hb d_Mo_add_166 rfl (lv_at hl 2 rfl) ?_
        refine hm_get (ci := 9) (v := .ref aEx) (C := R_Mo) (T := F_Mo) (N := 41) hx hb hts ig_Mo hown hK hH f_m rfl 18 (by decide) (hts _ mw_397) (fun _ h9 => h9) rfl d_Mo_add_167 ?_
        refine lv_iload hx hb d_Mo_add_170 (lv_at hl 0 rfl) ?_
        refine lv_iconst (v := 0) hx hb d_Mo_add_172 (by decide) ?_
        refine hj_iast hx hb hK hH hLo 2 f_aEx rfl 1 (by decide) (by decide) (by decide) d_Mo_add_173 (fun H61 locs hH z62 hLo => ?_)
        have hz : s.heap.size ≤ H61.size := by rw [z62]; exact hz
        obtain ⟨h63, e64⟩ : ∃ z, z = hu h59 aEx (.inl ((t 2), 700, .inl (upd gEx 1 0))) := ⟨_, rfl⟩
        have hH : hm D vwCl G h63 H61 := by rw [e64]; exact hH
        have f_m : h63 mo = some (.inr (9, [.int 0, .int (nI n), .int 0, .ref aBy, .ref aSt, .ref aDe, .int 0, .int (-1), .int 0, .ref aPa, .int (1 + 1), .ref aIt, .ref aId, .ref aPr, .ref aNa, .ref aSi, .ref aSe, .ref aIw, .ref aEx, .ref aOl, .int 0, .ref aPl, .int 0, .int 0, .ref aTa, .ref aAt, .ref aLo, .int 0, .int 0, .ref aS1, .ref aS2, .ref aS3, .ref aS4, .ref aS5, .ref aS6, .int 0, .ref aO1, .ref aO2, .ref aO3, .ref aO4, .ref aO5])) := by rw [e64, hu_n (Ne.symm (h_neA f_aEx f_m))]; exact f_m
        have f_aEx : h63 aEx = some (.inl ((t 2), 700, .inl (upd gEx 1 0))) := by rw [e64]; exact hu_s _ _ _
        refine lv_iload hx hb d_Mo_add_174 (lv_at hl 0 rfl) ?_
        exact W.iret (v := 1) hx hb hr (fun t9 ht hW => ⟨1, h63, rfl, Or.inr ⟨rfl, rfl, mt (lg_cmp_eq _ _).mpr hc15, hc7⟩, by rw [ht]; exact hH, by rw [ht]; exact hz⟩) hLo d_Mo_add_176
    · skip
      refine hm_calli (va_runV (As := [.int d9]) (b := mo) (rest := []) ⟨hx, hb, hml, hown, hts⟩ (c_m_isNode l D t G ak av h mo n aBy aSt aDe aPa aIt aId aPr aNa aSi aSe aIw aEx aOl aPl aTa aAt aLo aS1 aS2 aS3 aS4 aS5 aS6 aO1 aO2 aO3 aO4 aO5 gIt d9 f_m f_aIt zIt) ⟨cw9B 1 hts mw_444 mw_445 mw_428 rfl rfl (by decide +kernel) ⟨Nat.le_of_ble_eq_true rfl, Nat.le_of_ble_eq_true rfl⟩, hts _ mw_446, hts _ mw_447⟩ (hP_V (q := (R_Mo, F_Mo, 41)) kE_ok hE hK hH f_m rfl) rfl rfl hl.1 rfl (lv_room (Nat.le_of_ble_eq_true rfl)) d_Mo_add_23 ⟨Nat.le_of_ble_eq_true rfl, Nat.le_of_ble_eq_true rfl⟩) hLo (fun r65 h66 H67 locs hp69 hH z68 hLo => ?_)
      have hz : s.heap.size ≤ H67.size := Nat.le_trans hz z68
      obtain ⟨hr9, rfl⟩ := hp69
      rw [if_neg hin] at hr9
      subst hr9
      refine lv_if_eq (tgt := 62) hx hb d_Mo_add_26 (by decide) (fun hc70 => ?_) (fun hc70 => absurd rfl hc70)
      refine lv_bipush (v := -2) hx hb d_Mo_add_62 (by decide) ?_
      exact W.iret (v := (-2)) hx hb hr (fun t9 ht hW => ⟨(-2), h, rfl, Or.inl ⟨rfl, fun q => hin q.1⟩, by rw [ht]; exact hH, by rw [ht]; exact hz⟩) hLo d_Mo_add_64

set_option maxHeartbeats 4000000 in
set_option maxRecDepth 100000 in
theorem c_m_directory (l : Launch) (D : va_G) (t : Nat → ClassId) (G : hG) (ak av : Nat → Nat) (h : hM) (mo n : Nat) (nu : Int32) (wo : Int64) (hM : FrM t h mo n) : Met l y_Mo_directory (.code y_Mo_directory b_Mo_directory 4 (some .int) :: lw_g) { frames := 3, cells := 0, slots := 0, locals := 75 } (hP (kE D t G ak av) D vwCl G h [.ref mo, .int nu, .long wo]) (hQi D vwCl G (fun r h' => (r = -2 ∧ ¬ (nu = 0 ∧ tlV wo ≠ 0)) ∨ (r = 1 ∧ nu = 0 ∧ tlV wo ≠ 0))) 0 0 G.P := by
  refine Met.ofW (cc := b_Mo_directory) (maxL := 4) (ret := (some .int)) (by decide) rfl ?_
  intro p e s m args below meth c s₁ Bd hml hv
  obtain ⟨ha, hE, hH⟩ := hv
  have hx := Bd.exec
  have hb := Bd.bytes
  have hr := Bd.returns
  have hts : ∀ w ∈ lw_g, w.before args s = true := fun w hw => atoms_spec (ws := (.code y_Mo_directory b_Mo_directory 4 (some .int) :: lw_g)) Bd.pre w (List.mem_cons_of_mem _ hw)
  have hown : s.vm.findClass R_Mo = some m.cls := findClass_of_methodNamed Bd.named
  have hlocks := Bd.notSynchronized
  have hK := hE.1
  have hH0 := hH
  have hLo : hLc G.P [] := hLc_nil
  have hz : s.heap.size ≤ s.heap.size := Nat.le_refl _
  have hkp : kp [] h h := kp_rf
  have hl := lv_entry [.ref mo, .int nu, .long wo] (n := 4) (Nat.le_of_ble_eq_true rfl)
  rw [show entryFrame m args 4 = F0 m 0 ((lg_sl [.ref mo, .int nu, .long wo] ++ List.replicate (4 - (lg_sl [.ref mo, .int nu, .long wo]).length) Slot.unset).toArray) [] from (by rw [ha]; exact lg_entry_eq m [.ref mo, .int nu, .long wo] 4)]
  generalize (lg_sl [.ref mo, .int nu, .long wo] ++ List.replicate (4 - (lg_sl [.ref mo, .int nu, .long wo]).length) Slot.unset).toArray = ls at hl ⊢
  have hl : lv_has ls 4 [(0, .ref mo), (1, .int nu), (2, .long wo)] := hl
  refine FrM_elim hM ?_
  intro aBy aSt aDe aPa aIt aId aPr aNa aSi aSe aIw aEx aOl aPl aTa aAt aLo aS1 aS2 aS3 aS4 aS5 aS6 aO1 aO2 aO3 aO4 aO5 gBy gSt gDe gPa gIt gId gPr gSi gSe gIw gEx gOl gPl gTa gAt gLo gNa f_m f_aBy f_aSt f_aDe f_aPa f_aIt f_aId f_aPr f_aNa f_aSi f_aSe f_aIw f_aEx f_aOl f_aPl f_aTa f_aAt f_aLo zBy zSt zDe zIt zId zPr zSi zSe zEx ne_aIt_aId ne_aIt_aPr ne_aIt_aSi ne_aIt_aSe ne_aIt_aEx ne_aId_aPr ne_aId_aSi ne_aId_aSe ne_aId_aEx ne_aPr_aSi ne_aPr_aSe ne_aPr_aEx ne_aSi_aSe ne_aSi_aEx ne_aSe_aEx ne_aId_aAt ne_aId_aLo ne_aAt_aLo ne_aId_aOl ne_aIt_aIw ne_aId_aIw ne_aPr_aIw ne_aSi_aIw ne_aSe_aIw ne_aIw_aEx ne_aEx_aOl ne_aOl_aAt ne_aOl_aLo hn40 hn
  refine lv_aload_n hx hb d_Mo_directory_0 rfl (lv_at hl 0 rfl) ?_
  refine lv_iconst (v := 0) hx hb d_Mo_directory_1 (by decide) ?_
  refine hm_put (ci := 9) (v := .int 0) (ty := .int) (C := R_Mo) (T := F_Mo) (N := 41) hx hb hts ig_Mo t_Mo tk_Mo nm_Mo hown hK hH hLo f_m rfl 0 (by decide) (hts _ mw_432) (fun _ h9 => h9) rfl (by decide +kernel) rfl rfl (Nat.le_of_ble_eq_true rfl) d_Mo_directory_2 (fun H1 locs hH z2 hLo => ?_)
  have hz : s.heap.size ≤ H1.size := by rw [z2]; exact hz
  obtain ⟨h3, e4⟩ : ∃ z, z = hu h mo (.inr (9, [.int 0, .int (nI n), .int 0, .ref aBy, .ref aSt, .ref aDe, .int 0, .int (-1), .int 0, .ref aPa, .int 1, .ref aIt, .ref aId, .ref aPr, .ref aNa, .ref aSi, .ref aSe, .ref aIw, .ref aEx, .ref aOl, .int 0, .ref aPl, .int 0, .int 0, .ref aTa, .ref aAt, .ref aLo, .int 0, .int 0, .ref aS1, .ref aS2, .ref aS3, .ref aS4, .ref aS5, .ref aS6, .int 0, .ref aO1, .ref aO2, .ref aO3, .ref aO4, .ref aO5])) := ⟨_, rfl⟩
  have hH : hm D vwCl G h3 H1 := by rw [e4]; exact hH
  have f_aIt : h3 aIt = some (.inl ((t 1), 700, .inl gIt)) := by rw [e4, hu_n (h_neA f_aIt f_m)]; exact f_aIt
  have f_aId : h3 aId = some (.inl ((t 1), 700, .inl gId)) := by rw [e4, hu_n (h_neA f_aId f_m)]; exact f_aId
  have f_aPr : h3 aPr = some (.inl ((t 2), 700, .inl gPr)) := by rw [e4, hu_n (h_neA f_aPr f_m)]; exact f_aPr
  have f_aNa : h3 aNa = some (.inl ((t 3), 700, .inr (.inl gNa))) := by rw [e4, hu_n (h_neA f_aNa f_m)]; exact f_aNa
  have f_aSi : h3 aSi = some (.inl ((t 2), 700, .inl gSi)) := by rw [e4, hu_n (h_neA f_aSi f_m)]; exact f_aSi
  have f_aSe : h3 aSe = some (.inl ((t 2), 700, .inl gSe)) := by rw [e4, hu_n (h_neA f_aSe f_m)]; exact f_aSe
  have f_aIw : h3 aIw = some (.inl ((t 1), 700, .inl gIw)) := by rw [e4, hu_n (h_neA f_aIw f_m)]; exact f_aIw
  have f_aEx : h3 aEx = some (.inl ((t 2), 700, .inl gEx)) := by rw [e4, hu_n (h_neA f_aEx f_m)]; exact f_aEx
  have f_m : h3 mo = some (.inr (9, [.int 0, .int (nI n), .int 0, .ref aBy, .ref aSt, .ref aDe, .int 0, .int (-1), .int 0, .ref aPa, .int 1, .ref aIt, .ref aId, .ref aPr, .ref aNa, .ref aSi, .ref aSe, .ref aIw, .ref aEx, .ref aOl, .int 0, .ref aPl, .int 0, .int 0, .ref aTa, .ref aAt, .ref aLo, .int 0, .int 0, .ref aS1, .ref aS2, .ref aS3, .ref aS4, .ref aS5, .ref aS6, .int 0, .ref aO1, .ref aO2, .ref aO3, .ref aO4, .ref aO5])) := by rw [e4]; exact hu_s _ _ _
  refine lv_aload_n hx hb d_Mo_directory_5 rfl (lv_at hl 0 rfl) ?_
  refine lv_iload_n hx hb d_Mo_directory_6 rfl (lv_at hl 1 rfl) ?_
  refine lv_lload_n hx hb d_Mo_directory_7 rfl (lv_at hl 2 rfl) ?_
  refine lv_iconst (v := 1) hx hb d_Mo_directory_8 (by decide) ?_
  refine lv_iconst (v := 0) hx hb d_Mo_directory_9 (by decide) ?_
  refine lv_iconst (v := 0) hx hb d_Mo_directory_10 (by decide) ?_
  refine lv_iconst (v := 1) hx hb d_Mo_directory_11 (by decide) ?_
  refine hm_calli (va_runV (As := [.int nu, .long wo, .int 1, .int 0, .int 0, .int 1]) (b := mo) (rest := []) ⟨hx, hb, hml, hown, hts⟩ (c_m_add1 l D t G ak av h3 mo n aBy aSt aDe aPa aIt aId aPr aNa aSi aSe aIw aEx aOl aPl aTa aAt aLo aS1 aS2 aS3 aS4 aS5 aS6 aO1 aO2 aO3 aO4 aO5 gIt gId gPr gSi gSe gIw gEx gNa nu 0 0 1 wo f_m f_aIt f_aId f_aPr f_aNa f_aSi f_aSe f_aIw f_aEx zIt zId ne_aIt_aId ne_aIt_aPr ne_aIt_aSi ne_aIt_aSe ne_aIt_aEx ne_aId_aPr ne_aId_aSi ne_aId_aSe ne_aId_aEx ne_aPr_aSi ne_aPr_aSe ne_aPr_aEx ne_aSi_aSe ne_aSi_aEx ne_aSe_aEx ne_aIt_aIw ne_aId_aIw ne_aPr_aIw ne_aSi_aIw ne_aSe_aIw ne_aIw_aEx) ⟨cw9B 6 hts mw_460 mw_461 mw_428 rfl rfl (by decide +kernel) ⟨Nat.le_of_ble_eq_true rfl, Nat.le_of_ble_eq_true rfl⟩, hts _ mw_462, hts _ mw_463⟩ (hP_V (q := (R_Mo, F_Mo, 41)) kE_ok hE hK hH f_m rfl) rfl rfl hl.1 rfl (lv_room (Nat.le_of_ble_eq_true rfl)) d_Mo_directory_12 ⟨Nat.le_of_ble_eq_true rfl, Nat.le_of_ble_eq_true rfl⟩) hLo (fun r5 h6 H7 locs hp9 hH z8 hLo => ?_)
  have hz : s.heap.size ≤ H7.size := Nat.le_trans hz z8
  exact W.iret (v := r5) hx hb hr (fun t9 ht hW => ⟨r5, h6, rfl, hp9.imp (fun q => ⟨q.1, fun z => q.2 ⟨z.1, z.2, by decide⟩⟩) (fun q => ⟨q.1, q.2.1, q.2.2.1⟩), by rw [ht]; exact hH, by rw [ht]; exact hz⟩) hLo d_Mo_directory_15

set_option maxHeartbeats 4000000 in
set_option maxRecDepth 100000 in
theorem c_m_file (l : Launch) (D : va_G) (t : Nat → ClassId) (G : hG) (ak av : Nat → Nat) (h : hM) (mo n : Nat) (nu : Int32) (wo : Int64) (sz sd : Int32) (hM : FrM t h mo n) : Met l y_Mo_file (.code y_Mo_file b_Mo_file 6 (some .int) :: lw_g) { frames := 3, cells := 0, slots := 0, locals := 75 } (hP (kE D t G ak av) D vwCl G h [.ref mo, .int nu, .long wo, .int sz, .int sd]) (hQi D vwCl G (fun r h' => (r = -2 ∧ ¬ (nu = 0 ∧ tlV wo ≠ 0 ∧ cntC sz sd ≠ 0)) ∨ (r = 1 ∧ nu = 0 ∧ tlV wo ≠ 0 ∧ cntC sz sd ≠ 0))) 0 0 G.P := by
  refine Met.ofW (cc := b_Mo_file) (maxL := 6) (ret := (some .int)) (by decide) rfl ?_
  intro p e s m args below meth c s₁ Bd hml hv
  obtain ⟨ha, hE, hH⟩ := hv
  have hx := Bd.exec
  have hb := Bd.bytes
  have hr := Bd.returns
  have hts : ∀ w ∈ lw_g, w.before args s = true := fun w hw => atoms_spec (ws := (.code y_Mo_file b_Mo_file 6 (some .int) :: lw_g)) Bd.pre w (List.mem_cons_of_mem _ hw)
  have hown : s.vm.findClass R_Mo = some m.cls := findClass_of_methodNamed Bd.named
  have hlocks := Bd.notSynchronized
  have hK := hE.1
  have hH0 := hH
  have hLo : hLc G.P [] := hLc_nil
  have hz : s.heap.size ≤ s.heap.size := Nat.le_refl _
  have hkp : kp [] h h := kp_rf
  have hl := lv_entry [.ref mo, .int nu, .long wo, .int sz, .int sd] (n := 6) (Nat.le_of_ble_eq_true rfl)
  rw [show entryFrame m args 6 = F0 m 0 ((lg_sl [.ref mo, .int nu, .long wo, .int sz, .int sd] ++ List.replicate (6 - (lg_sl [.ref mo, .int nu, .long wo, .int sz, .int sd]).length) Slot.unset).toArray) [] from (by rw [ha]; exact lg_entry_eq m [.ref mo, .int nu, .long wo, .int sz, .int sd] 6)]
  generalize (lg_sl [.ref mo, .int nu, .long wo, .int sz, .int sd] ++ List.replicate (6 - (lg_sl [.ref mo, .int nu, .long wo, .int sz, .int sd]).length) Slot.unset).toArray = ls at hl ⊢
  have hl : lv_has ls 6 [(0, .ref mo), (1, .int nu), (2, .long wo), (4, .int sz), (5, .int sd)] := hl
  refine FrM_elim hM ?_
  intro aBy aSt aDe aPa aIt aId aPr aNa aSi aSe aIw aEx aOl aPl aTa aAt aLo aS1 aS2 aS3 aS4 aS5 aS6 aO1 aO2 aO3 aO4 aO5 gBy gSt gDe gPa gIt gId gPr gSi gSe gIw gEx gOl gPl gTa gAt gLo gNa f_m f_aBy f_aSt f_aDe f_aPa f_aIt f_aId f_aPr f_aNa f_aSi f_aSe f_aIw f_aEx f_aOl f_aPl f_aTa f_aAt f_aLo zBy zSt zDe zIt zId zPr zSi zSe zEx ne_aIt_aId ne_aIt_aPr ne_aIt_aSi ne_aIt_aSe ne_aIt_aEx ne_aId_aPr ne_aId_aSi ne_aId_aSe ne_aId_aEx ne_aPr_aSi ne_aPr_aSe ne_aPr_aEx ne_aSi_aSe ne_aSi_aEx ne_aSe_aEx ne_aId_aAt ne_aId_aLo ne_aAt_aLo ne_aId_aOl ne_aIt_aIw ne_aId_aIw ne_aPr_aIw ne_aSi_aIw ne_aSe_aIw ne_aIw_aEx ne_aEx_aOl ne_aOl_aAt ne_aOl_aLo hn40 hn
  refine lv_aload_n hx hb d_Mo_file_0 rfl (lv_at hl 0 rfl) ?_
  refine lv_iconst (v := 0) hx hb d_Mo_file_1 (by decide) ?_
  refine hm_put (ci := 9) (v := .int 0) (ty := .int) (C := R_Mo) (T := F_Mo) (N := 41) hx hb hts ig_Mo t_Mo tk_Mo nm_Mo hown hK hH hLo f_m rfl 0 (by decide) (hts _ mw_432) (fun _ h9 => h9) rfl (by decide +kernel) rfl rfl (Nat.le_of_ble_eq_true rfl) d_Mo_file_2 (fun H1 locs hH z2 hLo => ?_)
  have hz : s.heap.size ≤ H1.size := by rw [z2]; exact hz
  obtain ⟨h3, e4⟩ : ∃ z, z = hu h mo (.inr (9, [.int 0, .int (nI n), .int 0, .ref aBy, .ref aSt, .ref aDe, .int 0, .int (-1), .int 0, .ref aPa, .int 1, .ref aIt, .ref aId, .ref aPr, .ref aNa, .ref aSi, .ref aSe, .ref aIw, .ref aEx, .ref aOl, .int 0, .ref aPl, .int 0, .int 0, .ref aTa, .ref aAt, .ref aLo, .int 0, .int 0, .ref aS1, .ref aS2, .ref aS3, .ref aS4, .ref aS5, .ref aS6, .int 0, .ref aO1, .ref aO2, .ref aO3, .ref aO4, .ref aO5])) := ⟨_, rfl⟩
  have hH : hm D vwCl G h3 H1 := by rw [e4]; exact hH
  have f_aIt : h3 aIt = some (.inl ((t 1), 700, .inl gIt)) := by rw [e4, hu_n (h_neA f_aIt f_m)]; exact f_aIt
  have f_aId : h3 aId = some (.inl ((t 1), 700, .inl gId)) := by rw [e4, hu_n (h_neA f_aId f_m)]; exact f_aId
  have f_aPr : h3 aPr = some (.inl ((t 2), 700, .inl gPr)) := by rw [e4, hu_n (h_neA f_aPr f_m)]; exact f_aPr
  have f_aNa : h3 aNa = some (.inl ((t 3), 700, .inr (.inl gNa))) := by rw [e4, hu_n (h_neA f_aNa f_m)]; exact f_aNa
  have f_aSi : h3 aSi = some (.inl ((t 2), 700, .inl gSi)) := by rw [e4, hu_n (h_neA f_aSi f_m)]; exact f_aSi
  have f_aSe : h3 aSe = some (.inl ((t 2), 700, .inl gSe)) := by rw [e4, hu_n (h_neA f_aSe f_m)]; exact f_aSe
  have f_aIw : h3 aIw = some (.inl ((t 1), 700, .inl gIw)) := by rw [e4, hu_n (h_neA f_aIw f_m)]; exact f_aIw
  have f_aEx : h3 aEx = some (.inl ((t 2), 700, .inl gEx)) := by rw [e4, hu_n (h_neA f_aEx f_m)]; exact f_aEx
  have f_m : h3 mo = some (.inr (9, [.int 0, .int (nI n), .int 0, .ref aBy, .ref aSt, .ref aDe, .int 0, .int (-1), .int 0, .ref aPa, .int 1, .ref aIt, .ref aId, .ref aPr, .ref aNa, .ref aSi, .ref aSe, .ref aIw, .ref aEx, .ref aOl, .int 0, .ref aPl, .int 0, .int 0, .ref aTa, .ref aAt, .ref aLo, .int 0, .int 0, .ref aS1, .ref aS2, .ref aS3, .ref aS4, .ref aS5, .ref aS6, .int 0, .ref aO1, .ref aO2, .ref aO3, .ref aO4, .ref aO5])) := by rw [e4]; exact hu_s _ _ _
  refine lv_aload_n hx hb d_Mo_file_5 rfl (lv_at hl 0 rfl) ?_
  refine lv_iload_n hx hb d_Mo_file_6 rfl (lv_at hl 1 rfl) ?_
  refine lv_lload_n hx hb d_Mo_file_7 rfl (lv_at hl 2 rfl) ?_
  refine lv_iconst (v := 0) hx hb d_Mo_file_8 (by decide) ?_
  refine lv_iload hx hb d_Mo_file_9 (lv_at hl 3 rfl) ?_
  refine lv_iload hx hb d_Mo_file_11 (lv_at hl 4 rfl) ?_
  refine lv_iload hx hb d_Mo_file_13 (lv_at hl 3 rfl) ?_
  refine lv_iload hx hb d_Mo_file_15 (lv_at hl 4 rfl) ?_
  refine hm_calli (va_runS (As := [.int sz, .int sd]) (rest := [.int sd, .int sz, .int 0, .long wo, .int nu, .ref mo]) ⟨hx, hb, hml, hown, hts⟩ (c_m_isContent l D t G ak av h3 sz sd) ⟨cw9B 2 hts mw_464 mw_465 mw_428 rfl rfl (by decide +kernel) ⟨Nat.le_of_ble_eq_true rfl, Nat.le_of_ble_eq_true rfl⟩, hts _ mw_466⟩ (hP_S kE_ok hE hH) rfl rfl hl.1 rfl (lv_room (Nat.le_of_ble_eq_true rfl)) d_Mo_file_17 ⟨Nat.le_of_ble_eq_true rfl, Nat.le_of_ble_eq_true rfl⟩) hLo (fun r5 h6 H7 locs hp9 hH z8 hLo => ?_)
  have hz : s.heap.size ≤ H7.size := Nat.le_trans hz z8
  obtain ⟨rfl, rfl⟩ := hp9
  refine hm_calli (va_runV (As := [.int nu, .long wo, .int 0, .int sz, .int sd, .int (cntC sz sd)]) (b := mo) (rest := []) ⟨hx, hb, hml, hown, hts⟩ (c_m_add0 l D t G ak av h3 mo n aBy aSt aDe aPa aIt aId aPr aNa aSi aSe aIw aEx aOl aPl aTa aAt aLo aS1 aS2 aS3 aS4 aS5 aS6 aO1 aO2 aO3 aO4 aO5 gIt gId gPr gSi gSe gIw gEx gNa nu sz sd (cntC sz sd) wo f_m f_aIt f_aId f_aPr f_aNa f_aSi f_aSe f_aIw f_aEx zIt zId ne_aIt_aId ne_aIt_aPr ne_aIt_aSi ne_aIt_aSe ne_aIt_aEx ne_aId_aPr ne_aId_aSi ne_aId_aSe ne_aId_aEx ne_aPr_aSi ne_aPr_aSe ne_aPr_aEx ne_aSi_aSe ne_aSi_aEx ne_aSe_aEx ne_aIt_aIw ne_aId_aIw ne_aPr_aIw ne_aSi_aIw ne_aSe_aIw ne_aIw_aEx) ⟨cw9B 6 hts mw_460 mw_461 mw_428 rfl rfl (by decide +kernel) ⟨Nat.le_of_ble_eq_true rfl, Nat.le_of_ble_eq_true rfl⟩, hts _ mw_462, hts _ mw_463⟩ (hP_V (q := (R_Mo, F_Mo, 41)) kE_ok hE hK hH f_m rfl) rfl rfl hl.1 rfl (lv_room (Nat.le_of_ble_eq_true rfl)) d_Mo_file_20 ⟨Nat.le_of_ble_eq_true rfl, Nat.le_of_ble_eq_true rfl⟩) hLo (fun r10 h11 H12 locs hp14 hH z13 hLo => ?_)
  have hz : s.heap.size ≤ H12.size := Nat.le_trans hz z13
  exact W.iret (v := r10) hx hb hr (fun t9 ht hW => ⟨r10, h11, rfl, hp14, by rw [ht]; exact hH, by rw [ht]; exact hz⟩) hLo d_Mo_file_23
