set_option maxRecDepth 100000 in
theorem mw_920 : Cond.code y_Di_defect b_Di_defect 2 (some .boolean) ∈ lw_g := lw_gin (List.mem_append_right _ (List.mem_of_getElem? (i := 267) rfl)) (by decide +kernel)
set_option maxRecDepth 100000 in
theorem mw_921 : Cond.methodLink R_La 40 y_Di_defect ∈ lw_g := lw_gin (List.mem_append_right _ (List.mem_of_getElem? (i := 264) rfl)) (by decide +kernel)
set_option maxRecDepth 100000 in
theorem mw_922 : Cond.instanceMethod y_Di_defect ∈ lw_g := lw_gin (List.mem_append_right _ (List.mem_of_getElem? (i := 265) rfl)) (by decide +kernel)
set_option maxRecDepth 100000 in
theorem mw_923 : Cond.selects R_Di y_Di_defect y_Di_defect ∈ lw_g := lw_gin (List.mem_append_right _ (List.mem_of_getElem? (i := 266) rfl)) (by decide +kernel)
set_option maxRecDepth 100000 in
theorem mw_924 : Cond.code y_Mo_defect b_Mo_defect 2 (some .boolean) ∈ lw_g := lw_gin (List.mem_append_right _ (List.mem_of_getElem? (i := 1046) rfl)) (by decide +kernel)
set_option maxRecDepth 100000 in
theorem mw_925 : Cond.methodLink R_La 44 y_Mo_defect ∈ lw_g := lw_gin (List.mem_append_right _ (List.mem_of_getElem? (i := 1043) rfl)) (by decide +kernel)
set_option maxRecDepth 100000 in
theorem mw_926 : Cond.instanceMethod y_Mo_defect ∈ lw_g := lw_gin (List.mem_append_right _ (List.mem_of_getElem? (i := 1044) rfl)) (by decide +kernel)
set_option maxRecDepth 100000 in
theorem mw_927 : Cond.selects R_Mo y_Mo_defect y_Mo_defect ∈ lw_g := lw_gin (List.mem_append_right _ (List.mem_of_getElem? (i := 1045) rfl)) (by decide +kernel)
set_option maxRecDepth 100000 in
theorem mw_928 : Cond.code y_Di_power b_Di_power 2 none ∈ lw_g := lw_gin (List.mem_append_right _ (List.mem_of_getElem? (i := 279) rfl)) (by decide +kernel)
set_option maxRecDepth 100000 in
theorem mw_929 : Cond.methodLink R_La 45 y_Di_power ∈ lw_g := lw_gin (List.mem_append_right _ (List.mem_of_getElem? (i := 276) rfl)) (by decide +kernel)
set_option maxRecDepth 100000 in
theorem mw_930 : Cond.instanceMethod y_Di_power ∈ lw_g := lw_gin (List.mem_append_right _ (List.mem_of_getElem? (i := 277) rfl)) (by decide +kernel)
set_option maxRecDepth 100000 in
theorem mw_931 : Cond.selects R_Di y_Di_power y_Di_power ∈ lw_g := lw_gin (List.mem_append_right _ (List.mem_of_getElem? (i := 278) rfl)) (by decide +kernel)
set_option maxRecDepth 100000 in
theorem mw_932 : Cond.code y_Mo_power b_Mo_power 2 none ∈ lw_g := lw_gin (List.mem_append_right _ (List.mem_of_getElem? (i := 1053) rfl)) (by decide +kernel)
set_option maxRecDepth 100000 in
theorem mw_933 : Cond.methodLink R_La 48 y_Mo_power ∈ lw_g := lw_gin (List.mem_append_right _ (List.mem_of_getElem? (i := 1050) rfl)) (by decide +kernel)
set_option maxRecDepth 100000 in
theorem mw_934 : Cond.instanceMethod y_Mo_power ∈ lw_g := lw_gin (List.mem_append_right _ (List.mem_of_getElem? (i := 1051) rfl)) (by decide +kernel)
set_option maxRecDepth 100000 in
theorem mw_935 : Cond.selects R_Mo y_Mo_power y_Mo_power ∈ lw_g := lw_gin (List.mem_append_right _ (List.mem_of_getElem? (i := 1052) rfl)) (by decide +kernel)
set_option maxRecDepth 100000 in
theorem mw_936 : Cond.constantLong R_La 49 (4294967295) ∈ lw_g := lw_gin (List.mem_append_right _ (List.mem_of_getElem? (i := 1322) rfl)) (by decide +kernel)
set_option maxRecDepth 100000 in
theorem mw_937 : Cond.code y_Di_directory b_Di_directory 5 (some .int) ∈ lw_g := lw_gin (List.mem_append_right _ (List.mem_of_getElem? (i := 283) rfl)) (by decide +kernel)
set_option maxRecDepth 100000 in
theorem mw_938 : Cond.methodLink R_La 51 y_Di_directory ∈ lw_g := lw_gin (List.mem_append_right _ (List.mem_of_getElem? (i := 280) rfl)) (by decide +kernel)
set_option maxRecDepth 100000 in
theorem mw_939 : Cond.instanceMethod y_Di_directory ∈ lw_g := lw_gin (List.mem_append_right _ (List.mem_of_getElem? (i := 281) rfl)) (by decide +kernel)
set_option maxRecDepth 100000 in
theorem mw_940 : Cond.selects R_Di y_Di_directory y_Di_directory ∈ lw_g := lw_gin (List.mem_append_right _ (List.mem_of_getElem? (i := 282) rfl)) (by decide +kernel)
set_option maxRecDepth 100000 in
theorem mw_941 : Cond.code y_Mo_directory b_Mo_directory 4 (some .int) ∈ lw_g := lw_gin (List.mem_append_right _ (List.mem_of_getElem? (i := 1057) rfl)) (by decide +kernel)
set_option maxRecDepth 100000 in
theorem mw_942 : Cond.methodLink R_La 55 y_Mo_directory ∈ lw_g := lw_gin (List.mem_append_right _ (List.mem_of_getElem? (i := 1054) rfl)) (by decide +kernel)
set_option maxRecDepth 100000 in
theorem mw_943 : Cond.instanceMethod y_Mo_directory ∈ lw_g := lw_gin (List.mem_append_right _ (List.mem_of_getElem? (i := 1055) rfl)) (by decide +kernel)
set_option maxRecDepth 100000 in
theorem mw_944 : Cond.selects R_Mo y_Mo_directory y_Mo_directory ∈ lw_g := lw_gin (List.mem_append_right _ (List.mem_of_getElem? (i := 1056) rfl)) (by decide +kernel)
set_option maxRecDepth 100000 in
theorem mw_945 : Cond.code y_Di_file b_Di_file 9 (some .int) ∈ lw_g := lw_gin (List.mem_append_right _ (List.mem_of_getElem? (i := 329) rfl)) (by decide +kernel)
set_option maxRecDepth 100000 in
theorem mw_946 : Cond.methodLink R_La 56 y_Di_file ∈ lw_g := lw_gin (List.mem_append_right _ (List.mem_of_getElem? (i := 326) rfl)) (by decide +kernel)
set_option maxRecDepth 100000 in
theorem mw_947 : Cond.instanceMethod y_Di_file ∈ lw_g := lw_gin (List.mem_append_right _ (List.mem_of_getElem? (i := 327) rfl)) (by decide +kernel)
set_option maxRecDepth 100000 in
theorem mw_948 : Cond.selects R_Di y_Di_file y_Di_file ∈ lw_g := lw_gin (List.mem_append_right _ (List.mem_of_getElem? (i := 328) rfl)) (by decide +kernel)
set_option maxRecDepth 100000 in
theorem mw_949 : Cond.code y_Mo_file b_Mo_file 6 (some .int) ∈ lw_g := lw_gin (List.mem_append_right _ (List.mem_of_getElem? (i := 1088) rfl)) (by decide +kernel)
set_option maxRecDepth 100000 in
theorem mw_950 : Cond.methodLink R_La 60 y_Mo_file ∈ lw_g := lw_gin (List.mem_append_right _ (List.mem_of_getElem? (i := 1085) rfl)) (by decide +kernel)
set_option maxRecDepth 100000 in
theorem mw_951 : Cond.instanceMethod y_Mo_file ∈ lw_g := lw_gin (List.mem_append_right _ (List.mem_of_getElem? (i := 1086) rfl)) (by decide +kernel)
set_option maxRecDepth 100000 in
theorem mw_952 : Cond.selects R_Mo y_Mo_file y_Mo_file ∈ lw_g := lw_gin (List.mem_append_right _ (List.mem_of_getElem? (i := 1087) rfl)) (by decide +kernel)
set_option maxRecDepth 100000 in
theorem mw_953 : Cond.code y_Di_replace b_Di_replace 5 (some .int) ∈ lw_g := lw_gin (List.mem_append_right _ (List.mem_of_getElem? (i := 338) rfl)) (by decide +kernel)
set_option maxRecDepth 100000 in
theorem mw_954 : Cond.methodLink R_La 61 y_Di_replace ∈ lw_g := lw_gin (List.mem_append_right _ (List.mem_of_getElem? (i := 335) rfl)) (by decide +kernel)
set_option maxRecDepth 100000 in
theorem mw_955 : Cond.instanceMethod y_Di_replace ∈ lw_g := lw_gin (List.mem_append_right _ (List.mem_of_getElem? (i := 336) rfl)) (by decide +kernel)
set_option maxRecDepth 100000 in
theorem mw_956 : Cond.selects R_Di y_Di_replace y_Di_replace ∈ lw_g := lw_gin (List.mem_append_right _ (List.mem_of_getElem? (i := 337) rfl)) (by decide +kernel)
set_option maxRecDepth 100000 in
theorem mw_957 : Cond.code y_Mo_replace b_Mo_replace 4 (some .int) ∈ lw_g := lw_gin (List.mem_append_right _ (List.mem_of_getElem? (i := 1095) rfl)) (by decide +kernel)
set_option maxRecDepth 100000 in
theorem mw_958 : Cond.methodLink R_La 65 y_Mo_replace ∈ lw_g := lw_gin (List.mem_append_right _ (List.mem_of_getElem? (i := 1092) rfl)) (by decide +kernel)
set_option maxRecDepth 100000 in
theorem mw_959 : Cond.instanceMethod y_Mo_replace ∈ lw_g := lw_gin (List.mem_append_right _ (List.mem_of_getElem? (i := 1093) rfl)) (by decide +kernel)
set_option maxRecDepth 100000 in
theorem mw_960 : Cond.selects R_Mo y_Mo_replace y_Mo_replace ∈ lw_g := lw_gin (List.mem_append_right _ (List.mem_of_getElem? (i := 1094) rfl)) (by decide +kernel)
set_option maxRecDepth 100000 in
theorem mw_961 : Cond.code y_Di_remove b_Di_remove 3 (some .int) ∈ lw_g := lw_gin (List.mem_append_right _ (List.mem_of_getElem? (i := 342) rfl)) (by decide +kernel)
set_option maxRecDepth 100000 in
theorem mw_962 : Cond.methodLink R_La 66 y_Di_remove ∈ lw_g := lw_gin (List.mem_append_right _ (List.mem_of_getElem? (i := 339) rfl)) (by decide +kernel)
set_option maxRecDepth 100000 in
theorem mw_963 : Cond.instanceMethod y_Di_remove ∈ lw_g := lw_gin (List.mem_append_right _ (List.mem_of_getElem? (i := 340) rfl)) (by decide +kernel)
set_option maxRecDepth 100000 in
theorem mw_964 : Cond.selects R_Di y_Di_remove y_Di_remove ∈ lw_g := lw_gin (List.mem_append_right _ (List.mem_of_getElem? (i := 341) rfl)) (by decide +kernel)
set_option maxRecDepth 100000 in
theorem mw_965 : Cond.code y_Mo_remove b_Mo_remove 3 (some .int) ∈ lw_g := lw_gin (List.mem_append_right _ (List.mem_of_getElem? (i := 1099) rfl)) (by decide +kernel)
set_option maxRecDepth 100000 in
theorem mw_966 : Cond.methodLink R_La 70 y_Mo_remove ∈ lw_g := lw_gin (List.mem_append_right _ (List.mem_of_getElem? (i := 1096) rfl)) (by decide +kernel)
set_option maxRecDepth 100000 in
theorem mw_967 : Cond.instanceMethod y_Mo_remove ∈ lw_g := lw_gin (List.mem_append_right _ (List.mem_of_getElem? (i := 1097) rfl)) (by decide +kernel)
set_option maxRecDepth 100000 in
theorem mw_968 : Cond.selects R_Mo y_Mo_remove y_Mo_remove ∈ lw_g := lw_gin (List.mem_append_right _ (List.mem_of_getElem? (i := 1098) rfl)) (by decide +kernel)
set_option maxRecDepth 100000 in
theorem mw_969 : Cond.code y_Di_rename b_Di_rename 9 (some .int) ∈ lw_g := lw_gin (List.mem_append_right _ (List.mem_of_getElem? (i := 354) rfl)) (by decide +kernel)
set_option maxRecDepth 100000 in
theorem mw_970 : Cond.methodLink R_La 71 y_Di_rename ∈ lw_g := lw_gin (List.mem_append_right _ (List.mem_of_getElem? (i := 351) rfl)) (by decide +kernel)
set_option maxRecDepth 100000 in
theorem mw_971 : Cond.instanceMethod y_Di_rename ∈ lw_g := lw_gin (List.mem_append_right _ (List.mem_of_getElem? (i := 352) rfl)) (by decide +kernel)
set_option maxRecDepth 100000 in
theorem mw_972 : Cond.selects R_Di y_Di_rename y_Di_rename ∈ lw_g := lw_gin (List.mem_append_right _ (List.mem_of_getElem? (i := 353) rfl)) (by decide +kernel)
set_option maxRecDepth 100000 in
theorem mw_973 : Cond.code y_Mo_rename b_Mo_rename 9 (some .int) ∈ lw_g := lw_gin (List.mem_append_right _ (List.mem_of_getElem? (i := 1103) rfl)) (by decide +kernel)
set_option maxRecDepth 100000 in
theorem mw_974 : Cond.methodLink R_La 75 y_Mo_rename ∈ lw_g := lw_gin (List.mem_append_right _ (List.mem_of_getElem? (i := 1100) rfl)) (by decide +kernel)
set_option maxRecDepth 100000 in
theorem mw_975 : Cond.instanceMethod y_Mo_rename ∈ lw_g := lw_gin (List.mem_append_right _ (List.mem_of_getElem? (i := 1101) rfl)) (by decide +kernel)
set_option maxRecDepth 100000 in
theorem mw_976 : Cond.selects R_Mo y_Mo_rename y_Mo_rename ∈ lw_g := lw_gin (List.mem_append_right _ (List.mem_of_getElem? (i := 1102) rfl)) (by decide +kernel)
set_option maxRecDepth 100000 in
theorem mw_977 : Cond.code y_Di_commit b_Di_commit 2 (some .int) ∈ lw_g := lw_gin (List.mem_append_right _ (List.mem_of_getElem? (i := 372) rfl)) (by decide +kernel)
set_option maxRecDepth 100000 in
theorem mw_978 : Cond.methodLink R_La 76 y_Di_commit ∈ lw_g := lw_gin (List.mem_append_right _ (List.mem_of_getElem? (i := 369) rfl)) (by decide +kernel)
set_option maxRecDepth 100000 in
theorem mw_979 : Cond.instanceMethod y_Di_commit ∈ lw_g := lw_gin (List.mem_append_right _ (List.mem_of_getElem? (i := 370) rfl)) (by decide +kernel)
set_option maxRecDepth 100000 in
theorem mw_980 : Cond.selects R_Di y_Di_commit y_Di_commit ∈ lw_g := lw_gin (List.mem_append_right _ (List.mem_of_getElem? (i := 371) rfl)) (by decide +kernel)
set_option maxRecDepth 100000 in
theorem mw_981 : Cond.code y_Mo_commit b_Mo_commit 3 (some .int) ∈ lw_g := lw_gin (List.mem_append_right _ (List.mem_of_getElem? (i := 1115) rfl)) (by decide +kernel)
set_option maxRecDepth 100000 in
theorem mw_982 : Cond.methodLink R_La 80 y_Mo_commit ∈ lw_g := lw_gin (List.mem_append_right _ (List.mem_of_getElem? (i := 1112) rfl)) (by decide +kernel)
set_option maxRecDepth 100000 in
theorem mw_983 : Cond.instanceMethod y_Mo_commit ∈ lw_g := lw_gin (List.mem_append_right _ (List.mem_of_getElem? (i := 1113) rfl)) (by decide +kernel)
set_option maxRecDepth 100000 in
theorem mw_984 : Cond.selects R_Mo y_Mo_commit y_Mo_commit ∈ lw_g := lw_gin (List.mem_append_right _ (List.mem_of_getElem? (i := 1114) rfl)) (by decide +kernel)
set_option maxRecDepth 100000 in
theorem mw_985 : Cond.code y_Di_discover b_Di_discover 3 (some .int) ∈ lw_g := lw_gin (List.mem_append_right _ (List.mem_of_getElem? (i := 598) rfl)) (by decide +kernel)
set_option maxRecDepth 100000 in
theorem mw_986 : Cond.methodLink R_La 81 y_Di_discover ∈ lw_g := lw_gin (List.mem_append_right _ (List.mem_of_getElem? (i := 595) rfl)) (by decide +kernel)
set_option maxRecDepth 100000 in
theorem mw_987 : Cond.instanceMethod y_Di_discover ∈ lw_g := lw_gin (List.mem_append_right _ (List.mem_of_getElem? (i := 596) rfl)) (by decide +kernel)
set_option maxRecDepth 100000 in
theorem mw_988 : Cond.selects R_Di y_Di_discover y_Di_discover ∈ lw_g := lw_gin (List.mem_append_right _ (List.mem_of_getElem? (i := 597) rfl)) (by decide +kernel)
set_option maxRecDepth 100000 in
theorem mw_989 : Cond.code y_Mo_discover b_Mo_discover 4 (some .int) ∈ lw_g := lw_gin (List.mem_append_right _ (List.mem_of_getElem? (i := 1288) rfl)) (by decide +kernel)
set_option maxRecDepth 100000 in
theorem mw_990 : Cond.methodLink R_La 84 y_Mo_discover ∈ lw_g := lw_gin (List.mem_append_right _ (List.mem_of_getElem? (i := 1285) rfl)) (by decide +kernel)
set_option maxRecDepth 100000 in
theorem mw_991 : Cond.instanceMethod y_Mo_discover ∈ lw_g := lw_gin (List.mem_append_right _ (List.mem_of_getElem? (i := 1286) rfl)) (by decide +kernel)
set_option maxRecDepth 100000 in
theorem mw_992 : Cond.selects R_Mo y_Mo_discover y_Mo_discover ∈ lw_g := lw_gin (List.mem_append_right _ (List.mem_of_getElem? (i := 1287) rfl)) (by decide +kernel)
set_option maxRecDepth 100000 in
theorem mw_993 : Cond.code y_Di_compact b_Di_compact 3 (some .int) ∈ lw_g := lw_gin (List.mem_append_right _ (List.mem_of_getElem? (i := 746) rfl)) (by decide +kernel)
set_option maxRecDepth 100000 in
theorem mw_994 : Cond.methodLink R_La 85 y_Di_compact ∈ lw_g := lw_gin (List.mem_append_right _ (List.mem_of_getElem? (i := 743) rfl)) (by decide +kernel)
set_option maxRecDepth 100000 in
theorem mw_995 : Cond.instanceMethod y_Di_compact ∈ lw_g := lw_gin (List.mem_append_right _ (List.mem_of_getElem? (i := 744) rfl)) (by decide +kernel)
set_option maxRecDepth 100000 in
theorem mw_996 : Cond.selects R_Di y_Di_compact y_Di_compact ∈ lw_g := lw_gin (List.mem_append_right _ (List.mem_of_getElem? (i := 745) rfl)) (by decide +kernel)
set_option maxRecDepth 100000 in
theorem mw_997 : Cond.code y_Mo_compact b_Mo_compact 4 (some .int) ∈ lw_g := lw_gin (List.mem_append_right _ (List.mem_of_getElem? (i := 1209) rfl)) (by decide +kernel)
set_option maxRecDepth 100000 in
theorem mw_998 : Cond.methodLink R_La 88 y_Mo_compact ∈ lw_g := lw_gin (List.mem_append_right _ (List.mem_of_getElem? (i := 1206) rfl)) (by decide +kernel)
set_option maxRecDepth 100000 in
theorem mw_999 : Cond.instanceMethod y_Mo_compact ∈ lw_g := lw_gin (List.mem_append_right _ (List.mem_of_getElem? (i := 1207) rfl)) (by decide +kernel)
set_option maxRecDepth 100000 in
theorem mw_1000 : Cond.selects R_Mo y_Mo_compact y_Mo_compact ∈ lw_g := lw_gin (List.mem_append_right _ (List.mem_of_getElem? (i := 1208) rfl)) (by decide +kernel)
theorem d_La_law_144 : decode b_La_law 144 = .ok (.aload_n 1, 1) := by decide +kernel
theorem d_La_law_145 : decode b_La_law 145 = .ok (.aload_n 0, 1) := by decide +kernel
theorem d_La_law_146 : decode b_La_law 146 = .ok (.iload 4, 2) := by decide +kernel
theorem d_La_law_148 : decode b_La_law 148 = .ok (.iconst 1, 1) := by decide +kernel
theorem d_La_law_149 : decode b_La_law 149 = .ok (.iadd, 1) := by decide +kernel
theorem d_La_law_150 : decode b_La_law 150 = .ok (.iaload, 1) := by decide +kernel
theorem d_La_law_151 : decode b_La_law 151 = .ok (.invokevirtual 40, 3) := by decide +kernel
theorem d_La_law_154 : decode b_La_law 154 = .ok (.aload_n 2, 1) := by decide +kernel
theorem d_La_law_155 : decode b_La_law 155 = .ok (.aload_n 0, 1) := by decide +kernel
theorem d_La_law_156 : decode b_La_law 156 = .ok (.iload 4, 2) := by decide +kernel
theorem d_La_law_158 : decode b_La_law 158 = .ok (.iconst 1, 1) := by decide +kernel
theorem d_La_law_159 : decode b_La_law 159 = .ok (.iadd, 1) := by decide +kernel
theorem d_La_law_160 : decode b_La_law 160 = .ok (.iaload, 1) := by decide +kernel
theorem d_La_law_161 : decode b_La_law 161 = .ok (.invokevirtual 44, 3) := by decide +kernel
theorem d_La_law_164 : decode b_La_law 164 = .ok (.if_icmp .eq 697, 3) := by decide +kernel
theorem d_La_law_169 : decode b_La_law 169 = .ok (.aload_n 1, 1) := by decide +kernel
theorem d_La_law_170 : decode b_La_law 170 = .ok (.aload_n 0, 1) := by decide +kernel
theorem d_La_law_171 : decode b_La_law 171 = .ok (.iload 4, 2) := by decide +kernel
theorem d_La_law_173 : decode b_La_law 173 = .ok (.iconst 1, 1) := by decide +kernel
theorem d_La_law_174 : decode b_La_law 174 = .ok (.iadd, 1) := by decide +kernel
theorem d_La_law_175 : decode b_La_law 175 = .ok (.iaload, 1) := by decide +kernel
theorem d_La_law_176 : decode b_La_law 176 = .ok (.invokevirtual 45, 3) := by decide +kernel
theorem d_La_law_179 : decode b_La_law 179 = .ok (.aload_n 2, 1) := by decide +kernel
theorem d_La_law_180 : decode b_La_law 180 = .ok (.aload_n 0, 1) := by decide +kernel
theorem d_La_law_181 : decode b_La_law 181 = .ok (.iload 4, 2) := by decide +kernel
theorem d_La_law_183 : decode b_La_law 183 = .ok (.iconst 1, 1) := by decide +kernel
theorem d_La_law_184 : decode b_La_law 184 = .ok (.iadd, 1) := by decide +kernel
theorem d_La_law_185 : decode b_La_law 185 = .ok (.iaload, 1) := by decide +kernel
theorem d_La_law_186 : decode b_La_law 186 = .ok (.invokevirtual 48, 3) := by decide +kernel
theorem d_La_law_189 : decode b_La_law 189 = .ok (.goto 672, 3) := by decide +kernel
theorem d_La_law_192 : decode b_La_law 192 = .ok (.aload_n 1, 1) := by decide +kernel
theorem d_La_law_193 : decode b_La_law 193 = .ok (.aload_n 0, 1) := by decide +kernel
theorem d_La_law_194 : decode b_La_law 194 = .ok (.iload 4, 2) := by decide +kernel
theorem d_La_law_196 : decode b_La_law 196 = .ok (.iconst 1, 1) := by decide +kernel
theorem d_La_law_197 : decode b_La_law 197 = .ok (.iadd, 1) := by decide +kernel
theorem d_La_law_198 : decode b_La_law 198 = .ok (.iaload, 1) := by decide +kernel
theorem d_La_law_199 : decode b_La_law 199 = .ok (.aload_n 0, 1) := by decide +kernel
theorem d_La_law_200 : decode b_La_law 200 = .ok (.iload 4, 2) := by decide +kernel
theorem d_La_law_202 : decode b_La_law 202 = .ok (.iconst 2, 1) := by decide +kernel
theorem d_La_law_203 : decode b_La_law 203 = .ok (.iadd, 1) := by decide +kernel
theorem d_La_law_204 : decode b_La_law 204 = .ok (.iaload, 1) := by decide +kernel
theorem d_La_law_205 : decode b_La_law 205 = .ok (.i2l, 1) := by decide +kernel
theorem d_La_law_206 : decode b_La_law 206 = .ok (.bipush 32, 2) := by decide +kernel
theorem d_La_law_208 : decode b_La_law 208 = .ok (.lshl, 1) := by decide +kernel
theorem d_La_law_209 : decode b_La_law 209 = .ok (.aload_n 0, 1) := by decide +kernel
theorem d_La_law_210 : decode b_La_law 210 = .ok (.iload 4, 2) := by decide +kernel
theorem d_La_law_212 : decode b_La_law 212 = .ok (.iconst 3, 1) := by decide +kernel
theorem d_La_law_213 : decode b_La_law 213 = .ok (.iadd, 1) := by decide +kernel
theorem d_La_law_214 : decode b_La_law 214 = .ok (.iaload, 1) := by decide +kernel
theorem d_La_law_215 : decode b_La_law 215 = .ok (.i2l, 1) := by decide +kernel
theorem d_La_law_216 : decode b_La_law 216 = .ok (.ldc2_w 49, 3) := by decide +kernel
theorem d_La_law_219 : decode b_La_law 219 = .ok (.land, 1) := by decide +kernel
theorem d_La_law_220 : decode b_La_law 220 = .ok (.lor, 1) := by decide +kernel
theorem d_La_law_221 : decode b_La_law 221 = .ok (.invokevirtual 51, 3) := by decide +kernel
theorem d_La_law_224 : decode b_La_law 224 = .ok (.pop, 1) := by decide +kernel
theorem d_La_law_225 : decode b_La_law 225 = .ok (.aload_n 2, 1) := by decide +kernel
theorem d_La_law_226 : decode b_La_law 226 = .ok (.aload_n 0, 1) := by decide +kernel
theorem d_La_law_227 : decode b_La_law 227 = .ok (.iload 4, 2) := by decide +kernel
theorem d_La_law_229 : decode b_La_law 229 = .ok (.iconst 1, 1) := by decide +kernel
theorem d_La_law_230 : decode b_La_law 230 = .ok (.iadd, 1) := by decide +kernel
theorem d_La_law_231 : decode b_La_law 231 = .ok (.iaload, 1) := by decide +kernel
theorem d_La_law_232 : decode b_La_law 232 = .ok (.aload_n 0, 1) := by decide +kernel
theorem d_La_law_233 : decode b_La_law 233 = .ok (.iload 4, 2) := by decide +kernel
theorem d_La_law_235 : decode b_La_law 235 = .ok (.iconst 2, 1) := by decide +kernel
theorem d_La_law_236 : decode b_La_law 236 = .ok (.iadd, 1) := by decide +kernel
theorem d_La_law_237 : decode b_La_law 237 = .ok (.iaload, 1) := by decide +kernel
theorem d_La_law_238 : decode b_La_law 238 = .ok (.i2l, 1) := by decide +kernel
theorem d_La_law_239 : decode b_La_law 239 = .ok (.bipush 32, 2) := by decide +kernel
theorem d_La_law_241 : decode b_La_law 241 = .ok (.lshl, 1) := by decide +kernel
theorem d_La_law_242 : decode b_La_law 242 = .ok (.aload_n 0, 1) := by decide +kernel
theorem d_La_law_243 : decode b_La_law 243 = .ok (.iload 4, 2) := by decide +kernel
theorem d_La_law_245 : decode b_La_law 245 = .ok (.iconst 3, 1) := by decide +kernel
theorem d_La_law_246 : decode b_La_law 246 = .ok (.iadd, 1) := by decide +kernel
theorem d_La_law_247 : decode b_La_law 247 = .ok (.iaload, 1) := by decide +kernel
theorem d_La_law_248 : decode b_La_law 248 = .ok (.i2l, 1) := by decide +kernel
theorem d_La_law_249 : decode b_La_law 249 = .ok (.ldc2_w 49, 3) := by decide +kernel
theorem d_La_law_252 : decode b_La_law 252 = .ok (.land, 1) := by decide +kernel
theorem d_La_law_253 : decode b_La_law 253 = .ok (.lor, 1) := by decide +kernel
theorem d_La_law_254 : decode b_La_law 254 = .ok (.invokevirtual 55, 3) := by decide +kernel
theorem d_La_law_257 : decode b_La_law 257 = .ok (.pop, 1) := by decide +kernel
theorem d_La_law_258 : decode b_La_law 258 = .ok (.goto 603, 3) := by decide +kernel
theorem d_La_law_261 : decode b_La_law 261 = .ok (.aload_n 1, 1) := by decide +kernel
theorem d_La_law_262 : decode b_La_law 262 = .ok (.aload_n 0, 1) := by decide +kernel
theorem d_La_law_263 : decode b_La_law 263 = .ok (.iload 4, 2) := by decide +kernel
theorem d_La_law_265 : decode b_La_law 265 = .ok (.iconst 1, 1) := by decide +kernel
theorem d_La_law_266 : decode b_La_law 266 = .ok (.iadd, 1) := by decide +kernel
theorem d_La_law_267 : decode b_La_law 267 = .ok (.iaload, 1) := by decide +kernel
theorem d_La_law_268 : decode b_La_law 268 = .ok (.aload_n 0, 1) := by decide +kernel
theorem d_La_law_269 : decode b_La_law 269 = .ok (.iload 4, 2) := by decide +kernel
theorem d_La_law_271 : decode b_La_law 271 = .ok (.iconst 2, 1) := by decide +kernel
theorem d_La_law_272 : decode b_La_law 272 = .ok (.iadd, 1) := by decide +kernel
theorem d_La_law_273 : decode b_La_law 273 = .ok (.iaload, 1) := by decide +kernel
theorem d_La_law_274 : decode b_La_law 274 = .ok (.i2l, 1) := by decide +kernel
theorem d_La_law_275 : decode b_La_law 275 = .ok (.bipush 32, 2) := by decide +kernel
theorem d_La_law_277 : decode b_La_law 277 = .ok (.lshl, 1) := by decide +kernel
theorem d_La_law_278 : decode b_La_law 278 = .ok (.aload_n 0, 1) := by decide +kernel
theorem d_La_law_279 : decode b_La_law 279 = .ok (.iload 4, 2) := by decide +kernel
theorem d_La_law_281 : decode b_La_law 281 = .ok (.iconst 3, 1) := by decide +kernel
theorem d_La_law_282 : decode b_La_law 282 = .ok (.iadd, 1) := by decide +kernel
theorem d_La_law_283 : decode b_La_law 283 = .ok (.iaload, 1) := by decide +kernel
theorem d_La_law_284 : decode b_La_law 284 = .ok (.i2l, 1) := by decide +kernel
theorem d_La_law_285 : decode b_La_law 285 = .ok (.ldc2_w 49, 3) := by decide +kernel
theorem d_La_law_288 : decode b_La_law 288 = .ok (.land, 1) := by decide +kernel
theorem d_La_law_289 : decode b_La_law 289 = .ok (.lor, 1) := by decide +kernel
theorem d_La_law_290 : decode b_La_law 290 = .ok (.aload_n 0, 1) := by decide +kernel
theorem d_La_law_291 : decode b_La_law 291 = .ok (.iload 4, 2) := by decide +kernel
theorem d_La_law_293 : decode b_La_law 293 = .ok (.iconst 4, 1) := by decide +kernel
theorem d_La_law_294 : decode b_La_law 294 = .ok (.iadd, 1) := by decide +kernel
theorem d_La_law_295 : decode b_La_law 295 = .ok (.iaload, 1) := by decide +kernel
theorem d_La_law_296 : decode b_La_law 296 = .ok (.aload_n 0, 1) := by decide +kernel
theorem d_La_law_297 : decode b_La_law 297 = .ok (.iload 4, 2) := by decide +kernel
theorem d_La_law_299 : decode b_La_law 299 = .ok (.iconst 5, 1) := by decide +kernel
theorem d_La_law_300 : decode b_La_law 300 = .ok (.iadd, 1) := by decide +kernel
theorem d_La_law_301 : decode b_La_law 301 = .ok (.iaload, 1) := by decide +kernel
theorem d_La_law_302 : decode b_La_law 302 = .ok (.invokevirtual 56, 3) := by decide +kernel
theorem d_La_law_305 : decode b_La_law 305 = .ok (.pop, 1) := by decide +kernel
theorem d_La_law_306 : decode b_La_law 306 = .ok (.aload_n 2, 1) := by decide +kernel
theorem d_La_law_307 : decode b_La_law 307 = .ok (.aload_n 0, 1) := by decide +kernel
theorem d_La_law_308 : decode b_La_law 308 = .ok (.iload 4, 2) := by decide +kernel
theorem d_La_law_310 : decode b_La_law 310 = .ok (.iconst 1, 1) := by decide +kernel
theorem d_La_law_311 : decode b_La_law 311 = .ok (.iadd, 1) := by decide +kernel
theorem d_La_law_312 : decode b_La_law 312 = .ok (.iaload, 1) := by decide +kernel
theorem d_La_law_313 : decode b_La_law 313 = .ok (.aload_n 0, 1) := by decide +kernel
theorem d_La_law_314 : decode b_La_law 314 = .ok (.iload 4, 2) := by decide +kernel
theorem d_La_law_316 : decode b_La_law 316 = .ok (.iconst 2, 1) := by decide +kernel
theorem d_La_law_317 : decode b_La_law 317 = .ok (.iadd, 1) := by decide +kernel
theorem d_La_law_318 : decode b_La_law 318 = .ok (.iaload, 1) := by decide +kernel
theorem d_La_law_319 : decode b_La_law 319 = .ok (.i2l, 1) := by decide +kernel
theorem d_La_law_320 : decode b_La_law 320 = .ok (.bipush 32, 2) := by decide +kernel
theorem d_La_law_322 : decode b_La_law 322 = .ok (.lshl, 1) := by decide +kernel
theorem d_La_law_323 : decode b_La_law 323 = .ok (.aload_n 0, 1) := by decide +kernel
theorem d_La_law_324 : decode b_La_law 324 = .ok (.iload 4, 2) := by decide +kernel
theorem d_La_law_326 : decode b_La_law 326 = .ok (.iconst 3, 1) := by decide +kernel
theorem d_La_law_327 : decode b_La_law 327 = .ok (.iadd, 1) := by decide +kernel
theorem d_La_law_328 : decode b_La_law 328 = .ok (.iaload, 1) := by decide +kernel
theorem d_La_law_329 : decode b_La_law 329 = .ok (.i2l, 1) := by decide +kernel
theorem d_La_law_330 : decode b_La_law 330 = .ok (.ldc2_w 49, 3) := by decide +kernel
theorem d_La_law_333 : decode b_La_law 333 = .ok (.land, 1) := by decide +kernel
theorem d_La_law_334 : decode b_La_law 334 = .ok (.lor, 1) := by decide +kernel
theorem d_La_law_335 : decode b_La_law 335 = .ok (.aload_n 0, 1) := by decide +kernel
theorem d_La_law_336 : decode b_La_law 336 = .ok (.iload 4, 2) := by decide +kernel
theorem d_La_law_338 : decode b_La_law 338 = .ok (.iconst 4, 1) := by decide +kernel
theorem d_La_law_339 : decode b_La_law 339 = .ok (.iadd, 1) := by decide +kernel
theorem d_La_law_340 : decode b_La_law 340 = .ok (.iaload, 1) := by decide +kernel
theorem d_La_law_341 : decode b_La_law 341 = .ok (.aload_n 0, 1) := by decide +kernel
theorem d_La_law_342 : decode b_La_law 342 = .ok (.iload 4, 2) := by decide +kernel
theorem d_La_law_344 : decode b_La_law 344 = .ok (.iconst 5, 1) := by decide +kernel
theorem d_La_law_345 : decode b_La_law 345 = .ok (.iadd, 1) := by decide +kernel
theorem d_La_law_346 : decode b_La_law 346 = .ok (.iaload, 1) := by decide +kernel
theorem d_La_law_347 : decode b_La_law 347 = .ok (.invokevirtual 60, 3) := by decide +kernel
theorem d_La_law_350 : decode b_La_law 350 = .ok (.pop, 1) := by decide +kernel
theorem d_La_law_351 : decode b_La_law 351 = .ok (.goto 510, 3) := by decide +kernel
theorem d_La_law_354 : decode b_La_law 354 = .ok (.aload_n 1, 1) := by decide +kernel
theorem d_La_law_355 : decode b_La_law 355 = .ok (.aload_n 0, 1) := by decide +kernel
theorem d_La_law_356 : decode b_La_law 356 = .ok (.iload 4, 2) := by decide +kernel
theorem d_La_law_358 : decode b_La_law 358 = .ok (.iconst 1, 1) := by decide +kernel
theorem d_La_law_359 : decode b_La_law 359 = .ok (.iadd, 1) := by decide +kernel
theorem d_La_law_360 : decode b_La_law 360 = .ok (.iaload, 1) := by decide +kernel
theorem d_La_law_361 : decode b_La_law 361 = .ok (.aload_n 0, 1) := by decide +kernel
theorem d_La_law_362 : decode b_La_law 362 = .ok (.iload 4, 2) := by decide +kernel
theorem d_La_law_364 : decode b_La_law 364 = .ok (.iconst 2, 1) := by decide +kernel
theorem d_La_law_365 : decode b_La_law 365 = .ok (.iadd, 1) := by decide +kernel
theorem d_La_law_366 : decode b_La_law 366 = .ok (.iaload, 1) := by decide +kernel
theorem d_La_law_367 : decode b_La_law 367 = .ok (.aload_n 0, 1) := by decide +kernel
theorem d_La_law_368 : decode b_La_law 368 = .ok (.iload 4, 2) := by decide +kernel
theorem d_La_law_370 : decode b_La_law 370 = .ok (.iconst 3, 1) := by decide +kernel
theorem d_La_law_371 : decode b_La_law 371 = .ok (.iadd, 1) := by decide +kernel
theorem d_La_law_372 : decode b_La_law 372 = .ok (.iaload, 1) := by decide +kernel
theorem d_La_law_373 : decode b_La_law 373 = .ok (.invokevirtual 61, 3) := by decide +kernel
theorem d_La_law_376 : decode b_La_law 376 = .ok (.pop, 1) := by decide +kernel
theorem d_La_law_377 : decode b_La_law 377 = .ok (.aload_n 2, 1) := by decide +kernel
theorem d_La_law_378 : decode b_La_law 378 = .ok (.aload_n 0, 1) := by decide +kernel
theorem d_La_law_379 : decode b_La_law 379 = .ok (.iload 4, 2) := by decide +kernel
theorem d_La_law_381 : decode b_La_law 381 = .ok (.iconst 1, 1) := by decide +kernel
theorem d_La_law_382 : decode b_La_law 382 = .ok (.iadd, 1) := by decide +kernel
theorem d_La_law_383 : decode b_La_law 383 = .ok (.iaload, 1) := by decide +kernel
theorem d_La_law_384 : decode b_La_law 384 = .ok (.aload_n 0, 1) := by decide +kernel
theorem d_La_law_385 : decode b_La_law 385 = .ok (.iload 4, 2) := by decide +kernel
theorem d_La_law_387 : decode b_La_law 387 = .ok (.iconst 2, 1) := by decide +kernel
theorem d_La_law_388 : decode b_La_law 388 = .ok (.iadd, 1) := by decide +kernel
theorem d_La_law_389 : decode b_La_law 389 = .ok (.iaload, 1) := by decide +kernel
theorem d_La_law_390 : decode b_La_law 390 = .ok (.aload_n 0, 1) := by decide +kernel
theorem d_La_law_391 : decode b_La_law 391 = .ok (.iload 4, 2) := by decide +kernel
theorem d_La_law_393 : decode b_La_law 393 = .ok (.iconst 3, 1) := by decide +kernel
theorem d_La_law_394 : decode b_La_law 394 = .ok (.iadd, 1) := by decide +kernel
theorem d_La_law_395 : decode b_La_law 395 = .ok (.iaload, 1) := by decide +kernel
theorem d_La_law_396 : decode b_La_law 396 = .ok (.invokevirtual 65, 3) := by decide +kernel
theorem d_La_law_399 : decode b_La_law 399 = .ok (.pop, 1) := by decide +kernel
theorem d_La_law_400 : decode b_La_law 400 = .ok (.goto 461, 3) := by decide +kernel
theorem d_La_law_403 : decode b_La_law 403 = .ok (.aload_n 1, 1) := by decide +kernel
theorem d_La_law_404 : decode b_La_law 404 = .ok (.aload_n 0, 1) := by decide +kernel
theorem d_La_law_405 : decode b_La_law 405 = .ok (.iload 4, 2) := by decide +kernel
theorem d_La_law_407 : decode b_La_law 407 = .ok (.iconst 1, 1) := by decide +kernel
theorem d_La_law_408 : decode b_La_law 408 = .ok (.iadd, 1) := by decide +kernel
theorem d_La_law_409 : decode b_La_law 409 = .ok (.iaload, 1) := by decide +kernel
theorem d_La_law_410 : decode b_La_law 410 = .ok (.invokevirtual 66, 3) := by decide +kernel
theorem d_La_law_413 : decode b_La_law 413 = .ok (.pop, 1) := by decide +kernel
theorem d_La_law_414 : decode b_La_law 414 = .ok (.aload_n 2, 1) := by decide +kernel
theorem d_La_law_415 : decode b_La_law 415 = .ok (.aload_n 0, 1) := by decide +kernel
theorem d_La_law_416 : decode b_La_law 416 = .ok (.iload 4, 2) := by decide +kernel
theorem d_La_law_418 : decode b_La_law 418 = .ok (.iconst 1, 1) := by decide +kernel
theorem d_La_law_419 : decode b_La_law 419 = .ok (.iadd, 1) := by decide +kernel
theorem d_La_law_420 : decode b_La_law 420 = .ok (.iaload, 1) := by decide +kernel
theorem d_La_law_421 : decode b_La_law 421 = .ok (.invokevirtual 70, 3) := by decide +kernel
theorem d_La_law_424 : decode b_La_law 424 = .ok (.pop, 1) := by decide +kernel
theorem d_La_law_425 : decode b_La_law 425 = .ok (.goto 436, 3) := by decide +kernel
theorem d_La_law_428 : decode b_La_law 428 = .ok (.aload_n 1, 1) := by decide +kernel
theorem d_La_law_429 : decode b_La_law 429 = .ok (.aload_n 0, 1) := by decide +kernel
theorem d_La_law_430 : decode b_La_law 430 = .ok (.iload 4, 2) := by decide +kernel
theorem d_La_law_432 : decode b_La_law 432 = .ok (.iconst 1, 1) := by decide +kernel
theorem d_La_law_433 : decode b_La_law 433 = .ok (.iadd, 1) := by decide +kernel
theorem d_La_law_434 : decode b_La_law 434 = .ok (.iaload, 1) := by decide +kernel
theorem d_La_law_435 : decode b_La_law 435 = .ok (.aload_n 0, 1) := by decide +kernel
theorem d_La_law_436 : decode b_La_law 436 = .ok (.iload 4, 2) := by decide +kernel
theorem d_La_law_438 : decode b_La_law 438 = .ok (.iconst 2, 1) := by decide +kernel
theorem d_La_law_439 : decode b_La_law 439 = .ok (.iadd, 1) := by decide +kernel
theorem d_La_law_440 : decode b_La_law 440 = .ok (.iaload, 1) := by decide +kernel
theorem d_La_law_441 : decode b_La_law 441 = .ok (.aload_n 0, 1) := by decide +kernel
theorem d_La_law_442 : decode b_La_law 442 = .ok (.iload 4, 2) := by decide +kernel
theorem d_La_law_444 : decode b_La_law 444 = .ok (.iconst 3, 1) := by decide +kernel
theorem d_La_law_445 : decode b_La_law 445 = .ok (.iadd, 1) := by decide +kernel
theorem d_La_law_446 : decode b_La_law 446 = .ok (.iaload, 1) := by decide +kernel
theorem d_La_law_447 : decode b_La_law 447 = .ok (.i2l, 1) := by decide +kernel
theorem d_La_law_448 : decode b_La_law 448 = .ok (.bipush 32, 2) := by decide +kernel
theorem d_La_law_450 : decode b_La_law 450 = .ok (.lshl, 1) := by decide +kernel
theorem d_La_law_451 : decode b_La_law 451 = .ok (.aload_n 0, 1) := by decide +kernel
theorem d_La_law_452 : decode b_La_law 452 = .ok (.iload 4, 2) := by decide +kernel
theorem d_La_law_454 : decode b_La_law 454 = .ok (.iconst 4, 1) := by decide +kernel
theorem d_La_law_455 : decode b_La_law 455 = .ok (.iadd, 1) := by decide +kernel
theorem d_La_law_456 : decode b_La_law 456 = .ok (.iaload, 1) := by decide +kernel
theorem d_La_law_457 : decode b_La_law 457 = .ok (.i2l, 1) := by decide +kernel
theorem d_La_law_458 : decode b_La_law 458 = .ok (.ldc2_w 49, 3) := by decide +kernel
theorem d_La_law_461 : decode b_La_law 461 = .ok (.land, 1) := by decide +kernel
theorem d_La_law_462 : decode b_La_law 462 = .ok (.lor, 1) := by decide +kernel
theorem d_La_law_463 : decode b_La_law 463 = .ok (.invokevirtual 71, 3) := by decide +kernel
theorem d_La_law_466 : decode b_La_law 466 = .ok (.pop, 1) := by decide +kernel
theorem d_La_law_467 : decode b_La_law 467 = .ok (.aload_n 2, 1) := by decide +kernel
theorem d_La_law_468 : decode b_La_law 468 = .ok (.aload_n 0, 1) := by decide +kernel
theorem d_La_law_469 : decode b_La_law 469 = .ok (.iload 4, 2) := by decide +kernel
theorem d_La_law_471 : decode b_La_law 471 = .ok (.iconst 1, 1) := by decide +kernel
theorem d_La_law_472 : decode b_La_law 472 = .ok (.iadd, 1) := by decide +kernel
theorem d_La_law_473 : decode b_La_law 473 = .ok (.iaload, 1) := by decide +kernel
theorem d_La_law_474 : decode b_La_law 474 = .ok (.aload_n 0, 1) := by decide +kernel
theorem d_La_law_475 : decode b_La_law 475 = .ok (.iload 4, 2) := by decide +kernel
theorem d_La_law_477 : decode b_La_law 477 = .ok (.iconst 2, 1) := by decide +kernel
theorem d_La_law_478 : decode b_La_law 478 = .ok (.iadd, 1) := by decide +kernel
theorem d_La_law_479 : decode b_La_law 479 = .ok (.iaload, 1) := by decide +kernel
theorem d_La_law_480 : decode b_La_law 480 = .ok (.aload_n 0, 1) := by decide +kernel
theorem d_La_law_481 : decode b_La_law 481 = .ok (.iload 4, 2) := by decide +kernel
theorem d_La_law_483 : decode b_La_law 483 = .ok (.iconst 3, 1) := by decide +kernel
theorem d_La_law_484 : decode b_La_law 484 = .ok (.iadd, 1) := by decide +kernel
theorem d_La_law_485 : decode b_La_law 485 = .ok (.iaload, 1) := by decide +kernel
theorem d_La_law_486 : decode b_La_law 486 = .ok (.i2l, 1) := by decide +kernel
theorem d_La_law_487 : decode b_La_law 487 = .ok (.bipush 32, 2) := by decide +kernel
theorem d_La_law_489 : decode b_La_law 489 = .ok (.lshl, 1) := by decide +kernel
theorem d_La_law_490 : decode b_La_law 490 = .ok (.aload_n 0, 1) := by decide +kernel
theorem d_La_law_491 : decode b_La_law 491 = .ok (.iload 4, 2) := by decide +kernel
theorem d_La_law_493 : decode b_La_law 493 = .ok (.iconst 4, 1) := by decide +kernel
theorem d_La_law_494 : decode b_La_law 494 = .ok (.iadd, 1) := by decide +kernel
theorem d_La_law_495 : decode b_La_law 495 = .ok (.iaload, 1) := by decide +kernel
theorem d_La_law_496 : decode b_La_law 496 = .ok (.i2l, 1) := by decide +kernel
theorem d_La_law_497 : decode b_La_law 497 = .ok (.ldc2_w 49, 3) := by decide +kernel
theorem d_La_law_500 : decode b_La_law 500 = .ok (.land, 1) := by decide +kernel
theorem d_La_law_501 : decode b_La_law 501 = .ok (.lor, 1) := by decide +kernel
theorem d_La_law_502 : decode b_La_law 502 = .ok (.invokevirtual 75, 3) := by decide +kernel
theorem d_La_law_505 : decode b_La_law 505 = .ok (.pop, 1) := by decide +kernel
theorem d_La_law_506 : decode b_La_law 506 = .ok (.goto 355, 3) := by decide +kernel
theorem d_La_law_509 : decode b_La_law 509 = .ok (.aload_n 1, 1) := by decide +kernel
theorem d_La_law_510 : decode b_La_law 510 = .ok (.invokevirtual 76, 3) := by decide +kernel
theorem d_La_law_513 : decode b_La_law 513 = .ok (.pop, 1) := by decide +kernel
theorem d_La_law_514 : decode b_La_law 514 = .ok (.aload_n 2, 1) := by decide +kernel
theorem d_La_law_515 : decode b_La_law 515 = .ok (.invokevirtual 80, 3) := by decide +kernel
theorem d_La_law_518 : decode b_La_law 518 = .ok (.pop, 1) := by decide +kernel
theorem d_La_law_519 : decode b_La_law 519 = .ok (.goto 342, 3) := by decide +kernel
theorem d_La_law_522 : decode b_La_law 522 = .ok (.aload_n 1, 1) := by decide +kernel
theorem d_La_law_523 : decode b_La_law 523 = .ok (.invokevirtual 81, 3) := by decide +kernel
theorem d_La_law_526 : decode b_La_law 526 = .ok (.pop, 1) := by decide +kernel
theorem d_La_law_527 : decode b_La_law 527 = .ok (.aload_n 2, 1) := by decide +kernel
theorem d_La_law_528 : decode b_La_law 528 = .ok (.invokevirtual 84, 3) := by decide +kernel
theorem d_La_law_531 : decode b_La_law 531 = .ok (.pop, 1) := by decide +kernel
theorem d_La_law_532 : decode b_La_law 532 = .ok (.goto 329, 3) := by decide +kernel
theorem d_La_law_535 : decode b_La_law 535 = .ok (.aload_n 1, 1) := by decide +kernel
theorem d_La_law_536 : decode b_La_law 536 = .ok (.invokevirtual 85, 3) := by decide +kernel
theorem d_La_law_539 : decode b_La_law 539 = .ok (.pop, 1) := by decide +kernel
theorem d_La_law_540 : decode b_La_law 540 = .ok (.aload_n 2, 1) := by decide +kernel
theorem d_La_law_541 : decode b_La_law 541 = .ok (.invokevirtual 88, 3) := by decide +kernel
theorem d_La_law_544 : decode b_La_law 544 = .ok (.pop, 1) := by decide +kernel
theorem d_La_law_545 : decode b_La_law 545 = .ok (.goto 316, 3) := by decide +kernel
/-! THE CLAIM OUT OF ONE WALK OF THE LAW'S BODY. Your part is whole_start (and what it stands on); all else here is the same for every law, but numbers. -/
def R_law : String := "WriteOnceDiscLaw"
def lw_P (b : Addr) (xs : List Int32) (args : Array Value) (s : State) : Prop := args = #[.ref b] ∧ s.IntsAt b xs ∧ xs.length ≤ 3073 ∧ (Jvm.Cond.and given_1 narrow_1).before args s = true
def lw_Q (_ : Array Value) (s : State) (o : Outcome) (t : State) : Prop := o = .returned (some (.int 1)) ∧ Framed s o t [] 601024 7293000
def lw_Z (below : List Frame) (a : Array Value) (s : State) : State → Prop := fun t => ∃ o, t.status = .running ∧ Ended t below o ∧ lw_Q a s o t
/-- the law's own end, with 1 on the stack, nothing written that was there before, its room as the claim has it -/
theorem lw_ret {p : Program} {l : Launch} {e : Env} {s : State} {m : MethodId} {below : List Frame} {meth : Method} {c : Code} {b : Nat} (hx : p.tables.exec = Jvm.exec) (hb : c.code = code) (hr : meth.sig.returnType = ret) (hlocks : meth.locks = false) {pc : Nat} {H : Heap} {ls : Array Slot} (hdg : decode code pc = .ok (.ireturn, 1)) : W p l e room_1 s m #[Value.ref b] below meth c H [] 601024 7293000 (lw_Z below #[Value.ref b] s) (F0 m pc ls [.int 1]) := by
  intro T hT X
  obtain ⟨fs, hret, hrun, hended, hW, hframe⟩ := X.leave (v := some (.int 1)) (hlocks := hlocks) (fun h => by rw [hr] at h; cases h)
  have hmeth' : T.vm.method? m = some meth := X.method'
  refine ⟨T.setFrames fs, ?_, .returned (some (.int 1)), hrun, hended, rfl, ⟨_, rfl⟩, hW, hframe⟩
  jvm_step X.here [X.here.top, hx, hb, hdg, hmeth', hr, ret, narrow_b1]
  (try refine ⟨rfl, ?_⟩); (try refine ⟨rfl, ?_⟩)
  first | (intro acts; rw [hret _ acts rfl rfl rfl]) | rw [hret _ _ rfl rfl rfl]
  exact Steps.refl _
/-- what holds at the law's entry: the machine, the code, the tables' words (any of lw_tbl by 'hts w (by decide +kernel)'), the script of L ints xs at the cell b, what the Statement gives of the start (any of its parts by flat_of_before) -/
def lw_At (p : Program) (s : State) (m : MethodId) (meth : Method) (c : Code) (b L : Nat) (xs : Nat → Int32) : Prop :=
  p.tables.exec = Jvm.exec ∧ c.code = code ∧ meth.sig.returnType = ret ∧ c.maxLocals = 8 ∧ s.vm.findClass R_law = some m.cls ∧ (∀ w ∈ lw_tbl, w.before #[Value.ref b] s = true) ∧ va_X b L xs s s.heap ∧ b < s.heap.size ∧ meth.locks = false ∧ (Jvm.Cond.and given_1 narrow_1).before #[Value.ref b] s = true

set_option maxHeartbeats 4000000 in
set_option maxRecDepth 100000 in
theorem law_c0 {p : Program} {e : Env} {s : State} {m : MethodId} {below : List Frame} {meth : Method} {c : Code} (l : Launch) (hfl : l.flags = flags0) {b : Nat} {xs : Nat → Int32} (hx : p.tables.exec = Jvm.exec) (hb : c.code = b_La_law) (hr : meth.sig.returnType = ret) (hml : c.maxLocals = 8) (hown : s.vm.findClass R_La = some m.cls) (hts : ∀ w ∈ lw_g, w.before #[Value.ref b] s = true) (hlocks : meth.locks = false) {D : va_G} {t : Nat → ClassId} {ak av : Nat → Nat} {n x mo ou r L9 : Nat} {τm : tM} {A : Nat → Nat} {τ : tM} {L : List Nat} {h1 h3 : hM} {H : Heap} {locs : List Loc} {ls : Array Slot} {cs ss : Nat} {i9 : Int32} (hn : n ≤ 200) (hE0 : kE D t (gNew s.heap) ak av s) (hT0 : kT (gNew s.heap) s) (hXs : va_X b L9 xs s s.heap) (hbl : b < s.heap.size) (hr5 : r < 512) (hi : i9.toInt = 1 + 6 * r) (hiL : 6 * r + 6 < L9) (hq : LK D t s n x mo ou τm A τ L h1 h3 H locs r cs ss) (hl : lv_has ls 8 [(4, .int i9), (3, .ref ou), (2, .ref mo), (1, .ref x), (0, .ref b)]) (K : ∀ (τ : tM) (L : List Nat) (h1 h3 : hM) (H : Heap) (locs : List Loc) (ls : Array Slot) (cs ss : Nat), LK D t s n x mo ou τm A τ L h1 h3 H locs (r + 1) cs ss → lv_has ls 8 [(4, .int i9), (3, .ref ou), (2, .ref mo), (1, .ref x), (0, .ref b)] → W p l e room_1 s m #[Value.ref b] below meth c H locs cs ss (lw_Z below #[Value.ref b] s) (F0 m 861 ls [])) : W p l e room_1 s m #[Value.ref b] below meth c H locs cs ss (lw_Z below #[Value.ref b] s) (F0 m 144 ls []) := by
  have hbA : ¬ P0 s b := Nat.not_le.mpr hbl
  obtain ⟨hQ, hX, T_ou, hM9, hcs, hss⟩ := hq
  obtain ⟨hT, T_x, hU, hTr, hL1, hL2⟩ := id hX
  obtain ⟨fx9, F_x⟩ := X_ob hT T_x
  obtain ⟨hTm, T_mo, hA, th, sd, lo, le, wr, ma, nu, di, pl, se, wg, op, F_m, hmk, hTr9, hEx9, hOp9, hma9⟩ := hM9
  obtain ⟨ph, hph⟩ : ∃ z, z = nl L h1 + spz h1 x := ⟨_, rfl⟩
  rw [← hph] at hcs hss
  refine lv_aload_n hx hb d_La_law_144 rfl (lv_at hl 3 rfl) ?_
  refine lv_aload_n hx hb d_La_law_145 rfl (lv_at hl 4 rfl) ?_
  refine lv_iload hx hb d_La_law_146 (lv_at hl 0 rfl) ?_
  refine lv_iconst (v := 1) hx hb d_La_law_148 (by decide) ?_
  refine lv_iadd hx hb d_La_law_149 ?_
  refine lv_topi (fun v21 e22 => ?_)
  have is_v21 : v21.toInt = i9.toInt + 1 := by rw [e22]; exact iAddK 1 rfl (by omega) (by omega)
  refine va_sld hx hb hXs hbl hbA hQ.1 (iIn (by omega) (by omega)) d_La_law_150 ?_
  refine lv_topi (fun v23 e24 => ?_)
  have px25 : ∀ q, (gD H h1).P q → P0 s q := LQ_px hQ
  refine hm_callXi (va_runV (As := [.int v23]) (b := x) (rest := []) ⟨hx, hb, hml, hown, hts⟩ (x_defect l D t (gD H h1) ak av h1 τ n x v23 hn hT T_x ) ⟨cw9B 1 hts mw_920 mw_921 mw_25 rfl rfl (by decide +kernel) ⟨Nat.le_of_ble_eq_true rfl, Nat.le_of_ble_eq_true rfl⟩, hts _ mw_922, hts _ mw_923⟩ (hP_V (q := (R_Di, F_Di, 9)) kE_ok (kE_g hE0 hQ.1 rfl px25) hE0.1 hQ.2.1 F_x rfl) rfl rfl hl.1 rfl (lv_room (Nat.le_of_ble_eq_true rfl)) d_La_law_151 ⟨rm_c (by omega), rm_s (by omega)⟩) hQ.1.2.2 px25 (fun r26 h27 H28 locs hp30 hH31 z29 hLo => ?_)
  obtain ⟨-, hT1, hk1, hnl1, hr1⟩ := hp30
  have hQ := LQ_x hQ hH31 hLo
  obtain ⟨hX, hph1⟩ := XI_k hX hT1 (TrP_kf hT1 hk1 (by decide) (by decide) (List.forall_mem_nil _) (knp_kf knp_rf hk1 (by decide) (List.forall_mem_nil _)) hTr) hnl1 (spz_kf rfl hk1 T_x (by decide) (List.forall_mem_nil _))
  rw [← hph] at hph1
  refine lv_aload_n hx hb d_La_law_154 rfl (lv_at hl 2 rfl) ?_
  refine lv_aload_n hx hb d_La_law_155 rfl (lv_at hl 4 rfl) ?_
  refine lv_iload hx hb d_La_law_156 (lv_at hl 0 rfl) ?_
  refine lv_iconst (v := 1) hx hb d_La_law_158 (by decide) ?_
  refine lv_iadd hx hb d_La_law_159 ?_
  refine lv_topi (fun v32 e33 => ?_)
  have is_v32 : v32.toInt = i9.toInt + 1 := by rw [e33]; exact iAddK 1 rfl (by omega) (by omega)
  refine va_sld hx hb hXs hbl hbA hQ.1 (iIn (by omega) (by omega)) d_La_law_160 ?_
  refine lv_topi (fun v34 e35 => ?_)
  have px36 : ∀ q, (gD H28 h3).P q → P0 s q := LQ_py hQ
  refine hm_callXi (va_runV (As := [.int v34]) (b := mo) (rest := [.int r26]) ⟨hx, hb, hml, hown, hts⟩ (m_defect l D t (gD H28 h3) ak av h3 τm n mo v34 A th sd lo le wr ma nu di pl se wg op hn hTm T_mo F_m hA hmk ) ⟨cw9B 1 hts mw_924 mw_925 mw_579 rfl rfl (by decide +kernel) ⟨Nat.le_of_ble_eq_true rfl, Nat.le_of_ble_eq_true rfl⟩, hts _ mw_926, hts _ mw_927⟩ (hP_V (q := (R_Mo, F_Mo, 41)) kE_ok (kE_g hE0 hQ.1 rfl px36) hE0.1 hQ.2.2.1 F_m rfl) rfl rfl hl.1 rfl (lv_room (Nat.le_of_ble_eq_true rfl)) d_La_law_161 ⟨rm_c (by omega), rm_s (by omega)⟩) hQ.1.2.2 px36 (fun r37 h38 H39 locs hp41 hH42 z40 hLo => ?_)
  obtain ⟨-, hTm1, hkm, th1, F_m1, hmk1, hX1⟩ := hp41
  have hQ := LQ_y hQ hH42 hLo
  have hM1 : MI τm t n h38 mo A (r + 1) := ⟨hTm1, T_mo, hA, th1, sd, lo, le, wr, ma, nu, di, pl, se, wg, op, F_m1, hmk1, (TX_kf hkm hA T_mo (by decide) (by decide) (by decide) (by decide) (by decide) (by decide) hTr9 hEx9).1, (TX_kf hkm hA T_mo (by decide) (by decide) (by decide) (by decide) (by decide) (by decide) hTr9 hEx9).2, (OP_kf hkm hA T_mo (by decide) (by decide) hOp9), (by omega)⟩
  have es9 : v34 = v23 := by rw [e35, e33, e24, e22]
  rw [es9] at hX1
  refine lv_icmp_eq (tgt := 861) hx hb d_La_law_164 (by decide) (fun hc43 => ?_) (fun hc43 => absurd (eq9 hr1 hX1 (fun p9 q9 => by omega)) hc43)
  exact K τ L h27 h38 H39 locs ls ((cs + 0) + 0) ((ss + 0) + 0) ⟨hQ, hX, T_ou, hM1, by omega, by omega⟩ (lv_sub hl [0, 1, 2, 3, 4] rfl)

set_option maxHeartbeats 4000000 in
set_option maxRecDepth 100000 in
theorem law_c1 {p : Program} {e : Env} {s : State} {m : MethodId} {below : List Frame} {meth : Method} {c : Code} (l : Launch) (hfl : l.flags = flags0) {b : Nat} {xs : Nat → Int32} (hx : p.tables.exec = Jvm.exec) (hb : c.code = b_La_law) (hr : meth.sig.returnType = ret) (hml : c.maxLocals = 8) (hown : s.vm.findClass R_La = some m.cls) (hts : ∀ w ∈ lw_g, w.before #[Value.ref b] s = true) (hlocks : meth.locks = false) {D : va_G} {t : Nat → ClassId} {ak av : Nat → Nat} {n x mo ou r L9 : Nat} {τm : tM} {A : Nat → Nat} {τ : tM} {L : List Nat} {h1 h3 : hM} {H : Heap} {locs : List Loc} {ls : Array Slot} {cs ss : Nat} {i9 : Int32} (hn : n ≤ 200) (hE0 : kE D t (gNew s.heap) ak av s) (hT0 : kT (gNew s.heap) s) (hXs : va_X b L9 xs s s.heap) (hbl : b < s.heap.size) (hr5 : r < 512) (hi : i9.toInt = 1 + 6 * r) (hiL : 6 * r + 6 < L9) (hq : LK D t s n x mo ou τm A τ L h1 h3 H locs r cs ss) (hl : lv_has ls 8 [(4, .int i9), (3, .ref ou), (2, .ref mo), (1, .ref x), (0, .ref b)]) (K : ∀ (τ : tM) (L : List Nat) (h1 h3 : hM) (H : Heap) (locs : List Loc) (ls : Array Slot) (cs ss : Nat), LK D t s n x mo ou τm A τ L h1 h3 H locs (r + 1) cs ss → lv_has ls 8 [(4, .int i9), (3, .ref ou), (2, .ref mo), (1, .ref x), (0, .ref b)] → W p l e room_1 s m #[Value.ref b] below meth c H locs cs ss (lw_Z below #[Value.ref b] s) (F0 m 861 ls [])) : W p l e room_1 s m #[Value.ref b] below meth c H locs cs ss (lw_Z below #[Value.ref b] s) (F0 m 169 ls []) := by
  have hbA : ¬ P0 s b := Nat.not_le.mpr hbl
  obtain ⟨hQ, hX, T_ou, hM9, hcs, hss⟩ := hq
  obtain ⟨hT, T_x, hU, hTr, hL1, hL2⟩ := id hX
  obtain ⟨fx9, F_x⟩ := X_ob hT T_x
  obtain ⟨hTm, T_mo, hA, th, sd, lo, le, wr, ma, nu, di, pl, se, wg, op, F_m, hmk, hTr9, hEx9, hOp9, hma9⟩ := hM9
  obtain ⟨ph, hph⟩ : ∃ z, z = nl L h1 + spz h1 x := ⟨_, rfl⟩
  rw [← hph] at hcs hss
  refine lv_aload_n hx hb d_La_law_169 rfl (lv_at hl 3 rfl) ?_
  refine lv_aload_n hx hb d_La_law_170 rfl (lv_at hl 4 rfl) ?_
  refine lv_iload hx hb d_La_law_171 (lv_at hl 0 rfl) ?_
  refine lv_iconst (v := 1) hx hb d_La_law_173 (by decide) ?_
  refine lv_iadd hx hb d_La_law_174 ?_
  refine lv_topi (fun v21 e22 => ?_)
  have is_v21 : v21.toInt = i9.toInt + 1 := by rw [e22]; exact iAddK 1 rfl (by omega) (by omega)
  refine va_sld hx hb hXs hbl hbA hQ.1 (iIn (by omega) (by omega)) d_La_law_175 ?_
  refine lv_topi (fun v23 e24 => ?_)
  have px25 : ∀ q, (gD H h1).P q → P0 s q := LQ_px hQ
  refine hm_callXv (va_runV (As := [.int v23]) (b := x) (rest := []) ⟨hx, hb, hml, hown, hts⟩ (x_power l D t (gD H h1) ak av h1 τ n x v23 hn hT T_x ) ⟨cw9B 1 hts mw_928 mw_929 mw_25 rfl rfl (by decide +kernel) ⟨Nat.le_of_ble_eq_true rfl, Nat.le_of_ble_eq_true rfl⟩, hts _ mw_930, hts _ mw_931⟩ (hP_V (q := (R_Di, F_Di, 9)) kE_ok (kE_g hE0 hQ.1 rfl px25) hE0.1 hQ.2.1 F_x rfl) rfl rfl hl.1 rfl (lv_room (Nat.le_of_ble_eq_true rfl)) d_La_law_176 ⟨rm_c (by omega), rm_s (by omega)⟩) hQ.1.2.2 px25 (fun h26 H27 locs hp29 hH30 z28 hLo => ?_)
  obtain ⟨hT1, hk1⟩ := hp29
  have hQ := LQ_x hQ hH30 hLo
  obtain ⟨hX, hph1⟩ := XI_k hX hT1 (TrP_kf hT1 hk1 (by decide) (by decide) (List.forall_mem_nil _) (knp_kf knp_rf hk1 (by decide) (List.forall_mem_nil _)) hTr) (nlp_kf nlp_rf hk1 (by decide) (List.forall_mem_nil _)) (spz_kf rfl hk1 T_x (by decide) (List.forall_mem_nil _))
  rw [← hph] at hph1
  refine lv_aload_n hx hb d_La_law_179 rfl (lv_at hl 2 rfl) ?_
  refine lv_aload_n hx hb d_La_law_180 rfl (lv_at hl 4 rfl) ?_
  refine lv_iload hx hb d_La_law_181 (lv_at hl 0 rfl) ?_
  refine lv_iconst (v := 1) hx hb d_La_law_183 (by decide) ?_
  refine lv_iadd hx hb d_La_law_184 ?_
  refine lv_topi (fun v31 e32 => ?_)
  have is_v31 : v31.toInt = i9.toInt + 1 := by rw [e32]; exact iAddK 1 rfl (by omega) (by omega)
  refine va_sld hx hb hXs hbl hbA hQ.1 (iIn (by omega) (by omega)) d_La_law_185 ?_
  refine lv_topi (fun v33 e34 => ?_)
  have px35 : ∀ q, (gD H27 h3).P q → P0 s q := LQ_py hQ
  refine hm_callXv (va_runV (As := [.int v33]) (b := mo) (rest := []) ⟨hx, hb, hml, hown, hts⟩ (m_power l D t (gD H27 h3) ak av h3 τm n mo v33 A th sd lo le wr ma nu di pl se wg op hn hTm T_mo F_m hA hmk ) ⟨cw9B 1 hts mw_932 mw_933 mw_579 rfl rfl (by decide +kernel) ⟨Nat.le_of_ble_eq_true rfl, Nat.le_of_ble_eq_true rfl⟩, hts _ mw_934, hts _ mw_935⟩ (hP_V (q := (R_Mo, F_Mo, 41)) kE_ok (kE_g hE0 hQ.1 rfl px35) hE0.1 hQ.2.2.1 F_m rfl) rfl rfl hl.1 rfl (lv_room (Nat.le_of_ble_eq_true rfl)) d_La_law_186 ⟨rm_c (by omega), rm_s (by omega)⟩) hQ.1.2.2 px35 (fun h36 H37 locs hp39 hH40 z38 hLo => ?_)
  obtain ⟨hTm1, hkm, th1, le1, F_m1, hmk1⟩ := hp39
  have hQ := LQ_y hQ hH40 hLo
  have hM1 : MI τm t n h36 mo A (r + 1) := ⟨hTm1, T_mo, hA, th1, sd, lo, le1, wr, ma, nu, di, pl, se, wg, op, F_m1, hmk1, (TX_kf hkm hA T_mo (by decide) (by decide) (by decide) (by decide) (by decide) (by decide) hTr9 hEx9).1, (TX_kf hkm hA T_mo (by decide) (by decide) (by decide) (by decide) (by decide) (by decide) hTr9 hEx9).2, (OP_kf hkm hA T_mo (by decide) (by decide) hOp9), (by omega)⟩
  refine lv_goto (tgt := 861) hx hb d_La_law_189 (by decide) ?_
  exact K τ L h26 h36 H37 locs ls ((cs + 0) + 0) ((ss + 0) + 0) ⟨hQ, hX, T_ou, hM1, by omega, by omega⟩ (lv_sub hl [0, 1, 2, 3, 4] rfl)

set_option maxHeartbeats 4000000 in
set_option maxRecDepth 100000 in
theorem law_c2 {p : Program} {e : Env} {s : State} {m : MethodId} {below : List Frame} {meth : Method} {c : Code} (l : Launch) (hfl : l.flags = flags0) {b : Nat} {xs : Nat → Int32} (hx : p.tables.exec = Jvm.exec) (hb : c.code = b_La_law) (hr : meth.sig.returnType = ret) (hml : c.maxLocals = 8) (hown : s.vm.findClass R_La = some m.cls) (hts : ∀ w ∈ lw_g, w.before #[Value.ref b] s = true) (hlocks : meth.locks = false) {D : va_G} {t : Nat → ClassId} {ak av : Nat → Nat} {n x mo ou r L9 : Nat} {τm : tM} {A : Nat → Nat} {τ : tM} {L : List Nat} {h1 h3 : hM} {H : Heap} {locs : List Loc} {ls : Array Slot} {cs ss : Nat} {i9 : Int32} (hn : n ≤ 200) (hE0 : kE D t (gNew s.heap) ak av s) (hT0 : kT (gNew s.heap) s) (hXs : va_X b L9 xs s s.heap) (hbl : b < s.heap.size) (hr5 : r < 512) (hi : i9.toInt = 1 + 6 * r) (hiL : 6 * r + 6 < L9) (hq : LK D t s n x mo ou τm A τ L h1 h3 H locs r cs ss) (hl : lv_has ls 8 [(4, .int i9), (3, .ref ou), (2, .ref mo), (1, .ref x), (0, .ref b)]) (K : ∀ (τ : tM) (L : List Nat) (h1 h3 : hM) (H : Heap) (locs : List Loc) (ls : Array Slot) (cs ss : Nat), LK D t s n x mo ou τm A τ L h1 h3 H locs (r + 1) cs ss → lv_has ls 8 [(4, .int i9), (3, .ref ou), (2, .ref mo), (1, .ref x), (0, .ref b)] → W p l e room_1 s m #[Value.ref b] below meth c H locs cs ss (lw_Z below #[Value.ref b] s) (F0 m 861 ls [])) : W p l e room_1 s m #[Value.ref b] below meth c H locs cs ss (lw_Z below #[Value.ref b] s) (F0 m 192 ls []) := by
  have hbA : ¬ P0 s b := Nat.not_le.mpr hbl
  obtain ⟨hQ, hX, T_ou, hM9, hcs, hss⟩ := hq
  obtain ⟨hT, T_x, hU, hTr, hL1, hL2⟩ := id hX
  obtain ⟨fx9, F_x⟩ := X_ob hT T_x
  obtain ⟨hTm, T_mo, hA, th, sd, lo, le, wr, ma, nu, di, pl, se, wg, op, F_m, hmk, hTr9, hEx9, hOp9, hma9⟩ := hM9
  obtain ⟨ph, hph⟩ : ∃ z, z = nl L h1 + spz h1 x := ⟨_, rfl⟩
  rw [← hph] at hcs hss
  refine lv_aload_n hx hb d_La_law_192 rfl (lv_at hl 3 rfl) ?_
  refine lv_aload_n hx hb d_La_law_193 rfl (lv_at hl 4 rfl) ?_
  refine lv_iload hx hb d_La_law_194 (lv_at hl 0 rfl) ?_
  refine lv_iconst (v := 1) hx hb d_La_law_196 (by decide) ?_
  refine lv_iadd hx hb d_La_law_197 ?_
  refine lv_topi (fun v21 e22 => ?_)
  have is_v21 : v21.toInt = i9.toInt + 1 := by rw [e22]; exact iAddK 1 rfl (by omega) (by omega)
  refine va_sld hx hb hXs hbl hbA hQ.1 (iIn (by omega) (by omega)) d_La_law_198 ?_
  refine lv_topi (fun v23 e24 => ?_)
  refine lv_aload_n hx hb d_La_law_199 rfl (lv_at hl 4 rfl) ?_
  refine lv_iload hx hb d_La_law_200 (lv_at hl 0 rfl) ?_
  refine lv_iconst (v := 2) hx hb d_La_law_202 (by decide) ?_
  refine lv_iadd hx hb d_La_law_203 ?_
  refine lv_topi (fun v25 e26 => ?_)
  have is_v25 : v25.toInt = i9.toInt + 2 := by rw [e26]; exact iAddK 2 rfl (by omega) (by omega)
  refine va_sld hx hb hXs hbl hbA hQ.1 (iIn (by omega) (by omega)) d_La_law_204 ?_
  refine lv_topi (fun v27 e28 => ?_)
  refine lv_i2l (v := v27.toInt64) hx hb d_La_law_205 rfl ?_
  refine lv_bipush (v := 32) hx hb d_La_law_206 (by decide) ?_
  refine lv_lshl (v := v27.toInt64 <<< ((32 : Int32).toInt64 &&& 63)) hx hb d_La_law_208 rfl ?_
  refine lv_aload_n hx hb d_La_law_209 rfl (lv_at hl 4 rfl) ?_
  refine lv_iload hx hb d_La_law_210 (lv_at hl 0 rfl) ?_
  refine lv_iconst (v := 3) hx hb d_La_law_212 (by decide) ?_
  refine lv_iadd hx hb d_La_law_213 ?_
  refine lv_topi (fun v29 e30 => ?_)
  have is_v29 : v29.toInt = i9.toInt + 3 := by rw [e30]; exact iAddK 3 rfl (by omega) (by omega)
  refine va_sld hx hb hXs hbl hbA hQ.1 (iIn (by omega) (by omega)) d_La_law_214 ?_
  refine lv_topi (fun v31 e32 => ?_)
  refine lv_i2l (v := v31.toInt64) hx hb d_La_law_215 rfl ?_
  refine lv_ldc2 (v := 4294967295) hx hb hown (hts _ mw_936) d_La_law_216 ?_
  refine lv_land hx hb d_La_law_219 ?_
  refine lv_lor hx hb d_La_law_220 ?_
  have px33 : ∀ q, (gD H h1).P q → P0 s q := LQ_px hQ
  refine hm_callXi (va_runV (As := [.int v23, .long ((v27.toInt64 <<< ((32 : Int32).toInt64 &&& 63)) ||| (v31.toInt64 &&& 4294967295))]) (b := x) (rest := []) ⟨hx, hb, hml, hown, hts⟩ (x_directory l D t (gD H h1) ak av h1 τ n x v23 ((v27.toInt64 <<< ((32 : Int32).toInt64 &&& 63)) ||| (v31.toInt64 &&& 4294967295)) hn hT T_x hU hTr) ⟨cw9B 2 hts mw_937 mw_938 mw_25 rfl rfl (by decide +kernel) ⟨Nat.le_of_ble_eq_true rfl, Nat.le_of_ble_eq_true rfl⟩, hts _ mw_939, hts _ mw_940⟩ (hP_V (q := (R_Di, F_Di, 9)) kE_ok (kE_g hE0 hQ.1 rfl px33) hE0.1 hQ.2.1 F_x rfl) rfl rfl hl.1 rfl (lv_room (Nat.le_of_ble_eq_true rfl)) d_La_law_221 ⟨rm_c (by omega), rm_s (by omega)⟩) hQ.1.2.2 px33 (fun r34 h35 H36 locs hp38 hH39 z37 hLo => ?_)
  obtain ⟨hT1, hk1, hTr1⟩ := hp38
  have hQ := LQ_x hQ hH39 hLo
  obtain ⟨hX, hph1⟩ := XI_k hX hT1 hTr1 (nlp_kf nlp_rf hk1 (by decide) (List.forall_mem_nil _)) (spz_kf rfl hk1 T_x (by decide) (List.forall_mem_nil _))
  rw [← hph] at hph1
  refine lv_pop hx hb d_La_law_224 rfl ?_
  refine lv_aload_n hx hb d_La_law_225 rfl (lv_at hl 2 rfl) ?_
  refine lv_aload_n hx hb d_La_law_226 rfl (lv_at hl 4 rfl) ?_
  refine lv_iload hx hb d_La_law_227 (lv_at hl 0 rfl) ?_
  refine lv_iconst (v := 1) hx hb d_La_law_229 (by decide) ?_
  refine lv_iadd hx hb d_La_law_230 ?_
  refine lv_topi (fun v40 e41 => ?_)
  have is_v40 : v40.toInt = i9.toInt + 1 := by rw [e41]; exact iAddK 1 rfl (by omega) (by omega)
  refine va_sld hx hb hXs hbl hbA hQ.1 (iIn (by omega) (by omega)) d_La_law_231 ?_
  refine lv_topi (fun v42 e43 => ?_)
  refine lv_aload_n hx hb d_La_law_232 rfl (lv_at hl 4 rfl) ?_
  refine lv_iload hx hb d_La_law_233 (lv_at hl 0 rfl) ?_
  refine lv_iconst (v := 2) hx hb d_La_law_235 (by decide) ?_
  refine lv_iadd hx hb d_La_law_236 ?_
  refine lv_topi (fun v44 e45 => ?_)
  have is_v44 : v44.toInt = i9.toInt + 2 := by rw [e45]; exact iAddK 2 rfl (by omega) (by omega)
  refine va_sld hx hb hXs hbl hbA hQ.1 (iIn (by omega) (by omega)) d_La_law_237 ?_
  refine lv_topi (fun v46 e47 => ?_)
  refine lv_i2l (v := v46.toInt64) hx hb d_La_law_238 rfl ?_
  refine lv_bipush (v := 32) hx hb d_La_law_239 (by decide) ?_
  refine lv_lshl (v := v46.toInt64 <<< ((32 : Int32).toInt64 &&& 63)) hx hb d_La_law_241 rfl ?_
  refine lv_aload_n hx hb d_La_law_242 rfl (lv_at hl 4 rfl) ?_
  refine lv_iload hx hb d_La_law_243 (lv_at hl 0 rfl) ?_
  refine lv_iconst (v := 3) hx hb d_La_law_245 (by decide) ?_
  refine lv_iadd hx hb d_La_law_246 ?_
  refine lv_topi (fun v48 e49 => ?_)
  have is_v48 : v48.toInt = i9.toInt + 3 := by rw [e49]; exact iAddK 3 rfl (by omega) (by omega)
  refine va_sld hx hb hXs hbl hbA hQ.1 (iIn (by omega) (by omega)) d_La_law_247 ?_
  refine lv_topi (fun v50 e51 => ?_)
  refine lv_i2l (v := v50.toInt64) hx hb d_La_law_248 rfl ?_
  refine lv_ldc2 (v := 4294967295) hx hb hown (hts _ mw_936) d_La_law_249 ?_
  refine lv_land hx hb d_La_law_252 ?_
  refine lv_lor hx hb d_La_law_253 ?_
  have px52 : ∀ q, (gD H36 h3).P q → P0 s q := LQ_py hQ
  refine hm_callXi (va_runV (As := [.int v42, .long ((v46.toInt64 <<< ((32 : Int32).toInt64 &&& 63)) ||| (v50.toInt64 &&& 4294967295))]) (b := mo) (rest := []) ⟨hx, hb, hml, hown, hts⟩ (m_dir l D t (gD H36 h3) ak av h3 τm n mo v42 ((v46.toInt64 <<< ((32 : Int32).toInt64 &&& 63)) ||| (v50.toInt64 &&& 4294967295)) A th sd lo le wr ma nu di pl se wg op hn hTm T_mo F_m hA hmk hTr9 hEx9 (by omega)) ⟨cw9B 2 hts mw_941 mw_942 mw_579 rfl rfl (by decide +kernel) ⟨Nat.le_of_ble_eq_true rfl, Nat.le_of_ble_eq_true rfl⟩, hts _ mw_943, hts _ mw_944⟩ (hP_V (q := (R_Mo, F_Mo, 41)) kE_ok (kE_g hE0 hQ.1 rfl px52) hE0.1 hQ.2.2.1 F_m rfl) rfl rfl hl.1 rfl (lv_room (Nat.le_of_ble_eq_true rfl)) d_La_law_254 ⟨rm_c (by omega), rm_s (by omega)⟩) hQ.1.2.2 px52 (fun r53 h54 H55 locs hp57 hH58 z56 hLo => ?_)
  obtain ⟨hTm1, hkm, th1, ma1, F_m1, hmk1, hX1⟩ := hp57
  have hQ := LQ_y hQ hH58 hLo
  have hmx := hX1.1
  have hM1 : MI τm t n h54 mo A (r + 1) := ⟨hTm1, T_mo, hA, th1, sd, lo, le, wr, ma1, nu, di, pl, se, wg, op, F_m1, hmk1, hX1.2.1, hX1.2.2, (OP_kf hkm hA T_mo (by decide) (by decide) hOp9), (by omega)⟩
  refine lv_pop hx hb d_La_law_257 rfl ?_
  refine lv_goto (tgt := 861) hx hb d_La_law_258 (by decide) ?_
  exact K τ L h35 h54 H55 locs ls ((cs + 0) + 0) ((ss + 0) + 0) ⟨hQ, hX, T_ou, hM1, by omega, by omega⟩ (lv_sub hl [0, 1, 2, 3, 4] rfl)

set_option maxHeartbeats 4000000 in
set_option maxRecDepth 100000 in
theorem law_c3 {p : Program} {e : Env} {s : State} {m : MethodId} {below : List Frame} {meth : Method} {c : Code} (l : Launch) (hfl : l.flags = flags0) {b : Nat} {xs : Nat → Int32} (hx : p.tables.exec = Jvm.exec) (hb : c.code = b_La_law) (hr : meth.sig.returnType = ret) (hml : c.maxLocals = 8) (hown : s.vm.findClass R_La = some m.cls) (hts : ∀ w ∈ lw_g, w.before #[Value.ref b] s = true) (hlocks : meth.locks = false) {D : va_G} {t : Nat → ClassId} {ak av : Nat → Nat} {n x mo ou r L9 : Nat} {τm : tM} {A : Nat → Nat} {τ : tM} {L : List Nat} {h1 h3 : hM} {H : Heap} {locs : List Loc} {ls : Array Slot} {cs ss : Nat} {i9 : Int32} (hn : n ≤ 200) (hE0 : kE D t (gNew s.heap) ak av s) (hT0 : kT (gNew s.heap) s) (hXs : va_X b L9 xs s s.heap) (hbl : b < s.heap.size) (hr5 : r < 512) (hi : i9.toInt = 1 + 6 * r) (hiL : 6 * r + 6 < L9) (hq : LK D t s n x mo ou τm A τ L h1 h3 H locs r cs ss) (hl : lv_has ls 8 [(4, .int i9), (3, .ref ou), (2, .ref mo), (1, .ref x), (0, .ref b)]) (K : ∀ (τ : tM) (L : List Nat) (h1 h3 : hM) (H : Heap) (locs : List Loc) (ls : Array Slot) (cs ss : Nat), LK D t s n x mo ou τm A τ L h1 h3 H locs (r + 1) cs ss → lv_has ls 8 [(4, .int i9), (3, .ref ou), (2, .ref mo), (1, .ref x), (0, .ref b)] → W p l e room_1 s m #[Value.ref b] below meth c H locs cs ss (lw_Z below #[Value.ref b] s) (F0 m 861 ls [])) : W p l e room_1 s m #[Value.ref b] below meth c H locs cs ss (lw_Z below #[Value.ref b] s) (F0 m 261 ls []) := by
  have hbA : ¬ P0 s b := Nat.not_le.mpr hbl
  obtain ⟨hQ, hX, T_ou, hM9, hcs, hss⟩ := hq
  obtain ⟨hT, T_x, hU, hTr, hL1, hL2⟩ := id hX
  obtain ⟨fx9, F_x⟩ := X_ob hT T_x
  obtain ⟨hTm, T_mo, hA, th, sd, lo, le, wr, ma, nu, di, pl, se, wg, op, F_m, hmk, hTr9, hEx9, hOp9, hma9⟩ := hM9
  obtain ⟨ph, hph⟩ : ∃ z, z = nl L h1 + spz h1 x := ⟨_, rfl⟩
  rw [← hph] at hcs hss
  refine lv_aload_n hx hb d_La_law_261 rfl (lv_at hl 3 rfl) ?_
  refine lv_aload_n hx hb d_La_law_262 rfl (lv_at hl 4 rfl) ?_
  refine lv_iload hx hb d_La_law_263 (lv_at hl 0 rfl) ?_
  refine lv_iconst (v := 1) hx hb d_La_law_265 (by decide) ?_
  refine lv_iadd hx hb d_La_law_266 ?_
  refine lv_topi (fun v21 e22 => ?_)
  have is_v21 : v21.toInt = i9.toInt + 1 := by rw [e22]; exact iAddK 1 rfl (by omega) (by omega)
  refine va_sld hx hb hXs hbl hbA hQ.1 (iIn (by omega) (by omega)) d_La_law_267 ?_
  refine lv_topi (fun v23 e24 => ?_)
  refine lv_aload_n hx hb d_La_law_268 rfl (lv_at hl 4 rfl) ?_
  refine lv_iload hx hb d_La_law_269 (lv_at hl 0 rfl) ?_
  refine lv_iconst (v := 2) hx hb d_La_law_271 (by decide) ?_
  refine lv_iadd hx hb d_La_law_272 ?_
  refine lv_topi (fun v25 e26 => ?_)
  have is_v25 : v25.toInt = i9.toInt + 2 := by rw [e26]; exact iAddK 2 rfl (by omega) (by omega)
  refine va_sld hx hb hXs hbl hbA hQ.1 (iIn (by omega) (by omega)) d_La_law_273 ?_
  refine lv_topi (fun v27 e28 => ?_)
  refine lv_i2l (v := v27.toInt64) hx hb d_La_law_274 rfl ?_
  refine lv_bipush (v := 32) hx hb d_La_law_275 (by decide) ?_
  refine lv_lshl (v := v27.toInt64 <<< ((32 : Int32).toInt64 &&& 63)) hx hb d_La_law_277 rfl ?_
  refine lv_aload_n hx hb d_La_law_278 rfl (lv_at hl 4 rfl) ?_
  refine lv_iload hx hb d_La_law_279 (lv_at hl 0 rfl) ?_
  refine lv_iconst (v := 3) hx hb d_La_law_281 (by decide) ?_
  refine lv_iadd hx hb d_La_law_282 ?_
  refine lv_topi (fun v29 e30 => ?_)
  have is_v29 : v29.toInt = i9.toInt + 3 := by rw [e30]; exact iAddK 3 rfl (by omega) (by omega)
  refine va_sld hx hb hXs hbl hbA hQ.1 (iIn (by omega) (by omega)) d_La_law_283 ?_
  refine lv_topi (fun v31 e32 => ?_)
  refine lv_i2l (v := v31.toInt64) hx hb d_La_law_284 rfl ?_
  refine lv_ldc2 (v := 4294967295) hx hb hown (hts _ mw_936) d_La_law_285 ?_
  refine lv_land hx hb d_La_law_288 ?_
  refine lv_lor hx hb d_La_law_289 ?_
  refine lv_aload_n hx hb d_La_law_290 rfl (lv_at hl 4 rfl) ?_
  refine lv_iload hx hb d_La_law_291 (lv_at hl 0 rfl) ?_
  refine lv_iconst (v := 4) hx hb d_La_law_293 (by decide) ?_
  refine lv_iadd hx hb d_La_law_294 ?_
  refine lv_topi (fun v33 e34 => ?_)
  have is_v33 : v33.toInt = i9.toInt + 4 := by rw [e34]; exact iAddK 4 rfl (by omega) (by omega)
  refine va_sld hx hb hXs hbl hbA hQ.1 (iIn (by omega) (by omega)) d_La_law_295 ?_
  refine lv_topi (fun v35 e36 => ?_)
  refine lv_aload_n hx hb d_La_law_296 rfl (lv_at hl 4 rfl) ?_
  refine lv_iload hx hb d_La_law_297 (lv_at hl 0 rfl) ?_
  refine lv_iconst (v := 5) hx hb d_La_law_299 (by decide) ?_
  refine lv_iadd hx hb d_La_law_300 ?_
  refine lv_topi (fun v37 e38 => ?_)
  have is_v37 : v37.toInt = i9.toInt + 5 := by rw [e38]; exact iAddK 5 rfl (by omega) (by omega)
  refine va_sld hx hb hXs hbl hbA hQ.1 (iIn (by omega) (by omega)) d_La_law_301 ?_
  refine lv_topi (fun v39 e40 => ?_)
  have px41 : ∀ q, (gD H h1).P q → P0 s q := LQ_px hQ
  refine hm_callXi (va_runV (As := [.int v23, .long ((v27.toInt64 <<< ((32 : Int32).toInt64 &&& 63)) ||| (v31.toInt64 &&& 4294967295)), .int v35, .int v39]) (b := x) (rest := []) ⟨hx, hb, hml, hown, hts⟩ (x_file l D t (gD H h1) ak av h1 τ n x v23 ((v27.toInt64 <<< ((32 : Int32).toInt64 &&& 63)) ||| (v31.toInt64 &&& 4294967295)) v35 v39 hn hT T_x hU hTr) ⟨cw9B 4 hts mw_945 mw_946 mw_25 rfl rfl (by decide +kernel) ⟨Nat.le_of_ble_eq_true rfl, Nat.le_of_ble_eq_true rfl⟩, hts _ mw_947, hts _ mw_948⟩ (hP_V (q := (R_Di, F_Di, 9)) kE_ok (kE_g hE0 hQ.1 rfl px41) hE0.1 hQ.2.1 F_x rfl) rfl rfl hl.1 rfl (lv_room (Nat.le_of_ble_eq_true rfl)) d_La_law_302 ⟨rm_c (by omega), rm_s (by omega)⟩) hQ.1.2.2 px41 (fun r42 h43 H44 locs hp46 hH47 z45 hLo => ?_)
  obtain ⟨hT1, hk1, hTr1⟩ := hp46
  have hQ := LQ_x hQ hH47 hLo
  obtain ⟨hX, hph1⟩ := XI_k hX hT1 hTr1 (nlp_kf nlp_rf hk1 (by decide) (List.forall_mem_nil _)) (spz_kf rfl hk1 T_x (by decide) (List.forall_mem_nil _))
  rw [← hph] at hph1
  refine lv_pop hx hb d_La_law_305 rfl ?_
  refine lv_aload_n hx hb d_La_law_306 rfl (lv_at hl 2 rfl) ?_
  refine lv_aload_n hx hb d_La_law_307 rfl (lv_at hl 4 rfl) ?_
  refine lv_iload hx hb d_La_law_308 (lv_at hl 0 rfl) ?_
  refine lv_iconst (v := 1) hx hb d_La_law_310 (by decide) ?_
  refine lv_iadd hx hb d_La_law_311 ?_
  refine lv_topi (fun v48 e49 => ?_)
  have is_v48 : v48.toInt = i9.toInt + 1 := by rw [e49]; exact iAddK 1 rfl (by omega) (by omega)
  refine va_sld hx hb hXs hbl hbA hQ.1 (iIn (by omega) (by omega)) d_La_law_312 ?_
  refine lv_topi (fun v50 e51 => ?_)
  refine lv_aload_n hx hb d_La_law_313 rfl (lv_at hl 4 rfl) ?_
  refine lv_iload hx hb d_La_law_314 (lv_at hl 0 rfl) ?_
  refine lv_iconst (v := 2) hx hb d_La_law_316 (by decide) ?_
  refine lv_iadd hx hb d_La_law_317 ?_
  refine lv_topi (fun v52 e53 => ?_)
  have is_v52 : v52.toInt = i9.toInt + 2 := by rw [e53]; exact iAddK 2 rfl (by omega) (by omega)
  refine va_sld hx hb hXs hbl hbA hQ.1 (iIn (by omega) (by omega)) d_La_law_318 ?_
  refine lv_topi (fun v54 e55 => ?_)
  refine lv_i2l (v := v54.toInt64) hx hb d_La_law_319 rfl ?_
  refine lv_bipush (v := 32) hx hb d_La_law_320 (by decide) ?_
  refine lv_lshl (v := v54.toInt64 <<< ((32 : Int32).toInt64 &&& 63)) hx hb d_La_law_322 rfl ?_
  refine lv_aload_n hx hb d_La_law_323 rfl (lv_at hl 4 rfl) ?_
  refine lv_iload hx hb d_La_law_324 (lv_at hl 0 rfl) ?_
  refine lv_iconst (v := 3) hx hb d_La_law_326 (by decide) ?_
  refine lv_iadd hx hb d_La_law_327 ?_
  refine lv_topi (fun v56 e57 => ?_)
  have is_v56 : v56.toInt = i9.toInt + 3 := by rw [e57]; exact iAddK 3 rfl (by omega) (by omega)
  refine va_sld hx hb hXs hbl hbA hQ.1 (iIn (by omega) (by omega)) d_La_law_328 ?_
  refine lv_topi (fun v58 e59 => ?_)
  refine lv_i2l (v := v58.toInt64) hx hb d_La_law_329 rfl ?_
  refine lv_ldc2 (v := 4294967295) hx hb hown (hts _ mw_936) d_La_law_330 ?_
  refine lv_land hx hb d_La_law_333 ?_
  refine lv_lor hx hb d_La_law_334 ?_
  refine lv_aload_n hx hb d_La_law_335 rfl (lv_at hl 4 rfl) ?_
  refine lv_iload hx hb d_La_law_336 (lv_at hl 0 rfl) ?_
  refine lv_iconst (v := 4) hx hb d_La_law_338 (by decide) ?_
  refine lv_iadd hx hb d_La_law_339 ?_
  refine lv_topi (fun v60 e61 => ?_)
  have is_v60 : v60.toInt = i9.toInt + 4 := by rw [e61]; exact iAddK 4 rfl (by omega) (by omega)
  refine va_sld hx hb hXs hbl hbA hQ.1 (iIn (by omega) (by omega)) d_La_law_340 ?_
  refine lv_topi (fun v62 e63 => ?_)
  refine lv_aload_n hx hb d_La_law_341 rfl (lv_at hl 4 rfl) ?_
  refine lv_iload hx hb d_La_law_342 (lv_at hl 0 rfl) ?_
  refine lv_iconst (v := 5) hx hb d_La_law_344 (by decide) ?_
  refine lv_iadd hx hb d_La_law_345 ?_
  refine lv_topi (fun v64 e65 => ?_)
  have is_v64 : v64.toInt = i9.toInt + 5 := by rw [e65]; exact iAddK 5 rfl (by omega) (by omega)
  refine va_sld hx hb hXs hbl hbA hQ.1 (iIn (by omega) (by omega)) d_La_law_346 ?_
  refine lv_topi (fun v66 e67 => ?_)
  have px68 : ∀ q, (gD H44 h3).P q → P0 s q := LQ_py hQ
  refine hm_callXi (va_runV (As := [.int v50, .long ((v54.toInt64 <<< ((32 : Int32).toInt64 &&& 63)) ||| (v58.toInt64 &&& 4294967295)), .int v62, .int v66]) (b := mo) (rest := []) ⟨hx, hb, hml, hown, hts⟩ (m_file l D t (gD H44 h3) ak av h3 τm n mo v50 ((v54.toInt64 <<< ((32 : Int32).toInt64 &&& 63)) ||| (v58.toInt64 &&& 4294967295)) v62 v66 A th sd lo le wr ma nu di pl se wg op hn hTm T_mo F_m hA hmk hTr9 hEx9 (by omega)) ⟨cw9B 4 hts mw_949 mw_950 mw_579 rfl rfl (by decide +kernel) ⟨Nat.le_of_ble_eq_true rfl, Nat.le_of_ble_eq_true rfl⟩, hts _ mw_951, hts _ mw_952⟩ (hP_V (q := (R_Mo, F_Mo, 41)) kE_ok (kE_g hE0 hQ.1 rfl px68) hE0.1 hQ.2.2.1 F_m rfl) rfl rfl hl.1 rfl (lv_room (Nat.le_of_ble_eq_true rfl)) d_La_law_347 ⟨rm_c (by omega), rm_s (by omega)⟩) hQ.1.2.2 px68 (fun r69 h70 H71 locs hp73 hH74 z72 hLo => ?_)
  obtain ⟨hTm1, hkm, th1, ma1, F_m1, hmk1, hX1⟩ := hp73
  have hQ := LQ_y hQ hH74 hLo
  have hmx := hX1.1
  have hM1 : MI τm t n h70 mo A (r + 1) := ⟨hTm1, T_mo, hA, th1, sd, lo, le, wr, ma1, nu, di, pl, se, wg, op, F_m1, hmk1, hX1.2.1, hX1.2.2, (OP_kf hkm hA T_mo (by decide) (by decide) hOp9), (by omega)⟩
  refine lv_pop hx hb d_La_law_350 rfl ?_
  refine lv_goto (tgt := 861) hx hb d_La_law_351 (by decide) ?_
  exact K τ L h43 h70 H71 locs ls ((cs + 0) + 0) ((ss + 0) + 0) ⟨hQ, hX, T_ou, hM1, by omega, by omega⟩ (lv_sub hl [0, 1, 2, 3, 4] rfl)

set_option maxHeartbeats 4000000 in
set_option maxRecDepth 100000 in
theorem law_c4 {p : Program} {e : Env} {s : State} {m : MethodId} {below : List Frame} {meth : Method} {c : Code} (l : Launch) (hfl : l.flags = flags0) {b : Nat} {xs : Nat → Int32} (hx : p.tables.exec = Jvm.exec) (hb : c.code = b_La_law) (hr : meth.sig.returnType = ret) (hml : c.maxLocals = 8) (hown : s.vm.findClass R_La = some m.cls) (hts : ∀ w ∈ lw_g, w.before #[Value.ref b] s = true) (hlocks : meth.locks = false) {D : va_G} {t : Nat → ClassId} {ak av : Nat → Nat} {n x mo ou r L9 : Nat} {τm : tM} {A : Nat → Nat} {τ : tM} {L : List Nat} {h1 h3 : hM} {H : Heap} {locs : List Loc} {ls : Array Slot} {cs ss : Nat} {i9 : Int32} (hn : n ≤ 200) (hE0 : kE D t (gNew s.heap) ak av s) (hT0 : kT (gNew s.heap) s) (hXs : va_X b L9 xs s s.heap) (hbl : b < s.heap.size) (hr5 : r < 512) (hi : i9.toInt = 1 + 6 * r) (hiL : 6 * r + 6 < L9) (hq : LK D t s n x mo ou τm A τ L h1 h3 H locs r cs ss) (hl : lv_has ls 8 [(4, .int i9), (3, .ref ou), (2, .ref mo), (1, .ref x), (0, .ref b)]) (K : ∀ (τ : tM) (L : List Nat) (h1 h3 : hM) (H : Heap) (locs : List Loc) (ls : Array Slot) (cs ss : Nat), LK D t s n x mo ou τm A τ L h1 h3 H locs (r + 1) cs ss → lv_has ls 8 [(4, .int i9), (3, .ref ou), (2, .ref mo), (1, .ref x), (0, .ref b)] → W p l e room_1 s m #[Value.ref b] below meth c H locs cs ss (lw_Z below #[Value.ref b] s) (F0 m 861 ls [])) : W p l e room_1 s m #[Value.ref b] below meth c H locs cs ss (lw_Z below #[Value.ref b] s) (F0 m 354 ls []) := by
  have hbA : ¬ P0 s b := Nat.not_le.mpr hbl
  obtain ⟨hQ, hX, T_ou, hM9, hcs, hss⟩ := hq
  obtain ⟨hT, T_x, hU, hTr, hL1, hL2⟩ := id hX
  obtain ⟨fx9, F_x⟩ := X_ob hT T_x
  obtain ⟨hTm, T_mo, hA, th, sd, lo, le, wr, ma, nu, di, pl, se, wg, op, F_m, hmk, hTr9, hEx9, hOp9, hma9⟩ := hM9
  obtain ⟨ph, hph⟩ : ∃ z, z = nl L h1 + spz h1 x := ⟨_, rfl⟩
  rw [← hph] at hcs hss
  refine lv_aload_n hx hb d_La_law_354 rfl (lv_at hl 3 rfl) ?_
  refine lv_aload_n hx hb d_La_law_355 rfl (lv_at hl 4 rfl) ?_
  refine lv_iload hx hb d_La_law_356 (lv_at hl 0 rfl) ?_
  refine lv_iconst (v := 1) hx hb d_La_law_358 (by decide) ?_
  refine lv_iadd hx hb d_La_law_359 ?_
  refine lv_topi (fun v21 e22 => ?_)
  have is_v21 : v21.toInt = i9.toInt + 1 := by rw [e22]; exact iAddK 1 rfl (by omega) (by omega)
  refine va_sld hx hb hXs hbl hbA hQ.1 (iIn (by omega) (by omega)) d_La_law_360 ?_
  refine lv_topi (fun v23 e24 => ?_)
  refine lv_aload_n hx hb d_La_law_361 rfl (lv_at hl 4 rfl) ?_
  refine lv_iload hx hb d_La_law_362 (lv_at hl 0 rfl) ?_
  refine lv_iconst (v := 2) hx hb d_La_law_364 (by decide) ?_
  refine lv_iadd hx hb d_La_law_365 ?_
  refine lv_topi (fun v25 e26 => ?_)
  have is_v25 : v25.toInt = i9.toInt + 2 := by rw [e26]; exact iAddK 2 rfl (by omega) (by omega)
  refine va_sld hx hb hXs hbl hbA hQ.1 (iIn (by omega) (by omega)) d_La_law_366 ?_
  refine lv_topi (fun v27 e28 => ?_)
  refine lv_aload_n hx hb d_La_law_367 rfl (lv_at hl 4 rfl) ?_
  refine lv_iload hx hb d_La_law_368 (lv_at hl 0 rfl) ?_
  refine lv_iconst (v := 3) hx hb d_La_law_370 (by decide) ?_
  refine lv_iadd hx hb d_La_law_371 ?_
  refine lv_topi (fun v29 e30 => ?_)
  have is_v29 : v29.toInt = i9.toInt + 3 := by rw [e30]; exact iAddK 3 rfl (by omega) (by omega)
  refine va_sld hx hb hXs hbl hbA hQ.1 (iIn (by omega) (by omega)) d_La_law_372 ?_
  refine lv_topi (fun v31 e32 => ?_)
  have px33 : ∀ q, (gD H h1).P q → P0 s q := LQ_px hQ
  refine hm_callXi (va_runV (As := [.int v23, .int v27, .int v31]) (b := x) (rest := []) ⟨hx, hb, hml, hown, hts⟩ (x_replace l D t (gD H h1) ak av h1 τ n x v23 v27 v31 hn hT T_x ) ⟨cw9B 3 hts mw_953 mw_954 mw_25 rfl rfl (by decide +kernel) ⟨Nat.le_of_ble_eq_true rfl, Nat.le_of_ble_eq_true rfl⟩, hts _ mw_955, hts _ mw_956⟩ (hP_V (q := (R_Di, F_Di, 9)) kE_ok (kE_g hE0 hQ.1 rfl px33) hE0.1 hQ.2.1 F_x rfl) rfl rfl hl.1 rfl (lv_room (Nat.le_of_ble_eq_true rfl)) d_La_law_373 ⟨rm_c (by omega), rm_s (by omega)⟩) hQ.1.2.2 px33 (fun r34 h35 H36 locs hp38 hH39 z37 hLo => ?_)
  obtain ⟨hT1, hk1, hkn1⟩ := hp38
  have hQ := LQ_x hQ hH39 hLo
  obtain ⟨hX, hph1⟩ := XI_k hX hT1 (TrP_kf hT1 hk1 (by decide) (by decide) (List.forall_mem_nil _) hkn1 hTr) (nlp_kf nlp_rf hk1 (by decide) (List.forall_mem_nil _)) (spz_kf rfl hk1 T_x (by decide) (List.forall_mem_nil _))
  rw [← hph] at hph1
  refine lv_pop hx hb d_La_law_376 rfl ?_
  refine lv_aload_n hx hb d_La_law_377 rfl (lv_at hl 2 rfl) ?_
  refine lv_aload_n hx hb d_La_law_378 rfl (lv_at hl 4 rfl) ?_
  refine lv_iload hx hb d_La_law_379 (lv_at hl 0 rfl) ?_
  refine lv_iconst (v := 1) hx hb d_La_law_381 (by decide) ?_
  refine lv_iadd hx hb d_La_law_382 ?_
  refine lv_topi (fun v40 e41 => ?_)
  have is_v40 : v40.toInt = i9.toInt + 1 := by rw [e41]; exact iAddK 1 rfl (by omega) (by omega)
  refine va_sld hx hb hXs hbl hbA hQ.1 (iIn (by omega) (by omega)) d_La_law_383 ?_
  refine lv_topi (fun v42 e43 => ?_)
  refine lv_aload_n hx hb d_La_law_384 rfl (lv_at hl 4 rfl) ?_
  refine lv_iload hx hb d_La_law_385 (lv_at hl 0 rfl) ?_
  refine lv_iconst (v := 2) hx hb d_La_law_387 (by decide) ?_
  refine lv_iadd hx hb d_La_law_388 ?_
  refine lv_topi (fun v44 e45 => ?_)
  have is_v44 : v44.toInt = i9.toInt + 2 := by rw [e45]; exact iAddK 2 rfl (by omega) (by omega)
  refine va_sld hx hb hXs hbl hbA hQ.1 (iIn (by omega) (by omega)) d_La_law_389 ?_
  refine lv_topi (fun v46 e47 => ?_)
  refine lv_aload_n hx hb d_La_law_390 rfl (lv_at hl 4 rfl) ?_
  refine lv_iload hx hb d_La_law_391 (lv_at hl 0 rfl) ?_
  refine lv_iconst (v := 3) hx hb d_La_law_393 (by decide) ?_
  refine lv_iadd hx hb d_La_law_394 ?_
  refine lv_topi (fun v48 e49 => ?_)
  have is_v48 : v48.toInt = i9.toInt + 3 := by rw [e49]; exact iAddK 3 rfl (by omega) (by omega)
  refine va_sld hx hb hXs hbl hbA hQ.1 (iIn (by omega) (by omega)) d_La_law_395 ?_
  refine lv_topi (fun v50 e51 => ?_)
  have px52 : ∀ q, (gD H36 h3).P q → P0 s q := LQ_py hQ
  refine hm_callXi (va_runV (As := [.int v42, .int v46, .int v50]) (b := mo) (rest := []) ⟨hx, hb, hml, hown, hts⟩ (m_replace l D t (gD H36 h3) ak av h3 τm n mo v42 v46 v50 A th sd lo le wr ma nu di pl se wg op hn hTm T_mo F_m hA hmk hTr9 hEx9) ⟨cw9B 3 hts mw_957 mw_958 mw_579 rfl rfl (by decide +kernel) ⟨Nat.le_of_ble_eq_true rfl, Nat.le_of_ble_eq_true rfl⟩, hts _ mw_959, hts _ mw_960⟩ (hP_V (q := (R_Mo, F_Mo, 41)) kE_ok (kE_g hE0 hQ.1 rfl px52) hE0.1 hQ.2.2.1 F_m rfl) rfl rfl hl.1 rfl (lv_room (Nat.le_of_ble_eq_true rfl)) d_La_law_396 ⟨rm_c (by omega), rm_s (by omega)⟩) hQ.1.2.2 px52 (fun r53 h54 H55 locs hp57 hH58 z56 hLo => ?_)
  obtain ⟨hTm1, hkm, th1, F_m1, hmk1, hX1⟩ := hp57
  have hQ := LQ_y hQ hH58 hLo
  have hM1 : MI τm t n h54 mo A (r + 1) := ⟨hTm1, T_mo, hA, th1, sd, lo, le, wr, ma, nu, di, pl, se, wg, op, F_m1, hmk1, hX1.1, hX1.2, (OP_kf hkm hA T_mo (by decide) (by decide) hOp9), (by omega)⟩
  refine lv_pop hx hb d_La_law_399 rfl ?_
  refine lv_goto (tgt := 861) hx hb d_La_law_400 (by decide) ?_
  exact K τ L h35 h54 H55 locs ls ((cs + 0) + 0) ((ss + 0) + 0) ⟨hQ, hX, T_ou, hM1, by omega, by omega⟩ (lv_sub hl [0, 1, 2, 3, 4] rfl)

set_option maxHeartbeats 4000000 in
set_option maxRecDepth 100000 in
theorem law_c5 {p : Program} {e : Env} {s : State} {m : MethodId} {below : List Frame} {meth : Method} {c : Code} (l : Launch) (hfl : l.flags = flags0) {b : Nat} {xs : Nat → Int32} (hx : p.tables.exec = Jvm.exec) (hb : c.code = b_La_law) (hr : meth.sig.returnType = ret) (hml : c.maxLocals = 8) (hown : s.vm.findClass R_La = some m.cls) (hts : ∀ w ∈ lw_g, w.before #[Value.ref b] s = true) (hlocks : meth.locks = false) {D : va_G} {t : Nat → ClassId} {ak av : Nat → Nat} {n x mo ou r L9 : Nat} {τm : tM} {A : Nat → Nat} {τ : tM} {L : List Nat} {h1 h3 : hM} {H : Heap} {locs : List Loc} {ls : Array Slot} {cs ss : Nat} {i9 : Int32} (hn : n ≤ 200) (hE0 : kE D t (gNew s.heap) ak av s) (hT0 : kT (gNew s.heap) s) (hXs : va_X b L9 xs s s.heap) (hbl : b < s.heap.size) (hr5 : r < 512) (hi : i9.toInt = 1 + 6 * r) (hiL : 6 * r + 6 < L9) (hq : LK D t s n x mo ou τm A τ L h1 h3 H locs r cs ss) (hl : lv_has ls 8 [(4, .int i9), (3, .ref ou), (2, .ref mo), (1, .ref x), (0, .ref b)]) (K : ∀ (τ : tM) (L : List Nat) (h1 h3 : hM) (H : Heap) (locs : List Loc) (ls : Array Slot) (cs ss : Nat), LK D t s n x mo ou τm A τ L h1 h3 H locs (r + 1) cs ss → lv_has ls 8 [(4, .int i9), (3, .ref ou), (2, .ref mo), (1, .ref x), (0, .ref b)] → W p l e room_1 s m #[Value.ref b] below meth c H locs cs ss (lw_Z below #[Value.ref b] s) (F0 m 861 ls [])) : W p l e room_1 s m #[Value.ref b] below meth c H locs cs ss (lw_Z below #[Value.ref b] s) (F0 m 403 ls []) := by
  have hbA : ¬ P0 s b := Nat.not_le.mpr hbl
  obtain ⟨hQ, hX, T_ou, hM9, hcs, hss⟩ := hq
  obtain ⟨hT, T_x, hU, hTr, hL1, hL2⟩ := id hX
  obtain ⟨fx9, F_x⟩ := X_ob hT T_x
  obtain ⟨hTm, T_mo, hA, th, sd, lo, le, wr, ma, nu, di, pl, se, wg, op, F_m, hmk, hTr9, hEx9, hOp9, hma9⟩ := hM9
  obtain ⟨ph, hph⟩ : ∃ z, z = nl L h1 + spz h1 x := ⟨_, rfl⟩
  rw [← hph] at hcs hss
  refine lv_aload_n hx hb d_La_law_403 rfl (lv_at hl 3 rfl) ?_
  refine lv_aload_n hx hb d_La_law_404 rfl (lv_at hl 4 rfl) ?_
  refine lv_iload hx hb d_La_law_405 (lv_at hl 0 rfl) ?_
  refine lv_iconst (v := 1) hx hb d_La_law_407 (by decide) ?_
  refine lv_iadd hx hb d_La_law_408 ?_
  refine lv_topi (fun v21 e22 => ?_)
  have is_v21 : v21.toInt = i9.toInt + 1 := by rw [e22]; exact iAddK 1 rfl (by omega) (by omega)
  refine va_sld hx hb hXs hbl hbA hQ.1 (iIn (by omega) (by omega)) d_La_law_409 ?_
  refine lv_topi (fun v23 e24 => ?_)
  have px25 : ∀ q, (gD H h1).P q → P0 s q := LQ_px hQ
  refine hm_callXi (va_runV (As := [.int v23]) (b := x) (rest := []) ⟨hx, hb, hml, hown, hts⟩ (x_remove l D t (gD H h1) ak av h1 τ n x v23 hn hT T_x hU hTr) ⟨cw9B 1 hts mw_961 mw_962 mw_25 rfl rfl (by decide +kernel) ⟨Nat.le_of_ble_eq_true rfl, Nat.le_of_ble_eq_true rfl⟩, hts _ mw_963, hts _ mw_964⟩ (hP_V (q := (R_Di, F_Di, 9)) kE_ok (kE_g hE0 hQ.1 rfl px25) hE0.1 hQ.2.1 F_x rfl) rfl rfl hl.1 rfl (lv_room (Nat.le_of_ble_eq_true rfl)) d_La_law_410 ⟨rm_c (by omega), rm_s (by omega)⟩) hQ.1.2.2 px25 (fun r26 h27 H28 locs hp30 hH31 z29 hLo => ?_)
  obtain ⟨hT1, hk1, hTr1⟩ := hp30
  have hQ := LQ_x hQ hH31 hLo
  obtain ⟨hX, hph1⟩ := XI_k hX hT1 hTr1 (nlp_kf nlp_rf hk1 (by decide) (List.forall_mem_nil _)) (spz_kf rfl hk1 T_x (by decide) (List.forall_mem_nil _))
  rw [← hph] at hph1
  refine lv_pop hx hb d_La_law_413 rfl ?_
  refine lv_aload_n hx hb d_La_law_414 rfl (lv_at hl 2 rfl) ?_
  refine lv_aload_n hx hb d_La_law_415 rfl (lv_at hl 4 rfl) ?_
  refine lv_iload hx hb d_La_law_416 (lv_at hl 0 rfl) ?_
  refine lv_iconst (v := 1) hx hb d_La_law_418 (by decide) ?_
  refine lv_iadd hx hb d_La_law_419 ?_
  refine lv_topi (fun v32 e33 => ?_)
  have is_v32 : v32.toInt = i9.toInt + 1 := by rw [e33]; exact iAddK 1 rfl (by omega) (by omega)
  refine va_sld hx hb hXs hbl hbA hQ.1 (iIn (by omega) (by omega)) d_La_law_420 ?_
  refine lv_topi (fun v34 e35 => ?_)
  have px36 : ∀ q, (gD H28 h3).P q → P0 s q := LQ_py hQ
  refine hm_callXi (va_runV (As := [.int v34]) (b := mo) (rest := []) ⟨hx, hb, hml, hown, hts⟩ (m_remove l D t (gD H28 h3) ak av h3 τm n mo v34 A th sd lo le wr ma nu di pl se wg op hn hTm T_mo F_m hA hmk hTr9 hEx9) ⟨cw9B 1 hts mw_965 mw_966 mw_579 rfl rfl (by decide +kernel) ⟨Nat.le_of_ble_eq_true rfl, Nat.le_of_ble_eq_true rfl⟩, hts _ mw_967, hts _ mw_968⟩ (hP_V (q := (R_Mo, F_Mo, 41)) kE_ok (kE_g hE0 hQ.1 rfl px36) hE0.1 hQ.2.2.1 F_m rfl) rfl rfl hl.1 rfl (lv_room (Nat.le_of_ble_eq_true rfl)) d_La_law_421 ⟨rm_c (by omega), rm_s (by omega)⟩) hQ.1.2.2 px36 (fun r37 h38 H39 locs hp41 hH42 z40 hLo => ?_)
  obtain ⟨hTm1, hkm, th1, F_m1, hmk1, hX1⟩ := hp41
  have hQ := LQ_y hQ hH42 hLo
  have hM1 : MI τm t n h38 mo A (r + 1) := ⟨hTm1, T_mo, hA, th1, sd, lo, le, wr, ma, nu, di, pl, se, wg, op, F_m1, hmk1, hX1.1, hX1.2, (OP_kf hkm hA T_mo (by decide) (by decide) hOp9), (by omega)⟩
  refine lv_pop hx hb d_La_law_424 rfl ?_
  refine lv_goto (tgt := 861) hx hb d_La_law_425 (by decide) ?_
  exact K τ L h27 h38 H39 locs ls ((cs + 0) + 0) ((ss + 0) + 0) ⟨hQ, hX, T_ou, hM1, by omega, by omega⟩ (lv_sub hl [0, 1, 2, 3, 4] rfl)

set_option maxHeartbeats 4000000 in
set_option maxRecDepth 100000 in
theorem law_c6 {p : Program} {e : Env} {s : State} {m : MethodId} {below : List Frame} {meth : Method} {c : Code} (l : Launch) (hfl : l.flags = flags0) {b : Nat} {xs : Nat → Int32} (hx : p.tables.exec = Jvm.exec) (hb : c.code = b_La_law) (hr : meth.sig.returnType = ret) (hml : c.maxLocals = 8) (hown : s.vm.findClass R_La = some m.cls) (hts : ∀ w ∈ lw_g, w.before #[Value.ref b] s = true) (hlocks : meth.locks = false) {D : va_G} {t : Nat → ClassId} {ak av : Nat → Nat} {n x mo ou r L9 : Nat} {τm : tM} {A : Nat → Nat} {τ : tM} {L : List Nat} {h1 h3 : hM} {H : Heap} {locs : List Loc} {ls : Array Slot} {cs ss : Nat} {i9 : Int32} (hn : n ≤ 200) (hE0 : kE D t (gNew s.heap) ak av s) (hT0 : kT (gNew s.heap) s) (hXs : va_X b L9 xs s s.heap) (hbl : b < s.heap.size) (hr5 : r < 512) (hi : i9.toInt = 1 + 6 * r) (hiL : 6 * r + 6 < L9) (hq : LK D t s n x mo ou τm A τ L h1 h3 H locs r cs ss) (hl : lv_has ls 8 [(4, .int i9), (3, .ref ou), (2, .ref mo), (1, .ref x), (0, .ref b)]) (K : ∀ (τ : tM) (L : List Nat) (h1 h3 : hM) (H : Heap) (locs : List Loc) (ls : Array Slot) (cs ss : Nat), LK D t s n x mo ou τm A τ L h1 h3 H locs (r + 1) cs ss → lv_has ls 8 [(4, .int i9), (3, .ref ou), (2, .ref mo), (1, .ref x), (0, .ref b)] → W p l e room_1 s m #[Value.ref b] below meth c H locs cs ss (lw_Z below #[Value.ref b] s) (F0 m 861 ls [])) : W p l e room_1 s m #[Value.ref b] below meth c H locs cs ss (lw_Z below #[Value.ref b] s) (F0 m 428 ls []) := by
  have hbA : ¬ P0 s b := Nat.not_le.mpr hbl
  obtain ⟨hQ, hX, T_ou, hM9, hcs, hss⟩ := hq
  obtain ⟨hT, T_x, hU, hTr, hL1, hL2⟩ := id hX
  obtain ⟨fx9, F_x⟩ := X_ob hT T_x
  obtain ⟨hTm, T_mo, hA, th, sd, lo, le, wr, ma, nu, di, pl, se, wg, op, F_m, hmk, hTr9, hEx9, hOp9, hma9⟩ := hM9
  obtain ⟨ph, hph⟩ : ∃ z, z = nl L h1 + spz h1 x := ⟨_, rfl⟩
  rw [← hph] at hcs hss
  refine lv_aload_n hx hb d_La_law_428 rfl (lv_at hl 3 rfl) ?_
  refine lv_aload_n hx hb d_La_law_429 rfl (lv_at hl 4 rfl) ?_
  refine lv_iload hx hb d_La_law_430 (lv_at hl 0 rfl) ?_
  refine lv_iconst (v := 1) hx hb d_La_law_432 (by decide) ?_
  refine lv_iadd hx hb d_La_law_433 ?_
  refine lv_topi (fun v21 e22 => ?_)
  have is_v21 : v21.toInt = i9.toInt + 1 := by rw [e22]; exact iAddK 1 rfl (by omega) (by omega)
  refine va_sld hx hb hXs hbl hbA hQ.1 (iIn (by omega) (by omega)) d_La_law_434 ?_
  refine lv_topi (fun v23 e24 => ?_)
  refine lv_aload_n hx hb d_La_law_435 rfl (lv_at hl 4 rfl) ?_
  refine lv_iload hx hb d_La_law_436 (lv_at hl 0 rfl) ?_
  refine lv_iconst (v := 2) hx hb d_La_law_438 (by decide) ?_
  refine lv_iadd hx hb d_La_law_439 ?_
  refine lv_topi (fun v25 e26 => ?_)
  have is_v25 : v25.toInt = i9.toInt + 2 := by rw [e26]; exact iAddK 2 rfl (by omega) (by omega)
  refine va_sld hx hb hXs hbl hbA hQ.1 (iIn (by omega) (by omega)) d_La_law_440 ?_
  refine lv_topi (fun v27 e28 => ?_)
  refine lv_aload_n hx hb d_La_law_441 rfl (lv_at hl 4 rfl) ?_
  refine lv_iload hx hb d_La_law_442 (lv_at hl 0 rfl) ?_
  refine lv_iconst (v := 3) hx hb d_La_law_444 (by decide) ?_
  refine lv_iadd hx hb d_La_law_445 ?_
  refine lv_topi (fun v29 e30 => ?_)
  have is_v29 : v29.toInt = i9.toInt + 3 := by rw [e30]; exact iAddK 3 rfl (by omega) (by omega)
  refine va_sld hx hb hXs hbl hbA hQ.1 (iIn (by omega) (by omega)) d_La_law_446 ?_
  refine lv_topi (fun v31 e32 => ?_)
  refine lv_i2l (v := v31.toInt64) hx hb d_La_law_447 rfl ?_
  refine lv_bipush (v := 32) hx hb d_La_law_448 (by decide) ?_
  refine lv_lshl (v := v31.toInt64 <<< ((32 : Int32).toInt64 &&& 63)) hx hb d_La_law_450 rfl ?_
  refine lv_aload_n hx hb d_La_law_451 rfl (lv_at hl 4 rfl) ?_
  refine lv_iload hx hb d_La_law_452 (lv_at hl 0 rfl) ?_
  refine lv_iconst (v := 4) hx hb d_La_law_454 (by decide) ?_
  refine lv_iadd hx hb d_La_law_455 ?_
  refine lv_topi (fun v33 e34 => ?_)
  have is_v33 : v33.toInt = i9.toInt + 4 := by rw [e34]; exact iAddK 4 rfl (by omega) (by omega)
  refine va_sld hx hb hXs hbl hbA hQ.1 (iIn (by omega) (by omega)) d_La_law_456 ?_
  refine lv_topi (fun v35 e36 => ?_)
  refine lv_i2l (v := v35.toInt64) hx hb d_La_law_457 rfl ?_
  refine lv_ldc2 (v := 4294967295) hx hb hown (hts _ mw_936) d_La_law_458 ?_
  refine lv_land hx hb d_La_law_461 ?_
  refine lv_lor hx hb d_La_law_462 ?_
  have px37 : ∀ q, (gD H h1).P q → P0 s q := LQ_px hQ
  refine hm_callXi (va_runV (As := [.int v23, .int v27, .long ((v31.toInt64 <<< ((32 : Int32).toInt64 &&& 63)) ||| (v35.toInt64 &&& 4294967295))]) (b := x) (rest := []) ⟨hx, hb, hml, hown, hts⟩ (x_rename l D t (gD H h1) ak av h1 τ n x v23 v27 ((v31.toInt64 <<< ((32 : Int32).toInt64 &&& 63)) ||| (v35.toInt64 &&& 4294967295)) hn hT T_x hU hTr) ⟨cw9B 3 hts mw_969 mw_970 mw_25 rfl rfl (by decide +kernel) ⟨Nat.le_of_ble_eq_true rfl, Nat.le_of_ble_eq_true rfl⟩, hts _ mw_971, hts _ mw_972⟩ (hP_V (q := (R_Di, F_Di, 9)) kE_ok (kE_g hE0 hQ.1 rfl px37) hE0.1 hQ.2.1 F_x rfl) rfl rfl hl.1 rfl (lv_room (Nat.le_of_ble_eq_true rfl)) d_La_law_463 ⟨rm_c (by omega), rm_s (by omega)⟩) hQ.1.2.2 px37 (fun r38 h39 H40 locs hp42 hH43 z41 hLo => ?_)
  obtain ⟨hT1, hk1, hTr1⟩ := hp42
  have hQ := LQ_x hQ hH43 hLo
  obtain ⟨hX, hph1⟩ := XI_k hX hT1 hTr1 (nlp_kf nlp_rf hk1 (by decide) (List.forall_mem_nil _)) (spz_kf rfl hk1 T_x (by decide) (List.forall_mem_nil _))
  rw [← hph] at hph1
  refine lv_pop hx hb d_La_law_466 rfl ?_
  refine lv_aload_n hx hb d_La_law_467 rfl (lv_at hl 2 rfl) ?_
  refine lv_aload_n hx hb d_La_law_468 rfl (lv_at hl 4 rfl) ?_
  refine lv_iload hx hb d_La_law_469 (lv_at hl 0 rfl) ?_
  refine lv_iconst (v := 1) hx hb d_La_law_471 (by decide) ?_
  refine lv_iadd hx hb d_La_law_472 ?_
  refine lv_topi (fun v44 e45 => ?_)
  have is_v44 : v44.toInt = i9.toInt + 1 := by rw [e45]; exact iAddK 1 rfl (by omega) (by omega)
  refine va_sld hx hb hXs hbl hbA hQ.1 (iIn (by omega) (by omega)) d_La_law_473 ?_
  refine lv_topi (fun v46 e47 => ?_)
  refine lv_aload_n hx hb d_La_law_474 rfl (lv_at hl 4 rfl) ?_
  refine lv_iload hx hb d_La_law_475 (lv_at hl 0 rfl) ?_
  refine lv_iconst (v := 2) hx hb d_La_law_477 (by decide) ?_
  refine lv_iadd hx hb d_La_law_478 ?_
  refine lv_topi (fun v48 e49 => ?_)
  have is_v48 : v48.toInt = i9.toInt + 2 := by rw [e49]; exact iAddK 2 rfl (by omega) (by omega)
  refine va_sld hx hb hXs hbl hbA hQ.1 (iIn (by omega) (by omega)) d_La_law_479 ?_
  refine lv_topi (fun v50 e51 => ?_)
  refine lv_aload_n hx hb d_La_law_480 rfl (lv_at hl 4 rfl) ?_
  refine lv_iload hx hb d_La_law_481 (lv_at hl 0 rfl) ?_
  refine lv_iconst (v := 3) hx hb d_La_law_483 (by decide) ?_
  refine lv_iadd hx hb d_La_law_484 ?_
  refine lv_topi (fun v52 e53 => ?_)
  have is_v52 : v52.toInt = i9.toInt + 3 := by rw [e53]; exact iAddK 3 rfl (by omega) (by omega)
  refine va_sld hx hb hXs hbl hbA hQ.1 (iIn (by omega) (by omega)) d_La_law_485 ?_
  refine lv_topi (fun v54 e55 => ?_)
  refine lv_i2l (v := v54.toInt64) hx hb d_La_law_486 rfl ?_
  refine lv_bipush (v := 32) hx hb d_La_law_487 (by decide) ?_
  refine lv_lshl (v := v54.toInt64 <<< ((32 : Int32).toInt64 &&& 63)) hx hb d_La_law_489 rfl ?_
  refine lv_aload_n hx hb d_La_law_490 rfl (lv_at hl 4 rfl) ?_
  refine lv_iload hx hb d_La_law_491 (lv_at hl 0 rfl) ?_
  refine lv_iconst (v := 4) hx hb d_La_law_493 (by decide) ?_
  refine lv_iadd hx hb d_La_law_494 ?_
  refine lv_topi (fun v56 e57 => ?_)
  have is_v56 : v56.toInt = i9.toInt + 4 := by rw [e57]; exact iAddK 4 rfl (by omega) (by omega)
  refine va_sld hx hb hXs hbl hbA hQ.1 (iIn (by omega) (by omega)) d_La_law_495 ?_
  refine lv_topi (fun v58 e59 => ?_)
  refine lv_i2l (v := v58.toInt64) hx hb d_La_law_496 rfl ?_
  refine lv_ldc2 (v := 4294967295) hx hb hown (hts _ mw_936) d_La_law_497 ?_
  refine lv_land hx hb d_La_law_500 ?_
  refine lv_lor hx hb d_La_law_501 ?_
  have px60 : ∀ q, (gD H40 h3).P q → P0 s q := LQ_py hQ
  refine hm_callXi (va_runV (As := [.int v46, .int v50, .long ((v54.toInt64 <<< ((32 : Int32).toInt64 &&& 63)) ||| (v58.toInt64 &&& 4294967295))]) (b := mo) (rest := []) ⟨hx, hb, hml, hown, hts⟩ (m_rename l D t (gD H40 h3) ak av h3 τm n mo v46 v50 ((v54.toInt64 <<< ((32 : Int32).toInt64 &&& 63)) ||| (v58.toInt64 &&& 4294967295)) A th sd lo le wr ma nu di pl se wg op hn hTm T_mo F_m hA hmk hTr9 hEx9) ⟨cw9B 3 hts mw_973 mw_974 mw_579 rfl rfl (by decide +kernel) ⟨Nat.le_of_ble_eq_true rfl, Nat.le_of_ble_eq_true rfl⟩, hts _ mw_975, hts _ mw_976⟩ (hP_V (q := (R_Mo, F_Mo, 41)) kE_ok (kE_g hE0 hQ.1 rfl px60) hE0.1 hQ.2.2.1 F_m rfl) rfl rfl hl.1 rfl (lv_room (Nat.le_of_ble_eq_true rfl)) d_La_law_502 ⟨rm_c (by omega), rm_s (by omega)⟩) hQ.1.2.2 px60 (fun r61 h62 H63 locs hp65 hH66 z64 hLo => ?_)
  obtain ⟨hTm1, hkm, th1, F_m1, hmk1, hX1⟩ := hp65
  have hQ := LQ_y hQ hH66 hLo
  have hM1 : MI τm t n h62 mo A (r + 1) := ⟨hTm1, T_mo, hA, th1, sd, lo, le, wr, ma, nu, di, pl, se, wg, op, F_m1, hmk1, hX1.1, hX1.2, (OP_kf hkm hA T_mo (by decide) (by decide) hOp9), (by omega)⟩
  refine lv_pop hx hb d_La_law_505 rfl ?_
  refine lv_goto (tgt := 861) hx hb d_La_law_506 (by decide) ?_
  exact K τ L h39 h62 H63 locs ls ((cs + 0) + 0) ((ss + 0) + 0) ⟨hQ, hX, T_ou, hM1, by omega, by omega⟩ (lv_sub hl [0, 1, 2, 3, 4] rfl)

set_option maxHeartbeats 4000000 in
set_option maxRecDepth 100000 in
theorem law_c7 {p : Program} {e : Env} {s : State} {m : MethodId} {below : List Frame} {meth : Method} {c : Code} (l : Launch) (hfl : l.flags = flags0) {b : Nat} {xs : Nat → Int32} (hx : p.tables.exec = Jvm.exec) (hb : c.code = b_La_law) (hr : meth.sig.returnType = ret) (hml : c.maxLocals = 8) (hown : s.vm.findClass R_La = some m.cls) (hts : ∀ w ∈ lw_g, w.before #[Value.ref b] s = true) (hlocks : meth.locks = false) {D : va_G} {t : Nat → ClassId} {ak av : Nat → Nat} {n x mo ou r L9 : Nat} {τm : tM} {A : Nat → Nat} {τ : tM} {L : List Nat} {h1 h3 : hM} {H : Heap} {locs : List Loc} {ls : Array Slot} {cs ss : Nat} {i9 : Int32} (hn : n ≤ 200) (hE0 : kE D t (gNew s.heap) ak av s) (hT0 : kT (gNew s.heap) s) (hXs : va_X b L9 xs s s.heap) (hbl : b < s.heap.size) (hr5 : r < 512) (hi : i9.toInt = 1 + 6 * r) (hiL : 6 * r + 6 < L9) (hq : LK D t s n x mo ou τm A τ L h1 h3 H locs r cs ss) (hl : lv_has ls 8 [(4, .int i9), (3, .ref ou), (2, .ref mo), (1, .ref x), (0, .ref b)]) (K : ∀ (τ : tM) (L : List Nat) (h1 h3 : hM) (H : Heap) (locs : List Loc) (ls : Array Slot) (cs ss : Nat), LK D t s n x mo ou τm A τ L h1 h3 H locs (r + 1) cs ss → lv_has ls 8 [(4, .int i9), (3, .ref ou), (2, .ref mo), (1, .ref x), (0, .ref b)] → W p l e room_1 s m #[Value.ref b] below meth c H locs cs ss (lw_Z below #[Value.ref b] s) (F0 m 861 ls [])) : W p l e room_1 s m #[Value.ref b] below meth c H locs cs ss (lw_Z below #[Value.ref b] s) (F0 m 509 ls []) := by
  have hbA : ¬ P0 s b := Nat.not_le.mpr hbl
  obtain ⟨hQ, hX, T_ou, hM9, hcs, hss⟩ := hq
  obtain ⟨hT, T_x, hU, hTr, hL1, hL2⟩ := id hX
  obtain ⟨fx9, F_x⟩ := X_ob hT T_x
  obtain ⟨hTm, T_mo, hA, th, sd, lo, le, wr, ma, nu, di, pl, se, wg, op, F_m, hmk, hTr9, hEx9, hOp9, hma9⟩ := hM9
  obtain ⟨ph, hph⟩ : ∃ z, z = nl L h1 + spz h1 x := ⟨_, rfl⟩
  rw [← hph] at hcs hss
  refine lv_aload_n hx hb d_La_law_509 rfl (lv_at hl 3 rfl) ?_
  have px21 : ∀ q, (gD H h1).P q → P0 s q := LQ_px hQ
  refine hm_callEi (va_runVD (As := []) (b := x) (rest := []) ⟨hx, hb, hml, hown, hts⟩ (x_commit l D t (gD H h1) ak av h1 τ n x  hn hT T_x L ph hL1 hL2 (by rw [hph]; exact Nat.le_add_right _ _)) ⟨cw9B 0 hts mw_977 mw_978 mw_25 rfl rfl (by decide +kernel) ⟨Nat.le_of_ble_eq_true rfl, Nat.le_of_ble_eq_true rfl⟩, hts _ mw_979, hts _ mw_980⟩ (hP_V (q := (R_Di, F_Di, 9)) kE_ok (kE_g hE0 hQ.1 rfl px21) hE0.1 hQ.2.1 F_x rfl) rfl rfl hl.1 rfl (lv_room (Nat.le_of_ble_eq_true rfl)) d_La_law_510 ⟨rm_c (show cs + ph ≤ 600000 by omega), rm_s (show ss + 2048 * ph ≤ 7000000 by omega)⟩) hQ.1.2.2 px21 (fun r22 h23 H24 locs k28 n29 hp26 hH27 z25 hLo => ?_)
  obtain ⟨hnn, hnl1, hT1, hk1, hkn1, hsp1⟩ := hp26
  have hQ := LQ_x hQ hH27 hLo
  have hX : XI τ t n h23 x L := ⟨hT1, T_x, hU, (TrP_kf hT1 hk1 (by decide) (by decide) (List.forall_mem_nil _) hkn1 hTr), hL1, hL2⟩
  refine lv_pop hx hb d_La_law_513 rfl ?_
  refine lv_aload_n hx hb d_La_law_514 rfl (lv_at hl 2 rfl) ?_
  have px30 : ∀ q, (gD H24 h3).P q → P0 s q := LQ_py hQ
  refine hm_callXi (va_runV (As := []) (b := mo) (rest := []) ⟨hx, hb, hml, hown, hts⟩ (m_commit l D t (gD H24 h3) ak av h3 τm n mo  A th sd lo le wr ma nu di pl se wg op hn hTm T_mo F_m hA hmk hTr9 hEx9) ⟨cw9B 0 hts mw_981 mw_982 mw_579 rfl rfl (by decide +kernel) ⟨Nat.le_of_ble_eq_true rfl, Nat.le_of_ble_eq_true rfl⟩, hts _ mw_983, hts _ mw_984⟩ (hP_V (q := (R_Mo, F_Mo, 41)) kE_ok (kE_g hE0 hQ.1 rfl px30) hE0.1 hQ.2.2.1 F_m rfl) rfl rfl hl.1 rfl (lv_room (Nat.le_of_ble_eq_true rfl)) d_La_law_515 ⟨rm_c (by omega), rm_s (by omega)⟩) hQ.1.2.2 px30 (fun r31 h32 H33 locs hp35 hH36 z34 hLo => ?_)
  obtain ⟨hTm1, hkm, th1, lo1, le1, wr1, nu1, di1, F_m1, hmk1, hX1⟩ := hp35
  have hQ := LQ_y hQ hH36 hLo
  have hM1 : MI τm t n h32 mo A (r + 1) := ⟨hTm1, T_mo, hA, th1, sd, lo1, le1, wr1, ma, nu1, di1, pl, se, wg, op, F_m1, hmk1, hX1.1, hX1.2, (OP_kf hkm hA T_mo (by decide) (by decide) hOp9), (by omega)⟩
  refine lv_pop hx hb d_La_law_518 rfl ?_
  refine lv_goto (tgt := 861) hx hb d_La_law_519 (by decide) ?_
  exact K τ L h23 h32 H33 locs ls ((cs + k28) + 0) ((ss + n29) + 0) ⟨hQ, hX, T_ou, hM1, by omega, by omega⟩ (lv_sub hl [0, 1, 2, 3, 4] rfl)

set_option maxHeartbeats 4000000 in
set_option maxRecDepth 100000 in
theorem law_c8 {p : Program} {e : Env} {s : State} {m : MethodId} {below : List Frame} {meth : Method} {c : Code} (l : Launch) (hfl : l.flags = flags0) {b : Nat} {xs : Nat → Int32} (hx : p.tables.exec = Jvm.exec) (hb : c.code = b_La_law) (hr : meth.sig.returnType = ret) (hml : c.maxLocals = 8) (hown : s.vm.findClass R_La = some m.cls) (hts : ∀ w ∈ lw_g, w.before #[Value.ref b] s = true) (hlocks : meth.locks = false) {D : va_G} {t : Nat → ClassId} {ak av : Nat → Nat} {n x mo ou r L9 : Nat} {τm : tM} {A : Nat → Nat} {τ : tM} {L : List Nat} {h1 h3 : hM} {H : Heap} {locs : List Loc} {ls : Array Slot} {cs ss : Nat} {i9 : Int32} (hn : n ≤ 200) (hE0 : kE D t (gNew s.heap) ak av s) (hT0 : kT (gNew s.heap) s) (hXs : va_X b L9 xs s s.heap) (hbl : b < s.heap.size) (hr5 : r < 512) (hi : i9.toInt = 1 + 6 * r) (hiL : 6 * r + 6 < L9) (hq : LK D t s n x mo ou τm A τ L h1 h3 H locs r cs ss) (hl : lv_has ls 8 [(4, .int i9), (3, .ref ou), (2, .ref mo), (1, .ref x), (0, .ref b)]) (K : ∀ (τ : tM) (L : List Nat) (h1 h3 : hM) (H : Heap) (locs : List Loc) (ls : Array Slot) (cs ss : Nat), LK D t s n x mo ou τm A τ L h1 h3 H locs (r + 1) cs ss → lv_has ls 8 [(4, .int i9), (3, .ref ou), (2, .ref mo), (1, .ref x), (0, .ref b)] → W p l e room_1 s m #[Value.ref b] below meth c H locs cs ss (lw_Z below #[Value.ref b] s) (F0 m 861 ls [])) : W p l e room_1 s m #[Value.ref b] below meth c H locs cs ss (lw_Z below #[Value.ref b] s) (F0 m 522 ls []) := by
  have hbA : ¬ P0 s b := Nat.not_le.mpr hbl
  obtain ⟨hQ, hX, T_ou, hM9, hcs, hss⟩ := hq
  obtain ⟨hT, T_x, hU, hTr, hL1, hL2⟩ := id hX
  obtain ⟨fx9, F_x⟩ := X_ob hT T_x
  obtain ⟨hTm, T_mo, hA, th, sd, lo, le, wr, ma, nu, di, pl, se, wg, op, F_m, hmk, hTr9, hEx9, hOp9, hma9⟩ := hM9
  obtain ⟨ph, hph⟩ : ∃ z, z = nl L h1 + spz h1 x := ⟨_, rfl⟩
  rw [← hph] at hcs hss
  refine lv_aload_n hx hb d_La_law_522 rfl (lv_at hl 3 rfl) ?_
  have px21 : ∀ q, (gD H h1).P q → P0 s q := LQ_px hQ
  refine hm_callXi (va_runV (As := []) (b := x) (rest := []) ⟨hx, hb, hml, hown, hts⟩ (x_discover l D t (gD H h1) ak av h1 τ n x  hn hT T_x hU hTr) ⟨cw9B 0 hts mw_985 mw_986 mw_25 rfl rfl (by decide +kernel) ⟨Nat.le_of_ble_eq_true rfl, Nat.le_of_ble_eq_true rfl⟩, hts _ mw_987, hts _ mw_988⟩ (hP_V (q := (R_Di, F_Di, 9)) kE_ok (kE_g hE0 hQ.1 rfl px21) hE0.1 hQ.2.1 F_x rfl) rfl rfl hl.1 rfl (lv_room (Nat.le_of_ble_eq_true rfl)) d_La_law_523 ⟨rm_c (by omega), rm_s (by omega)⟩) hQ.1.2.2 px21 (fun r22 h23 H24 locs hp26 hH27 z25 hLo => ?_)
  obtain ⟨hT1, hk1, hTr1, hsp1⟩ := hp26
  have hQ := LQ_x hQ hH27 hLo
  obtain ⟨hX, hph1⟩ := XI_k hX hT1 hTr1 (nlp_kf nlp_rf hk1 (by decide) (List.forall_mem_nil _)) hsp1
  rw [← hph] at hph1
  refine lv_pop hx hb d_La_law_526 rfl ?_
  refine lv_aload_n hx hb d_La_law_527 rfl (lv_at hl 2 rfl) ?_
  have px28 : ∀ q, (gD H24 h3).P q → P0 s q := LQ_py hQ
  refine hm_callXi (va_runV (As := []) (b := mo) (rest := []) ⟨hx, hb, hml, hown, hts⟩ (m_discover l D t (gD H24 h3) ak av h3 τm n mo  A th sd lo le wr ma nu di pl se wg op hn hTm T_mo F_m hA hmk ) ⟨cw9B 0 hts mw_989 mw_990 mw_579 rfl rfl (by decide +kernel) ⟨Nat.le_of_ble_eq_true rfl, Nat.le_of_ble_eq_true rfl⟩, hts _ mw_991, hts _ mw_992⟩ (hP_V (q := (R_Mo, F_Mo, 41)) kE_ok (kE_g hE0 hQ.1 rfl px28) hE0.1 hQ.2.2.1 F_m rfl) rfl rfl hl.1 rfl (lv_room (Nat.le_of_ble_eq_true rfl)) d_La_law_528 ⟨rm_c (by omega), rm_s (by omega)⟩) hQ.1.2.2 px28 (fun r29 h30 H31 locs hp33 hH34 z32 hLo => ?_)
  obtain ⟨hTm1, hkm, th1, lo1, le1, ma1, nu1, se1, wg1, F_m1, hmk1, hX1⟩ := hp33
  have hQ := LQ_y hQ hH34 hLo
  have hmx := hX1.1
  have hM1 : MI τm t n h30 mo A (r + 1) := ⟨hTm1, T_mo, hA, th1, sd, lo1, le1, wr, ma1, nu1, di, pl, se1, wg1, op, F_m1, hmk1, hX1.2.1, hX1.2.2, (OP_kf hkm hA T_mo (by decide) (by decide) hOp9), (by omega)⟩
  refine lv_pop hx hb d_La_law_531 rfl ?_
  refine lv_goto (tgt := 861) hx hb d_La_law_532 (by decide) ?_
  exact K τ L h23 h30 H31 locs ls ((cs + 0) + 0) ((ss + 0) + 0) ⟨hQ, hX, T_ou, hM1, by omega, by omega⟩ (lv_sub hl [0, 1, 2, 3, 4] rfl)

set_option maxHeartbeats 4000000 in
set_option maxRecDepth 100000 in
theorem law_c9 {p : Program} {e : Env} {s : State} {m : MethodId} {below : List Frame} {meth : Method} {c : Code} (l : Launch) (hfl : l.flags = flags0) {b : Nat} {xs : Nat → Int32} (hx : p.tables.exec = Jvm.exec) (hb : c.code = b_La_law) (hr : meth.sig.returnType = ret) (hml : c.maxLocals = 8) (hown : s.vm.findClass R_La = some m.cls) (hts : ∀ w ∈ lw_g, w.before #[Value.ref b] s = true) (hlocks : meth.locks = false) {D : va_G} {t : Nat → ClassId} {ak av : Nat → Nat} {n x mo ou r L9 : Nat} {τm : tM} {A : Nat → Nat} {τ : tM} {L : List Nat} {h1 h3 : hM} {H : Heap} {locs : List Loc} {ls : Array Slot} {cs ss : Nat} {i9 : Int32} (hn : n ≤ 200) (hE0 : kE D t (gNew s.heap) ak av s) (hT0 : kT (gNew s.heap) s) (hXs : va_X b L9 xs s s.heap) (hbl : b < s.heap.size) (hr5 : r < 512) (hi : i9.toInt = 1 + 6 * r) (hiL : 6 * r + 6 < L9) (hq : LK D t s n x mo ou τm A τ L h1 h3 H locs r cs ss) (hl : lv_has ls 8 [(4, .int i9), (3, .ref ou), (2, .ref mo), (1, .ref x), (0, .ref b)]) (K : ∀ (τ : tM) (L : List Nat) (h1 h3 : hM) (H : Heap) (locs : List Loc) (ls : Array Slot) (cs ss : Nat), LK D t s n x mo ou τm A τ L h1 h3 H locs (r + 1) cs ss → lv_has ls 8 [(4, .int i9), (3, .ref ou), (2, .ref mo), (1, .ref x), (0, .ref b)] → W p l e room_1 s m #[Value.ref b] below meth c H locs cs ss (lw_Z below #[Value.ref b] s) (F0 m 861 ls [])) : W p l e room_1 s m #[Value.ref b] below meth c H locs cs ss (lw_Z below #[Value.ref b] s) (F0 m 535 ls []) := by
  have hbA : ¬ P0 s b := Nat.not_le.mpr hbl
  obtain ⟨hQ, hX, T_ou, hM9, hcs, hss⟩ := hq
  obtain ⟨hT, T_x, hU, hTr, hL1, hL2⟩ := id hX
  obtain ⟨fx9, F_x⟩ := X_ob hT T_x
  obtain ⟨hTm, T_mo, hA, th, sd, lo, le, wr, ma, nu, di, pl, se, wg, op, F_m, hmk, hTr9, hEx9, hOp9, hma9⟩ := hM9
  obtain ⟨ph, hph⟩ : ∃ z, z = nl L h1 + spz h1 x := ⟨_, rfl⟩
  rw [← hph] at hcs hss
  refine lv_aload_n hx hb d_La_law_535 rfl (lv_at hl 3 rfl) ?_
  have px21 : ∀ q, (gD H h1).P q → P0 s q := LQ_px hQ
  refine hm_callEi (va_runVD (As := []) (b := x) (rest := []) ⟨hx, hb, hml, hown, hts⟩ (x_compact l D t (gD H h1) ak av h1 τ n x  hn hT T_x L ph hL1 hL2 (by rw [hph]; exact Nat.le_refl _) hU hTr) ⟨cw9B 0 hts mw_993 mw_994 mw_25 rfl rfl (by decide +kernel) ⟨Nat.le_of_ble_eq_true rfl, Nat.le_of_ble_eq_true rfl⟩, hts _ mw_995, hts _ mw_996⟩ (hP_V (q := (R_Di, F_Di, 9)) kE_ok (kE_g hE0 hQ.1 rfl px21) hE0.1 hQ.2.1 F_x rfl) rfl rfl hl.1 rfl (lv_room (Nat.le_of_ble_eq_true rfl)) d_La_law_536 ⟨rm_c (show cs + ph ≤ 600000 by omega), rm_s (show ss + 2048 * ph ≤ 7000000 by omega)⟩) hQ.1.2.2 px21 (fun r22 h23 H24 locs k28 n29 hp26 hH27 z25 hLo => ?_)
  obtain ⟨hnn, τ1, L1, htx1, T_x1, hT1, hU1, hTr1, hL11, hL21, hnl1⟩ := hp26
  have hQ := LQ_x hQ hH27 hLo
  have hX : XI τ1 t n h23 x L1 := ⟨hT1, T_x1, hU1, hTr1, hL11, hL21⟩
  have T_ou : τ1 ou = (14, 0) := tx_r htx1 T_ou
  refine lv_pop hx hb d_La_law_539 rfl ?_
  refine lv_aload_n hx hb d_La_law_540 rfl (lv_at hl 2 rfl) ?_
  have px30 : ∀ q, (gD H24 h3).P q → P0 s q := LQ_py hQ
  refine hm_callXi (va_runV (As := []) (b := mo) (rest := []) ⟨hx, hb, hml, hown, hts⟩ (m_compact l D t (gD H24 h3) ak av h3 τm n mo  A th sd lo le wr ma nu di pl se wg op hn hTm T_mo F_m hA hmk hTr9 hEx9) ⟨cw9B 0 hts mw_997 mw_998 mw_579 rfl rfl (by decide +kernel) ⟨Nat.le_of_ble_eq_true rfl, Nat.le_of_ble_eq_true rfl⟩, hts _ mw_999, hts _ mw_1000⟩ (hP_V (q := (R_Mo, F_Mo, 41)) kE_ok (kE_g hE0 hQ.1 rfl px30) hE0.1 hQ.2.2.1 F_m rfl) rfl rfl hl.1 rfl (lv_room (Nat.le_of_ble_eq_true rfl)) d_La_law_541 ⟨rm_c (by omega), rm_s (by omega)⟩) hQ.1.2.2 px30 (fun r31 h32 H33 locs hp35 hH36 z34 hLo => ?_)
  obtain ⟨hTm1, hkm, th1, sd1, lo1, le1, wr1, nu1, di1, op1, F_m1, hmk1, hX1⟩ := hp35
  have hQ := LQ_y hQ hH36 hLo
  have hOp1 : opQ (aI h32 (A 25)) (aI h32 (A 26)) op1.toInt.toNat n := by
    rcases hX1.1 with z9 | z9
    · rw [z9]; exact OP_kf hkm hA T_mo (by decide) (by decide) hOp9
    · rw [z9]; exact opQ_0
  have hM1 : MI τm t n h32 mo A (r + 1) := ⟨hTm1, T_mo, hA, th1, sd1, lo1, le1, wr1, ma, nu1, di1, pl, se, wg, op1, F_m1, hmk1, hX1.2.1, hX1.2.2, hOp1, (by omega)⟩
  refine lv_pop hx hb d_La_law_544 rfl ?_
  refine lv_goto (tgt := 861) hx hb d_La_law_545 (by decide) ?_
  exact K τ1 L1 h23 h32 H33 locs ls ((cs + k28) + 0) ((ss + n29) + 0) ⟨hQ, hX, T_ou, hM1, by omega, by omega⟩ (lv_sub hl [0, 1, 2, 3, 4] rfl)
