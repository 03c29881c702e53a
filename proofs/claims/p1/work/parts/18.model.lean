set_option maxRecDepth 100000 in
theorem mw_390 : Cond.fieldLink R_Mo 112 "WriteOnceDiscModel" "many" "I" ∈ lw_g := lw_gin (List.mem_append_right _ (List.mem_of_getElem? (i := 927) rfl)) (by decide +kernel)
set_option maxRecDepth 100000 in
theorem mw_391 : Cond.fieldLink R_Mo 24 "WriteOnceDiscModel" "isThere" "[Z" ∈ lw_g := lw_gin (List.mem_append_right _ (List.mem_of_getElem? (i := 928) rfl)) (by decide +kernel)
set_option maxRecDepth 100000 in
theorem mw_392 : Cond.fieldLink R_Mo 27 "WriteOnceDiscModel" "isDirectory" "[Z" ∈ lw_g := lw_gin (List.mem_append_right _ (List.mem_of_getElem? (i := 929) rfl)) (by decide +kernel)
set_option maxRecDepth 100000 in
theorem mw_393 : Cond.fieldLink R_Mo 30 "WriteOnceDiscModel" "parent" "[I" ∈ lw_g := lw_gin (List.mem_append_right _ (List.mem_of_getElem? (i := 930) rfl)) (by decide +kernel)
set_option maxRecDepth 100000 in
theorem mw_394 : Cond.fieldLink R_Mo 34 "WriteOnceDiscModel" "name" "[J" ∈ lw_g := lw_gin (List.mem_append_right _ (List.mem_of_getElem? (i := 931) rfl)) (by decide +kernel)
set_option maxRecDepth 100000 in
theorem mw_395 : Cond.fieldLink R_Mo 38 "WriteOnceDiscModel" "size" "[I" ∈ lw_g := lw_gin (List.mem_append_right _ (List.mem_of_getElem? (i := 932) rfl)) (by decide +kernel)
set_option maxRecDepth 100000 in
theorem mw_396 : Cond.fieldLink R_Mo 41 "WriteOnceDiscModel" "seed" "[I" ∈ lw_g := lw_gin (List.mem_append_right _ (List.mem_of_getElem? (i := 933) rfl)) (by decide +kernel)
set_option maxRecDepth 100000 in
theorem mw_397 : Cond.fieldLink R_Mo 47 "WriteOnceDiscModel" "extent" "[I" ∈ lw_g := lw_gin (List.mem_append_right _ (List.mem_of_getElem? (i := 935) rfl)) (by decide +kernel)
set_option maxRecDepth 100000 in
theorem mw_398 : Cond.methodLink R_Mo 1 objectInit ∈ lw_g := lw_gin (List.mem_append_right _ (List.mem_of_getElem? (i := 910) rfl)) (by decide +kernel)
set_option maxRecDepth 100000 in
theorem mw_399 : Cond.constant R_Mo 7 (819200) ∈ lw_g := lw_gin (List.mem_append_right _ (List.mem_of_getElem? (i := 911) rfl)) (by decide +kernel)
set_option maxRecDepth 100000 in
theorem mw_400 : Cond.fieldLink R_Mo 8 "WriteOnceDiscModel" "bytes" "[B" ∈ lw_g := lw_gin (List.mem_append_right _ (List.mem_of_getElem? (i := 920) rfl)) (by decide +kernel)
set_option maxRecDepth 100000 in
theorem mw_401 : Cond.fieldLink R_Mo 14 "WriteOnceDiscModel" "states" "[B" ∈ lw_g := lw_gin (List.mem_append_right _ (List.mem_of_getElem? (i := 921) rfl)) (by decide +kernel)
set_option maxRecDepth 100000 in
theorem mw_402 : Cond.arrayClass .boolean ∈ lw_g := lw_gin (List.mem_append_right _ (List.mem_of_getElem? (i := 1040) rfl)) (by decide +kernel)
set_option maxRecDepth 100000 in
theorem mw_403 : Cond.fieldLink R_Mo 17 "WriteOnceDiscModel" "defective" "[Z" ∈ lw_g := lw_gin (List.mem_append_right _ (List.mem_of_getElem? (i := 922) rfl)) (by decide +kernel)
set_option maxRecDepth 100000 in
theorem mw_404 : Cond.fieldLink R_Mo 21 "WriteOnceDiscModel" "page" "[B" ∈ lw_g := lw_gin (List.mem_append_right _ (List.mem_of_getElem? (i := 926) rfl)) (by decide +kernel)
set_option maxRecDepth 100000 in
theorem mw_405 : Cond.arrayClass .int ∈ lw_g := lw_gin (List.mem_append_right _ (List.mem_of_getElem? (i := 1041) rfl)) (by decide +kernel)
set_option maxRecDepth 100000 in
theorem mw_406 : Cond.arrayClass .long ∈ lw_g := lw_gin (List.mem_append_right _ (List.mem_of_getElem? (i := 1042) rfl)) (by decide +kernel)
set_option maxRecDepth 100000 in
theorem mw_407 : Cond.fieldLink R_Mo 44 "WriteOnceDiscModel" "isWritten" "[Z" ∈ lw_g := lw_gin (List.mem_append_right _ (List.mem_of_getElem? (i := 934) rfl)) (by decide +kernel)
set_option maxRecDepth 100000 in
theorem mw_408 : Cond.fieldLink R_Mo 50 "WriteOnceDiscModel" "older" "[I" ∈ lw_g := lw_gin (List.mem_append_right _ (List.mem_of_getElem? (i := 936) rfl)) (by decide +kernel)
set_option maxRecDepth 100000 in
theorem mw_409 : Cond.constant R_Mo 53 (163840) ∈ lw_g := lw_gin (List.mem_append_right _ (List.mem_of_getElem? (i := 912) rfl)) (by decide +kernel)
set_option maxRecDepth 100000 in
theorem mw_410 : Cond.fieldLink R_Mo 54 "WriteOnceDiscModel" "plan" "[B" ∈ lw_g := lw_gin (List.mem_append_right _ (List.mem_of_getElem? (i := 938) rfl)) (by decide +kernel)
set_option maxRecDepth 100000 in
theorem mw_411 : Cond.fieldLink R_Mo 57 "WriteOnceDiscModel" "table" "[I" ∈ lw_g := lw_gin (List.mem_append_right _ (List.mem_of_getElem? (i := 940) rfl)) (by decide +kernel)
set_option maxRecDepth 100000 in
theorem mw_412 : Cond.fieldLink R_Mo 60 "WriteOnceDiscModel" "at" "[I" ∈ lw_g := lw_gin (List.mem_append_right _ (List.mem_of_getElem? (i := 941) rfl)) (by decide +kernel)
set_option maxRecDepth 100000 in
theorem mw_413 : Cond.fieldLink R_Mo 63 "WriteOnceDiscModel" "long0" "[I" ∈ lw_g := lw_gin (List.mem_append_right _ (List.mem_of_getElem? (i := 942) rfl)) (by decide +kernel)
set_option maxRecDepth 100000 in
theorem mw_414 : Cond.fieldLink R_Mo 66 "WriteOnceDiscModel" "sAbove" "[I" ∈ lw_g := lw_gin (List.mem_append_right _ (List.mem_of_getElem? (i := 945) rfl)) (by decide +kernel)
set_option maxRecDepth 100000 in
theorem mw_415 : Cond.fieldLink R_Mo 69 "WriteOnceDiscModel" "sDirectory" "[Z" ∈ lw_g := lw_gin (List.mem_append_right _ (List.mem_of_getElem? (i := 946) rfl)) (by decide +kernel)
set_option maxRecDepth 100000 in
theorem mw_416 : Cond.fieldLink R_Mo 72 "WriteOnceDiscModel" "sSize" "[I" ∈ lw_g := lw_gin (List.mem_append_right _ (List.mem_of_getElem? (i := 947) rfl)) (by decide +kernel)
set_option maxRecDepth 100000 in
theorem mw_417 : Cond.fieldLink R_Mo 75 "WriteOnceDiscModel" "sSector" "[I" ∈ lw_g := lw_gin (List.mem_append_right _ (List.mem_of_getElem? (i := 948) rfl)) (by decide +kernel)
set_option maxRecDepth 100000 in
theorem mw_418 : Cond.fieldLink R_Mo 78 "WriteOnceDiscModel" "sName" "[J" ∈ lw_g := lw_gin (List.mem_append_right _ (List.mem_of_getElem? (i := 949) rfl)) (by decide +kernel)
set_option maxRecDepth 100000 in
theorem mw_419 : Cond.fieldLink R_Mo 81 "WriteOnceDiscModel" "sDepth" "[I" ∈ lw_g := lw_gin (List.mem_append_right _ (List.mem_of_getElem? (i := 950) rfl)) (by decide +kernel)
set_option maxRecDepth 100000 in
theorem mw_420 : Cond.fieldLink R_Mo 84 "WriteOnceDiscModel" "oAbove" "[I" ∈ lw_g := lw_gin (List.mem_append_right _ (List.mem_of_getElem? (i := 952) rfl)) (by decide +kernel)
set_option maxRecDepth 100000 in
theorem mw_421 : Cond.fieldLink R_Mo 87 "WriteOnceDiscModel" "oDirectory" "[Z" ∈ lw_g := lw_gin (List.mem_append_right _ (List.mem_of_getElem? (i := 953) rfl)) (by decide +kernel)
set_option maxRecDepth 100000 in
theorem mw_422 : Cond.fieldLink R_Mo 90 "WriteOnceDiscModel" "oSize" "[I" ∈ lw_g := lw_gin (List.mem_append_right _ (List.mem_of_getElem? (i := 954) rfl)) (by decide +kernel)
set_option maxRecDepth 100000 in
theorem mw_423 : Cond.fieldLink R_Mo 93 "WriteOnceDiscModel" "oSector" "[I" ∈ lw_g := lw_gin (List.mem_append_right _ (List.mem_of_getElem? (i := 955) rfl)) (by decide +kernel)
set_option maxRecDepth 100000 in
theorem mw_424 : Cond.fieldLink R_Mo 96 "WriteOnceDiscModel" "oName" "[J" ∈ lw_g := lw_gin (List.mem_append_right _ (List.mem_of_getElem? (i := 956) rfl)) (by decide +kernel)
set_option maxRecDepth 100000 in
theorem mw_425 : Cond.fieldLink R_Mo 99 "WriteOnceDiscModel" "sectors" "I" ∈ lw_g := lw_gin (List.mem_append_right _ (List.mem_of_getElem? (i := 918) rfl)) (by decide +kernel)
set_option maxRecDepth 100000 in
theorem mw_426 : Cond.fieldLink R_Mo 103 "WriteOnceDiscModel" "left" "I" ∈ lw_g := lw_gin (List.mem_append_right _ (List.mem_of_getElem? (i := 924) rfl)) (by decide +kernel)
set_option maxRecDepth 100000 in
theorem mw_427 : Cond.code y_Mo_rootAlone b_Mo_rootAlone 1 none ∈ lw_g := lw_gin (List.mem_append_right _ (List.mem_of_getElem? (i := 916) rfl)) (by decide +kernel)
set_option maxRecDepth 100000 in
theorem mw_428 : Cond.initialized R_Mo ∈ lw_g := lw_gin (List.mem_append_right _ (List.mem_of_getElem? (i := 10) rfl)) (by decide +kernel)
set_option maxRecDepth 100000 in
theorem mw_429 : Cond.methodLink R_Mo 106 y_Mo_rootAlone ∈ lw_g := lw_gin (List.mem_append_right _ (List.mem_of_getElem? (i := 913) rfl)) (by decide +kernel)
set_option maxRecDepth 100000 in
theorem mw_430 : Cond.instanceMethod y_Mo_rootAlone ∈ lw_g := lw_gin (List.mem_append_right _ (List.mem_of_getElem? (i := 915) rfl)) (by decide +kernel)
set_option maxRecDepth 100000 in
theorem mw_431 : Cond.selects R_Mo y_Mo_rootAlone y_Mo_rootAlone ∈ lw_g := lw_gin (List.mem_append_left _ (List.mem_of_getElem? (i := 27) rfl)) (by decide +kernel)
theorem d_Mo_rootAlone_0 : decode b_Mo_rootAlone 0 = .ok (.aload_n 0, 1) := by decide +kernel
theorem d_Mo_rootAlone_1 : decode b_Mo_rootAlone 1 = .ok (.iconst 1, 1) := by decide +kernel
theorem d_Mo_rootAlone_2 : decode b_Mo_rootAlone 2 = .ok (.putfield 112, 3) := by decide +kernel
theorem d_Mo_rootAlone_5 : decode b_Mo_rootAlone 5 = .ok (.aload_n 0, 1) := by decide +kernel
theorem d_Mo_rootAlone_6 : decode b_Mo_rootAlone 6 = .ok (.getfield 24, 3) := by decide +kernel
theorem d_Mo_rootAlone_9 : decode b_Mo_rootAlone 9 = .ok (.iconst 0, 1) := by decide +kernel
theorem d_Mo_rootAlone_10 : decode b_Mo_rootAlone 10 = .ok (.iconst 1, 1) := by decide +kernel
theorem d_Mo_rootAlone_11 : decode b_Mo_rootAlone 11 = .ok (.bastore, 1) := by decide +kernel
theorem d_Mo_rootAlone_12 : decode b_Mo_rootAlone 12 = .ok (.aload_n 0, 1) := by decide +kernel
theorem d_Mo_rootAlone_13 : decode b_Mo_rootAlone 13 = .ok (.getfield 27, 3) := by decide +kernel
theorem d_Mo_rootAlone_16 : decode b_Mo_rootAlone 16 = .ok (.iconst 0, 1) := by decide +kernel
theorem d_Mo_rootAlone_17 : decode b_Mo_rootAlone 17 = .ok (.iconst 1, 1) := by decide +kernel
theorem d_Mo_rootAlone_18 : decode b_Mo_rootAlone 18 = .ok (.bastore, 1) := by decide +kernel
theorem d_Mo_rootAlone_19 : decode b_Mo_rootAlone 19 = .ok (.aload_n 0, 1) := by decide +kernel
theorem d_Mo_rootAlone_20 : decode b_Mo_rootAlone 20 = .ok (.getfield 30, 3) := by decide +kernel
theorem d_Mo_rootAlone_23 : decode b_Mo_rootAlone 23 = .ok (.iconst 0, 1) := by decide +kernel
theorem d_Mo_rootAlone_24 : decode b_Mo_rootAlone 24 = .ok (.iconst (-1), 1) := by decide +kernel
theorem d_Mo_rootAlone_25 : decode b_Mo_rootAlone 25 = .ok (.iastore, 1) := by decide +kernel
theorem d_Mo_rootAlone_26 : decode b_Mo_rootAlone 26 = .ok (.aload_n 0, 1) := by decide +kernel
theorem d_Mo_rootAlone_27 : decode b_Mo_rootAlone 27 = .ok (.getfield 34, 3) := by decide +kernel
theorem d_Mo_rootAlone_30 : decode b_Mo_rootAlone 30 = .ok (.iconst 0, 1) := by decide +kernel
theorem d_Mo_rootAlone_31 : decode b_Mo_rootAlone 31 = .ok (.lconst 0, 1) := by decide +kernel
theorem d_Mo_rootAlone_32 : decode b_Mo_rootAlone 32 = .ok (.lastore, 1) := by decide +kernel
theorem d_Mo_rootAlone_33 : decode b_Mo_rootAlone 33 = .ok (.aload_n 0, 1) := by decide +kernel
theorem d_Mo_rootAlone_34 : decode b_Mo_rootAlone 34 = .ok (.getfield 38, 3) := by decide +kernel
theorem d_Mo_rootAlone_37 : decode b_Mo_rootAlone 37 = .ok (.iconst 0, 1) := by decide +kernel
theorem d_Mo_rootAlone_38 : decode b_Mo_rootAlone 38 = .ok (.iconst 0, 1) := by decide +kernel
theorem d_Mo_rootAlone_39 : decode b_Mo_rootAlone 39 = .ok (.iastore, 1) := by decide +kernel
theorem d_Mo_rootAlone_40 : decode b_Mo_rootAlone 40 = .ok (.aload_n 0, 1) := by decide +kernel
theorem d_Mo_rootAlone_41 : decode b_Mo_rootAlone 41 = .ok (.getfield 41, 3) := by decide +kernel
theorem d_Mo_rootAlone_44 : decode b_Mo_rootAlone 44 = .ok (.iconst 0, 1) := by decide +kernel
theorem d_Mo_rootAlone_45 : decode b_Mo_rootAlone 45 = .ok (.iconst 0, 1) := by decide +kernel
theorem d_Mo_rootAlone_46 : decode b_Mo_rootAlone 46 = .ok (.iastore, 1) := by decide +kernel
theorem d_Mo_rootAlone_47 : decode b_Mo_rootAlone 47 = .ok (.aload_n 0, 1) := by decide +kernel
theorem d_Mo_rootAlone_48 : decode b_Mo_rootAlone 48 = .ok (.getfield 47, 3) := by decide +kernel
theorem d_Mo_rootAlone_51 : decode b_Mo_rootAlone 51 = .ok (.iconst 0, 1) := by decide +kernel
theorem d_Mo_rootAlone_52 : decode b_Mo_rootAlone 52 = .ok (.iconst 0, 1) := by decide +kernel
theorem d_Mo_rootAlone_53 : decode b_Mo_rootAlone 53 = .ok (.iastore, 1) := by decide +kernel
theorem d_Mo_rootAlone_54 : decode b_Mo_rootAlone 54 = .ok (.return_, 1) := by decide +kernel
theorem d_Mo_init_0 : decode b_Mo_init 0 = .ok (.aload_n 0, 1) := by decide +kernel
theorem d_Mo_init_1 : decode b_Mo_init 1 = .ok (.invokespecial 1, 3) := by decide +kernel
theorem d_Mo_init_4 : decode b_Mo_init 4 = .ok (.aload_n 0, 1) := by decide +kernel
theorem d_Mo_init_5 : decode b_Mo_init 5 = .ok (.ldc 7, 2) := by decide +kernel
theorem d_Mo_init_7 : decode b_Mo_init 7 = .ok (.newarray .byte, 2) := by decide +kernel
theorem d_Mo_init_9 : decode b_Mo_init 9 = .ok (.putfield 8, 3) := by decide +kernel
theorem d_Mo_init_12 : decode b_Mo_init 12 = .ok (.aload_n 0, 1) := by decide +kernel
theorem d_Mo_init_13 : decode b_Mo_init 13 = .ok (.sipush 400, 3) := by decide +kernel
theorem d_Mo_init_16 : decode b_Mo_init 16 = .ok (.newarray .byte, 2) := by decide +kernel
theorem d_Mo_init_18 : decode b_Mo_init 18 = .ok (.putfield 14, 3) := by decide +kernel
theorem d_Mo_init_21 : decode b_Mo_init 21 = .ok (.aload_n 0, 1) := by decide +kernel
theorem d_Mo_init_22 : decode b_Mo_init 22 = .ok (.sipush 200, 3) := by decide +kernel
theorem d_Mo_init_25 : decode b_Mo_init 25 = .ok (.newarray .boolean, 2) := by decide +kernel
theorem d_Mo_init_27 : decode b_Mo_init 27 = .ok (.putfield 17, 3) := by decide +kernel
theorem d_Mo_init_30 : decode b_Mo_init 30 = .ok (.aload_n 0, 1) := by decide +kernel
theorem d_Mo_init_31 : decode b_Mo_init 31 = .ok (.sipush 2048, 3) := by decide +kernel
theorem d_Mo_init_34 : decode b_Mo_init 34 = .ok (.newarray .byte, 2) := by decide +kernel
theorem d_Mo_init_36 : decode b_Mo_init 36 = .ok (.putfield 21, 3) := by decide +kernel
theorem d_Mo_init_39 : decode b_Mo_init 39 = .ok (.aload_n 0, 1) := by decide +kernel
theorem d_Mo_init_40 : decode b_Mo_init 40 = .ok (.sipush 700, 3) := by decide +kernel
theorem d_Mo_init_43 : decode b_Mo_init 43 = .ok (.newarray .boolean, 2) := by decide +kernel
theorem d_Mo_init_45 : decode b_Mo_init 45 = .ok (.putfield 24, 3) := by decide +kernel
theorem d_Mo_init_48 : decode b_Mo_init 48 = .ok (.aload_n 0, 1) := by decide +kernel
theorem d_Mo_init_49 : decode b_Mo_init 49 = .ok (.sipush 700, 3) := by decide +kernel
theorem d_Mo_init_52 : decode b_Mo_init 52 = .ok (.newarray .boolean, 2) := by decide +kernel
theorem d_Mo_init_54 : decode b_Mo_init 54 = .ok (.putfield 27, 3) := by decide +kernel
theorem d_Mo_init_57 : decode b_Mo_init 57 = .ok (.aload_n 0, 1) := by decide +kernel
theorem d_Mo_init_58 : decode b_Mo_init 58 = .ok (.sipush 700, 3) := by decide +kernel
theorem d_Mo_init_61 : decode b_Mo_init 61 = .ok (.newarray .int, 2) := by decide +kernel
theorem d_Mo_init_63 : decode b_Mo_init 63 = .ok (.putfield 30, 3) := by decide +kernel
theorem d_Mo_init_66 : decode b_Mo_init 66 = .ok (.aload_n 0, 1) := by decide +kernel
theorem d_Mo_init_67 : decode b_Mo_init 67 = .ok (.sipush 700, 3) := by decide +kernel
theorem d_Mo_init_70 : decode b_Mo_init 70 = .ok (.newarray .long, 2) := by decide +kernel
theorem d_Mo_init_72 : decode b_Mo_init 72 = .ok (.putfield 34, 3) := by decide +kernel
theorem d_Mo_init_75 : decode b_Mo_init 75 = .ok (.aload_n 0, 1) := by decide +kernel
theorem d_Mo_init_76 : decode b_Mo_init 76 = .ok (.sipush 700, 3) := by decide +kernel
theorem d_Mo_init_79 : decode b_Mo_init 79 = .ok (.newarray .int, 2) := by decide +kernel
theorem d_Mo_init_81 : decode b_Mo_init 81 = .ok (.putfield 38, 3) := by decide +kernel
theorem d_Mo_init_84 : decode b_Mo_init 84 = .ok (.aload_n 0, 1) := by decide +kernel
theorem d_Mo_init_85 : decode b_Mo_init 85 = .ok (.sipush 700, 3) := by decide +kernel
theorem d_Mo_init_88 : decode b_Mo_init 88 = .ok (.newarray .int, 2) := by decide +kernel
theorem d_Mo_init_90 : decode b_Mo_init 90 = .ok (.putfield 41, 3) := by decide +kernel
theorem d_Mo_init_93 : decode b_Mo_init 93 = .ok (.aload_n 0, 1) := by decide +kernel
theorem d_Mo_init_94 : decode b_Mo_init 94 = .ok (.sipush 700, 3) := by decide +kernel
theorem d_Mo_init_97 : decode b_Mo_init 97 = .ok (.newarray .boolean, 2) := by decide +kernel
theorem d_Mo_init_99 : decode b_Mo_init 99 = .ok (.putfield 44, 3) := by decide +kernel
theorem d_Mo_init_102 : decode b_Mo_init 102 = .ok (.aload_n 0, 1) := by decide +kernel
theorem d_Mo_init_103 : decode b_Mo_init 103 = .ok (.sipush 700, 3) := by decide +kernel
theorem d_Mo_init_106 : decode b_Mo_init 106 = .ok (.newarray .int, 2) := by decide +kernel
theorem d_Mo_init_108 : decode b_Mo_init 108 = .ok (.putfield 47, 3) := by decide +kernel
theorem d_Mo_init_111 : decode b_Mo_init 111 = .ok (.aload_n 0, 1) := by decide +kernel
theorem d_Mo_init_112 : decode b_Mo_init 112 = .ok (.sipush 700, 3) := by decide +kernel
theorem d_Mo_init_115 : decode b_Mo_init 115 = .ok (.newarray .int, 2) := by decide +kernel
theorem d_Mo_init_117 : decode b_Mo_init 117 = .ok (.putfield 50, 3) := by decide +kernel
theorem d_Mo_init_120 : decode b_Mo_init 120 = .ok (.aload_n 0, 1) := by decide +kernel
theorem d_Mo_init_121 : decode b_Mo_init 121 = .ok (.ldc 53, 2) := by decide +kernel
theorem d_Mo_init_123 : decode b_Mo_init 123 = .ok (.newarray .byte, 2) := by decide +kernel
theorem d_Mo_init_125 : decode b_Mo_init 125 = .ok (.putfield 54, 3) := by decide +kernel
theorem d_Mo_init_128 : decode b_Mo_init 128 = .ok (.aload_n 0, 1) := by decide +kernel
theorem d_Mo_init_129 : decode b_Mo_init 129 = .ok (.bipush 30, 2) := by decide +kernel
theorem d_Mo_init_131 : decode b_Mo_init 131 = .ok (.newarray .int, 2) := by decide +kernel
theorem d_Mo_init_133 : decode b_Mo_init 133 = .ok (.putfield 57, 3) := by decide +kernel
theorem d_Mo_init_136 : decode b_Mo_init 136 = .ok (.aload_n 0, 1) := by decide +kernel
theorem d_Mo_init_137 : decode b_Mo_init 137 = .ok (.sipush 700, 3) := by decide +kernel
theorem d_Mo_init_140 : decode b_Mo_init 140 = .ok (.newarray .int, 2) := by decide +kernel
theorem d_Mo_init_142 : decode b_Mo_init 142 = .ok (.putfield 60, 3) := by decide +kernel
theorem d_Mo_init_145 : decode b_Mo_init 145 = .ok (.aload_n 0, 1) := by decide +kernel
theorem d_Mo_init_146 : decode b_Mo_init 146 = .ok (.sipush 700, 3) := by decide +kernel
theorem d_Mo_init_149 : decode b_Mo_init 149 = .ok (.newarray .int, 2) := by decide +kernel
theorem d_Mo_init_151 : decode b_Mo_init 151 = .ok (.putfield 63, 3) := by decide +kernel
theorem d_Mo_init_154 : decode b_Mo_init 154 = .ok (.aload_n 0, 1) := by decide +kernel
theorem d_Mo_init_155 : decode b_Mo_init 155 = .ok (.bipush 31, 2) := by decide +kernel
theorem d_Mo_init_157 : decode b_Mo_init 157 = .ok (.newarray .int, 2) := by decide +kernel
theorem d_Mo_init_159 : decode b_Mo_init 159 = .ok (.putfield 66, 3) := by decide +kernel
theorem d_Mo_init_162 : decode b_Mo_init 162 = .ok (.aload_n 0, 1) := by decide +kernel
theorem d_Mo_init_163 : decode b_Mo_init 163 = .ok (.bipush 31, 2) := by decide +kernel
theorem d_Mo_init_165 : decode b_Mo_init 165 = .ok (.newarray .boolean, 2) := by decide +kernel
theorem d_Mo_init_167 : decode b_Mo_init 167 = .ok (.putfield 69, 3) := by decide +kernel
theorem d_Mo_init_170 : decode b_Mo_init 170 = .ok (.aload_n 0, 1) := by decide +kernel
theorem d_Mo_init_171 : decode b_Mo_init 171 = .ok (.bipush 31, 2) := by decide +kernel
theorem d_Mo_init_173 : decode b_Mo_init 173 = .ok (.newarray .int, 2) := by decide +kernel
theorem d_Mo_init_175 : decode b_Mo_init 175 = .ok (.putfield 72, 3) := by decide +kernel
theorem d_Mo_init_178 : decode b_Mo_init 178 = .ok (.aload_n 0, 1) := by decide +kernel
theorem d_Mo_init_179 : decode b_Mo_init 179 = .ok (.bipush 31, 2) := by decide +kernel
theorem d_Mo_init_181 : decode b_Mo_init 181 = .ok (.newarray .int, 2) := by decide +kernel
theorem d_Mo_init_183 : decode b_Mo_init 183 = .ok (.putfield 75, 3) := by decide +kernel
theorem d_Mo_init_186 : decode b_Mo_init 186 = .ok (.aload_n 0, 1) := by decide +kernel
theorem d_Mo_init_187 : decode b_Mo_init 187 = .ok (.bipush 31, 2) := by decide +kernel
theorem d_Mo_init_189 : decode b_Mo_init 189 = .ok (.newarray .long, 2) := by decide +kernel
theorem d_Mo_init_191 : decode b_Mo_init 191 = .ok (.putfield 78, 3) := by decide +kernel
theorem d_Mo_init_194 : decode b_Mo_init 194 = .ok (.aload_n 0, 1) := by decide +kernel
theorem d_Mo_init_195 : decode b_Mo_init 195 = .ok (.bipush 31, 2) := by decide +kernel
theorem d_Mo_init_197 : decode b_Mo_init 197 = .ok (.newarray .int, 2) := by decide +kernel
theorem d_Mo_init_199 : decode b_Mo_init 199 = .ok (.putfield 81, 3) := by decide +kernel
theorem d_Mo_init_202 : decode b_Mo_init 202 = .ok (.aload_n 0, 1) := by decide +kernel
theorem d_Mo_init_203 : decode b_Mo_init 203 = .ok (.bipush 31, 2) := by decide +kernel
theorem d_Mo_init_205 : decode b_Mo_init 205 = .ok (.newarray .int, 2) := by decide +kernel
theorem d_Mo_init_207 : decode b_Mo_init 207 = .ok (.putfield 84, 3) := by decide +kernel
theorem d_Mo_init_210 : decode b_Mo_init 210 = .ok (.aload_n 0, 1) := by decide +kernel
theorem d_Mo_init_211 : decode b_Mo_init 211 = .ok (.bipush 31, 2) := by decide +kernel
theorem d_Mo_init_213 : decode b_Mo_init 213 = .ok (.newarray .boolean, 2) := by decide +kernel
theorem d_Mo_init_215 : decode b_Mo_init 215 = .ok (.putfield 87, 3) := by decide +kernel
theorem d_Mo_init_218 : decode b_Mo_init 218 = .ok (.aload_n 0, 1) := by decide +kernel
theorem d_Mo_init_219 : decode b_Mo_init 219 = .ok (.bipush 31, 2) := by decide +kernel
theorem d_Mo_init_221 : decode b_Mo_init 221 = .ok (.newarray .int, 2) := by decide +kernel
theorem d_Mo_init_223 : decode b_Mo_init 223 = .ok (.putfield 90, 3) := by decide +kernel
theorem d_Mo_init_226 : decode b_Mo_init 226 = .ok (.aload_n 0, 1) := by decide +kernel
theorem d_Mo_init_227 : decode b_Mo_init 227 = .ok (.bipush 31, 2) := by decide +kernel
theorem d_Mo_init_229 : decode b_Mo_init 229 = .ok (.newarray .int, 2) := by decide +kernel
theorem d_Mo_init_231 : decode b_Mo_init 231 = .ok (.putfield 93, 3) := by decide +kernel
theorem d_Mo_init_234 : decode b_Mo_init 234 = .ok (.aload_n 0, 1) := by decide +kernel
theorem d_Mo_init_235 : decode b_Mo_init 235 = .ok (.bipush 31, 2) := by decide +kernel
theorem d_Mo_init_237 : decode b_Mo_init 237 = .ok (.newarray .long, 2) := by decide +kernel
theorem d_Mo_init_239 : decode b_Mo_init 239 = .ok (.putfield 96, 3) := by decide +kernel
theorem d_Mo_init_242 : decode b_Mo_init 242 = .ok (.aload_n 0, 1) := by decide +kernel
theorem d_Mo_init_243 : decode b_Mo_init 243 = .ok (.iload_n 1, 1) := by decide +kernel
theorem d_Mo_init_244 : decode b_Mo_init 244 = .ok (.bipush 40, 2) := by decide +kernel
theorem d_Mo_init_246 : decode b_Mo_init 246 = .ok (.if_icmp .lt 14, 3) := by decide +kernel
theorem d_Mo_init_260 : decode b_Mo_init 260 = .ok (.bipush 100, 2) := by decide +kernel
theorem d_Mo_init_262 : decode b_Mo_init 262 = .ok (.putfield 99, 3) := by decide +kernel
theorem d_Mo_init_265 : decode b_Mo_init 265 = .ok (.aload_n 0, 1) := by decide +kernel
theorem d_Mo_init_266 : decode b_Mo_init 266 = .ok (.iconst (-1), 1) := by decide +kernel
theorem d_Mo_init_267 : decode b_Mo_init 267 = .ok (.putfield 103, 3) := by decide +kernel
theorem d_Mo_init_270 : decode b_Mo_init 270 = .ok (.aload_n 0, 1) := by decide +kernel
theorem d_Mo_init_271 : decode b_Mo_init 271 = .ok (.invokevirtual 106, 3) := by decide +kernel
theorem d_Mo_init_274 : decode b_Mo_init 274 = .ok (.return_, 1) := by decide +kernel
theorem d_Mo_init_249 : decode b_Mo_init 249 = .ok (.iload_n 1, 1) := by decide +kernel
theorem d_Mo_init_250 : decode b_Mo_init 250 = .ok (.sipush 200, 3) := by decide +kernel
theorem d_Mo_init_253 : decode b_Mo_init 253 = .ok (.if_icmp .gt 7, 3) := by decide +kernel
theorem d_Mo_init_256 : decode b_Mo_init 256 = .ok (.iload_n 1, 1) := by decide +kernel
theorem d_Mo_init_257 : decode b_Mo_init 257 = .ok (.goto 5, 3) := by decide +kernel
theorem upd0 (f : Nat → Int32) {x y : Int32} (k : Nat) (h : x = y) : upd f k x k = y := by
  rw [pk_us, h]

/-- a fresh reference, of n sectors -/
def FrM (t : Nat → ClassId) (h : hM) (m n : Nat) : Prop := ∃ (aBy aSt aDe aPa aIt aId aPr aNa aSi aSe aIw aEx aOl aPl aTa aAt aLo aS1 aS2 aS3 aS4 aS5 aS6 aO1 aO2 aO3 aO4 aO5 : Nat) (gBy gSt gDe gPa gIt gId gPr gSi gSe gIw gEx gOl gPl gTa gAt gLo : Nat → Int32) (gNa : Nat → Int64), h m = some (.inr (9, [.int 0, .int (nI n), .int 0, .ref aBy, .ref aSt, .ref aDe, .int 0, .int (-1), .int 0, .ref aPa, .int 1, .ref aIt, .ref aId, .ref aPr, .ref aNa, .ref aSi, .ref aSe, .ref aIw, .ref aEx, .ref aOl, .int 0, .ref aPl, .int 0, .int 0, .ref aTa, .ref aAt, .ref aLo, .int 0, .int 0, .ref aS1, .ref aS2, .ref aS3, .ref aS4, .ref aS5, .ref aS6, .int 0, .ref aO1, .ref aO2, .ref aO3, .ref aO4, .ref aO5])) ∧ h aBy = some (.inl ((t 0), 819200, .inl gBy)) ∧ h aSt = some (.inl ((t 0), 400, .inl gSt)) ∧ h aDe = some (.inl ((t 1), 200, .inl gDe)) ∧ h aPa = some (.inl ((t 0), 2048, .inl gPa)) ∧ h aIt = some (.inl ((t 1), 700, .inl gIt)) ∧ h aId = some (.inl ((t 1), 700, .inl gId)) ∧ h aPr = some (.inl ((t 2), 700, .inl gPr)) ∧ h aNa = some (.inl ((t 3), 700, .inr (.inl gNa))) ∧ h aSi = some (.inl ((t 2), 700, .inl gSi)) ∧ h aSe = some (.inl ((t 2), 700, .inl gSe)) ∧ h aIw = some (.inl ((t 1), 700, .inl gIw)) ∧ h aEx = some (.inl ((t 2), 700, .inl gEx)) ∧ h aOl = some (.inl ((t 2), 700, .inl gOl)) ∧ h aPl = some (.inl ((t 0), 163840, .inl gPl)) ∧ h aTa = some (.inl ((t 2), 30, .inl gTa)) ∧ h aAt = some (.inl ((t 2), 700, .inl gAt)) ∧ h aLo = some (.inl ((t 2), 700, .inl gLo)) ∧ (∀ j, gBy j = 0) ∧ (∀ j, gSt j = 0) ∧ (∀ j, gDe j = 0) ∧ gIt 0 = 1 ∧ gId 0 = 1 ∧ gPr 0 = -1 ∧ gSi 0 = 0 ∧ gSe 0 = 0 ∧ gEx 0 = 0 ∧ aIt ≠ aId ∧ aIt ≠ aPr ∧ aIt ≠ aSi ∧ aIt ≠ aSe ∧ aIt ≠ aEx ∧ aId ≠ aPr ∧ aId ≠ aSi ∧ aId ≠ aSe ∧ aId ≠ aEx ∧ aPr ≠ aSi ∧ aPr ≠ aSe ∧ aPr ≠ aEx ∧ aSi ≠ aSe ∧ aSi ≠ aEx ∧ aSe ≠ aEx ∧ aId ≠ aAt ∧ aId ≠ aLo ∧ aAt ≠ aLo ∧ aId ≠ aOl ∧ aIt ≠ aIw ∧ aId ≠ aIw ∧ aPr ≠ aIw ∧ aSi ≠ aIw ∧ aSe ≠ aIw ∧ aIw ≠ aEx ∧ aEx ≠ aOl ∧ aOl ≠ aAt ∧ aOl ≠ aLo ∧ 40 ≤ n ∧ n ≤ 200
set_option maxRecDepth 100000 in
theorem FrM_elim {t : Nat → ClassId} {h : hM} {m n : Nat} {C : Prop} (hM : FrM t h m n) (k : ∀ (aBy aSt aDe aPa aIt aId aPr aNa aSi aSe aIw aEx aOl aPl aTa aAt aLo aS1 aS2 aS3 aS4 aS5 aS6 aO1 aO2 aO3 aO4 aO5 : Nat) (gBy gSt gDe gPa gIt gId gPr gSi gSe gIw gEx gOl gPl gTa gAt gLo : Nat → Int32) (gNa : Nat → Int64), h m = some (.inr (9, [.int 0, .int (nI n), .int 0, .ref aBy, .ref aSt, .ref aDe, .int 0, .int (-1), .int 0, .ref aPa, .int 1, .ref aIt, .ref aId, .ref aPr, .ref aNa, .ref aSi, .ref aSe, .ref aIw, .ref aEx, .ref aOl, .int 0, .ref aPl, .int 0, .int 0, .ref aTa, .ref aAt, .ref aLo, .int 0, .int 0, .ref aS1, .ref aS2, .ref aS3, .ref aS4, .ref aS5, .ref aS6, .int 0, .ref aO1, .ref aO2, .ref aO3, .ref aO4, .ref aO5])) → h aBy = some (.inl ((t 0), 819200, .inl gBy)) → h aSt = some (.inl ((t 0), 400, .inl gSt)) → h aDe = some (.inl ((t 1), 200, .inl gDe)) → h aPa = some (.inl ((t 0), 2048, .inl gPa)) → h aIt = some (.inl ((t 1), 700, .inl gIt)) → h aId = some (.inl ((t 1), 700, .inl gId)) → h aPr = some (.inl ((t 2), 700, .inl gPr)) → h aNa = some (.inl ((t 3), 700, .inr (.inl gNa))) → h aSi = some (.inl ((t 2), 700, .inl gSi)) → h aSe = some (.inl ((t 2), 700, .inl gSe)) → h aIw = some (.inl ((t 1), 700, .inl gIw)) → h aEx = some (.inl ((t 2), 700, .inl gEx)) → h aOl = some (.inl ((t 2), 700, .inl gOl)) → h aPl = some (.inl ((t 0), 163840, .inl gPl)) → h aTa = some (.inl ((t 2), 30, .inl gTa)) → h aAt = some (.inl ((t 2), 700, .inl gAt)) → h aLo = some (.inl ((t 2), 700, .inl gLo)) → (∀ j, gBy j = 0) → (∀ j, gSt j = 0) → (∀ j, gDe j = 0) → gIt 0 = 1 → gId 0 = 1 → gPr 0 = -1 → gSi 0 = 0 → gSe 0 = 0 → gEx 0 = 0 → aIt ≠ aId → aIt ≠ aPr → aIt ≠ aSi → aIt ≠ aSe → aIt ≠ aEx → aId ≠ aPr → aId ≠ aSi → aId ≠ aSe → aId ≠ aEx → aPr ≠ aSi → aPr ≠ aSe → aPr ≠ aEx → aSi ≠ aSe → aSi ≠ aEx → aSe ≠ aEx → aId ≠ aAt → aId ≠ aLo → aAt ≠ aLo → aId ≠ aOl → aIt ≠ aIw → aId ≠ aIw → aPr ≠ aIw → aSi ≠ aIw → aSe ≠ aIw → aIw ≠ aEx → aEx ≠ aOl → aOl ≠ aAt → aOl ≠ aLo → 40 ≤ n → n ≤ 200 → C) : C :=
  Exists.elim hM fun aBy q0 => Exists.elim q0 fun aSt q1 => Exists.elim q1 fun aDe q2 => Exists.elim q2 fun aPa q3 => Exists.elim q3 fun aIt q4 => Exists.elim q4 fun aId q5 => Exists.elim q5 fun aPr q6 => Exists.elim q6 fun aNa q7 => Exists.elim q7 fun aSi q8 => Exists.elim q8 fun aSe q9 => Exists.elim q9 fun aIw q10 => Exists.elim q10 fun aEx q11 => Exists.elim q11 fun aOl q12 => Exists.elim q12 fun aPl q13 => Exists.elim q13 fun aTa q14 => Exists.elim q14 fun aAt q15 => Exists.elim q15 fun aLo q16 => Exists.elim q16 fun aS1 q17 => Exists.elim q17 fun aS2 q18 => Exists.elim q18 fun aS3 q19 => Exists.elim q19 fun aS4 q20 => Exists.elim q20 fun aS5 q21 => Exists.elim q21 fun aS6 q22 => Exists.elim q22 fun aO1 q23 => Exists.elim q23 fun aO2 q24 => Exists.elim q24 fun aO3 q25 => Exists.elim q25 fun aO4 q26 => Exists.elim q26 fun aO5 q27 => Exists.elim q27 fun gBy q28 => Exists.elim q28 fun gSt q29 => Exists.elim q29 fun gDe q30 => Exists.elim q30 fun gPa q31 => Exists.elim q31 fun gIt q32 => Exists.elim q32 fun gId q33 => Exists.elim q33 fun gPr q34 => Exists.elim q34 fun gSi q35 => Exists.elim q35 fun gSe q36 => Exists.elim q36 fun gIw q37 => Exists.elim q37 fun gEx q38 => Exists.elim q38 fun gOl q39 => Exists.elim q39 fun gPl q40 => Exists.elim q40 fun gTa q41 => Exists.elim q41 fun gAt q42 => Exists.elim q42 fun gLo q43 => Exists.elim q43 fun gNa q44 => k aBy aSt aDe aPa aIt aId aPr aNa aSi aSe aIw aEx aOl aPl aTa aAt aLo aS1 aS2 aS3 aS4 aS5 aS6 aO1 aO2 aO3 aO4 aO5 gBy gSt gDe gPa gIt gId gPr gSi gSe gIw gEx gOl gPl gTa gAt gLo gNa q44.1 q44.2.1 q44.2.2.1 q44.2.2.2.1 q44.2.2.2.2.1 q44.2.2.2.2.2.1 q44.2.2.2.2.2.2.1 q44.2.2.2.2.2.2.2.1 q44.2.2.2.2.2.2.2.2.1 q44.2.2.2.2.2.2.2.2.2.1 q44.2.2.2.2.2.2.2.2.2.2.1 q44.2.2.2.2.2.2.2.2.2.2.2.1 q44.2.2.2.2.2.2.2.2.2.2.2.2.1 q44.2.2.2.2.2.2.2.2.2.2.2.2.2.1 q44.2.2.2.2.2.2.2.2.2.2.2.2.2.2.1 q44.2.2.2.2.2.2.2.2.2.2.2.2.2.2.2.1 q44.2.2.2.2.2.2.2.2.2.2.2.2.2.2.2.2.1 q44.2.2.2.2.2.2.2.2.2.2.2.2.2.2.2.2.2.1 q44.2.2.2.2.2.2.2.2.2.2.2.2.2.2.2.2.2.2.1 q44.2.2.2.2.2.2.2.2.2.2.2.2.2.2.2.2.2.2.2.1 q44.2.2.2.2.2.2.2.2.2.2.2.2.2.2.2.2.2.2.2.2.1 q44.2.2.2.2.2.2.2.2.2.2.2.2.2.2.2.2.2.2.2.2.2.1 q44.2.2.2.2.2.2.2.2.2.2.2.2.2.2.2.2.2.2.2.2.2.2.1 q44.2.2.2.2.2.2.2.2.2.2.2.2.2.2.2.2.2.2.2.2.2.2.2.1 q44.2.2.2.2.2.2.2.2.2.2.2.2.2.2.2.2.2.2.2.2.2.2.2.2.1 q44.2.2.2.2.2.2.2.2.2.2.2.2.2.2.2.2.2.2.2.2.2.2.2.2.2.1 q44.2.2.2.2.2.2.2.2.2.2.2.2.2.2.2.2.2.2.2.2.2.2.2.2.2.2.1 q44.2.2.2.2.2.2.2.2.2.2.2.2.2.2.2.2.2.2.2.2.2.2.2.2.2.2.2.1 q44.2.2.2.2.2.2.2.2.2.2.2.2.2.2.2.2.2.2.2.2.2.2.2.2.2.2.2.2.1 q44.2.2.2.2.2.2.2.2.2.2.2.2.2.2.2.2.2.2.2.2.2.2.2.2.2.2.2.2.2.1 q44.2.2.2.2.2.2.2.2.2.2.2.2.2.2.2.2.2.2.2.2.2.2.2.2.2.2.2.2.2.2.1 q44.2.2.2.2.2.2.2.2.2.2.2.2.2.2.2.2.2.2.2.2.2.2.2.2.2.2.2.2.2.2.2.1 q44.2.2.2.2.2.2.2.2.2.2.2.2.2.2.2.2.2.2.2.2.2.2.2.2.2.2.2.2.2.2.2.2.1 q44.2.2.2.2.2.2.2.2.2.2.2.2.2.2.2.2.2.2.2.2.2.2.2.2.2.2.2.2.2.2.2.2.2.1 q44.2.2.2.2.2.2.2.2.2.2.2.2.2.2.2.2.2.2.2.2.2.2.2.2.2.2.2.2.2.2.2.2.2.2.1 q44.2.2.2.2.2.2.2.2.2.2.2.2.2.2.2.2.2.2.2.2.2.2.2.2.2.2.2.2.2.2.2.2.2.2.2.1 q44.2.2.2.2.2.2.2.2.2.2.2.2.2.2.2.2.2.2.2.2.2.2.2.2.2.2.2.2.2.2.2.2.2.2.2.2.1 q44.2.2.2.2.2.2.2.2.2.2.2.2.2.2.2.2.2.2.2.2.2.2.2.2.2.2.2.2.2.2.2.2.2.2.2.2.2.1 q44.2.2.2.2.2.2.2.2.2.2.2.2.2.2.2.2.2.2.2.2.2.2.2.2.2.2.2.2.2.2.2.2.2.2.2.2.2.2.1 q44.2.2.2.2.2.2.2.2.2.2.2.2.2.2.2.2.2.2.2.2.2.2.2.2.2.2.2.2.2.2.2.2.2.2.2.2.2.2.2.1 q44.2.2.2.2.2.2.2.2.2.2.2.2.2.2.2.2.2.2.2.2.2.2.2.2.2.2.2.2.2.2.2.2.2.2.2.2.2.2.2.2.1 q44.2.2.2.2.2.2.2.2.2.2.2.2.2.2.2.2.2.2.2.2.2.2.2.2.2.2.2.2.2.2.2.2.2.2.2.2.2.2.2.2.2.1 q44.2.2.2.2.2.2.2.2.2.2.2.2.2.2.2.2.2.2.2.2.2.2.2.2.2.2.2.2.2.2.2.2.2.2.2.2.2.2.2.2.2.2.1 q44.2.2.2.2.2.2.2.2.2.2.2.2.2.2.2.2.2.2.2.2.2.2.2.2.2.2.2.2.2.2.2.2.2.2.2.2.2.2.2.2.2.2.2.1 q44.2.2.2.2.2.2.2.2.2.2.2.2.2.2.2.2.2.2.2.2.2.2.2.2.2.2.2.2.2.2.2.2.2.2.2.2.2.2.2.2.2.2.2.2.1 q44.2.2.2.2.2.2.2.2.2.2.2.2.2.2.2.2.2.2.2.2.2.2.2.2.2.2.2.2.2.2.2.2.2.2.2.2.2.2.2.2.2.2.2.2.2.1 q44.2.2.2.2.2.2.2.2.2.2.2.2.2.2.2.2.2.2.2.2.2.2.2.2.2.2.2.2.2.2.2.2.2.2.2.2.2.2.2.2.2.2.2.2.2.2.1 q44.2.2.2.2.2.2.2.2.2.2.2.2.2.2.2.2.2.2.2.2.2.2.2.2.2.2.2.2.2.2.2.2.2.2.2.2.2.2.2.2.2.2.2.2.2.2.2.1 q44.2.2.2.2.2.2.2.2.2.2.2.2.2.2.2.2.2.2.2.2.2.2.2.2.2.2.2.2.2.2.2.2.2.2.2.2.2.2.2.2.2.2.2.2.2.2.2.2.1 q44.2.2.2.2.2.2.2.2.2.2.2.2.2.2.2.2.2.2.2.2.2.2.2.2.2.2.2.2.2.2.2.2.2.2.2.2.2.2.2.2.2.2.2.2.2.2.2.2.2.1 q44.2.2.2.2.2.2.2.2.2.2.2.2.2.2.2.2.2.2.2.2.2.2.2.2.2.2.2.2.2.2.2.2.2.2.2.2.2.2.2.2.2.2.2.2.2.2.2.2.2.2.1 q44.2.2.2.2.2.2.2.2.2.2.2.2.2.2.2.2.2.2.2.2.2.2.2.2.2.2.2.2.2.2.2.2.2.2.2.2.2.2.2.2.2.2.2.2.2.2.2.2.2.2.2.1 q44.2.2.2.2.2.2.2.2.2.2.2.2.2.2.2.2.2.2.2.2.2.2.2.2.2.2.2.2.2.2.2.2.2.2.2.2.2.2.2.2.2.2.2.2.2.2.2.2.2.2.2.2.1 q44.2.2.2.2.2.2.2.2.2.2.2.2.2.2.2.2.2.2.2.2.2.2.2.2.2.2.2.2.2.2.2.2.2.2.2.2.2.2.2.2.2.2.2.2.2.2.2.2.2.2.2.2.2.1 q44.2.2.2.2.2.2.2.2.2.2.2.2.2.2.2.2.2.2.2.2.2.2.2.2.2.2.2.2.2.2.2.2.2.2.2.2.2.2.2.2.2.2.2.2.2.2.2.2.2.2.2.2.2.2.1 q44.2.2.2.2.2.2.2.2.2.2.2.2.2.2.2.2.2.2.2.2.2.2.2.2.2.2.2.2.2.2.2.2.2.2.2.2.2.2.2.2.2.2.2.2.2.2.2.2.2.2.2.2.2.2.2.1 q44.2.2.2.2.2.2.2.2.2.2.2.2.2.2.2.2.2.2.2.2.2.2.2.2.2.2.2.2.2.2.2.2.2.2.2.2.2.2.2.2.2.2.2.2.2.2.2.2.2.2.2.2.2.2.2.2

set_option maxHeartbeats 4000000 in
set_option maxRecDepth 100000 in
theorem c_m_rootAlone (l : Launch) (D : va_G) (t : Nat → ClassId) (G : hG) (ak av : Nat → Nat) (h : hM) (mo n aBy aSt aDe aPa aIt aId aPr aNa aSi aSe aIw aEx aOl aPl aTa aAt aLo aS1 aS2 aS3 aS4 aS5 aS6 aO1 aO2 aO3 aO4 aO5 : Nat) (mn : Int32) (gIt gId gPr gSi gSe gEx : Nat → Int32) (gNa : Nat → Int64) (f_m : h mo = some (.inr (9, [.int 0, .int (nI n), .int 0, .ref aBy, .ref aSt, .ref aDe, .int 0, .int (-1), .int 0, .ref aPa, .int mn, .ref aIt, .ref aId, .ref aPr, .ref aNa, .ref aSi, .ref aSe, .ref aIw, .ref aEx, .ref aOl, .int 0, .ref aPl, .int 0, .int 0, .ref aTa, .ref aAt, .ref aLo, .int 0, .int 0, .ref aS1, .ref aS2, .ref aS3, .ref aS4, .ref aS5, .ref aS6, .int 0, .ref aO1, .ref aO2, .ref aO3, .ref aO4, .ref aO5]))) (f_aIt : h aIt = some (.inl ((t 1), 700, .inl gIt))) (f_aId : h aId = some (.inl ((t 1), 700, .inl gId))) (f_aPr : h aPr = some (.inl ((t 2), 700, .inl gPr))) (f_aSi : h aSi = some (.inl ((t 2), 700, .inl gSi))) (f_aSe : h aSe = some (.inl ((t 2), 700, .inl gSe))) (f_aEx : h aEx = some (.inl ((t 2), 700, .inl gEx))) (f_aNa : h aNa = some (.inl ((t 3), 700, .inr (.inl gNa)))) (ne_aIt_aId : aIt ≠ aId) (ne_aIt_aPr : aIt ≠ aPr) (ne_aIt_aSi : aIt ≠ aSi) (ne_aIt_aSe : aIt ≠ aSe) (ne_aIt_aEx : aIt ≠ aEx) (ne_aId_aPr : aId ≠ aPr) (ne_aId_aSi : aId ≠ aSi) (ne_aId_aSe : aId ≠ aSe) (ne_aId_aEx : aId ≠ aEx) (ne_aPr_aSi : aPr ≠ aSi) (ne_aPr_aSe : aPr ≠ aSe) (ne_aPr_aEx : aPr ≠ aEx) (ne_aSi_aSe : aSi ≠ aSe) (ne_aSi_aEx : aSi ≠ aEx) (ne_aSe_aEx : aSe ≠ aEx) : Met l y_Mo_rootAlone (.code y_Mo_rootAlone b_Mo_rootAlone 1 none :: lw_g) { frames := 0, cells := 0, slots := 0, locals := 0 } (hP (kE D t G ak av) D vwCl G h [.ref mo]) (hQv D vwCl G (fun h' => kp [mo, aIt, aId, aPr, aSi, aSe, aEx, aNa] h h' ∧ h' mo = some (.inr (9, [.int 0, .int (nI n), .int 0, .ref aBy, .ref aSt, .ref aDe, .int 0, .int (-1), .int 0, .ref aPa, .int 1, .ref aIt, .ref aId, .ref aPr, .ref aNa, .ref aSi, .ref aSe, .ref aIw, .ref aEx, .ref aOl, .int 0, .ref aPl, .int 0, .int 0, .ref aTa, .ref aAt, .ref aLo, .int 0, .int 0, .ref aS1, .ref aS2, .ref aS3, .ref aS4, .ref aS5, .ref aS6, .int 0, .ref aO1, .ref aO2, .ref aO3, .ref aO4, .ref aO5])) ∧ ∃ (gIt gId gPr gSi gSe gEx : Nat → Int32) (gNa : Nat → Int64), h' aIt = some (.inl ((t 1), 700, .inl gIt)) ∧ h' aId = some (.inl ((t 1), 700, .inl gId)) ∧ h' aPr = some (.inl ((t 2), 700, .inl gPr)) ∧ h' aSi = some (.inl ((t 2), 700, .inl gSi)) ∧ h' aSe = some (.inl ((t 2), 700, .inl gSe)) ∧ h' aEx = some (.inl ((t 2), 700, .inl gEx)) ∧ h' aNa = some (.inl ((t 3), 700, .inr (.inl gNa))) ∧ gIt 0 = 1 ∧ gId 0 = 1 ∧ gPr 0 = -1 ∧ gSi 0 = 0 ∧ gSe 0 = 0 ∧ gEx 0 = 0)) 0 0 G.P := by
  refine Met.ofW (cc := b_Mo_rootAlone) (maxL := 1) (ret := none) (by decide) rfl ?_
  intro p e s m args below meth c s₁ Bd hml hv
  obtain ⟨ha, hE, hH⟩ := hv
  have hx := Bd.exec
  have hb := Bd.bytes
  have hr := Bd.returns
  have hts : ∀ w ∈ lw_g, w.before args s = true := fun w hw => atoms_spec (ws := (.code y_Mo_rootAlone b_Mo_rootAlone 1 none :: lw_g)) Bd.pre w (List.mem_cons_of_mem _ hw)
  have hown : s.vm.findClass R_Mo = some m.cls := findClass_of_methodNamed Bd.named
  have hlocks := Bd.notSynchronized
  have hK := hE.1
  have hH0 := hH
  have hLo : hLc G.P [] := hLc_nil
  have hz : s.heap.size ≤ s.heap.size := Nat.le_refl _
  have hkp : kp [mo, aIt, aId, aPr, aSi, aSe, aEx, aNa] h h := kp_rf
  have hl := lv_entry [.ref mo] (n := 1) (Nat.le_of_ble_eq_true rfl)
  rw [show entryFrame m args 1 = F0 m 0 ((lg_sl [.ref mo] ++ List.replicate (1 - (lg_sl [.ref mo]).length) Slot.unset).toArray) [] from (by rw [ha]; exact lg_entry_eq m [.ref mo] 1)]
  generalize (lg_sl [.ref mo] ++ List.replicate (1 - (lg_sl [.ref mo]).length) Slot.unset).toArray = ls at hl ⊢
  have hl : lv_has ls 1 [(0, .ref mo)] := hl
  refine lv_aload_n hx hb d_Mo_rootAlone_0 rfl (lv_at hl 0 rfl) ?_
  refine lv_iconst (v := 1) hx hb d_Mo_rootAlone_1 (by decide) ?_
  refine hm_put (ci := 9) (v := .int 1) (ty := .int) (C := R_Mo) (T := F_Mo) (N := 41) hx hb hts ig_Mo t_Mo tk_Mo nm_Mo hown hK hH hLo f_m rfl 10 (by decide) (hts _ mw_390) (fun _ h9 => h9) rfl (by decide +kernel) rfl rfl (Nat.le_of_ble_eq_true rfl) d_Mo_rootAlone_2 (fun H1 locs hH z2 hLo => ?_)
  have hz : s.heap.size ≤ H1.size := by rw [z2]; exact hz
  obtain ⟨h3, e4⟩ : ∃ z, z = hu h mo (.inr (9, [.int 0, .int (nI n), .int 0, .ref aBy, .ref aSt, .ref aDe, .int 0, .int (-1), .int 0, .ref aPa, .int 1, .ref aIt, .ref aId, .ref aPr, .ref aNa, .ref aSi, .ref aSe, .ref aIw, .ref aEx, .ref aOl, .int 0, .ref aPl, .int 0, .int 0, .ref aTa, .ref aAt, .ref aLo, .int 0, .int 0, .ref aS1, .ref aS2, .ref aS3, .ref aS4, .ref aS5, .ref aS6, .int 0, .ref aO1, .ref aO2, .ref aO3, .ref aO4, .ref aO5])) := ⟨_, rfl⟩
  have hH : hm D vwCl G h3 H1 := by rw [e4]; exact hH
  have f_aIt : h3 aIt = some (.inl ((t 1), 700, .inl gIt)) := by rw [e4, hu_n (h_neA f_aIt f_m)]; exact f_aIt
  have f_aId : h3 aId = some (.inl ((t 1), 700, .inl gId)) := by rw [e4, hu_n (h_neA f_aId f_m)]; exact f_aId
  have f_aPr : h3 aPr = some (.inl ((t 2), 700, .inl gPr)) := by rw [e4, hu_n (h_neA f_aPr f_m)]; exact f_aPr
  have f_aSi : h3 aSi = some (.inl ((t 2), 700, .inl gSi)) := by rw [e4, hu_n (h_neA f_aSi f_m)]; exact f_aSi
  have f_aSe : h3 aSe = some (.inl ((t 2), 700, .inl gSe)) := by rw [e4, hu_n (h_neA f_aSe f_m)]; exact f_aSe
  have f_aEx : h3 aEx = some (.inl ((t 2), 700, .inl gEx)) := by rw [e4, hu_n (h_neA f_aEx f_m)]; exact f_aEx
  have f_aNa : h3 aNa = some (.inl ((t 3), 700, .inr (.inl gNa))) := by rw [e4, hu_n (h_neA f_aNa f_m)]; exact f_aNa
  have f_m : h3 mo = some (.inr (9, [.int 0, .int (nI n), .int 0, .ref aBy, .ref aSt, .ref aDe, .int 0, .int (-1), .int 0, .ref aPa, .int 1, .ref aIt, .ref aId, .ref aPr, .ref aNa, .ref aSi, .ref aSe, .ref aIw, .ref aEx, .ref aOl, .int 0, .ref aPl, .int 0, .int 0, .ref aTa, .ref aAt, .ref aLo, .int 0, .int 0, .ref aS1, .ref aS2, .ref aS3, .ref aS4, .ref aS5, .ref aS6, .int 0, .ref aO1, .ref aO2, .ref aO3, .ref aO4, .ref aO5])) := by rw [e4]; exact hu_s _ _ _
  have hkp : kp [mo, aIt, aId, aPr, aSi, aSe, aEx, aNa] h h3 := by rw [e4]; exact kp_put hkp (by simp)
  refine lv_aload_n hx hb d_Mo_rootAlone_5 rfl (lv_at hl 0 rfl) ?_
  refine hm_get (ci := 9) (v := .ref aIt) (C := R_Mo) (T := F_Mo) (N := 41) hx hb hts ig_Mo hown hK hH f_m rfl 11 (by decide) (hts _ mw_391) (fun _ h9 => h9) rfl d_Mo_rootAlone_6 ?_
  refine lv_iconst (v := 0) hx hb d_Mo_rootAlone_9 (by decide) ?_
  refine lv_iconst (v := 1) hx hb d_Mo_rootAlone_10 (by decide) ?_
  refine hj_zast hx hb hK hH hLo 1 f_aIt rfl 0 (by decide) (by decide) (by decide) d_Mo_rootAlone_11 (fun H5 locs hH z6 hLo => ?_)
  have hz : s.heap.size ≤ H5.size := by rw [z6]; exact hz
  obtain ⟨h7, e8⟩ : ∃ z, z = hu h3 aIt (.inl ((t 1), 700, .inl (upd gIt 0 (vp_nar .boolean 1)))) := ⟨_, rfl⟩
  have hH : hm D vwCl G h7 H5 := by rw [e8]; exact hH
  have f_m : h7 mo = some (.inr (9, [.int 0, .int (nI n), .int 0, .ref aBy, .ref aSt, .ref aDe, .int 0, .int (-1), .int 0, .ref aPa, .int 1, .ref aIt, .ref aId, .ref aPr, .ref aNa, .ref aSi, .ref aSe, .ref aIw, .ref aEx, .ref aOl, .int 0, .ref aPl, .int 0, .int 0, .ref aTa, .ref aAt, .ref aLo, .int 0, .int 0, .ref aS1, .ref aS2, .ref aS3, .ref aS4, .ref aS5, .ref aS6, .int 0, .ref aO1, .ref aO2, .ref aO3, .ref aO4, .ref aO5])) := by rw [e8, hu_n (Ne.symm (h_neA f_aIt f_m))]; exact f_m
  have f_aId : h7 aId = some (.inl ((t 1), 700, .inl gId)) := by rw [e8, hu_n (Ne.symm ne_aIt_aId)]; exact f_aId
  have f_aPr : h7 aPr = some (.inl ((t 2), 700, .inl gPr)) := by rw [e8, hu_n (Ne.symm ne_aIt_aPr)]; exact f_aPr
  have f_aSi : h7 aSi = some (.inl ((t 2), 700, .inl gSi)) := by rw [e8, hu_n (Ne.symm ne_aIt_aSi)]; exact f_aSi
  have f_aSe : h7 aSe = some (.inl ((t 2), 700, .inl gSe)) := by rw [e8, hu_n (Ne.symm ne_aIt_aSe)]; exact f_aSe
  have f_aEx : h7 aEx = some (.inl ((t 2), 700, .inl gEx)) := by rw [e8, hu_n (Ne.symm ne_aIt_aEx)]; exact f_aEx
  have f_aNa : h7 aNa = some (.inl ((t 3), 700, .inr (.inl gNa))) := by rw [e8, hu_n (h_neK (k1 := 1) (k2 := 0) f_aNa f_aIt rfl rfl (by decide))]; exact f_aNa
  have f_aIt : h7 aIt = some (.inl ((t 1), 700, .inl (upd gIt 0 (vp_nar .boolean 1)))) := by rw [e8]; exact hu_s _ _ _
  have hkp : kp [mo, aIt, aId, aPr, aSi, aSe, aEx, aNa] h h7 := by rw [e8]; exact kp_put hkp (by simp)
  refine lv_aload_n hx hb d_Mo_rootAlone_12 rfl (lv_at hl 0 rfl) ?_
  refine hm_get (ci := 9) (v := .ref aId) (C := R_Mo) (T := F_Mo) (N := 41) hx hb hts ig_Mo hown hK hH f_m rfl 12 (by decide) (hts _ mw_392) (fun _ h9 => h9) rfl d_Mo_rootAlone_13 ?_
  refine lv_iconst (v := 0) hx hb d_Mo_rootAlone_16 (by decide) ?_
  refine lv_iconst (v := 1) hx hb d_Mo_rootAlone_17 (by decide) ?_
  refine hj_zast hx hb hK hH hLo 1 f_aId rfl 0 (by decide) (by decide) (by decide) d_Mo_rootAlone_18 (fun H9 locs hH z10 hLo => ?_)
  have hz : s.heap.size ≤ H9.size := by rw [z10]; exact hz
  obtain ⟨h11, e12⟩ : ∃ z, z = hu h7 aId (.inl ((t 1), 700, .inl (upd gId 0 (vp_nar .boolean 1)))) := ⟨_, rfl⟩
  have hH : hm D vwCl G h11 H9 := by rw [e12]; exact hH
  have f_m : h11 mo = some (.inr (9, [.int 0, .int (nI n), .int 0, .ref aBy, .ref aSt, .ref aDe, .int 0, .int (-1), .int 0, .ref aPa, .int 1, .ref aIt, .ref aId, .ref aPr, .ref aNa, .ref aSi, .ref aSe, .ref aIw, .ref aEx, .ref aOl, .int 0, .ref aPl, .int 0, .int 0, .ref aTa, .ref aAt, .ref aLo, .int 0, .int 0, .ref aS1, .ref aS2, .ref aS3, .ref aS4, .ref aS5, .ref aS6, .int 0, .ref aO1, .ref aO2, .ref aO3, .ref aO4, .ref aO5])) := by rw [e12, hu_n (Ne.symm (h_neA f_aId f_m))]; exact f_m
  have f_aIt : h11 aIt = some (.inl ((t 1), 700, .inl (upd gIt 0 (vp_nar .boolean 1)))) := by rw [e12, hu_n ne_aIt_aId]; exact f_aIt
  have f_aPr : h11 aPr = some (.inl ((t 2), 700, .inl gPr)) := by rw [e12, hu_n (Ne.symm ne_aId_aPr)]; exact f_aPr
  have f_aSi : h11 aSi = some (.inl ((t 2), 700, .inl gSi)) := by rw [e12, hu_n (Ne.symm ne_aId_aSi)]; exact f_aSi
  have f_aSe : h11 aSe = some (.inl ((t 2), 700, .inl gSe)) := by rw [e12, hu_n (Ne.symm ne_aId_aSe)]; exact f_aSe
  have f_aEx : h11 aEx = some (.inl ((t 2), 700, .inl gEx)) := by rw [e12, hu_n (Ne.symm ne_aId_aEx)]; exact f_aEx
  have f_aNa : h11 aNa = some (.inl ((t 3), 700, .inr (.inl gNa))) := by rw [e12, hu_n (h_neK (k1 := 1) (k2 := 0) f_aNa f_aId rfl rfl (by decide))]; exact f_aNa
  have f_aId : h11 aId = some (.inl ((t 1), 700, .inl (upd gId 0 (vp_nar .boolean 1)))) := by rw [e12]; exact hu_s _ _ _
  have hkp : kp [mo, aIt, aId, aPr, aSi, aSe, aEx, aNa] h h11 := by rw [e12]; exact kp_put hkp (by simp)
  refine lv_aload_n hx hb d_Mo_rootAlone_19 rfl (lv_at hl 0 rfl) ?_
  refine hm_get (ci := 9) (v := .ref aPr) (C := R_Mo) (T := F_Mo) (N := 41) hx hb hts ig_Mo hown hK hH f_m rfl 13 (by decide) (hts _ mw_393) (fun _ h9 => h9) rfl d_Mo_rootAlone_20 ?_
  refine lv_iconst (v := 0) hx hb d_Mo_rootAlone_23 (by decide) ?_
  refine lv_iconst (v := -1) hx hb d_Mo_rootAlone_24 (by decide) ?_
  refine hj_iast hx hb hK hH hLo 2 f_aPr rfl 0 (by decide) (by decide) (by decide) d_Mo_rootAlone_25 (fun H13 locs hH z14 hLo => ?_)
  have hz : s.heap.size ≤ H13.size := by rw [z14]; exact hz
  obtain ⟨h15, e16⟩ : ∃ z, z = hu h11 aPr (.inl ((t 2), 700, .inl (upd gPr 0 (-1)))) := ⟨_, rfl⟩
  have hH : hm D vwCl G h15 H13 := by rw [e16]; exact hH
  have f_m : h15 mo = some (.inr (9, [.int 0, .int (nI n), .int 0, .ref aBy, .ref aSt, .ref aDe, .int 0, .int (-1), .int 0, .ref aPa, .int 1, .ref aIt, .ref aId, .ref aPr, .ref aNa, .ref aSi, .ref aSe, .ref aIw, .ref aEx, .ref aOl, .int 0, .ref aPl, .int 0, .int 0, .ref aTa, .ref aAt, .ref aLo, .int 0, .int 0, .ref aS1, .ref aS2, .ref aS3, .ref aS4, .ref aS5, .ref aS6, .int 0, .ref aO1, .ref aO2, .ref aO3, .ref aO4, .ref aO5])) := by rw [e16, hu_n (Ne.symm (h_neA f_aPr f_m))]; exact f_m
  have f_aIt : h15 aIt = some (.inl ((t 1), 700, .inl (upd gIt 0 (vp_nar .boolean 1)))) := by rw [e16, hu_n ne_aIt_aPr]; exact f_aIt
  have f_aId : h15 aId = some (.inl ((t 1), 700, .inl (upd gId 0 (vp_nar .boolean 1)))) := by rw [e16, hu_n ne_aId_aPr]; exact f_aId
  have f_aSi : h15 aSi = some (.inl ((t 2), 700, .inl gSi)) := by rw [e16, hu_n (Ne.symm ne_aPr_aSi)]; exact f_aSi
  have f_aSe : h15 aSe = some (.inl ((t 2), 700, .inl gSe)) := by rw [e16, hu_n (Ne.symm ne_aPr_aSe)]; exact f_aSe
  have f_aEx : h15 aEx = some (.inl ((t 2), 700, .inl gEx)) := by rw [e16, hu_n (Ne.symm ne_aPr_aEx)]; exact f_aEx
  have f_aNa : h15 aNa = some (.inl ((t 3), 700, .inr (.inl gNa))) := by rw [e16, hu_n (h_neK (k1 := 1) (k2 := 0) f_aNa f_aPr rfl rfl (by decide))]; exact f_aNa
  have f_aPr : h15 aPr = some (.inl ((t 2), 700, .inl (upd gPr 0 (-1)))) := by rw [e16]; exact hu_s _ _ _
  have hkp : kp [mo, aIt, aId, aPr, aSi, aSe, aEx, aNa] h h15 := by rw [e16]; exact kp_put hkp (by simp)
  refine lv_aload_n hx hb d_Mo_rootAlone_26 rfl (lv_at hl 0 rfl) ?_
  refine hm_get (ci := 9) (v := .ref aNa) (C := R_Mo) (T := F_Mo) (N := 41) hx hb hts ig_Mo hown hK hH f_m rfl 14 (by decide) (hts _ mw_394) (fun _ h9 => h9) rfl d_Mo_rootAlone_27 ?_
  refine lv_iconst (v := 0) hx hb d_Mo_rootAlone_30 (by decide) ?_
  refine lv_lconst (v := 0) hx hb d_Mo_rootAlone_31 (by decide) ?_
  refine hj_last hx hb hK hH hLo 3 f_aNa rfl 0 (by decide) (by decide) (by decide) d_Mo_rootAlone_32 (fun H17 locs hH z18 hLo => ?_)
  have hz : s.heap.size ≤ H17.size := by rw [z18]; exact hz
  obtain ⟨h19, e20⟩ : ∃ z, z = hu h15 aNa (.inl ((t 3), 700, .inr (.inl (vp_updL gNa 0 0)))) := ⟨_, rfl⟩
  have hH : hm D vwCl G h19 H17 := by rw [e20]; exact hH
  have f_m : h19 mo = some (.inr (9, [.int 0, .int (nI n), .int 0, .ref aBy, .ref aSt, .ref aDe, .int 0, .int (-1), .int 0, .ref aPa, .int 1, .ref aIt, .ref aId, .ref aPr, .ref aNa, .ref aSi, .ref aSe, .ref aIw, .ref aEx, .ref aOl, .int 0, .ref aPl, .int 0, .int 0, .ref aTa, .ref aAt, .ref aLo, .int 0, .int 0, .ref aS1, .ref aS2, .ref aS3, .ref aS4, .ref aS5, .ref aS6, .int 0, .ref aO1, .ref aO2, .ref aO3, .ref aO4, .ref aO5])) := by rw [e20, hu_n (Ne.symm (h_neA f_aNa f_m))]; exact f_m
  have f_aIt : h19 aIt = some (.inl ((t 1), 700, .inl (upd gIt 0 (vp_nar .boolean 1)))) := by rw [e20, hu_n (h_neK (k1 := 0) (k2 := 1) f_aIt f_aNa rfl rfl (by decide))]; exact f_aIt
  have f_aId : h19 aId = some (.inl ((t 1), 700, .inl (upd gId 0 (vp_nar .boolean 1)))) := by rw [e20, hu_n (h_neK (k1 := 0) (k2 := 1) f_aId f_aNa rfl rfl (by decide))]; exact f_aId
  have f_aPr : h19 aPr = some (.inl ((t 2), 700, .inl (upd gPr 0 (-1)))) := by rw [e20, hu_n (h_neK (k1 := 0) (k2 := 1) f_aPr f_aNa rfl rfl (by decide))]; exact f_aPr
  have f_aSi : h19 aSi = some (.inl ((t 2), 700, .inl gSi)) := by rw [e20, hu_n (h_neK (k1 := 0) (k2 := 1) f_aSi f_aNa rfl rfl (by decide))]; exact f_aSi
  have f_aSe : h19 aSe = some (.inl ((t 2), 700, .inl gSe)) := by rw [e20, hu_n (h_neK (k1 := 0) (k2 := 1) f_aSe f_aNa rfl rfl (by decide))]; exact f_aSe
  have f_aEx : h19 aEx = some (.inl ((t 2), 700, .inl gEx)) := by rw [e20, hu_n (h_neK (k1 := 0) (k2 := 1) f_aEx f_aNa rfl rfl (by decide))]; exact f_aEx
  have f_aNa : h19 aNa = some (.inl ((t 3), 700, .inr (.inl (vp_updL gNa 0 0)))) := by rw [e20]; exact hu_s _ _ _
  have hkp : kp [mo, aIt, aId, aPr, aSi, aSe, aEx, aNa] h h19 := by rw [e20]; exact kp_put hkp (by simp)
  refine lv_aload_n hx hb d_Mo_rootAlone_33 rfl (lv_at hl 0 rfl) ?_
  refine hm_get (ci := 9) (v := .ref aSi) (C := R_Mo) (T := F_Mo) (N := 41) hx hb hts ig_Mo hown hK hH f_m rfl 15 (by decide) (hts _ mw_395) (fun _ h9 => h9) rfl d_Mo_rootAlone_34 ?_
  refine lv_iconst (v := 0) hx hb d_Mo_rootAlone_37 (by decide) ?_
  refine lv_iconst (v := 0) hx hb d_Mo_rootAlone_38 (by decide) ?_
  refine hj_iast hx hb hK hH hLo 2 f_aSi rfl 0 (by decide) (by decide) (by decide) d_Mo_rootAlone_39 (fun H21 locs hH z22 hLo => ?_)
  have hz : s.heap.size ≤ H21.size := by rw [z22]; exact hz
  obtain ⟨h23, e24⟩ : ∃ z, z = hu h19 aSi (.inl ((t 2), 700, .inl (upd gSi 0 0))) := ⟨_, rfl⟩
  have hH : hm D vwCl G h23 H21 := by rw [e24]; exact hH
  have f_m : h23 mo = some (.inr (9, [.int 0, .int (nI n), .int 0, .ref aBy, .ref aSt, .ref aDe, .int 0, .int (-1), .int 0, .ref aPa, .int 1, .ref aIt, .ref aId, .ref aPr, .ref aNa, .ref aSi, .ref aSe, .ref aIw, .ref aEx, .ref aOl, .int 0, .ref aPl, .int 0, .int 0, .ref aTa, .ref aAt, .ref aLo, .int 0, .int 0, .ref aS1, .ref aS2, .ref aS3, .ref aS4, .ref aS5, .ref aS6, .int 0, .ref aO1, .ref aO2, .ref aO3, .ref aO4, .ref aO5])) := by rw [e24, hu_n (Ne.symm (h_neA f_aSi f_m))]; exact f_m
  have f_aIt : h23 aIt = some (.inl ((t 1), 700, .inl (upd gIt 0 (vp_nar .boolean 1)))) := by rw [e24, hu_n ne_aIt_aSi]; exact f_aIt
  have f_aId : h23 aId = some (.inl ((t 1), 700, .inl (upd gId 0 (vp_nar .boolean 1)))) := by rw [e24, hu_n ne_aId_aSi]; exact f_aId
  have f_aPr : h23 aPr = some (.inl ((t 2), 700, .inl (upd gPr 0 (-1)))) := by rw [e24, hu_n ne_aPr_aSi]; exact f_aPr
  have f_aSe : h23 aSe = some (.inl ((t 2), 700, .inl gSe)) := by rw [e24, hu_n (Ne.symm ne_aSi_aSe)]; exact f_aSe
  have f_aEx : h23 aEx = some (.inl ((t 2), 700, .inl gEx)) := by rw [e24, hu_n (Ne.symm ne_aSi_aEx)]; exact f_aEx
  have f_aNa : h23 aNa = some (.inl ((t 3), 700, .inr (.inl (vp_updL gNa 0 0)))) := by rw [e24, hu_n (h_neK (k1 := 1) (k2 := 0) f_aNa f_aSi rfl rfl (by decide))]; exact f_aNa
  have f_aSi : h23 aSi = some (.inl ((t 2), 700, .inl (upd gSi 0 0))) := by rw [e24]; exact hu_s _ _ _
  have hkp : kp [mo, aIt, aId, aPr, aSi, aSe, aEx, aNa] h h23 := by rw [e24]; exact kp_put hkp (by simp)
  refine lv_aload_n hx hb d_Mo_rootAlone_40 rfl (lv_at hl 0 rfl) ?_
  refine hm_get (ci := 9) (v := .ref aSe) (C := R_Mo) (T := F_Mo) (N := 41) hx hb hts ig_Mo hown hK hH f_m rfl 16 (by decide) (hts _ mw_396) (fun _ h9 => h9) rfl d_Mo_rootAlone_41 ?_
  refine lv_iconst (v := 0) hx hb d_Mo_rootAlone_44 (by decide) ?_
  refine lv_iconst (v := 0) hx hb d_Mo_rootAlone_45 (by decide) ?_
  refine hj_iast hx hb hK hH hLo 2 f_aSe rfl 0 (by decide) (by decide) (by decide) d_Mo_rootAlone_46 (fun H25 locs hH z26 hLo => ?_)
  have hz : s.heap.size ≤ H25.size := by rw [z26]; exact hz
  obtain ⟨h27, e28⟩ : ∃ z, z = hu h23 aSe (.inl ((t 2), 700, .inl (upd gSe 0 0))) := ⟨_, rfl⟩
  have hH : hm D vwCl G h27 H25 := by rw [e28]; exact hH
  have f_m : h27 mo = some (.inr (9, [.int 0, .int (nI n), .int 0, .ref aBy, .ref aSt, .ref aDe, .int 0, .int (-1), .int 0, .ref aPa, .int 1, .ref aIt, .ref aId, .ref aPr, .ref aNa, .ref aSi, .ref aSe, .ref aIw, .ref aEx, .ref aOl, .int 0, .ref aPl, .int 0, .int 0, .ref aTa, .ref aAt, .ref aLo, .int 0, .int 0, .ref aS1, .ref aS2, .ref aS3, .ref aS4, .ref aS5, .ref aS6, .int 0, .ref aO1, .ref aO2, .ref aO3, .ref aO4, .ref aO5])) := by rw [e28, hu_n (Ne.symm (h_neA f_aSe f_m))]; exact f_m
  have f_aIt : h27 aIt = some (.inl ((t 1), 700, .inl (upd gIt 0 (vp_nar .boolean 1)))) := by rw [e28, hu_n ne_aIt_aSe]; exact f_aIt
  have f_aId : h27 aId = some (.inl ((t 1), 700, .inl (upd gId 0 (vp_nar .boolean 1)))) := by rw [e28, hu_n ne_aId_aSe]; exact f_aId
  have f_aPr : h27 aPr = some (.inl ((t 2), 700, .inl (upd gPr 0 (-1)))) := by rw [e28, hu_n ne_aPr_aSe]; exact f_aPr
  have f_aSi : h27 aSi = some (.inl ((t 2), 700, .inl (upd gSi 0 0))) := by rw [e28, hu_n ne_aSi_aSe]; exact f_aSi
  have f_aEx : h27 aEx = some (.inl ((t 2), 700, .inl gEx)) := by rw [e28, hu_n (Ne.symm ne_aSe_aEx)]; exact f_aEx
  have f_aNa : h27 aNa = some (.inl ((t 3), 700, .inr (.inl (vp_updL gNa 0 0)))) := by rw [e28, hu_n (h_neK (k1 := 1) (k2 := 0) f_aNa f_aSe rfl rfl (by decide))]; exact f_aNa
  have f_aSe : h27 aSe = some (.inl ((t 2), 700, .inl (upd gSe 0 0))) := by rw [e28]; exact hu_s _ _ _
  have hkp : kp [mo, aIt, aId, aPr, aSi, aSe, aEx, aNa] h h27 := by rw [e28]; exact kp_put hkp (by simp)
  refine lv_aload_n hx hb d_Mo_rootAlone_47 rfl (lv_at hl 0 rfl) ?_
  refine hm_get (ci := 9) (v := .ref aEx) (C := R_Mo) (T := F_Mo) (N := 41) hx hb hts ig_Mo hown hK hH f_m rfl 18 (by decide) (hts _ mw_397) (fun _ h9 => h9) rfl d_Mo_rootAlone_48 ?_
  refine lv_iconst (v := 0) hx hb d_Mo_rootAlone_51 (by decide) ?_
  refine lv_iconst (v := 0) hx hb d_Mo_rootAlone_52 (by decide) ?_
  refine hj_iast hx hb hK hH hLo 2 f_aEx rfl 0 (by decide) (by decide) (by decide) d_Mo_rootAlone_53 (fun H29 locs hH z30 hLo => ?_)
  have hz : s.heap.size ≤ H29.size := by rw [z30]; exact hz
  obtain ⟨h31, e32⟩ : ∃ z, z = hu h27 aEx (.inl ((t 2), 700, .inl (upd gEx 0 0))) := ⟨_, rfl⟩
  have hH : hm D vwCl G h31 H29 := by rw [e32]; exact hH
  have f_m : h31 mo = some (.inr (9, [.int 0, .int (nI n), .int 0, .ref aBy, .ref aSt, .ref aDe, .int 0, .int (-1), .int 0, .ref aPa, .int 1, .ref aIt, .ref aId, .ref aPr, .ref aNa, .ref aSi, .ref aSe, .ref aIw, .ref aEx, .ref aOl, .int 0, .ref aPl, .int 0, .int 0, .ref aTa, .ref aAt, .ref aLo, .int 0, .int 0, .ref aS1, .ref aS2, .ref aS3, .ref aS4, .ref aS5, .ref aS6, .int 0, .ref aO1, .ref aO2, .ref aO3, .ref aO4, .ref aO5])) := by rw [e32, hu_n (Ne.symm (h_neA f_aEx f_m))]; exact f_m
  have f_aIt : h31 aIt = some (.inl ((t 1), 700, .inl (upd gIt 0 (vp_nar .boolean 1)))) := by rw [e32, hu_n ne_aIt_aEx]; exact f_aIt
  have f_aId : h31 aId = some (.inl ((t 1), 700, .inl (upd gId 0 (vp_nar .boolean 1)))) := by rw [e32, hu_n ne_aId_aEx]; exact f_aId
  have f_aPr : h31 aPr = some (.inl ((t 2), 700, .inl (upd gPr 0 (-1)))) := by rw [e32, hu_n ne_aPr_aEx]; exact f_aPr
  have f_aSi : h31 aSi = some (.inl ((t 2), 700, .inl (upd gSi 0 0))) := by rw [e32, hu_n ne_aSi_aEx]; exact f_aSi
  have f_aSe : h31 aSe = some (.inl ((t 2), 700, .inl (upd gSe 0 0))) := by rw [e32, hu_n ne_aSe_aEx]; exact f_aSe
  have f_aNa : h31 aNa = some (.inl ((t 3), 700, .inr (.inl (vp_updL gNa 0 0)))) := by rw [e32, hu_n (h_neK (k1 := 1) (k2 := 0) f_aNa f_aEx rfl rfl (by decide))]; exact f_aNa
  have f_aEx : h31 aEx = some (.inl ((t 2), 700, .inl (upd gEx 0 0))) := by rw [e32]; exact hu_s _ _ _
  have hkp : kp [mo, aIt, aId, aPr, aSi, aSe, aEx, aNa] h h31 := by rw [e32]; exact kp_put hkp (by simp)
  exact W.vret hx hb hr (fun t9 ht hW => ⟨h31, rfl, ⟨hkp, f_m, _, _, _, _, _, _, _, f_aIt, f_aId, f_aPr, f_aSi, f_aSe, f_aEx, f_aNa, upd0 _ _ (by decide), upd0 _ _ (by decide), upd0 _ _ rfl, upd0 _ _ rfl, upd0 _ _ rfl, upd0 _ _ rfl⟩, by rw [ht]; exact hH, by rw [ht]; exact hz⟩) hLo d_Mo_rootAlone_54

set_option maxHeartbeats 4000000 in
set_option maxRecDepth 100000 in
theorem c_m_init (l : Launch) (D : va_G) (t : Nat → ClassId) (G : hG) (ak av : Nat → Nat) (h : hM) (mo : Nat) (v : Int32) (f_m : h mo = some (.inr (9, [.int 0, .int 0, .int 0, .null, .null, .null, .int 0, .int 0, .int 0, .null, .int 0, .null, .null, .null, .null, .null, .null, .null, .null, .null, .int 0, .null, .int 0, .int 0, .null, .null, .null, .int 0, .int 0, .null, .null, .null, .null, .null, .null, .int 0, .null, .null, .null, .null, .null]))) : Met l y_Mo_init (.code y_Mo_init b_Mo_init 2 none :: lw_g) { frames := 1, cells := 28, slots := 993759, locals := 20 } (hP (kE D t G ak av) D vwCl G h [.ref mo, .int v]) (hQv D vwCl G (fun h' => kp [mo] h h' ∧ FrM t h' mo (nsz v))) 28 993759 G.P := by
  refine Met.ofW (cc := b_Mo_init) (maxL := 2) (ret := none) (by decide) rfl ?_
  intro p e s m args below meth c s₁ Bd hml hv
  obtain ⟨ha, hE, hH⟩ := hv
  have hx := Bd.exec
  have hb := Bd.bytes
  have hr := Bd.returns
  have hts : ∀ w ∈ lw_g, w.before args s = true := fun w hw => atoms_spec (ws := (.code y_Mo_init b_Mo_init 2 none :: lw_g)) Bd.pre w (List.mem_cons_of_mem _ hw)
  have hown : s.vm.findClass R_Mo = some m.cls := findClass_of_methodNamed Bd.named
  have hlocks := Bd.notSynchronized
  have hin : meth.name = "<init>" := (name_of_methodNamed Bd.named Bd.method).1
  have hK := hE.1
  have hH0 := hH
  have hLo : hLc G.P [] := hLc_nil
  have hz : s.heap.size ≤ s.heap.size := Nat.le_refl _
  have hkp : kp [mo] h h := kp_rf
  have hl := lv_entry [.ref mo, .int v] (n := 2) (Nat.le_of_ble_eq_true rfl)
  rw [show entryFrame m args 2 = F0 m 0 ((lg_sl [.ref mo, .int v] ++ List.replicate (2 - (lg_sl [.ref mo, .int v]).length) Slot.unset).toArray) [] from (by rw [ha]; exact lg_entry_eq m [.ref mo, .int v] 2)]
  generalize (lg_sl [.ref mo, .int v] ++ List.replicate (2 - (lg_sl [.ref mo, .int v]).length) Slot.unset).toArray = ls at hl ⊢
  have hl : lv_has ls 2 [(0, .ref mo), (1, .int v)] := hl
  refine lv_aload_n hx hb d_Mo_init_0 rfl (lv_at hl 0 rfl) ?_
  refine W.objInit hx hb hown (hts _ mw_398) (hts _ mw_1) (hts _ mw_2) rfl (by rw [hml]; exact hl.1) rfl d_Mo_init_1 (Nat.le_of_ble_eq_true rfl) (Nat.le_of_ble_eq_true rfl) ?_
  refine W.eq (g2 := F0 m 4 ls []) rfl ?_
  refine lv_aload_n hx hb d_Mo_init_4 rfl (lv_at hl 0 rfl) ?_
  refine lv_ldc (v := 819200) hx hb hown (hts _ mw_399) d_Mo_init_5 ?_
  refine hm_newa (atype := .byte) (ty := .byte) (N' := 819200) (a0 := (819200, .inl (fun _ => 0))) hx hb (hts _ mw_23) rfl hK hH 0 (cA := (t 0)) rfl (hK.2 0 _ rfl).2 (fun _ => rfl) (by decide) (by decide) (by decide) (Nat.le_of_ble_eq_true rfl) (Nat.le_of_ble_eq_true rfl) d_Mo_init_7 (fun aBy H1 hq2 hn3 hH z4 => ?_)
  have hz : s.heap.size ≤ H1.size := by rw [z4]; exact Nat.le_succ_of_le hz
  obtain ⟨h5, e6⟩ : ∃ z, z = hu h aBy (.inl ((t 0), 819200, .inl (fun _ => 0))) := ⟨_, rfl⟩
  have hH : hm D vwCl G h5 H1 := by rw [e6]; exact hH
  have nb_h_aBy : h aBy = none := kp_none hkp hn3 (nmc (Ne.symm (h_nf hn3 f_m)) nm0)
  have hkp : kp [mo] h h5 := by rw [e6]; exact kp_new hkp hn3
  have ne_mo_aBy : mo ≠ aBy := h_nf hn3 f_m
  have f_m : h5 mo = some (.inr (9, [.int 0, .int 0, .int 0, .null, .null, .null, .int 0, .int 0, .int 0, .null, .int 0, .null, .null, .null, .null, .null, .null, .null, .null, .null, .int 0, .null, .int 0, .int 0, .null, .null, .null, .int 0, .int 0, .null, .null, .null, .null, .null, .null, .int 0, .null, .null, .null, .null, .null])) := by rw [e6, hu_n ne_mo_aBy]; exact f_m
  have f_aBy : h5 aBy = some (.inl ((t 0), 819200, .inl (fun _ => 0))) := by rw [e6]; exact hu_s _ _ _
  refine hm_putF (ci := 9) (v := .ref aBy) (ty := (.array .byte)) (C := R_Mo) (T := F_Mo) (N := 41) hx hb hts ig_Mo t_Mo tk_Mo nm_Mo hown hK hH hLo f_m rfl 3 (by decide) (hts _ mw_400) (fun _ h9 => h9) rfl hin rfl (by decide +kernel) rfl rfl (Nat.le_of_ble_eq_true rfl) d_Mo_init_9 (fun H7 locs hH z8 hLo => ?_)
  have hz : s.heap.size ≤ H7.size := by rw [z8]; exact hz
  obtain ⟨h9, e10⟩ : ∃ z, z = hu h5 mo (.inr (9, [.int 0, .int 0, .int 0, .ref aBy, .null, .null, .int 0, .int 0, .int 0, .null, .int 0, .null, .null, .null, .null, .null, .null, .null, .null, .null, .int 0, .null, .int 0, .int 0, .null, .null, .null, .int 0, .int 0, .null, .null, .null, .null, .null, .null, .int 0, .null, .null, .null, .null, .null])) := ⟨_, rfl⟩
  have hH : hm D vwCl G h9 H7 := by rw [e10]; exact hH
  have f_aBy : h9 aBy = some (.inl ((t 0), 819200, .inl (fun _ => 0))) := by rw [e10, hu_n (Ne.symm ne_mo_aBy)]; exact f_aBy
  have f_m : h9 mo = some (.inr (9, [.int 0, .int 0, .int 0, .ref aBy, .null, .null, .int 0, .int 0, .int 0, .null, .int 0, .null, .null, .null, .null, .null, .null, .null, .null, .null, .int 0, .null, .int 0, .int 0, .null, .null, .null, .int 0, .int 0, .null, .null, .null, .null, .null, .null, .int 0, .null, .null, .null, .null, .null])) := by rw [e10]; exact hu_s _ _ _
  have hkp : kp [mo] h h9 := by rw [e10]; exact kp_put hkp (by simp)
  refine lv_aload_n hx hb d_Mo_init_12 rfl (lv_at hl 0 rfl) ?_
  refine lv_sipush (v := 400) hx hb d_Mo_init_13 (by decide) ?_
  refine hm_newa (atype := .byte) (ty := .byte) (N' := 400) (a0 := (400, .inl (fun _ => 0))) hx hb (hts _ mw_23) rfl hK hH 0 (cA := (t 0)) rfl (hK.2 0 _ rfl).2 (fun _ => rfl) (by decide) (by decide) (by decide) (Nat.le_of_ble_eq_true rfl) (Nat.le_of_ble_eq_true rfl) d_Mo_init_16 (fun aSt H11 hq12 hn13 hH z14 => ?_)
  have hz : s.heap.size ≤ H11.size := by rw [z14]; exact Nat.le_succ_of_le hz
  obtain ⟨h15, e16⟩ : ∃ z, z = hu h9 aSt (.inl ((t 0), 400, .inl (fun _ => 0))) := ⟨_, rfl⟩
  have hH : hm D vwCl G h15 H11 := by rw [e16]; exact hH
  have nb_h_aSt : h aSt = none := kp_none hkp hn13 (nmc (Ne.symm (h_nf hn13 f_m)) nm0)
  have hkp : kp [mo] h h15 := by rw [e16]; exact kp_new hkp hn13
  have ne_mo_aSt : mo ≠ aSt := h_nf hn13 f_m
  have f_m : h15 mo = some (.inr (9, [.int 0, .int 0, .int 0, .ref aBy, .null, .null, .int 0, .int 0, .int 0, .null, .int 0, .null, .null, .null, .null, .null, .null, .null, .null, .null, .int 0, .null, .int 0, .int 0, .null, .null, .null, .int 0, .int 0, .null, .null, .null, .null, .null, .null, .int 0, .null, .null, .null, .null, .null])) := by rw [e16, hu_n ne_mo_aSt]; exact f_m
  have ne_aBy_aSt : aBy ≠ aSt := h_nf hn13 f_aBy
  have f_aBy : h15 aBy = some (.inl ((t 0), 819200, .inl (fun _ => 0))) := by rw [e16, hu_n ne_aBy_aSt]; exact f_aBy
  have f_aSt : h15 aSt = some (.inl ((t 0), 400, .inl (fun _ => 0))) := by rw [e16]; exact hu_s _ _ _
  refine hm_putF (ci := 9) (v := .ref aSt) (ty := (.array .byte)) (C := R_Mo) (T := F_Mo) (N := 41) hx hb hts ig_Mo t_Mo tk_Mo nm_Mo hown hK hH hLo f_m rfl 4 (by decide) (hts _ mw_401) (fun _ h9 => h9) rfl hin rfl (by decide +kernel) rfl rfl (Nat.le_of_ble_eq_true rfl) d_Mo_init_18 (fun H17 locs hH z18 hLo => ?_)
  have hz : s.heap.size ≤ H17.size := by rw [z18]; exact hz
  obtain ⟨h19, e20⟩ : ∃ z, z = hu h15 mo (.inr (9, [.int 0, .int 0, .int 0, .ref aBy, .ref aSt, .null, .int 0, .int 0, .int 0, .null, .int 0, .null, .null, .null, .null, .null, .null, .null, .null, .null, .int 0, .null, .int 0, .int 0, .null, .null, .null, .int 0, .int 0, .null, .null, .null, .null, .null, .null, .int 0, .null, .null, .null, .null, .null])) := ⟨_, rfl⟩
  have hH : hm D vwCl G h19 H17 := by rw [e20]; exact hH
  have f_aBy : h19 aBy = some (.inl ((t 0), 819200, .inl (fun _ => 0))) := by rw [e20, hu_n (Ne.symm ne_mo_aBy)]; exact f_aBy
  have f_aSt : h19 aSt = some (.inl ((t 0), 400, .inl (fun _ => 0))) := by rw [e20, hu_n (Ne.symm ne_mo_aSt)]; exact f_aSt
  have f_m : h19 mo = some (.inr (9, [.int 0, .int 0, .int 0, .ref aBy, .ref aSt, .null, .int 0, .int 0, .int 0, .null, .int 0, .null, .null, .null, .null, .null, .null, .null, .null, .null, .int 0, .null, .int 0, .int 0, .null, .null, .null, .int 0, .int 0, .null, .null, .null, .null, .null, .null, .int 0, .null, .null, .null, .null, .null])) := by rw [e20]; exact hu_s _ _ _
  have hkp : kp [mo] h h19 := by rw [e20]; exact kp_put hkp (by simp)
  refine lv_aload_n hx hb d_Mo_init_21 rfl (lv_at hl 0 rfl) ?_
  refine lv_sipush (v := 200) hx hb d_Mo_init_22 (by decide) ?_
  refine hm_newa (atype := .boolean) (ty := .boolean) (N' := 200) (a0 := (200, .inl (fun _ => 0))) hx hb (hts _ mw_402) rfl hK hH 1 (cA := (t 1)) rfl (hK.2 1 _ rfl).2 (fun _ => rfl) (by decide) (by decide) (by decide) (Nat.le_of_ble_eq_true rfl) (Nat.le_of_ble_eq_true rfl) d_Mo_init_25 (fun aDe H21 hq22 hn23 hH z24 => ?_)
  have hz : s.heap.size ≤ H21.size := by rw [z24]; exact Nat.le_succ_of_le hz
  obtain ⟨h25, e26⟩ : ∃ z, z = hu h19 aDe (.inl ((t 1), 200, .inl (fun _ => 0))) := ⟨_, rfl⟩
  have hH : hm D vwCl G h25 H21 := by rw [e26]; exact hH
  have nb_h_aDe : h aDe = none := kp_none hkp hn23 (nmc (Ne.symm (h_nf hn23 f_m)) nm0)
  have hkp : kp [mo] h h25 := by rw [e26]; exact kp_new hkp hn23
  have ne_mo_aDe : mo ≠ aDe := h_nf hn23 f_m
  have f_m : h25 mo = some (.inr (9, [.int 0, .int 0, .int 0, .ref aBy, .ref aSt, .null, .int 0, .int 0, .int 0, .null, .int 0, .null, .null, .null, .null, .null, .null, .null, .null, .null, .int 0, .null, .int 0, .int 0, .null, .null, .null, .int 0, .int 0, .null, .null, .null, .null, .null, .null, .int 0, .null, .null, .null, .null, .null])) := by rw [e26, hu_n ne_mo_aDe]; exact f_m
  have ne_aBy_aDe : aBy ≠ aDe := h_nf hn23 f_aBy
  have f_aBy : h25 aBy = some (.inl ((t 0), 819200, .inl (fun _ => 0))) := by rw [e26, hu_n ne_aBy_aDe]; exact f_aBy
  have ne_aSt_aDe : aSt ≠ aDe := h_nf hn23 f_aSt
  have f_aSt : h25 aSt = some (.inl ((t 0), 400, .inl (fun _ => 0))) := by rw [e26, hu_n ne_aSt_aDe]; exact f_aSt
  have f_aDe : h25 aDe = some (.inl ((t 1), 200, .inl (fun _ => 0))) := by rw [e26]; exact hu_s _ _ _
  refine hm_putF (ci := 9) (v := .ref aDe) (ty := (.array .boolean)) (C := R_Mo) (T := F_Mo) (N := 41) hx hb hts ig_Mo t_Mo tk_Mo nm_Mo hown hK hH hLo f_m rfl 5 (by decide) (hts _ mw_403) (fun _ h9 => h9) rfl hin rfl (by decide +kernel) rfl rfl (Nat.le_of_ble_eq_true rfl) d_Mo_init_27 (fun H27 locs hH z28 hLo => ?_)
  have hz : s.heap.size ≤ H27.size := by rw [z28]; exact hz
  obtain ⟨h29, e30⟩ : ∃ z, z = hu h25 mo (.inr (9, [.int 0, .int 0, .int 0, .ref aBy, .ref aSt, .ref aDe, .int 0, .int 0, .int 0, .null, .int 0, .null, .null, .null, .null, .null, .null, .null, .null, .null, .int 0, .null, .int 0, .int 0, .null, .null, .null, .int 0, .int 0, .null, .null, .null, .null, .null, .null, .int 0, .null, .null, .null, .null, .null])) := ⟨_, rfl⟩
  have hH : hm D vwCl G h29 H27 := by rw [e30]; exact hH
  have f_aBy : h29 aBy = some (.inl ((t 0), 819200, .inl (fun _ => 0))) := by rw [e30, hu_n (Ne.symm ne_mo_aBy)]; exact f_aBy
  have f_aSt : h29 aSt = some (.inl ((t 0), 400, .inl (fun _ => 0))) := by rw [e30, hu_n (Ne.symm ne_mo_aSt)]; exact f_aSt
  have f_aDe : h29 aDe = some (.inl ((t 1), 200, .inl (fun _ => 0))) := by rw [e30, hu_n (Ne.symm ne_mo_aDe)]; exact f_aDe
  have f_m : h29 mo = some (.inr (9, [.int 0, .int 0, .int 0, .ref aBy, .ref aSt, .ref aDe, .int 0, .int 0, .int 0, .null, .int 0, .null, .null, .null, .null, .null, .null, .null, .null, .null, .int 0, .null, .int 0, .int 0, .null, .null, .null, .int 0, .int 0, .null, .null, .null, .null, .null, .null, .int 0, .null, .null, .null, .null, .null])) := by rw [e30]; exact hu_s _ _ _
  have hkp : kp [mo] h h29 := by rw [e30]; exact kp_put hkp (by simp)
  refine lv_aload_n hx hb d_Mo_init_30 rfl (lv_at hl 0 rfl) ?_
  refine lv_sipush (v := 2048) hx hb d_Mo_init_31 (by decide) ?_
  refine hm_newa (atype := .byte) (ty := .byte) (N' := 2048) (a0 := (2048, .inl (fun _ => 0))) hx hb (hts _ mw_23) rfl hK hH 0 (cA := (t 0)) rfl (hK.2 0 _ rfl).2 (fun _ => rfl) (by decide) (by decide) (by decide) (Nat.le_of_ble_eq_true rfl) (Nat.le_of_ble_eq_true rfl) d_Mo_init_34 (fun aPa H31 hq32 hn33 hH z34 => ?_)
  have hz : s.heap.size ≤ H31.size := by rw [z34]; exact Nat.le_succ_of_le hz
  obtain ⟨h35, e36⟩ : ∃ z, z = hu h29 aPa (.inl ((t 0), 2048, .inl (fun _ => 0))) := ⟨_, rfl⟩
  have hH : hm D vwCl G h35 H31 := by rw [e36]; exact hH
  have nb_h_aPa : h aPa = none := kp_none hkp hn33 (nmc (Ne.symm (h_nf hn33 f_m)) nm0)
  have hkp : kp [mo] h h35 := by rw [e36]; exact kp_new hkp hn33
  have ne_mo_aPa : mo ≠ aPa := h_nf hn33 f_m
  have f_m : h35 mo = some (.inr (9, [.int 0, .int 0, .int 0, .ref aBy, .ref aSt, .ref aDe, .int 0, .int 0, .int 0, .null, .int 0, .null, .null, .null, .null, .null, .null, .null, .null, .null, .int 0, .null, .int 0, .int 0, .null, .null, .null, .int 0, .int 0, .null, .null, .null, .null, .null, .null, .int 0, .null, .null, .null, .null, .null])) := by rw [e36, hu_n ne_mo_aPa]; exact f_m
  have ne_aBy_aPa : aBy ≠ aPa := h_nf hn33 f_aBy
  have f_aBy : h35 aBy = some (.inl ((t 0), 819200, .inl (fun _ => 0))) := by rw [e36, hu_n ne_aBy_aPa]; exact f_aBy
  have ne_aSt_aPa : aSt ≠ aPa := h_nf hn33 f_aSt
  have f_aSt : h35 aSt = some (.inl ((t 0), 400, .inl (fun _ => 0))) := by rw [e36, hu_n ne_aSt_aPa]; exact f_aSt
  have ne_aDe_aPa : aDe ≠ aPa := h_nf hn33 f_aDe
  have f_aDe : h35 aDe = some (.inl ((t 1), 200, .inl (fun _ => 0))) := by rw [e36, hu_n ne_aDe_aPa]; exact f_aDe
  have f_aPa : h35 aPa = some (.inl ((t 0), 2048, .inl (fun _ => 0))) := by rw [e36]; exact hu_s _ _ _
  refine hm_putF (ci := 9) (v := .ref aPa) (ty := (.array .byte)) (C := R_Mo) (T := F_Mo) (N := 41) hx hb hts ig_Mo t_Mo tk_Mo nm_Mo hown hK hH hLo f_m rfl 9 (by decide) (hts _ mw_404) (fun _ h9 => h9) rfl hin rfl (by decide +kernel) rfl rfl (Nat.le_of_ble_eq_true rfl) d_Mo_init_36 (fun H37 locs hH z38 hLo => ?_)
  have hz : s.heap.size ≤ H37.size := by rw [z38]; exact hz
  obtain ⟨h39, e40⟩ : ∃ z, z = hu h35 mo (.inr (9, [.int 0, .int 0, .int 0, .ref aBy, .ref aSt, .ref aDe, .int 0, .int 0, .int 0, .ref aPa, .int 0, .null, .null, .null, .null, .null, .null, .null, .null, .null, .int 0, .null, .int 0, .int 0, .null, .null, .null, .int 0, .int 0, .null, .null, .null, .null, .null, .null, .int 0, .null, .null, .null, .null, .null])) := ⟨_, rfl⟩
  have hH : hm D vwCl G h39 H37 := by rw [e40]; exact hH
  have f_aBy : h39 aBy = some (.inl ((t 0), 819200, .inl (fun _ => 0))) := by rw [e40, hu_n (Ne.symm ne_mo_aBy)]; exact f_aBy
  have f_aSt : h39 aSt = some (.inl ((t 0), 400, .inl (fun _ => 0))) := by rw [e40, hu_n (Ne.symm ne_mo_aSt)]; exact f_aSt
  have f_aDe : h39 aDe = some (.inl ((t 1), 200, .inl (fun _ => 0))) := by rw [e40, hu_n (Ne.symm ne_mo_aDe)]; exact f_aDe
  have f_aPa : h39 aPa = some (.inl ((t 0), 2048, .inl (fun _ => 0))) := by rw [e40, hu_n (Ne.symm ne_mo_aPa)]; exact f_aPa
  have f_m : h39 mo = some (.inr (9, [.int 0, .int 0, .int 0, .ref aBy, .ref aSt, .ref aDe, .int 0, .int 0, .int 0, .ref aPa, .int 0, .null, .null, .null, .null, .null, .null, .null, .null, .null, .int 0, .null, .int 0, .int 0, .null, .null, .null, .int 0, .int 0, .null, .null, .null, .null, .null, .null, .int 0, .null, .null, .null, .null, .null])) := by rw [e40]; exact hu_s _ _ _
  have hkp : kp [mo] h h39 := by rw [e40]; exact kp_put hkp (by simp)
  refine lv_aload_n hx hb d_Mo_init_39 rfl (lv_at hl 0 rfl) ?_
  refine lv_sipush (v := 700) hx hb d_Mo_init_40 (by decide) ?_
  refine hm_newa (atype := .boolean) (ty := .boolean) (N' := 700) (a0 := (700, .inl (fun _ => 0))) hx hb (hts _ mw_402) rfl hK hH 1 (cA := (t 1)) rfl (hK.2 1 _ rfl).2 (fun _ => rfl) (by decide) (by decide) (by decide) (Nat.le_of_ble_eq_true rfl) (Nat.le_of_ble_eq_true rfl) d_Mo_init_43 (fun aIt H41 hq42 hn43 hH z44 => ?_)
  have hz : s.heap.size ≤ H41.size := by rw [z44]; exact Nat.le_succ_of_le hz
  obtain ⟨h45, e46⟩ : ∃ z, z = hu h39 aIt (.inl ((t 1), 700, .inl (fun _ => 0))) := ⟨_, rfl⟩
  have hH : hm D vwCl G h45 H41 := by rw [e46]; exact hH
  have nb_h_aIt : h aIt = none := kp_none hkp hn43 (nmc (Ne.symm (h_nf hn43 f_m)) nm0)
  have hkp : kp [mo] h h45 := by rw [e46]; exact kp_new hkp hn43
  have ne_mo_aIt : mo ≠ aIt := h_nf hn43 f_m
  have f_m : h45 mo = some (.inr (9, [.int 0, .int 0, .int 0, .ref aBy, .ref aSt, .ref aDe, .int 0, .int 0, .int 0, .ref aPa, .int 0, .null, .null, .null, .null, .null, .null, .null, .null, .null, .int 0, .null, .int 0, .int 0, .null, .null, .null, .int 0, .int 0, .null, .null, .null, .null, .null, .null, .int 0, .null, .null, .null, .null, .null])) := by rw [e46, hu_n ne_mo_aIt]; exact f_m
  have ne_aBy_aIt : aBy ≠ aIt := h_nf hn43 f_aBy
  have f_aBy : h45 aBy = some (.inl ((t 0), 819200, .inl (fun _ => 0))) := by rw [e46, hu_n ne_aBy_aIt]; exact f_aBy
  have ne_aSt_aIt : aSt ≠ aIt := h_nf hn43 f_aSt
  have f_aSt : h45 aSt = some (.inl ((t 0), 400, .inl (fun _ => 0))) := by rw [e46, hu_n ne_aSt_aIt]; exact f_aSt
  have ne_aDe_aIt : aDe ≠ aIt := h_nf hn43 f_aDe
  have f_aDe : h45 aDe = some (.inl ((t 1), 200, .inl (fun _ => 0))) := by rw [e46, hu_n ne_aDe_aIt]; exact f_aDe
  have ne_aPa_aIt : aPa ≠ aIt := h_nf hn43 f_aPa
  have f_aPa : h45 aPa = some (.inl ((t 0), 2048, .inl (fun _ => 0))) := by rw [e46, hu_n ne_aPa_aIt]; exact f_aPa
  have f_aIt : h45 aIt = some (.inl ((t 1), 700, .inl (fun _ => 0))) := by rw [e46]; exact hu_s _ _ _
  refine hm_putF (ci := 9) (v := .ref aIt) (ty := (.array .boolean)) (C := R_Mo) (T := F_Mo) (N := 41) hx hb hts ig_Mo t_Mo tk_Mo nm_Mo hown hK hH hLo f_m rfl 11 (by decide) (hts _ mw_391) (fun _ h9 => h9) rfl hin rfl (by decide +kernel) rfl rfl (Nat.le_of_ble_eq_true rfl) d_Mo_init_45 (fun H47 locs hH z48 hLo => ?_)
  have hz : s.heap.size ≤ H47.size := by rw [z48]; exact hz
  obtain ⟨h49, e50⟩ : ∃ z, z = hu h45 mo (.inr (9, [.int 0, .int 0, .int 0, .ref aBy, .ref aSt, .ref aDe, .int 0, .int 0, .int 0, .ref aPa, .int 0, .ref aIt, .null, .null, .null, .null, .null, .null, .null, .null, .int 0, .null, .int 0, .int 0, .null, .null, .null, .int 0, .int 0, .null, .null, .null, .null, .null, .null, .int 0, .null, .null, .null, .null, .null])) := ⟨_, rfl⟩
  have hH : hm D vwCl G h49 H47 := by rw [e50]; exact hH
  have f_aBy : h49 aBy = some (.inl ((t 0), 819200, .inl (fun _ => 0))) := by rw [e50, hu_n (Ne.symm ne_mo_aBy)]; exact f_aBy
  have f_aSt : h49 aSt = some (.inl ((t 0), 400, .inl (fun _ => 0))) := by rw [e50, hu_n (Ne.symm ne_mo_aSt)]; exact f_aSt
  have f_aDe : h49 aDe = some (.inl ((t 1), 200, .inl (fun _ => 0))) := by rw [e50, hu_n (Ne.symm ne_mo_aDe)]; exact f_aDe
  have f_aPa : h49 aPa = some (.inl ((t 0), 2048, .inl (fun _ => 0))) := by rw [e50, hu_n (Ne.symm ne_mo_aPa)]; exact f_aPa
  have f_aIt : h49 aIt = some (.inl ((t 1), 700, .inl (fun _ => 0))) := by rw [e50, hu_n (Ne.symm ne_mo_aIt)]; exact f_aIt
  have f_m : h49 mo = some (.inr (9, [.int 0, .int 0, .int 0, .ref aBy, .ref aSt, .ref aDe, .int 0, .int 0, .int 0, .ref aPa, .int 0, .ref aIt, .null, .null, .null, .null, .null, .null, .null, .null, .int 0, .null, .int 0, .int 0, .null, .null, .null, .int 0, .int 0, .null, .null, .null, .null, .null, .null, .int 0, .null, .null, .null, .null, .null])) := by rw [e50]; exact hu_s _ _ _
  have hkp : kp [mo] h h49 := by rw [e50]; exact kp_put hkp (by simp)
  refine lv_aload_n hx hb d_Mo_init_48 rfl (lv_at hl 0 rfl) ?_
  refine lv_sipush (v := 700) hx hb d_Mo_init_49 (by decide) ?_
  refine hm_newa (atype := .boolean) (ty := .boolean) (N' := 700) (a0 := (700, .inl (fun _ => 0))) hx hb (hts _ mw_402) rfl hK hH 1 (cA := (t 1)) rfl (hK.2 1 _ rfl).2 (fun _ => rfl) (by decide) (by decide) (by decide) (Nat.le_of_ble_eq_true rfl) (Nat.le_of_ble_eq_true rfl) d_Mo_init_52 (fun aId H51 hq52 hn53 hH z54 => ?_)
  have hz : s.heap.size ≤ H51.size := by rw [z54]; exact Nat.le_succ_of_le hz
  obtain ⟨h55, e56⟩ : ∃ z, z = hu h49 aId (.inl ((t 1), 700, .inl (fun _ => 0))) := ⟨_, rfl⟩
  have hH : hm D vwCl G h55 H51 := by rw [e56]; exact hH
  have nb_h_aId : h aId = none := kp_none hkp hn53 (nmc (Ne.symm (h_nf hn53 f_m)) nm0)
  have hkp : kp [mo] h h55 := by rw [e56]; exact kp_new hkp hn53
  have ne_mo_aId : mo ≠ aId := h_nf hn53 f_m
  have f_m : h55 mo = some (.inr (9, [.int 0, .int 0, .int 0, .ref aBy, .ref aSt, .ref aDe, .int 0, .int 0, .int 0, .ref aPa, .int 0, .ref aIt, .null, .null, .null, .null, .null, .null, .null, .null, .int 0, .null, .int 0, .int 0, .null, .null, .null, .int 0, .int 0, .null, .null, .null, .null, .null, .null, .int 0, .null, .null, .null, .null, .null])) := by rw [e56, hu_n ne_mo_aId]; exact f_m
  have ne_aBy_aId : aBy ≠ aId := h_nf hn53 f_aBy
  have f_aBy : h55 aBy = some (.inl ((t 0), 819200, .inl (fun _ => 0))) := by rw [e56, hu_n ne_aBy_aId]; exact f_aBy
  have ne_aSt_aId : aSt ≠ aId := h_nf hn53 f_aSt
  have f_aSt : h55 aSt = some (.inl ((t 0), 400, .inl (fun _ => 0))) := by rw [e56, hu_n ne_aSt_aId]; exact f_aSt
  have ne_aDe_aId : aDe ≠ aId := h_nf hn53 f_aDe
  have f_aDe : h55 aDe = some (.inl ((t 1), 200, .inl (fun _ => 0))) := by rw [e56, hu_n ne_aDe_aId]; exact f_aDe
  have ne_aPa_aId : aPa ≠ aId := h_nf hn53 f_aPa
  have f_aPa : h55 aPa = some (.inl ((t 0), 2048, .inl (fun _ => 0))) := by rw [e56, hu_n ne_aPa_aId]; exact f_aPa
  have ne_aIt_aId : aIt ≠ aId := h_nf hn53 f_aIt
  have f_aIt : h55 aIt = some (.inl ((t 1), 700, .inl (fun _ => 0))) := by rw [e56, hu_n ne_aIt_aId]; exact f_aIt
  have f_aId : h55 aId = some (.inl ((t 1), 700, .inl (fun _ => 0))) := by rw [e56]; exact hu_s _ _ _
  refine hm_putF (ci := 9) (v := .ref aId) (ty := (.array .boolean)) (C := R_Mo) (T := F_Mo) (N := 41) hx hb hts ig_Mo t_Mo tk_Mo nm_Mo hown hK hH hLo f_m rfl 12 (by decide) (hts _ mw_392) (fun _ h9 => h9) rfl hin rfl (by decide +kernel) rfl rfl (Nat.le_of_ble_eq_true rfl) d_Mo_init_54 (fun H57 locs hH z58 hLo => ?_)
  have hz : s.heap.size ≤ H57.size := by rw [z58]; exact hz
  obtain ⟨h59, e60⟩ : ∃ z, z = hu h55 mo (.inr (9, [.int 0, .int 0, .int 0, .ref aBy, .ref aSt, .ref aDe, .int 0, .int 0, .int 0, .ref aPa, .int 0, .ref aIt, .ref aId, .null, .null, .null, .null, .null, .null, .null, .int 0, .null, .int 0, .int 0, .null, .null, .null, .int 0, .int 0, .null, .null, .null, .null, .null, .null, .int 0, .null, .null, .null, .null, .null])) := ⟨_, rfl⟩
  have hH : hm D vwCl G h59 H57 := by rw [e60]; exact hH
  have f_aBy : h59 aBy = some (.inl ((t 0), 819200, .inl (fun _ => 0))) := by rw [e60, hu_n (Ne.symm ne_mo_aBy)]; exact f_aBy
  have f_aSt : h59 aSt = some (.inl ((t 0), 400, .inl (fun _ => 0))) := by rw [e60, hu_n (Ne.symm ne_mo_aSt)]; exact f_aSt
  have f_aDe : h59 aDe = some (.inl ((t 1), 200, .inl (fun _ => 0))) := by rw [e60, hu_n (Ne.symm ne_mo_aDe)]; exact f_aDe
  have f_aPa : h59 aPa = some (.inl ((t 0), 2048, .inl (fun _ => 0))) := by rw [e60, hu_n (Ne.symm ne_mo_aPa)]; exact f_aPa
  have f_aIt : h59 aIt = some (.inl ((t 1), 700, .inl (fun _ => 0))) := by rw [e60, hu_n (Ne.symm ne_mo_aIt)]; exact f_aIt
  have f_aId : h59 aId = some (.inl ((t 1), 700, .inl (fun _ => 0))) := by rw [e60, hu_n (Ne.symm ne_mo_aId)]; exact f_aId
  have f_m : h59 mo = some (.inr (9, [.int 0, .int 0, .int 0, .ref aBy, .ref aSt, .ref aDe, .int 0, .int 0, .int 0, .ref aPa, .int 0, .ref aIt, .ref aId, .null, .null, .null, .null, .null, .null, .null, .int 0, .null, .int 0, .int 0, .null, .null, .null, .int 0, .int 0, .null, .null, .null, .null, .null, .null, .int 0, .null, .null, .null, .null, .null])) := by rw [e60]; exact hu_s _ _ _
  have hkp : kp [mo] h h59 := by rw [e60]; exact kp_put hkp (by simp)
  refine lv_aload_n hx hb d_Mo_init_57 rfl (lv_at hl 0 rfl) ?_
  refine lv_sipush (v := 700) hx hb d_Mo_init_58 (by decide) ?_
  refine hm_newa (atype := .int) (ty := .int) (N' := 700) (a0 := (700, .inl (fun _ => 0))) hx hb (hts _ mw_405) rfl hK hH 2 (cA := (t 2)) rfl (hK.2 2 _ rfl).2 (fun _ => rfl) (by decide) (by decide) (by decide) (Nat.le_of_ble_eq_true rfl) (Nat.le_of_ble_eq_true rfl) d_Mo_init_61 (fun aPr H61 hq62 hn63 hH z64 => ?_)
  have hz : s.heap.size ≤ H61.size := by rw [z64]; exact Nat.le_succ_of_le hz
  obtain ⟨h65, e66⟩ : ∃ z, z = hu h59 aPr (.inl ((t 2), 700, .inl (fun _ => 0))) := ⟨_, rfl⟩
  have hH : hm D vwCl G h65 H61 := by rw [e66]; exact hH
  have nb_h_aPr : h aPr = none := kp_none hkp hn63 (nmc (Ne.symm (h_nf hn63 f_m)) nm0)
  have hkp : kp [mo] h h65 := by rw [e66]; exact kp_new hkp hn63
  have ne_mo_aPr : mo ≠ aPr := h_nf hn63 f_m
  have f_m : h65 mo = some (.inr (9, [.int 0, .int 0, .int 0, .ref aBy, .ref aSt, .ref aDe, .int 0, .int 0, .int 0, .ref aPa, .int 0, .ref aIt, .ref aId, .null, .null, .null, .null, .null, .null, .null, .int 0, .null, .int 0, .int 0, .null, .null, .null, .int 0, .int 0, .null, .null, .null, .null, .null, .null, .int 0, .null, .null, .null, .null, .null])) := by rw [e66, hu_n ne_mo_aPr]; exact f_m
  have ne_aBy_aPr : aBy ≠ aPr := h_nf hn63 f_aBy
  have f_aBy : h65 aBy = some (.inl ((t 0), 819200, .inl (fun _ => 0))) := by rw [e66, hu_n ne_aBy_aPr]; exact f_aBy
  have ne_aSt_aPr : aSt ≠ aPr := h_nf hn63 f_aSt
  have f_aSt : h65 aSt = some (.inl ((t 0), 400, .inl (fun _ => 0))) := by rw [e66, hu_n ne_aSt_aPr]; exact f_aSt
  have ne_aDe_aPr : aDe ≠ aPr := h_nf hn63 f_aDe
  have f_aDe : h65 aDe = some (.inl ((t 1), 200, .inl (fun _ => 0))) := by rw [e66, hu_n ne_aDe_aPr]; exact f_aDe
  have ne_aPa_aPr : aPa ≠ aPr := h_nf hn63 f_aPa
  have f_aPa : h65 aPa = some (.inl ((t 0), 2048, .inl (fun _ => 0))) := by rw [e66, hu_n ne_aPa_aPr]; exact f_aPa
  have ne_aIt_aPr : aIt ≠ aPr := h_nf hn63 f_aIt
  have f_aIt : h65 aIt = some (.inl ((t 1), 700, .inl (fun _ => 0))) := by rw [e66, hu_n ne_aIt_aPr]; exact f_aIt
  have ne_aId_aPr : aId ≠ aPr := h_nf hn63 f_aId
  have f_aId : h65 aId = some (.inl ((t 1), 700, .inl (fun _ => 0))) := by rw [e66, hu_n ne_aId_aPr]; exact f_aId
  have f_aPr : h65 aPr = some (.inl ((t 2), 700, .inl (fun _ => 0))) := by rw [e66]; exact hu_s _ _ _
  refine hm_putF (ci := 9) (v := .ref aPr) (ty := (.array .int)) (C := R_Mo) (T := F_Mo) (N := 41) hx hb hts ig_Mo t_Mo tk_Mo nm_Mo hown hK hH hLo f_m rfl 13 (by decide) (hts _ mw_393) (fun _ h9 => h9) rfl hin rfl (by decide +kernel) rfl rfl (Nat.le_of_ble_eq_true rfl) d_Mo_init_63 (fun H67 locs hH z68 hLo => ?_)
  have hz : s.heap.size ≤ H67.size := by rw [z68]; exact hz
  obtain ⟨h69, e70⟩ : ∃ z, z = hu h65 mo (.inr (9, [.int 0, .int 0, .int 0, .ref aBy, .ref aSt, .ref aDe, .int 0, .int 0, .int 0, .ref aPa, .int 0, .ref aIt, .ref aId, .ref aPr, .null, .null, .null, .null, .null, .null, .int 0, .null, .int 0, .int 0, .null, .null, .null, .int 0, .int 0, .null, .null, .null, .null, .null, .null, .int 0, .null, .null, .null, .null, .null])) := ⟨_, rfl⟩
  have hH : hm D vwCl G h69 H67 := by rw [e70]; exact hH
  have f_aBy : h69 aBy = some (.inl ((t 0), 819200, .inl (fun _ => 0))) := by rw [e70, hu_n (Ne.symm ne_mo_aBy)]; exact f_aBy
  have f_aSt : h69 aSt = some (.inl ((t 0), 400, .inl (fun _ => 0))) := by rw [e70, hu_n (Ne.symm ne_mo_aSt)]; exact f_aSt
  have f_aDe : h69 aDe = some (.inl ((t 1), 200, .inl (fun _ => 0))) := by rw [e70, hu_n (Ne.symm ne_mo_aDe)]; exact f_aDe
  have f_aPa : h69 aPa = some (.inl ((t 0), 2048, .inl (fun _ => 0))) := by rw [e70, hu_n (Ne.symm ne_mo_aPa)]; exact f_aPa
  have f_aIt : h69 aIt = some (.inl ((t 1), 700, .inl (fun _ => 0))) := by rw [e70, hu_n (Ne.symm ne_mo_aIt)]; exact f_aIt
  have f_aId : h69 aId = some (.inl ((t 1), 700, .inl (fun _ => 0))) := by rw [e70, hu_n (Ne.symm ne_mo_aId)]; exact f_aId
  have f_aPr : h69 aPr = some (.inl ((t 2), 700, .inl (fun _ => 0))) := by rw [e70, hu_n (Ne.symm ne_mo_aPr)]; exact f_aPr
  have f_m : h69 mo = some (.inr (9, [.int 0, .int 0, .int 0, .ref aBy, .ref aSt, .ref aDe, .int 0, .int 0, .int 0, .ref aPa, .int 0, .ref aIt, .ref aId, .ref aPr, .null, .null, .null, .null, .null, .null, .int 0, .null, .int 0, .int 0, .null, .null, .null, .int 0, .int 0, .null, .null, .null, .null, .null, .null, .int 0, .null, .null, .null, .null, .null])) := by rw [e70]; exact hu_s _ _ _
  have hkp : kp [mo] h h69 := by rw [e70]; exact kp_put hkp (by simp)
  refine lv_aload_n hx hb d_Mo_init_66 rfl (lv_at hl 0 rfl) ?_
  refine lv_sipush (v := 700) hx hb d_Mo_init_67 (by decide) ?_
  refine hm_newa (atype := .long) (ty := .long) (N' := 700) (a0 := (700, .inr (.inl (fun _ => 0)))) hx hb (hts _ mw_406) rfl hK hH 3 (cA := (t 3)) rfl (hK.2 3 _ rfl).2 (fun _ => rfl) (by decide) (by decide) (by decide) (Nat.le_of_ble_eq_true rfl) (Nat.le_of_ble_eq_true rfl) d_Mo_init_70 (fun aNa H71 hq72 hn73 hH z74 => ?_)
  have hz : s.heap.size ≤ H71.size := by rw [z74]; exact Nat.le_succ_of_le hz
  obtain ⟨h75, e76⟩ : ∃ z, z = hu h69 aNa (.inl ((t 3), 700, .inr (.inl (fun _ => 0)))) := ⟨_, rfl⟩
  have hH : hm D vwCl G h75 H71 := by rw [e76]; exact hH
  have nb_h_aNa : h aNa = none := kp_none hkp hn73 (nmc (Ne.symm (h_nf hn73 f_m)) nm0)
  have hkp : kp [mo] h h75 := by rw [e76]; exact kp_new hkp hn73
  have ne_mo_aNa : mo ≠ aNa := h_nf hn73 f_m
  have f_m : h75 mo = some (.inr (9, [.int 0, .int 0, .int 0, .ref aBy, .ref aSt, .ref aDe, .int 0, .int 0, .int 0, .ref aPa, .int 0, .ref aIt, .ref aId, .ref aPr, .null, .null, .null, .null, .null, .null, .int 0, .null, .int 0, .int 0, .null, .null, .null, .int 0, .int 0, .null, .null, .null, .null, .null, .null, .int 0, .null, .null, .null, .null, .null])) := by rw [e76, hu_n ne_mo_aNa]; exact f_m
  have ne_aBy_aNa : aBy ≠ aNa := h_nf hn73 f_aBy
  have f_aBy : h75 aBy = some (.inl ((t 0), 819200, .inl (fun _ => 0))) := by rw [e76, hu_n ne_aBy_aNa]; exact f_aBy
  have ne_aSt_aNa : aSt ≠ aNa := h_nf hn73 f_aSt
  have f_aSt : h75 aSt = some (.inl ((t 0), 400, .inl (fun _ => 0))) := by rw [e76, hu_n ne_aSt_aNa]; exact f_aSt
  have ne_aDe_aNa : aDe ≠ aNa := h_nf hn73 f_aDe
  have f_aDe : h75 aDe = some (.inl ((t 1), 200, .inl (fun _ => 0))) := by rw [e76, hu_n ne_aDe_aNa]; exact f_aDe
  have ne_aPa_aNa : aPa ≠ aNa := h_nf hn73 f_aPa
  have f_aPa : h75 aPa = some (.inl ((t 0), 2048, .inl (fun _ => 0))) := by rw [e76, hu_n ne_aPa_aNa]; exact f_aPa
  have ne_aIt_aNa : aIt ≠ aNa := h_nf hn73 f_aIt
  have f_aIt : h75 aIt = some (.inl ((t 1), 700, .inl (fun _ => 0))) := by rw [e76, hu_n ne_aIt_aNa]; exact f_aIt
  have ne_aId_aNa : aId ≠ aNa := h_nf hn73 f_aId
  have f_aId : h75 aId = some (.inl ((t 1), 700, .inl (fun _ => 0))) := by rw [e76, hu_n ne_aId_aNa]; exact f_aId
  have ne_aPr_aNa : aPr ≠ aNa := h_nf hn73 f_aPr
  have f_aPr : h75 aPr = some (.inl ((t 2), 700, .inl (fun _ => 0))) := by rw [e76, hu_n ne_aPr_aNa]; exact f_aPr
  have f_aNa : h75 aNa = some (.inl ((t 3), 700, .inr (.inl (fun _ => 0)))) := by rw [e76]; exact hu_s _ _ _
  refine hm_putF (ci := 9) (v := .ref aNa) (ty := (.array .long)) (C := R_Mo) (T := F_Mo) (N := 41) hx hb hts ig_Mo t_Mo tk_Mo nm_Mo hown hK hH hLo f_m rfl 14 (by decide) (hts _ mw_394) (fun _ h9 => h9) rfl hin rfl (by decide +kernel) rfl rfl (Nat.le_of_ble_eq_true rfl) d_Mo_init_72 (fun H77 locs hH z78 hLo => ?_)
  have hz : s.heap.size ≤ H77.size := by rw [z78]; exact hz
  obtain ⟨h79, e80⟩ : ∃ z, z = hu h75 mo (.inr (9, [.int 0, .int 0, .int 0, .ref aBy, .ref aSt, .ref aDe, .int 0, .int 0, .int 0, .ref aPa, .int 0, .ref aIt, .ref aId, .ref aPr, .ref aNa, .null, .null, .null, .null, .null, .int 0, .null, .int 0, .int 0, .null, .null, .null, .int 0, .int 0, .null, .null, .null, .null, .null, .null, .int 0, .null, .null, .null, .null, .null])) := ⟨_, rfl⟩
  have hH : hm D vwCl G h79 H77 := by rw [e80]; exact hH
  have f_aBy : h79 aBy = some (.inl ((t 0), 819200, .inl (fun _ => 0))) := by rw [e80, hu_n (Ne.symm ne_mo_aBy)]; exact f_aBy
  have f_aSt : h79 aSt = some (.inl ((t 0), 400, .inl (fun _ => 0))) := by rw [e80, hu_n (Ne.symm ne_mo_aSt)]; exact f_aSt
  have f_aDe : h79 aDe = some (.inl ((t 1), 200, .inl (fun _ => 0))) := by rw [e80, hu_n (Ne.symm ne_mo_aDe)]; exact f_aDe
  have f_aPa : h79 aPa = some (.inl ((t 0), 2048, .inl (fun _ => 0))) := by rw [e80, hu_n (Ne.symm ne_mo_aPa)]; exact f_aPa
  have f_aIt : h79 aIt = some (.inl ((t 1), 700, .inl (fun _ => 0))) := by rw [e80, hu_n (Ne.symm ne_mo_aIt)]; exact f_aIt
  have f_aId : h79 aId = some (.inl ((t 1), 700, .inl (fun _ => 0))) := by rw [e80, hu_n (Ne.symm ne_mo_aId)]; exact f_aId
  have f_aPr : h79 aPr = some (.inl ((t 2), 700, .inl (fun _ => 0))) := by rw [e80, hu_n (Ne.symm ne_mo_aPr)]; exact f_aPr
  have f_aNa : h79 aNa = some (.inl ((t 3), 700, .inr (.inl (fun _ => 0)))) := by rw [e80, hu_n (Ne.symm ne_mo_aNa)]; exact f_aNa
  have f_m : h79 mo = some (.inr (9, [.int 0, .int 0, .int 0, .ref aBy, .ref aSt, .ref aDe, .int 0, .int 0, .int 0, .ref aPa, .int 0, .ref aIt, .ref aId, .ref aPr, .ref aNa, .null, .null, .null, .null, .null, .int 0, .null, .int 0, .int 0, .null, .null, .null, .int 0, .int 0, .null, .null, .null, .null, .null, .null, .int 0, .null, .null, .null, .null, .null])) := by rw [e80]; exact hu_s _ _ _
  have hkp : kp [mo] h h79 := by rw [e80]; exact kp_put hkp (by simp)
  refine lv_aload_n hx hb d_Mo_init_75 rfl (lv_at hl 0 rfl) ?_
  refine lv_sipush (v := 700) hx hb d_Mo_init_76 (by decide) ?_
  refine hm_newa (atype := .int) (ty := .int) (N' := 700) (a0 := (700, .inl (fun _ => 0))) hx hb (hts _ mw_405) rfl hK hH 2 (cA := (t 2)) rfl (hK.2 2 _ rfl).2 (fun _ => rfl) (by decide) (by decide) (by decide) (Nat.le_of_ble_eq_true rfl) (Nat.le_of_ble_eq_true rfl) d_Mo_init_79 (fun aSi H81 hq82 hn83 hH z84 => ?_)
  have hz : s.heap.size ≤ H81.size := by rw [z84]; exact Nat.le_succ_of_le hz
  obtain ⟨h85, e86⟩ : ∃ z, z = hu h79 aSi (.inl ((t 2), 700, .inl (fun _ => 0))) := ⟨_, rfl⟩
  have hH : hm D vwCl G h85 H81 := by rw [e86]; exact hH
  have nb_h_aSi : h aSi = none := kp_none hkp hn83 (nmc (Ne.symm (h_nf hn83 f_m)) nm0)
  have hkp : kp [mo] h h85 := by rw [e86]; exact kp_new hkp hn83
  have ne_mo_aSi : mo ≠ aSi := h_nf hn83 f_m
  have f_m : h85 mo = some (.inr (9, [.int 0, .int 0, .int 0, .ref aBy, .ref aSt, .ref aDe, .int 0, .int 0, .int 0, .ref aPa, .int 0, .ref aIt, .ref aId, .ref aPr, .ref aNa, .null, .null, .null, .null, .null, .int 0, .null, .int 0, .int 0, .null, .null, .null, .int 0, .int 0, .null, .null, .null, .null, .null, .null, .int 0, .null, .null, .null, .null, .null])) := by rw [e86, hu_n ne_mo_aSi]; exact f_m
  have ne_aBy_aSi : aBy ≠ aSi := h_nf hn83 f_aBy
  have f_aBy : h85 aBy = some (.inl ((t 0), 819200, .inl (fun _ => 0))) := by rw [e86, hu_n ne_aBy_aSi]; exact f_aBy
  have ne_aSt_aSi : aSt ≠ aSi := h_nf hn83 f_aSt
  have f_aSt : h85 aSt = some (.inl ((t 0), 400, .inl (fun _ => 0))) := by rw [e86, hu_n ne_aSt_aSi]; exact f_aSt
  have ne_aDe_aSi : aDe ≠ aSi := h_nf hn83 f_aDe
  have f_aDe : h85 aDe = some (.inl ((t 1), 200, .inl (fun _ => 0))) := by rw [e86, hu_n ne_aDe_aSi]; exact f_aDe
  have ne_aPa_aSi : aPa ≠ aSi := h_nf hn83 f_aPa
  have f_aPa : h85 aPa = some (.inl ((t 0), 2048, .inl (fun _ => 0))) := by rw [e86, hu_n ne_aPa_aSi]; exact f_aPa
  have ne_aIt_aSi : aIt ≠ aSi := h_nf hn83 f_aIt
  have f_aIt : h85 aIt = some (.inl ((t 1), 700, .inl (fun _ => 0))) := by rw [e86, hu_n ne_aIt_aSi]; exact f_aIt
  have ne_aId_aSi : aId ≠ aSi := h_nf hn83 f_aId
  have f_aId : h85 aId = some (.inl ((t 1), 700, .inl (fun _ => 0))) := by rw [e86, hu_n ne_aId_aSi]; exact f_aId
  have ne_aPr_aSi : aPr ≠ aSi := h_nf hn83 f_aPr
  have f_aPr : h85 aPr = some (.inl ((t 2), 700, .inl (fun _ => 0))) := by rw [e86, hu_n ne_aPr_aSi]; exact f_aPr
  have ne_aNa_aSi : aNa ≠ aSi := h_nf hn83 f_aNa
  have f_aNa : h85 aNa = some (.inl ((t 3), 700, .inr (.inl (fun _ => 0)))) := by rw [e86, hu_n ne_aNa_aSi]; exact f_aNa
  have f_aSi : h85 aSi = some (.inl ((t 2), 700, .inl (fun _ => 0))) := by rw [e86]; exact hu_s _ _ _
  refine hm_putF (ci := 9) (v := .ref aSi) (ty := (.array .int)) (C := R_Mo) (T := F_Mo) (N := 41) hx hb hts ig_Mo t_Mo tk_Mo nm_Mo hown hK hH hLo f_m rfl 15 (by decide) (hts _ mw_395) (fun _ h9 => h9) rfl hin rfl (by decide +kernel) rfl rfl (Nat.le_of_ble_eq_true rfl) d_Mo_init_81 (fun H87 locs hH z88 hLo => ?_)
  have hz : s.heap.size ≤ H87.size := by rw [z88]; exact hz
  obtain ⟨h89, e90⟩ : ∃ z, z = hu h85 mo (.inr (9, [.int 0, .int 0, .int 0, .ref aBy, .ref aSt, .ref aDe, .int 0, .int 0, .int 0, .ref aPa, .int 0, .ref aIt, .ref aId, .ref aPr, .ref aNa, .ref aSi, .null, .null, .null, .null, .int 0, .null, .int 0, .int 0, .null, .null, .null, .int 0, .int 0, .null, .null, .null, .null, .null, .null, .int 0, .null, .null, .null, .null, .null])) := ⟨_, rfl⟩
  have hH : hm D vwCl G h89 H87 := by rw [e90]; exact hH
  have f_aBy : h89 aBy = some (.inl ((t 0), 819200, .inl (fun _ => 0))) := by rw [e90, hu_n (Ne.symm ne_mo_aBy)]; exact f_aBy
  have f_aSt : h89 aSt = some (.inl ((t 0), 400, .inl (fun _ => 0))) := by rw [e90, hu_n (Ne.symm ne_mo_aSt)]; exact f_aSt
  have f_aDe : h89 aDe = some (.inl ((t 1), 200, .inl (fun _ => 0))) := by rw [e90, hu_n (Ne.symm ne_mo_aDe)]; exact f_aDe
  have f_aPa : h89 aPa = some (.inl ((t 0), 2048, .inl (fun _ => 0))) := by rw [e90, hu_n (Ne.symm ne_mo_aPa)]; exact f_aPa
  have f_aIt : h89 aIt = some (.inl ((t 1), 700, .inl (fun _ => 0))) := by rw [e90, hu_n (Ne.symm ne_mo_aIt)]; exact f_aIt
  have f_aId : h89 aId = some (.inl ((t 1), 700, .inl (fun _ => 0))) := by rw [e90, hu_n (Ne.symm ne_mo_aId)]; exact f_aId
  have f_aPr : h89 aPr = some (.inl ((t 2), 700, .inl (fun _ => 0))) := by rw [e90, hu_n (Ne.symm ne_mo_aPr)]; exact f_aPr
  have f_aNa : h89 aNa = some (.inl ((t 3), 700, .inr (.inl (fun _ => 0)))) := by rw [e90, hu_n (Ne.symm ne_mo_aNa)]; exact f_aNa
  have f_aSi : h89 aSi = some (.inl ((t 2), 700, .inl (fun _ => 0))) := by rw [e90, hu_n (Ne.symm ne_mo_aSi)]; exact f_aSi
  have f_m : h89 mo = some (.inr (9, [.int 0, .int 0, .int 0, .ref aBy, .ref aSt, .ref aDe, .int 0, .int 0, .int 0, .ref aPa, .int 0, .ref aIt, .ref aId, .ref aPr, .ref aNa, .ref aSi, .null, .null, .null, .null, .int 0, .null, .int 0, .int 0, .null, .null, .null, .int 0, .int 0, .null, .null, .null, .null, .null, .null, .int 0, .null, .null, .null, .null, .null])) := by rw [e90]; exact hu_s _ _ _
  have hkp : kp [mo] h h89 := by rw [e90]; exact kp_put hkp (by simp)
  refine lv_aload_n hx hb d_Mo_init_84 rfl (lv_at hl 0 rfl) ?_
  refine lv_sipush (v := 700) hx hb d_Mo_init_85 (by decide) ?_
  refine hm_newa (atype := .int) (ty := .int) (N' := 700) (a0 := (700, .inl (fun _ => 0))) hx hb (hts _ mw_405) rfl hK hH 2 (cA := (t 2)) rfl (hK.2 2 _ rfl).2 (fun _ => rfl) (by decide) (by decide) (by decide) (Nat.le_of_ble_eq_true rfl) (Nat.le_of_ble_eq_true rfl) d_Mo_init_88 (fun aSe H91 hq92 hn93 hH z94 => ?_)
  have hz : s.heap.size ≤ H91.size := by rw [z94]; exact Nat.le_succ_of_le hz
  obtain ⟨h95, e96⟩ : ∃ z, z = hu h89 aSe (.inl ((t 2), 700, .inl (fun _ => 0))) := ⟨_, rfl⟩
  have hH : hm D vwCl G h95 H91 := by rw [e96]; exact hH
  have nb_h_aSe : h aSe = none := kp_none hkp hn93 (nmc (Ne.symm (h_nf hn93 f_m)) nm0)
  have hkp : kp [mo] h h95 := by rw [e96]; exact kp_new hkp hn93
  have ne_mo_aSe : mo ≠ aSe := h_nf hn93 f_m
  have f_m : h95 mo = some (.inr (9, [.int 0, .int 0, .int 0, .ref aBy, .ref aSt, .ref aDe, .int 0, .int 0, .int 0, .ref aPa, .int 0, .ref aIt, .ref aId, .ref aPr, .ref aNa, .ref aSi, .null, .null, .null, .null, .int 0, .null, .int 0, .int 0, .null, .null, .null, .int 0, .int 0, .null, .null, .null, .null, .null, .null, .int 0, .null, .null, .null, .null, .null])) := by rw [e96, hu_n ne_mo_aSe]; exact f_m
  have ne_aBy_aSe : aBy ≠ aSe := h_nf hn93 f_aBy
  have f_aBy : h95 aBy = some (.inl ((t 0), 819200, .inl (fun _ => 0))) := by rw [e96, hu_n ne_aBy_aSe]; exact f_aBy
  have ne_aSt_aSe : aSt ≠ aSe := h_nf hn93 f_aSt
  have f_aSt : h95 aSt = some (.inl ((t 0), 400, .inl (fun _ => 0))) := by rw [e96, hu_n ne_aSt_aSe]; exact f_aSt
  have ne_aDe_aSe : aDe ≠ aSe := h_nf hn93 f_aDe
  have f_aDe : h95 aDe = some (.inl ((t 1), 200, .inl (fun _ => 0))) := by rw [e96, hu_n ne_aDe_aSe]; exact f_aDe
  have ne_aPa_aSe : aPa ≠ aSe := h_nf hn93 f_aPa
  have f_aPa : h95 aPa = some (.inl ((t 0), 2048, .inl (fun _ => 0))) := by rw [e96, hu_n ne_aPa_aSe]; exact f_aPa
  have ne_aIt_aSe : aIt ≠ aSe := h_nf hn93 f_aIt
  have f_aIt : h95 aIt = some (.inl ((t 1), 700, .inl (fun _ => 0))) := by rw [e96, hu_n ne_aIt_aSe]; exact f_aIt
  have ne_aId_aSe : aId ≠ aSe := h_nf hn93 f_aId
  have f_aId : h95 aId = some (.inl ((t 1), 700, .inl (fun _ => 0))) := by rw [e96, hu_n ne_aId_aSe]; exact f_aId
  have ne_aPr_aSe : aPr ≠ aSe := h_nf hn93 f_aPr
  have f_aPr : h95 aPr = some (.inl ((t 2), 700, .inl (fun _ => 0))) := by rw [e96, hu_n ne_aPr_aSe]; exact f_aPr
  have ne_aNa_aSe : aNa ≠ aSe := h_nf hn93 f_aNa
  have f_aNa : h95 aNa = some (.inl ((t 3), 700, .inr (.inl (fun _ => 0)))) := by rw [e96, hu_n ne_aNa_aSe]; exact f_aNa
  have ne_aSi_aSe : aSi ≠ aSe := h_nf hn93 f_aSi
  have f_aSi : h95 aSi = some (.inl ((t 2), 700, .inl (fun _ => 0))) := by rw [e96, hu_n ne_aSi_aSe]; exact f_aSi
  have f_aSe : h95 aSe = some (.inl ((t 2), 700, .inl (fun _ => 0))) := by rw [e96]; exact hu_s _ _ _
  refine hm_putF (ci := 9) (v := .ref aSe) (ty := (.array .int)) (C := R_Mo) (T := F_Mo) (N := 41) hx hb hts ig_Mo t_Mo tk_Mo nm_Mo hown hK hH hLo f_m rfl 16 (by decide) (hts _ mw_396) (fun _ h9 => h9) rfl hin rfl (by decide +kernel) rfl rfl (Nat.le_of_ble_eq_true rfl) d_Mo_init_90 (fun H97 locs hH z98 hLo => ?_)
  have hz : s.heap.size ≤ H97.size := by rw [z98]; exact hz
  obtain ⟨h99, e100⟩ : ∃ z, z = hu h95 mo (.inr (9, [.int 0, .int 0, .int 0, .ref aBy, .ref aSt, .ref aDe, .int 0, .int 0, .int 0, .ref aPa, .int 0, .ref aIt, .ref aId, .ref aPr, .ref aNa, .ref aSi, .ref aSe, .null, .null, .null, .int 0, .null, .int 0, .int 0, .null, .null, .null, .int 0, .int 0, .null, .null, .null, .null, .null, .null, .int 0, .null, .null, .null, .null, .null])) := ⟨_, rfl⟩
  have hH : hm D vwCl G h99 H97 := by rw [e100]; exact hH
  have f_aBy : h99 aBy = some (.inl ((t 0), 819200, .inl (fun _ => 0))) := by rw [e100, hu_n (Ne.symm ne_mo_aBy)]; exact f_aBy
  have f_aSt : h99 aSt = some (.inl ((t 0), 400, .inl (fun _ => 0))) := by rw [e100, hu_n (Ne.symm ne_mo_aSt)]; exact f_aSt
  have f_aDe : h99 aDe = some (.inl ((t 1), 200, .inl (fun _ => 0))) := by rw [e100, hu_n (Ne.symm ne_mo_aDe)]; exact f_aDe
  have f_aPa : h99 aPa = some (.inl ((t 0), 2048, .inl (fun _ => 0))) := by rw [e100, hu_n (Ne.symm ne_mo_aPa)]; exact f_aPa
  have f_aIt : h99 aIt = some (.inl ((t 1), 700, .inl (fun _ => 0))) := by rw [e100, hu_n (Ne.symm ne_mo_aIt)]; exact f_aIt
  have f_aId : h99 aId = some (.inl ((t 1), 700, .inl (fun _ => 0))) := by rw [e100, hu_n (Ne.symm ne_mo_aId)]; exact f_aId
  have f_aPr : h99 aPr = some (.inl ((t 2), 700, .inl (fun _ => 0))) := by rw [e100, hu_n (Ne.symm ne_mo_aPr)]; exact f_aPr
  have f_aNa : h99 aNa = some (.inl ((t 3), 700, .inr (.inl (fun _ => 0)))) := by rw [e100, hu_n (Ne.symm ne_mo_aNa)]; exact f_aNa
  have f_aSi : h99 aSi = some (.inl ((t 2), 700, .inl (fun _ => 0))) := by rw [e100, hu_n (Ne.symm ne_mo_aSi)]; exact f_aSi
  have f_aSe : h99 aSe = some (.inl ((t 2), 700, .inl (fun _ => 0))) := by rw [e100, hu_n (Ne.symm ne_mo_aSe)]; exact f_aSe
  have f_m : h99 mo = some (.inr (9, [.int 0, .int 0, .int 0, .ref aBy, .ref aSt, .ref aDe, .int 0, .int 0, .int 0, .ref aPa, .int 0, .ref aIt, .ref aId, .ref aPr, .ref aNa, .ref aSi, .ref aSe, .null, .null, .null, .int 0, .null, .int 0, .int 0, .null, .null, .null, .int 0, .int 0, .null, .null, .null, .null, .null, .null, .int 0, .null, .null, .null, .null, .null])) := by rw [e100]; exact hu_s _ _ _
  have hkp : kp [mo] h h99 := by rw [e100]; exact kp_put hkp (by simp)
  refine lv_aload_n hx hb d_Mo_init_93 rfl (lv_at hl 0 rfl) ?_
  refine lv_sipush (v := 700) hx hb d_Mo_init_94 (by decide) ?_
  refine hm_newa (atype := .boolean) (ty := .boolean) (N' := 700) (a0 := (700, .inl (fun _ => 0))) hx hb (hts _ mw_402) rfl hK hH 1 (cA := (t 1)) rfl (hK.2 1 _ rfl).2 (fun _ => rfl) (by decide) (by decide) (by decide) (Nat.le_of_ble_eq_true rfl) (Nat.le_of_ble_eq_true rfl) d_Mo_init_97 (fun aIw H101 hq102 hn103 hH z104 => ?_)
  have hz : s.heap.size ≤ H101.size := by rw [z104]; exact Nat.le_succ_of_le hz
  obtain ⟨h105, e106⟩ : ∃ z, z = hu h99 aIw (.inl ((t 1), 700, .inl (fun _ => 0))) := ⟨_, rfl⟩
  have hH : hm D vwCl G h105 H101 := by rw [e106]; exact hH
  have nb_h_aIw : h aIw = none := kp_none hkp hn103 (nmc (Ne.symm (h_nf hn103 f_m)) nm0)
  have hkp : kp [mo] h h105 := by rw [e106]; exact kp_new hkp hn103
  have ne_mo_aIw : mo ≠ aIw := h_nf hn103 f_m
  have f_m : h105 mo = some (.inr (9, [.int 0, .int 0, .int 0, .ref aBy, .ref aSt, .ref aDe, .int 0, .int 0, .int 0, .ref aPa, .int 0, .ref aIt, .ref aId, .ref aPr, .ref aNa, .ref aSi, .ref aSe, .null, .null, .null, .int 0, .null, .int 0, .int 0, .null, .null, .null, .int 0, .int 0, .null, .null, .null, .null, .null, .null, .int 0, .null, .null, .null, .null, .null])) := by rw [e106, hu_n ne_mo_aIw]; exact f_m
  have ne_aBy_aIw : aBy ≠ aIw := h_nf hn103 f_aBy
  have f_aBy : h105 aBy = some (.inl ((t 0), 819200, .inl (fun _ => 0))) := by rw [e106, hu_n ne_aBy_aIw]; exact f_aBy
  have ne_aSt_aIw : aSt ≠ aIw := h_nf hn103 f_aSt
  have f_aSt : h105 aSt = some (.inl ((t 0), 400, .inl (fun _ => 0))) := by rw [e106, hu_n ne_aSt_aIw]; exact f_aSt
  have ne_aDe_aIw : aDe ≠ aIw := h_nf hn103 f_aDe
  have f_aDe : h105 aDe = some (.inl ((t 1), 200, .inl (fun _ => 0))) := by rw [e106, hu_n ne_aDe_aIw]; exact f_aDe
  have ne_aPa_aIw : aPa ≠ aIw := h_nf hn103 f_aPa
  have f_aPa : h105 aPa = some (.inl ((t 0), 2048, .inl (fun _ => 0))) := by rw [e106, hu_n ne_aPa_aIw]; exact f_aPa
  have ne_aIt_aIw : aIt ≠ aIw := h_nf hn103 f_aIt
  have f_aIt : h105 aIt = some (.inl ((t 1), 700, .inl (fun _ => 0))) := by rw [e106, hu_n ne_aIt_aIw]; exact f_aIt
  have ne_aId_aIw : aId ≠ aIw := h_nf hn103 f_aId
  have f_aId : h105 aId = some (.inl ((t 1), 700, .inl (fun _ => 0))) := by rw [e106, hu_n ne_aId_aIw]; exact f_aId
  have ne_aPr_aIw : aPr ≠ aIw := h_nf hn103 f_aPr
  have f_aPr : h105 aPr = some (.inl ((t 2), 700, .inl (fun _ => 0))) := by rw [e106, hu_n ne_aPr_aIw]; exact f_aPr
  have ne_aNa_aIw : aNa ≠ aIw := h_nf hn103 f_aNa
  have f_aNa : h105 aNa = some (.inl ((t 3), 700, .inr (.inl (fun _ => 0)))) := by rw [e106, hu_n ne_aNa_aIw]; exact f_aNa
  have ne_aSi_aIw : aSi ≠ aIw := h_nf hn103 f_aSi
  have f_aSi : h105 aSi = some (.inl ((t 2), 700, .inl (fun _ => 0))) := by rw [e106, hu_n ne_aSi_aIw]; exact f_aSi
  have ne_aSe_aIw : aSe ≠ aIw := h_nf hn103 f_aSe
  have f_aSe : h105 aSe = some (.inl ((t 2), 700, .inl (fun _ => 0))) := by rw [e106, hu_n ne_aSe_aIw]; exact f_aSe
  have f_aIw : h105 aIw = some (.inl ((t 1), 700, .inl (fun _ => 0))) := by rw [e106]; exact hu_s _ _ _
  refine hm_putF (ci := 9) (v := .ref aIw) (ty := (.array .boolean)) (C := R_Mo) (T := F_Mo) (N := 41) hx hb hts ig_Mo t_Mo tk_Mo nm_Mo hown hK hH hLo f_m rfl 17 (by decide) (hts _ mw_407) (fun _ h9 => h9) rfl hin rfl (by decide +kernel) rfl rfl (Nat.le_of_ble_eq_true rfl) d_Mo_init_99 (fun H107 locs hH z108 hLo => ?_)
  have hz : s.heap.size ≤ H107.size := by rw [z108]; exact hz
  obtain ⟨h109, e110⟩ : ∃ z, z = hu h105 mo (.inr (9, [.int 0, .int 0, .int 0, .ref aBy, .ref aSt, .ref aDe, .int 0, .int 0, .int 0, .ref aPa, .int 0, .ref aIt, .ref aId, .ref aPr, .ref aNa, .ref aSi, .ref aSe, .ref aIw, .null, .null, .int 0, .null, .int 0, .int 0, .null, .null, .null, .int 0, .int 0, .null, .null, .null, .null, .null, .null, .int 0, .null, .null, .null, .null, .null])) := ⟨_, rfl⟩
  have hH : hm D vwCl G h109 H107 := by rw [e110]; exact hH
  have f_aBy : h109 aBy = some (.inl ((t 0), 819200, .inl (fun _ => 0))) := by rw [e110, hu_n (Ne.symm ne_mo_aBy)]; exact f_aBy
  have f_aSt : h109 aSt = some (.inl ((t 0), 400, .inl (fun _ => 0))) := by rw [e110, hu_n (Ne.symm ne_mo_aSt)]; exact f_aSt
  have f_aDe : h109 aDe = some (.inl ((t 1), 200, .inl (fun _ => 0))) := by rw [e110, hu_n (Ne.symm ne_mo_aDe)]; exact f_aDe
  have f_aPa : h109 aPa = some (.inl ((t 0), 2048, .inl (fun _ => 0))) := by rw [e110, hu_n (Ne.symm ne_mo_aPa)]; exact f_aPa
  have f_aIt : h109 aIt = some (.inl ((t 1), 700, .inl (fun _ => 0))) := by rw [e110, hu_n (Ne.symm ne_mo_aIt)]; exact f_aIt
  have f_aId : h109 aId = some (.inl ((t 1), 700, .inl (fun _ => 0))) := by rw [e110, hu_n (Ne.symm ne_mo_aId)]; exact f_aId
  have f_aPr : h109 aPr = some (.inl ((t 2), 700, .inl (fun _ => 0))) := by rw [e110, hu_n (Ne.symm ne_mo_aPr)]; exact f_aPr
  have f_aNa : h109 aNa = some (.inl ((t 3), 700, .inr (.inl (fun _ => 0)))) := by rw [e110, hu_n (Ne.symm ne_mo_aNa)]; exact f_aNa
  have f_aSi : h109 aSi = some (.inl ((t 2), 700, .inl (fun _ => 0))) := by rw [e110, hu_n (Ne.symm ne_mo_aSi)]; exact f_aSi
  have f_aSe : h109 aSe = some (.inl ((t 2), 700, .inl (fun _ => 0))) := by rw [e110, hu_n (Ne.symm ne_mo_aSe)]; exact f_aSe
  have f_aIw : h109 aIw = some (.inl ((t 1), 700, .inl (fun _ => 0))) := by rw [e110, hu_n (Ne.symm ne_mo_aIw)]; exact f_aIw
  have f_m : h109 mo = some (.inr (9, [.int 0, .int 0, .int 0, .ref aBy, .ref aSt, .ref aDe, .int 0, .int 0, .int 0, .ref aPa, .int 0, .ref aIt, .ref aId, .ref aPr, .ref aNa, .ref aSi, .ref aSe, .ref aIw, .null, .null, .int 0, .null, .int 0, .int 0, .null, .null, .null, .int 0, .int 0, .null, .null, .null, .null, .null, .null, .int 0, .null, .null, .null, .null, .null])) := by rw [e110]; exact hu_s _ _ _
  have hkp : kp [mo] h h109 := by rw [e110]; exact kp_put hkp (by simp)
  refine lv_aload_n hx hb d_Mo_init_102 rfl (lv_at hl 0 rfl) ?_
  refine lv_sipush (v := 700) hx hb d_Mo_init_103 (by decide) ?_
  refine hm_newa (atype := .int) (ty := .int) (N' := 700) (a0 := (700, .inl (fun _ => 0))) hx hb (hts _ mw_405) rfl hK hH 2 (cA := (t 2)) rfl (hK.2 2 _ rfl).2 (fun _ => rfl) (by decide) (by decide) (by decide) (Nat.le_of_ble_eq_true rfl) (Nat.le_of_ble_eq_true rfl) d_Mo_init_106 (fun aEx H111 hq112 hn113 hH z114 => ?_)
  have hz : s.heap.size ≤ H111.size := by rw [z114]; exact Nat.le_succ_of_le hz
  obtain ⟨h115, e116⟩ : ∃ z, z = hu h109 aEx (.inl ((t 2), 700, .inl (fun _ => 0))) := ⟨_, rfl⟩
  have hH : hm D vwCl G h115 H111 := by rw [e116]; exact hH
  have nb_h_aEx : h aEx = none := kp_none hkp hn113 (nmc (Ne.symm (h_nf hn113 f_m)) nm0)
  have hkp : kp [mo] h h115 := by rw [e116]; exact kp_new hkp hn113
  have ne_mo_aEx : mo ≠ aEx := h_nf hn113 f_m
  have f_m : h115 mo = some (.inr (9, [.int 0, .int 0, .int 0, .ref aBy, .ref aSt, .ref aDe, .int 0, .int 0, .int 0, .ref aPa, .int 0, .ref aIt, .ref aId, .ref aPr, .ref aNa, .ref aSi, .ref aSe, .ref aIw, .null, .null, .int 0, .null, .int 0, .int 0, .null, .null, .null, .int 0, .int 0, .null, .null, .null, .null, .null, .null, .int 0, .null, .null, .null, .null, .null])) := by rw [e116, hu_n ne_mo_aEx]; exact f_m
  have ne_aBy_aEx : aBy ≠ aEx := h_nf hn113 f_aBy
  have f_aBy : h115 aBy = some (.inl ((t 0), 819200, .inl (fun _ => 0))) := by rw [e116, hu_n ne_aBy_aEx]; exact f_aBy
  have ne_aSt_aEx : aSt ≠ aEx := h_nf hn113 f_aSt
  have f_aSt : h115 aSt = some (.inl ((t 0), 400, .inl (fun _ => 0))) := by rw [e116, hu_n ne_aSt_aEx]; exact f_aSt
  have ne_aDe_aEx : aDe ≠ aEx := h_nf hn113 f_aDe
  have f_aDe : h115 aDe = some (.inl ((t 1), 200, .inl (fun _ => 0))) := by rw [e116, hu_n ne_aDe_aEx]; exact f_aDe
  have ne_aPa_aEx : aPa ≠ aEx := h_nf hn113 f_aPa
  have f_aPa : h115 aPa = some (.inl ((t 0), 2048, .inl (fun _ => 0))) := by rw [e116, hu_n ne_aPa_aEx]; exact f_aPa
  have ne_aIt_aEx : aIt ≠ aEx := h_nf hn113 f_aIt
  have f_aIt : h115 aIt = some (.inl ((t 1), 700, .inl (fun _ => 0))) := by rw [e116, hu_n ne_aIt_aEx]; exact f_aIt
  have ne_aId_aEx : aId ≠ aEx := h_nf hn113 f_aId
  have f_aId : h115 aId = some (.inl ((t 1), 700, .inl (fun _ => 0))) := by rw [e116, hu_n ne_aId_aEx]; exact f_aId
  have ne_aPr_aEx : aPr ≠ aEx := h_nf hn113 f_aPr
  have f_aPr : h115 aPr = some (.inl ((t 2), 700, .inl (fun _ => 0))) := by rw [e116, hu_n ne_aPr_aEx]; exact f_aPr
  have ne_aNa_aEx : aNa ≠ aEx := h_nf hn113 f_aNa
  have f_aNa : h115 aNa = some (.inl ((t 3), 700, .inr (.inl (fun _ => 0)))) := by rw [e116, hu_n ne_aNa_aEx]; exact f_aNa
  have ne_aSi_aEx : aSi ≠ aEx := h_nf hn113 f_aSi
  have f_aSi : h115 aSi = some (.inl ((t 2), 700, .inl (fun _ => 0))) := by rw [e116, hu_n ne_aSi_aEx]; exact f_aSi
  have ne_aSe_aEx : aSe ≠ aEx := h_nf hn113 f_aSe
  have f_aSe : h115 aSe = some (.inl ((t 2), 700, .inl (fun _ => 0))) := by rw [e116, hu_n ne_aSe_aEx]; exact f_aSe
  have ne_aIw_aEx : aIw ≠ aEx := h_nf hn113 f_aIw
  have f_aIw : h115 aIw = some (.inl ((t 1), 700, .inl (fun _ => 0))) := by rw [e116, hu_n ne_aIw_aEx]; exact f_aIw
  have f_aEx : h115 aEx = some (.inl ((t 2), 700, .inl (fun _ => 0))) := by rw [e116]; exact hu_s _ _ _
  refine hm_putF (ci := 9) (v := .ref aEx) (ty := (.array .int)) (C := R_Mo) (T := F_Mo) (N := 41) hx hb hts ig_Mo t_Mo tk_Mo nm_Mo hown hK hH hLo f_m rfl 18 (by decide) (hts _ mw_397) (fun _ h9 => h9) rfl hin rfl (by decide +kernel) rfl rfl (Nat.le_of_ble_eq_true rfl) d_Mo_init_108 (fun H117 locs hH z118 hLo => ?_)
  have hz : s.heap.size ≤ H117.size := by rw [z118]; exact hz
  obtain ⟨h119, e120⟩ : ∃ z, z = hu h115 mo (.inr (9, [.int 0, .int 0, .int 0, .ref aBy, .ref aSt, .ref aDe, .int 0, .int 0, .int 0, .ref aPa, .int 0, .ref aIt, .ref aId, .ref aPr, .ref aNa, .ref aSi, .ref aSe, .ref aIw, .ref aEx, .null, .int 0, .null, .int 0, .int 0, .null, .null, .null, .int 0, .int 0, .null, .null, .null, .null, .null, .null, .int 0, .null, .null, .null, .null, .null])) := ⟨_, rfl⟩
  have hH : hm D vwCl G h119 H117 := by rw [e120]; exact hH
  have f_aBy : h119 aBy = some (.inl ((t 0), 819200, .inl (fun _ => 0))) := by rw [e120, hu_n (Ne.symm ne_mo_aBy)]; exact f_aBy
  have f_aSt : h119 aSt = some (.inl ((t 0), 400, .inl (fun _ => 0))) := by rw [e120, hu_n (Ne.symm ne_mo_aSt)]; exact f_aSt
  have f_aDe : h119 aDe = some (.inl ((t 1), 200, .inl (fun _ => 0))) := by rw [e120, hu_n (Ne.symm ne_mo_aDe)]; exact f_aDe
  have f_aPa : h119 aPa = some (.inl ((t 0), 2048, .inl (fun _ => 0))) := by rw [e120, hu_n (Ne.symm ne_mo_aPa)]; exact f_aPa
  have f_aIt : h119 aIt = some (.inl ((t 1), 700, .inl (fun _ => 0))) := by rw [e120, hu_n (Ne.symm ne_mo_aIt)]; exact f_aIt
  have f_aId : h119 aId = some (.inl ((t 1), 700, .inl (fun _ => 0))) := by rw [e120, hu_n (Ne.symm ne_mo_aId)]; exact f_aId
  have f_aPr : h119 aPr = some (.inl ((t 2), 700, .inl (fun _ => 0))) := by rw [e120, hu_n (Ne.symm ne_mo_aPr)]; exact f_aPr
  have f_aNa : h119 aNa = some (.inl ((t 3), 700, .inr (.inl (fun _ => 0)))) := by rw [e120, hu_n (Ne.symm ne_mo_aNa)]; exact f_aNa
  have f_aSi : h119 aSi = some (.inl ((t 2), 700, .inl (fun _ => 0))) := by rw [e120, hu_n (Ne.symm ne_mo_aSi)]; exact f_aSi
  have f_aSe : h119 aSe = some (.inl ((t 2), 700, .inl (fun _ => 0))) := by rw [e120, hu_n (Ne.symm ne_mo_aSe)]; exact f_aSe
  have f_aIw : h119 aIw = some (.inl ((t 1), 700, .inl (fun _ => 0))) := by rw [e120, hu_n (Ne.symm ne_mo_aIw)]; exact f_aIw
  have f_aEx : h119 aEx = some (.inl ((t 2), 700, .inl (fun _ => 0))) := by rw [e120, hu_n (Ne.symm ne_mo_aEx)]; exact f_aEx
  have f_m : h119 mo = some (.inr (9, [.int 0, .int 0, .int 0, .ref aBy, .ref aSt, .ref aDe, .int 0, .int 0, .int 0, .ref aPa, .int 0, .ref aIt, .ref aId, .ref aPr, .ref aNa, .ref aSi, .ref aSe, .ref aIw, .ref aEx, .null, .int 0, .null, .int 0, .int 0, .null, .null, .null, .int 0, .int 0, .null, .null, .null, .null, .null, .null, .int 0, .null, .null, .null, .null, .null])) := by rw [e120]; exact hu_s _ _ _
  have hkp : kp [mo] h h119 := by rw [e120]; exact kp_put hkp (by simp)
  refine lv_aload_n hx hb d_Mo_init_111 rfl (lv_at hl 0 rfl) ?_
  refine lv_sipush (v := 700) hx hb d_Mo_init_112 (by decide) ?_
  refine hm_newa (atype := .int) (ty := .int) (N' := 700) (a0 := (700, .inl (fun _ => 0))) hx hb (hts _ mw_405) rfl hK hH 2 (cA := (t 2)) rfl (hK.2 2 _ rfl).2 (fun _ => rfl) (by decide) (by decide) (by decide) (Nat.le_of_ble_eq_true rfl) (Nat.le_of_ble_eq_true rfl) d_Mo_init_115 (fun aOl H121 hq122 hn123 hH z124 => ?_)
  have hz : s.heap.size ≤ H121.size := by rw [z124]; exact Nat.le_succ_of_le hz
  obtain ⟨h125, e126⟩ : ∃ z, z = hu h119 aOl (.inl ((t 2), 700, .inl (fun _ => 0))) := ⟨_, rfl⟩
  have hH : hm D vwCl G h125 H121 := by rw [e126]; exact hH
  have nb_h_aOl : h aOl = none := kp_none hkp hn123 (nmc (Ne.symm (h_nf hn123 f_m)) nm0)
  have hkp : kp [mo] h h125 := by rw [e126]; exact kp_new hkp hn123
  have ne_mo_aOl : mo ≠ aOl := h_nf hn123 f_m
  have f_m : h125 mo = some (.inr (9, [.int 0, .int 0, .int 0, .ref aBy, .ref aSt, .ref aDe, .int 0, .int 0, .int 0, .ref aPa, .int 0, .ref aIt, .ref aId, .ref aPr, .ref aNa, .ref aSi, .ref aSe, .ref aIw, .ref aEx, .null, .int 0, .null, .int 0, .int 0, .null, .null, .null, .int 0, .int 0, .null, .null, .null, .null, .null, .null, .int 0, .null, .null, .null, .null, .null])) := by rw [e126, hu_n ne_mo_aOl]; exact f_m
  have ne_aBy_aOl : aBy ≠ aOl := h_nf hn123 f_aBy
  have f_aBy : h125 aBy = some (.inl ((t 0), 819200, .inl (fun _ => 0))) := by rw [e126, hu_n ne_aBy_aOl]; exact f_aBy
  have ne_aSt_aOl : aSt ≠ aOl := h_nf hn123 f_aSt
  have f_aSt : h125 aSt = some (.inl ((t 0), 400, .inl (fun _ => 0))) := by rw [e126, hu_n ne_aSt_aOl]; exact f_aSt
  have ne_aDe_aOl : aDe ≠ aOl := h_nf hn123 f_aDe
  have f_aDe : h125 aDe = some (.inl ((t 1), 200, .inl (fun _ => 0))) := by rw [e126, hu_n ne_aDe_aOl]; exact f_aDe
  have ne_aPa_aOl : aPa ≠ aOl := h_nf hn123 f_aPa
  have f_aPa : h125 aPa = some (.inl ((t 0), 2048, .inl (fun _ => 0))) := by rw [e126, hu_n ne_aPa_aOl]; exact f_aPa
  have ne_aIt_aOl : aIt ≠ aOl := h_nf hn123 f_aIt
  have f_aIt : h125 aIt = some (.inl ((t 1), 700, .inl (fun _ => 0))) := by rw [e126, hu_n ne_aIt_aOl]; exact f_aIt
  have ne_aId_aOl : aId ≠ aOl := h_nf hn123 f_aId
  have f_aId : h125 aId = some (.inl ((t 1), 700, .inl (fun _ => 0))) := by rw [e126, hu_n ne_aId_aOl]; exact f_aId
  have ne_aPr_aOl : aPr ≠ aOl := h_nf hn123 f_aPr
  have f_aPr : h125 aPr = some (.inl ((t 2), 700, .inl (fun _ => 0))) := by rw [e126, hu_n ne_aPr_aOl]; exact f_aPr
  have ne_aNa_aOl : aNa ≠ aOl := h_nf hn123 f_aNa
  have f_aNa : h125 aNa = some (.inl ((t 3), 700, .inr (.inl (fun _ => 0)))) := by rw [e126, hu_n ne_aNa_aOl]; exact f_aNa
  have ne_aSi_aOl : aSi ≠ aOl := h_nf hn123 f_aSi
  have f_aSi : h125 aSi = some (.inl ((t 2), 700, .inl (fun _ => 0))) := by rw [e126, hu_n ne_aSi_aOl]; exact f_aSi
  have ne_aSe_aOl : aSe ≠ aOl := h_nf hn123 f_aSe
  have f_aSe : h125 aSe = some (.inl ((t 2), 700, .inl (fun _ => 0))) := by rw [e126, hu_n ne_aSe_aOl]; exact f_aSe
  have ne_aIw_aOl : aIw ≠ aOl := h_nf hn123 f_aIw
  have f_aIw : h125 aIw = some (.inl ((t 1), 700, .inl (fun _ => 0))) := by rw [e126, hu_n ne_aIw_aOl]; exact f_aIw
  have ne_aEx_aOl : aEx ≠ aOl := h_nf hn123 f_aEx
  have f_aEx : h125 aEx = some (.inl ((t 2), 700, .inl (fun _ => 0))) := by rw [e126, hu_n ne_aEx_aOl]; exact f_aEx
  have f_aOl : h125 aOl = some (.inl ((t 2), 700, .inl (fun _ => 0))) := by rw [e126]; exact hu_s _ _ _
  refine hm_putF (ci := 9) (v := .ref aOl) (ty := (.array .int)) (C := R_Mo) (T := F_Mo) (N := 41) hx hb hts ig_Mo t_Mo tk_Mo nm_Mo hown hK hH hLo f_m rfl 19 (by decide) (hts _ mw_408) (fun _ h9 => h9) rfl hin rfl (by decide +kernel) rfl rfl (Nat.le_of_ble_eq_true rfl) d_Mo_init_117 (fun H127 locs hH z128 hLo => ?_)
  have hz : s.heap.size ≤ H127.size := by rw [z128]; exact hz
  obtain ⟨h129, e130⟩ : ∃ z, z = hu h125 mo (.inr (9, [.int 0, .int 0, .int 0, .ref aBy, .ref aSt, .ref aDe, .int 0, .int 0, .int 0, .ref aPa, .int 0, .ref aIt, .ref aId, .ref aPr, .ref aNa, .ref aSi, .ref aSe, .ref aIw, .ref aEx, .ref aOl, .int 0, .null, .int 0, .int 0, .null, .null, .null, .int 0, .int 0, .null, .null, .null, .null, .null, .null, .int 0, .null, .null, .null, .null, .null])) := ⟨_, rfl⟩
  have hH : hm D vwCl G h129 H127 := by rw [e130]; exact hH
  have f_aBy : h129 aBy = some (.inl ((t 0), 819200, .inl (fun _ => 0))) := by rw [e130, hu_n (Ne.symm ne_mo_aBy)]; exact f_aBy
  have f_aSt : h129 aSt = some (.inl ((t 0), 400, .inl (fun _ => 0))) := by rw [e130, hu_n (Ne.symm ne_mo_aSt)]; exact f_aSt
  have f_aDe : h129 aDe = some (.inl ((t 1), 200, .inl (fun _ => 0))) := by rw [e130, hu_n (Ne.symm ne_mo_aDe)]; exact f_aDe
  have f_aPa : h129 aPa = some (.inl ((t 0), 2048, .inl (fun _ => 0))) := by rw [e130, hu_n (Ne.symm ne_mo_aPa)]; exact f_aPa
  have f_aIt : h129 aIt = some (.inl ((t 1), 700, .inl (fun _ => 0))) := by rw [e130, hu_n (Ne.symm ne_mo_aIt)]; exact f_aIt
  have f_aId : h129 aId = some (.inl ((t 1), 700, .inl (fun _ => 0))) := by rw [e130, hu_n (Ne.symm ne_mo_aId)]; exact f_aId
  have f_aPr : h129 aPr = some (.inl ((t 2), 700, .inl (fun _ => 0))) := by rw [e130, hu_n (Ne.symm ne_mo_aPr)]; exact f_aPr
  have f_aNa : h129 aNa = some (.inl ((t 3), 700, .inr (.inl (fun _ => 0)))) := by rw [e130, hu_n (Ne.symm ne_mo_aNa)]; exact f_aNa
  have f_aSi : h129 aSi = some (.inl ((t 2), 700, .inl (fun _ => 0))) := by rw [e130, hu_n (Ne.symm ne_mo_aSi)]; exact f_aSi
  have f_aSe : h129 aSe = some (.inl ((t 2), 700, .inl (fun _ => 0))) := by rw [e130, hu_n (Ne.symm ne_mo_aSe)]; exact f_aSe
  have f_aIw : h129 aIw = some (.inl ((t 1), 700, .inl (fun _ => 0))) := by rw [e130, hu_n (Ne.symm ne_mo_aIw)]; exact f_aIw
  have f_aEx : h129 aEx = some (.inl ((t 2), 700, .inl (fun _ => 0))) := by rw [e130, hu_n (Ne.symm ne_mo_aEx)]; exact f_aEx
  have f_aOl : h129 aOl = some (.inl ((t 2), 700, .inl (fun _ => 0))) := by rw [e130, hu_n (Ne.symm ne_mo_aOl)]; exact f_aOl
  have f_m : h129 mo = some (.inr (9, [.int 0, .int 0, .int 0, .ref aBy, .ref aSt, .ref aDe, .int 0, .int 0, .int 0, .ref aPa, .int 0, .ref aIt, .ref aId, .ref aPr, .ref aNa, .ref aSi, .ref aSe, .ref aIw, .ref aEx, .ref aOl, .int 0, .null, .int 0, .int 0, .null, .null, .null, .int 0, .int 0, .null, .null, .null, .null, .null, .null, .int 0, .null, .null, .null, .null, .null])) := by rw [e130]; exact hu_s _ _ _
  have hkp : kp [mo] h h129 := by rw [e130]; exact kp_put hkp (by simp)
  refine lv_aload_n hx hb d_Mo_init_120 rfl (lv_at hl 0 rfl) ?_
  refine lv_ldc (v := 163840) hx hb hown (hts _ mw_409) d_Mo_init_121 ?_
  refine hm_newa (atype := .byte) (ty := .byte) (N' := 163840) (a0 := (163840, .inl (fun _ => 0))) hx hb (hts _ mw_23) rfl hK hH 0 (cA := (t 0)) rfl (hK.2 0 _ rfl).2 (fun _ => rfl) (by decide) (by decide) (by decide) (Nat.le_of_ble_eq_true rfl) (Nat.le_of_ble_eq_true rfl) d_Mo_init_123 (fun aPl H131 hq132 hn133 hH z134 => ?_)
  have hz : s.heap.size ≤ H131.size := by rw [z134]; exact Nat.le_succ_of_le hz
  obtain ⟨h135, e136⟩ : ∃ z, z = hu h129 aPl (.inl ((t 0), 163840, .inl (fun _ => 0))) := ⟨_, rfl⟩
  have hH : hm D vwCl G h135 H131 := by rw [e136]; exact hH
  have nb_h_aPl : h aPl = none := kp_none hkp hn133 (nmc (Ne.symm (h_nf hn133 f_m)) nm0)
  have hkp : kp [mo] h h135 := by rw [e136]; exact kp_new hkp hn133
  have ne_mo_aPl : mo ≠ aPl := h_nf hn133 f_m
  have f_m : h135 mo = some (.inr (9, [.int 0, .int 0, .int 0, .ref aBy, .ref aSt, .ref aDe, .int 0, .int 0, .int 0, .ref aPa, .int 0, .ref aIt, .ref aId, .ref aPr, .ref aNa, .ref aSi, .ref aSe, .ref aIw, .ref aEx, .ref aOl, .int 0, .null, .int 0, .int 0, .null, .null, .null, .int 0, .int 0, .null, .null, .null, .null, .null, .null, .int 0, .null, .null, .null, .null, .null])) := by rw [e136, hu_n ne_mo_aPl]; exact f_m
  have ne_aBy_aPl : aBy ≠ aPl := h_nf hn133 f_aBy
  have f_aBy : h135 aBy = some (.inl ((t 0), 819200, .inl (fun _ => 0))) := by rw [e136, hu_n ne_aBy_aPl]; exact f_aBy
  have ne_aSt_aPl : aSt ≠ aPl := h_nf hn133 f_aSt
  have f_aSt : h135 aSt = some (.inl ((t 0), 400, .inl (fun _ => 0))) := by rw [e136, hu_n ne_aSt_aPl]; exact f_aSt
  have ne_aDe_aPl : aDe ≠ aPl := h_nf hn133 f_aDe
  have f_aDe : h135 aDe = some (.inl ((t 1), 200, .inl (fun _ => 0))) := by rw [e136, hu_n ne_aDe_aPl]; exact f_aDe
  have ne_aPa_aPl : aPa ≠ aPl := h_nf hn133 f_aPa
  have f_aPa : h135 aPa = some (.inl ((t 0), 2048, .inl (fun _ => 0))) := by rw [e136, hu_n ne_aPa_aPl]; exact f_aPa
  have ne_aIt_aPl : aIt ≠ aPl := h_nf hn133 f_aIt
  have f_aIt : h135 aIt = some (.inl ((t 1), 700, .inl (fun _ => 0))) := by rw [e136, hu_n ne_aIt_aPl]; exact f_aIt
  have ne_aId_aPl : aId ≠ aPl := h_nf hn133 f_aId
  have f_aId : h135 aId = some (.inl ((t 1), 700, .inl (fun _ => 0))) := by rw [e136, hu_n ne_aId_aPl]; exact f_aId
  have ne_aPr_aPl : aPr ≠ aPl := h_nf hn133 f_aPr
  have f_aPr : h135 aPr = some (.inl ((t 2), 700, .inl (fun _ => 0))) := by rw [e136, hu_n ne_aPr_aPl]; exact f_aPr
  have ne_aNa_aPl : aNa ≠ aPl := h_nf hn133 f_aNa
  have f_aNa : h135 aNa = some (.inl ((t 3), 700, .inr (.inl (fun _ => 0)))) := by rw [e136, hu_n ne_aNa_aPl]; exact f_aNa
  have ne_aSi_aPl : aSi ≠ aPl := h_nf hn133 f_aSi
  have f_aSi : h135 aSi = some (.inl ((t 2), 700, .inl (fun _ => 0))) := by rw [e136, hu_n ne_aSi_aPl]; exact f_aSi
  have ne_aSe_aPl : aSe ≠ aPl := h_nf hn133 f_aSe
  have f_aSe : h135 aSe = some (.inl ((t 2), 700, .inl (fun _ => 0))) := by rw [e136, hu_n ne_aSe_aPl]; exact f_aSe
  have ne_aIw_aPl : aIw ≠ aPl := h_nf hn133 f_aIw
  have f_aIw : h135 aIw = some (.inl ((t 1), 700, .inl (fun _ => 0))) := by rw [e136, hu_n ne_aIw_aPl]; exact f_aIw
  have ne_aEx_aPl : aEx ≠ aPl := h_nf hn133 f_aEx
  have f_aEx : h135 aEx = some (.inl ((t 2), 700, .inl (fun _ => 0))) := by rw [e136, hu_n ne_aEx_aPl]; exact f_aEx
  have ne_aOl_aPl : aOl ≠ aPl := h_nf hn133 f_aOl
  have f_aOl : h135 aOl = some (.inl ((t 2), 700, .inl (fun _ => 0))) := by rw [e136, hu_n ne_aOl_aPl]; exact f_aOl
  have f_aPl : h135 aPl = some (.inl ((t 0), 163840, .inl (fun _ => 0))) := by rw [e136]; exact hu_s _ _ _
  refine hm_putF (ci := 9) (v := .ref aPl) (ty := (.array .byte)) (C := R_Mo) (T := F_Mo) (N := 41) hx hb hts ig_Mo t_Mo tk_Mo nm_Mo hown hK hH hLo f_m rfl 21 (by decide) (hts _ mw_410) (fun _ h9 => h9) rfl hin rfl (by decide +kernel) rfl rfl (Nat.le_of_ble_eq_true rfl) d_Mo_init_125 (fun H137 locs hH z138 hLo => ?_)
  have hz : s.heap.size ≤ H137.size := by rw [z138]; exact hz
  obtain ⟨h139, e140⟩ : ∃ z, z = hu h135 mo (.inr (9, [.int 0, .int 0, .int 0, .ref aBy, .ref aSt, .ref aDe, .int 0, .int 0, .int 0, .ref aPa, .int 0, .ref aIt, .ref aId, .ref aPr, .ref aNa, .ref aSi, .ref aSe, .ref aIw, .ref aEx, .ref aOl, .int 0, .ref aPl, .int 0, .int 0, .null, .null, .null, .int 0, .int 0, .null, .null, .null, .null, .null, .null, .int 0, .null, .null, .null, .null, .null])) := ⟨_, rfl⟩
  have hH : hm D vwCl G h139 H137 := by rw [e140]; exact hH
  have f_aBy : h139 aBy = some (.inl ((t 0), 819200, .inl (fun _ => 0))) := by rw [e140, hu_n (Ne.symm ne_mo_aBy)]; exact f_aBy
  have f_aSt : h139 aSt = some (.inl ((t 0), 400, .inl (fun _ => 0))) := by rw [e140, hu_n (Ne.symm ne_mo_aSt)]; exact f_aSt
  have f_aDe : h139 aDe = some (.inl ((t 1), 200, .inl (fun _ => 0))) := by rw [e140, hu_n (Ne.symm ne_mo_aDe)]; exact f_aDe
  have f_aPa : h139 aPa = some (.inl ((t 0), 2048, .inl (fun _ => 0))) := by rw [e140, hu_n (Ne.symm ne_mo_aPa)]; exact f_aPa
  have f_aIt : h139 aIt = some (.inl ((t 1), 700, .inl (fun _ => 0))) := by rw [e140, hu_n (Ne.symm ne_mo_aIt)]; exact f_aIt
  have f_aId : h139 aId = some (.inl ((t 1), 700, .inl (fun _ => 0))) := by rw [e140, hu_n (Ne.symm ne_mo_aId)]; exact f_aId
  have f_aPr : h139 aPr = some (.inl ((t 2), 700, .inl (fun _ => 0))) := by rw [e140, hu_n (Ne.symm ne_mo_aPr)]; exact f_aPr
  have f_aNa : h139 aNa = some (.inl ((t 3), 700, .inr (.inl (fun _ => 0)))) := by rw [e140, hu_n (Ne.symm ne_mo_aNa)]; exact f_aNa
  have f_aSi : h139 aSi = some (.inl ((t 2), 700, .inl (fun _ => 0))) := by rw [e140, hu_n (Ne.symm ne_mo_aSi)]; exact f_aSi
  have f_aSe : h139 aSe = some (.inl ((t 2), 700, .inl (fun _ => 0))) := by rw [e140, hu_n (Ne.symm ne_mo_aSe)]; exact f_aSe
  have f_aIw : h139 aIw = some (.inl ((t 1), 700, .inl (fun _ => 0))) := by rw [e140, hu_n (Ne.symm ne_mo_aIw)]; exact f_aIw
  have f_aEx : h139 aEx = some (.inl ((t 2), 700, .inl (fun _ => 0))) := by rw [e140, hu_n (Ne.symm ne_mo_aEx)]; exact f_aEx
  have f_aOl : h139 aOl = some (.inl ((t 2), 700, .inl (fun _ => 0))) := by rw [e140, hu_n (Ne.symm ne_mo_aOl)]; exact f_aOl
  have f_aPl : h139 aPl = some (.inl ((t 0), 163840, .inl (fun _ => 0))) := by rw [e140, hu_n (Ne.symm ne_mo_aPl)]; exact f_aPl
  have f_m : h139 mo = some (.inr (9, [.int 0, .int 0, .int 0, .ref aBy, .ref aSt, .ref aDe, .int 0, .int 0, .int 0, .ref aPa, .int 0, .ref aIt, .ref aId, .ref aPr, .ref aNa, .ref aSi, .ref aSe, .ref aIw, .ref aEx, .ref aOl, .int 0, .ref aPl, .int 0, .int 0, .null, .null, .null, .int 0, .int 0, .null, .null, .null, .null, .null, .null, .int 0, .null, .null, .null, .null, .null])) := by rw [e140]; exact hu_s _ _ _
  have hkp : kp [mo] h h139 := by rw [e140]; exact kp_put hkp (by simp)
  refine lv_aload_n hx hb d_Mo_init_128 rfl (lv_at hl 0 rfl) ?_
  refine lv_bipush (v := 30) hx hb d_Mo_init_129 (by decide) ?_
  refine hm_newa (atype := .int) (ty := .int) (N' := 30) (a0 := (30, .inl (fun _ => 0))) hx hb (hts _ mw_405) rfl hK hH 2 (cA := (t 2)) rfl (hK.2 2 _ rfl).2 (fun _ => rfl) (by decide) (by decide) (by decide) (Nat.le_of_ble_eq_true rfl) (Nat.le_of_ble_eq_true rfl) d_Mo_init_131 (fun aTa H141 hq142 hn143 hH z144 => ?_)
  have hz : s.heap.size ≤ H141.size := by rw [z144]; exact Nat.le_succ_of_le hz
  obtain ⟨h145, e146⟩ : ∃ z, z = hu h139 aTa (.inl ((t 2), 30, .inl (fun _ => 0))) := ⟨_, rfl⟩
  have hH : hm D vwCl G h145 H141 := by rw [e146]; exact hH
  have nb_h_aTa : h aTa = none := kp_none hkp hn143 (nmc (Ne.symm (h_nf hn143 f_m)) nm0)
  have hkp : kp [mo] h h145 := by rw [e146]; exact kp_new hkp hn143
  have ne_mo_aTa : mo ≠ aTa := h_nf hn143 f_m
  have f_m : h145 mo = some (.inr (9, [.int 0, .int 0, .int 0, .ref aBy, .ref aSt, .ref aDe, .int 0, .int 0, .int 0, .ref aPa, .int 0, .ref aIt, .ref aId, .ref aPr, .ref aNa, .ref aSi, .ref aSe, .ref aIw, .ref aEx, .ref aOl, .int 0, .ref aPl, .int 0, .int 0, .null, .null, .null, .int 0, .int 0, .null, .null, .null, .null, .null, .null, .int 0, .null, .null, .null, .null, .null])) := by rw [e146, hu_n ne_mo_aTa]; exact f_m
  have ne_aBy_aTa : aBy ≠ aTa := h_nf hn143 f_aBy
  have f_aBy : h145 aBy = some (.inl ((t 0), 819200, .inl (fun _ => 0))) := by rw [e146, hu_n ne_aBy_aTa]; exact f_aBy
  have ne_aSt_aTa : aSt ≠ aTa := h_nf hn143 f_aSt
  have f_aSt : h145 aSt = some (.inl ((t 0), 400, .inl (fun _ => 0))) := by rw [e146, hu_n ne_aSt_aTa]; exact f_aSt
  have ne_aDe_aTa : aDe ≠ aTa := h_nf hn143 f_aDe
  have f_aDe : h145 aDe = some (.inl ((t 1), 200, .inl (fun _ => 0))) := by rw [e146, hu_n ne_aDe_aTa]; exact f_aDe
  have ne_aPa_aTa : aPa ≠ aTa := h_nf hn143 f_aPa
  have f_aPa : h145 aPa = some (.inl ((t 0), 2048, .inl (fun _ => 0))) := by rw [e146, hu_n ne_aPa_aTa]; exact f_aPa
  have ne_aIt_aTa : aIt ≠ aTa := h_nf hn143 f_aIt
  have f_aIt : h145 aIt = some (.inl ((t 1), 700, .inl (fun _ => 0))) := by rw [e146, hu_n ne_aIt_aTa]; exact f_aIt
  have ne_aId_aTa : aId ≠ aTa := h_nf hn143 f_aId
  have f_aId : h145 aId = some (.inl ((t 1), 700, .inl (fun _ => 0))) := by rw [e146, hu_n ne_aId_aTa]; exact f_aId
  have ne_aPr_aTa : aPr ≠ aTa := h_nf hn143 f_aPr
  have f_aPr : h145 aPr = some (.inl ((t 2), 700, .inl (fun _ => 0))) := by rw [e146, hu_n ne_aPr_aTa]; exact f_aPr
  have ne_aNa_aTa : aNa ≠ aTa := h_nf hn143 f_aNa
  have f_aNa : h145 aNa = some (.inl ((t 3), 700, .inr (.inl (fun _ => 0)))) := by rw [e146, hu_n ne_aNa_aTa]; exact f_aNa
  have ne_aSi_aTa : aSi ≠ aTa := h_nf hn143 f_aSi
  have f_aSi : h145 aSi = some (.inl ((t 2), 700, .inl (fun _ => 0))) := by rw [e146, hu_n ne_aSi_aTa]; exact f_aSi
  have ne_aSe_aTa : aSe ≠ aTa := h_nf hn143 f_aSe
  have f_aSe : h145 aSe = some (.inl ((t 2), 700, .inl (fun _ => 0))) := by rw [e146, hu_n ne_aSe_aTa]; exact f_aSe
  have ne_aIw_aTa : aIw ≠ aTa := h_nf hn143 f_aIw
  have f_aIw : h145 aIw = some (.inl ((t 1), 700, .inl (fun _ => 0))) := by rw [e146, hu_n ne_aIw_aTa]; exact f_aIw
  have ne_aEx_aTa : aEx ≠ aTa := h_nf hn143 f_aEx
  have f_aEx : h145 aEx = some (.inl ((t 2), 700, .inl (fun _ => 0))) := by rw [e146, hu_n ne_aEx_aTa]; exact f_aEx
  have ne_aOl_aTa : aOl ≠ aTa := h_nf hn143 f_aOl
  have f_aOl : h145 aOl = some (.inl ((t 2), 700, .inl (fun _ => 0))) := by rw [e146, hu_n ne_aOl_aTa]; exact f_aOl
  have ne_aPl_aTa : aPl ≠ aTa := h_nf hn143 f_aPl
  have f_aPl : h145 aPl = some (.inl ((t 0), 163840, .inl (fun _ => 0))) := by rw [e146, hu_n ne_aPl_aTa]; exact f_aPl
  have f_aTa : h145 aTa = some (.inl ((t 2), 30, .inl (fun _ => 0))) := by rw [e146]; exact hu_s _ _ _
  refine hm_putF (ci := 9) (v := .ref aTa) (ty := (.array .int)) (C := R_Mo) (T := F_Mo) (N := 41) hx hb hts ig_Mo t_Mo tk_Mo nm_Mo hown hK hH hLo f_m rfl 24 (by decide) (hts _ mw_411) (fun _ h9 => h9) rfl hin rfl (by decide +kernel) rfl rfl (Nat.le_of_ble_eq_true rfl) d_Mo_init_133 (fun H147 locs hH z148 hLo => ?_)
  have hz : s.heap.size ≤ H147.size := by rw [z148]; exact hz
  obtain ⟨h149, e150⟩ : ∃ z, z = hu h145 mo (.inr (9, [.int 0, .int 0, .int 0, .ref aBy, .ref aSt, .ref aDe, .int 0, .int 0, .int 0, .ref aPa, .int 0, .ref aIt, .ref aId, .ref aPr, .ref aNa, .ref aSi, .ref aSe, .ref aIw, .ref aEx, .ref aOl, .int 0, .ref aPl, .int 0, .int 0, .ref aTa, .null, .null, .int 0, .int 0, .null, .null, .null, .null, .null, .null, .int 0, .null, .null, .null, .null, .null])) := ⟨_, rfl⟩
  have hH : hm D vwCl G h149 H147 := by rw [e150]; exact hH
  have f_aBy : h149 aBy = some (.inl ((t 0), 819200, .inl (fun _ => 0))) := by rw [e150, hu_n (Ne.symm ne_mo_aBy)]; exact f_aBy
  have f_aSt : h149 aSt = some (.inl ((t 0), 400, .inl (fun _ => 0))) := by rw [e150, hu_n (Ne.symm ne_mo_aSt)]; exact f_aSt
  have f_aDe : h149 aDe = some (.inl ((t 1), 200, .inl (fun _ => 0))) := by rw [e150, hu_n (Ne.symm ne_mo_aDe)]; exact f_aDe
  have f_aPa : h149 aPa = some (.inl ((t 0), 2048, .inl (fun _ => 0))) := by rw [e150, hu_n (Ne.symm ne_mo_aPa)]; exact f_aPa
  have f_aIt : h149 aIt = some (.inl ((t 1), 700, .inl (fun _ => 0))) := by rw [e150, hu_n (Ne.symm ne_mo_aIt)]; exact f_aIt
  have f_aId : h149 aId = some (.inl ((t 1), 700, .inl (fun _ => 0))) := by rw [e150, hu_n (Ne.symm ne_mo_aId)]; exact f_aId
  have f_aPr : h149 aPr = some (.inl ((t 2), 700, .inl (fun _ => 0))) := by rw [e150, hu_n (Ne.symm ne_mo_aPr)]; exact f_aPr
  have f_aNa : h149 aNa = some (.inl ((t 3), 700, .inr (.inl (fun _ => 0)))) := by rw [e150, hu_n (Ne.symm ne_mo_aNa)]; exact f_aNa
  have f_aSi : h149 aSi = some (.inl ((t 2), 700, .inl (fun _ => 0))) := by rw [e150, hu_n (Ne.symm ne_mo_aSi)]; exact f_aSi
  have f_aSe : h149 aSe = some (.inl ((t 2), 700, .inl (fun _ => 0))) := by rw [e150, hu_n (Ne.symm ne_mo_aSe)]; exact f_aSe
  have f_aIw : h149 aIw = some (.inl ((t 1), 700, .inl (fun _ => 0))) := by rw [e150, hu_n (Ne.symm ne_mo_aIw)]; exact f_aIw
  have f_aEx : h149 aEx = some (.inl ((t 2), 700, .inl (fun _ => 0))) := by rw [e150, hu_n (Ne.symm ne_mo_aEx)]; exact f_aEx
  have f_aOl : h149 aOl = some (.inl ((t 2), 700, .inl (fun _ => 0))) := by rw [e150, hu_n (Ne.symm ne_mo_aOl)]; exact f_aOl
  have f_aPl : h149 aPl = some (.inl ((t 0), 163840, .inl (fun _ => 0))) := by rw [e150, hu_n (Ne.symm ne_mo_aPl)]; exact f_aPl
  have f_aTa : h149 aTa = some (.inl ((t 2), 30, .inl (fun _ => 0))) := by rw [e150, hu_n (Ne.symm ne_mo_aTa)]; exact f_aTa
  have f_m : h149 mo = some (.inr (9, [.int 0, .int 0, .int 0, .ref aBy, .ref aSt, .ref aDe, .int 0, .int 0, .int 0, .ref aPa, .int 0, .ref aIt, .ref aId, .ref aPr, .ref aNa, .ref aSi, .ref aSe, .ref aIw, .ref aEx, .ref aOl, .int 0, .ref aPl, .int 0, .int 0, .ref aTa, .null, .null, .int 0, .int 0, .null, .null, .null, .null, .null, .null, .int 0, .null, .null, .null, .null, .null])) := by rw [e150]; exact hu_s _ _ _
  have hkp : kp [mo] h h149 := by rw [e150]; exact kp_put hkp (by simp)
  refine lv_aload_n hx hb d_Mo_init_136 rfl (lv_at hl 0 rfl) ?_
  refine lv_sipush (v := 700) hx hb d_Mo_init_137 (by decide) ?_
  refine hm_newa (atype := .int) (ty := .int) (N' := 700) (a0 := (700, .inl (fun _ => 0))) hx hb (hts _ mw_405) rfl hK hH 2 (cA := (t 2)) rfl (hK.2 2 _ rfl).2 (fun _ => rfl) (by decide) (by decide) (by decide) (Nat.le_of_ble_eq_true rfl) (Nat.le_of_ble_eq_true rfl) d_Mo_init_140 (fun aAt H151 hq152 hn153 hH z154 => ?_)
  have hz : s.heap.size ≤ H151.size := by rw [z154]; exact Nat.le_succ_of_le hz
  obtain ⟨h155, e156⟩ : ∃ z, z = hu h149 aAt (.inl ((t 2), 700, .inl (fun _ => 0))) := ⟨_, rfl⟩
  have hH : hm D vwCl G h155 H151 := by rw [e156]; exact hH
  have nb_h_aAt : h aAt = none := kp_none hkp hn153 (nmc (Ne.symm (h_nf hn153 f_m)) nm0)
  have hkp : kp [mo] h h155 := by rw [e156]; exact kp_new hkp hn153
  have ne_mo_aAt : mo ≠ aAt := h_nf hn153 f_m
  have f_m : h155 mo = some (.inr (9, [.int 0, .int 0, .int 0, .ref aBy, .ref aSt, .ref aDe, .int 0, .int 0, .int 0, .ref aPa, .int 0, .ref aIt, .ref aId, .ref aPr, .ref aNa, .ref aSi, .ref aSe, .ref aIw, .ref aEx, .ref aOl, .int 0, .ref aPl, .int 0, .int 0, .ref aTa, .null, .null, .int 0, .int 0, .null, .null, .null, .null, .null, .null, .int 0, .null, .null, .null, .null, .null])) := by rw [e156, hu_n ne_mo_aAt]; exact f_m
  have ne_aBy_aAt : aBy ≠ aAt := h_nf hn153 f_aBy
  have f_aBy : h155 aBy = some (.inl ((t 0), 819200, .inl (fun _ => 0))) := by rw [e156, hu_n ne_aBy_aAt]; exact f_aBy
  have ne_aSt_aAt : aSt ≠ aAt := h_nf hn153 f_aSt
  have f_aSt : h155 aSt = some (.inl ((t 0), 400, .inl (fun _ => 0))) := by rw [e156, hu_n ne_aSt_aAt]; exact f_aSt
  have ne_aDe_aAt : aDe ≠ aAt := h_nf hn153 f_aDe
  have f_aDe : h155 aDe = some (.inl ((t 1), 200, .inl (fun _ => 0))) := by rw [e156, hu_n ne_aDe_aAt]; exact f_aDe
  have ne_aPa_aAt : aPa ≠ aAt := h_nf hn153 f_aPa
  have f_aPa : h155 aPa = some (.inl ((t 0), 2048, .inl (fun _ => 0))) := by rw [e156, hu_n ne_aPa_aAt]; exact f_aPa
  have ne_aIt_aAt : aIt ≠ aAt := h_nf hn153 f_aIt
  have f_aIt : h155 aIt = some (.inl ((t 1), 700, .inl (fun _ => 0))) := by rw [e156, hu_n ne_aIt_aAt]; exact f_aIt
  have ne_aId_aAt : aId ≠ aAt := h_nf hn153 f_aId
  have f_aId : h155 aId = some (.inl ((t 1), 700, .inl (fun _ => 0))) := by rw [e156, hu_n ne_aId_aAt]; exact f_aId
  have ne_aPr_aAt : aPr ≠ aAt := h_nf hn153 f_aPr
  have f_aPr : h155 aPr = some (.inl ((t 2), 700, .inl (fun _ => 0))) := by rw [e156, hu_n ne_aPr_aAt]; exact f_aPr
  have ne_aNa_aAt : aNa ≠ aAt := h_nf hn153 f_aNa
  have f_aNa : h155 aNa = some (.inl ((t 3), 700, .inr (.inl (fun _ => 0)))) := by rw [e156, hu_n ne_aNa_aAt]; exact f_aNa
  have ne_aSi_aAt : aSi ≠ aAt := h_nf hn153 f_aSi
  have f_aSi : h155 aSi = some (.inl ((t 2), 700, .inl (fun _ => 0))) := by rw [e156, hu_n ne_aSi_aAt]; exact f_aSi
  have ne_aSe_aAt : aSe ≠ aAt := h_nf hn153 f_aSe
  have f_aSe : h155 aSe = some (.inl ((t 2), 700, .inl (fun _ => 0))) := by rw [e156, hu_n ne_aSe_aAt]; exact f_aSe
  have ne_aIw_aAt : aIw ≠ aAt := h_nf hn153 f_aIw
  have f_aIw : h155 aIw = some (.inl ((t 1), 700, .inl (fun _ => 0))) := by rw [e156, hu_n ne_aIw_aAt]; exact f_aIw
  have ne_aEx_aAt : aEx ≠ aAt := h_nf hn153 f_aEx
  have f_aEx : h155 aEx = some (.inl ((t 2), 700, .inl (fun _ => 0))) := by rw [e156, hu_n ne_aEx_aAt]; exact f_aEx
  have ne_aOl_aAt : aOl ≠ aAt := h_nf hn153 f_aOl
  have f_aOl : h155 aOl = some (.inl ((t 2), 700, .inl (fun _ => 0))) := by rw [e156, hu_n ne_aOl_aAt]; exact f_aOl
  have ne_aPl_aAt : aPl ≠ aAt := h_nf hn153 f_aPl
  have f_aPl : h155 aPl = some (.inl ((t 0), 163840, .inl (fun _ => 0))) := by rw [e156, hu_n ne_aPl_aAt]; exact f_aPl
  have ne_aTa_aAt : aTa ≠ aAt := h_nf hn153 f_aTa
  have f_aTa : h155 aTa = some (.inl ((t 2), 30, .inl (fun _ => 0))) := by rw [e156, hu_n ne_aTa_aAt]; exact f_aTa
  have f_aAt : h155 aAt = some (.inl ((t 2), 700, .inl (fun _ => 0))) := by rw [e156]; exact hu_s _ _ _
  refine hm_putF (ci := 9) (v := .ref aAt) (ty := (.array .int)) (C := R_Mo) (T := F_Mo) (N := 41) hx hb hts ig_Mo t_Mo tk_Mo nm_Mo hown hK hH hLo f_m rfl 25 (by decide) (hts _ mw_412) (fun _ h9 => h9) rfl hin rfl (by decide +kernel) rfl rfl (Nat.le_of_ble_eq_true rfl) d_Mo_init_142 (fun H157 locs hH z158 hLo => ?_)
  have hz : s.heap.size ≤ H157.size := by rw [z158]; exact hz
  obtain ⟨h159, e160⟩ : ∃ z, z = hu h155 mo (.inr (9, [.int 0, .int 0, .int 0, .ref aBy, .ref aSt, .ref aDe, .int 0, .int 0, .int 0, .ref aPa, .int 0, .ref aIt, .ref aId, .ref aPr, .ref aNa, .ref aSi, .ref aSe, .ref aIw, .ref aEx, .ref aOl, .int 0, .ref aPl, .int 0, .int 0, .ref aTa, .ref aAt, .null, .int 0, .int 0, .null, .null, .null, .null, .null, .null, .int 0, .null, .null, .null, .null, .null])) := ⟨_, rfl⟩
  have hH : hm D vwCl G h159 H157 := by rw [e160]; exact hH
  have f_aBy : h159 aBy = some (.inl ((t 0), 819200, .inl (fun _ => 0))) := by rw [e160, hu_n (Ne.symm ne_mo_aBy)]; exact f_aBy
  have f_aSt : h159 aSt = some (.inl ((t 0), 400, .inl (fun _ => 0))) := by rw [e160, hu_n (Ne.symm ne_mo_aSt)]; exact f_aSt
  have f_aDe : h159 aDe = some (.inl ((t 1), 200, .inl (fun _ => 0))) := by rw [e160, hu_n (Ne.symm ne_mo_aDe)]; exact f_aDe
  have f_aPa : h159 aPa = some (.inl ((t 0), 2048, .inl (fun _ => 0))) := by rw [e160, hu_n (Ne.symm ne_mo_aPa)]; exact f_aPa
  have f_aIt : h159 aIt = some (.inl ((t 1), 700, .inl (fun _ => 0))) := by rw [e160, hu_n (Ne.symm ne_mo_aIt)]; exact f_aIt
  have f_aId : h159 aId = some (.inl ((t 1), 700, .inl (fun _ => 0))) := by rw [e160, hu_n (Ne.symm ne_mo_aId)]; exact f_aId
  have f_aPr : h159 aPr = some (.inl ((t 2), 700, .inl (fun _ => 0))) := by rw [e160, hu_n (Ne.symm ne_mo_aPr)]; exact f_aPr
  have f_aNa : h159 aNa = some (.inl ((t 3), 700, .inr (.inl (fun _ => 0)))) := by rw [e160, hu_n (Ne.symm ne_mo_aNa)]; exact f_aNa
  have f_aSi : h159 aSi = some (.inl ((t 2), 700, .inl (fun _ => 0))) := by rw [e160, hu_n (Ne.symm ne_mo_aSi)]; exact f_aSi
  have f_aSe : h159 aSe = some (.inl ((t 2), 700, .inl (fun _ => 0))) := by rw [e160, hu_n (Ne.symm ne_mo_aSe)]; exact f_aSe
  have f_aIw : h159 aIw = some (.inl ((t 1), 700, .inl (fun _ => 0))) := by rw [e160, hu_n (Ne.symm ne_mo_aIw)]; exact f_aIw
  have f_aEx : h159 aEx = some (.inl ((t 2), 700, .inl (fun _ => 0))) := by rw [e160, hu_n (Ne.symm ne_mo_aEx)]; exact f_aEx
  have f_aOl : h159 aOl = some (.inl ((t 2), 700, .inl (fun _ => 0))) := by rw [e160, hu_n (Ne.symm ne_mo_aOl)]; exact f_aOl
  have f_aPl : h159 aPl = some (.inl ((t 0), 163840, .inl (fun _ => 0))) := by rw [e160, hu_n (Ne.symm ne_mo_aPl)]; exact f_aPl
  have f_aTa : h159 aTa = some (.inl ((t 2), 30, .inl (fun _ => 0))) := by rw [e160, hu_n (Ne.symm ne_mo_aTa)]; exact f_aTa
  have f_aAt : h159 aAt = some (.inl ((t 2), 700, .inl (fun _ => 0))) := by rw [e160, hu_n (Ne.symm ne_mo_aAt)]; exact f_aAt
  have f_m : h159 mo = some (.inr (9, [.int 0, .int 0, .int 0, .ref aBy, .ref aSt, .ref aDe, .int 0, .int 0, .int 0, .ref aPa, .int 0, .ref aIt, .ref aId, .ref aPr, .ref aNa, .ref aSi, .ref aSe, .ref aIw, .ref aEx, .ref aOl, .int 0, .ref aPl, .int 0, .int 0, .ref aTa, .ref aAt, .null, .int 0, .int 0, .null, .null, .null, .null, .null, .null, .int 0, .null, .null, .null, .null, .null])) := by rw [e160]; exact hu_s _ _ _
  have hkp : kp [mo] h h159 := by rw [e160]; exact kp_put hkp (by simp)
  refine lv_aload_n hx hb d_Mo_init_145 rfl (lv_at hl 0 rfl) ?_
  refine lv_sipush (v := 700) hx hb d_Mo_init_146 (by decide) ?_
  refine hm_newa (atype := .int) (ty := .int) (N' := 700) (a0 := (700, .inl (fun _ => 0))) hx hb (hts _ mw_405) rfl hK hH 2 (cA := (t 2)) rfl (hK.2 2 _ rfl).2 (fun _ => rfl) (by decide) (by decide) (by decide) (Nat.le_of_ble_eq_true rfl) (Nat.le_of_ble_eq_true rfl) d_Mo_init_149 (fun aLo H161 hq162 hn163 hH z164 => ?_)
  have hz : s.heap.size ≤ H161.size := by rw [z164]; exact Nat.le_succ_of_le hz
  obtain ⟨h165, e166⟩ : ∃ z, z = hu h159 aLo (.inl ((t 2), 700, .inl (fun _ => 0))) := ⟨_, rfl⟩
  have hH : hm D vwCl G h165 H161 := by rw [e166]; exact hH
  have nb_h_aLo : h aLo = none := kp_none hkp hn163 (nmc (Ne.symm (h_nf hn163 f_m)) nm0)
  have hkp : kp [mo] h h165 := by rw [e166]; exact kp_new hkp hn163
  have ne_mo_aLo : mo ≠ aLo := h_nf hn163 f_m
  have f_m : h165 mo = some (.inr (9, [.int 0, .int 0, .int 0, .ref aBy, .ref aSt, .ref aDe, .int 0, .int 0, .int 0, .ref aPa, .int 0, .ref aIt, .ref aId, .ref aPr, .ref aNa, .ref aSi, .ref aSe, .ref aIw, .ref aEx, .ref aOl, .int 0, .ref aPl, .int 0, .int 0, .ref aTa, .ref aAt, .null, .int 0, .int 0, .null, .null, .null, .null, .null, .null, .int 0, .null, .null, .null, .null, .null])) := by rw [e166, hu_n ne_mo_aLo]; exact f_m
  have ne_aBy_aLo : aBy ≠ aLo := h_nf hn163 f_aBy
  have f_aBy : h165 aBy = some (.inl ((t 0), 819200, .inl (fun _ => 0))) := by rw [e166, hu_n ne_aBy_aLo]; exact f_aBy
  have ne_aSt_aLo : aSt ≠ aLo := h_nf hn163 f_aSt
  have f_aSt : h165 aSt = some (.inl ((t 0), 400, .inl (fun _ => 0))) := by rw [e166, hu_n ne_aSt_aLo]; exact f_aSt
  have ne_aDe_aLo : aDe ≠ aLo := h_nf hn163 f_aDe
  have f_aDe : h165 aDe = some (.inl ((t 1), 200, .inl (fun _ => 0))) := by rw [e166, hu_n ne_aDe_aLo]; exact f_aDe
  have ne_aPa_aLo : aPa ≠ aLo := h_nf hn163 f_aPa
  have f_aPa : h165 aPa = some (.inl ((t 0), 2048, .inl (fun _ => 0))) := by rw [e166, hu_n ne_aPa_aLo]; exact f_aPa
  have ne_aIt_aLo : aIt ≠ aLo := h_nf hn163 f_aIt
  have f_aIt : h165 aIt = some (.inl ((t 1), 700, .inl (fun _ => 0))) := by rw [e166, hu_n ne_aIt_aLo]; exact f_aIt
  have ne_aId_aLo : aId ≠ aLo := h_nf hn163 f_aId
  have f_aId : h165 aId = some (.inl ((t 1), 700, .inl (fun _ => 0))) := by rw [e166, hu_n ne_aId_aLo]; exact f_aId
  have ne_aPr_aLo : aPr ≠ aLo := h_nf hn163 f_aPr
  have f_aPr : h165 aPr = some (.inl ((t 2), 700, .inl (fun _ => 0))) := by rw [e166, hu_n ne_aPr_aLo]; exact f_aPr
  have ne_aNa_aLo : aNa ≠ aLo := h_nf hn163 f_aNa
  have f_aNa : h165 aNa = some (.inl ((t 3), 700, .inr (.inl (fun _ => 0)))) := by rw [e166, hu_n ne_aNa_aLo]; exact f_aNa
  have ne_aSi_aLo : aSi ≠ aLo := h_nf hn163 f_aSi
  have f_aSi : h165 aSi = some (.inl ((t 2), 700, .inl (fun _ => 0))) := by rw [e166, hu_n ne_aSi_aLo]; exact f_aSi
  have ne_aSe_aLo : aSe ≠ aLo := h_nf hn163 f_aSe
  have f_aSe : h165 aSe = some (.inl ((t 2), 700, .inl (fun _ => 0))) := by rw [e166, hu_n ne_aSe_aLo]; exact f_aSe
  have ne_aIw_aLo : aIw ≠ aLo := h_nf hn163 f_aIw
  have f_aIw : h165 aIw = some (.inl ((t 1), 700, .inl (fun _ => 0))) := by rw [e166, hu_n ne_aIw_aLo]; exact f_aIw
  have ne_aEx_aLo : aEx ≠ aLo := h_nf hn163 f_aEx
  have f_aEx : h165 aEx = some (.inl ((t 2), 700, .inl (fun _ => 0))) := by rw [e166, hu_n ne_aEx_aLo]; exact f_aEx
  have ne_aOl_aLo : aOl ≠ aLo := h_nf hn163 f_aOl
  have f_aOl : h165 aOl = some (.inl ((t 2), 700, .inl (fun _ => 0))) := by rw [e166, hu_n ne_aOl_aLo]; exact f_aOl
  have ne_aPl_aLo : aPl ≠ aLo := h_nf hn163 f_aPl
  have f_aPl : h165 aPl = some (.inl ((t 0), 163840, .inl (fun _ => 0))) := by rw [e166, hu_n ne_aPl_aLo]; exact f_aPl
  have ne_aTa_aLo : aTa ≠ aLo := h_nf hn163 f_aTa
  have f_aTa : h165 aTa = some (.inl ((t 2), 30, .inl (fun _ => 0))) := by rw [e166, hu_n ne_aTa_aLo]; exact f_aTa
  have ne_aAt_aLo : aAt ≠ aLo := h_nf hn163 f_aAt
  have f_aAt : h165 aAt = some (.inl ((t 2), 700, .inl (fun _ => 0))) := by rw [e166, hu_n ne_aAt_aLo]; exact f_aAt
  have f_aLo : h165 aLo = some (.inl ((t 2), 700, .inl (fun _ => 0))) := by rw [e166]; exact hu_s _ _ _
  refine hm_putF (ci := 9) (v := .ref aLo) (ty := (.array .int)) (C := R_Mo) (T := F_Mo) (N := 41) hx hb hts ig_Mo t_Mo tk_Mo nm_Mo hown hK hH hLo f_m rfl 26 (by decide) (hts _ mw_413) (fun _ h9 => h9) rfl hin rfl (by decide +kernel) rfl rfl (Nat.le_of_ble_eq_true rfl) d_Mo_init_151 (fun H167 locs hH z168 hLo => ?_)
  have hz : s.heap.size ≤ H167.size := by rw [z168]; exact hz
  obtain ⟨h169, e170⟩ : ∃ z, z = hu h165 mo (.inr (9, [.int 0, .int 0, .int 0, .ref aBy, .ref aSt, .ref aDe, .int 0, .int 0, .int 0, .ref aPa, .int 0, .ref aIt, .ref aId, .ref aPr, .ref aNa, .ref aSi, .ref aSe, .ref aIw, .ref aEx, .ref aOl, .int 0, .ref aPl, .int 0, .int 0, .ref aTa, .ref aAt, .ref aLo, .int 0, .int 0, .null, .null, .null, .null, .null, .null, .int 0, .null, .null, .null, .null, .null])) := ⟨_, rfl⟩
  have hH : hm D vwCl G h169 H167 := by rw [e170]; exact hH
  have f_aBy : h169 aBy = some (.inl ((t 0), 819200, .inl (fun _ => 0))) := by rw [e170, hu_n (Ne.symm ne_mo_aBy)]; exact f_aBy
  have f_aSt : h169 aSt = some (.inl ((t 0), 400, .inl (fun _ => 0))) := by rw [e170, hu_n (Ne.symm ne_mo_aSt)]; exact f_aSt
  have f_aDe : h169 aDe = some (.inl ((t 1), 200, .inl (fun _ => 0))) := by rw [e170, hu_n (Ne.symm ne_mo_aDe)]; exact f_aDe
  have f_aPa : h169 aPa = some (.inl ((t 0), 2048, .inl (fun _ => 0))) := by rw [e170, hu_n (Ne.symm ne_mo_aPa)]; exact f_aPa
  have f_aIt : h169 aIt = some (.inl ((t 1), 700, .inl (fun _ => 0))) := by rw [e170, hu_n (Ne.symm ne_mo_aIt)]; exact f_aIt
  have f_aId : h169 aId = some (.inl ((t 1), 700, .inl (fun _ => 0))) := by rw [e170, hu_n (Ne.symm ne_mo_aId)]; exact f_aId
  have f_aPr : h169 aPr = some (.inl ((t 2), 700, .inl (fun _ => 0))) := by rw [e170, hu_n (Ne.symm ne_mo_aPr)]; exact f_aPr
  have f_aNa : h169 aNa = some (.inl ((t 3), 700, .inr (.inl (fun _ => 0)))) := by rw [e170, hu_n (Ne.symm ne_mo_aNa)]; exact f_aNa
  have f_aSi : h169 aSi = some (.inl ((t 2), 700, .inl (fun _ => 0))) := by rw [e170, hu_n (Ne.symm ne_mo_aSi)]; exact f_aSi
  have f_aSe : h169 aSe = some (.inl ((t 2), 700, .inl (fun _ => 0))) := by rw [e170, hu_n (Ne.symm ne_mo_aSe)]; exact f_aSe
  have f_aIw : h169 aIw = some (.inl ((t 1), 700, .inl (fun _ => 0))) := by rw [e170, hu_n (Ne.symm ne_mo_aIw)]; exact f_aIw
  have f_aEx : h169 aEx = some (.inl ((t 2), 700, .inl (fun _ => 0))) := by rw [e170, hu_n (Ne.symm ne_mo_aEx)]; exact f_aEx
  have f_aOl : h169 aOl = some (.inl ((t 2), 700, .inl (fun _ => 0))) := by rw [e170, hu_n (Ne.symm ne_mo_aOl)]; exact f_aOl
  have f_aPl : h169 aPl = some (.inl ((t 0), 163840, .inl (fun _ => 0))) := by rw [e170, hu_n (Ne.symm ne_mo_aPl)]; exact f_aPl
  have f_aTa : h169 aTa = some (.inl ((t 2), 30, .inl (fun _ => 0))) := by rw [e170, hu_n (Ne.symm ne_mo_aTa)]; exact f_aTa
  have f_aAt : h169 aAt = some (.inl ((t 2), 700, .inl (fun _ => 0))) := by rw [e170, hu_n (Ne.symm ne_mo_aAt)]; exact f_aAt
  have f_aLo : h169 aLo = some (.inl ((t 2), 700, .inl (fun _ => 0))) := by rw [e170, hu_n (Ne.symm ne_mo_aLo)]; exact f_aLo
  have f_m : h169 mo = some (.inr (9, [.int 0, .int 0, .int 0, .ref aBy, .ref aSt, .ref aDe, .int 0, .int 0, .int 0, .ref aPa, .int 0, .ref aIt, .ref aId, .ref aPr, .ref aNa, .ref aSi, .ref aSe, .ref aIw, .ref aEx, .ref aOl, .int 0, .ref aPl, .int 0, .int 0, .ref aTa, .ref aAt, .ref aLo, .int 0, .int 0, .null, .null, .null, .null, .null, .null, .int 0, .null, .null, .null, .null, .null])) := by rw [e170]; exact hu_s _ _ _
  have hkp : kp [mo] h h169 := by rw [e170]; exact kp_put hkp (by simp)
  refine lv_aload_n hx hb d_Mo_init_154 rfl (lv_at hl 0 rfl) ?_
  refine lv_bipush (v := 31) hx hb d_Mo_init_155 (by decide) ?_
  refine hm_newa (atype := .int) (ty := .int) (N' := 31) (a0 := (31, .inl (fun _ => 0))) hx hb (hts _ mw_405) rfl hK hH 2 (cA := (t 2)) rfl (hK.2 2 _ rfl).2 (fun _ => rfl) (by decide) (by decide) (by decide) (Nat.le_of_ble_eq_true rfl) (Nat.le_of_ble_eq_true rfl) d_Mo_init_157 (fun aS1 H171 hq172 hn173 hH z174 => ?_)
  have hz : s.heap.size ≤ H171.size := by rw [z174]; exact Nat.le_succ_of_le hz
  obtain ⟨h175, e176⟩ : ∃ z, z = hu h169 aS1 (.inl ((t 2), 31, .inl (fun _ => 0))) := ⟨_, rfl⟩
  have hH : hm D vwCl G h175 H171 := by rw [e176]; exact hH
  have nb_h_aS1 : h aS1 = none := kp_none hkp hn173 (nmc (Ne.symm (h_nf hn173 f_m)) nm0)
  have hkp : kp [mo] h h175 := by rw [e176]; exact kp_new hkp hn173
  have ne_mo_aS1 : mo ≠ aS1 := h_nf hn173 f_m
  have f_m : h175 mo = some (.inr (9, [.int 0, .int 0, .int 0, .ref aBy, .ref aSt, .ref aDe, .int 0, .int 0, .int 0, .ref aPa, .int 0, .ref aIt, .ref aId, .ref aPr, .ref aNa, .ref aSi, .ref aSe, .ref aIw, .ref aEx, .ref aOl, .int 0, .ref aPl, .int 0, .int 0, .ref aTa, .ref aAt, .ref aLo, .int 0, .int 0, .null, .null, .null, .null, .null, .null, .int 0, .null, .null, .null, .null, .null])) := by rw [e176, hu_n ne_mo_aS1]; exact f_m
  have ne_aBy_aS1 : aBy ≠ aS1 := h_nf hn173 f_aBy
  have f_aBy : h175 aBy = some (.inl ((t 0), 819200, .inl (fun _ => 0))) := by rw [e176, hu_n ne_aBy_aS1]; exact f_aBy
  have ne_aSt_aS1 : aSt ≠ aS1 := h_nf hn173 f_aSt
  have f_aSt : h175 aSt = some (.inl ((t 0), 400, .inl (fun _ => 0))) := by rw [e176, hu_n ne_aSt_aS1]; exact f_aSt
  have ne_aDe_aS1 : aDe ≠ aS1 := h_nf hn173 f_aDe
  have f_aDe : h175 aDe = some (.inl ((t 1), 200, .inl (fun _ => 0))) := by rw [e176, hu_n ne_aDe_aS1]; exact f_aDe
  have ne_aPa_aS1 : aPa ≠ aS1 := h_nf hn173 f_aPa
  have f_aPa : h175 aPa = some (.inl ((t 0), 2048, .inl (fun _ => 0))) := by rw [e176, hu_n ne_aPa_aS1]; exact f_aPa
  have ne_aIt_aS1 : aIt ≠ aS1 := h_nf hn173 f_aIt
  have f_aIt : h175 aIt = some (.inl ((t 1), 700, .inl (fun _ => 0))) := by rw [e176, hu_n ne_aIt_aS1]; exact f_aIt
  have ne_aId_aS1 : aId ≠ aS1 := h_nf hn173 f_aId
  have f_aId : h175 aId = some (.inl ((t 1), 700, .inl (fun _ => 0))) := by rw [e176, hu_n ne_aId_aS1]; exact f_aId
  have ne_aPr_aS1 : aPr ≠ aS1 := h_nf hn173 f_aPr
  have f_aPr : h175 aPr = some (.inl ((t 2), 700, .inl (fun _ => 0))) := by rw [e176, hu_n ne_aPr_aS1]; exact f_aPr
  have ne_aNa_aS1 : aNa ≠ aS1 := h_nf hn173 f_aNa
  have f_aNa : h175 aNa = some (.inl ((t 3), 700, .inr (.inl (fun _ => 0)))) := by rw [e176, hu_n ne_aNa_aS1]; exact f_aNa
  have ne_aSi_aS1 : aSi ≠ aS1 := h_nf hn173 f_aSi
  have f_aSi : h175 aSi = some (.inl ((t 2), 700, .inl (fun _ => 0))) := by rw [e176, hu_n ne_aSi_aS1]; exact f_aSi
  have ne_aSe_aS1 : aSe ≠ aS1 := h_nf hn173 f_aSe
  have f_aSe : h175 aSe = some (.inl ((t 2), 700, .inl (fun _ => 0))) := by rw [e176, hu_n ne_aSe_aS1]; exact f_aSe
  have ne_aIw_aS1 : aIw ≠ aS1 := h_nf hn173 f_aIw
  have f_aIw : h175 aIw = some (.inl ((t 1), 700, .inl (fun _ => 0))) := by rw [e176, hu_n ne_aIw_aS1]; exact f_aIw
  have ne_aEx_aS1 : aEx ≠ aS1 := h_nf hn173 f_aEx
  have f_aEx : h175 aEx = some (.inl ((t 2), 700, .inl (fun _ => 0))) := by rw [e176, hu_n ne_aEx_aS1]; exact f_aEx
  have ne_aOl_aS1 : aOl ≠ aS1 := h_nf hn173 f_aOl
  have f_aOl : h175 aOl = some (.inl ((t 2), 700, .inl (fun _ => 0))) := by rw [e176, hu_n ne_aOl_aS1]; exact f_aOl
  have ne_aPl_aS1 : aPl ≠ aS1 := h_nf hn173 f_aPl
  have f_aPl : h175 aPl = some (.inl ((t 0), 163840, .inl (fun _ => 0))) := by rw [e176, hu_n ne_aPl_aS1]; exact f_aPl
  have ne_aTa_aS1 : aTa ≠ aS1 := h_nf hn173 f_aTa
  have f_aTa : h175 aTa = some (.inl ((t 2), 30, .inl (fun _ => 0))) := by rw [e176, hu_n ne_aTa_aS1]; exact f_aTa
  have ne_aAt_aS1 : aAt ≠ aS1 := h_nf hn173 f_aAt
  have f_aAt : h175 aAt = some (.inl ((t 2), 700, .inl (fun _ => 0))) := by rw [e176, hu_n ne_aAt_aS1]; exact f_aAt
  have ne_aLo_aS1 : aLo ≠ aS1 := h_nf hn173 f_aLo
  have f_aLo : h175 aLo = some (.inl ((t 2), 700, .inl (fun _ => 0))) := by rw [e176, hu_n ne_aLo_aS1]; exact f_aLo
  have f_aS1 : h175 aS1 = some (.inl ((t 2), 31, .inl (fun _ => 0))) := by rw [e176]; exact hu_s _ _ _
  refine hm_putF (ci := 9) (v := .ref aS1) (ty := (.array .int)) (C := R_Mo) (T := F_Mo) (N := 41) hx hb hts ig_Mo t_Mo tk_Mo nm_Mo hown hK hH hLo f_m rfl 29 (by decide) (hts _ mw_414) (fun _ h9 => h9) rfl hin rfl (by decide +kernel) rfl rfl (Nat.le_of_ble_eq_true rfl) d_Mo_init_159 (fun H177 locs hH z178 hLo => ?_)
  have hz : s.heap.size ≤ H177.size := by rw [z178]; exact hz
  obtain ⟨h179, e180⟩ : ∃ z, z = hu h175 mo (.inr (9, [.int 0, .int 0, .int 0, .ref aBy, .ref aSt, .ref aDe, .int 0, .int 0, .int 0, .ref aPa, .int 0, .ref aIt, .ref aId, .ref aPr, .ref aNa, .ref aSi, .ref aSe, .ref aIw, .ref aEx, .ref aOl, .int 0, .ref aPl, .int 0, .int 0, .ref aTa, .ref aAt, .ref aLo, .int 0, .int 0, .ref aS1, .null, .null, .null, .null, .null, .int 0, .null, .null, .null, .null, .null])) := ⟨_, rfl⟩
  have hH : hm D vwCl G h179 H177 := by rw [e180]; exact hH
  have f_aBy : h179 aBy = some (.inl ((t 0), 819200, .inl (fun _ => 0))) := by rw [e180, hu_n (Ne.symm ne_mo_aBy)]; exact f_aBy
  have f_aSt : h179 aSt = some (.inl ((t 0), 400, .inl (fun _ => 0))) := by rw [e180, hu_n (Ne.symm ne_mo_aSt)]; exact f_aSt
  have f_aDe : h179 aDe = some (.inl ((t 1), 200, .inl (fun _ => 0))) := by rw [e180, hu_n (Ne.symm ne_mo_aDe)]; exact f_aDe
  have f_aPa : h179 aPa = some (.inl ((t 0), 2048, .inl (fun _ => 0))) := by rw [e180, hu_n (Ne.symm ne_mo_aPa)]; exact f_aPa
  have f_aIt : h179 aIt = some (.inl ((t 1), 700, .inl (fun _ => 0))) := by rw [e180, hu_n (Ne.symm ne_mo_aIt)]; exact f_aIt
  have f_aId : h179 aId = some (.inl ((t 1), 700, .inl (fun _ => 0))) := by rw [e180, hu_n (Ne.symm ne_mo_aId)]; exact f_aId
  have f_aPr : h179 aPr = some (.inl ((t 2), 700, .inl (fun _ => 0))) := by rw [e180, hu_n (Ne.symm ne_mo_aPr)]; exact f_aPr
  have f_aNa : h179 aNa = some (.inl ((t 3), 700, .inr (.inl (fun _ => 0)))) := by rw [e180, hu_n (Ne.symm ne_mo_aNa)]; exact f_aNa
  have f_aSi : h179 aSi = some (.inl ((t 2), 700, .inl (fun _ => 0))) := by rw [e180, hu_n (Ne.symm ne_mo_aSi)]; exact f_aSi
  have f_aSe : h179 aSe = some (.inl ((t 2), 700, .inl (fun _ => 0))) := by rw [e180, hu_n (Ne.symm ne_mo_aSe)]; exact f_aSe
  have f_aIw : h179 aIw = some (.inl ((t 1), 700, .inl (fun _ => 0))) := by rw [e180, hu_n (Ne.symm ne_mo_aIw)]; exact f_aIw
  have f_aEx : h179 aEx = some (.inl ((t 2), 700, .inl (fun _ => 0))) := by rw [e180, hu_n (Ne.symm ne_mo_aEx)]; exact f_aEx
  have f_aOl : h179 aOl = some (.inl ((t 2), 700, .inl (fun _ => 0))) := by rw [e180, hu_n (Ne.symm ne_mo_aOl)]; exact f_aOl
  have f_aPl : h179 aPl = some (.inl ((t 0), 163840, .inl (fun _ => 0))) := by rw [e180, hu_n (Ne.symm ne_mo_aPl)]; exact f_aPl
  have f_aTa : h179 aTa = some (.inl ((t 2), 30, .inl (fun _ => 0))) := by rw [e180, hu_n (Ne.symm ne_mo_aTa)]; exact f_aTa
  have f_aAt : h179 aAt = some (.inl ((t 2), 700, .inl (fun _ => 0))) := by rw [e180, hu_n (Ne.symm ne_mo_aAt)]; exact f_aAt
  have f_aLo : h179 aLo = some (.inl ((t 2), 700, .inl (fun _ => 0))) := by rw [e180, hu_n (Ne.symm ne_mo_aLo)]; exact f_aLo
  have f_aS1 : h179 aS1 = some (.inl ((t 2), 31, .inl (fun _ => 0))) := by rw [e180, hu_n (Ne.symm ne_mo_aS1)]; exact f_aS1
  have f_m : h179 mo = some (.inr (9, [.int 0, .int 0, .int 0, .ref aBy, .ref aSt, .ref aDe, .int 0, .int 0, .int 0, .ref aPa, .int 0, .ref aIt, .ref aId, .ref aPr, .ref aNa, .ref aSi, .ref aSe, .ref aIw, .ref aEx, .ref aOl, .int 0, .ref aPl, .int 0, .int 0, .ref aTa, .ref aAt, .ref aLo, .int 0, .int 0, .ref aS1, .null, .null, .null, .null, .null, .int 0, .null, .null, .null, .null, .null])) := by rw [e180]; exact hu_s _ _ _
  have hkp : kp [mo] h h179 := by rw [e180]; exact kp_put hkp (by simp)
  refine lv_aload_n hx hb d_Mo_init_162 rfl (lv_at hl 0 rfl) ?_
  refine lv_bipush (v := 31) hx hb d_Mo_init_163 (by decide) ?_
  refine hm_newa (atype := .boolean) (ty := .boolean) (N' := 31) (a0 := (31, .inl (fun _ => 0))) hx hb (hts _ mw_402) rfl hK hH 1 (cA := (t 1)) rfl (hK.2 1 _ rfl).2 (fun _ => rfl) (by decide) (by decide) (by decide) (Nat.le_of_ble_eq_true rfl) (Nat.le_of_ble_eq_true rfl) d_Mo_init_165 (fun aS2 H181 hq182 hn183 hH z184 => ?_)
  have hz : s.heap.size ≤ H181.size := by rw [z184]; exact Nat.le_succ_of_le hz
  obtain ⟨h185, e186⟩ : ∃ z, z = hu h179 aS2 (.inl ((t 1), 31, .inl (fun _ => 0))) := ⟨_, rfl⟩
  have hH : hm D vwCl G h185 H181 := by rw [e186]; exact hH
  have nb_h_aS2 : h aS2 = none := kp_none hkp hn183 (nmc (Ne.symm (h_nf hn183 f_m)) nm0)
  have hkp : kp [mo] h h185 := by rw [e186]; exact kp_new hkp hn183
  have ne_mo_aS2 : mo ≠ aS2 := h_nf hn183 f_m
  have f_m : h185 mo = some (.inr (9, [.int 0, .int 0, .int 0, .ref aBy, .ref aSt, .ref aDe, .int 0, .int 0, .int 0, .ref aPa, .int 0, .ref aIt, .ref aId, .ref aPr, .ref aNa, .ref aSi, .ref aSe, .ref aIw, .ref aEx, .ref aOl, .int 0, .ref aPl, .int 0, .int 0, .ref aTa, .ref aAt, .ref aLo, .int 0, .int 0, .ref aS1, .null, .null, .null, .null, .null, .int 0, .null, .null, .null, .null, .null])) := by rw [e186, hu_n ne_mo_aS2]; exact f_m
  have ne_aBy_aS2 : aBy ≠ aS2 := h_nf hn183 f_aBy
  have f_aBy : h185 aBy = some (.inl ((t 0), 819200, .inl (fun _ => 0))) := by rw [e186, hu_n ne_aBy_aS2]; exact f_aBy
  have ne_aSt_aS2 : aSt ≠ aS2 := h_nf hn183 f_aSt
  have f_aSt : h185 aSt = some (.inl ((t 0), 400, .inl (fun _ => 0))) := by rw [e186, hu_n ne_aSt_aS2]; exact f_aSt
  have ne_aDe_aS2 : aDe ≠ aS2 := h_nf hn183 f_aDe
  have f_aDe : h185 aDe = some (.inl ((t 1), 200, .inl (fun _ => 0))) := by rw [e186, hu_n ne_aDe_aS2]; exact f_aDe
  have ne_aPa_aS2 : aPa ≠ aS2 := h_nf hn183 f_aPa
  have f_aPa : h185 aPa = some (.inl ((t 0), 2048, .inl (fun _ => 0))) := by rw [e186, hu_n ne_aPa_aS2]; exact f_aPa
  have ne_aIt_aS2 : aIt ≠ aS2 := h_nf hn183 f_aIt
  have f_aIt : h185 aIt = some (.inl ((t 1), 700, .inl (fun _ => 0))) := by rw [e186, hu_n ne_aIt_aS2]; exact f_aIt
  have ne_aId_aS2 : aId ≠ aS2 := h_nf hn183 f_aId
  have f_aId : h185 aId = some (.inl ((t 1), 700, .inl (fun _ => 0))) := by rw [e186, hu_n ne_aId_aS2]; exact f_aId
  have ne_aPr_aS2 : aPr ≠ aS2 := h_nf hn183 f_aPr
  have f_aPr : h185 aPr = some (.inl ((t 2), 700, .inl (fun _ => 0))) := by rw [e186, hu_n ne_aPr_aS2]; exact f_aPr
  have ne_aNa_aS2 : aNa ≠ aS2 := h_nf hn183 f_aNa
  have f_aNa : h185 aNa = some (.inl ((t 3), 700, .inr (.inl (fun _ => 0)))) := by rw [e186, hu_n ne_aNa_aS2]; exact f_aNa
  have ne_aSi_aS2 : aSi ≠ aS2 := h_nf hn183 f_aSi
  have f_aSi : h185 aSi = some (.inl ((t 2), 700, .inl (fun _ => 0))) := by rw [e186, hu_n ne_aSi_aS2]; exact f_aSi
  have ne_aSe_aS2 : aSe ≠ aS2 := h_nf hn183 f_aSe
  have f_aSe : h185 aSe = some (.inl ((t 2), 700, .inl (fun _ => 0))) := by rw [e186, hu_n ne_aSe_aS2]; exact f_aSe
  have ne_aIw_aS2 : aIw ≠ aS2 := h_nf hn183 f_aIw
  have f_aIw : h185 aIw = some (.inl ((t 1), 700, .inl (fun _ => 0))) := by rw [e186, hu_n ne_aIw_aS2]; exact f_aIw
  have ne_aEx_aS2 : aEx ≠ aS2 := h_nf hn183 f_aEx
  have f_aEx : h185 aEx = some (.inl ((t 2), 700, .inl (fun _ => 0))) := by rw [e186, hu_n ne_aEx_aS2]; exact f_aEx
  have ne_aOl_aS2 : aOl ≠ aS2 := h_nf hn183 f_aOl
  have f_aOl : h185 aOl = some (.inl ((t 2), 700, .inl (fun _ => 0))) := by rw [e186, hu_n ne_aOl_aS2]; exact f_aOl
  have ne_aPl_aS2 : aPl ≠ aS2 := h_nf hn183 f_aPl
  have f_aPl : h185 aPl = some (.inl ((t 0), 163840, .inl (fun _ => 0))) := by rw [e186, hu_n ne_aPl_aS2]; exact f_aPl
  have ne_aTa_aS2 : aTa ≠ aS2 := h_nf hn183 f_aTa
  have f_aTa : h185 aTa = some (.inl ((t 2), 30, .inl (fun _ => 0))) := by rw [e186, hu_n ne_aTa_aS2]; exact f_aTa
  have ne_aAt_aS2 : aAt ≠ aS2 := h_nf hn183 f_aAt
  have f_aAt : h185 aAt = some (.inl ((t 2), 700, .inl (fun _ => 0))) := by rw [e186, hu_n ne_aAt_aS2]; exact f_aAt
  have ne_aLo_aS2 : aLo ≠ aS2 := h_nf hn183 f_aLo
  have f_aLo : h185 aLo = some (.inl ((t 2), 700, .inl (fun _ => 0))) := by rw [e186, hu_n ne_aLo_aS2]; exact f_aLo
  have f_aS2 : h185 aS2 = some (.inl ((t 1), 31, .inl (fun _ => 0))) := by rw [e186]; exact hu_s _ _ _
  refine hm_putF (ci := 9) (v := .ref aS2) (ty := (.array .boolean)) (C := R_Mo) (T := F_Mo) (N := 41) hx hb hts ig_Mo t_Mo tk_Mo nm_Mo hown hK hH hLo f_m rfl 30 (by decide) (hts _ mw_415) (fun _ h9 => h9) rfl hin rfl (by decide +kernel) rfl rfl (Nat.le_of_ble_eq_true rfl) d_Mo_init_167 (fun H187 locs hH z188 hLo => ?_)
  have hz : s.heap.size ≤ H187.size := by rw [z188]; exact hz
  obtain ⟨h189, e190⟩ : ∃ z, z = hu h185 mo (.inr (9, [.int 0, .int 0, .int 0, .ref aBy, .ref aSt, .ref aDe, .int 0, .int 0, .int 0, .ref aPa, .int 0, .ref aIt, .ref aId, .ref aPr, .ref aNa, .ref aSi, .ref aSe, .ref aIw, .ref aEx, .ref aOl, .int 0, .ref aPl, .int 0, .int 0, .ref aTa, .ref aAt, .ref aLo, .int 0, .int 0, .ref aS1, .ref aS2, .null, .null, .null, .null, .int 0, .null, .null, .null, .null, .null])) := ⟨_, rfl⟩
  have hH : hm D vwCl G h189 H187 := by rw [e190]; exact hH
  have f_aBy : h189 aBy = some (.inl ((t 0), 819200, .inl (fun _ => 0))) := by rw [e190, hu_n (Ne.symm ne_mo_aBy)]; exact f_aBy
  have f_aSt : h189 aSt = some (.inl ((t 0), 400, .inl (fun _ => 0))) := by rw [e190, hu_n (Ne.symm ne_mo_aSt)]; exact f_aSt
  have f_aDe : h189 aDe = some (.inl ((t 1), 200, .inl (fun _ => 0))) := by rw [e190, hu_n (Ne.symm ne_mo_aDe)]; exact f_aDe
  have f_aPa : h189 aPa = some (.inl ((t 0), 2048, .inl (fun _ => 0))) := by rw [e190, hu_n (Ne.symm ne_mo_aPa)]; exact f_aPa
  have f_aIt : h189 aIt = some (.inl ((t 1), 700, .inl (fun _ => 0))) := by rw [e190, hu_n (Ne.symm ne_mo_aIt)]; exact f_aIt
  have f_aId : h189 aId = some (.inl ((t 1), 700, .inl (fun _ => 0))) := by rw [e190, hu_n (Ne.symm ne_mo_aId)]; exact f_aId
  have f_aPr : h189 aPr = some (.inl ((t 2), 700, .inl (fun _ => 0))) := by rw [e190, hu_n (Ne.symm ne_mo_aPr)]; exact f_aPr
  have f_aNa : h189 aNa = some (.inl ((t 3), 700, .inr (.inl (fun _ => 0)))) := by rw [e190, hu_n (Ne.symm ne_mo_aNa)]; exact f_aNa
  have f_aSi : h189 aSi = some (.inl ((t 2), 700, .inl (fun _ => 0))) := by rw [e190, hu_n (Ne.symm ne_mo_aSi)]; exact f_aSi
  have f_aSe : h189 aSe = some (.inl ((t 2), 700, .inl (fun _ => 0))) := by rw [e190, hu_n (Ne.symm ne_mo_aSe)]; exact f_aSe
  have f_aIw : h189 aIw = some (.inl ((t 1), 700, .inl (fun _ => 0))) := by rw [e190, hu_n (Ne.symm ne_mo_aIw)]; exact f_aIw
  have f_aEx : h189 aEx = some (.inl ((t 2), 700, .inl (fun _ => 0))) := by rw [e190, hu_n (Ne.symm ne_mo_aEx)]; exact f_aEx
  have f_aOl : h189 aOl = some (.inl ((t 2), 700, .inl (fun _ => 0))) := by rw [e190, hu_n (Ne.symm ne_mo_aOl)]; exact f_aOl
  have f_aPl : h189 aPl = some (.inl ((t 0), 163840, .inl (fun _ => 0))) := by rw [e190, hu_n (Ne.symm ne_mo_aPl)]; exact f_aPl
  have f_aTa : h189 aTa = some (.inl ((t 2), 30, .inl (fun _ => 0))) := by rw [e190, hu_n (Ne.symm ne_mo_aTa)]; exact f_aTa
  have f_aAt : h189 aAt = some (.inl ((t 2), 700, .inl (fun _ => 0))) := by rw [e190, hu_n (Ne.symm ne_mo_aAt)]; exact f_aAt
  have f_aLo : h189 aLo = some (.inl ((t 2), 700, .inl (fun _ => 0))) := by rw [e190, hu_n (Ne.symm ne_mo_aLo)]; exact f_aLo
  have f_aS2 : h189 aS2 = some (.inl ((t 1), 31, .inl (fun _ => 0))) := by rw [e190, hu_n (Ne.symm ne_mo_aS2)]; exact f_aS2
  have f_m : h189 mo = some (.inr (9, [.int 0, .int 0, .int 0, .ref aBy, .ref aSt, .ref aDe, .int 0, .int 0, .int 0, .ref aPa, .int 0, .ref aIt, .ref aId, .ref aPr, .ref aNa, .ref aSi, .ref aSe, .ref aIw, .ref aEx, .ref aOl, .int 0, .ref aPl, .int 0, .int 0, .ref aTa, .ref aAt, .ref aLo, .int 0, .int 0, .ref aS1, .ref aS2, .null, .null, .null, .null, .int 0, .null, .null, .null, .null, .null])) := by rw [e190]; exact hu_s _ _ _
  have hkp : kp [mo] h h189 := by rw [e190]; exact kp_put hkp (by simp)
  refine lv_aload_n hx hb d_Mo_init_170 rfl (lv_at hl 0 rfl) ?_
  refine lv_bipush (v := 31) hx hb d_Mo_init_171 (by decide) ?_
  refine hm_newa (atype := .int) (ty := .int) (N' := 31) (a0 := (31, .inl (fun _ => 0))) hx hb (hts _ mw_405) rfl hK hH 2 (cA := (t 2)) rfl (hK.2 2 _ rfl).2 (fun _ => rfl) (by decide) (by decide) (by decide) (Nat.le_of_ble_eq_true rfl) (Nat.le_of_ble_eq_true rfl) d_Mo_init_173 (fun aS3 H191 hq192 hn193 hH z194 => ?_)
  have hz : s.heap.size ≤ H191.size := by rw [z194]; exact Nat.le_succ_of_le hz
  obtain ⟨h195, e196⟩ : ∃ z, z = hu h189 aS3 (.inl ((t 2), 31, .inl (fun _ => 0))) := ⟨_, rfl⟩
  have hH : hm D vwCl G h195 H191 := by rw [e196]; exact hH
  have nb_h_aS3 : h aS3 = none := kp_none hkp hn193 (nmc (Ne.symm (h_nf hn193 f_m)) nm0)
  have hkp : kp [mo] h h195 := by rw [e196]; exact kp_new hkp hn193
  have ne_mo_aS3 : mo ≠ aS3 := h_nf hn193 f_m
  have f_m : h195 mo = some (.inr (9, [.int 0, .int 0, .int 0, .ref aBy, .ref aSt, .ref aDe, .int 0, .int 0, .int 0, .ref aPa, .int 0, .ref aIt, .ref aId, .ref aPr, .ref aNa, .ref aSi, .ref aSe, .ref aIw, .ref aEx, .ref aOl, .int 0, .ref aPl, .int 0, .int 0, .ref aTa, .ref aAt, .ref aLo, .int 0, .int 0, .ref aS1, .ref aS2, .null, .null, .null, .null, .int 0, .null, .null, .null, .null, .null])) := by rw [e196, hu_n ne_mo_aS3]; exact f_m
  have ne_aBy_aS3 : aBy ≠ aS3 := h_nf hn193 f_aBy
  have f_aBy : h195 aBy = some (.inl ((t 0), 819200, .inl (fun _ => 0))) := by rw [e196, hu_n ne_aBy_aS3]; exact f_aBy
  have ne_aSt_aS3 : aSt ≠ aS3 := h_nf hn193 f_aSt
  have f_aSt : h195 aSt = some (.inl ((t 0), 400, .inl (fun _ => 0))) := by rw [e196, hu_n ne_aSt_aS3]; exact f_aSt
  have ne_aDe_aS3 : aDe ≠ aS3 := h_nf hn193 f_aDe
  have f_aDe : h195 aDe = some (.inl ((t 1), 200, .inl (fun _ => 0))) := by rw [e196, hu_n ne_aDe_aS3]; exact f_aDe
  have ne_aPa_aS3 : aPa ≠ aS3 := h_nf hn193 f_aPa
  have f_aPa : h195 aPa = some (.inl ((t 0), 2048, .inl (fun _ => 0))) := by rw [e196, hu_n ne_aPa_aS3]; exact f_aPa
  have ne_aIt_aS3 : aIt ≠ aS3 := h_nf hn193 f_aIt
  have f_aIt : h195 aIt = some (.inl ((t 1), 700, .inl (fun _ => 0))) := by rw [e196, hu_n ne_aIt_aS3]; exact f_aIt
  have ne_aId_aS3 : aId ≠ aS3 := h_nf hn193 f_aId
  have f_aId : h195 aId = some (.inl ((t 1), 700, .inl (fun _ => 0))) := by rw [e196, hu_n ne_aId_aS3]; exact f_aId
  have ne_aPr_aS3 : aPr ≠ aS3 := h_nf hn193 f_aPr
  have f_aPr : h195 aPr = some (.inl ((t 2), 700, .inl (fun _ => 0))) := by rw [e196, hu_n ne_aPr_aS3]; exact f_aPr
  have ne_aNa_aS3 : aNa ≠ aS3 := h_nf hn193 f_aNa
  have f_aNa : h195 aNa = some (.inl ((t 3), 700, .inr (.inl (fun _ => 0)))) := by rw [e196, hu_n ne_aNa_aS3]; exact f_aNa
  have ne_aSi_aS3 : aSi ≠ aS3 := h_nf hn193 f_aSi
  have f_aSi : h195 aSi = some (.inl ((t 2), 700, .inl (fun _ => 0))) := by rw [e196, hu_n ne_aSi_aS3]; exact f_aSi
  have ne_aSe_aS3 : aSe ≠ aS3 := h_nf hn193 f_aSe
  have f_aSe : h195 aSe = some (.inl ((t 2), 700, .inl (fun _ => 0))) := by rw [e196, hu_n ne_aSe_aS3]; exact f_aSe
  have ne_aIw_aS3 : aIw ≠ aS3 := h_nf hn193 f_aIw
  have f_aIw : h195 aIw = some (.inl ((t 1), 700, .inl (fun _ => 0))) := by rw [e196, hu_n ne_aIw_aS3]; exact f_aIw
  have ne_aEx_aS3 : aEx ≠ aS3 := h_nf hn193 f_aEx
  have f_aEx : h195 aEx = some (.inl ((t 2), 700, .inl (fun _ => 0))) := by rw [e196, hu_n ne_aEx_aS3]; exact f_aEx
  have ne_aOl_aS3 : aOl ≠ aS3 := h_nf hn193 f_aOl
  have f_aOl : h195 aOl = some (.inl ((t 2), 700, .inl (fun _ => 0))) := by rw [e196, hu_n ne_aOl_aS3]; exact f_aOl
  have ne_aPl_aS3 : aPl ≠ aS3 := h_nf hn193 f_aPl
  have f_aPl : h195 aPl = some (.inl ((t 0), 163840, .inl (fun _ => 0))) := by rw [e196, hu_n ne_aPl_aS3]; exact f_aPl
  have ne_aTa_aS3 : aTa ≠ aS3 := h_nf hn193 f_aTa
  have f_aTa : h195 aTa = some (.inl ((t 2), 30, .inl (fun _ => 0))) := by rw [e196, hu_n ne_aTa_aS3]; exact f_aTa
  have ne_aAt_aS3 : aAt ≠ aS3 := h_nf hn193 f_aAt
  have f_aAt : h195 aAt = some (.inl ((t 2), 700, .inl (fun _ => 0))) := by rw [e196, hu_n ne_aAt_aS3]; exact f_aAt
  have ne_aLo_aS3 : aLo ≠ aS3 := h_nf hn193 f_aLo
  have f_aLo : h195 aLo = some (.inl ((t 2), 700, .inl (fun _ => 0))) := by rw [e196, hu_n ne_aLo_aS3]; exact f_aLo
  have f_aS3 : h195 aS3 = some (.inl ((t 2), 31, .inl (fun _ => 0))) := by rw [e196]; exact hu_s _ _ _
  refine hm_putF (ci := 9) (v := .ref aS3) (ty := (.array .int)) (C := R_Mo) (T := F_Mo) (N := 41) hx hb hts ig_Mo t_Mo tk_Mo nm_Mo hown hK hH hLo f_m rfl 31 (by decide) (hts _ mw_416) (fun _ h9 => h9) rfl hin rfl (by decide +kernel) rfl rfl (Nat.le_of_ble_eq_true rfl) d_Mo_init_175 (fun H197 locs hH z198 hLo => ?_)
  have hz : s.heap.size ≤ H197.size := by rw [z198]; exact hz
  obtain ⟨h199, e200⟩ : ∃ z, z = hu h195 mo (.inr (9, [.int 0, .int 0, .int 0, .ref aBy, .ref aSt, .ref aDe, .int 0, .int 0, .int 0, .ref aPa, .int 0, .ref aIt, .ref aId, .ref aPr, .ref aNa, .ref aSi, .ref aSe, .ref aIw, .ref aEx, .ref aOl, .int 0, .ref aPl, .int 0, .int 0, .ref aTa, .ref aAt, .ref aLo, .int 0, .int 0, .ref aS1, .ref aS2, .ref aS3, .null, .null, .null, .int 0, .null, .null, .null, .null, .null])) := ⟨_, rfl⟩
  have hH : hm D vwCl G h199 H197 := by rw [e200]; exact hH
  have f_aBy : h199 aBy = some (.inl ((t 0), 819200, .inl (fun _ => 0))) := by rw [e200, hu_n (Ne.symm ne_mo_aBy)]; exact f_aBy
  have f_aSt : h199 aSt = some (.inl ((t 0), 400, .inl (fun _ => 0))) := by rw [e200, hu_n (Ne.symm ne_mo_aSt)]; exact f_aSt
  have f_aDe : h199 aDe = some (.inl ((t 1), 200, .inl (fun _ => 0))) := by rw [e200, hu_n (Ne.symm ne_mo_aDe)]; exact f_aDe
  have f_aPa : h199 aPa = some (.inl ((t 0), 2048, .inl (fun _ => 0))) := by rw [e200, hu_n (Ne.symm ne_mo_aPa)]; exact f_aPa
  have f_aIt : h199 aIt = some (.inl ((t 1), 700, .inl (fun _ => 0))) := by rw [e200, hu_n (Ne.symm ne_mo_aIt)]; exact f_aIt
  have f_aId : h199 aId = some (.inl ((t 1), 700, .inl (fun _ => 0))) := by rw [e200, hu_n (Ne.symm ne_mo_aId)]; exact f_aId
  have f_aPr : h199 aPr = some (.inl ((t 2), 700, .inl (fun _ => 0))) := by rw [e200, hu_n (Ne.symm ne_mo_aPr)]; exact f_aPr
  have f_aNa : h199 aNa = some (.inl ((t 3), 700, .inr (.inl (fun _ => 0)))) := by rw [e200, hu_n (Ne.symm ne_mo_aNa)]; exact f_aNa
  have f_aSi : h199 aSi = some (.inl ((t 2), 700, .inl (fun _ => 0))) := by rw [e200, hu_n (Ne.symm ne_mo_aSi)]; exact f_aSi
  have f_aSe : h199 aSe = some (.inl ((t 2), 700, .inl (fun _ => 0))) := by rw [e200, hu_n (Ne.symm ne_mo_aSe)]; exact f_aSe
  have f_aIw : h199 aIw = some (.inl ((t 1), 700, .inl (fun _ => 0))) := by rw [e200, hu_n (Ne.symm ne_mo_aIw)]; exact f_aIw
  have f_aEx : h199 aEx = some (.inl ((t 2), 700, .inl (fun _ => 0))) := by rw [e200, hu_n (Ne.symm ne_mo_aEx)]; exact f_aEx
  have f_aOl : h199 aOl = some (.inl ((t 2), 700, .inl (fun _ => 0))) := by rw [e200, hu_n (Ne.symm ne_mo_aOl)]; exact f_aOl
  have f_aPl : h199 aPl = some (.inl ((t 0), 163840, .inl (fun _ => 0))) := by rw [e200, hu_n (Ne.symm ne_mo_aPl)]; exact f_aPl
  have f_aTa : h199 aTa = some (.inl ((t 2), 30, .inl (fun _ => 0))) := by rw [e200, hu_n (Ne.symm ne_mo_aTa)]; exact f_aTa
  have f_aAt : h199 aAt = some (.inl ((t 2), 700, .inl (fun _ => 0))) := by rw [e200, hu_n (Ne.symm ne_mo_aAt)]; exact f_aAt
  have f_aLo : h199 aLo = some (.inl ((t 2), 700, .inl (fun _ => 0))) := by rw [e200, hu_n (Ne.symm ne_mo_aLo)]; exact f_aLo
  have f_aS3 : h199 aS3 = some (.inl ((t 2), 31, .inl (fun _ => 0))) := by rw [e200, hu_n (Ne.symm ne_mo_aS3)]; exact f_aS3
  have f_m : h199 mo = some (.inr (9, [.int 0, .int 0, .int 0, .ref aBy, .ref aSt, .ref aDe, .int 0, .int 0, .int 0, .ref aPa, .int 0, .ref aIt, .ref aId, .ref aPr, .ref aNa, .ref aSi, .ref aSe, .ref aIw, .ref aEx, .ref aOl, .int 0, .ref aPl, .int 0, .int 0, .ref aTa, .ref aAt, .ref aLo, .int 0, .int 0, .ref aS1, .ref aS2, .ref aS3, .null, .null, .null, .int 0, .null, .null, .null, .null, .null])) := by rw [e200]; exact hu_s _ _ _
  have hkp : kp [mo] h h199 := by rw [e200]; exact kp_put hkp (by simp)
  refine lv_aload_n hx hb d_Mo_init_178 rfl (lv_at hl 0 rfl) ?_
  refine lv_bipush (v := 31) hx hb d_Mo_init_179 (by decide) ?_
  refine hm_newa (atype := .int) (ty := .int) (N' := 31) (a0 := (31, .inl (fun _ => 0))) hx hb (hts _ mw_405) rfl hK hH 2 (cA := (t 2)) rfl (hK.2 2 _ rfl).2 (fun _ => rfl) (by decide) (by decide) (by decide) (Nat.le_of_ble_eq_true rfl) (Nat.le_of_ble_eq_true rfl) d_Mo_init_181 (fun aS4 H201 hq202 hn203 hH z204 => ?_)
  have hz : s.heap.size ≤ H201.size := by rw [z204]; exact Nat.le_succ_of_le hz
  obtain ⟨h205, e206⟩ : ∃ z, z = hu h199 aS4 (.inl ((t 2), 31, .inl (fun _ => 0))) := ⟨_, rfl⟩
  have hH : hm D vwCl G h205 H201 := by rw [e206]; exact hH
  have nb_h_aS4 : h aS4 = none := kp_none hkp hn203 (nmc (Ne.symm (h_nf hn203 f_m)) nm0)
  have hkp : kp [mo] h h205 := by rw [e206]; exact kp_new hkp hn203
  have ne_mo_aS4 : mo ≠ aS4 := h_nf hn203 f_m
  have f_m : h205 mo = some (.inr (9, [.int 0, .int 0, .int 0, .ref aBy, .ref aSt, .ref aDe, .int 0, .int 0, .int 0, .ref aPa, .int 0, .ref aIt, .ref aId, .ref aPr, .ref aNa, .ref aSi, .ref aSe, .ref aIw, .ref aEx, .ref aOl, .int 0, .ref aPl, .int 0, .int 0, .ref aTa, .ref aAt, .ref aLo, .int 0, .int 0, .ref aS1, .ref aS2, .ref aS3, .null, .null, .null, .int 0, .null, .null, .null, .null, .null])) := by rw [e206, hu_n ne_mo_aS4]; exact f_m
  have ne_aBy_aS4 : aBy ≠ aS4 := h_nf hn203 f_aBy
  have f_aBy : h205 aBy = some (.inl ((t 0), 819200, .inl (fun _ => 0))) := by rw [e206, hu_n ne_aBy_aS4]; exact f_aBy
  have ne_aSt_aS4 : aSt ≠ aS4 := h_nf hn203 f_aSt
  have f_aSt : h205 aSt = some (.inl ((t 0), 400, .inl (fun _ => 0))) := by rw [e206, hu_n ne_aSt_aS4]; exact f_aSt
  have ne_aDe_aS4 : aDe ≠ aS4 := h_nf hn203 f_aDe
  have f_aDe : h205 aDe = some (.inl ((t 1), 200, .inl (fun _ => 0))) := by rw [e206, hu_n ne_aDe_aS4]; exact f_aDe
  have ne_aPa_aS4 : aPa ≠ aS4 := h_nf hn203 f_aPa
  have f_aPa : h205 aPa = some (.inl ((t 0), 2048, .inl (fun _ => 0))) := by rw [e206, hu_n ne_aPa_aS4]; exact f_aPa
  have ne_aIt_aS4 : aIt ≠ aS4 := h_nf hn203 f_aIt
  have f_aIt : h205 aIt = some (.inl ((t 1), 700, .inl (fun _ => 0))) := by rw [e206, hu_n ne_aIt_aS4]; exact f_aIt
  have ne_aId_aS4 : aId ≠ aS4 := h_nf hn203 f_aId
  have f_aId : h205 aId = some (.inl ((t 1), 700, .inl (fun _ => 0))) := by rw [e206, hu_n ne_aId_aS4]; exact f_aId
  have ne_aPr_aS4 : aPr ≠ aS4 := h_nf hn203 f_aPr
  have f_aPr : h205 aPr = some (.inl ((t 2), 700, .inl (fun _ => 0))) := by rw [e206, hu_n ne_aPr_aS4]; exact f_aPr
  have ne_aNa_aS4 : aNa ≠ aS4 := h_nf hn203 f_aNa
  have f_aNa : h205 aNa = some (.inl ((t 3), 700, .inr (.inl (fun _ => 0)))) := by rw [e206, hu_n ne_aNa_aS4]; exact f_aNa
  have ne_aSi_aS4 : aSi ≠ aS4 := h_nf hn203 f_aSi
  have f_aSi : h205 aSi = some (.inl ((t 2), 700, .inl (fun _ => 0))) := by rw [e206, hu_n ne_aSi_aS4]; exact f_aSi
  have ne_aSe_aS4 : aSe ≠ aS4 := h_nf hn203 f_aSe
  have f_aSe : h205 aSe = some (.inl ((t 2), 700, .inl (fun _ => 0))) := by rw [e206, hu_n ne_aSe_aS4]; exact f_aSe
  have ne_aIw_aS4 : aIw ≠ aS4 := h_nf hn203 f_aIw
  have f_aIw : h205 aIw = some (.inl ((t 1), 700, .inl (fun _ => 0))) := by rw [e206, hu_n ne_aIw_aS4]; exact f_aIw
  have ne_aEx_aS4 : aEx ≠ aS4 := h_nf hn203 f_aEx
  have f_aEx : h205 aEx = some (.inl ((t 2), 700, .inl (fun _ => 0))) := by rw [e206, hu_n ne_aEx_aS4]; exact f_aEx
  have ne_aOl_aS4 : aOl ≠ aS4 := h_nf hn203 f_aOl
  have f_aOl : h205 aOl = some (.inl ((t 2), 700, .inl (fun _ => 0))) := by rw [e206, hu_n ne_aOl_aS4]; exact f_aOl
  have ne_aPl_aS4 : aPl ≠ aS4 := h_nf hn203 f_aPl
  have f_aPl : h205 aPl = some (.inl ((t 0), 163840, .inl (fun _ => 0))) := by rw [e206, hu_n ne_aPl_aS4]; exact f_aPl
  have ne_aTa_aS4 : aTa ≠ aS4 := h_nf hn203 f_aTa
  have f_aTa : h205 aTa = some (.inl ((t 2), 30, .inl (fun _ => 0))) := by rw [e206, hu_n ne_aTa_aS4]; exact f_aTa
  have ne_aAt_aS4 : aAt ≠ aS4 := h_nf hn203 f_aAt
  have f_aAt : h205 aAt = some (.inl ((t 2), 700, .inl (fun _ => 0))) := by rw [e206, hu_n ne_aAt_aS4]; exact f_aAt
  have ne_aLo_aS4 : aLo ≠ aS4 := h_nf hn203 f_aLo
  have f_aLo : h205 aLo = some (.inl ((t 2), 700, .inl (fun _ => 0))) := by rw [e206, hu_n ne_aLo_aS4]; exact f_aLo
  have f_aS4 : h205 aS4 = some (.inl ((t 2), 31, .inl (fun _ => 0))) := by rw [e206]; exact hu_s _ _ _
  refine hm_putF (ci := 9) (v := .ref aS4) (ty := (.array .int)) (C := R_Mo) (T := F_Mo) (N := 41) hx hb hts ig_Mo t_Mo tk_Mo nm_Mo hown hK hH hLo f_m rfl 32 (by decide) (hts _ mw_417) (fun _ h9 => h9) rfl hin rfl (by decide +kernel) rfl rfl (Nat.le_of_ble_eq_true rfl) d_Mo_init_183 (fun H207 locs hH z208 hLo => ?_)
  have hz : s.heap.size ≤ H207.size := by rw [z208]; exact hz
  obtain ⟨h209, e210⟩ : ∃ z, z = hu h205 mo (.inr (9, [.int 0, .int 0, .int 0, .ref aBy, .ref aSt, .ref aDe, .int 0, .int 0, .int 0, .ref aPa, .int 0, .ref aIt, .ref aId, .ref aPr, .ref aNa, .ref aSi, .ref aSe, .ref aIw, .ref aEx, .ref aOl, .int 0, .ref aPl, .int 0, .int 0, .ref aTa, .ref aAt, .ref aLo, .int 0, .int 0, .ref aS1, .ref aS2, .ref aS3, .ref aS4, .null, .null, .int 0, .null, .null, .null, .null, .null])) := ⟨_, rfl⟩
  have hH : hm D vwCl G h209 H207 := by rw [e210]; exact hH
  have f_aBy : h209 aBy = some (.inl ((t 0), 819200, .inl (fun _ => 0))) := by rw [e210, hu_n (Ne.symm ne_mo_aBy)]; exact f_aBy
  have f_aSt : h209 aSt = some (.inl ((t 0), 400, .inl (fun _ => 0))) := by rw [e210, hu_n (Ne.symm ne_mo_aSt)]; exact f_aSt
  have f_aDe : h209 aDe = some (.inl ((t 1), 200, .inl (fun _ => 0))) := by rw [e210, hu_n (Ne.symm ne_mo_aDe)]; exact f_aDe
  have f_aPa : h209 aPa = some (.inl ((t 0), 2048, .inl (fun _ => 0))) := by rw [e210, hu_n (Ne.symm ne_mo_aPa)]; exact f_aPa
  have f_aIt : h209 aIt = some (.inl ((t 1), 700, .inl (fun _ => 0))) := by rw [e210, hu_n (Ne.symm ne_mo_aIt)]; exact f_aIt
  have f_aId : h209 aId = some (.inl ((t 1), 700, .inl (fun _ => 0))) := by rw [e210, hu_n (Ne.symm ne_mo_aId)]; exact f_aId
  have f_aPr : h209 aPr = some (.inl ((t 2), 700, .inl (fun _ => 0))) := by rw [e210, hu_n (Ne.symm ne_mo_aPr)]; exact f_aPr
  have f_aNa : h209 aNa = some (.inl ((t 3), 700, .inr (.inl (fun _ => 0)))) := by rw [e210, hu_n (Ne.symm ne_mo_aNa)]; exact f_aNa
  have f_aSi : h209 aSi = some (.inl ((t 2), 700, .inl (fun _ => 0))) := by rw [e210, hu_n (Ne.symm ne_mo_aSi)]; exact f_aSi
  have f_aSe : h209 aSe = some (.inl ((t 2), 700, .inl (fun _ => 0))) := by rw [e210, hu_n (Ne.symm ne_mo_aSe)]; exact f_aSe
  have f_aIw : h209 aIw = some (.inl ((t 1), 700, .inl (fun _ => 0))) := by rw [e210, hu_n (Ne.symm ne_mo_aIw)]; exact f_aIw
  have f_aEx : h209 aEx = some (.inl ((t 2), 700, .inl (fun _ => 0))) := by rw [e210, hu_n (Ne.symm ne_mo_aEx)]; exact f_aEx
  have f_aOl : h209 aOl = some (.inl ((t 2), 700, .inl (fun _ => 0))) := by rw [e210, hu_n (Ne.symm ne_mo_aOl)]; exact f_aOl
  have f_aPl : h209 aPl = some (.inl ((t 0), 163840, .inl (fun _ => 0))) := by rw [e210, hu_n (Ne.symm ne_mo_aPl)]; exact f_aPl
  have f_aTa : h209 aTa = some (.inl ((t 2), 30, .inl (fun _ => 0))) := by rw [e210, hu_n (Ne.symm ne_mo_aTa)]; exact f_aTa
  have f_aAt : h209 aAt = some (.inl ((t 2), 700, .inl (fun _ => 0))) := by rw [e210, hu_n (Ne.symm ne_mo_aAt)]; exact f_aAt
  have f_aLo : h209 aLo = some (.inl ((t 2), 700, .inl (fun _ => 0))) := by rw [e210, hu_n (Ne.symm ne_mo_aLo)]; exact f_aLo
  have f_aS4 : h209 aS4 = some (.inl ((t 2), 31, .inl (fun _ => 0))) := by rw [e210, hu_n (Ne.symm ne_mo_aS4)]; exact f_aS4
  have f_m : h209 mo = some (.inr (9, [.int 0, .int 0, .int 0, .ref aBy, .ref aSt, .ref aDe, .int 0, .int 0, .int 0, .ref aPa, .int 0, .ref aIt, .ref aId, .ref aPr, .ref aNa, .ref aSi, .ref aSe, .ref aIw, .ref aEx, .ref aOl, .int 0, .ref aPl, .int 0, .int 0, .ref aTa, .ref aAt, .ref aLo, .int 0, .int 0, .ref aS1, .ref aS2, .ref aS3, .ref aS4, .null, .null, .int 0, .null, .null, .null, .null, .null])) := by rw [e210]; exact hu_s _ _ _
  have hkp : kp [mo] h h209 := by rw [e210]; exact kp_put hkp (by simp)
  refine lv_aload_n hx hb d_Mo_init_186 rfl (lv_at hl 0 rfl) ?_
  refine lv_bipush (v := 31) hx hb d_Mo_init_187 (by decide) ?_
  refine hm_newa (atype := .long) (ty := .long) (N' := 31) (a0 := (31, .inr (.inl (fun _ => 0)))) hx hb (hts _ mw_406) rfl hK hH 3 (cA := (t 3)) rfl (hK.2 3 _ rfl).2 (fun _ => rfl) (by decide) (by decide) (by decide) (Nat.le_of_ble_eq_true rfl) (Nat.le_of_ble_eq_true rfl) d_Mo_init_189 (fun aS5 H211 hq212 hn213 hH z214 => ?_)
  have hz : s.heap.size ≤ H211.size := by rw [z214]; exact Nat.le_succ_of_le hz
  obtain ⟨h215, e216⟩ : ∃ z, z = hu h209 aS5 (.inl ((t 3), 31, .inr (.inl (fun _ => 0)))) := ⟨_, rfl⟩
  have hH : hm D vwCl G h215 H211 := by rw [e216]; exact hH
  have nb_h_aS5 : h aS5 = none := kp_none hkp hn213 (nmc (Ne.symm (h_nf hn213 f_m)) nm0)
  have hkp : kp [mo] h h215 := by rw [e216]; exact kp_new hkp hn213
  have ne_mo_aS5 : mo ≠ aS5 := h_nf hn213 f_m
  have f_m : h215 mo = some (.inr (9, [.int 0, .int 0, .int 0, .ref aBy, .ref aSt, .ref aDe, .int 0, .int 0, .int 0, .ref aPa, .int 0, .ref aIt, .ref aId, .ref aPr, .ref aNa, .ref aSi, .ref aSe, .ref aIw, .ref aEx, .ref aOl, .int 0, .ref aPl, .int 0, .int 0, .ref aTa, .ref aAt, .ref aLo, .int 0, .int 0, .ref aS1, .ref aS2, .ref aS3, .ref aS4, .null, .null, .int 0, .null, .null, .null, .null, .null])) := by rw [e216, hu_n ne_mo_aS5]; exact f_m
  have ne_aBy_aS5 : aBy ≠ aS5 := h_nf hn213 f_aBy
  have f_aBy : h215 aBy = some (.inl ((t 0), 819200, .inl (fun _ => 0))) := by rw [e216, hu_n ne_aBy_aS5]; exact f_aBy
  have ne_aSt_aS5 : aSt ≠ aS5 := h_nf hn213 f_aSt
  have f_aSt : h215 aSt = some (.inl ((t 0), 400, .inl (fun _ => 0))) := by rw [e216, hu_n ne_aSt_aS5]; exact f_aSt
  have ne_aDe_aS5 : aDe ≠ aS5 := h_nf hn213 f_aDe
  have f_aDe : h215 aDe = some (.inl ((t 1), 200, .inl (fun _ => 0))) := by rw [e216, hu_n ne_aDe_aS5]; exact f_aDe
  have ne_aPa_aS5 : aPa ≠ aS5 := h_nf hn213 f_aPa
  have f_aPa : h215 aPa = some (.inl ((t 0), 2048, .inl (fun _ => 0))) := by rw [e216, hu_n ne_aPa_aS5]; exact f_aPa
  have ne_aIt_aS5 : aIt ≠ aS5 := h_nf hn213 f_aIt
  have f_aIt : h215 aIt = some (.inl ((t 1), 700, .inl (fun _ => 0))) := by rw [e216, hu_n ne_aIt_aS5]; exact f_aIt
  have ne_aId_aS5 : aId ≠ aS5 := h_nf hn213 f_aId
  have f_aId : h215 aId = some (.inl ((t 1), 700, .inl (fun _ => 0))) := by rw [e216, hu_n ne_aId_aS5]; exact f_aId
  have ne_aPr_aS5 : aPr ≠ aS5 := h_nf hn213 f_aPr
  have f_aPr : h215 aPr = some (.inl ((t 2), 700, .inl (fun _ => 0))) := by rw [e216, hu_n ne_aPr_aS5]; exact f_aPr
  have ne_aNa_aS5 : aNa ≠ aS5 := h_nf hn213 f_aNa
  have f_aNa : h215 aNa = some (.inl ((t 3), 700, .inr (.inl (fun _ => 0)))) := by rw [e216, hu_n ne_aNa_aS5]; exact f_aNa
  have ne_aSi_aS5 : aSi ≠ aS5 := h_nf hn213 f_aSi
  have f_aSi : h215 aSi = some (.inl ((t 2), 700, .inl (fun _ => 0))) := by rw [e216, hu_n ne_aSi_aS5]; exact f_aSi
  have ne_aSe_aS5 : aSe ≠ aS5 := h_nf hn213 f_aSe
  have f_aSe : h215 aSe = some (.inl ((t 2), 700, .inl (fun _ => 0))) := by rw [e216, hu_n ne_aSe_aS5]; exact f_aSe
  have ne_aIw_aS5 : aIw ≠ aS5 := h_nf hn213 f_aIw
  have f_aIw : h215 aIw = some (.inl ((t 1), 700, .inl (fun _ => 0))) := by rw [e216, hu_n ne_aIw_aS5]; exact f_aIw
  have ne_aEx_aS5 : aEx ≠ aS5 := h_nf hn213 f_aEx
  have f_aEx : h215 aEx = some (.inl ((t 2), 700, .inl (fun _ => 0))) := by rw [e216, hu_n ne_aEx_aS5]; exact f_aEx
  have ne_aOl_aS5 : aOl ≠ aS5 := h_nf hn213 f_aOl
  have f_aOl : h215 aOl = some (.inl ((t 2), 700, .inl (fun _ => 0))) := by rw [e216, hu_n ne_aOl_aS5]; exact f_aOl
  have ne_aPl_aS5 : aPl ≠ aS5 := h_nf hn213 f_aPl
  have f_aPl : h215 aPl = some (.inl ((t 0), 163840, .inl (fun _ => 0))) := by rw [e216, hu_n ne_aPl_aS5]; exact f_aPl
  have ne_aTa_aS5 : aTa ≠ aS5 := h_nf hn213 f_aTa
  have f_aTa : h215 aTa = some (.inl ((t 2), 30, .inl (fun _ => 0))) := by rw [e216, hu_n ne_aTa_aS5]; exact f_aTa
  have ne_aAt_aS5 : aAt ≠ aS5 := h_nf hn213 f_aAt
  have f_aAt : h215 aAt = some (.inl ((t 2), 700, .inl (fun _ => 0))) := by rw [e216, hu_n ne_aAt_aS5]; exact f_aAt
  have ne_aLo_aS5 : aLo ≠ aS5 := h_nf hn213 f_aLo
  have f_aLo : h215 aLo = some (.inl ((t 2), 700, .inl (fun _ => 0))) := by rw [e216, hu_n ne_aLo_aS5]; exact f_aLo
  have f_aS5 : h215 aS5 = some (.inl ((t 3), 31, .inr (.inl (fun _ => 0)))) := by rw [e216]; exact hu_s _ _ _
  refine hm_putF (ci := 9) (v := .ref aS5) (ty := (.array .long)) (C := R_Mo) (T := F_Mo) (N := 41) hx hb hts ig_Mo t_Mo tk_Mo nm_Mo hown hK hH hLo f_m rfl 33 (by decide) (hts _ mw_418) (fun _ h9 => h9) rfl hin rfl (by decide +kernel) rfl rfl (Nat.le_of_ble_eq_true rfl) d_Mo_init_191 (fun H217 locs hH z218 hLo => ?_)
  have hz : s.heap.size ≤ H217.size := by rw [z218]; exact hz
  obtain ⟨h219, e220⟩ : ∃ z, z = hu h215 mo (.inr (9, [.int 0, .int 0, .int 0, .ref aBy, .ref aSt, .ref aDe, .int 0, .int 0, .int 0, .ref aPa, .int 0, .ref aIt, .ref aId, .ref aPr, .ref aNa, .ref aSi, .ref aSe, .ref aIw, .ref aEx, .ref aOl, .int 0, .ref aPl, .int 0, .int 0, .ref aTa, .ref aAt, .ref aLo, .int 0, .int 0, .ref aS1, .ref aS2, .ref aS3, .ref aS4, .ref aS5, .null, .int 0, .null, .null, .null, .null, .null])) := ⟨_, rfl⟩
  have hH : hm D vwCl G h219 H217 := by rw [e220]; exact hH
  have f_aBy : h219 aBy = some (.inl ((t 0), 819200, .inl (fun _ => 0))) := by rw [e220, hu_n (Ne.symm ne_mo_aBy)]; exact f_aBy
  have f_aSt : h219 aSt = some (.inl ((t 0), 400, .inl (fun _ => 0))) := by rw [e220, hu_n (Ne.symm ne_mo_aSt)]; exact f_aSt
  have f_aDe : h219 aDe = some (.inl ((t 1), 200, .inl (fun _ => 0))) := by rw [e220, hu_n (Ne.symm ne_mo_aDe)]; exact f_aDe
  have f_aPa : h219 aPa = some (.inl ((t 0), 2048, .inl (fun _ => 0))) := by rw [e220, hu_n (Ne.symm ne_mo_aPa)]; exact f_aPa
  have f_aIt : h219 aIt = some (.inl ((t 1), 700, .inl (fun _ => 0))) := by rw [e220, hu_n (Ne.symm ne_mo_aIt)]; exact f_aIt
  have f_aId : h219 aId = some (.inl ((t 1), 700, .inl (fun _ => 0))) := by rw [e220, hu_n (Ne.symm ne_mo_aId)]; exact f_aId
  have f_aPr : h219 aPr = some (.inl ((t 2), 700, .inl (fun _ => 0))) := by rw [e220, hu_n (Ne.symm ne_mo_aPr)]; exact f_aPr
  have f_aNa : h219 aNa = some (.inl ((t 3), 700, .inr (.inl (fun _ => 0)))) := by rw [e220, hu_n (Ne.symm ne_mo_aNa)]; exact f_aNa
  have f_aSi : h219 aSi = some (.inl ((t 2), 700, .inl (fun _ => 0))) := by rw [e220, hu_n (Ne.symm ne_mo_aSi)]; exact f_aSi
  have f_aSe : h219 aSe = some (.inl ((t 2), 700, .inl (fun _ => 0))) := by rw [e220, hu_n (Ne.symm ne_mo_aSe)]; exact f_aSe
  have f_aIw : h219 aIw = some (.inl ((t 1), 700, .inl (fun _ => 0))) := by rw [e220, hu_n (Ne.symm ne_mo_aIw)]; exact f_aIw
  have f_aEx : h219 aEx = some (.inl ((t 2), 700, .inl (fun _ => 0))) := by rw [e220, hu_n (Ne.symm ne_mo_aEx)]; exact f_aEx
  have f_aOl : h219 aOl = some (.inl ((t 2), 700, .inl (fun _ => 0))) := by rw [e220, hu_n (Ne.symm ne_mo_aOl)]; exact f_aOl
  have f_aPl : h219 aPl = some (.inl ((t 0), 163840, .inl (fun _ => 0))) := by rw [e220, hu_n (Ne.symm ne_mo_aPl)]; exact f_aPl
  have f_aTa : h219 aTa = some (.inl ((t 2), 30, .inl (fun _ => 0))) := by rw [e220, hu_n (Ne.symm ne_mo_aTa)]; exact f_aTa
  have f_aAt : h219 aAt = some (.inl ((t 2), 700, .inl (fun _ => 0))) := by rw [e220, hu_n (Ne.symm ne_mo_aAt)]; exact f_aAt
  have f_aLo : h219 aLo = some (.inl ((t 2), 700, .inl (fun _ => 0))) := by rw [e220, hu_n (Ne.symm ne_mo_aLo)]; exact f_aLo
  have f_aS5 : h219 aS5 = some (.inl ((t 3), 31, .inr (.inl (fun _ => 0)))) := by rw [e220, hu_n (Ne.symm ne_mo_aS5)]; exact f_aS5
  have f_m : h219 mo = some (.inr (9, [.int 0, .int 0, .int 0, .ref aBy, .ref aSt, .ref aDe, .int 0, .int 0, .int 0, .ref aPa, .int 0, .ref aIt, .ref aId, .ref aPr, .ref aNa, .ref aSi, .ref aSe, .ref aIw, .ref aEx, .ref aOl, .int 0, .ref aPl, .int 0, .int 0, .ref aTa, .ref aAt, .ref aLo, .int 0, .int 0, .ref aS1, .ref aS2, .ref aS3, .ref aS4, .ref aS5, .null, .int 0, .null, .null, .null, .null, .null])) := by rw [e220]; exact hu_s _ _ _
  have hkp : kp [mo] h h219 := by rw [e220]; exact kp_put hkp (by simp)
  refine lv_aload_n hx hb d_Mo_init_194 rfl (lv_at hl 0 rfl) ?_
  refine lv_bipush (v := 31) hx hb d_Mo_init_195 (by decide) ?_
  refine hm_newa (atype := .int) (ty := .int) (N' := 31) (a0 := (31, .inl (fun _ => 0))) hx hb (hts _ mw_405) rfl hK hH 2 (cA := (t 2)) rfl (hK.2 2 _ rfl).2 (fun _ => rfl) (by decide) (by decide) (by decide) (Nat.le_of_ble_eq_true rfl) (Nat.le_of_ble_eq_true rfl) d_Mo_init_197 (fun aS6 H221 hq222 hn223 hH z224 => ?_)
  have hz : s.heap.size ≤ H221.size := by rw [z224]; exact Nat.le_succ_of_le hz
  obtain ⟨h225, e226⟩ : ∃ z, z = hu h219 aS6 (.inl ((t 2), 31, .inl (fun _ => 0))) := ⟨_, rfl⟩
  have hH : hm D vwCl G h225 H221 := by rw [e226]; exact hH
  have nb_h_aS6 : h aS6 = none := kp_none hkp hn223 (nmc (Ne.symm (h_nf hn223 f_m)) nm0)
  have hkp : kp [mo] h h225 := by rw [e226]; exact kp_new hkp hn223
  have ne_mo_aS6 : mo ≠ aS6 := h_nf hn223 f_m
  have f_m : h225 mo = some (.inr (9, [.int 0, .int 0, .int 0, .ref aBy, .ref aSt, .ref aDe, .int 0, .int 0, .int 0, .ref aPa, .int 0, .ref aIt, .ref aId, .ref aPr, .ref aNa, .ref aSi, .ref aSe, .ref aIw, .ref aEx, .ref aOl, .int 0, .ref aPl, .int 0, .int 0, .ref aTa, .ref aAt, .ref aLo, .int 0, .int 0, .ref aS1, .ref aS2, .ref aS3, .ref aS4, .ref aS5, .null, .int 0, .null, .null, .null, .null, .null])) := by rw [e226, hu_n ne_mo_aS6]; exact f_m
  have ne_aBy_aS6 : aBy ≠ aS6 := h_nf hn223 f_aBy
  have f_aBy : h225 aBy = some (.inl ((t 0), 819200, .inl (fun _ => 0))) := by rw [e226, hu_n ne_aBy_aS6]; exact f_aBy
  have ne_aSt_aS6 : aSt ≠ aS6 := h_nf hn223 f_aSt
  have f_aSt : h225 aSt = some (.inl ((t 0), 400, .inl (fun _ => 0))) := by rw [e226, hu_n ne_aSt_aS6]; exact f_aSt
  have ne_aDe_aS6 : aDe ≠ aS6 := h_nf hn223 f_aDe
  have f_aDe : h225 aDe = some (.inl ((t 1), 200, .inl (fun _ => 0))) := by rw [e226, hu_n ne_aDe_aS6]; exact f_aDe
  have ne_aPa_aS6 : aPa ≠ aS6 := h_nf hn223 f_aPa
  have f_aPa : h225 aPa = some (.inl ((t 0), 2048, .inl (fun _ => 0))) := by rw [e226, hu_n ne_aPa_aS6]; exact f_aPa
  have ne_aIt_aS6 : aIt ≠ aS6 := h_nf hn223 f_aIt
  have f_aIt : h225 aIt = some (.inl ((t 1), 700, .inl (fun _ => 0))) := by rw [e226, hu_n ne_aIt_aS6]; exact f_aIt
  have ne_aId_aS6 : aId ≠ aS6 := h_nf hn223 f_aId
  have f_aId : h225 aId = some (.inl ((t 1), 700, .inl (fun _ => 0))) := by rw [e226, hu_n ne_aId_aS6]; exact f_aId
  have ne_aPr_aS6 : aPr ≠ aS6 := h_nf hn223 f_aPr
  have f_aPr : h225 aPr = some (.inl ((t 2), 700, .inl (fun _ => 0))) := by rw [e226, hu_n ne_aPr_aS6]; exact f_aPr
  have ne_aNa_aS6 : aNa ≠ aS6 := h_nf hn223 f_aNa
  have f_aNa : h225 aNa = some (.inl ((t 3), 700, .inr (.inl (fun _ => 0)))) := by rw [e226, hu_n ne_aNa_aS6]; exact f_aNa
  have ne_aSi_aS6 : aSi ≠ aS6 := h_nf hn223 f_aSi
  have f_aSi : h225 aSi = some (.inl ((t 2), 700, .inl (fun _ => 0))) := by rw [e226, hu_n ne_aSi_aS6]; exact f_aSi
  have ne_aSe_aS6 : aSe ≠ aS6 := h_nf hn223 f_aSe
  have f_aSe : h225 aSe = some (.inl ((t 2), 700, .inl (fun _ => 0))) := by rw [e226, hu_n ne_aSe_aS6]; exact f_aSe
  have ne_aIw_aS6 : aIw ≠ aS6 := h_nf hn223 f_aIw
  have f_aIw : h225 aIw = some (.inl ((t 1), 700, .inl (fun _ => 0))) := by rw [e226, hu_n ne_aIw_aS6]; exact f_aIw
  have ne_aEx_aS6 : aEx ≠ aS6 := h_nf hn223 f_aEx
  have f_aEx : h225 aEx = some (.inl ((t 2), 700, .inl (fun _ => 0))) := by rw [e226, hu_n ne_aEx_aS6]; exact f_aEx
  have ne_aOl_aS6 : aOl ≠ aS6 := h_nf hn223 f_aOl
  have f_aOl : h225 aOl = some (.inl ((t 2), 700, .inl (fun _ => 0))) := by rw [e226, hu_n ne_aOl_aS6]; exact f_aOl
  have ne_aPl_aS6 : aPl ≠ aS6 := h_nf hn223 f_aPl
  have f_aPl : h225 aPl = some (.inl ((t 0), 163840, .inl (fun _ => 0))) := by rw [e226, hu_n ne_aPl_aS6]; exact f_aPl
  have ne_aTa_aS6 : aTa ≠ aS6 := h_nf hn223 f_aTa
  have f_aTa : h225 aTa = some (.inl ((t 2), 30, .inl (fun _ => 0))) := by rw [e226, hu_n ne_aTa_aS6]; exact f_aTa
  have ne_aAt_aS6 : aAt ≠ aS6 := h_nf hn223 f_aAt
  have f_aAt : h225 aAt = some (.inl ((t 2), 700, .inl (fun _ => 0))) := by rw [e226, hu_n ne_aAt_aS6]; exact f_aAt
  have ne_aLo_aS6 : aLo ≠ aS6 := h_nf hn223 f_aLo
  have f_aLo : h225 aLo = some (.inl ((t 2), 700, .inl (fun _ => 0))) := by rw [e226, hu_n ne_aLo_aS6]; exact f_aLo
  have f_aS6 : h225 aS6 = some (.inl ((t 2), 31, .inl (fun _ => 0))) := by rw [e226]; exact hu_s _ _ _
  refine hm_putF (ci := 9) (v := .ref aS6) (ty := (.array .int)) (C := R_Mo) (T := F_Mo) (N := 41) hx hb hts ig_Mo t_Mo tk_Mo nm_Mo hown hK hH hLo f_m rfl 34 (by decide) (hts _ mw_419) (fun _ h9 => h9) rfl hin rfl (by decide +kernel) rfl rfl (Nat.le_of_ble_eq_true rfl) d_Mo_init_199 (fun H227 locs hH z228 hLo => ?_)
  have hz : s.heap.size ≤ H227.size := by rw [z228]; exact hz
  obtain ⟨h229, e230⟩ : ∃ z, z = hu h225 mo (.inr (9, [.int 0, .int 0, .int 0, .ref aBy, .ref aSt, .ref aDe, .int 0, .int 0, .int 0, .ref aPa, .int 0, .ref aIt, .ref aId, .ref aPr, .ref aNa, .ref aSi, .ref aSe, .ref aIw, .ref aEx, .ref aOl, .int 0, .ref aPl, .int 0, .int 0, .ref aTa, .ref aAt, .ref aLo, .int 0, .int 0, .ref aS1, .ref aS2, .ref aS3, .ref aS4, .ref aS5, .ref aS6, .int 0, .null, .null, .null, .null, .null])) := ⟨_, rfl⟩
  have hH : hm D vwCl G h229 H227 := by rw [e230]; exact hH
  have f_aBy : h229 aBy = some (.inl ((t 0), 819200, .inl (fun _ => 0))) := by rw [e230, hu_n (Ne.symm ne_mo_aBy)]; exact f_aBy
  have f_aSt : h229 aSt = some (.inl ((t 0), 400, .inl (fun _ => 0))) := by rw [e230, hu_n (Ne.symm ne_mo_aSt)]; exact f_aSt
  have f_aDe : h229 aDe = some (.inl ((t 1), 200, .inl (fun _ => 0))) := by rw [e230, hu_n (Ne.symm ne_mo_aDe)]; exact f_aDe
  have f_aPa : h229 aPa = some (.inl ((t 0), 2048, .inl (fun _ => 0))) := by rw [e230, hu_n (Ne.symm ne_mo_aPa)]; exact f_aPa
  have f_aIt : h229 aIt = some (.inl ((t 1), 700, .inl (fun _ => 0))) := by rw [e230, hu_n (Ne.symm ne_mo_aIt)]; exact f_aIt
  have f_aId : h229 aId = some (.inl ((t 1), 700, .inl (fun _ => 0))) := by rw [e230, hu_n (Ne.symm ne_mo_aId)]; exact f_aId
  have f_aPr : h229 aPr = some (.inl ((t 2), 700, .inl (fun _ => 0))) := by rw [e230, hu_n (Ne.symm ne_mo_aPr)]; exact f_aPr
  have f_aNa : h229 aNa = some (.inl ((t 3), 700, .inr (.inl (fun _ => 0)))) := by rw [e230, hu_n (Ne.symm ne_mo_aNa)]; exact f_aNa
  have f_aSi : h229 aSi = some (.inl ((t 2), 700, .inl (fun _ => 0))) := by rw [e230, hu_n (Ne.symm ne_mo_aSi)]; exact f_aSi
  have f_aSe : h229 aSe = some (.inl ((t 2), 700, .inl (fun _ => 0))) := by rw [e230, hu_n (Ne.symm ne_mo_aSe)]; exact f_aSe
  have f_aIw : h229 aIw = some (.inl ((t 1), 700, .inl (fun _ => 0))) := by rw [e230, hu_n (Ne.symm ne_mo_aIw)]; exact f_aIw
  have f_aEx : h229 aEx = some (.inl ((t 2), 700, .inl (fun _ => 0))) := by rw [e230, hu_n (Ne.symm ne_mo_aEx)]; exact f_aEx
  have f_aOl : h229 aOl = some (.inl ((t 2), 700, .inl (fun _ => 0))) := by rw [e230, hu_n (Ne.symm ne_mo_aOl)]; exact f_aOl
  have f_aPl : h229 aPl = some (.inl ((t 0), 163840, .inl (fun _ => 0))) := by rw [e230, hu_n (Ne.symm ne_mo_aPl)]; exact f_aPl
  have f_aTa : h229 aTa = some (.inl ((t 2), 30, .inl (fun _ => 0))) := by rw [e230, hu_n (Ne.symm ne_mo_aTa)]; exact f_aTa
  have f_aAt : h229 aAt = some (.inl ((t 2), 700, .inl (fun _ => 0))) := by rw [e230, hu_n (Ne.symm ne_mo_aAt)]; exact f_aAt
  have f_aLo : h229 aLo = some (.inl ((t 2), 700, .inl (fun _ => 0))) := by rw [e230, hu_n (Ne.symm ne_mo_aLo)]; exact f_aLo
  have f_aS6 : h229 aS6 = some (.inl ((t 2), 31, .inl (fun _ => 0))) := by rw [e230, hu_n (Ne.symm ne_mo_aS6)]; exact f_aS6
  have f_m : h229 mo = some (.inr (9, [.int 0, .int 0, .int 0, .ref aBy, .ref aSt, .ref aDe, .int 0, .int 0, .int 0, .ref aPa, .int 0, .ref aIt, .ref aId, .ref aPr, .ref aNa, .ref aSi, .ref aSe, .ref aIw, .ref aEx, .ref aOl, .int 0, .ref aPl, .int 0, .int 0, .ref aTa, .ref aAt, .ref aLo, .int 0, .int 0, .ref aS1, .ref aS2, .ref aS3, .ref aS4, .ref aS5, .ref aS6, .int 0, .null, .null, .null, .null, .null])) := by rw [e230]; exact hu_s _ _ _
  have hkp : kp [mo] h h229 := by rw [e230]; exact kp_put hkp (by simp)
  refine lv_aload_n hx hb d_Mo_init_202 rfl (lv_at hl 0 rfl) ?_
  refine lv_bipush (v := 31) hx hb d_Mo_init_203 (by decide) ?_
  refine hm_newa (atype := .int) (ty := .int) (N' := 31) (a0 := (31, .inl (fun _ => 0))) hx hb (hts _ mw_405) rfl hK hH 2 (cA := (t 2)) rfl (hK.2 2 _ rfl).2 (fun _ => rfl) (by decide) (by decide) (by decide) (Nat.le_of_ble_eq_true rfl) (Nat.le_of_ble_eq_true rfl) d_Mo_init_205 (fun aO1 H231 hq232 hn233 hH z234 => ?_)
  have hz : s.heap.size ≤ H231.size := by rw [z234]; exact Nat.le_succ_of_le hz
  obtain ⟨h235, e236⟩ : ∃ z, z = hu h229 aO1 (.inl ((t 2), 31, .inl (fun _ => 0))) := ⟨_, rfl⟩
  have hH : hm D vwCl G h235 H231 := by rw [e236]; exact hH
  have nb_h_aO1 : h aO1 = none := kp_none hkp hn233 (nmc (Ne.symm (h_nf hn233 f_m)) nm0)
  have hkp : kp [mo] h h235 := by rw [e236]; exact kp_new hkp hn233
  have ne_mo_aO1 : mo ≠ aO1 := h_nf hn233 f_m
  have f_m : h235 mo = some (.inr (9, [.int 0, .int 0, .int 0, .ref aBy, .ref aSt, .ref aDe, .int 0, .int 0, .int 0, .ref aPa, .int 0, .ref aIt, .ref aId, .ref aPr, .ref aNa, .ref aSi, .ref aSe, .ref aIw, .ref aEx, .ref aOl, .int 0, .ref aPl, .int 0, .int 0, .ref aTa, .ref aAt, .ref aLo, .int 0, .int 0, .ref aS1, .ref aS2, .ref aS3, .ref aS4, .ref aS5, .ref aS6, .int 0, .null, .null, .null, .null, .null])) := by rw [e236, hu_n ne_mo_aO1]; exact f_m
  have ne_aBy_aO1 : aBy ≠ aO1 := h_nf hn233 f_aBy
  have f_aBy : h235 aBy = some (.inl ((t 0), 819200, .inl (fun _ => 0))) := by rw [e236, hu_n ne_aBy_aO1]; exact f_aBy
  have ne_aSt_aO1 : aSt ≠ aO1 := h_nf hn233 f_aSt
  have f_aSt : h235 aSt = some (.inl ((t 0), 400, .inl (fun _ => 0))) := by rw [e236, hu_n ne_aSt_aO1]; exact f_aSt
  have ne_aDe_aO1 : aDe ≠ aO1 := h_nf hn233 f_aDe
  have f_aDe : h235 aDe = some (.inl ((t 1), 200, .inl (fun _ => 0))) := by rw [e236, hu_n ne_aDe_aO1]; exact f_aDe
  have ne_aPa_aO1 : aPa ≠ aO1 := h_nf hn233 f_aPa
  have f_aPa : h235 aPa = some (.inl ((t 0), 2048, .inl (fun _ => 0))) := by rw [e236, hu_n ne_aPa_aO1]; exact f_aPa
  have ne_aIt_aO1 : aIt ≠ aO1 := h_nf hn233 f_aIt
  have f_aIt : h235 aIt = some (.inl ((t 1), 700, .inl (fun _ => 0))) := by rw [e236, hu_n ne_aIt_aO1]; exact f_aIt
  have ne_aId_aO1 : aId ≠ aO1 := h_nf hn233 f_aId
  have f_aId : h235 aId = some (.inl ((t 1), 700, .inl (fun _ => 0))) := by rw [e236, hu_n ne_aId_aO1]; exact f_aId
  have ne_aPr_aO1 : aPr ≠ aO1 := h_nf hn233 f_aPr
  have f_aPr : h235 aPr = some (.inl ((t 2), 700, .inl (fun _ => 0))) := by rw [e236, hu_n ne_aPr_aO1]; exact f_aPr
  have ne_aNa_aO1 : aNa ≠ aO1 := h_nf hn233 f_aNa
  have f_aNa : h235 aNa = some (.inl ((t 3), 700, .inr (.inl (fun _ => 0)))) := by rw [e236, hu_n ne_aNa_aO1]; exact f_aNa
  have ne_aSi_aO1 : aSi ≠ aO1 := h_nf hn233 f_aSi
  have f_aSi : h235 aSi = some (.inl ((t 2), 700, .inl (fun _ => 0))) := by rw [e236, hu_n ne_aSi_aO1]; exact f_aSi
  have ne_aSe_aO1 : aSe ≠ aO1 := h_nf hn233 f_aSe
  have f_aSe : h235 aSe = some (.inl ((t 2), 700, .inl (fun _ => 0))) := by rw [e236, hu_n ne_aSe_aO1]; exact f_aSe
  have ne_aIw_aO1 : aIw ≠ aO1 := h_nf hn233 f_aIw
  have f_aIw : h235 aIw = some (.inl ((t 1), 700, .inl (fun _ => 0))) := by rw [e236, hu_n ne_aIw_aO1]; exact f_aIw
  have ne_aEx_aO1 : aEx ≠ aO1 := h_nf hn233 f_aEx
  have f_aEx : h235 aEx = some (.inl ((t 2), 700, .inl (fun _ => 0))) := by rw [e236, hu_n ne_aEx_aO1]; exact f_aEx
  have ne_aOl_aO1 : aOl ≠ aO1 := h_nf hn233 f_aOl
  have f_aOl : h235 aOl = some (.inl ((t 2), 700, .inl (fun _ => 0))) := by rw [e236, hu_n ne_aOl_aO1]; exact f_aOl
  have ne_aPl_aO1 : aPl ≠ aO1 := h_nf hn233 f_aPl
  have f_aPl : h235 aPl = some (.inl ((t 0), 163840, .inl (fun _ => 0))) := by rw [e236, hu_n ne_aPl_aO1]; exact f_aPl
  have ne_aTa_aO1 : aTa ≠ aO1 := h_nf hn233 f_aTa
  have f_aTa : h235 aTa = some (.inl ((t 2), 30, .inl (fun _ => 0))) := by rw [e236, hu_n ne_aTa_aO1]; exact f_aTa
  have ne_aAt_aO1 : aAt ≠ aO1 := h_nf hn233 f_aAt
  have f_aAt : h235 aAt = some (.inl ((t 2), 700, .inl (fun _ => 0))) := by rw [e236, hu_n ne_aAt_aO1]; exact f_aAt
  have ne_aLo_aO1 : aLo ≠ aO1 := h_nf hn233 f_aLo
  have f_aLo : h235 aLo = some (.inl ((t 2), 700, .inl (fun _ => 0))) := by rw [e236, hu_n ne_aLo_aO1]; exact f_aLo
  have f_aO1 : h235 aO1 = some (.inl ((t 2), 31, .inl (fun _ => 0))) := by rw [e236]; exact hu_s _ _ _
  refine hm_putF (ci := 9) (v := .ref aO1) (ty := (.array .int)) (C := R_Mo) (T := F_Mo) (N := 41) hx hb hts ig_Mo t_Mo tk_Mo nm_Mo hown hK hH hLo f_m rfl 36 (by decide) (hts _ mw_420) (fun _ h9 => h9) rfl hin rfl (by decide +kernel) rfl rfl (Nat.le_of_ble_eq_true rfl) d_Mo_init_207 (fun H237 locs hH z238 hLo => ?_)
  have hz : s.heap.size ≤ H237.size := by rw [z238]; exact hz
  obtain ⟨h239, e240⟩ : ∃ z, z = hu h235 mo (.inr (9, [.int 0, .int 0, .int 0, .ref aBy, .ref aSt, .ref aDe, .int 0, .int 0, .int 0, .ref aPa, .int 0, .ref aIt, .ref aId, .ref aPr, .ref aNa, .ref aSi, .ref aSe, .ref aIw, .ref aEx, .ref aOl, .int 0, .ref aPl, .int 0, .int 0, .ref aTa, .ref aAt, .ref aLo, .int 0, .int 0, .ref aS1, .ref aS2, .ref aS3, .ref aS4, .ref aS5, .ref aS6, .int 0, .ref aO1, .null, .null, .null, .null])) := ⟨_, rfl⟩
  have hH : hm D vwCl G h239 H237 := by rw [e240]; exact hH
  have f_aBy : h239 aBy = some (.inl ((t 0), 819200, .inl (fun _ => 0))) := by rw [e240, hu_n (Ne.symm ne_mo_aBy)]; exact f_aBy
  have f_aSt : h239 aSt = some (.inl ((t 0), 400, .inl (fun _ => 0))) := by rw [e240, hu_n (Ne.symm ne_mo_aSt)]; exact f_aSt
  have f_aDe : h239 aDe = some (.inl ((t 1), 200, .inl (fun _ => 0))) := by rw [e240, hu_n (Ne.symm ne_mo_aDe)]; exact f_aDe
  have f_aPa : h239 aPa = some (.inl ((t 0), 2048, .inl (fun _ => 0))) := by rw [e240, hu_n (Ne.symm ne_mo_aPa)]; exact f_aPa
  have f_aIt : h239 aIt = some (.inl ((t 1), 700, .inl (fun _ => 0))) := by rw [e240, hu_n (Ne.symm ne_mo_aIt)]; exact f_aIt
  have f_aId : h239 aId = some (.inl ((t 1), 700, .inl (fun _ => 0))) := by rw [e240, hu_n (Ne.symm ne_mo_aId)]; exact f_aId
  have f_aPr : h239 aPr = some (.inl ((t 2), 700, .inl (fun _ => 0))) := by rw [e240, hu_n (Ne.symm ne_mo_aPr)]; exact f_aPr
  have f_aNa : h239 aNa = some (.inl ((t 3), 700, .inr (.inl (fun _ => 0)))) := by rw [e240, hu_n (Ne.symm ne_mo_aNa)]; exact f_aNa
  have f_aSi : h239 aSi = some (.inl ((t 2), 700, .inl (fun _ => 0))) := by rw [e240, hu_n (Ne.symm ne_mo_aSi)]; exact f_aSi
  have f_aSe : h239 aSe = some (.inl ((t 2), 700, .inl (fun _ => 0))) := by rw [e240, hu_n (Ne.symm ne_mo_aSe)]; exact f_aSe
  have f_aIw : h239 aIw = some (.inl ((t 1), 700, .inl (fun _ => 0))) := by rw [e240, hu_n (Ne.symm ne_mo_aIw)]; exact f_aIw
  have f_aEx : h239 aEx = some (.inl ((t 2), 700, .inl (fun _ => 0))) := by rw [e240, hu_n (Ne.symm ne_mo_aEx)]; exact f_aEx
  have f_aOl : h239 aOl = some (.inl ((t 2), 700, .inl (fun _ => 0))) := by rw [e240, hu_n (Ne.symm ne_mo_aOl)]; exact f_aOl
  have f_aPl : h239 aPl = some (.inl ((t 0), 163840, .inl (fun _ => 0))) := by rw [e240, hu_n (Ne.symm ne_mo_aPl)]; exact f_aPl
  have f_aTa : h239 aTa = some (.inl ((t 2), 30, .inl (fun _ => 0))) := by rw [e240, hu_n (Ne.symm ne_mo_aTa)]; exact f_aTa
  have f_aAt : h239 aAt = some (.inl ((t 2), 700, .inl (fun _ => 0))) := by rw [e240, hu_n (Ne.symm ne_mo_aAt)]; exact f_aAt
  have f_aLo : h239 aLo = some (.inl ((t 2), 700, .inl (fun _ => 0))) := by rw [e240, hu_n (Ne.symm ne_mo_aLo)]; exact f_aLo
  have f_aO1 : h239 aO1 = some (.inl ((t 2), 31, .inl (fun _ => 0))) := by rw [e240, hu_n (Ne.symm ne_mo_aO1)]; exact f_aO1
  have f_m : h239 mo = some (.inr (9, [.int 0, .int 0, .int 0, .ref aBy, .ref aSt, .ref aDe, .int 0, .int 0, .int 0, .ref aPa, .int 0, .ref aIt, .ref aId, .ref aPr, .ref aNa, .ref aSi, .ref aSe, .ref aIw, .ref aEx, .ref aOl, .int 0, .ref aPl, .int 0, .int 0, .ref aTa, .ref aAt, .ref aLo, .int 0, .int 0, .ref aS1, .ref aS2, .ref aS3, .ref aS4, .ref aS5, .ref aS6, .int 0, .ref aO1, .null, .null, .null, .null])) := by rw [e240]; exact hu_s _ _ _
  have hkp : kp [mo] h h239 := by rw [e240]; exact kp_put hkp (by simp)
  refine lv_aload_n hx hb d_Mo_init_210 rfl (lv_at hl 0 rfl) ?_
  refine lv_bipush (v := 31) hx hb d_Mo_init_211 (by decide) ?_
  refine hm_newa (atype := .boolean) (ty := .boolean) (N' := 31) (a0 := (31, .inl (fun _ => 0))) hx hb (hts _ mw_402) rfl hK hH 1 (cA := (t 1)) rfl (hK.2 1 _ rfl).2 (fun _ => rfl) (by decide) (by decide) (by decide) (Nat.le_of_ble_eq_true rfl) (Nat.le_of_ble_eq_true rfl) d_Mo_init_213 (fun aO2 H241 hq242 hn243 hH z244 => ?_)
  have hz : s.heap.size ≤ H241.size := by rw [z244]; exact Nat.le_succ_of_le hz
  obtain ⟨h245, e246⟩ : ∃ z, z = hu h239 aO2 (.inl ((t 1), 31, .inl (fun _ => 0))) := ⟨_, rfl⟩
  have hH : hm D vwCl G h245 H241 := by rw [e246]; exact hH
  have nb_h_aO2 : h aO2 = none := kp_none hkp hn243 (nmc (Ne.symm (h_nf hn243 f_m)) nm0)
  have hkp : kp [mo] h h245 := by rw [e246]; exact kp_new hkp hn243
  have ne_mo_aO2 : mo ≠ aO2 := h_nf hn243 f_m
  have f_m : h245 mo = some (.inr (9, [.int 0, .int 0, .int 0, .ref aBy, .ref aSt, .ref aDe, .int 0, .int 0, .int 0, .ref aPa, .int 0, .ref aIt, .ref aId, .ref aPr, .ref aNa, .ref aSi, .ref aSe, .ref aIw, .ref aEx, .ref aOl, .int 0, .ref aPl, .int 0, .int 0, .ref aTa, .ref aAt, .ref aLo, .int 0, .int 0, .ref aS1, .ref aS2, .ref aS3, .ref aS4, .ref aS5, .ref aS6, .int 0, .ref aO1, .null, .null, .null, .null])) := by rw [e246, hu_n ne_mo_aO2]; exact f_m
  have ne_aBy_aO2 : aBy ≠ aO2 := h_nf hn243 f_aBy
  have f_aBy : h245 aBy = some (.inl ((t 0), 819200, .inl (fun _ => 0))) := by rw [e246, hu_n ne_aBy_aO2]; exact f_aBy
  have ne_aSt_aO2 : aSt ≠ aO2 := h_nf hn243 f_aSt
  have f_aSt : h245 aSt = some (.inl ((t 0), 400, .inl (fun _ => 0))) := by rw [e246, hu_n ne_aSt_aO2]; exact f_aSt
  have ne_aDe_aO2 : aDe ≠ aO2 := h_nf hn243 f_aDe
  have f_aDe : h245 aDe = some (.inl ((t 1), 200, .inl (fun _ => 0))) := by rw [e246, hu_n ne_aDe_aO2]; exact f_aDe
  have ne_aPa_aO2 : aPa ≠ aO2 := h_nf hn243 f_aPa
  have f_aPa : h245 aPa = some (.inl ((t 0), 2048, .inl (fun _ => 0))) := by rw [e246, hu_n ne_aPa_aO2]; exact f_aPa
  have ne_aIt_aO2 : aIt ≠ aO2 := h_nf hn243 f_aIt
  have f_aIt : h245 aIt = some (.inl ((t 1), 700, .inl (fun _ => 0))) := by rw [e246, hu_n ne_aIt_aO2]; exact f_aIt
  have ne_aId_aO2 : aId ≠ aO2 := h_nf hn243 f_aId
  have f_aId : h245 aId = some (.inl ((t 1), 700, .inl (fun _ => 0))) := by rw [e246, hu_n ne_aId_aO2]; exact f_aId
  have ne_aPr_aO2 : aPr ≠ aO2 := h_nf hn243 f_aPr
  have f_aPr : h245 aPr = some (.inl ((t 2), 700, .inl (fun _ => 0))) := by rw [e246, hu_n ne_aPr_aO2]; exact f_aPr
  have ne_aNa_aO2 : aNa ≠ aO2 := h_nf hn243 f_aNa
  have f_aNa : h245 aNa = some (.inl ((t 3), 700, .inr (.inl (fun _ => 0)))) := by rw [e246, hu_n ne_aNa_aO2]; exact f_aNa
  have ne_aSi_aO2 : aSi ≠ aO2 := h_nf hn243 f_aSi
  have f_aSi : h245 aSi = some (.inl ((t 2), 700, .inl (fun _ => 0))) := by rw [e246, hu_n ne_aSi_aO2]; exact f_aSi
  have ne_aSe_aO2 : aSe ≠ aO2 := h_nf hn243 f_aSe
  have f_aSe : h245 aSe = some (.inl ((t 2), 700, .inl (fun _ => 0))) := by rw [e246, hu_n ne_aSe_aO2]; exact f_aSe
  have ne_aIw_aO2 : aIw ≠ aO2 := h_nf hn243 f_aIw
  have f_aIw : h245 aIw = some (.inl ((t 1), 700, .inl (fun _ => 0))) := by rw [e246, hu_n ne_aIw_aO2]; exact f_aIw
  have ne_aEx_aO2 : aEx ≠ aO2 := h_nf hn243 f_aEx
  have f_aEx : h245 aEx = some (.inl ((t 2), 700, .inl (fun _ => 0))) := by rw [e246, hu_n ne_aEx_aO2]; exact f_aEx
  have ne_aOl_aO2 : aOl ≠ aO2 := h_nf hn243 f_aOl
  have f_aOl : h245 aOl = some (.inl ((t 2), 700, .inl (fun _ => 0))) := by rw [e246, hu_n ne_aOl_aO2]; exact f_aOl
  have ne_aPl_aO2 : aPl ≠ aO2 := h_nf hn243 f_aPl
  have f_aPl : h245 aPl = some (.inl ((t 0), 163840, .inl (fun _ => 0))) := by rw [e246, hu_n ne_aPl_aO2]; exact f_aPl
  have ne_aTa_aO2 : aTa ≠ aO2 := h_nf hn243 f_aTa
  have f_aTa : h245 aTa = some (.inl ((t 2), 30, .inl (fun _ => 0))) := by rw [e246, hu_n ne_aTa_aO2]; exact f_aTa
  have ne_aAt_aO2 : aAt ≠ aO2 := h_nf hn243 f_aAt
  have f_aAt : h245 aAt = some (.inl ((t 2), 700, .inl (fun _ => 0))) := by rw [e246, hu_n ne_aAt_aO2]; exact f_aAt
  have ne_aLo_aO2 : aLo ≠ aO2 := h_nf hn243 f_aLo
  have f_aLo : h245 aLo = some (.inl ((t 2), 700, .inl (fun _ => 0))) := by rw [e246, hu_n ne_aLo_aO2]; exact f_aLo
  have f_aO2 : h245 aO2 = some (.inl ((t 1), 31, .inl (fun _ => 0))) := by rw [e246]; exact hu_s _ _ _
  refine hm_putF (ci := 9) (v := .ref aO2) (ty := (.array .boolean)) (C := R_Mo) (T := F_Mo) (N := 41) hx hb hts ig_Mo t_Mo tk_Mo nm_Mo hown hK hH hLo f_m rfl 37 (by decide) (hts _ mw_421) (fun _ h9 => h9) rfl hin rfl (by decide +kernel) rfl rfl (Nat.le_of_ble_eq_true rfl) d_Mo_init_215 (fun H247 locs hH z248 hLo => ?_)
  have hz : s.heap.size ≤ H247.size := by rw [z248]; exact hz
  obtain ⟨h249, e250⟩ : ∃ z, z = hu h245 mo (.inr (9, [.int 0, .int 0, .int 0, .ref aBy, .ref aSt, .ref aDe, .int 0, .int 0, .int 0, .ref aPa, .int 0, .ref aIt, .ref aId, .ref aPr, .ref aNa, .ref aSi, .ref aSe, .ref aIw, .ref aEx, .ref aOl, .int 0, .ref aPl, .int 0, .int 0, .ref aTa, .ref aAt, .ref aLo, .int 0, .int 0, .ref aS1, .ref aS2, .ref aS3, .ref aS4, .ref aS5, .ref aS6, .int 0, .ref aO1, .ref aO2, .null, .null, .null])) := ⟨_, rfl⟩
  have hH : hm D vwCl G h249 H247 := by rw [e250]; exact hH
  have f_aBy : h249 aBy = some (.inl ((t 0), 819200, .inl (fun _ => 0))) := by rw [e250, hu_n (Ne.symm ne_mo_aBy)]; exact f_aBy
  have f_aSt : h249 aSt = some (.inl ((t 0), 400, .inl (fun _ => 0))) := by rw [e250, hu_n (Ne.symm ne_mo_aSt)]; exact f_aSt
  have f_aDe : h249 aDe = some (.inl ((t 1), 200, .inl (fun _ => 0))) := by rw [e250, hu_n (Ne.symm ne_mo_aDe)]; exact f_aDe
  have f_aPa : h249 aPa = some (.inl ((t 0), 2048, .inl (fun _ => 0))) := by rw [e250, hu_n (Ne.symm ne_mo_aPa)]; exact f_aPa
  have f_aIt : h249 aIt = some (.inl ((t 1), 700, .inl (fun _ => 0))) := by rw [e250, hu_n (Ne.symm ne_mo_aIt)]; exact f_aIt
  have f_aId : h249 aId = some (.inl ((t 1), 700, .inl (fun _ => 0))) := by rw [e250, hu_n (Ne.symm ne_mo_aId)]; exact f_aId
  have f_aPr : h249 aPr = some (.inl ((t 2), 700, .inl (fun _ => 0))) := by rw [e250, hu_n (Ne.symm ne_mo_aPr)]; exact f_aPr
  have f_aNa : h249 aNa = some (.inl ((t 3), 700, .inr (.inl (fun _ => 0)))) := by rw [e250, hu_n (Ne.symm ne_mo_aNa)]; exact f_aNa
  have f_aSi : h249 aSi = some (.inl ((t 2), 700, .inl (fun _ => 0))) := by rw [e250, hu_n (Ne.symm ne_mo_aSi)]; exact f_aSi
  have f_aSe : h249 aSe = some (.inl ((t 2), 700, .inl (fun _ => 0))) := by rw [e250, hu_n (Ne.symm ne_mo_aSe)]; exact f_aSe
  have f_aIw : h249 aIw = some (.inl ((t 1), 700, .inl (fun _ => 0))) := by rw [e250, hu_n (Ne.symm ne_mo_aIw)]; exact f_aIw
  have f_aEx : h249 aEx = some (.inl ((t 2), 700, .inl (fun _ => 0))) := by rw [e250, hu_n (Ne.symm ne_mo_aEx)]; exact f_aEx
  have f_aOl : h249 aOl = some (.inl ((t 2), 700, .inl (fun _ => 0))) := by rw [e250, hu_n (Ne.symm ne_mo_aOl)]; exact f_aOl
  have f_aPl : h249 aPl = some (.inl ((t 0), 163840, .inl (fun _ => 0))) := by rw [e250, hu_n (Ne.symm ne_mo_aPl)]; exact f_aPl
  have f_aTa : h249 aTa = some (.inl ((t 2), 30, .inl (fun _ => 0))) := by rw [e250, hu_n (Ne.symm ne_mo_aTa)]; exact f_aTa
  have f_aAt : h249 aAt = some (.inl ((t 2), 700, .inl (fun _ => 0))) := by rw [e250, hu_n (Ne.symm ne_mo_aAt)]; exact f_aAt
  have f_aLo : h249 aLo = some (.inl ((t 2), 700, .inl (fun _ => 0))) := by rw [e250, hu_n (Ne.symm ne_mo_aLo)]; exact f_aLo
  have f_aO2 : h249 aO2 = some (.inl ((t 1), 31, .inl (fun _ => 0))) := by rw [e250, hu_n (Ne.symm ne_mo_aO2)]; exact f_aO2
  have f_m : h249 mo = some (.inr (9, [.int 0, .int 0, .int 0, .ref aBy, .ref aSt, .ref aDe, .int 0, .int 0, .int 0, .ref aPa, .int 0, .ref aIt, .ref aId, .ref aPr, .ref aNa, .ref aSi, .ref aSe, .ref aIw, .ref aEx, .ref aOl, .int 0, .ref aPl, .int 0, .int 0, .ref aTa, .ref aAt, .ref aLo, .int 0, .int 0, .ref aS1, .ref aS2, .ref aS3, .ref aS4, .ref aS5, .ref aS6, .int 0, .ref aO1, .ref aO2, .null, .null, .null])) := by rw [e250]; exact hu_s _ _ _
  have hkp : kp [mo] h h249 := by rw [e250]; exact kp_put hkp (by simp)
  refine lv_aload_n hx hb d_Mo_init_218 rfl (lv_at hl 0 rfl) ?_
  refine lv_bipush (v := 31) hx hb d_Mo_init_219 (by decide) ?_
  refine hm_newa (atype := .int) (ty := .int) (N' := 31) (a0 := (31, .inl (fun _ => 0))) hx hb (hts _ mw_405) rfl hK hH 2 (cA := (t 2)) rfl (hK.2 2 _ rfl).2 (fun _ => rfl) (by decide) (by decide) (by decide) (Nat.le_of_ble_eq_true rfl) (Nat.le_of_ble_eq_true rfl) d_Mo_init_221 (fun aO3 H251 hq252 hn253 hH z254 => ?_)
  have hz : s.heap.size ≤ H251.size := by rw [z254]; exact Nat.le_succ_of_le hz
  obtain ⟨h255, e256⟩ : ∃ z, z = hu h249 aO3 (.inl ((t 2), 31, .inl (fun _ => 0))) := ⟨_, rfl⟩
  have hH : hm D vwCl G h255 H251 := by rw [e256]; exact hH
  have nb_h_aO3 : h aO3 = none := kp_none hkp hn253 (nmc (Ne.symm (h_nf hn253 f_m)) nm0)
  have hkp : kp [mo] h h255 := by rw [e256]; exact kp_new hkp hn253
  have ne_mo_aO3 : mo ≠ aO3 := h_nf hn253 f_m
  have f_m : h255 mo = some (.inr (9, [.int 0, .int 0, .int 0, .ref aBy, .ref aSt, .ref aDe, .int 0, .int 0, .int 0, .ref aPa, .int 0, .ref aIt, .ref aId, .ref aPr, .ref aNa, .ref aSi, .ref aSe, .ref aIw, .ref aEx, .ref aOl, .int 0, .ref aPl, .int 0, .int 0, .ref aTa, .ref aAt, .ref aLo, .int 0, .int 0, .ref aS1, .ref aS2, .ref aS3, .ref aS4, .ref aS5, .ref aS6, .int 0, .ref aO1, .ref aO2, .null, .null, .null])) := by rw [e256, hu_n ne_mo_aO3]; exact f_m
  have ne_aBy_aO3 : aBy ≠ aO3 := h_nf hn253 f_aBy
  have f_aBy : h255 aBy = some (.inl ((t 0), 819200, .inl (fun _ => 0))) := by rw [e256, hu_n ne_aBy_aO3]; exact f_aBy
  have ne_aSt_aO3 : aSt ≠ aO3 := h_nf hn253 f_aSt
  have f_aSt : h255 aSt = some (.inl ((t 0), 400, .inl (fun _ => 0))) := by rw [e256, hu_n ne_aSt_aO3]; exact f_aSt
  have ne_aDe_aO3 : aDe ≠ aO3 := h_nf hn253 f_aDe
  have f_aDe : h255 aDe = some (.inl ((t 1), 200, .inl (fun _ => 0))) := by rw [e256, hu_n ne_aDe_aO3]; exact f_aDe
  have ne_aPa_aO3 : aPa ≠ aO3 := h_nf hn253 f_aPa
  have f_aPa : h255 aPa = some (.inl ((t 0), 2048, .inl (fun _ => 0))) := by rw [e256, hu_n ne_aPa_aO3]; exact f_aPa
  have ne_aIt_aO3 : aIt ≠ aO3 := h_nf hn253 f_aIt
  have f_aIt : h255 aIt = some (.inl ((t 1), 700, .inl (fun _ => 0))) := by rw [e256, hu_n ne_aIt_aO3]; exact f_aIt
  have ne_aId_aO3 : aId ≠ aO3 := h_nf hn253 f_aId
  have f_aId : h255 aId = some (.inl ((t 1), 700, .inl (fun _ => 0))) := by rw [e256, hu_n ne_aId_aO3]; exact f_aId
  have ne_aPr_aO3 : aPr ≠ aO3 := h_nf hn253 f_aPr
  have f_aPr : h255 aPr = some (.inl ((t 2), 700, .inl (fun _ => 0))) := by rw [e256, hu_n ne_aPr_aO3]; exact f_aPr
  have ne_aNa_aO3 : aNa ≠ aO3 := h_nf hn253 f_aNa
  have f_aNa : h255 aNa = some (.inl ((t 3), 700, .inr (.inl (fun _ => 0)))) := by rw [e256, hu_n ne_aNa_aO3]; exact f_aNa
  have ne_aSi_aO3 : aSi ≠ aO3 := h_nf hn253 f_aSi
  have f_aSi : h255 aSi = some (.inl ((t 2), 700, .inl (fun _ => 0))) := by rw [e256, hu_n ne_aSi_aO3]; exact f_aSi
  have ne_aSe_aO3 : aSe ≠ aO3 := h_nf hn253 f_aSe
  have f_aSe : h255 aSe = some (.inl ((t 2), 700, .inl (fun _ => 0))) := by rw [e256, hu_n ne_aSe_aO3]; exact f_aSe
  have ne_aIw_aO3 : aIw ≠ aO3 := h_nf hn253 f_aIw
  have f_aIw : h255 aIw = some (.inl ((t 1), 700, .inl (fun _ => 0))) := by rw [e256, hu_n ne_aIw_aO3]; exact f_aIw
  have ne_aEx_aO3 : aEx ≠ aO3 := h_nf hn253 f_aEx
  have f_aEx : h255 aEx = some (.inl ((t 2), 700, .inl (fun _ => 0))) := by rw [e256, hu_n ne_aEx_aO3]; exact f_aEx
  have ne_aOl_aO3 : aOl ≠ aO3 := h_nf hn253 f_aOl
  have f_aOl : h255 aOl = some (.inl ((t 2), 700, .inl (fun _ => 0))) := by rw [e256, hu_n ne_aOl_aO3]; exact f_aOl
  have ne_aPl_aO3 : aPl ≠ aO3 := h_nf hn253 f_aPl
  have f_aPl : h255 aPl = some (.inl ((t 0), 163840, .inl (fun _ => 0))) := by rw [e256, hu_n ne_aPl_aO3]; exact f_aPl
  have ne_aTa_aO3 : aTa ≠ aO3 := h_nf hn253 f_aTa
  have f_aTa : h255 aTa = some (.inl ((t 2), 30, .inl (fun _ => 0))) := by rw [e256, hu_n ne_aTa_aO3]; exact f_aTa
  have ne_aAt_aO3 : aAt ≠ aO3 := h_nf hn253 f_aAt
  have f_aAt : h255 aAt = some (.inl ((t 2), 700, .inl (fun _ => 0))) := by rw [e256, hu_n ne_aAt_aO3]; exact f_aAt
  have ne_aLo_aO3 : aLo ≠ aO3 := h_nf hn253 f_aLo
  have f_aLo : h255 aLo = some (.inl ((t 2), 700, .inl (fun _ => 0))) := by rw [e256, hu_n ne_aLo_aO3]; exact f_aLo
  have f_aO3 : h255 aO3 = some (.inl ((t 2), 31, .inl (fun _ => 0))) := by rw [e256]; exact hu_s _ _ _
  refine hm_putF (ci := 9) (v := .ref aO3) (ty := (.array .int)) (C := R_Mo) (T := F_Mo) (N := 41) hx hb hts ig_Mo t_Mo tk_Mo nm_Mo hown hK hH hLo f_m rfl 38 (by decide) (hts _ mw_422) (fun _ h9 => h9) rfl hin rfl (by decide +kernel) rfl rfl (Nat.le_of_ble_eq_true rfl) d_Mo_init_223 (fun H257 locs hH z258 hLo => ?_)
  have hz : s.heap.size ≤ H257.size := by rw [z258]; exact hz
  obtain ⟨h259, e260⟩ : ∃ z, z = hu h255 mo (.inr (9, [.int 0, .int 0, .int 0, .ref aBy, .ref aSt, .ref aDe, .int 0, .int 0, .int 0, .ref aPa, .int 0, .ref aIt, .ref aId, .ref aPr, .ref aNa, .ref aSi, .ref aSe, .ref aIw, .ref aEx, .ref aOl, .int 0, .ref aPl, .int 0, .int 0, .ref aTa, .ref aAt, .ref aLo, .int 0, .int 0, .ref aS1, .ref aS2, .ref aS3, .ref aS4, .ref aS5, .ref aS6, .int 0, .ref aO1, .ref aO2, .ref aO3, .null, .null])) := ⟨_, rfl⟩
  have hH : hm D vwCl G h259 H257 := by rw [e260]; exact hH
  have f_aBy : h259 aBy = some (.inl ((t 0), 819200, .inl (fun _ => 0))) := by rw [e260, hu_n (Ne.symm ne_mo_aBy)]; exact f_aBy
  have f_aSt : h259 aSt = some (.inl ((t 0), 400, .inl (fun _ => 0))) := by rw [e260, hu_n (Ne.symm ne_mo_aSt)]; exact f_aSt
  have f_aDe : h259 aDe = some (.inl ((t 1), 200, .inl (fun _ => 0))) := by rw [e260, hu_n (Ne.symm ne_mo_aDe)]; exact f_aDe
  have f_aPa : h259 aPa = some (.inl ((t 0), 2048, .inl (fun _ => 0))) := by rw [e260, hu_n (Ne.symm ne_mo_aPa)]; exact f_aPa
  have f_aIt : h259 aIt = some (.inl ((t 1), 700, .inl (fun _ => 0))) := by rw [e260, hu_n (Ne.symm ne_mo_aIt)]; exact f_aIt
  have f_aId : h259 aId = some (.inl ((t 1), 700, .inl (fun _ => 0))) := by rw [e260, hu_n (Ne.symm ne_mo_aId)]; exact f_aId
  have f_aPr : h259 aPr = some (.inl ((t 2), 700, .inl (fun _ => 0))) := by rw [e260, hu_n (Ne.symm ne_mo_aPr)]; exact f_aPr
  have f_aNa : h259 aNa = some (.inl ((t 3), 700, .inr (.inl (fun _ => 0)))) := by rw [e260, hu_n (Ne.symm ne_mo_aNa)]; exact f_aNa
  have f_aSi : h259 aSi = some (.inl ((t 2), 700, .inl (fun _ => 0))) := by rw [e260, hu_n (Ne.symm ne_mo_aSi)]; exact f_aSi
  have f_aSe : h259 aSe = some (.inl ((t 2), 700, .inl (fun _ => 0))) := by rw [e260, hu_n (Ne.symm ne_mo_aSe)]; exact f_aSe
  have f_aIw : h259 aIw = some (.inl ((t 1), 700, .inl (fun _ => 0))) := by rw [e260, hu_n (Ne.symm ne_mo_aIw)]; exact f_aIw
  have f_aEx : h259 aEx = some (.inl ((t 2), 700, .inl (fun _ => 0))) := by rw [e260, hu_n (Ne.symm ne_mo_aEx)]; exact f_aEx
  have f_aOl : h259 aOl = some (.inl ((t 2), 700, .inl (fun _ => 0))) := by rw [e260, hu_n (Ne.symm ne_mo_aOl)]; exact f_aOl
  have f_aPl : h259 aPl = some (.inl ((t 0), 163840, .inl (fun _ => 0))) := by rw [e260, hu_n (Ne.symm ne_mo_aPl)]; exact f_aPl
  have f_aTa : h259 aTa = some (.inl ((t 2), 30, .inl (fun _ => 0))) := by rw [e260, hu_n (Ne.symm ne_mo_aTa)]; exact f_aTa
  have f_aAt : h259 aAt = some (.inl ((t 2), 700, .inl (fun _ => 0))) := by rw [e260, hu_n (Ne.symm ne_mo_aAt)]; exact f_aAt
  have f_aLo : h259 aLo = some (.inl ((t 2), 700, .inl (fun _ => 0))) := by rw [e260, hu_n (Ne.symm ne_mo_aLo)]; exact f_aLo
  have f_aO3 : h259 aO3 = some (.inl ((t 2), 31, .inl (fun _ => 0))) := by rw [e260, hu_n (Ne.symm ne_mo_aO3)]; exact f_aO3
  have f_m : h259 mo = some (.inr (9, [.int 0, .int 0, .int 0, .ref aBy, .ref aSt, .ref aDe, .int 0, .int 0, .int 0, .ref aPa, .int 0, .ref aIt, .ref aId, .ref aPr, .ref aNa, .ref aSi, .ref aSe, .ref aIw, .ref aEx, .ref aOl, .int 0, .ref aPl, .int 0, .int 0, .ref aTa, .ref aAt, .ref aLo, .int 0, .int 0, .ref aS1, .ref aS2, .ref aS3, .ref aS4, .ref aS5, .ref aS6, .int 0, .ref aO1, .ref aO2, .ref aO3, .null, .null])) := by rw [e260]; exact hu_s _ _ _
  have hkp : kp [mo] h h259 := by rw [e260]; exact kp_put hkp (by simp)
  refine lv_aload_n hx hb d_Mo_init_226 rfl (lv_at hl 0 rfl) ?_
  refine lv_bipush (v := 31) hx hb d_Mo_init_227 (by decide) ?_
  refine hm_newa (atype := .int) (ty := .int) (N' := 31) (a0 := (31, .inl (fun _ => 0))) hx hb (hts _ mw_405) rfl hK hH 2 (cA := (t 2)) rfl (hK.2 2 _ rfl).2 (fun _ => rfl) (by decide) (by decide) (by decide) (Nat.le_of_ble_eq_true rfl) (Nat.le_of_ble_eq_true rfl) d_Mo_init_229 (fun aO4 H261 hq262 hn263 hH z264 => ?_)
  have hz : s.heap.size ≤ H261.size := by rw [z264]; exact Nat.le_succ_of_le hz
  obtain ⟨h265, e266⟩ : ∃ z, z = hu h259 aO4 (.inl ((t 2), 31, .inl (fun _ => 0))) := ⟨_, rfl⟩
  have hH : hm D vwCl G h265 H261 := by rw [e266]; exact hH
  have nb_h_aO4 : h aO4 = none := kp_none hkp hn263 (nmc (Ne.symm (h_nf hn263 f_m)) nm0)
  have hkp : kp [mo] h h265 := by rw [e266]; exact kp_new hkp hn263
  have ne_mo_aO4 : mo ≠ aO4 := h_nf hn263 f_m
  have f_m : h265 mo = some (.inr (9, [.int 0, .int 0, .int 0, .ref aBy, .ref aSt, .ref aDe, .int 0, .int 0, .int 0, .ref aPa, .int 0, .ref aIt, .ref aId, .ref aPr, .ref aNa, .ref aSi, .ref aSe, .ref aIw, .ref aEx, .ref aOl, .int 0, .ref aPl, .int 0, .int 0, .ref aTa, .ref aAt, .ref aLo, .int 0, .int 0, .ref aS1, .ref aS2, .ref aS3, .ref aS4, .ref aS5, .ref aS6, .int 0, .ref aO1, .ref aO2, .ref aO3, .null, .null])) := by rw [e266, hu_n ne_mo_aO4]; exact f_m
  have ne_aBy_aO4 : aBy ≠ aO4 := h_nf hn263 f_aBy
  have f_aBy : h265 aBy = some (.inl ((t 0), 819200, .inl (fun _ => 0))) := by rw [e266, hu_n ne_aBy_aO4]; exact f_aBy
  have ne_aSt_aO4 : aSt ≠ aO4 := h_nf hn263 f_aSt
  have f_aSt : h265 aSt = some (.inl ((t 0), 400, .inl (fun _ => 0))) := by rw [e266, hu_n ne_aSt_aO4]; exact f_aSt
  have ne_aDe_aO4 : aDe ≠ aO4 := h_nf hn263 f_aDe
  have f_aDe : h265 aDe = some (.inl ((t 1), 200, .inl (fun _ => 0))) := by rw [e266, hu_n ne_aDe_aO4]; exact f_aDe
  have ne_aPa_aO4 : aPa ≠ aO4 := h_nf hn263 f_aPa
  have f_aPa : h265 aPa = some (.inl ((t 0), 2048, .inl (fun _ => 0))) := by rw [e266, hu_n ne_aPa_aO4]; exact f_aPa
  have ne_aIt_aO4 : aIt ≠ aO4 := h_nf hn263 f_aIt
  have f_aIt : h265 aIt = some (.inl ((t 1), 700, .inl (fun _ => 0))) := by rw [e266, hu_n ne_aIt_aO4]; exact f_aIt
  have ne_aId_aO4 : aId ≠ aO4 := h_nf hn263 f_aId
  have f_aId : h265 aId = some (.inl ((t 1), 700, .inl (fun _ => 0))) := by rw [e266, hu_n ne_aId_aO4]; exact f_aId
  have ne_aPr_aO4 : aPr ≠ aO4 := h_nf hn263 f_aPr
  have f_aPr : h265 aPr = some (.inl ((t 2), 700, .inl (fun _ => 0))) := by rw [e266, hu_n ne_aPr_aO4]; exact f_aPr
  have ne_aNa_aO4 : aNa ≠ aO4 := h_nf hn263 f_aNa
  have f_aNa : h265 aNa = some (.inl ((t 3), 700, .inr (.inl (fun _ => 0)))) := by rw [e266, hu_n ne_aNa_aO4]; exact f_aNa
  have ne_aSi_aO4 : aSi ≠ aO4 := h_nf hn263 f_aSi
  have f_aSi : h265 aSi = some (.inl ((t 2), 700, .inl (fun _ => 0))) := by rw [e266, hu_n ne_aSi_aO4]; exact f_aSi
  have ne_aSe_aO4 : aSe ≠ aO4 := h_nf hn263 f_aSe
  have f_aSe : h265 aSe = some (.inl ((t 2), 700, .inl (fun _ => 0))) := by rw [e266, hu_n ne_aSe_aO4]; exact f_aSe
  have ne_aIw_aO4 : aIw ≠ aO4 := h_nf hn263 f_aIw
  have f_aIw : h265 aIw = some (.inl ((t 1), 700, .inl (fun _ => 0))) := by rw [e266, hu_n ne_aIw_aO4]; exact f_aIw
  have ne_aEx_aO4 : aEx ≠ aO4 := h_nf hn263 f_aEx
  have f_aEx : h265 aEx = some (.inl ((t 2), 700, .inl (fun _ => 0))) := by rw [e266, hu_n ne_aEx_aO4]; exact f_aEx
  have ne_aOl_aO4 : aOl ≠ aO4 := h_nf hn263 f_aOl
  have f_aOl : h265 aOl = some (.inl ((t 2), 700, .inl (fun _ => 0))) := by rw [e266, hu_n ne_aOl_aO4]; exact f_aOl
  have ne_aPl_aO4 : aPl ≠ aO4 := h_nf hn263 f_aPl
  have f_aPl : h265 aPl = some (.inl ((t 0), 163840, .inl (fun _ => 0))) := by rw [e266, hu_n ne_aPl_aO4]; exact f_aPl
  have ne_aTa_aO4 : aTa ≠ aO4 := h_nf hn263 f_aTa
  have f_aTa : h265 aTa = some (.inl ((t 2), 30, .inl (fun _ => 0))) := by rw [e266, hu_n ne_aTa_aO4]; exact f_aTa
  have ne_aAt_aO4 : aAt ≠ aO4 := h_nf hn263 f_aAt
  have f_aAt : h265 aAt = some (.inl ((t 2), 700, .inl (fun _ => 0))) := by rw [e266, hu_n ne_aAt_aO4]; exact f_aAt
  have ne_aLo_aO4 : aLo ≠ aO4 := h_nf hn263 f_aLo
  have f_aLo : h265 aLo = some (.inl ((t 2), 700, .inl (fun _ => 0))) := by rw [e266, hu_n ne_aLo_aO4]; exact f_aLo
  have f_aO4 : h265 aO4 = some (.inl ((t 2), 31, .inl (fun _ => 0))) := by rw [e266]; exact hu_s _ _ _
  refine hm_putF (ci := 9) (v := .ref aO4) (ty := (.array .int)) (C := R_Mo) (T := F_Mo) (N := 41) hx hb hts ig_Mo t_Mo tk_Mo nm_Mo hown hK hH hLo f_m rfl 39 (by decide) (hts _ mw_423) (fun _ h9 => h9) rfl hin rfl (by decide +kernel) rfl rfl (Nat.le_of_ble_eq_true rfl) d_Mo_init_231 (fun H267 locs hH z268 hLo => ?_)
  have hz : s.heap.size ≤ H267.size := by rw [z268]; exact hz
  obtain ⟨h269, e270⟩ : ∃ z, z = hu h265 mo (.inr (9, [.int 0, .int 0, .int 0, .ref aBy, .ref aSt, .ref aDe, .int 0, .int 0, .int 0, .ref aPa, .int 0, .ref aIt, .ref aId, .ref aPr, .ref aNa, .ref aSi, .ref aSe, .ref aIw, .ref aEx, .ref aOl, .int 0, .ref aPl, .int 0, .int 0, .ref aTa, .ref aAt, .ref aLo, .int 0, .int 0, .ref aS1, .ref aS2, .ref aS3, .ref aS4, .ref aS5, .ref aS6, .int 0, .ref aO1, .ref aO2, .ref aO3, .ref aO4, .null])) := ⟨_, rfl⟩
  have hH : hm D vwCl G h269 H267 := by rw [e270]; exact hH
  have f_aBy : h269 aBy = some (.inl ((t 0), 819200, .inl (fun _ => 0))) := by rw [e270, hu_n (Ne.symm ne_mo_aBy)]; exact f_aBy
  have f_aSt : h269 aSt = some (.inl ((t 0), 400, .inl (fun _ => 0))) := by rw [e270, hu_n (Ne.symm ne_mo_aSt)]; exact f_aSt
  have f_aDe : h269 aDe = some (.inl ((t 1), 200, .inl (fun _ => 0))) := by rw [e270, hu_n (Ne.symm ne_mo_aDe)]; exact f_aDe
  have f_aPa : h269 aPa = some (.inl ((t 0), 2048, .inl (fun _ => 0))) := by rw [e270, hu_n (Ne.symm ne_mo_aPa)]; exact f_aPa
  have f_aIt : h269 aIt = some (.inl ((t 1), 700, .inl (fun _ => 0))) := by rw [e270, hu_n (Ne.symm ne_mo_aIt)]; exact f_aIt
  have f_aId : h269 aId = some (.inl ((t 1), 700, .inl (fun _ => 0))) := by rw [e270, hu_n (Ne.symm ne_mo_aId)]; exact f_aId
  have f_aPr : h269 aPr = some (.inl ((t 2), 700, .inl (fun _ => 0))) := by rw [e270, hu_n (Ne.symm ne_mo_aPr)]; exact f_aPr
  have f_aNa : h269 aNa = some (.inl ((t 3), 700, .inr (.inl (fun _ => 0)))) := by rw [e270, hu_n (Ne.symm ne_mo_aNa)]; exact f_aNa
  have f_aSi : h269 aSi = some (.inl ((t 2), 700, .inl (fun _ => 0))) := by rw [e270, hu_n (Ne.symm ne_mo_aSi)]; exact f_aSi
  have f_aSe : h269 aSe = some (.inl ((t 2), 700, .inl (fun _ => 0))) := by rw [e270, hu_n (Ne.symm ne_mo_aSe)]; exact f_aSe
  have f_aIw : h269 aIw = some (.inl ((t 1), 700, .inl (fun _ => 0))) := by rw [e270, hu_n (Ne.symm ne_mo_aIw)]; exact f_aIw
  have f_aEx : h269 aEx = some (.inl ((t 2), 700, .inl (fun _ => 0))) := by rw [e270, hu_n (Ne.symm ne_mo_aEx)]; exact f_aEx
  have f_aOl : h269 aOl = some (.inl ((t 2), 700, .inl (fun _ => 0))) := by rw [e270, hu_n (Ne.symm ne_mo_aOl)]; exact f_aOl
  have f_aPl : h269 aPl = some (.inl ((t 0), 163840, .inl (fun _ => 0))) := by rw [e270, hu_n (Ne.symm ne_mo_aPl)]; exact f_aPl
  have f_aTa : h269 aTa = some (.inl ((t 2), 30, .inl (fun _ => 0))) := by rw [e270, hu_n (Ne.symm ne_mo_aTa)]; exact f_aTa
  have f_aAt : h269 aAt = some (.inl ((t 2), 700, .inl (fun _ => 0))) := by rw [e270, hu_n (Ne.symm ne_mo_aAt)]; exact f_aAt
  have f_aLo : h269 aLo = some (.inl ((t 2), 700, .inl (fun _ => 0))) := by rw [e270, hu_n (Ne.symm ne_mo_aLo)]; exact f_aLo
  have f_aO4 : h269 aO4 = some (.inl ((t 2), 31, .inl (fun _ => 0))) := by rw [e270, hu_n (Ne.symm ne_mo_aO4)]; exact f_aO4
  have f_m : h269 mo = some (.inr (9, [.int 0, .int 0, .int 0, .ref aBy, .ref aSt, .ref aDe, .int 0, .int 0, .int 0, .ref aPa, .int 0, .ref aIt, .ref aId, .ref aPr, .ref aNa, .ref aSi, .ref aSe, .ref aIw, .ref aEx, .ref aOl, .int 0, .ref aPl, .int 0, .int 0, .ref aTa, .ref aAt, .ref aLo, .int 0, .int 0, .ref aS1, .ref aS2, .ref aS3, .ref aS4, .ref aS5, .ref aS6, .int 0, .ref aO1, .ref aO2, .ref aO3, .ref aO4, .null])) := by rw [e270]; exact hu_s _ _ _
  have hkp : kp [mo] h h269 := by rw [e270]; exact kp_put hkp (by simp)
  refine lv_aload_n hx hb d_Mo_init_234 rfl (lv_at hl 0 rfl) ?_
  refine lv_bipush (v := 31) hx hb d_Mo_init_235 (by decide) ?_
  refine hm_newa (atype := .long) (ty := .long) (N' := 31) (a0 := (31, .inr (.inl (fun _ => 0)))) hx hb (hts _ mw_406) rfl hK hH 3 (cA := (t 3)) rfl (hK.2 3 _ rfl).2 (fun _ => rfl) (by decide) (by decide) (by decide) (Nat.le_of_ble_eq_true rfl) (Nat.le_of_ble_eq_true rfl) d_Mo_init_237 (fun aO5 H271 hq272 hn273 hH z274 => ?_)
  have hz : s.heap.size ≤ H271.size := by rw [z274]; exact Nat.le_succ_of_le hz
  obtain ⟨h275, e276⟩ : ∃ z, z = hu h269 aO5 (.inl ((t 3), 31, .inr (.inl (fun _ => 0)))) := ⟨_, rfl⟩
  have hH : hm D vwCl G h275 H271 := by rw [e276]; exact hH
  have nb_h_aO5 : h aO5 = none := kp_none hkp hn273 (nmc (Ne.symm (h_nf hn273 f_m)) nm0)
  have hkp : kp [mo] h h275 := by rw [e276]; exact kp_new hkp hn273
  have ne_mo_aO5 : mo ≠ aO5 := h_nf hn273 f_m
  have f_m : h275 mo = some (.inr (9, [.int 0, .int 0, .int 0, .ref aBy, .ref aSt, .ref aDe, .int 0, .int 0, .int 0, .ref aPa, .int 0, .ref aIt, .ref aId, .ref aPr, .ref aNa, .ref aSi, .ref aSe, .ref aIw, .ref aEx, .ref aOl, .int 0, .ref aPl, .int 0, .int 0, .ref aTa, .ref aAt, .ref aLo, .int 0, .int 0, .ref aS1, .ref aS2, .ref aS3, .ref aS4, .ref aS5, .ref aS6, .int 0, .ref aO1, .ref aO2, .ref aO3, .ref aO4, .null])) := by rw [e276, hu_n ne_mo_aO5]; exact f_m
  have ne_aBy_aO5 : aBy ≠ aO5 := h_nf hn273 f_aBy
  have f_aBy : h275 aBy = some (.inl ((t 0), 819200, .inl (fun _ => 0))) := by rw [e276, hu_n ne_aBy_aO5]; exact f_aBy
  have ne_aSt_aO5 : aSt ≠ aO5 := h_nf hn273 f_aSt
  have f_aSt : h275 aSt = some (.inl ((t 0), 400, .inl (fun _ => 0))) := by rw [e276, hu_n ne_aSt_aO5]; exact f_aSt
  have ne_aDe_aO5 : aDe ≠ aO5 := h_nf hn273 f_aDe
  have f_aDe : h275 aDe = some (.inl ((t 1), 200, .inl (fun _ => 0))) := by rw [e276, hu_n ne_aDe_aO5]; exact f_aDe
  have ne_aPa_aO5 : aPa ≠ aO5 := h_nf hn273 f_aPa
  have f_aPa : h275 aPa = some (.inl ((t 0), 2048, .inl (fun _ => 0))) := by rw [e276, hu_n ne_aPa_aO5]; exact f_aPa
  have ne_aIt_aO5 : aIt ≠ aO5 := h_nf hn273 f_aIt
  have f_aIt : h275 aIt = some (.inl ((t 1), 700, .inl (fun _ => 0))) := by rw [e276, hu_n ne_aIt_aO5]; exact f_aIt
  have ne_aId_aO5 : aId ≠ aO5 := h_nf hn273 f_aId
  have f_aId : h275 aId = some (.inl ((t 1), 700, .inl (fun _ => 0))) := by rw [e276, hu_n ne_aId_aO5]; exact f_aId
  have ne_aPr_aO5 : aPr ≠ aO5 := h_nf hn273 f_aPr
  have f_aPr : h275 aPr = some (.inl ((t 2), 700, .inl (fun _ => 0))) := by rw [e276, hu_n ne_aPr_aO5]; exact f_aPr
  have ne_aNa_aO5 : aNa ≠ aO5 := h_nf hn273 f_aNa
  have f_aNa : h275 aNa = some (.inl ((t 3), 700, .inr (.inl (fun _ => 0)))) := by rw [e276, hu_n ne_aNa_aO5]; exact f_aNa
  have ne_aSi_aO5 : aSi ≠ aO5 := h_nf hn273 f_aSi
  have f_aSi : h275 aSi = some (.inl ((t 2), 700, .inl (fun _ => 0))) := by rw [e276, hu_n ne_aSi_aO5]; exact f_aSi
  have ne_aSe_aO5 : aSe ≠ aO5 := h_nf hn273 f_aSe
  have f_aSe : h275 aSe = some (.inl ((t 2), 700, .inl (fun _ => 0))) := by rw [e276, hu_n ne_aSe_aO5]; exact f_aSe
  have ne_aIw_aO5 : aIw ≠ aO5 := h_nf hn273 f_aIw
  have f_aIw : h275 aIw = some (.inl ((t 1), 700, .inl (fun _ => 0))) := by rw [e276, hu_n ne_aIw_aO5]; exact f_aIw
  have ne_aEx_aO5 : aEx ≠ aO5 := h_nf hn273 f_aEx
  have f_aEx : h275 aEx = some (.inl ((t 2), 700, .inl (fun _ => 0))) := by rw [e276, hu_n ne_aEx_aO5]; exact f_aEx
  have ne_aOl_aO5 : aOl ≠ aO5 := h_nf hn273 f_aOl
  have f_aOl : h275 aOl = some (.inl ((t 2), 700, .inl (fun _ => 0))) := by rw [e276, hu_n ne_aOl_aO5]; exact f_aOl
  have ne_aPl_aO5 : aPl ≠ aO5 := h_nf hn273 f_aPl
  have f_aPl : h275 aPl = some (.inl ((t 0), 163840, .inl (fun _ => 0))) := by rw [e276, hu_n ne_aPl_aO5]; exact f_aPl
  have ne_aTa_aO5 : aTa ≠ aO5 := h_nf hn273 f_aTa
  have f_aTa : h275 aTa = some (.inl ((t 2), 30, .inl (fun _ => 0))) := by rw [e276, hu_n ne_aTa_aO5]; exact f_aTa
  have ne_aAt_aO5 : aAt ≠ aO5 := h_nf hn273 f_aAt
  have f_aAt : h275 aAt = some (.inl ((t 2), 700, .inl (fun _ => 0))) := by rw [e276, hu_n ne_aAt_aO5]; exact f_aAt
  have ne_aLo_aO5 : aLo ≠ aO5 := h_nf hn273 f_aLo
  have f_aLo : h275 aLo = some (.inl ((t 2), 700, .inl (fun _ => 0))) := by rw [e276, hu_n ne_aLo_aO5]; exact f_aLo
  have f_aO5 : h275 aO5 = some (.inl ((t 3), 31, .inr (.inl (fun _ => 0)))) := by rw [e276]; exact hu_s _ _ _
  refine hm_putF (ci := 9) (v := .ref aO5) (ty := (.array .long)) (C := R_Mo) (T := F_Mo) (N := 41) hx hb hts ig_Mo t_Mo tk_Mo nm_Mo hown hK hH hLo f_m rfl 40 (by decide) (hts _ mw_424) (fun _ h9 => h9) rfl hin rfl (by decide +kernel) rfl rfl (Nat.le_of_ble_eq_true rfl) d_Mo_init_239 (fun H277 locs hH z278 hLo => ?_)
  have hz : s.heap.size ≤ H277.size := by rw [z278]; exact hz
  obtain ⟨h279, e280⟩ : ∃ z, z = hu h275 mo (.inr (9, [.int 0, .int 0, .int 0, .ref aBy, .ref aSt, .ref aDe, .int 0, .int 0, .int 0, .ref aPa, .int 0, .ref aIt, .ref aId, .ref aPr, .ref aNa, .ref aSi, .ref aSe, .ref aIw, .ref aEx, .ref aOl, .int 0, .ref aPl, .int 0, .int 0, .ref aTa, .ref aAt, .ref aLo, .int 0, .int 0, .ref aS1, .ref aS2, .ref aS3, .ref aS4, .ref aS5, .ref aS6, .int 0, .ref aO1, .ref aO2, .ref aO3, .ref aO4, .ref aO5])) := ⟨_, rfl⟩
  have hH : hm D vwCl G h279 H277 := by rw [e280]; exact hH
  have f_aBy : h279 aBy = some (.inl ((t 0), 819200, .inl (fun _ => 0))) := by rw [e280, hu_n (Ne.symm ne_mo_aBy)]; exact f_aBy
  have f_aSt : h279 aSt = some (.inl ((t 0), 400, .inl (fun _ => 0))) := by rw [e280, hu_n (Ne.symm ne_mo_aSt)]; exact f_aSt
  have f_aDe : h279 aDe = some (.inl ((t 1), 200, .inl (fun _ => 0))) := by rw [e280, hu_n (Ne.symm ne_mo_aDe)]; exact f_aDe
  have f_aPa : h279 aPa = some (.inl ((t 0), 2048, .inl (fun _ => 0))) := by rw [e280, hu_n (Ne.symm ne_mo_aPa)]; exact f_aPa
  have f_aIt : h279 aIt = some (.inl ((t 1), 700, .inl (fun _ => 0))) := by rw [e280, hu_n (Ne.symm ne_mo_aIt)]; exact f_aIt
  have f_aId : h279 aId = some (.inl ((t 1), 700, .inl (fun _ => 0))) := by rw [e280, hu_n (Ne.symm ne_mo_aId)]; exact f_aId
  have f_aPr : h279 aPr = some (.inl ((t 2), 700, .inl (fun _ => 0))) := by rw [e280, hu_n (Ne.symm ne_mo_aPr)]; exact f_aPr
  have f_aNa : h279 aNa = some (.inl ((t 3), 700, .inr (.inl (fun _ => 0)))) := by rw [e280, hu_n (Ne.symm ne_mo_aNa)]; exact f_aNa
  have f_aSi : h279 aSi = some (.inl ((t 2), 700, .inl (fun _ => 0))) := by rw [e280, hu_n (Ne.symm ne_mo_aSi)]; exact f_aSi
  have f_aSe : h279 aSe = some (.inl ((t 2), 700, .inl (fun _ => 0))) := by rw [e280, hu_n (Ne.symm ne_mo_aSe)]; exact f_aSe
  have f_aIw : h279 aIw = some (.inl ((t 1), 700, .inl (fun _ => 0))) := by rw [e280, hu_n (Ne.symm ne_mo_aIw)]; exact f_aIw
  have f_aEx : h279 aEx = some (.inl ((t 2), 700, .inl (fun _ => 0))) := by rw [e280, hu_n (Ne.symm ne_mo_aEx)]; exact f_aEx
  have f_aOl : h279 aOl = some (.inl ((t 2), 700, .inl (fun _ => 0))) := by rw [e280, hu_n (Ne.symm ne_mo_aOl)]; exact f_aOl
  have f_aPl : h279 aPl = some (.inl ((t 0), 163840, .inl (fun _ => 0))) := by rw [e280, hu_n (Ne.symm ne_mo_aPl)]; exact f_aPl
  have f_aTa : h279 aTa = some (.inl ((t 2), 30, .inl (fun _ => 0))) := by rw [e280, hu_n (Ne.symm ne_mo_aTa)]; exact f_aTa
  have f_aAt : h279 aAt = some (.inl ((t 2), 700, .inl (fun _ => 0))) := by rw [e280, hu_n (Ne.symm ne_mo_aAt)]; exact f_aAt
  have f_aLo : h279 aLo = some (.inl ((t 2), 700, .inl (fun _ => 0))) := by rw [e280, hu_n (Ne.symm ne_mo_aLo)]; exact f_aLo
  have f_aO5 : h279 aO5 = some (.inl ((t 3), 31, .inr (.inl (fun _ => 0)))) := by rw [e280, hu_n (Ne.symm ne_mo_aO5)]; exact f_aO5
  have f_m : h279 mo = some (.inr (9, [.int 0, .int 0, .int 0, .ref aBy, .ref aSt, .ref aDe, .int 0, .int 0, .int 0, .ref aPa, .int 0, .ref aIt, .ref aId, .ref aPr, .ref aNa, .ref aSi, .ref aSe, .ref aIw, .ref aEx, .ref aOl, .int 0, .ref aPl, .int 0, .int 0, .ref aTa, .ref aAt, .ref aLo, .int 0, .int 0, .ref aS1, .ref aS2, .ref aS3, .ref aS4, .ref aS5, .ref aS6, .int 0, .ref aO1, .ref aO2, .ref aO3, .ref aO4, .ref aO5])) := by rw [e280]; exact hu_s _ _ _
  have hkp : kp [mo] h h279 := by rw [e280]; exact kp_put hkp (by simp)
  refine lv_aload_n hx hb d_Mo_init_242 rfl (lv_at hl 0 rfl) ?_
  refine lv_iload_n hx hb d_Mo_init_243 rfl (lv_at hl 1 rfl) ?_
  refine lv_bipush (v := 40) hx hb d_Mo_init_244 (by decide) ?_
  refine lv_icmp_lt (tgt := 260) hx hb d_Mo_init_246 (by decide) (fun hc281 => ?_) (fun hc281 => ?_)
  · skip
    have hz9 := nsz_lo hc281
    refine lv_bipush (v := 100) hx hb d_Mo_init_260 (by decide) ?_
    refine lv_topi (fun v282 e283 => ?_)
    obtain rfl : v282 = nI 100 := e283.trans (by decide)
    refine hm_putF (ci := 9) (v := .int (nI 100)) (ty := .int) (C := R_Mo) (T := F_Mo) (N := 41) hx hb hts ig_Mo t_Mo tk_Mo nm_Mo hown hK hH hLo f_m rfl 1 (by decide) (hts _ mw_425) (fun _ h9 => h9) rfl hin rfl (by decide +kernel) rfl rfl (Nat.le_of_ble_eq_true rfl) d_Mo_init_262 (fun H284 locs hH z285 hLo => ?_)
    have hz : s.heap.size ≤ H284.size := by rw [z285]; exact hz
    obtain ⟨h286, e287⟩ : ∃ z, z = hu h279 mo (.inr (9, [.int 0, .int (nI 100), .int 0, .ref aBy, .ref aSt, .ref aDe, .int 0, .int 0, .int 0, .ref aPa, .int 0, .ref aIt, .ref aId, .ref aPr, .ref aNa, .ref aSi, .ref aSe, .ref aIw, .ref aEx, .ref aOl, .int 0, .ref aPl, .int 0, .int 0, .ref aTa, .ref aAt, .ref aLo, .int 0, .int 0, .ref aS1, .ref aS2, .ref aS3, .ref aS4, .ref aS5, .ref aS6, .int 0, .ref aO1, .ref aO2, .ref aO3, .ref aO4, .ref aO5])) := ⟨_, rfl⟩
    have hH : hm D vwCl G h286 H284 := by rw [e287]; exact hH
    have f_aBy : h286 aBy = some (.inl ((t 0), 819200, .inl (fun _ => 0))) := by rw [e287, hu_n (Ne.symm ne_mo_aBy)]; exact f_aBy
    have f_aSt : h286 aSt = some (.inl ((t 0), 400, .inl (fun _ => 0))) := by rw [e287, hu_n (Ne.symm ne_mo_aSt)]; exact f_aSt
    have f_aDe : h286 aDe = some (.inl ((t 1), 200, .inl (fun _ => 0))) := by rw [e287, hu_n (Ne.symm ne_mo_aDe)]; exact f_aDe
    have f_aPa : h286 aPa = some (.inl ((t 0), 2048, .inl (fun _ => 0))) := by rw [e287, hu_n (Ne.symm ne_mo_aPa)]; exact f_aPa
    have f_aIt : h286 aIt = some (.inl ((t 1), 700, .inl (fun _ => 0))) := by rw [e287, hu_n (Ne.symm ne_mo_aIt)]; exact f_aIt
    have f_aId : h286 aId = some (.inl ((t 1), 700, .inl (fun _ => 0))) := by rw [e287, hu_n (Ne.symm ne_mo_aId)]; exact f_aId
    have f_aPr : h286 aPr = some (.inl ((t 2), 700, .inl (fun _ => 0))) := by rw [e287, hu_n (Ne.symm ne_mo_aPr)]; exact f_aPr
    have f_aNa : h286 aNa = some (.inl ((t 3), 700, .inr (.inl (fun _ => 0)))) := by rw [e287, hu_n (Ne.symm ne_mo_aNa)]; exact f_aNa
    have f_aSi : h286 aSi = some (.inl ((t 2), 700, .inl (fun _ => 0))) := by rw [e287, hu_n (Ne.symm ne_mo_aSi)]; exact f_aSi
    have f_aSe : h286 aSe = some (.inl ((t 2), 700, .inl (fun _ => 0))) := by rw [e287, hu_n (Ne.symm ne_mo_aSe)]; exact f_aSe
    have f_aIw : h286 aIw = some (.inl ((t 1), 700, .inl (fun _ => 0))) := by rw [e287, hu_n (Ne.symm ne_mo_aIw)]; exact f_aIw
    have f_aEx : h286 aEx = some (.inl ((t 2), 700, .inl (fun _ => 0))) := by rw [e287, hu_n (Ne.symm ne_mo_aEx)]; exact f_aEx
    have f_aOl : h286 aOl = some (.inl ((t 2), 700, .inl (fun _ => 0))) := by rw [e287, hu_n (Ne.symm ne_mo_aOl)]; exact f_aOl
    have f_aPl : h286 aPl = some (.inl ((t 0), 163840, .inl (fun _ => 0))) := by rw [e287, hu_n (Ne.symm ne_mo_aPl)]; exact f_aPl
    have f_aTa : h286 aTa = some (.inl ((t 2), 30, .inl (fun _ => 0))) := by rw [e287, hu_n (Ne.symm ne_mo_aTa)]; exact f_aTa
    have f_aAt : h286 aAt = some (.inl ((t 2), 700, .inl (fun _ => 0))) := by rw [e287, hu_n (Ne.symm ne_mo_aAt)]; exact f_aAt
    have f_aLo : h286 aLo = some (.inl ((t 2), 700, .inl (fun _ => 0))) := by rw [e287, hu_n (Ne.symm ne_mo_aLo)]; exact f_aLo
    have f_m : h286 mo = some (.inr (9, [.int 0, .int (nI 100), .int 0, .ref aBy, .ref aSt, .ref aDe, .int 0, .int 0, .int 0, .ref aPa, .int 0, .ref aIt, .ref aId, .ref aPr, .ref aNa, .ref aSi, .ref aSe, .ref aIw, .ref aEx, .ref aOl, .int 0, .ref aPl, .int 0, .int 0, .ref aTa, .ref aAt, .ref aLo, .int 0, .int 0, .ref aS1, .ref aS2, .ref aS3, .ref aS4, .ref aS5, .ref aS6, .int 0, .ref aO1, .ref aO2, .ref aO3, .ref aO4, .ref aO5])) := by rw [e287]; exact hu_s _ _ _
    have hkp : kp [mo] h h286 := by rw [e287]; exact kp_put hkp (by simp)
    refine lv_aload_n hx hb d_Mo_init_265 rfl (lv_at hl 0 rfl) ?_
    refine lv_iconst (v := -1) hx hb d_Mo_init_266 (by decide) ?_
    refine hm_put (ci := 9) (v := .int (-1)) (ty := .int) (C := R_Mo) (T := F_Mo) (N := 41) hx hb hts ig_Mo t_Mo tk_Mo nm_Mo hown hK hH hLo f_m rfl 7 (by decide) (hts _ mw_426) (fun _ h9 => h9) rfl (by decide +kernel) rfl rfl (Nat.le_of_ble_eq_true rfl) d_Mo_init_267 (fun H288 locs hH z289 hLo => ?_)
    have hz : s.heap.size ≤ H288.size := by rw [z289]; exact hz
    obtain ⟨h290, e291⟩ : ∃ z, z = hu h286 mo (.inr (9, [.int 0, .int (nI 100), .int 0, .ref aBy, .ref aSt, .ref aDe, .int 0, .int (-1), .int 0, .ref aPa, .int 0, .ref aIt, .ref aId, .ref aPr, .ref aNa, .ref aSi, .ref aSe, .ref aIw, .ref aEx, .ref aOl, .int 0, .ref aPl, .int 0, .int 0, .ref aTa, .ref aAt, .ref aLo, .int 0, .int 0, .ref aS1, .ref aS2, .ref aS3, .ref aS4, .ref aS5, .ref aS6, .int 0, .ref aO1, .ref aO2, .ref aO3, .ref aO4, .ref aO5])) := ⟨_, rfl⟩
    have hH : hm D vwCl G h290 H288 := by rw [e291]; exact hH
    have f_aBy : h290 aBy = some (.inl ((t 0), 819200, .inl (fun _ => 0))) := by rw [e291, hu_n (Ne.symm ne_mo_aBy)]; exact f_aBy
    have f_aSt : h290 aSt = some (.inl ((t 0), 400, .inl (fun _ => 0))) := by rw [e291, hu_n (Ne.symm ne_mo_aSt)]; exact f_aSt
    have f_aDe : h290 aDe = some (.inl ((t 1), 200, .inl (fun _ => 0))) := by rw [e291, hu_n (Ne.symm ne_mo_aDe)]; exact f_aDe
    have f_aPa : h290 aPa = some (.inl ((t 0), 2048, .inl (fun _ => 0))) := by rw [e291, hu_n (Ne.symm ne_mo_aPa)]; exact f_aPa
    have f_aIt : h290 aIt = some (.inl ((t 1), 700, .inl (fun _ => 0))) := by rw [e291, hu_n (Ne.symm ne_mo_aIt)]; exact f_aIt
    have f_aId : h290 aId = some (.inl ((t 1), 700, .inl (fun _ => 0))) := by rw [e291, hu_n (Ne.symm ne_mo_aId)]; exact f_aId
    have f_aPr : h290 aPr = some (.inl ((t 2), 700, .inl (fun _ => 0))) := by rw [e291, hu_n (Ne.symm ne_mo_aPr)]; exact f_aPr
    have f_aNa : h290 aNa = some (.inl ((t 3), 700, .inr (.inl (fun _ => 0)))) := by rw [e291, hu_n (Ne.symm ne_mo_aNa)]; exact f_aNa
    have f_aSi : h290 aSi = some (.inl ((t 2), 700, .inl (fun _ => 0))) := by rw [e291, hu_n (Ne.symm ne_mo_aSi)]; exact f_aSi
    have f_aSe : h290 aSe = some (.inl ((t 2), 700, .inl (fun _ => 0))) := by rw [e291, hu_n (Ne.symm ne_mo_aSe)]; exact f_aSe
    have f_aIw : h290 aIw = some (.inl ((t 1), 700, .inl (fun _ => 0))) := by rw [e291, hu_n (Ne.symm ne_mo_aIw)]; exact f_aIw
    have f_aEx : h290 aEx = some (.inl ((t 2), 700, .inl (fun _ => 0))) := by rw [e291, hu_n (Ne.symm ne_mo_aEx)]; exact f_aEx
    have f_aOl : h290 aOl = some (.inl ((t 2), 700, .inl (fun _ => 0))) := by rw [e291, hu_n (Ne.symm ne_mo_aOl)]; exact f_aOl
    have f_aPl : h290 aPl = some (.inl ((t 0), 163840, .inl (fun _ => 0))) := by rw [e291, hu_n (Ne.symm ne_mo_aPl)]; exact f_aPl
    have f_aTa : h290 aTa = some (.inl ((t 2), 30, .inl (fun _ => 0))) := by rw [e291, hu_n (Ne.symm ne_mo_aTa)]; exact f_aTa
    have f_aAt : h290 aAt = some (.inl ((t 2), 700, .inl (fun _ => 0))) := by rw [e291, hu_n (Ne.symm ne_mo_aAt)]; exact f_aAt
    have f_aLo : h290 aLo = some (.inl ((t 2), 700, .inl (fun _ => 0))) := by rw [e291, hu_n (Ne.symm ne_mo_aLo)]; exact f_aLo
    have f_m : h290 mo = some (.inr (9, [.int 0, .int (nI 100), .int 0, .ref aBy, .ref aSt, .ref aDe, .int 0, .int (-1), .int 0, .ref aPa, .int 0, .ref aIt, .ref aId, .ref aPr, .ref aNa, .ref aSi, .ref aSe, .ref aIw, .ref aEx, .ref aOl, .int 0, .ref aPl, .int 0, .int 0, .ref aTa, .ref aAt, .ref aLo, .int 0, .int 0, .ref aS1, .ref aS2, .ref aS3, .ref aS4, .ref aS5, .ref aS6, .int 0, .ref aO1, .ref aO2, .ref aO3, .ref aO4, .ref aO5])) := by rw [e291]; exact hu_s _ _ _
    have hkp : kp [mo] h h290 := by rw [e291]; exact kp_put hkp (by simp)
    refine lv_aload_n hx hb d_Mo_init_270 rfl (lv_at hl 0 rfl) ?_
    refine hm_callv (va_runV (As := []) (b := mo) (rest := []) ⟨hx, hb, hml, hown, hts⟩ (c_m_rootAlone l D t G ak av h290 mo 100 aBy aSt aDe aPa aIt aId aPr aNa aSi aSe aIw aEx aOl aPl aTa aAt aLo aS1 aS2 aS3 aS4 aS5 aS6 aO1 aO2 aO3 aO4 aO5 0 (fun _ => 0) (fun _ => 0) (fun _ => 0) (fun _ => 0) (fun _ => 0) (fun _ => 0) (fun _ => 0) f_m f_aIt f_aId f_aPr f_aSi f_aSe f_aEx f_aNa ne_aIt_aId ne_aIt_aPr ne_aIt_aSi ne_aIt_aSe ne_aIt_aEx ne_aId_aPr ne_aId_aSi ne_aId_aSe ne_aId_aEx ne_aPr_aSi ne_aPr_aSe ne_aPr_aEx ne_aSi_aSe ne_aSi_aEx ne_aSe_aEx) ⟨cw9B 0 hts mw_427 mw_429 mw_428 rfl rfl (by decide +kernel) ⟨Nat.le_of_ble_eq_true rfl, Nat.le_of_ble_eq_true rfl⟩, hts _ mw_430, hts _ mw_431⟩ (hP_V (q := (R_Mo, F_Mo, 41)) kE_ok hE hK hH f_m rfl) rfl rfl hl.1 rfl (lv_room (Nat.le_of_ble_eq_true rfl)) d_Mo_init_271 ⟨Nat.le_of_ble_eq_true rfl, Nat.le_of_ble_eq_true rfl⟩) hLo (fun h292 H293 locs hp295 hH z294 hLo => ?_)
    have hz : s.heap.size ≤ H293.size := Nat.le_trans hz z294
    obtain ⟨hk9, hm9, gIt, gId, gPr, gSi, gSe, gEx, gNa, h1, h2, h3, h4, h5, h6, h7, zIt, zId, zPr, zSi, zSe, zEx⟩ := hp295
    have f_aBy : h292 aBy = some (.inl ((t 0), 819200, .inl (fun _ => 0))) := kp_at hk9 f_aBy (nmc (Ne.symm ne_mo_aBy) (nmc ne_aBy_aIt (nmc ne_aBy_aId (nmc ne_aBy_aPr (nmc ne_aBy_aSi (nmc ne_aBy_aSe (nmc ne_aBy_aEx (nmc ne_aBy_aNa nm0))))))))
    have f_aSt : h292 aSt = some (.inl ((t 0), 400, .inl (fun _ => 0))) := kp_at hk9 f_aSt (nmc (Ne.symm ne_mo_aSt) (nmc ne_aSt_aIt (nmc ne_aSt_aId (nmc ne_aSt_aPr (nmc ne_aSt_aSi (nmc ne_aSt_aSe (nmc ne_aSt_aEx (nmc ne_aSt_aNa nm0))))))))
    have f_aDe : h292 aDe = some (.inl ((t 1), 200, .inl (fun _ => 0))) := kp_at hk9 f_aDe (nmc (Ne.symm ne_mo_aDe) (nmc ne_aDe_aIt (nmc ne_aDe_aId (nmc ne_aDe_aPr (nmc ne_aDe_aSi (nmc ne_aDe_aSe (nmc ne_aDe_aEx (nmc ne_aDe_aNa nm0))))))))
    have f_aPa : h292 aPa = some (.inl ((t 0), 2048, .inl (fun _ => 0))) := kp_at hk9 f_aPa (nmc (Ne.symm ne_mo_aPa) (nmc ne_aPa_aIt (nmc ne_aPa_aId (nmc ne_aPa_aPr (nmc ne_aPa_aSi (nmc ne_aPa_aSe (nmc ne_aPa_aEx (nmc ne_aPa_aNa nm0))))))))
    have f_aIw : h292 aIw = some (.inl ((t 1), 700, .inl (fun _ => 0))) := kp_at hk9 f_aIw (nmc (Ne.symm ne_mo_aIw) (nmc (Ne.symm ne_aIt_aIw) (nmc (Ne.symm ne_aId_aIw) (nmc (Ne.symm ne_aPr_aIw) (nmc (Ne.symm ne_aSi_aIw) (nmc (Ne.symm ne_aSe_aIw) (nmc ne_aIw_aEx (nmc (Ne.symm ne_aNa_aIw) nm0))))))))
    have f_aOl : h292 aOl = some (.inl ((t 2), 700, .inl (fun _ => 0))) := kp_at hk9 f_aOl (nmc (Ne.symm ne_mo_aOl) (nmc (Ne.symm ne_aIt_aOl) (nmc (Ne.symm ne_aId_aOl) (nmc (Ne.symm ne_aPr_aOl) (nmc (Ne.symm ne_aSi_aOl) (nmc (Ne.symm ne_aSe_aOl) (nmc (Ne.symm ne_aEx_aOl) (nmc (Ne.symm ne_aNa_aOl) nm0))))))))
    have f_aPl : h292 aPl = some (.inl ((t 0), 163840, .inl (fun _ => 0))) := kp_at hk9 f_aPl (nmc (Ne.symm ne_mo_aPl) (nmc (Ne.symm ne_aIt_aPl) (nmc (Ne.symm ne_aId_aPl) (nmc (Ne.symm ne_aPr_aPl) (nmc (Ne.symm ne_aSi_aPl) (nmc (Ne.symm ne_aSe_aPl) (nmc (Ne.symm ne_aEx_aPl) (nmc (Ne.symm ne_aNa_aPl) nm0))))))))
    have f_aTa : h292 aTa = some (.inl ((t 2), 30, .inl (fun _ => 0))) := kp_at hk9 f_aTa (nmc (Ne.symm ne_mo_aTa) (nmc (Ne.symm ne_aIt_aTa) (nmc (Ne.symm ne_aId_aTa) (nmc (Ne.symm ne_aPr_aTa) (nmc (Ne.symm ne_aSi_aTa) (nmc (Ne.symm ne_aSe_aTa) (nmc (Ne.symm ne_aEx_aTa) (nmc (Ne.symm ne_aNa_aTa) nm0))))))))
    have f_aAt : h292 aAt = some (.inl ((t 2), 700, .inl (fun _ => 0))) := kp_at hk9 f_aAt (nmc (Ne.symm ne_mo_aAt) (nmc (Ne.symm ne_aIt_aAt) (nmc (Ne.symm ne_aId_aAt) (nmc (Ne.symm ne_aPr_aAt) (nmc (Ne.symm ne_aSi_aAt) (nmc (Ne.symm ne_aSe_aAt) (nmc (Ne.symm ne_aEx_aAt) (nmc (Ne.symm ne_aNa_aAt) nm0))))))))
    have f_aLo : h292 aLo = some (.inl ((t 2), 700, .inl (fun _ => 0))) := kp_at hk9 f_aLo (nmc (Ne.symm ne_mo_aLo) (nmc (Ne.symm ne_aIt_aLo) (nmc (Ne.symm ne_aId_aLo) (nmc (Ne.symm ne_aPr_aLo) (nmc (Ne.symm ne_aSi_aLo) (nmc (Ne.symm ne_aSe_aLo) (nmc (Ne.symm ne_aEx_aLo) (nmc (Ne.symm ne_aNa_aLo) nm0))))))))
    have hkp : kp [mo] h h292 := kp_tr2 hkp hk9 (List.forall_mem_cons.mpr ⟨Or.inl (by simp), List.forall_mem_cons.mpr ⟨Or.inr nb_h_aIt, List.forall_mem_cons.mpr ⟨Or.inr nb_h_aId, List.forall_mem_cons.mpr ⟨Or.inr nb_h_aPr, List.forall_mem_cons.mpr ⟨Or.inr nb_h_aSi, List.forall_mem_cons.mpr ⟨Or.inr nb_h_aSe, List.forall_mem_cons.mpr ⟨Or.inr nb_h_aEx, List.forall_mem_cons.mpr ⟨Or.inr nb_h_aNa, List.forall_mem_nil _⟩⟩⟩⟩⟩⟩⟩⟩)
    have f_m : h292 mo = some (.inr (9, [.int 0, .int (nI 100), .int 0, .ref aBy, .ref aSt, .ref aDe, .int 0, .int (-1), .int 0, .ref aPa, .int 1, .ref aIt, .ref aId, .ref aPr, .ref aNa, .ref aSi, .ref aSe, .ref aIw, .ref aEx, .ref aOl, .int 0, .ref aPl, .int 0, .int 0, .ref aTa, .ref aAt, .ref aLo, .int 0, .int 0, .ref aS1, .ref aS2, .ref aS3, .ref aS4, .ref aS5, .ref aS6, .int 0, .ref aO1, .ref aO2, .ref aO3, .ref aO4, .ref aO5])) := hm9
    have f_aIt : h292 aIt = some (.inl ((t 1), 700, .inl gIt)) := h1
    have f_aId : h292 aId = some (.inl ((t 1), 700, .inl gId)) := h2
    have f_aPr : h292 aPr = some (.inl ((t 2), 700, .inl gPr)) := h3
    have f_aSi : h292 aSi = some (.inl ((t 2), 700, .inl gSi)) := h4
    have f_aSe : h292 aSe = some (.inl ((t 2), 700, .inl gSe)) := h5
    have f_aEx : h292 aEx = some (.inl ((t 2), 700, .inl gEx)) := h6
    have f_aNa : h292 aNa = some (.inl ((t 3), 700, .inr (.inl gNa))) := h7
    rw [← hz9] at f_m
    exact W.vret hx hb hr (fun t9 ht hW => ⟨h292, rfl, ⟨hkp, aBy, aSt, aDe, aPa, aIt, aId, aPr, aNa, aSi, aSe, aIw, aEx, aOl, aPl, aTa, aAt, aLo, aS1, aS2, aS3, aS4, aS5, aS6, aO1, aO2, aO3, aO4, aO5, _, _, _, _, _, _, _, _, _, _, _, _, _, _, _, _, _, f_m, f_aBy, f_aSt, f_aDe, f_aPa, f_aIt, f_aId, f_aPr, f_aNa, f_aSi, f_aSe, f_aIw, f_aEx, f_aOl, f_aPl, f_aTa, f_aAt, f_aLo, fun _ => rfl, fun _ => rfl, fun _ => rfl, zIt, zId, zPr, zSi, zSe, zEx, ne_aIt_aId, ne_aIt_aPr, ne_aIt_aSi, ne_aIt_aSe, ne_aIt_aEx, ne_aId_aPr, ne_aId_aSi, ne_aId_aSe, ne_aId_aEx, ne_aPr_aSi, ne_aPr_aSe, ne_aPr_aEx, ne_aSi_aSe, ne_aSi_aEx, ne_aSe_aEx, ne_aId_aAt, ne_aId_aLo, ne_aAt_aLo, ne_aId_aOl, ne_aIt_aIw, ne_aId_aIw, ne_aPr_aIw, ne_aSi_aIw, ne_aSe_aIw, ne_aIw_aEx, ne_aEx_aOl, ne_aOl_aAt, ne_aOl_aLo, by omega, by omega⟩, by rw [ht]; exact hH, by rw [ht]; exact hz⟩) hLo d_Mo_init_274
  · skip
    refine lv_iload_n hx hb d_Mo_init_249 rfl (lv_at hl 1 rfl) ?_
    refine lv_sipush (v := 200) hx hb d_Mo_init_250 (by decide) ?_
    refine lv_icmp_gt (tgt := 260) hx hb d_Mo_init_253 (by decide) (fun hc296 => ?_) (fun hc296 => ?_)
    · skip
      have hz9 := nsz_hi hc296
      refine lv_bipush (v := 100) hx hb d_Mo_init_260 (by decide) ?_
      refine lv_topi (fun v297 e298 => ?_)
      obtain rfl : v297 = nI 100 := e298.trans (by decide)
      refine hm_putF (ci := 9) (v := .int (nI 100)) (ty := .int) (C := R_Mo) (T := F_Mo) (N := 41) hx hb hts ig_Mo t_Mo tk_Mo nm_Mo hown hK hH hLo f_m rfl 1 (by decide) (hts _ mw_425) (fun _ h9 => h9) rfl hin rfl (by decide +kernel) rfl rfl (Nat.le_of_ble_eq_true rfl) d_Mo_init_262 (fun H299 locs hH z300 hLo => ?_)
      have hz : s.heap.size ≤ H299.size := by rw [z300]; exact hz
      obtain ⟨h301, e302⟩ : ∃ z, z = hu h279 mo (.inr (9, [.int 0, .int (nI 100), .int 0, .ref aBy, .ref aSt, .ref aDe, .int 0, .int 0, .int 0, .ref aPa, .int 0, .ref aIt, .ref aId, .ref aPr, .ref aNa, .ref aSi, .ref aSe, .ref aIw, .ref aEx, .ref aOl, .int 0, .ref aPl, .int 0, .int 0, .ref aTa, .ref aAt, .ref aLo, .int 0, .int 0, .ref aS1, .ref aS2, .ref aS3, .ref aS4, .ref aS5, .ref aS6, .int 0, .ref aO1, .ref aO2, .ref aO3, .ref aO4, .ref aO5])) := ⟨_, rfl⟩
      have hH : hm D vwCl G h301 H299 := by rw [e302]; exact hH
      have f_aBy : h301 aBy = some (.inl ((t 0), 819200, .inl (fun _ => 0))) := by rw [e302, hu_n (Ne.symm ne_mo_aBy)]; exact f_aBy
      have f_aSt : h301 aSt = some (.inl ((t 0), 400, .inl (fun _ => 0))) := by rw [e302, hu_n (Ne.symm ne_mo_aSt)]; exact f_aSt
      have f_aDe : h301 aDe = some (.inl ((t 1), 200, .inl (fun _ => 0))) := by rw [e302, hu_n (Ne.symm ne_mo_aDe)]; exact f_aDe
      have f_aPa : h301 aPa = some (.inl ((t 0), 2048, .inl (fun _ => 0))) := by rw [e302, hu_n (Ne.symm ne_mo_aPa)]; exact f_aPa
      have f_aIt : h301 aIt = some (.inl ((t 1), 700, .inl (fun _ => 0))) := by rw [e302, hu_n (Ne.symm ne_mo_aIt)]; exact f_aIt
      have f_aId : h301 aId = some (.inl ((t 1), 700, .inl (fun _ => 0))) := by rw [e302, hu_n (Ne.symm ne_mo_aId)]; exact f_aId
      have f_aPr : h301 aPr = some (.inl ((t 2), 700, .inl (fun _ => 0))) := by rw [e302, hu_n (Ne.symm ne_mo_aPr)]; exact f_aPr
      have f_aNa : h301 aNa = some (.inl ((t 3), 700, .inr (.inl (fun _ => 0)))) := by rw [e302, hu_n (Ne.symm ne_mo_aNa)]; exact f_aNa
      have f_aSi : h301 aSi = some (.inl ((t 2), 700, .inl (fun _ => 0))) := by rw [e302, hu_n (Ne.symm ne_mo_aSi)]; exact f_aSi
      have f_aSe : h301 aSe = some (.inl ((t 2), 700, .inl (fun _ => 0))) := by rw [e302, hu_n (Ne.symm ne_mo_aSe)]; exact f_aSe
      have f_aIw : h301 aIw = some (.inl ((t 1), 700, .inl (fun _ => 0))) := by rw [e302, hu_n (Ne.symm ne_mo_aIw)]; exact f_aIw
      have f_aEx : h301 aEx = some (.inl ((t 2), 700, .inl (fun _ => 0))) := by rw [e302, hu_n (Ne.symm ne_mo_aEx)]; exact f_aEx
      have f_aOl : h301 aOl = some (.inl ((t 2), 700, .inl (fun _ => 0))) := by rw [e302, hu_n (Ne.symm ne_mo_aOl)]; exact f_aOl
      have f_aPl : h301 aPl = some (.inl ((t 0), 163840, .inl (fun _ => 0))) := by rw [e302, hu_n (Ne.symm ne_mo_aPl)]; exact f_aPl
      have f_aTa : h301 aTa = some (.inl ((t 2), 30, .inl (fun _ => 0))) := by rw [e302, hu_n (Ne.symm ne_mo_aTa)]; exact f_aTa
      have f_aAt : h301 aAt = some (.inl ((t 2), 700, .inl (fun _ => 0))) := by rw [e302, hu_n (Ne.symm ne_mo_aAt)]; exact f_aAt
      have f_aLo : h301 aLo = some (.inl ((t 2), 700, .inl (fun _ => 0))) := by rw [e302, hu_n (Ne.symm ne_mo_aLo)]; exact f_aLo
      have f_m : h301 mo = some (.inr (9, [.int 0, .int (nI 100), .int 0, .ref aBy, .ref aSt, .ref aDe, .int 0, .int 0, .int 0, .ref aPa, .int 0, .ref aIt, .ref aId, .ref aPr, .ref aNa, .ref aSi, .ref aSe, .ref aIw, .ref aEx, .ref aOl, .int 0, .ref aPl, .int 0, .int 0, .ref aTa, .ref aAt, .ref aLo, .int 0, .int 0, .ref aS1, .ref aS2, .ref aS3, .ref aS4, .ref aS5, .ref aS6, .int 0, .ref aO1, .ref aO2, .ref aO3, .ref aO4, .ref aO5])) := by rw [e302]; exact hu_s _ _ _
      have hkp : kp [mo] h h301 := by rw [e302]; exact kp_put hkp (by simp)
      refine lv_aload_n hx hb d_Mo_init_265 rfl (lv_at hl 0 rfl) ?_
      refine lv_iconst (v := -1) hx hb d_Mo_init_266 (by decide) ?_
      refine hm_put (ci := 9) (v := .int (-1)) (ty := .int) (C := R_Mo) (T := F_Mo) (N := 41) hx hb hts ig_Mo t_Mo tk_Mo nm_Mo hown hK hH hLo f_m rfl 7 (by decide) (hts _ mw_426) (fun _ h9 => h9) rfl (by decide +kernel) rfl rfl (Nat.le_of_ble_eq_true rfl) d_Mo_init_267 (fun H303 locs hH z304 hLo => ?_)
      have hz : s.heap.size ≤ H303.size := by rw [z304]; exact hz
      obtain ⟨h305, e306⟩ : ∃ z, z = hu h301 mo (.inr (9, [.int 0, .int (nI 100), .int 0, .ref aBy, .ref aSt, .ref aDe, .int 0, .int (-1), .int 0, .ref aPa, .int 0, .ref aIt, .ref aId, .ref aPr, .ref aNa, .ref aSi, .ref aSe, .ref aIw, .ref aEx, .ref aOl, .int 0, .ref aPl, .int 0, .int 0, .ref aTa, .ref aAt, .ref aLo, .int 0, .int 0, .ref aS1, .ref aS2, .ref aS3, .ref aS4, .ref aS5, .ref aS6, .int 0, .ref aO1, .ref aO2, .ref aO3, .ref aO4, .ref aO5])) := ⟨_, rfl⟩
      have hH : hm D vwCl G h305 H303 := by rw [e306]; exact hH
      have f_aBy : h305 aBy = some (.inl ((t 0), 819200, .inl (fun _ => 0))) := by rw [e306, hu_n (Ne.symm ne_mo_aBy)]; exact f_aBy
      have f_aSt : h305 aSt = some (.inl ((t 0), 400, .inl (fun _ => 0))) := by rw [e306, hu_n (Ne.symm ne_mo_aSt)]; exact f_aSt
      have f_aDe : h305 aDe = some (.inl ((t 1), 200, .inl (fun _ => 0))) := by rw [e306, hu_n (Ne.symm ne_mo_aDe)]; exact f_aDe
      have f_aPa : h305 aPa = some (.inl ((t 0), 2048, .inl (fun _ => 0))) := by rw [e306, hu_n (Ne.symm ne_mo_aPa)]; exact f_aPa
      have f_aIt : h305 aIt = some (.inl ((t 1), 700, .inl (fun _ => 0))) := by rw [e306, hu_n (Ne.symm ne_mo_aIt)]; exact f_aIt
      have f_aId : h305 aId = some (.inl ((t 1), 700, .inl (fun _ => 0))) := by rw [e306, hu_n (Ne.symm ne_mo_aId)]; exact f_aId
      have f_aPr : h305 aPr = some (.inl ((t 2), 700, .inl (fun _ => 0))) := by rw [e306, hu_n (Ne.symm ne_mo_aPr)]; exact f_aPr
      have f_aNa : h305 aNa = some (.inl ((t 3), 700, .inr (.inl (fun _ => 0)))) := by rw [e306, hu_n (Ne.symm ne_mo_aNa)]; exact f_aNa
      have f_aSi : h305 aSi = some (.inl ((t 2), 700, .inl (fun _ => 0))) := by rw [e306, hu_n (Ne.symm ne_mo_aSi)]; exact f_aSi
      have f_aSe : h305 aSe = some (.inl ((t 2), 700, .inl (fun _ => 0))) := by rw [e306, hu_n (Ne.symm ne_mo_aSe)]; exact f_aSe
      have f_aIw : h305 aIw = some (.inl ((t 1), 700, .inl (fun _ => 0))) := by rw [e306, hu_n (Ne.symm ne_mo_aIw)]; exact f_aIw
      have f_aEx : h305 aEx = some (.inl ((t 2), 700, .inl (fun _ => 0))) := by rw [e306, hu_n (Ne.symm ne_mo_aEx)]; exact f_aEx
      have f_aOl : h305 aOl = some (.inl ((t 2), 700, .inl (fun _ => 0))) := by rw [e306, hu_n (Ne.symm ne_mo_aOl)]; exact f_aOl
      have f_aPl : h305 aPl = some (.inl ((t 0), 163840, .inl (fun _ => 0))) := by rw [e306, hu_n (Ne.symm ne_mo_aPl)]; exact f_aPl
      have f_aTa : h305 aTa = some (.inl ((t 2), 30, .inl (fun _ => 0))) := by rw [e306, hu_n (Ne.symm ne_mo_aTa)]; exact f_aTa
      have f_aAt : h305 aAt = some (.inl ((t 2), 700, .inl (fun _ => 0))) := by rw [e306, hu_n (Ne.symm ne_mo_aAt)]; exact f_aAt
      have f_aLo : h305 aLo = some (.inl ((t 2), 700, .inl (fun _ => 0))) := by rw [e306, hu_n (Ne.symm ne_mo_aLo)]; exact f_aLo
      have f_m : h305 mo = some (.inr (9, [.int 0, .int (nI 100), .int 0, .ref aBy, .ref aSt, .ref aDe, .int 0, .int (-1), .int 0, .ref aPa, .int 0, .ref aIt, .ref aId, .ref aPr, .ref aNa, .ref aSi, .ref aSe, .ref aIw, .ref aEx, .ref aOl, .int 0, .ref aPl, .int 0, .int 0, .ref aTa, .ref aAt, .ref aLo, .int 0, .int 0, .ref aS1, .ref aS2, .ref aS3, .ref aS4, .ref aS5, .ref aS6, .int 0, .ref aO1, .ref aO2, .ref aO3, .ref aO4, .ref aO5])) := by rw [e306]; exact hu_s _ _ _
      have hkp : kp [mo] h h305 := by rw [e306]; exact kp_put hkp (by simp)
      refine lv_aload_n hx hb d_Mo_init_270 rfl (lv_at hl 0 rfl) ?_
      refine hm_callv (va_runV (As := []) (b := mo) (rest := []) ⟨hx, hb, hml, hown, hts⟩ (c_m_rootAlone l D t G ak av h305 mo 100 aBy aSt aDe aPa aIt aId aPr aNa aSi aSe aIw aEx aOl aPl aTa aAt aLo aS1 aS2 aS3 aS4 aS5 aS6 aO1 aO2 aO3 aO4 aO5 0 (fun _ => 0) (fun _ => 0) (fun _ => 0) (fun _ => 0) (fun _ => 0) (fun _ => 0) (fun _ => 0) f_m f_aIt f_aId f_aPr f_aSi f_aSe f_aEx f_aNa ne_aIt_aId ne_aIt_aPr ne_aIt_aSi ne_aIt_aSe ne_aIt_aEx ne_aId_aPr ne_aId_aSi ne_aId_aSe ne_aId_aEx ne_aPr_aSi ne_aPr_aSe ne_aPr_aEx ne_aSi_aSe ne_aSi_aEx ne_aSe_aEx) ⟨cw9B 0 hts mw_427 mw_429 mw_428 rfl rfl (by decide +kernel) ⟨Nat.le_of_ble_eq_true rfl, Nat.le_of_ble_eq_true rfl⟩, hts _ mw_430, hts _ mw_431⟩ (hP_V (q := (R_Mo, F_Mo, 41)) kE_ok hE hK hH f_m rfl) rfl rfl hl.1 rfl (lv_room (Nat.le_of_ble_eq_true rfl)) d_Mo_init_271 ⟨Nat.le_of_ble_eq_true rfl, Nat.le_of_ble_eq_true rfl⟩) hLo (fun h307 H308 locs hp310 hH z309 hLo => ?_)
      have hz : s.heap.size ≤ H308.size := Nat.le_trans hz z309
      obtain ⟨hk9, hm9, gIt, gId, gPr, gSi, gSe, gEx, gNa, h1, h2, h3, h4, h5, h6, h7, zIt, zId, zPr, zSi, zSe, zEx⟩ := hp310
      have f_aBy : h307 aBy = some (.inl ((t 0), 819200, .inl (fun _ => 0))) := kp_at hk9 f_aBy (nmc (Ne.symm ne_mo_aBy) (nmc ne_aBy_aIt (nmc ne_aBy_aId (nmc ne_aBy_aPr (nmc ne_aBy_aSi (nmc ne_aBy_aSe (nmc ne_aBy_aEx (nmc ne_aBy_aNa nm0))))))))
      have f_aSt : h307 aSt = some (.inl ((t 0), 400, .inl (fun _ => 0))) := kp_at hk9 f_aSt (nmc (Ne.symm ne_mo_aSt) (nmc ne_aSt_aIt (nmc ne_aSt_aId (nmc ne_aSt_aPr (nmc ne_aSt_aSi (nmc ne_aSt_aSe (nmc ne_aSt_aEx (nmc ne_aSt_aNa nm0))))))))
      have f_aDe : h307 aDe = some (.inl ((t 1), 200, .inl (fun _ => 0))) := kp_at hk9 f_aDe (nmc (Ne.symm ne_mo_aDe) (nmc ne_aDe_aIt (nmc ne_aDe_aId (nmc ne_aDe_aPr (nmc ne_aDe_aSi (nmc ne_aDe_aSe (nmc ne_aDe_aEx (nmc ne_aDe_aNa nm0))))))))
      have f_aPa : h307 aPa = some (.inl ((t 0), 2048, .inl (fun _ => 0))) := kp_at hk9 f_aPa (nmc (Ne.symm ne_mo_aPa) (nmc ne_aPa_aIt (nmc ne_aPa_aId (nmc ne_aPa_aPr (nmc ne_aPa_aSi (nmc ne_aPa_aSe (nmc ne_aPa_aEx (nmc ne_aPa_aNa nm0))))))))
      have f_aIw : h307 aIw = some (.inl ((t 1), 700, .inl (fun _ => 0))) := kp_at hk9 f_aIw (nmc (Ne.symm ne_mo_aIw) (nmc (Ne.symm ne_aIt_aIw) (nmc (Ne.symm ne_aId_aIw) (nmc (Ne.symm ne_aPr_aIw) (nmc (Ne.symm ne_aSi_aIw) (nmc (Ne.symm ne_aSe_aIw) (nmc ne_aIw_aEx (nmc (Ne.symm ne_aNa_aIw) nm0))))))))
      have f_aOl : h307 aOl = some (.inl ((t 2), 700, .inl (fun _ => 0))) := kp_at hk9 f_aOl (nmc (Ne.symm ne_mo_aOl) (nmc (Ne.symm ne_aIt_aOl) (nmc (Ne.symm ne_aId_aOl) (nmc (Ne.symm ne_aPr_aOl) (nmc (Ne.symm ne_aSi_aOl) (nmc (Ne.symm ne_aSe_aOl) (nmc (Ne.symm ne_aEx_aOl) (nmc (Ne.symm ne_aNa_aOl) nm0))))))))
      have f_aPl : h307 aPl = some (.inl ((t 0), 163840, .inl (fun _ => 0))) := kp_at hk9 f_aPl (nmc (Ne.symm ne_mo_aPl) (nmc (Ne.symm ne_aIt_aPl) (nmc (Ne.symm ne_aId_aPl) (nmc (Ne.symm ne_aPr_aPl) (nmc (Ne.symm ne_aSi_aPl) (nmc (Ne.symm ne_aSe_aPl) (nmc (Ne.symm ne_aEx_aPl) (nmc (Ne.symm ne_aNa_aPl) nm0))))))))
      have f_aTa : h307 aTa = some (.inl ((t 2), 30, .inl (fun _ => 0))) := kp_at hk9 f_aTa (nmc (Ne.symm ne_mo_aTa) (nmc (Ne.symm ne_aIt_aTa) (nmc (Ne.symm ne_aId_aTa) (nmc (Ne.symm ne_aPr_aTa) (nmc (Ne.symm ne_aSi_aTa) (nmc (Ne.symm ne_aSe_aTa) (nmc (Ne.symm ne_aEx_aTa) (nmc (Ne.symm ne_aNa_aTa) nm0))))))))
      have f_aAt : h307 aAt = some (.inl ((t 2), 700, .inl (fun _ => 0))) := kp_at hk9 f_aAt (nmc (Ne.symm ne_mo_aAt) (nmc (Ne.symm ne_aIt_aAt) (nmc (Ne.symm ne_aId_aAt) (nmc (Ne.symm ne_aPr_aAt) (nmc (Ne.symm ne_aSi_aAt) (nmc (Ne.symm ne_aSe_aAt) (nmc (Ne.symm ne_aEx_aAt) (nmc (Ne.symm ne_aNa_aAt) nm0))))))))
      have f_aLo : h307 aLo = some (.inl ((t 2), 700, .inl (fun _ => 0))) := kp_at hk9 f_aLo (nmc (Ne.symm ne_mo_aLo) (nmc (Ne.symm ne_aIt_aLo) (nmc (Ne.symm ne_aId_aLo) (nmc (Ne.symm ne_aPr_aLo) (nmc (Ne.symm ne_aSi_aLo) (nmc (Ne.symm ne_aSe_aLo) (nmc (Ne.symm ne_aEx_aLo) (nmc (Ne.symm ne_aNa_aLo) nm0))))))))
      have hkp : kp [mo] h h307 := kp_tr2 hkp hk9 (List.forall_mem_cons.mpr ⟨Or.inl (by simp), List.forall_mem_cons.mpr ⟨Or.inr nb_h_aIt, List.forall_mem_cons.mpr ⟨Or.inr nb_h_aId, List.forall_mem_cons.mpr ⟨Or.inr nb_h_aPr, List.forall_mem_cons.mpr ⟨Or.inr nb_h_aSi, List.forall_mem_cons.mpr ⟨Or.inr nb_h_aSe, List.forall_mem_cons.mpr ⟨Or.inr nb_h_aEx, List.forall_mem_cons.mpr ⟨Or.inr nb_h_aNa, List.forall_mem_nil _⟩⟩⟩⟩⟩⟩⟩⟩)
      have f_m : h307 mo = some (.inr (9, [.int 0, .int (nI 100), .int 0, .ref aBy, .ref aSt, .ref aDe, .int 0, .int (-1), .int 0, .ref aPa, .int 1, .ref aIt, .ref aId, .ref aPr, .ref aNa, .ref aSi, .ref aSe, .ref aIw, .ref aEx, .ref aOl, .int 0, .ref aPl, .int 0, .int 0, .ref aTa, .ref aAt, .ref aLo, .int 0, .int 0, .ref aS1, .ref aS2, .ref aS3, .ref aS4, .ref aS5, .ref aS6, .int 0, .ref aO1, .ref aO2, .ref aO3, .ref aO4, .ref aO5])) := hm9
      have f_aIt : h307 aIt = some (.inl ((t 1), 700, .inl gIt)) := h1
      have f_aId : h307 aId = some (.inl ((t 1), 700, .inl gId)) := h2
      have f_aPr : h307 aPr = some (.inl ((t 2), 700, .inl gPr)) := h3
      have f_aSi : h307 aSi = some (.inl ((t 2), 700, .inl gSi)) := h4
      have f_aSe : h307 aSe = some (.inl ((t 2), 700, .inl gSe)) := h5
      have f_aEx : h307 aEx = some (.inl ((t 2), 700, .inl gEx)) := h6
      have f_aNa : h307 aNa = some (.inl ((t 3), 700, .inr (.inl gNa))) := h7
      rw [← hz9] at f_m
      exact W.vret hx hb hr (fun t9 ht hW => ⟨h307, rfl, ⟨hkp, aBy, aSt, aDe, aPa, aIt, aId, aPr, aNa, aSi, aSe, aIw, aEx, aOl, aPl, aTa, aAt, aLo, aS1, aS2, aS3, aS4, aS5, aS6, aO1, aO2, aO3, aO4, aO5, _, _, _, _, _, _, _, _, _, _, _, _, _, _, _, _, _, f_m, f_aBy, f_aSt, f_aDe, f_aPa, f_aIt, f_aId, f_aPr, f_aNa, f_aSi, f_aSe, f_aIw, f_aEx, f_aOl, f_aPl, f_aTa, f_aAt, f_aLo, fun _ => rfl, fun _ => rfl, fun _ => rfl, zIt, zId, zPr, zSi, zSe, zEx, ne_aIt_aId, ne_aIt_aPr, ne_aIt_aSi, ne_aIt_aSe, ne_aIt_aEx, ne_aId_aPr, ne_aId_aSi, ne_aId_aSe, ne_aId_aEx, ne_aPr_aSi, ne_aPr_aSe, ne_aPr_aEx, ne_aSi_aSe, ne_aSi_aEx, ne_aSe_aEx, ne_aId_aAt, ne_aId_aLo, ne_aAt_aLo, ne_aId_aOl, ne_aIt_aIw, ne_aId_aIw, ne_aPr_aIw, ne_aSi_aIw, ne_aSe_aIw, ne_aIw_aEx, ne_aEx_aOl, ne_aOl_aAt, ne_aOl_aLo, by omega, by omega⟩, by rw [ht]; exact hH, by rw [ht]; exact hz⟩) hLo d_Mo_init_274
    · skip
      obtain ⟨h40, h200, hv9⟩ := nsz_in hc281 hc296
      refine lv_iload_n hx hb d_Mo_init_256 rfl (lv_at hl 1 rfl) ?_
      refine lv_goto (tgt := 262) hx hb d_Mo_init_257 (by decide) ?_
      refine lv_topi (fun v311 e312 => ?_)
      obtain rfl : v311 = nI (nsz v) := e312.trans (hv9)
      refine hm_putF (ci := 9) (v := .int (nI (nsz v))) (ty := .int) (C := R_Mo) (T := F_Mo) (N := 41) hx hb hts ig_Mo t_Mo tk_Mo nm_Mo hown hK hH hLo f_m rfl 1 (by decide) (hts _ mw_425) (fun _ h9 => h9) rfl hin rfl (by decide +kernel) rfl rfl (Nat.le_of_ble_eq_true rfl) d_Mo_init_262 (fun H313 locs hH z314 hLo => ?_)
      have hz : s.heap.size ≤ H313.size := by rw [z314]; exact hz
      obtain ⟨h315, e316⟩ : ∃ z, z = hu h279 mo (.inr (9, [.int 0, .int (nI (nsz v)), .int 0, .ref aBy, .ref aSt, .ref aDe, .int 0, .int 0, .int 0, .ref aPa, .int 0, .ref aIt, .ref aId, .ref aPr, .ref aNa, .ref aSi, .ref aSe, .ref aIw, .ref aEx, .ref aOl, .int 0, .ref aPl, .int 0, .int 0, .ref aTa, .ref aAt, .ref aLo, .int 0, .int 0, .ref aS1, .ref aS2, .ref aS3, .ref aS4, .ref aS5, .ref aS6, .int 0, .ref aO1, .ref aO2, .ref aO3, .ref aO4, .ref aO5])) := ⟨_, rfl⟩
      have hH : hm D vwCl G h315 H313 := by rw [e316]; exact hH
      have f_aBy : h315 aBy = some (.inl ((t 0), 819200, .inl (fun _ => 0))) := by rw [e316, hu_n (Ne.symm ne_mo_aBy)]; exact f_aBy
      have f_aSt : h315 aSt = some (.inl ((t 0), 400, .inl (fun _ => 0))) := by rw [e316, hu_n (Ne.symm ne_mo_aSt)]; exact f_aSt
      have f_aDe : h315 aDe = some (.inl ((t 1), 200, .inl (fun _ => 0))) := by rw [e316, hu_n (Ne.symm ne_mo_aDe)]; exact f_aDe
      have f_aPa : h315 aPa = some (.inl ((t 0), 2048, .inl (fun _ => 0))) := by rw [e316, hu_n (Ne.symm ne_mo_aPa)]; exact f_aPa
      have f_aIt : h315 aIt = some (.inl ((t 1), 700, .inl (fun _ => 0))) := by rw [e316, hu_n (Ne.symm ne_mo_aIt)]; exact f_aIt
      have f_aId : h315 aId = some (.inl ((t 1), 700, .inl (fun _ => 0))) := by rw [e316, hu_n (Ne.symm ne_mo_aId)]; exact f_aId
      have f_aPr : h315 aPr = some (.inl ((t 2), 700, .inl (fun _ => 0))) := by rw [e316, hu_n (Ne.symm ne_mo_aPr)]; exact f_aPr
      have f_aNa : h315 aNa = some (.inl ((t 3), 700, .inr (.inl (fun _ => 0)))) := by rw [e316, hu_n (Ne.symm ne_mo_aNa)]; exact f_aNa
      have f_aSi : h315 aSi = some (.inl ((t 2), 700, .inl (fun _ => 0))) := by rw [e316, hu_n (Ne.symm ne_mo_aSi)]; exact f_aSi
      have f_aSe : h315 aSe = some (.inl ((t 2), 700, .inl (fun _ => 0))) := by rw [e316, hu_n (Ne.symm ne_mo_aSe)]; exact f_aSe
      have f_aIw : h315 aIw = some (.inl ((t 1), 700, .inl (fun _ => 0))) := by rw [e316, hu_n (Ne.symm ne_mo_aIw)]; exact f_aIw
      have f_aEx : h315 aEx = some (.inl ((t 2), 700, .inl (fun _ => 0))) := by rw [e316, hu_n (Ne.symm ne_mo_aEx)]; exact f_aEx
      have f_aOl : h315 aOl = some (.inl ((t 2), 700, .inl (fun _ => 0))) := by rw [e316, hu_n (Ne.symm ne_mo_aOl)]; exact f_aOl
      have f_aPl : h315 aPl = some (.inl ((t 0), 163840, .inl (fun _ => 0))) := by rw [e316, hu_n (Ne.symm ne_mo_aPl)]; exact f_aPl
      have f_aTa : h315 aTa = some (.inl ((t 2), 30, .inl (fun _ => 0))) := by rw [e316, hu_n (Ne.symm ne_mo_aTa)]; exact f_aTa
      have f_aAt : h315 aAt = some (.inl ((t 2), 700, .inl (fun _ => 0))) := by rw [e316, hu_n (Ne.symm ne_mo_aAt)]; exact f_aAt
      have f_aLo : h315 aLo = some (.inl ((t 2), 700, .inl (fun _ => 0))) := by rw [e316, hu_n (Ne.symm ne_mo_aLo)]; exact f_aLo
      have f_m : h315 mo = some (.inr (9, [.int 0, .int (nI (nsz v)), .int 0, .ref aBy, .ref aSt, .ref aDe, .int 0, .int 0, .int 0, .ref aPa, .int 0, .ref aIt, .ref aId, .ref aPr, .ref aNa, .ref aSi, .ref aSe, .ref aIw, .ref aEx, .ref aOl, .int 0, .ref aPl, .int 0, .int 0, .ref aTa, .ref aAt, .ref aLo, .int 0, .int 0, .ref aS1, .ref aS2, .ref aS3, .ref aS4, .ref aS5, .ref aS6, .int 0, .ref aO1, .ref aO2, .ref aO3, .ref aO4, .ref aO5])) := by rw [e316]; exact hu_s _ _ _
      have hkp : kp [mo] h h315 := by rw [e316]; exact kp_put hkp (by simp)
      refine lv_aload_n hx hb d_Mo_init_265 rfl (lv_at hl 0 rfl) ?_
      refine lv_iconst (v := -1) hx hb d_Mo_init_266 (by decide) ?_
      refine hm_put (ci := 9) (v := .int (-1)) (ty := .int) (C := R_Mo) (T := F_Mo) (N := 41) hx hb hts ig_Mo t_Mo tk_Mo nm_Mo hown hK hH hLo f_m rfl 7 (by decide) (hts _ mw_426) (fun _ h9 => h9) rfl (by decide +kernel) rfl rfl (Nat.le_of_ble_eq_true rfl) d_Mo_init_267 (fun H317 locs hH z318 hLo => ?_)
      have hz : s.heap.size ≤ H317.size := by rw [z318]; exact hz
      obtain ⟨h319, e320⟩ : ∃ z, z = hu h315 mo (.inr (9, [.int 0, .int (nI (nsz v)), .int 0, .ref aBy, .ref aSt, .ref aDe, .int 0, .int (-1), .int 0, .ref aPa, .int 0, .ref aIt, .ref aId, .ref aPr, .ref aNa, .ref aSi, .ref aSe, .ref aIw, .ref aEx, .ref aOl, .int 0, .ref aPl, .int 0, .int 0, .ref aTa, .ref aAt, .ref aLo, .int 0, .int 0, .ref aS1, .ref aS2, .ref aS3, .ref aS4, .ref aS5, .ref aS6, .int 0, .ref aO1, .ref aO2, .ref aO3, .ref aO4, .ref aO5])) := ⟨_, rfl⟩
      have hH : hm D vwCl G h319 H317 := by rw [e320]; exact hH
      have f_aBy : h319 aBy = some (.inl ((t 0), 819200, .inl (fun _ => 0))) := by rw [e320, hu_n (Ne.symm ne_mo_aBy)]; exact f_aBy
      have f_aSt : h319 aSt = some (.inl ((t 0), 400, .inl (fun _ => 0))) := by rw [e320, hu_n (Ne.symm ne_mo_aSt)]; exact f_aSt
      have f_aDe : h319 aDe = some (.inl ((t 1), 200, .inl (fun _ => 0))) := by rw [e320, hu_n (Ne.symm ne_mo_aDe)]; exact f_aDe
      have f_aPa : h319 aPa = some (.inl ((t 0), 2048, .inl (fun _ => 0))) := by rw [e320, hu_n (Ne.symm ne_mo_aPa)]; exact f_aPa
      have f_aIt : h319 aIt = some (.inl ((t 1), 700, .inl (fun _ => 0))) := by rw [e320, hu_n (Ne.symm ne_mo_aIt)]; exact f_aIt
      have f_aId : h319 aId = some (.inl ((t 1), 700, .inl (fun _ => 0))) := by rw [e320, hu_n (Ne.symm ne_mo_aId)]; exact f_aId
      have f_aPr : h319 aPr = some (.inl ((t 2), 700, .inl (fun _ => 0))) := by rw [e320, hu_n (Ne.symm ne_mo_aPr)]; exact f_aPr
      have f_aNa : h319 aNa = some (.inl ((t 3), 700, .inr (.inl (fun _ => 0)))) := by rw [e320, hu_n (Ne.symm ne_mo_aNa)]; exact f_aNa
      have f_aSi : h319 aSi = some (.inl ((t 2), 700, .inl (fun _ => 0))) := by rw [e320, hu_n (Ne.symm ne_mo_aSi)]; exact f_aSi
      have f_aSe : h319 aSe = some (.inl ((t 2), 700, .inl (fun _ => 0))) := by rw [e320, hu_n (Ne.symm ne_mo_aSe)]; exact f_aSe
      have f_aIw : h319 aIw = some (.inl ((t 1), 700, .inl (fun _ => 0))) := by rw [e320, hu_n (Ne.symm ne_mo_aIw)]; exact f_aIw
      have f_aEx : h319 aEx = some (.inl ((t 2), 700, .inl (fun _ => 0))) := by rw [e320, hu_n (Ne.symm ne_mo_aEx)]; exact f_aEx
      have f_aOl : h319 aOl = some (.inl ((t 2), 700, .inl (fun _ => 0))) := by rw [e320, hu_n (Ne.symm ne_mo_aOl)]; exact f_aOl
      have f_aPl : h319 aPl = some (.inl ((t 0), 163840, .inl (fun _ => 0))) := by rw [e320, hu_n (Ne.symm ne_mo_aPl)]; exact f_aPl
      have f_aTa : h319 aTa = some (.inl ((t 2), 30, .inl (fun _ => 0))) := by rw [e320, hu_n (Ne.symm ne_mo_aTa)]; exact f_aTa
      have f_aAt : h319 aAt = some (.inl ((t 2), 700, .inl (fun _ => 0))) := by rw [e320, hu_n (Ne.symm ne_mo_aAt)]; exact f_aAt
      have f_aLo : h319 aLo = some (.inl ((t 2), 700, .inl (fun _ => 0))) := by rw [e320, hu_n (Ne.symm ne_mo_aLo)]; exact f_aLo
      have f_m : h319 mo = some (.inr (9, [.int 0, .int (nI (nsz v)), .int 0, .ref aBy, .ref aSt, .ref aDe, .int 0, .int (-1), .int 0, .ref aPa, .int 0, .ref aIt, .ref aId, .ref aPr, .ref aNa, .ref aSi, .ref aSe, .ref aIw, .ref aEx, .ref aOl, .int 0, .ref aPl, .int 0, .int 0, .ref aTa, .ref aAt, .ref aLo, .int 0, .int 0, .ref aS1, .ref aS2, .ref aS3, .ref aS4, .ref aS5, .ref aS6, .int 0, .ref aO1, .ref aO2, .ref aO3, .ref aO4, .ref aO5])) := by rw [e320]; exact hu_s _ _ _
      have hkp : kp [mo] h h319 := by rw [e320]; exact kp_put hkp (by simp)
      refine lv_aload_n hx hb d_Mo_init_270 rfl (lv_at hl 0 rfl) ?_
      refine hm_callv (va_runV (As := []) (b := mo) (rest := []) ⟨hx, hb, hml, hown, hts⟩ (c_m_rootAlone l D t G ak av h319 mo (nsz v) aBy aSt aDe aPa aIt aId aPr aNa aSi aSe aIw aEx aOl aPl aTa aAt aLo aS1 aS2 aS3 aS4 aS5 aS6 aO1 aO2 aO3 aO4 aO5 0 (fun _ => 0) (fun _ => 0) (fun _ => 0) (fun _ => 0) (fun _ => 0) (fun _ => 0) (fun _ => 0) f_m f_aIt f_aId f_aPr f_aSi f_aSe f_aEx f_aNa ne_aIt_aId ne_aIt_aPr ne_aIt_aSi ne_aIt_aSe ne_aIt_aEx ne_aId_aPr ne_aId_aSi ne_aId_aSe ne_aId_aEx ne_aPr_aSi ne_aPr_aSe ne_aPr_aEx ne_aSi_aSe ne_aSi_aEx ne_aSe_aEx) ⟨cw9B 0 hts mw_427 mw_429 mw_428 rfl rfl (by decide +kernel) ⟨Nat.le_of_ble_eq_true rfl, Nat.le_of_ble_eq_true rfl⟩, hts _ mw_430, hts _ mw_431⟩ (hP_V (q := (R_Mo, F_Mo, 41)) kE_ok hE hK hH f_m rfl) rfl rfl hl.1 rfl (lv_room (Nat.le_of_ble_eq_true rfl)) d_Mo_init_271 ⟨Nat.le_of_ble_eq_true rfl, Nat.le_of_ble_eq_true rfl⟩) hLo (fun h321 H322 locs hp324 hH z323 hLo => ?_)
      have hz : s.heap.size ≤ H322.size := Nat.le_trans hz z323
      obtain ⟨hk9, hm9, gIt, gId, gPr, gSi, gSe, gEx, gNa, h1, h2, h3, h4, h5, h6, h7, zIt, zId, zPr, zSi, zSe, zEx⟩ := hp324
      have f_aBy : h321 aBy = some (.inl ((t 0), 819200, .inl (fun _ => 0))) := kp_at hk9 f_aBy (nmc (Ne.symm ne_mo_aBy) (nmc ne_aBy_aIt (nmc ne_aBy_aId (nmc ne_aBy_aPr (nmc ne_aBy_aSi (nmc ne_aBy_aSe (nmc ne_aBy_aEx (nmc ne_aBy_aNa nm0))))))))
      have f_aSt : h321 aSt = some (.inl ((t 0), 400, .inl (fun _ => 0))) := kp_at hk9 f_aSt (nmc (Ne.symm ne_mo_aSt) (nmc ne_aSt_aIt (nmc ne_aSt_aId (nmc ne_aSt_aPr (nmc ne_aSt_aSi (nmc ne_aSt_aSe (nmc ne_aSt_aEx (nmc ne_aSt_aNa nm0))))))))
      have f_aDe : h321 aDe = some (.inl ((t 1), 200, .inl (fun _ => 0))) := kp_at hk9 f_aDe (nmc (Ne.symm ne_mo_aDe) (nmc ne_aDe_aIt (nmc ne_aDe_aId (nmc ne_aDe_aPr (nmc ne_aDe_aSi (nmc ne_aDe_aSe (nmc ne_aDe_aEx (nmc ne_aDe_aNa nm0))))))))
      have f_aPa : h321 aPa = some (.inl ((t 0), 2048, .inl (fun _ => 0))) := kp_at hk9 f_aPa (nmc (Ne.symm ne_mo_aPa) (nmc ne_aPa_aIt (nmc ne_aPa_aId (nmc ne_aPa_aPr (nmc ne_aPa_aSi (nmc ne_aPa_aSe (nmc ne_aPa_aEx (nmc ne_aPa_aNa nm0))))))))
      have f_aIw : h321 aIw = some (.inl ((t 1), 700, .inl (fun _ => 0))) := kp_at hk9 f_aIw (nmc (Ne.symm ne_mo_aIw) (nmc (Ne.symm ne_aIt_aIw) (nmc (Ne.symm ne_aId_aIw) (nmc (Ne.symm ne_aPr_aIw) (nmc (Ne.symm ne_aSi_aIw) (nmc (Ne.symm ne_aSe_aIw) (nmc ne_aIw_aEx (nmc (Ne.symm ne_aNa_aIw) nm0))))))))
      have f_aOl : h321 aOl = some (.inl ((t 2), 700, .inl (fun _ => 0))) := kp_at hk9 f_aOl (nmc (Ne.symm ne_mo_aOl) (nmc (Ne.symm ne_aIt_aOl) (nmc (Ne.symm ne_aId_aOl) (nmc (Ne.symm ne_aPr_aOl) (nmc (Ne.symm ne_aSi_aOl) (nmc (Ne.symm ne_aSe_aOl) (nmc (Ne.symm ne_aEx_aOl) (nmc (Ne.symm ne_aNa_aOl) nm0))))))))
      have f_aPl : h321 aPl = some (.inl ((t 0), 163840, .inl (fun _ => 0))) := kp_at hk9 f_aPl (nmc (Ne.symm ne_mo_aPl) (nmc (Ne.symm ne_aIt_aPl) (nmc (Ne.symm ne_aId_aPl) (nmc (Ne.symm ne_aPr_aPl) (nmc (Ne.symm ne_aSi_aPl) (nmc (Ne.symm ne_aSe_aPl) (nmc (Ne.symm ne_aEx_aPl) (nmc (Ne.symm ne_aNa_aPl) nm0))))))))
      have f_aTa : h321 aTa = some (.inl ((t 2), 30, .inl (fun _ => 0))) := kp_at hk9 f_aTa (nmc (Ne.symm ne_mo_aTa) (nmc (Ne.symm ne_aIt_aTa) (nmc (Ne.symm ne_aId_aTa) (nmc (Ne.symm ne_aPr_aTa) (nmc (Ne.symm ne_aSi_aTa) (nmc (Ne.symm ne_aSe_aTa) (nmc (Ne.symm ne_aEx_aTa) (nmc (Ne.symm ne_aNa_aTa) nm0))))))))
      have f_aAt : h321 aAt = some (.inl ((t 2), 700, .inl (fun _ => 0))) := kp_at hk9 f_aAt (nmc (Ne.symm ne_mo_aAt) (nmc (Ne.symm ne_aIt_aAt) (nmc (Ne.symm ne_aId_aAt) (nmc (Ne.symm ne_aPr_aAt) (nmc (Ne.symm ne_aSi_aAt) (nmc (Ne.symm ne_aSe_aAt) (nmc (Ne.symm ne_aEx_aAt) (nmc (Ne.symm ne_aNa_aAt) nm0))))))))
      have f_aLo : h321 aLo = some (.inl ((t 2), 700, .inl (fun _ => 0))) := kp_at hk9 f_aLo (nmc (Ne.symm ne_mo_aLo) (nmc (Ne.symm ne_aIt_aLo) (nmc (Ne.symm ne_aId_aLo) (nmc (Ne.symm ne_aPr_aLo) (nmc (Ne.symm ne_aSi_aLo) (nmc (Ne.symm ne_aSe_aLo) (nmc (Ne.symm ne_aEx_aLo) (nmc (Ne.symm ne_aNa_aLo) nm0))))))))
      have hkp : kp [mo] h h321 := kp_tr2 hkp hk9 (List.forall_mem_cons.mpr ⟨Or.inl (by simp), List.forall_mem_cons.mpr ⟨Or.inr nb_h_aIt, List.forall_mem_cons.mpr ⟨Or.inr nb_h_aId, List.forall_mem_cons.mpr ⟨Or.inr nb_h_aPr, List.forall_mem_cons.mpr ⟨Or.inr nb_h_aSi, List.forall_mem_cons.mpr ⟨Or.inr nb_h_aSe, List.forall_mem_cons.mpr ⟨Or.inr nb_h_aEx, List.forall_mem_cons.mpr ⟨Or.inr nb_h_aNa, List.forall_mem_nil _⟩⟩⟩⟩⟩⟩⟩⟩)
      have f_m : h321 mo = some (.inr (9, [.int 0, .int (nI (nsz v)), .int 0, .ref aBy, .ref aSt, .ref aDe, .int 0, .int (-1), .int 0, .ref aPa, .int 1, .ref aIt, .ref aId, .ref aPr, .ref aNa, .ref aSi, .ref aSe, .ref aIw, .ref aEx, .ref aOl, .int 0, .ref aPl, .int 0, .int 0, .ref aTa, .ref aAt, .ref aLo, .int 0, .int 0, .ref aS1, .ref aS2, .ref aS3, .ref aS4, .ref aS5, .ref aS6, .int 0, .ref aO1, .ref aO2, .ref aO3, .ref aO4, .ref aO5])) := hm9
      have f_aIt : h321 aIt = some (.inl ((t 1), 700, .inl gIt)) := h1
      have f_aId : h321 aId = some (.inl ((t 1), 700, .inl gId)) := h2
      have f_aPr : h321 aPr = some (.inl ((t 2), 700, .inl gPr)) := h3
      have f_aSi : h321 aSi = some (.inl ((t 2), 700, .inl gSi)) := h4
      have f_aSe : h321 aSe = some (.inl ((t 2), 700, .inl gSe)) := h5
      have f_aEx : h321 aEx = some (.inl ((t 2), 700, .inl gEx)) := h6
      have f_aNa : h321 aNa = some (.inl ((t 3), 700, .inr (.inl gNa))) := h7
      exact W.vret hx hb hr (fun t9 ht hW => ⟨h321, rfl, ⟨hkp, aBy, aSt, aDe, aPa, aIt, aId, aPr, aNa, aSi, aSe, aIw, aEx, aOl, aPl, aTa, aAt, aLo, aS1, aS2, aS3, aS4, aS5, aS6, aO1, aO2, aO3, aO4, aO5, _, _, _, _, _, _, _, _, _, _, _, _, _, _, _, _, _, f_m, f_aBy, f_aSt, f_aDe, f_aPa, f_aIt, f_aId, f_aPr, f_aNa, f_aSi, f_aSe, f_aIw, f_aEx, f_aOl, f_aPl, f_aTa, f_aAt, f_aLo, fun _ => rfl, fun _ => rfl, fun _ => rfl, zIt, zId, zPr, zSi, zSe, zEx, ne_aIt_aId, ne_aIt_aPr, ne_aIt_aSi, ne_aIt_aSe, ne_aIt_aEx, ne_aId_aPr, ne_aId_aSi, ne_aId_aSe, ne_aId_aEx, ne_aPr_aSi, ne_aPr_aSe, ne_aPr_aEx, ne_aSi_aSe, ne_aSi_aEx, ne_aSe_aEx, ne_aId_aAt, ne_aId_aLo, ne_aAt_aLo, ne_aId_aOl, ne_aIt_aIw, ne_aId_aIw, ne_aPr_aIw, ne_aSi_aIw, ne_aSe_aIw, ne_aIw_aEx, ne_aEx_aOl, ne_aOl_aAt, ne_aOl_aLo, by omega, by omega⟩, by rw [ht]; exact hH, by rw [ht]; exact hz⟩) hLo d_Mo_init_274
