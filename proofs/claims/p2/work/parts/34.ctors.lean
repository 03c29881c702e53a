set_option maxRecDepth 100000 in
theorem mw_516 : Cond.methodLink R_Po 3 objectInit ∈ lw_g := lw_gin (List.mem_append_right _ (List.mem_of_getElem? (i := 41) rfl)) (by decide +kernel)
set_option maxRecDepth 100000 in
theorem mw_517 : Cond.instanceMethod objectInit ∈ lw_g := lw_gin (List.mem_append_right _ (List.mem_of_getElem? (i := 28) rfl)) (by decide +kernel)
set_option maxRecDepth 100000 in
theorem mw_518 : Cond.code objectInit ⟨#[0xb1]⟩ 1 none ∈ lw_g := lw_gin (List.mem_append_right _ (List.mem_of_getElem? (i := 29) rfl)) (by decide +kernel)
set_option maxRecDepth 100000 in
theorem mw_519 : Cond.methodLink R_Se 3 objectInit ∈ lw_g := lw_gin (List.mem_append_right _ (List.mem_of_getElem? (i := 209) rfl)) (by decide +kernel)
set_option maxRecDepth 100000 in
theorem mw_520 : Cond.methodLink R_No 3 objectInit ∈ lw_g := lw_gin (List.mem_append_right _ (List.mem_of_getElem? (i := 89) rfl)) (by decide +kernel)
set_option maxRecDepth 100000 in
theorem mw_521 : Cond.fieldLink R_No 45 "WriteOnceDisc$Node" "numberInPathTable" "I" ∈ lw_g := lw_gin (List.mem_append_right _ (List.mem_of_getElem? (i := 129) rfl)) (by decide +kernel)
set_option maxRecDepth 100000 in
theorem mw_522 : Cond.methodLink R_Pg 3 objectInit ∈ lw_g := lw_gin (List.mem_append_right _ (List.mem_of_getElem? (i := 60) rfl)) (by decide +kernel)
set_option maxRecDepth 100000 in
theorem mw_523 : Cond.methodLink R_Me 3 objectInit ∈ lw_g := lw_gin (List.mem_append_right _ (List.mem_of_getElem? (i := 202) rfl)) (by decide +kernel)
set_option maxRecDepth 100000 in
theorem mw_524 : Cond.classLink R_Me 15 R_Se ∈ lw_g := lw_gin (List.mem_append_right _ (List.mem_of_getElem? (i := 203) rfl)) (by decide +kernel)
set_option maxRecDepth 100000 in
theorem mw_525 : Cond.instantiable R_Se 3 ∈ lw_g := lw_gin (List.mem_append_right _ (List.mem_of_getElem? (i := 205) rfl)) (by decide +kernel)
set_option maxRecDepth 100000 in
theorem mw_526 : Cond.code y_Se_init b_Se_init 1 none ∈ lw_g := lw_gin (List.mem_append_right _ (List.mem_of_getElem? (i := 208) rfl)) (by decide +kernel)
set_option maxRecDepth 100000 in
theorem mw_527 : Cond.instanceMethod y_Se_init ∈ lw_g := lw_gin (List.mem_append_right _ (List.mem_of_getElem? (i := 207) rfl)) (by decide +kernel)
set_option maxRecDepth 100000 in
theorem mw_528 : Cond.methodLink R_Ns 3 objectInit ∈ lw_g := lw_gin (List.mem_append_right _ (List.mem_of_getElem? (i := 175) rfl)) (by decide +kernel)
set_option maxRecDepth 100000 in
theorem mw_529 : Cond.classLink R_Ns 9 R_No ∈ lw_g := lw_gin (List.mem_append_right _ (List.mem_of_getElem? (i := 176) rfl)) (by decide +kernel)
set_option maxRecDepth 100000 in
theorem mw_530 : Cond.instantiable R_No 11 ∈ lw_g := lw_gin (List.mem_append_right _ (List.mem_of_getElem? (i := 85) rfl)) (by decide +kernel)
set_option maxRecDepth 100000 in
theorem mw_531 : Cond.code y_No_init b_No_init 1 none ∈ lw_g := lw_gin (List.mem_append_right _ (List.mem_of_getElem? (i := 88) rfl)) (by decide +kernel)
set_option maxRecDepth 100000 in
theorem mw_532 : Cond.instanceMethod y_No_init ∈ lw_g := lw_gin (List.mem_append_right _ (List.mem_of_getElem? (i := 87) rfl)) (by decide +kernel)
set_option maxRecDepth 100000 in
theorem mw_533 : Cond.methodLink R_Wr 3 objectInit ∈ lw_g := lw_gin (List.mem_append_right _ (List.mem_of_getElem? (i := 35) rfl)) (by decide +kernel)
set_option maxRecDepth 100000 in
theorem mw_534 : Cond.classLink R_Wr 9 R_Po ∈ lw_g := lw_gin (List.mem_append_right _ (List.mem_of_getElem? (i := 36) rfl)) (by decide +kernel)
set_option maxRecDepth 100000 in
theorem mw_535 : Cond.instantiable R_Po 3 ∈ lw_g := lw_gin (List.mem_append_right _ (List.mem_of_getElem? (i := 37) rfl)) (by decide +kernel)
set_option maxRecDepth 100000 in
theorem mw_536 : Cond.code y_Po_init b_Po_init 1 none ∈ lw_g := lw_gin (List.mem_append_right _ (List.mem_of_getElem? (i := 40) rfl)) (by decide +kernel)
set_option maxRecDepth 100000 in
theorem mw_537 : Cond.instanceMethod y_Po_init ∈ lw_g := lw_gin (List.mem_append_right _ (List.mem_of_getElem? (i := 39) rfl)) (by decide +kernel)
set_option maxRecDepth 100000 in
theorem mw_538 : Cond.classLink R_Wr 18 R_Pg ∈ lw_g := lw_gin (List.mem_append_right _ (List.mem_of_getElem? (i := 55) rfl)) (by decide +kernel)
set_option maxRecDepth 100000 in
theorem mw_539 : Cond.instantiable R_Pg 1 ∈ lw_g := lw_gin (List.mem_append_right _ (List.mem_of_getElem? (i := 56) rfl)) (by decide +kernel)
set_option maxRecDepth 100000 in
theorem mw_540 : Cond.code y_Pg_init b_Pg_init 2 none ∈ lw_g := lw_gin (List.mem_append_right _ (List.mem_of_getElem? (i := 59) rfl)) (by decide +kernel)
set_option maxRecDepth 100000 in
theorem mw_541 : Cond.methodLink R_Wr 20 y_Pg_init ∈ lw_g := lw_gin (List.mem_append_right _ (List.mem_of_getElem? (i := 57) rfl)) (by decide +kernel)
set_option maxRecDepth 100000 in
theorem mw_542 : Cond.instanceMethod y_Pg_init ∈ lw_g := lw_gin (List.mem_append_right _ (List.mem_of_getElem? (i := 58) rfl)) (by decide +kernel)
set_option maxRecDepth 100000 in
theorem mw_543 : Cond.methodLink R_Re 3 objectInit ∈ lw_g := lw_gin (List.mem_append_right _ (List.mem_of_getElem? (i := 81) rfl)) (by decide +kernel)
set_option maxRecDepth 100000 in
theorem mw_544 : Cond.classLink R_Re 9 R_Pg ∈ lw_g := lw_gin (List.mem_append_right _ (List.mem_of_getElem? (i := 82) rfl)) (by decide +kernel)
set_option maxRecDepth 100000 in
theorem mw_545 : Cond.methodLink R_Re 11 y_Pg_init ∈ lw_g := lw_gin (List.mem_append_right _ (List.mem_of_getElem? (i := 83) rfl)) (by decide +kernel)
set_option maxRecDepth 100000 in
theorem mw_546 : Cond.classLink R_Re 20 R_No ∈ lw_g := lw_gin (List.mem_append_right _ (List.mem_of_getElem? (i := 84) rfl)) (by decide +kernel)
theorem d_Po_init_0 : decode b_Po_init 0 = .ok (.aload_n 0, 1) := by decide +kernel
theorem d_Po_init_1 : decode b_Po_init 1 = .ok (.invokespecial 3, 3) := by decide +kernel
theorem d_Po_init_4 : decode b_Po_init 4 = .ok (.aload_n 0, 1) := by decide +kernel
theorem d_Po_init_5 : decode b_Po_init 5 = .ok (.iconst (-1), 1) := by decide +kernel
theorem d_Po_init_6 : decode b_Po_init 6 = .ok (.putfield 9, 3) := by decide +kernel
theorem d_Po_init_9 : decode b_Po_init 9 = .ok (.aload_n 0, 1) := by decide +kernel
theorem d_Po_init_10 : decode b_Po_init 10 = .ok (.iconst 0, 1) := by decide +kernel
theorem d_Po_init_11 : decode b_Po_init 11 = .ok (.putfield 15, 3) := by decide +kernel
theorem d_Po_init_14 : decode b_Po_init 14 = .ok (.aload_n 0, 1) := by decide +kernel
theorem d_Po_init_15 : decode b_Po_init 15 = .ok (.iconst 0, 1) := by decide +kernel
theorem d_Po_init_16 : decode b_Po_init 16 = .ok (.putfield 19, 3) := by decide +kernel
theorem d_Po_init_19 : decode b_Po_init 19 = .ok (.return_, 1) := by decide +kernel
theorem d_Se_init_0 : decode b_Se_init 0 = .ok (.aload_n 0, 1) := by decide +kernel
theorem d_Se_init_1 : decode b_Se_init 1 = .ok (.invokespecial 3, 3) := by decide +kernel
theorem d_Se_init_4 : decode b_Se_init 4 = .ok (.aload_n 0, 1) := by decide +kernel
theorem d_Se_init_5 : decode b_Se_init 5 = .ok (.iconst 0, 1) := by decide +kernel
theorem d_Se_init_6 : decode b_Se_init 6 = .ok (.putfield 9, 3) := by decide +kernel
theorem d_Se_init_9 : decode b_Se_init 9 = .ok (.aload_n 0, 1) := by decide +kernel
theorem d_Se_init_10 : decode b_Se_init 10 = .ok (.iconst 0, 1) := by decide +kernel
theorem d_Se_init_11 : decode b_Se_init 11 = .ok (.putfield 15, 3) := by decide +kernel
theorem d_Se_init_14 : decode b_Se_init 14 = .ok (.aload_n 0, 1) := by decide +kernel
theorem d_Se_init_15 : decode b_Se_init 15 = .ok (.aconst_null, 1) := by decide +kernel
theorem d_Se_init_16 : decode b_Se_init 16 = .ok (.putfield 19, 3) := by decide +kernel
theorem d_Se_init_19 : decode b_Se_init 19 = .ok (.return_, 1) := by decide +kernel
theorem d_No_init_0 : decode b_No_init 0 = .ok (.aload_n 0, 1) := by decide +kernel
theorem d_No_init_1 : decode b_No_init 1 = .ok (.invokespecial 3, 3) := by decide +kernel
theorem d_No_init_4 : decode b_No_init 4 = .ok (.aload_n 0, 1) := by decide +kernel
theorem d_No_init_5 : decode b_No_init 5 = .ok (.iconst 0, 1) := by decide +kernel
theorem d_No_init_6 : decode b_No_init 6 = .ok (.putfield 9, 3) := by decide +kernel
theorem d_No_init_9 : decode b_No_init 9 = .ok (.aload_n 0, 1) := by decide +kernel
theorem d_No_init_10 : decode b_No_init 10 = .ok (.aconst_null, 1) := by decide +kernel
theorem d_No_init_11 : decode b_No_init 11 = .ok (.putfield 15, 3) := by decide +kernel
theorem d_No_init_14 : decode b_No_init 14 = .ok (.aload_n 0, 1) := by decide +kernel
theorem d_No_init_15 : decode b_No_init 15 = .ok (.iconst 1, 1) := by decide +kernel
theorem d_No_init_16 : decode b_No_init 16 = .ok (.putfield 19, 3) := by decide +kernel
theorem d_No_init_19 : decode b_No_init 19 = .ok (.aload_n 0, 1) := by decide +kernel
theorem d_No_init_20 : decode b_No_init 20 = .ok (.lconst 0, 1) := by decide +kernel
theorem d_No_init_21 : decode b_No_init 21 = .ok (.putfield 23, 3) := by decide +kernel
theorem d_No_init_24 : decode b_No_init 24 = .ok (.aload_n 0, 1) := by decide +kernel
theorem d_No_init_25 : decode b_No_init 25 = .ok (.iconst 0, 1) := by decide +kernel
theorem d_No_init_26 : decode b_No_init 26 = .ok (.putfield 27, 3) := by decide +kernel
theorem d_No_init_29 : decode b_No_init 29 = .ok (.aload_n 0, 1) := by decide +kernel
theorem d_No_init_30 : decode b_No_init 30 = .ok (.iconst 0, 1) := by decide +kernel
theorem d_No_init_31 : decode b_No_init 31 = .ok (.putfield 30, 3) := by decide +kernel
theorem d_No_init_34 : decode b_No_init 34 = .ok (.aload_n 0, 1) := by decide +kernel
theorem d_No_init_35 : decode b_No_init 35 = .ok (.iconst 0, 1) := by decide +kernel
theorem d_No_init_36 : decode b_No_init 36 = .ok (.putfield 33, 3) := by decide +kernel
theorem d_No_init_39 : decode b_No_init 39 = .ok (.aload_n 0, 1) := by decide +kernel
theorem d_No_init_40 : decode b_No_init 40 = .ok (.iconst 0, 1) := by decide +kernel
theorem d_No_init_41 : decode b_No_init 41 = .ok (.putfield 36, 3) := by decide +kernel
theorem d_No_init_44 : decode b_No_init 44 = .ok (.aload_n 0, 1) := by decide +kernel
theorem d_No_init_45 : decode b_No_init 45 = .ok (.iconst 0, 1) := by decide +kernel
theorem d_No_init_46 : decode b_No_init 46 = .ok (.putfield 39, 3) := by decide +kernel
theorem d_No_init_49 : decode b_No_init 49 = .ok (.aload_n 0, 1) := by decide +kernel
theorem d_No_init_50 : decode b_No_init 50 = .ok (.iconst 0, 1) := by decide +kernel
theorem d_No_init_51 : decode b_No_init 51 = .ok (.putfield 42, 3) := by decide +kernel
theorem d_No_init_54 : decode b_No_init 54 = .ok (.aload_n 0, 1) := by decide +kernel
theorem d_No_init_55 : decode b_No_init 55 = .ok (.iconst 1, 1) := by decide +kernel
theorem d_No_init_56 : decode b_No_init 56 = .ok (.putfield 45, 3) := by decide +kernel
theorem d_No_init_59 : decode b_No_init 59 = .ok (.return_, 1) := by decide +kernel
theorem d_Pg_init_0 : decode b_Pg_init 0 = .ok (.aload_n 0, 1) := by decide +kernel
theorem d_Pg_init_1 : decode b_Pg_init 1 = .ok (.invokespecial 3, 3) := by decide +kernel
theorem d_Pg_init_4 : decode b_Pg_init 4 = .ok (.aload_n 0, 1) := by decide +kernel
theorem d_Pg_init_5 : decode b_Pg_init 5 = .ok (.iload_n 1, 1) := by decide +kernel
theorem d_Pg_init_6 : decode b_Pg_init 6 = .ok (.newarray .byte, 2) := by decide +kernel
theorem d_Pg_init_8 : decode b_Pg_init 8 = .ok (.putfield 9, 3) := by decide +kernel
theorem d_Pg_init_11 : decode b_Pg_init 11 = .ok (.return_, 1) := by decide +kernel
theorem d_Me_init_0 : decode b_Me_init 0 = .ok (.aload_n 0, 1) := by decide +kernel
theorem d_Me_init_1 : decode b_Me_init 1 = .ok (.invokespecial 3, 3) := by decide +kernel
theorem d_Me_init_4 : decode b_Me_init 4 = .ok (.aload_n 0, 1) := by decide +kernel
theorem d_Me_init_5 : decode b_Me_init 5 = .ok (.iconst 0, 1) := by decide +kernel
theorem d_Me_init_6 : decode b_Me_init 6 = .ok (.putfield 9, 3) := by decide +kernel
theorem d_Me_init_9 : decode b_Me_init 9 = .ok (.aload_n 0, 1) := by decide +kernel
theorem d_Me_init_10 : decode b_Me_init 10 = .ok (.iload_n 1, 1) := by decide +kernel
theorem d_Me_init_11 : decode b_Me_init 11 = .ok (.anewarray 15, 3) := by decide +kernel
theorem d_Me_init_14 : decode b_Me_init 14 = .ok (.putfield 17, 3) := by decide +kernel
theorem d_Me_init_17 : decode b_Me_init 17 = .ok (.iconst 0, 1) := by decide +kernel
theorem d_Me_init_18 : decode b_Me_init 18 = .ok (.istore_n 2, 1) := by decide +kernel
theorem d_Me_init_19 : decode b_Me_init 19 = .ok (.iload_n 2, 1) := by decide +kernel
theorem d_Me_init_20 : decode b_Me_init 20 = .ok (.iload_n 1, 1) := by decide +kernel
theorem d_Me_init_21 : decode b_Me_init 21 = .ok (.if_icmp .ge 22, 3) := by decide +kernel
theorem d_Me_init_43 : decode b_Me_init 43 = .ok (.return_, 1) := by decide +kernel
theorem d_Me_init_24 : decode b_Me_init 24 = .ok (.aload_n 0, 1) := by decide +kernel
theorem d_Me_init_25 : decode b_Me_init 25 = .ok (.getfield 17, 3) := by decide +kernel
theorem d_Me_init_28 : decode b_Me_init 28 = .ok (.iload_n 2, 1) := by decide +kernel
theorem d_Me_init_29 : decode b_Me_init 29 = .ok (.new 15, 3) := by decide +kernel
theorem d_Me_init_32 : decode b_Me_init 32 = .ok (.dup, 1) := by decide +kernel
theorem d_Me_init_33 : decode b_Me_init 33 = .ok (.invokespecial 21, 3) := by decide +kernel
theorem d_Me_init_36 : decode b_Me_init 36 = .ok (.aastore, 1) := by decide +kernel
theorem d_Me_init_37 : decode b_Me_init 37 = .ok (.iinc 2 1, 3) := by decide +kernel
theorem d_Me_init_40 : decode b_Me_init 40 = .ok (.goto (-21), 3) := by decide +kernel
theorem d_Ns_init_0 : decode b_Ns_init 0 = .ok (.aload_n 0, 1) := by decide +kernel
theorem d_Ns_init_1 : decode b_Ns_init 1 = .ok (.invokespecial 3, 3) := by decide +kernel
theorem d_Ns_init_4 : decode b_Ns_init 4 = .ok (.aload_n 0, 1) := by decide +kernel
theorem d_Ns_init_5 : decode b_Ns_init 5 = .ok (.bipush 30, 2) := by decide +kernel
theorem d_Ns_init_7 : decode b_Ns_init 7 = .ok (.anewarray 9, 3) := by decide +kernel
theorem d_Ns_init_10 : decode b_Ns_init 10 = .ok (.putfield 11, 3) := by decide +kernel
theorem d_Ns_init_13 : decode b_Ns_init 13 = .ok (.aload_n 0, 1) := by decide +kernel
theorem d_Ns_init_14 : decode b_Ns_init 14 = .ok (.bipush 30, 2) := by decide +kernel
theorem d_Ns_init_16 : decode b_Ns_init 16 = .ok (.anewarray 9, 3) := by decide +kernel
theorem d_Ns_init_19 : decode b_Ns_init 19 = .ok (.putfield 17, 3) := by decide +kernel
theorem d_Ns_init_22 : decode b_Ns_init 22 = .ok (.aload_n 0, 1) := by decide +kernel
theorem d_Ns_init_23 : decode b_Ns_init 23 = .ok (.iconst 1, 1) := by decide +kernel
theorem d_Ns_init_24 : decode b_Ns_init 24 = .ok (.putfield 20, 3) := by decide +kernel
theorem d_Ns_init_27 : decode b_Ns_init 27 = .ok (.aload_n 0, 1) := by decide +kernel
theorem d_Ns_init_28 : decode b_Ns_init 28 = .ok (.iconst 1, 1) := by decide +kernel
theorem d_Ns_init_29 : decode b_Ns_init 29 = .ok (.putfield 24, 3) := by decide +kernel
theorem d_Ns_init_32 : decode b_Ns_init 32 = .ok (.iconst 0, 1) := by decide +kernel
theorem d_Ns_init_33 : decode b_Ns_init 33 = .ok (.istore_n 1, 1) := by decide +kernel
theorem d_Ns_init_34 : decode b_Ns_init 34 = .ok (.iload_n 1, 1) := by decide +kernel
theorem d_Ns_init_35 : decode b_Ns_init 35 = .ok (.bipush 30, 2) := by decide +kernel
theorem d_Ns_init_37 : decode b_Ns_init 37 = .ok (.if_icmp .ge 34, 3) := by decide +kernel
theorem d_Ns_init_71 : decode b_Ns_init 71 = .ok (.return_, 1) := by decide +kernel
theorem d_Ns_init_40 : decode b_Ns_init 40 = .ok (.aload_n 0, 1) := by decide +kernel
theorem d_Ns_init_41 : decode b_Ns_init 41 = .ok (.getfield 11, 3) := by decide +kernel
theorem d_Ns_init_44 : decode b_Ns_init 44 = .ok (.iload_n 1, 1) := by decide +kernel
theorem d_Ns_init_45 : decode b_Ns_init 45 = .ok (.new 9, 3) := by decide +kernel
theorem d_Ns_init_48 : decode b_Ns_init 48 = .ok (.dup, 1) := by decide +kernel
theorem d_Ns_init_49 : decode b_Ns_init 49 = .ok (.invokespecial 27, 3) := by decide +kernel
theorem d_Ns_init_52 : decode b_Ns_init 52 = .ok (.aastore, 1) := by decide +kernel
theorem d_Ns_init_53 : decode b_Ns_init 53 = .ok (.aload_n 0, 1) := by decide +kernel
theorem d_Ns_init_54 : decode b_Ns_init 54 = .ok (.getfield 17, 3) := by decide +kernel
theorem d_Ns_init_57 : decode b_Ns_init 57 = .ok (.iload_n 1, 1) := by decide +kernel
theorem d_Ns_init_58 : decode b_Ns_init 58 = .ok (.aload_n 0, 1) := by decide +kernel
theorem d_Ns_init_59 : decode b_Ns_init 59 = .ok (.getfield 11, 3) := by decide +kernel
theorem d_Ns_init_62 : decode b_Ns_init 62 = .ok (.iload_n 1, 1) := by decide +kernel
theorem d_Ns_init_63 : decode b_Ns_init 63 = .ok (.aaload, 1) := by decide +kernel
theorem d_Ns_init_64 : decode b_Ns_init 64 = .ok (.aastore, 1) := by decide +kernel
theorem d_Ns_init_65 : decode b_Ns_init 65 = .ok (.iinc 1 1, 3) := by decide +kernel
theorem d_Ns_init_68 : decode b_Ns_init 68 = .ok (.goto (-34), 3) := by decide +kernel
theorem d_Wr_init_0 : decode b_Wr_init 0 = .ok (.aload_n 0, 1) := by decide +kernel
theorem d_Wr_init_1 : decode b_Wr_init 1 = .ok (.invokespecial 3, 3) := by decide +kernel
theorem d_Wr_init_4 : decode b_Wr_init 4 = .ok (.aload_n 0, 1) := by decide +kernel
theorem d_Wr_init_5 : decode b_Wr_init 5 = .ok (.new 9, 3) := by decide +kernel
theorem d_Wr_init_8 : decode b_Wr_init 8 = .ok (.dup, 1) := by decide +kernel
theorem d_Wr_init_9 : decode b_Wr_init 9 = .ok (.invokespecial 11, 3) := by decide +kernel
theorem d_Wr_init_12 : decode b_Wr_init 12 = .ok (.putfield 12, 3) := by decide +kernel
theorem d_Wr_init_15 : decode b_Wr_init 15 = .ok (.aload_n 0, 1) := by decide +kernel
theorem d_Wr_init_16 : decode b_Wr_init 16 = .ok (.new 18, 3) := by decide +kernel
theorem d_Wr_init_19 : decode b_Wr_init 19 = .ok (.dup, 1) := by decide +kernel
theorem d_Wr_init_20 : decode b_Wr_init 20 = .ok (.sipush 2048, 3) := by decide +kernel
theorem d_Wr_init_23 : decode b_Wr_init 23 = .ok (.invokespecial 20, 3) := by decide +kernel
theorem d_Wr_init_26 : decode b_Wr_init 26 = .ok (.putfield 23, 3) := by decide +kernel
theorem d_Wr_init_29 : decode b_Wr_init 29 = .ok (.return_, 1) := by decide +kernel
theorem d_Re_init_0 : decode b_Re_init 0 = .ok (.aload_n 0, 1) := by decide +kernel
theorem d_Re_init_1 : decode b_Re_init 1 = .ok (.invokespecial 3, 3) := by decide +kernel
theorem d_Re_init_4 : decode b_Re_init 4 = .ok (.aload_n 0, 1) := by decide +kernel
theorem d_Re_init_5 : decode b_Re_init 5 = .ok (.new 9, 3) := by decide +kernel
theorem d_Re_init_8 : decode b_Re_init 8 = .ok (.dup, 1) := by decide +kernel
theorem d_Re_init_9 : decode b_Re_init 9 = .ok (.sipush 480, 3) := by decide +kernel
theorem d_Re_init_12 : decode b_Re_init 12 = .ok (.invokespecial 11, 3) := by decide +kernel
theorem d_Re_init_15 : decode b_Re_init 15 = .ok (.putfield 14, 3) := by decide +kernel
theorem d_Re_init_18 : decode b_Re_init 18 = .ok (.aload_n 0, 1) := by decide +kernel
theorem d_Re_init_19 : decode b_Re_init 19 = .ok (.new 20, 3) := by decide +kernel
theorem d_Re_init_22 : decode b_Re_init 22 = .ok (.dup, 1) := by decide +kernel
theorem d_Re_init_23 : decode b_Re_init 23 = .ok (.invokespecial 22, 3) := by decide +kernel
theorem d_Re_init_26 : decode b_Re_init 26 = .ok (.putfield 23, 3) := by decide +kernel
theorem d_Re_init_29 : decode b_Re_init 29 = .ok (.aload_n 0, 1) := by decide +kernel
theorem d_Re_init_30 : decode b_Re_init 30 = .ok (.aconst_null, 1) := by decide +kernel
theorem d_Re_init_31 : decode b_Re_init 31 = .ok (.putfield 27, 3) := by decide +kernel
theorem d_Re_init_34 : decode b_Re_init 34 = .ok (.aload_n 0, 1) := by decide +kernel
theorem d_Re_init_35 : decode b_Re_init 35 = .ok (.aconst_null, 1) := by decide +kernel
theorem d_Re_init_36 : decode b_Re_init 36 = .ok (.putfield 31, 3) := by decide +kernel
theorem d_Re_init_39 : decode b_Re_init 39 = .ok (.aload_n 0, 1) := by decide +kernel
theorem d_Re_init_40 : decode b_Re_init 40 = .ok (.iconst 0, 1) := by decide +kernel
theorem d_Re_init_41 : decode b_Re_init 41 = .ok (.putfield 35, 3) := by decide +kernel
theorem d_Re_init_44 : decode b_Re_init 44 = .ok (.return_, 1) := by decide +kernel
set_option maxHeartbeats 4000000 in
set_option maxRecDepth 100000 in
theorem d_Power_init (l : Launch) (D : va_G) (t : Nat → ClassId) (G : hG) (ak av : Nat → Nat) (h : hM) (h0 : Nat) (f_h0 : h h0 = some (.inr (4, [.int 0, .int 0, .int 0]))) : Met l y_Po_init (.code y_Po_init b_Po_init 1 none :: lw_g) { frames := 1, cells := 0, slots := 0, locals := 12 } (hP (kE D t G ak av) D vwCl G h [.ref h0]) (hQv D vwCl G (fun h' => kp [h0] h h' ∧ h' h0 = some (.inr (4, [.int (-1), .int 0, .int 0])))) 0 0 G.P := by
  refine Met.ofW (cc := b_Po_init) (maxL := 1) (ret := none) (by decide) rfl ?_
  intro p e s m args below meth c s₁ Bd hml hv
  obtain ⟨ha, hE, hH⟩ := hv
  have hx := Bd.exec
  have hb := Bd.bytes
  have hr := Bd.returns
  have hts : ∀ w ∈ lw_g, w.before args s = true := fun w hw => atoms_spec (ws := (.code y_Po_init b_Po_init 1 none :: lw_g)) Bd.pre w (List.mem_cons_of_mem _ hw)
  have hown : s.vm.findClass R_Po = some m.cls := findClass_of_methodNamed Bd.named
  have hlocks := Bd.notSynchronized
  have hin : meth.name = "<init>" := (name_of_methodNamed Bd.named Bd.method).1
  have hK := hE.1
  have hH0 := hH
  have hLo : hLc G.P [] := hLc_nil
  have hz : s.heap.size ≤ s.heap.size := Nat.le_refl _
  have hkp : kp [h0] h h := kp_rf
  have hl := lv_entry [.ref h0] (n := 1) (Nat.le_of_ble_eq_true rfl)
  rw [show entryFrame m args 1 = F0 m 0 ((lg_sl [.ref h0] ++ List.replicate (1 - (lg_sl [.ref h0]).length) Slot.unset).toArray) [] from (by rw [ha]; exact lg_entry_eq m [.ref h0] 1)]
  generalize (lg_sl [.ref h0] ++ List.replicate (1 - (lg_sl [.ref h0]).length) Slot.unset).toArray = ls at hl ⊢
  have hl : lv_has ls 1 [(0, .ref h0)] := hl
  refine lv_aload_n hx hb d_Po_init_0 rfl (lv_at hl 0 rfl) ?_
  refine W.objInit hx hb hown (hts _ mw_516) (hts _ mw_517) (hts _ mw_518) rfl (by rw [hml]; exact hl.1) rfl d_Po_init_1 (Nat.le_of_ble_eq_true rfl) (Nat.le_of_ble_eq_true rfl) ?_
  refine W.eq (g2 := F0 m 4 ls []) rfl ?_
  refine lv_aload_n hx hb d_Po_init_4 rfl (lv_at hl 0 rfl) ?_
  refine lv_iconst (v := -1) hx hb d_Po_init_5 (by decide) ?_
  refine hm_put (ci := 4) (v := .int (-1)) (ty := .int) (C := R_Po) (T := F_Po) (N := 3) hx hb hts ig_Po t_Po tk_Po nm_Po hown hK hH hLo f_h0 rfl 0 (by decide) (hts _ mw_237) (fun _ h9 => h9) rfl (by decide +kernel) rfl rfl (Nat.le_of_ble_eq_true rfl) d_Po_init_6 (fun H1 locs hH z2 hLo => ?_)
  have hz : s.heap.size ≤ H1.size := by rw [z2]; exact hz
  obtain ⟨h3, e4⟩ : ∃ z, z = hu h h0 (.inr (4, [.int (-1), .int 0, .int 0])) := ⟨_, rfl⟩
  have hH : hm D vwCl G h3 H1 := by rw [e4]; exact hH
  have f_h0 : h3 h0 = some (.inr (4, [.int (-1), .int 0, .int 0])) := by rw [e4]; exact hu_s _ _ _
  have hkp : kp [h0] h h3 := by rw [e4]; exact kp_put hkp (by simp)
  refine lv_aload_n hx hb d_Po_init_9 rfl (lv_at hl 0 rfl) ?_
  refine lv_iconst (v := 0) hx hb d_Po_init_10 (by decide) ?_
  refine hm_put (ci := 4) (v := .int 0) (ty := .boolean) (C := R_Po) (T := F_Po) (N := 3) hx hb hts ig_Po t_Po tk_Po nm_Po hown hK hH hLo f_h0 rfl 1 (by decide) (hts _ mw_236) (fun _ h9 => h9) rfl (by decide +kernel) (by decide) (by decide) (Nat.le_of_ble_eq_true rfl) d_Po_init_11 (fun H5 locs hH z6 hLo => ?_)
  have hz : s.heap.size ≤ H5.size := by rw [z6]; exact hz
  obtain ⟨h7, e8⟩ : ∃ z, z = hu h3 h0 (.inr (4, [.int (-1), .int 0, .int 0])) := ⟨_, rfl⟩
  have hH : hm D vwCl G h7 H5 := by rw [e8]; exact hH
  have f_h0 : h7 h0 = some (.inr (4, [.int (-1), .int 0, .int 0])) := by rw [e8]; exact hu_s _ _ _
  have hkp : kp [h0] h h7 := by rw [e8]; exact kp_put hkp (by simp)
  refine lv_aload_n hx hb d_Po_init_14 rfl (lv_at hl 0 rfl) ?_
  refine lv_iconst (v := 0) hx hb d_Po_init_15 (by decide) ?_
  refine hm_put (ci := 4) (v := .int 0) (ty := .int) (C := R_Po) (T := F_Po) (N := 3) hx hb hts ig_Po t_Po tk_Po nm_Po hown hK hH hLo f_h0 rfl 2 (by decide) (hts _ mw_235) (fun _ h9 => h9) rfl (by decide +kernel) rfl rfl (Nat.le_of_ble_eq_true rfl) d_Po_init_16 (fun H9 locs hH z10 hLo => ?_)
  have hz : s.heap.size ≤ H9.size := by rw [z10]; exact hz
  obtain ⟨h11, e12⟩ : ∃ z, z = hu h7 h0 (.inr (4, [.int (-1), .int 0, .int 0])) := ⟨_, rfl⟩
  have hH : hm D vwCl G h11 H9 := by rw [e12]; exact hH
  have f_h0 : h11 h0 = some (.inr (4, [.int (-1), .int 0, .int 0])) := by rw [e12]; exact hu_s _ _ _
  have hkp : kp [h0] h h11 := by rw [e12]; exact kp_put hkp (by simp)
  exact W.vret hx hb hr (fun t9 ht hW => ⟨h11, rfl, ⟨hkp, f_h0⟩, by rw [ht]; exact hH, by rw [ht]; exact hz⟩) hLo d_Po_init_19

set_option maxHeartbeats 4000000 in
set_option maxRecDepth 100000 in
theorem d_Sector_init (l : Launch) (D : va_G) (t : Nat → ClassId) (G : hG) (ak av : Nat → Nat) (h : hM) (h0 : Nat) (f_h0 : h h0 = some (.inr (6, [.int 0, .int 0, .null]))) : Met l y_Se_init (.code y_Se_init b_Se_init 1 none :: lw_g) { frames := 1, cells := 0, slots := 0, locals := 12 } (hP (kE D t G ak av) D vwCl G h [.ref h0]) (hQv D vwCl G (fun h' => kp [h0] h h' ∧ h' h0 = some (.inr (6, [.int 0, .int 0, .null])))) 0 0 G.P := by
  refine Met.ofW (cc := b_Se_init) (maxL := 1) (ret := none) (by decide) rfl ?_
  intro p e s m args below meth c s₁ Bd hml hv
  obtain ⟨ha, hE, hH⟩ := hv
  have hx := Bd.exec
  have hb := Bd.bytes
  have hr := Bd.returns
  have hts : ∀ w ∈ lw_g, w.before args s = true := fun w hw => atoms_spec (ws := (.code y_Se_init b_Se_init 1 none :: lw_g)) Bd.pre w (List.mem_cons_of_mem _ hw)
  have hown : s.vm.findClass R_Se = some m.cls := findClass_of_methodNamed Bd.named
  have hlocks := Bd.notSynchronized
  have hin : meth.name = "<init>" := (name_of_methodNamed Bd.named Bd.method).1
  have hK := hE.1
  have hH0 := hH
  have hLo : hLc G.P [] := hLc_nil
  have hz : s.heap.size ≤ s.heap.size := Nat.le_refl _
  have hkp : kp [h0] h h := kp_rf
  have hl := lv_entry [.ref h0] (n := 1) (Nat.le_of_ble_eq_true rfl)
  rw [show entryFrame m args 1 = F0 m 0 ((lg_sl [.ref h0] ++ List.replicate (1 - (lg_sl [.ref h0]).length) Slot.unset).toArray) [] from (by rw [ha]; exact lg_entry_eq m [.ref h0] 1)]
  generalize (lg_sl [.ref h0] ++ List.replicate (1 - (lg_sl [.ref h0]).length) Slot.unset).toArray = ls at hl ⊢
  have hl : lv_has ls 1 [(0, .ref h0)] := hl
  refine lv_aload_n hx hb d_Se_init_0 rfl (lv_at hl 0 rfl) ?_
  refine W.objInit hx hb hown (hts _ mw_519) (hts _ mw_517) (hts _ mw_518) rfl (by rw [hml]; exact hl.1) rfl d_Se_init_1 (Nat.le_of_ble_eq_true rfl) (Nat.le_of_ble_eq_true rfl) ?_
  refine W.eq (g2 := F0 m 4 ls []) rfl ?_
  refine lv_aload_n hx hb d_Se_init_4 rfl (lv_at hl 0 rfl) ?_
  refine lv_iconst (v := 0) hx hb d_Se_init_5 (by decide) ?_
  refine hm_put (ci := 6) (v := .int 0) (ty := .int) (C := R_Se) (T := F_Se) (N := 3) hx hb hts ig_Se t_Se tk_Se nm_Se hown hK hH hLo f_h0 rfl 0 (by decide) (hts _ mw_223) (fun _ h9 => h9) rfl (by decide +kernel) rfl rfl (Nat.le_of_ble_eq_true rfl) d_Se_init_6 (fun H1 locs hH z2 hLo => ?_)
  have hz : s.heap.size ≤ H1.size := by rw [z2]; exact hz
  obtain ⟨h3, e4⟩ : ∃ z, z = hu h h0 (.inr (6, [.int 0, .int 0, .null])) := ⟨_, rfl⟩
  have hH : hm D vwCl G h3 H1 := by rw [e4]; exact hH
  have f_h0 : h3 h0 = some (.inr (6, [.int 0, .int 0, .null])) := by rw [e4]; exact hu_s _ _ _
  have hkp : kp [h0] h h3 := by rw [e4]; exact kp_put hkp (by simp)
  refine lv_aload_n hx hb d_Se_init_9 rfl (lv_at hl 0 rfl) ?_
  refine lv_iconst (v := 0) hx hb d_Se_init_10 (by decide) ?_
  refine hm_put (ci := 6) (v := .int 0) (ty := .boolean) (C := R_Se) (T := F_Se) (N := 3) hx hb hts ig_Se t_Se tk_Se nm_Se hown hK hH hLo f_h0 rfl 1 (by decide) (hts _ mw_224) (fun _ h9 => h9) rfl (by decide +kernel) (by decide) (by decide) (Nat.le_of_ble_eq_true rfl) d_Se_init_11 (fun H5 locs hH z6 hLo => ?_)
  have hz : s.heap.size ≤ H5.size := by rw [z6]; exact hz
  obtain ⟨h7, e8⟩ : ∃ z, z = hu h3 h0 (.inr (6, [.int 0, .int 0, .null])) := ⟨_, rfl⟩
  have hH : hm D vwCl G h7 H5 := by rw [e8]; exact hH
  have f_h0 : h7 h0 = some (.inr (6, [.int 0, .int 0, .null])) := by rw [e8]; exact hu_s _ _ _
  have hkp : kp [h0] h h7 := by rw [e8]; exact kp_put hkp (by simp)
  refine lv_aload_n hx hb d_Se_init_14 rfl (lv_at hl 0 rfl) ?_
  refine lv_null hx hb d_Se_init_15 ?_
  refine hm_put (ci := 6) (v := .null) (ty := (.array .byte)) (C := R_Se) (T := F_Se) (N := 3) hx hb hts ig_Se t_Se tk_Se nm_Se hown hK hH hLo f_h0 rfl 2 (by decide) (hts _ mw_242) (fun _ h9 => h9) rfl (by decide +kernel) rfl rfl (Nat.le_of_ble_eq_true rfl) d_Se_init_16 (fun H9 locs hH z10 hLo => ?_)
  have hz : s.heap.size ≤ H9.size := by rw [z10]; exact hz
  obtain ⟨h11, e12⟩ : ∃ z, z = hu h7 h0 (.inr (6, [.int 0, .int 0, .null])) := ⟨_, rfl⟩
  have hH : hm D vwCl G h11 H9 := by rw [e12]; exact hH
  have f_h0 : h11 h0 = some (.inr (6, [.int 0, .int 0, .null])) := by rw [e12]; exact hu_s _ _ _
  have hkp : kp [h0] h h11 := by rw [e12]; exact kp_put hkp (by simp)
  exact W.vret hx hb hr (fun t9 ht hW => ⟨h11, rfl, ⟨hkp, f_h0⟩, by rw [ht]; exact hH, by rw [ht]; exact hz⟩) hLo d_Se_init_19

set_option maxHeartbeats 4000000 in
set_option maxRecDepth 100000 in
theorem d_Node_init (l : Launch) (D : va_G) (t : Nat → ClassId) (G : hG) (ak av : Nat → Nat) (h : hM) (h0 : Nat) (f_h0 : h h0 = some (.inr (1, [.int 0, .null, .int 0, .long 0, .int 0, .int 0, .int 0, .int 0, .int 0, .int 0, .int 0]))) : Met l y_No_init (.code y_No_init b_No_init 1 none :: lw_g) { frames := 1, cells := 0, slots := 0, locals := 12 } (hP (kE D t G ak av) D vwCl G h [.ref h0]) (hQv D vwCl G (fun h' => kp [h0] h h' ∧ h' h0 = some (.inr (1, [.int 0, .null, .int 1, .long 0, .int 0, .int 0, .int 0, .int 0, .int 0, .int 0, .int 1])))) 0 0 G.P := by
  refine Met.ofW (cc := b_No_init) (maxL := 1) (ret := none) (by decide) rfl ?_
  intro p e s m args below meth c s₁ Bd hml hv
  obtain ⟨ha, hE, hH⟩ := hv
  have hx := Bd.exec
  have hb := Bd.bytes
  have hr := Bd.returns
  have hts : ∀ w ∈ lw_g, w.before args s = true := fun w hw => atoms_spec (ws := (.code y_No_init b_No_init 1 none :: lw_g)) Bd.pre w (List.mem_cons_of_mem _ hw)
  have hown : s.vm.findClass R_No = some m.cls := findClass_of_methodNamed Bd.named
  have hlocks := Bd.notSynchronized
  have hin : meth.name = "<init>" := (name_of_methodNamed Bd.named Bd.method).1
  have hK := hE.1
  have hH0 := hH
  have hLo : hLc G.P [] := hLc_nil
  have hz : s.heap.size ≤ s.heap.size := Nat.le_refl _
  have hkp : kp [h0] h h := kp_rf
  have hl := lv_entry [.ref h0] (n := 1) (Nat.le_of_ble_eq_true rfl)
  rw [show entryFrame m args 1 = F0 m 0 ((lg_sl [.ref h0] ++ List.replicate (1 - (lg_sl [.ref h0]).length) Slot.unset).toArray) [] from (by rw [ha]; exact lg_entry_eq m [.ref h0] 1)]
  generalize (lg_sl [.ref h0] ++ List.replicate (1 - (lg_sl [.ref h0]).length) Slot.unset).toArray = ls at hl ⊢
  have hl : lv_has ls 1 [(0, .ref h0)] := hl
  refine lv_aload_n hx hb d_No_init_0 rfl (lv_at hl 0 rfl) ?_
  refine W.objInit hx hb hown (hts _ mw_520) (hts _ mw_517) (hts _ mw_518) rfl (by rw [hml]; exact hl.1) rfl d_No_init_1 (Nat.le_of_ble_eq_true rfl) (Nat.le_of_ble_eq_true rfl) ?_
  refine W.eq (g2 := F0 m 4 ls []) rfl ?_
  refine lv_aload_n hx hb d_No_init_4 rfl (lv_at hl 0 rfl) ?_
  refine lv_iconst (v := 0) hx hb d_No_init_5 (by decide) ?_
  refine hm_put (ci := 1) (v := .int 0) (ty := .int) (C := R_No) (T := F_No) (N := 11) hx hb hts ig_No t_No tk_No nm_No hown hK hH hLo f_h0 rfl 0 (by decide) (hts _ mw_97) (fun _ h9 => h9) rfl (by decide +kernel) rfl rfl (Nat.le_of_ble_eq_true rfl) d_No_init_6 (fun H1 locs hH z2 hLo => ?_)
  have hz : s.heap.size ≤ H1.size := by rw [z2]; exact hz
  obtain ⟨h3, e4⟩ : ∃ z, z = hu h h0 (.inr (1, [.int 0, .null, .int 0, .long 0, .int 0, .int 0, .int 0, .int 0, .int 0, .int 0, .int 0])) := ⟨_, rfl⟩
  have hH : hm D vwCl G h3 H1 := by rw [e4]; exact hH
  have f_h0 : h3 h0 = some (.inr (1, [.int 0, .null, .int 0, .long 0, .int 0, .int 0, .int 0, .int 0, .int 0, .int 0, .int 0])) := by rw [e4]; exact hu_s _ _ _
  have hkp : kp [h0] h h3 := by rw [e4]; exact kp_put hkp (by simp)
  refine lv_aload_n hx hb d_No_init_9 rfl (lv_at hl 0 rfl) ?_
  refine lv_null hx hb d_No_init_10 ?_
  refine hm_put (ci := 1) (v := .null) (ty := (.object "WriteOnceDisc$Node")) (C := R_No) (T := F_No) (N := 11) hx hb hts ig_No t_No tk_No nm_No hown hK hH hLo f_h0 rfl 1 (by decide) (hts _ mw_96) (fun _ h9 => h9) rfl (by decide +kernel) rfl rfl (Nat.le_of_ble_eq_true rfl) d_No_init_11 (fun H5 locs hH z6 hLo => ?_)
  have hz : s.heap.size ≤ H5.size := by rw [z6]; exact hz
  obtain ⟨h7, e8⟩ : ∃ z, z = hu h3 h0 (.inr (1, [.int 0, .null, .int 0, .long 0, .int 0, .int 0, .int 0, .int 0, .int 0, .int 0, .int 0])) := ⟨_, rfl⟩
  have hH : hm D vwCl G h7 H5 := by rw [e8]; exact hH
  have f_h0 : h7 h0 = some (.inr (1, [.int 0, .null, .int 0, .long 0, .int 0, .int 0, .int 0, .int 0, .int 0, .int 0, .int 0])) := by rw [e8]; exact hu_s _ _ _
  have hkp : kp [h0] h h7 := by rw [e8]; exact kp_put hkp (by simp)
  refine lv_aload_n hx hb d_No_init_14 rfl (lv_at hl 0 rfl) ?_
  refine lv_iconst (v := 1) hx hb d_No_init_15 (by decide) ?_
  refine hm_put (ci := 1) (v := .int 1) (ty := .boolean) (C := R_No) (T := F_No) (N := 11) hx hb hts ig_No t_No tk_No nm_No hown hK hH hLo f_h0 rfl 2 (by decide) (hts _ mw_94) (fun _ h9 => h9) rfl (by decide +kernel) (by decide) (by decide) (Nat.le_of_ble_eq_true rfl) d_No_init_16 (fun H9 locs hH z10 hLo => ?_)
  have hz : s.heap.size ≤ H9.size := by rw [z10]; exact hz
  obtain ⟨h11, e12⟩ : ∃ z, z = hu h7 h0 (.inr (1, [.int 0, .null, .int 1, .long 0, .int 0, .int 0, .int 0, .int 0, .int 0, .int 0, .int 0])) := ⟨_, rfl⟩
  have hH : hm D vwCl G h11 H9 := by rw [e12]; exact hH
  have f_h0 : h11 h0 = some (.inr (1, [.int 0, .null, .int 1, .long 0, .int 0, .int 0, .int 0, .int 0, .int 0, .int 0, .int 0])) := by rw [e12]; exact hu_s _ _ _
  have hkp : kp [h0] h h11 := by rw [e12]; exact kp_put hkp (by simp)
  refine lv_aload_n hx hb d_No_init_19 rfl (lv_at hl 0 rfl) ?_
  refine lv_lconst (v := 0) hx hb d_No_init_20 (by decide) ?_
  refine hm_put (ci := 1) (v := .long 0) (ty := .long) (C := R_No) (T := F_No) (N := 11) hx hb hts ig_No t_No tk_No nm_No hown hK hH hLo f_h0 rfl 3 (by decide) (hts _ mw_104) (fun _ h9 => h9) rfl (by decide +kernel) rfl rfl (Nat.le_of_ble_eq_true rfl) d_No_init_21 (fun H13 locs hH z14 hLo => ?_)
  have hz : s.heap.size ≤ H13.size := by rw [z14]; exact hz
  obtain ⟨h15, e16⟩ : ∃ z, z = hu h11 h0 (.inr (1, [.int 0, .null, .int 1, .long 0, .int 0, .int 0, .int 0, .int 0, .int 0, .int 0, .int 0])) := ⟨_, rfl⟩
  have hH : hm D vwCl G h15 H13 := by rw [e16]; exact hH
  have f_h0 : h15 h0 = some (.inr (1, [.int 0, .null, .int 1, .long 0, .int 0, .int 0, .int 0, .int 0, .int 0, .int 0, .int 0])) := by rw [e16]; exact hu_s _ _ _
  have hkp : kp [h0] h h15 := by rw [e16]; exact kp_put hkp (by simp)
  refine lv_aload_n hx hb d_No_init_24 rfl (lv_at hl 0 rfl) ?_
  refine lv_iconst (v := 0) hx hb d_No_init_25 (by decide) ?_
  refine hm_put (ci := 1) (v := .int 0) (ty := .int) (C := R_No) (T := F_No) (N := 11) hx hb hts ig_No t_No tk_No nm_No hown hK hH hLo f_h0 rfl 4 (by decide) (hts _ mw_101) (fun _ h9 => h9) rfl (by decide +kernel) rfl rfl (Nat.le_of_ble_eq_true rfl) d_No_init_26 (fun H17 locs hH z18 hLo => ?_)
  have hz : s.heap.size ≤ H17.size := by rw [z18]; exact hz
  obtain ⟨h19, e20⟩ : ∃ z, z = hu h15 h0 (.inr (1, [.int 0, .null, .int 1, .long 0, .int 0, .int 0, .int 0, .int 0, .int 0, .int 0, .int 0])) := ⟨_, rfl⟩
  have hH : hm D vwCl G h19 H17 := by rw [e20]; exact hH
  have f_h0 : h19 h0 = some (.inr (1, [.int 0, .null, .int 1, .long 0, .int 0, .int 0, .int 0, .int 0, .int 0, .int 0, .int 0])) := by rw [e20]; exact hu_s _ _ _
  have hkp : kp [h0] h h19 := by rw [e20]; exact kp_put hkp (by simp)
  refine lv_aload_n hx hb d_No_init_29 rfl (lv_at hl 0 rfl) ?_
  refine lv_iconst (v := 0) hx hb d_No_init_30 (by decide) ?_
  refine hm_put (ci := 1) (v := .int 0) (ty := .int) (C := R_No) (T := F_No) (N := 11) hx hb hts ig_No t_No tk_No nm_No hown hK hH hLo f_h0 rfl 5 (by decide) (hts _ mw_95) (fun _ h9 => h9) rfl (by decide +kernel) rfl rfl (Nat.le_of_ble_eq_true rfl) d_No_init_31 (fun H21 locs hH z22 hLo => ?_)
  have hz : s.heap.size ≤ H21.size := by rw [z22]; exact hz
  obtain ⟨h23, e24⟩ : ∃ z, z = hu h19 h0 (.inr (1, [.int 0, .null, .int 1, .long 0, .int 0, .int 0, .int 0, .int 0, .int 0, .int 0, .int 0])) := ⟨_, rfl⟩
  have hH : hm D vwCl G h23 H21 := by rw [e24]; exact hH
  have f_h0 : h23 h0 = some (.inr (1, [.int 0, .null, .int 1, .long 0, .int 0, .int 0, .int 0, .int 0, .int 0, .int 0, .int 0])) := by rw [e24]; exact hu_s _ _ _
  have hkp : kp [h0] h h23 := by rw [e24]; exact kp_put hkp (by simp)
  refine lv_aload_n hx hb d_No_init_34 rfl (lv_at hl 0 rfl) ?_
  refine lv_iconst (v := 0) hx hb d_No_init_35 (by decide) ?_
  refine hm_put (ci := 1) (v := .int 0) (ty := .int) (C := R_No) (T := F_No) (N := 11) hx hb hts ig_No t_No tk_No nm_No hown hK hH hLo f_h0 rfl 6 (by decide) (hts _ mw_93) (fun _ h9 => h9) rfl (by decide +kernel) rfl rfl (Nat.le_of_ble_eq_true rfl) d_No_init_36 (fun H25 locs hH z26 hLo => ?_)
  have hz : s.heap.size ≤ H25.size := by rw [z26]; exact hz
  obtain ⟨h27, e28⟩ : ∃ z, z = hu h23 h0 (.inr (1, [.int 0, .null, .int 1, .long 0, .int 0, .int 0, .int 0, .int 0, .int 0, .int 0, .int 0])) := ⟨_, rfl⟩
  have hH : hm D vwCl G h27 H25 := by rw [e28]; exact hH
  have f_h0 : h27 h0 = some (.inr (1, [.int 0, .null, .int 1, .long 0, .int 0, .int 0, .int 0, .int 0, .int 0, .int 0, .int 0])) := by rw [e28]; exact hu_s _ _ _
  have hkp : kp [h0] h h27 := by rw [e28]; exact kp_put hkp (by simp)
  refine lv_aload_n hx hb d_No_init_39 rfl (lv_at hl 0 rfl) ?_
  refine lv_iconst (v := 0) hx hb d_No_init_40 (by decide) ?_
  refine hm_put (ci := 1) (v := .int 0) (ty := .boolean) (C := R_No) (T := F_No) (N := 11) hx hb hts ig_No t_No tk_No nm_No hown hK hH hLo f_h0 rfl 7 (by decide) (hts _ mw_114) (fun _ h9 => h9) rfl (by decide +kernel) (by decide) (by decide) (Nat.le_of_ble_eq_true rfl) d_No_init_41 (fun H29 locs hH z30 hLo => ?_)
  have hz : s.heap.size ≤ H29.size := by rw [z30]; exact hz
  obtain ⟨h31, e32⟩ : ∃ z, z = hu h27 h0 (.inr (1, [.int 0, .null, .int 1, .long 0, .int 0, .int 0, .int 0, .int 0, .int 0, .int 0, .int 0])) := ⟨_, rfl⟩
  have hH : hm D vwCl G h31 H29 := by rw [e32]; exact hH
  have f_h0 : h31 h0 = some (.inr (1, [.int 0, .null, .int 1, .long 0, .int 0, .int 0, .int 0, .int 0, .int 0, .int 0, .int 0])) := by rw [e32]; exact hu_s _ _ _
  have hkp : kp [h0] h h31 := by rw [e32]; exact kp_put hkp (by simp)
  refine lv_aload_n hx hb d_No_init_44 rfl (lv_at hl 0 rfl) ?_
  refine lv_iconst (v := 0) hx hb d_No_init_45 (by decide) ?_
  refine hm_put (ci := 1) (v := .int 0) (ty := .int) (C := R_No) (T := F_No) (N := 11) hx hb hts ig_No t_No tk_No nm_No hown hK hH hLo f_h0 rfl 8 (by decide) (hts _ mw_115) (fun _ h9 => h9) rfl (by decide +kernel) rfl rfl (Nat.le_of_ble_eq_true rfl) d_No_init_46 (fun H33 locs hH z34 hLo => ?_)
  have hz : s.heap.size ≤ H33.size := by rw [z34]; exact hz
  obtain ⟨h35, e36⟩ : ∃ z, z = hu h31 h0 (.inr (1, [.int 0, .null, .int 1, .long 0, .int 0, .int 0, .int 0, .int 0, .int 0, .int 0, .int 0])) := ⟨_, rfl⟩
  have hH : hm D vwCl G h35 H33 := by rw [e36]; exact hH
  have f_h0 : h35 h0 = some (.inr (1, [.int 0, .null, .int 1, .long 0, .int 0, .int 0, .int 0, .int 0, .int 0, .int 0, .int 0])) := by rw [e36]; exact hu_s _ _ _
  have hkp : kp [h0] h h35 := by rw [e36]; exact kp_put hkp (by simp)
  refine lv_aload_n hx hb d_No_init_49 rfl (lv_at hl 0 rfl) ?_
  refine lv_iconst (v := 0) hx hb d_No_init_50 (by decide) ?_
  refine hm_put (ci := 1) (v := .int 0) (ty := .int) (C := R_No) (T := F_No) (N := 11) hx hb hts ig_No t_No tk_No nm_No hown hK hH hLo f_h0 rfl 9 (by decide) (hts _ mw_98) (fun _ h9 => h9) rfl (by decide +kernel) rfl rfl (Nat.le_of_ble_eq_true rfl) d_No_init_51 (fun H37 locs hH z38 hLo => ?_)
  have hz : s.heap.size ≤ H37.size := by rw [z38]; exact hz
  obtain ⟨h39, e40⟩ : ∃ z, z = hu h35 h0 (.inr (1, [.int 0, .null, .int 1, .long 0, .int 0, .int 0, .int 0, .int 0, .int 0, .int 0, .int 0])) := ⟨_, rfl⟩
  have hH : hm D vwCl G h39 H37 := by rw [e40]; exact hH
  have f_h0 : h39 h0 = some (.inr (1, [.int 0, .null, .int 1, .long 0, .int 0, .int 0, .int 0, .int 0, .int 0, .int 0, .int 0])) := by rw [e40]; exact hu_s _ _ _
  have hkp : kp [h0] h h39 := by rw [e40]; exact kp_put hkp (by simp)
  refine lv_aload_n hx hb d_No_init_54 rfl (lv_at hl 0 rfl) ?_
  refine lv_iconst (v := 1) hx hb d_No_init_55 (by decide) ?_
  refine hm_put (ci := 1) (v := .int 1) (ty := .int) (C := R_No) (T := F_No) (N := 11) hx hb hts ig_No t_No tk_No nm_No hown hK hH hLo f_h0 rfl 10 (by decide) (hts _ mw_521) (fun _ h9 => h9) rfl (by decide +kernel) rfl rfl (Nat.le_of_ble_eq_true rfl) d_No_init_56 (fun H41 locs hH z42 hLo => ?_)
  have hz : s.heap.size ≤ H41.size := by rw [z42]; exact hz
  obtain ⟨h43, e44⟩ : ∃ z, z = hu h39 h0 (.inr (1, [.int 0, .null, .int 1, .long 0, .int 0, .int 0, .int 0, .int 0, .int 0, .int 0, .int 1])) := ⟨_, rfl⟩
  have hH : hm D vwCl G h43 H41 := by rw [e44]; exact hH
  have f_h0 : h43 h0 = some (.inr (1, [.int 0, .null, .int 1, .long 0, .int 0, .int 0, .int 0, .int 0, .int 0, .int 0, .int 1])) := by rw [e44]; exact hu_s _ _ _
  have hkp : kp [h0] h h43 := by rw [e44]; exact kp_put hkp (by simp)
  exact W.vret hx hb hr (fun t9 ht hW => ⟨h43, rfl, ⟨hkp, f_h0⟩, by rw [ht]; exact hH, by rw [ht]; exact hz⟩) hLo d_No_init_59

set_option maxHeartbeats 4000000 in
set_option maxRecDepth 100000 in
theorem d_Page_init_2048 (l : Launch) (D : va_G) (t : Nat → ClassId) (G : hG) (ak av : Nat → Nat) (h : hM) (h0 : Nat) (f_h0 : h h0 = some (.inr (3, [.null]))) : Met l y_Pg_init (.code y_Pg_init b_Pg_init 2 none :: lw_g) { frames := 1, cells := 1, slots := 2048, locals := 12 } (hP (kE D t G ak av) D vwCl G h [.ref h0, .int 2048]) (hQv D vwCl G (fun h' => kp [h0] h h' ∧ ∃ pb, h' h0 = some (.inr (3, [.ref pb])) ∧ h' pb = some (.inl (t 0, 2048, .inl (fun _ => 0))) ∧ h pb = none)) 1 2048 G.P := by
  refine Met.ofW (cc := b_Pg_init) (maxL := 2) (ret := none) (by decide) rfl ?_
  intro p e s m args below meth c s₁ Bd hml hv
  obtain ⟨ha, hE, hH⟩ := hv
  have hx := Bd.exec
  have hb := Bd.bytes
  have hr := Bd.returns
  have hts : ∀ w ∈ lw_g, w.before args s = true := fun w hw => atoms_spec (ws := (.code y_Pg_init b_Pg_init 2 none :: lw_g)) Bd.pre w (List.mem_cons_of_mem _ hw)
  have hown : s.vm.findClass R_Pg = some m.cls := findClass_of_methodNamed Bd.named
  have hlocks := Bd.notSynchronized
  have hin : meth.name = "<init>" := (name_of_methodNamed Bd.named Bd.method).1
  have hK := hE.1
  have hH0 := hH
  have hLo : hLc G.P [] := hLc_nil
  have hz : s.heap.size ≤ s.heap.size := Nat.le_refl _
  have hkp : kp [h0] h h := kp_rf
  have hl := lv_entry [.ref h0, .int 2048] (n := 2) (Nat.le_of_ble_eq_true rfl)
  rw [show entryFrame m args 2 = F0 m 0 ((lg_sl [.ref h0, .int 2048] ++ List.replicate (2 - (lg_sl [.ref h0, .int 2048]).length) Slot.unset).toArray) [] from (by rw [ha]; exact lg_entry_eq m [.ref h0, .int 2048] 2)]
  generalize (lg_sl [.ref h0, .int 2048] ++ List.replicate (2 - (lg_sl [.ref h0, .int 2048]).length) Slot.unset).toArray = ls at hl ⊢
  have hl : lv_has ls 2 [(0, .ref h0), (1, .int 2048)] := hl
  refine lv_aload_n hx hb d_Pg_init_0 rfl (lv_at hl 0 rfl) ?_
  refine W.objInit hx hb hown (hts _ mw_522) (hts _ mw_517) (hts _ mw_518) rfl (by rw [hml]; exact hl.1) rfl d_Pg_init_1 (Nat.le_of_ble_eq_true rfl) (Nat.le_of_ble_eq_true rfl) ?_
  refine W.eq (g2 := F0 m 4 ls []) rfl ?_
  refine lv_aload_n hx hb d_Pg_init_4 rfl (lv_at hl 0 rfl) ?_
  refine lv_iload_n hx hb d_Pg_init_5 rfl (lv_at hl 1 rfl) ?_
  refine hm_newa (atype := .byte) (ty := .byte) (N' := 2048) (a0 := (2048, .inl (fun _ => 0))) hx hb (hts _ mw_243) rfl hK hH 0 (cA := (t 0)) rfl (hK.2 0 _ rfl).2 (fun _ => rfl) (by decide) (by decide) (by decide) (Nat.le_of_ble_eq_true rfl) (Nat.le_of_ble_eq_true rfl) d_Pg_init_6 (fun q2 H1 hq3 hn4 hH z5 => ?_)
  have hz : s.heap.size ≤ H1.size := by rw [z5]; exact Nat.le_succ_of_le hz
  obtain ⟨h6, e7⟩ : ∃ z, z = hu h q2 (.inl ((t 0), 2048, .inl (fun _ => 0))) := ⟨_, rfl⟩
  have hH : hm D vwCl G h6 H1 := by rw [e7]; exact hH
  have nb_h_q2 : h q2 = none := kp_none hkp hn4 (nmc (Ne.symm (h_nf hn4 f_h0)) nm0)
  have hkp : kp [h0] h h6 := by rw [e7]; exact kp_new hkp hn4
  have ne_h0_q2 : h0 ≠ q2 := h_nf hn4 f_h0
  have f_h0 : h6 h0 = some (.inr (3, [.null])) := by rw [e7, hu_n ne_h0_q2]; exact f_h0
  have f_pb : h6 q2 = some (.inl ((t 0), 2048, .inl (fun _ => 0))) := by rw [e7]; exact hu_s _ _ _
  refine hm_putF (ci := 3) (v := .ref q2) (ty := (.array .byte)) (C := R_Pg) (T := F_Pg) (N := 1) hx hb hts ig_Pg t_Pg tk_Pg nm_Pg hown hK hH hLo f_h0 rfl 0 (by decide) (hts _ mw_69) (fun _ h9 => h9) rfl hin rfl (by decide +kernel) rfl rfl (Nat.le_of_ble_eq_true rfl) d_Pg_init_8 (fun H8 locs hH z9 hLo => ?_)
  have hz : s.heap.size ≤ H8.size := by rw [z9]; exact hz
  obtain ⟨h10, e11⟩ : ∃ z, z = hu h6 h0 (.inr (3, [.ref q2])) := ⟨_, rfl⟩
  have hH : hm D vwCl G h10 H8 := by rw [e11]; exact hH
  have f_pb : h10 q2 = some (.inl ((t 0), 2048, .inl (fun _ => 0))) := by rw [e11, hu_n (Ne.symm ne_h0_q2)]; exact f_pb
  have f_h0 : h10 h0 = some (.inr (3, [.ref q2])) := by rw [e11]; exact hu_s _ _ _
  have hkp : kp [h0] h h10 := by rw [e11]; exact kp_put hkp (by simp)
  exact W.vret hx hb hr (fun t9 ht hW => ⟨h10, rfl, ⟨hkp, q2, f_h0, f_pb, nb_h_q2⟩, by rw [ht]; exact hH, by rw [ht]; exact hz⟩) hLo d_Pg_init_11

set_option maxHeartbeats 4000000 in
set_option maxRecDepth 100000 in
theorem d_Page_init_480 (l : Launch) (D : va_G) (t : Nat → ClassId) (G : hG) (ak av : Nat → Nat) (h : hM) (h0 : Nat) (f_h0 : h h0 = some (.inr (3, [.null]))) : Met l y_Pg_init (.code y_Pg_init b_Pg_init 2 none :: lw_g) { frames := 1, cells := 1, slots := 480, locals := 12 } (hP (kE D t G ak av) D vwCl G h [.ref h0, .int 480]) (hQv D vwCl G (fun h' => kp [h0] h h' ∧ ∃ pb, h' h0 = some (.inr (3, [.ref pb])) ∧ h' pb = some (.inl (t 0, 480, .inl (fun _ => 0))) ∧ h pb = none)) 1 480 G.P := by
  refine Met.ofW (cc := b_Pg_init) (maxL := 2) (ret := none) (by decide) rfl ?_
  intro p e s m args below meth c s₁ Bd hml hv
  obtain ⟨ha, hE, hH⟩ := hv
  have hx := Bd.exec
  have hb := Bd.bytes
  have hr := Bd.returns
  have hts : ∀ w ∈ lw_g, w.before args s = true := fun w hw => atoms_spec (ws := (.code y_Pg_init b_Pg_init 2 none :: lw_g)) Bd.pre w (List.mem_cons_of_mem _ hw)
  have hown : s.vm.findClass R_Pg = some m.cls := findClass_of_methodNamed Bd.named
  have hlocks := Bd.notSynchronized
  have hin : meth.name = "<init>" := (name_of_methodNamed Bd.named Bd.method).1
  have hK := hE.1
  have hH0 := hH
  have hLo : hLc G.P [] := hLc_nil
  have hz : s.heap.size ≤ s.heap.size := Nat.le_refl _
  have hkp : kp [h0] h h := kp_rf
  have hl := lv_entry [.ref h0, .int 480] (n := 2) (Nat.le_of_ble_eq_true rfl)
  rw [show entryFrame m args 2 = F0 m 0 ((lg_sl [.ref h0, .int 480] ++ List.replicate (2 - (lg_sl [.ref h0, .int 480]).length) Slot.unset).toArray) [] from (by rw [ha]; exact lg_entry_eq m [.ref h0, .int 480] 2)]
  generalize (lg_sl [.ref h0, .int 480] ++ List.replicate (2 - (lg_sl [.ref h0, .int 480]).length) Slot.unset).toArray = ls at hl ⊢
  have hl : lv_has ls 2 [(0, .ref h0), (1, .int 480)] := hl
  refine lv_aload_n hx hb d_Pg_init_0 rfl (lv_at hl 0 rfl) ?_
  refine W.objInit hx hb hown (hts _ mw_522) (hts _ mw_517) (hts _ mw_518) rfl (by rw [hml]; exact hl.1) rfl d_Pg_init_1 (Nat.le_of_ble_eq_true rfl) (Nat.le_of_ble_eq_true rfl) ?_
  refine W.eq (g2 := F0 m 4 ls []) rfl ?_
  refine lv_aload_n hx hb d_Pg_init_4 rfl (lv_at hl 0 rfl) ?_
  refine lv_iload_n hx hb d_Pg_init_5 rfl (lv_at hl 1 rfl) ?_
  refine hm_newa (atype := .byte) (ty := .byte) (N' := 480) (a0 := (480, .inl (fun _ => 0))) hx hb (hts _ mw_243) rfl hK hH 0 (cA := (t 0)) rfl (hK.2 0 _ rfl).2 (fun _ => rfl) (by decide) (by decide) (by decide) (Nat.le_of_ble_eq_true rfl) (Nat.le_of_ble_eq_true rfl) d_Pg_init_6 (fun q2 H1 hq3 hn4 hH z5 => ?_)
  have hz : s.heap.size ≤ H1.size := by rw [z5]; exact Nat.le_succ_of_le hz
  obtain ⟨h6, e7⟩ : ∃ z, z = hu h q2 (.inl ((t 0), 480, .inl (fun _ => 0))) := ⟨_, rfl⟩
  have hH : hm D vwCl G h6 H1 := by rw [e7]; exact hH
  have nb_h_q2 : h q2 = none := kp_none hkp hn4 (nmc (Ne.symm (h_nf hn4 f_h0)) nm0)
  have hkp : kp [h0] h h6 := by rw [e7]; exact kp_new hkp hn4
  have ne_h0_q2 : h0 ≠ q2 := h_nf hn4 f_h0
  have f_h0 : h6 h0 = some (.inr (3, [.null])) := by rw [e7, hu_n ne_h0_q2]; exact f_h0
  have f_pb : h6 q2 = some (.inl ((t 0), 480, .inl (fun _ => 0))) := by rw [e7]; exact hu_s _ _ _
  refine hm_putF (ci := 3) (v := .ref q2) (ty := (.array .byte)) (C := R_Pg) (T := F_Pg) (N := 1) hx hb hts ig_Pg t_Pg tk_Pg nm_Pg hown hK hH hLo f_h0 rfl 0 (by decide) (hts _ mw_69) (fun _ h9 => h9) rfl hin rfl (by decide +kernel) rfl rfl (Nat.le_of_ble_eq_true rfl) d_Pg_init_8 (fun H8 locs hH z9 hLo => ?_)
  have hz : s.heap.size ≤ H8.size := by rw [z9]; exact hz
  obtain ⟨h10, e11⟩ : ∃ z, z = hu h6 h0 (.inr (3, [.ref q2])) := ⟨_, rfl⟩
  have hH : hm D vwCl G h10 H8 := by rw [e11]; exact hH
  have f_pb : h10 q2 = some (.inl ((t 0), 480, .inl (fun _ => 0))) := by rw [e11, hu_n (Ne.symm ne_h0_q2)]; exact f_pb
  have f_h0 : h10 h0 = some (.inr (3, [.ref q2])) := by rw [e11]; exact hu_s _ _ _
  have hkp : kp [h0] h h10 := by rw [e11]; exact kp_put hkp (by simp)
  exact W.vret hx hb hr (fun t9 ht hW => ⟨h10, rfl, ⟨hkp, q2, f_h0, f_pb, nb_h_q2⟩, by rw [ht]; exact hH, by rw [ht]; exact hz⟩) hLo d_Pg_init_11

set_option maxHeartbeats 4000000 in
set_option maxRecDepth 100000 in
theorem d_Medium_init (l : Launch) (D : va_G) (t : Nat → ClassId) (G : hG) (ak av : Nat → Nat) (h : hM) (h0 n : Nat) (f_h0 : h h0 = some (.inr (0, [.null, .int 0]))) (hn : n ≤ 200) : Met l y_Me_init (.code y_Me_init b_Me_init 3 none :: lw_g) { frames := 2, cells := 201, slots := 800, locals := 32 } (hP (kE D t G ak av) D vwCl G h [.ref h0, .int (nI n)]) (hQv D vwCl G (fun h' => kp [h0] h h' ∧ ∃ (sa : Nat) (f : Nat → Option Nat), h' h0 = some (.inr (0, [.ref sa, .int 0])) ∧ h' sa = some (.inl (t 5, n, .inr (.inr (.inr (.inr f))))) ∧ h sa = none ∧ ∀ j, j < n → ∃ a, f j = some a ∧ h' a = some (.inr (6, [.int 0, .int 0, .null])) ∧ h a = none)) 201 800 G.P := by
  refine Met.ofW (cc := b_Me_init) (maxL := 3) (ret := none) (by decide) rfl ?_
  intro p e s m args below meth c s₁ Bd hml hv
  obtain ⟨ha, hE, hH⟩ := hv
  have hx := Bd.exec
  have hb := Bd.bytes
  have hr := Bd.returns
  have hts : ∀ w ∈ lw_g, w.before args s = true := fun w hw => atoms_spec (ws := (.code y_Me_init b_Me_init 3 none :: lw_g)) Bd.pre w (List.mem_cons_of_mem _ hw)
  have hown : s.vm.findClass R_Me = some m.cls := findClass_of_methodNamed Bd.named
  have hlocks := Bd.notSynchronized
  have hin : meth.name = "<init>" := (name_of_methodNamed Bd.named Bd.method).1
  have hK := hE.1
  have hH0 := hH
  have hLo : hLc G.P [] := hLc_nil
  have hz : s.heap.size ≤ s.heap.size := Nat.le_refl _
  have hkp : kp [h0] h h := kp_rf
  have hl := lv_entry [.ref h0, .int (nI n)] (n := 3) (Nat.le_of_ble_eq_true rfl)
  rw [show entryFrame m args 3 = F0 m 0 ((lg_sl [.ref h0, .int (nI n)] ++ List.replicate (3 - (lg_sl [.ref h0, .int (nI n)]).length) Slot.unset).toArray) [] from (by rw [ha]; exact lg_entry_eq m [.ref h0, .int (nI n)] 3)]
  generalize (lg_sl [.ref h0, .int (nI n)] ++ List.replicate (3 - (lg_sl [.ref h0, .int (nI n)]).length) Slot.unset).toArray = ls at hl ⊢
  have hl : lv_has ls 3 [(0, .ref h0), (1, .int (nI n))] := hl
  refine lv_aload_n hx hb d_Me_init_0 rfl (lv_at hl 0 rfl) ?_
  refine W.objInit hx hb hown (hts _ mw_523) (hts _ mw_517) (hts _ mw_518) rfl (by rw [hml]; exact hl.1) rfl d_Me_init_1 (Nat.le_of_ble_eq_true rfl) (Nat.le_of_ble_eq_true rfl) ?_
  refine W.eq (g2 := F0 m 4 ls []) rfl ?_
  refine lv_aload_n hx hb d_Me_init_4 rfl (lv_at hl 0 rfl) ?_
  refine lv_iconst (v := 0) hx hb d_Me_init_5 (by decide) ?_
  refine hm_put (ci := 0) (v := .int 0) (ty := .int) (C := R_Me) (T := F_Me) (N := 2) hx hb hts ig_Me t_Me tk_Me nm_Me hown hK hH hLo f_h0 rfl 1 (by decide) (hts _ mw_64) (fun _ h9 => h9) rfl (by decide +kernel) rfl rfl (Nat.le_of_ble_eq_true rfl) d_Me_init_6 (fun H1 locs hH z2 hLo => ?_)
  have hz : s.heap.size ≤ H1.size := by rw [z2]; exact hz
  obtain ⟨h3, e4⟩ : ∃ z, z = hu h h0 (.inr (0, [.null, .int 0])) := ⟨_, rfl⟩
  have hH : hm D vwCl G h3 H1 := by rw [e4]; exact hH
  have f_h0 : h3 h0 = some (.inr (0, [.null, .int 0])) := by rw [e4]; exact hu_s _ _ _
  have hkp : kp [h0] h h3 := by rw [e4]; exact kp_put hkp (by simp)
  refine lv_aload_n hx hb d_Me_init_9 rfl (lv_at hl 0 rfl) ?_
  refine lv_iload_n hx hb d_Me_init_10 rfl (lv_at hl 1 rfl) ?_
  refine hm_newq (C := R_Se) (N' := n) hx hb hown (hts _ mw_524) (hE.2.2.2.1 R_Se (by decide +kernel)) hK hH 5 (cA := (t 5)) rfl (nI_pos (by omega)) (nI_clamp (by omega)) (by omega) (Nat.le_of_ble_eq_true rfl) (by show 0 + n ≤ 800; omega) d_Me_init_11 (fun q6 H5 hq7 hn8 hH z9 => ?_)
  have hz : s.heap.size ≤ H5.size := by rw [z9]; exact Nat.le_succ_of_le hz
  obtain ⟨h10, e11⟩ : ∃ z, z = hu h3 q6 (.inl ((t 5), n, .inr (.inr (.inr (.inr (fun _ => none)))))) := ⟨_, rfl⟩
  have hH : hm D vwCl G h10 H5 := by rw [e11]; exact hH
  have nb_h_q6 : h q6 = none := kp_none hkp hn8 (nmc (Ne.symm (h_nf hn8 f_h0)) nm0)
  have hkp : kp [h0] h h10 := by rw [e11]; exact kp_new hkp hn8
  have ne_h0_q6 : h0 ≠ q6 := h_nf hn8 f_h0
  have f_h0 : h10 h0 = some (.inr (0, [.null, .int 0])) := by rw [e11, hu_n ne_h0_q6]; exact f_h0
  have f_sa : h10 q6 = some (.inl ((t 5), n, .inr (.inr (.inr (.inr (fun _ => none)))))) := by rw [e11]; exact hu_s _ _ _
  refine hm_putF (ci := 0) (v := .ref q6) (ty := (.array (.object "WriteOnceDisc$Sector"))) (C := R_Me) (T := F_Me) (N := 2) hx hb hts ig_Me t_Me tk_Me nm_Me hown hK hH hLo f_h0 rfl 0 (by decide) (hts _ mw_28) (fun _ h9 => h9) rfl hin rfl (by decide +kernel) rfl rfl (Nat.le_of_ble_eq_true rfl) d_Me_init_14 (fun H12 locs hH z13 hLo => ?_)
  have hz : s.heap.size ≤ H12.size := by rw [z13]; exact hz
  obtain ⟨h14, e15⟩ : ∃ z, z = hu h10 h0 (.inr (0, [.ref q6, .int 0])) := ⟨_, rfl⟩
  have hH : hm D vwCl G h14 H12 := by rw [e15]; exact hH
  have f_sa : h14 q6 = some (.inl ((t 5), n, .inr (.inr (.inr (.inr (fun _ => none)))))) := by rw [e15, hu_n (Ne.symm ne_h0_q6)]; exact f_sa
  have f_h0 : h14 h0 = some (.inr (0, [.ref q6, .int 0])) := by rw [e15]; exact hu_s _ _ _
  have hkp : kp [h0] h h14 := by rw [e15]; exact kp_put hkp (by simp)
  refine lv_iconst (v := 0) hx hb d_Me_init_17 (by decide) ?_
  refine lv_topi (fun v16 e17 => ?_)
  obtain rfl : v16 = nI 0 := e17.trans (nI_0.symm)
  refine lv_istore_n (lv' := [(2, .int (nI 0)), (0, .ref h0), (1, .int (nI n))]) hx hb d_Me_init_18 rfl hl (by decide) rfl (fun ls hl => ?_)
  refine hm_loopC (fun k ls H locs hh cs ss => ∃ (i : Nat) (f : Nat → Option Nat), k = n - i ∧ cs = 1 + i ∧ ss = n + 3 * i ∧ lv_has ls 3 [(2, .int (nI i)), (0, .ref h0), (1, .int (nI n))] ∧ hm D vwCl G hh H ∧ s.heap.size ≤ H.size ∧ hLc G.P locs ∧ kp [h0] h hh ∧ hh h0 = some (.inr (0, [.ref q6, .int 0])) ∧ hh q6 = some (.inl ((t 5), n, .inr (.inr (.inr (.inr f))))) ∧ (∀ j, j < i → ∃ a, f j = some a ∧ hh a = some (.inr (6, [.int 0, .int 0, .null])) ∧ h a = none) ∧ (i ≤ n)) ?_ (hh := h14) ⟨0, _, rfl, (by omega), (by omega), (lv_sub hl [0, 1, 2] rfl), hH, hz, hLo, hkp, f_h0, f_sa, fun j hj => absurd hj (Nat.not_lt_zero j), by omega⟩
  rintro k ls H locs hh cs ss ⟨i, f, hk, rfl, rfl, hl, hH, hz, hLo, hkp, f_h0, f_sa, hsec, hi⟩ ih
  have hkl : kp [q6] hh hh := kp_rf
  refine lv_iload_n hx hb d_Me_init_19 rfl (lv_at hl 0 rfl) ?_
  refine lv_iload_n hx hb d_Me_init_20 rfl (lv_at hl 2 rfl) ?_
  have f_sa0 := f_sa
  refine lv_icmp_ge (tgt := 43) hx hb d_Me_init_21 (by decide) (fun hc18 => ?_) (fun hc18 => ?_)
  · skip
    have hin : i = n := by
      have h8 := (nI_leI (by omega) (by omega)).mp hc18
      omega
    refine W.widen (k := 201) (n := 800) (by omega) (by omega) ?_
    exact W.vret hx hb hr (fun t9 ht hW => ⟨hh, rfl, ⟨hkp, q6, f, f_h0, f_sa, nb_h_q6, fun j hj => hsec j (by omega)⟩, by rw [ht]; exact hH, by rw [ht]; exact hz⟩) hLo d_Me_init_43
  · skip
    have hin : i < n := by
      have h8 := mt (nI_leI (by omega) (by omega)).mpr hc18
      omega
    refine lv_aload_n hx hb d_Me_init_24 rfl (lv_at hl 1 rfl) ?_
    refine hm_get (ci := 0) (v := .ref q6) (C := R_Me) (T := F_Me) (N := 2) hx hb hts ig_Me hown hK hH f_h0 rfl 0 (by decide) (hts _ mw_28) (fun _ h9 => h9) rfl d_Me_init_25 ?_
    refine lv_iload_n hx hb d_Me_init_28 rfl (lv_at hl 0 rfl) ?_
    refine hm_new (ci := 6) (fs := [.int 0, .int 0, .null]) (C := R_Se) (T := F_Se) (N := 3) hx hb hts ig_Se t_Se tk_Se hown (hts _ mw_524) (hts _ mw_525) (hts _ mw_226) hK hH rfl df_Se (by show 1 + i + 1 ≤ 201; omega) (by show n + 3 * i + 3 ≤ 800; omega) d_Me_init_29 (fun q20 H19 hq21 hn22 hH z23 => ?_)
    have hz : s.heap.size ≤ H19.size := by rw [z23]; exact Nat.le_succ_of_le hz
    obtain ⟨h24, e25⟩ : ∃ z, z = hu hh q20 (.inr (6, [.int 0, .int 0, .null])) := ⟨_, rfl⟩
    have hH : hm D vwCl G h24 H19 := by rw [e25]; exact hH
    have nb_h_q20 : h q20 = none := kp_none hkp hn22 (nmc (Ne.symm (h_nf hn22 f_h0)) nm0)
    have nb_hh_q20 : hh q20 = none := kp_none hkl hn22 (nmc (Ne.symm (h_nf hn22 f_sa)) nm0)
    have hkp : kp [h0] h h24 := by rw [e25]; exact kp_new hkp hn22
    have hkl : kp [q6] hh h24 := by rw [e25]; exact kp_new hkl hn22
    have ne_h0_q20 : h0 ≠ q20 := h_nf hn22 f_h0
    have f_h0 : h24 h0 = some (.inr (0, [.ref q6, .int 0])) := by rw [e25, hu_n ne_h0_q20]; exact f_h0
    have ne_q6_q20 : q6 ≠ q20 := h_nf hn22 f_sa
    have f_sa : h24 q6 = some (.inl ((t 5), n, .inr (.inr (.inr (.inr f))))) := by rw [e25, hu_n ne_q6_q20]; exact f_sa
    have f_q : h24 q20 = some (.inr (6, [.int 0, .int 0, .null])) := by rw [e25]; exact hu_s _ _ _
    refine lv_dup hx hb d_Me_init_32 rfl ?_
    refine hm_callv (va_runIN (As := []) (b := q20) (rest := [.ref q20, .int (nI i), .ref q6]) ⟨hx, hb, hml, hown, hts⟩ (d_Sector_init l D t G ak av h24 q20 f_q) ⟨cw9N 0 hts mw_526 (nmU hE nM_5) mw_226 rfl rfl (by decide +kernel) ⟨Nat.le_of_ble_eq_true rfl, Nat.le_of_ble_eq_true rfl⟩, rfl, hts _ mw_527⟩ (hP_S kE_ok hE hH) rfl rfl hl.1 rfl (lv_room (Nat.le_of_ble_eq_true rfl)) d_Me_init_33 ⟨by show 1 + i + 1 + 0 ≤ 201; omega, by show n + 3 * i + 3 + 0 ≤ 800; omega⟩) hLo (fun h26 H27 locs hp29 hH z28 hLo => ?_)
    have hz : s.heap.size ≤ H27.size := Nat.le_trans hz z28
    obtain ⟨hk9, hq9⟩ := hp29
    have f_h0 : h26 h0 = some (.inr (0, [.ref q6, .int 0])) := kp_at hk9 f_h0 (nmc ne_h0_q20 nm0)
    have f_sa : h26 q6 = some (.inl ((t 5), n, .inr (.inr (.inr (.inr f))))) := kp_at hk9 f_sa (nmc ne_q6_q20 nm0)
    have hkp : kp [h0] h h26 := kp_tr2 hkp hk9 (List.forall_mem_cons.mpr ⟨Or.inr nb_h_q20, List.forall_mem_nil _⟩)
    have hkl : kp [q6] hh h26 := kp_tr2 hkl hk9 (List.forall_mem_cons.mpr ⟨Or.inr nb_hh_q20, List.forall_mem_nil _⟩)
    have f_q : h26 q20 = some (.inr (6, [.int 0, .int 0, .null])) := hq9
    refine hj_aast hx hb hK hH hLo 5 6 f_sa rfl f_q rfl i rfl hin (by omega) d_Me_init_36 (fun H30 locs hH z31 hLo => ?_)
    have hz : s.heap.size ≤ H30.size := by rw [z31]; exact hz
    obtain ⟨h32, e33⟩ : ∃ z, z = hu h26 q6 (.inl ((t 5), n, .inr (.inr (.inr (.inr (va_up f i (some q20))))))) := ⟨_, rfl⟩
    have hH : hm D vwCl G h32 H30 := by rw [e33]; exact hH
    have f_h0 : h32 h0 = some (.inr (0, [.ref q6, .int 0])) := by rw [e33, hu_n ne_h0_q6]; exact f_h0
    have f_q : h32 q20 = some (.inr (6, [.int 0, .int 0, .null])) := by rw [e33, hu_n (Ne.symm ne_q6_q20)]; exact f_q
    have f_sa : h32 q6 = some (.inl ((t 5), n, .inr (.inr (.inr (.inr (va_up f i (some q20))))))) := by rw [e33]; exact hu_s _ _ _
    have hkp : kp [h0] h h32 := by rw [e33]; exact kp_putN hkp nb_h_q6
    have hkl : kp [q6] hh h32 := by rw [e33]; exact kp_put hkl (by simp)
    have hsec : ∀ j, j < i + 1 → ∃ a, (va_up f i (some q20)) j = some a ∧ h32 a = some (.inr (6, [.int 0, .int 0, .null])) ∧ h a = none := by
      intro j hj
      by_cases hji : j = i
      · subst hji
        exact ⟨q20, va_up_self _ _ _, f_q, nb_h_q20⟩
      · obtain ⟨a, h1, h2, h3⟩ := hsec j (by omega)
        exact ⟨a, by rw [va_up_ne _ _ hji]; exact h1, kp_at hkl h2 (nmc (Ne.symm (h_neA f_sa0 h2)) nm0), h3⟩
    refine lv_iinc (v := nI (i + 1)) (lv' := [(2, .int (nI (i + 1))), (0, .ref h0), (1, .int (nI n))]) hx hb d_Me_init_37 hl (k := 0) rfl (nI_1 i) (by decide) rfl (fun ls hl => ?_)
    refine lv_goto (tgt := 19) hx hb d_Me_init_40 (by decide) ?_
    exact ih (n - (i + 1)) ls _ locs _ _ _ (by rw [hk]; omega) ⟨(i + 1), _, rfl, (by omega), (by omega), (lv_sub hl [0, 1, 2] rfl), hH, hz, hLo, hkp, f_h0, f_sa, hsec, by omega⟩

set_option maxHeartbeats 4000000 in
set_option maxRecDepth 100000 in
theorem d_Nodes_init (l : Launch) (D : va_G) (t : Nat → ClassId) (G : hG) (ak av : Nat → Nat) (h : hM) (h0 : Nat) (f_h0 : h h0 = some (.inr (2, [.null, .null, .int 0, .int 0]))) : Met l y_Ns_init (.code y_Ns_init b_Ns_init 2 none :: lw_g) { frames := 2, cells := 32, slots := 390, locals := 32 } (hP (kE D t G ak av) D vwCl G h [.ref h0]) (hQv D vwCl G (fun h' => kp [h0] h h' ∧ ∃ (sl od : Nat) (f g : Nat → Option Nat), h' h0 = some (.inr (2, [.ref sl, .ref od, .int 1, .int 1])) ∧ h' sl = some (.inl (t 4, 30, .inr (.inr (.inr (.inr f))))) ∧ h' od = some (.inl (t 4, 30, .inr (.inr (.inr (.inr g))))) ∧ (∀ j, j < 30 → ∃ a, f j = some a ∧ g j = some a ∧ h' a = some (.inr (1, [.int 0, .null, .int 1, .long 0, .int 0, .int 0, .int 0, .int 0, .int 0, .int 0, .int 1])) ∧ h a = none) ∧ (∀ j k, j < 30 → k < 30 → f j = f k → j = k) ∧ sl ≠ od ∧ h sl = none ∧ h od = none)) 32 390 G.P := by
  refine Met.ofW (cc := b_Ns_init) (maxL := 2) (ret := none) (by decide) rfl ?_
  intro p e s m args below meth c s₁ Bd hml hv
  obtain ⟨ha, hE, hH⟩ := hv
  have hx := Bd.exec
  have hb := Bd.bytes
  have hr := Bd.returns
  have hts : ∀ w ∈ lw_g, w.before args s = true := fun w hw => atoms_spec (ws := (.code y_Ns_init b_Ns_init 2 none :: lw_g)) Bd.pre w (List.mem_cons_of_mem _ hw)
  have hown : s.vm.findClass R_Ns = some m.cls := findClass_of_methodNamed Bd.named
  have hlocks := Bd.notSynchronized
  have hin : meth.name = "<init>" := (name_of_methodNamed Bd.named Bd.method).1
  have hK := hE.1
  have hH0 := hH
  have hLo : hLc G.P [] := hLc_nil
  have hz : s.heap.size ≤ s.heap.size := Nat.le_refl _
  have hkp : kp [h0] h h := kp_rf
  have hl := lv_entry [.ref h0] (n := 2) (Nat.le_of_ble_eq_true rfl)
  rw [show entryFrame m args 2 = F0 m 0 ((lg_sl [.ref h0] ++ List.replicate (2 - (lg_sl [.ref h0]).length) Slot.unset).toArray) [] from (by rw [ha]; exact lg_entry_eq m [.ref h0] 2)]
  generalize (lg_sl [.ref h0] ++ List.replicate (2 - (lg_sl [.ref h0]).length) Slot.unset).toArray = ls at hl ⊢
  have hl : lv_has ls 2 [(0, .ref h0)] := hl
  refine lv_aload_n hx hb d_Ns_init_0 rfl (lv_at hl 0 rfl) ?_
  refine W.objInit hx hb hown (hts _ mw_528) (hts _ mw_517) (hts _ mw_518) rfl (by rw [hml]; exact hl.1) rfl d_Ns_init_1 (Nat.le_of_ble_eq_true rfl) (Nat.le_of_ble_eq_true rfl) ?_
  refine W.eq (g2 := F0 m 4 ls []) rfl ?_
  refine lv_aload_n hx hb d_Ns_init_4 rfl (lv_at hl 0 rfl) ?_
  refine lv_bipush (v := 30) hx hb d_Ns_init_5 (by decide) ?_
  refine hm_newq (C := R_No) (N' := 30) hx hb hown (hts _ mw_529) (hE.2.2.2.1 R_No (by decide +kernel)) hK hH 4 (cA := (t 4)) rfl (by decide) (by decide) (by decide) (Nat.le_of_ble_eq_true rfl) (Nat.le_of_ble_eq_true rfl) d_Ns_init_7 (fun q2 H1 hq3 hn4 hH z5 => ?_)
  have hz : s.heap.size ≤ H1.size := by rw [z5]; exact Nat.le_succ_of_le hz
  obtain ⟨h6, e7⟩ : ∃ z, z = hu h q2 (.inl ((t 4), 30, .inr (.inr (.inr (.inr (fun _ => none)))))) := ⟨_, rfl⟩
  have hH : hm D vwCl G h6 H1 := by rw [e7]; exact hH
  have nb_h_q2 : h q2 = none := kp_none hkp hn4 (nmc (Ne.symm (h_nf hn4 f_h0)) nm0)
  have hkp : kp [h0] h h6 := by rw [e7]; exact kp_new hkp hn4
  have ne_h0_q2 : h0 ≠ q2 := h_nf hn4 f_h0
  have f_h0 : h6 h0 = some (.inr (2, [.null, .null, .int 0, .int 0])) := by rw [e7, hu_n ne_h0_q2]; exact f_h0
  have f_sl : h6 q2 = some (.inl ((t 4), 30, .inr (.inr (.inr (.inr (fun _ => none)))))) := by rw [e7]; exact hu_s _ _ _
  refine hm_putF (ci := 2) (v := .ref q2) (ty := (.array (.object "WriteOnceDisc$Node"))) (C := R_Ns) (T := F_Ns) (N := 4) hx hb hts ig_Ns t_Ns tk_Ns nm_Ns hown hK hH hLo f_h0 rfl 0 (by decide) (hts _ mw_129) (fun _ h9 => h9) rfl hin rfl (by decide +kernel) rfl rfl (Nat.le_of_ble_eq_true rfl) d_Ns_init_10 (fun H8 locs hH z9 hLo => ?_)
  have hz : s.heap.size ≤ H8.size := by rw [z9]; exact hz
  obtain ⟨h10, e11⟩ : ∃ z, z = hu h6 h0 (.inr (2, [.ref q2, .null, .int 0, .int 0])) := ⟨_, rfl⟩
  have hH : hm D vwCl G h10 H8 := by rw [e11]; exact hH
  have f_sl : h10 q2 = some (.inl ((t 4), 30, .inr (.inr (.inr (.inr (fun _ => none)))))) := by rw [e11, hu_n (Ne.symm ne_h0_q2)]; exact f_sl
  have f_h0 : h10 h0 = some (.inr (2, [.ref q2, .null, .int 0, .int 0])) := by rw [e11]; exact hu_s _ _ _
  have hkp : kp [h0] h h10 := by rw [e11]; exact kp_put hkp (by simp)
  refine lv_aload_n hx hb d_Ns_init_13 rfl (lv_at hl 0 rfl) ?_
  refine lv_bipush (v := 30) hx hb d_Ns_init_14 (by decide) ?_
  refine hm_newq (C := R_No) (N' := 30) hx hb hown (hts _ mw_529) (hE.2.2.2.1 R_No (by decide +kernel)) hK hH 4 (cA := (t 4)) rfl (by decide) (by decide) (by decide) (Nat.le_of_ble_eq_true rfl) (Nat.le_of_ble_eq_true rfl) d_Ns_init_16 (fun q13 H12 hq14 hn15 hH z16 => ?_)
  have hz : s.heap.size ≤ H12.size := by rw [z16]; exact Nat.le_succ_of_le hz
  obtain ⟨h17, e18⟩ : ∃ z, z = hu h10 q13 (.inl ((t 4), 30, .inr (.inr (.inr (.inr (fun _ => none)))))) := ⟨_, rfl⟩
  have hH : hm D vwCl G h17 H12 := by rw [e18]; exact hH
  have nb_h_q13 : h q13 = none := kp_none hkp hn15 (nmc (Ne.symm (h_nf hn15 f_h0)) nm0)
  have hkp : kp [h0] h h17 := by rw [e18]; exact kp_new hkp hn15
  have ne_h0_q13 : h0 ≠ q13 := h_nf hn15 f_h0
  have f_h0 : h17 h0 = some (.inr (2, [.ref q2, .null, .int 0, .int 0])) := by rw [e18, hu_n ne_h0_q13]; exact f_h0
  have ne_q2_q13 : q2 ≠ q13 := h_nf hn15 f_sl
  have f_sl : h17 q2 = some (.inl ((t 4), 30, .inr (.inr (.inr (.inr (fun _ => none)))))) := by rw [e18, hu_n ne_q2_q13]; exact f_sl
  have f_or : h17 q13 = some (.inl ((t 4), 30, .inr (.inr (.inr (.inr (fun _ => none)))))) := by rw [e18]; exact hu_s _ _ _
  refine hm_putF (ci := 2) (v := .ref q13) (ty := (.array (.object "WriteOnceDisc$Node"))) (C := R_Ns) (T := F_Ns) (N := 4) hx hb hts ig_Ns t_Ns tk_Ns nm_Ns hown hK hH hLo f_h0 rfl 1 (by decide) (hts _ mw_152) (fun _ h9 => h9) rfl hin rfl (by decide +kernel) rfl rfl (Nat.le_of_ble_eq_true rfl) d_Ns_init_19 (fun H19 locs hH z20 hLo => ?_)
  have hz : s.heap.size ≤ H19.size := by rw [z20]; exact hz
  obtain ⟨h21, e22⟩ : ∃ z, z = hu h17 h0 (.inr (2, [.ref q2, .ref q13, .int 0, .int 0])) := ⟨_, rfl⟩
  have hH : hm D vwCl G h21 H19 := by rw [e22]; exact hH
  have f_sl : h21 q2 = some (.inl ((t 4), 30, .inr (.inr (.inr (.inr (fun _ => none)))))) := by rw [e22, hu_n (Ne.symm ne_h0_q2)]; exact f_sl
  have f_or : h21 q13 = some (.inl ((t 4), 30, .inr (.inr (.inr (.inr (fun _ => none)))))) := by rw [e22, hu_n (Ne.symm ne_h0_q13)]; exact f_or
  have f_h0 : h21 h0 = some (.inr (2, [.ref q2, .ref q13, .int 0, .int 0])) := by rw [e22]; exact hu_s _ _ _
  have hkp : kp [h0] h h21 := by rw [e22]; exact kp_put hkp (by simp)
  refine lv_aload_n hx hb d_Ns_init_22 rfl (lv_at hl 0 rfl) ?_
  refine lv_iconst (v := 1) hx hb d_Ns_init_23 (by decide) ?_
  refine hm_put (ci := 2) (v := .int 1) (ty := .int) (C := R_Ns) (T := F_Ns) (N := 4) hx hb hts ig_Ns t_Ns tk_Ns nm_Ns hown hK hH hLo f_h0 rfl 2 (by decide) (hts _ mw_128) (fun _ h9 => h9) rfl (by decide +kernel) rfl rfl (Nat.le_of_ble_eq_true rfl) d_Ns_init_24 (fun H23 locs hH z24 hLo => ?_)
  have hz : s.heap.size ≤ H23.size := by rw [z24]; exact hz
  obtain ⟨h25, e26⟩ : ∃ z, z = hu h21 h0 (.inr (2, [.ref q2, .ref q13, .int 1, .int 0])) := ⟨_, rfl⟩
  have hH : hm D vwCl G h25 H23 := by rw [e26]; exact hH
  have f_sl : h25 q2 = some (.inl ((t 4), 30, .inr (.inr (.inr (.inr (fun _ => none)))))) := by rw [e26, hu_n (Ne.symm ne_h0_q2)]; exact f_sl
  have f_or : h25 q13 = some (.inl ((t 4), 30, .inr (.inr (.inr (.inr (fun _ => none)))))) := by rw [e26, hu_n (Ne.symm ne_h0_q13)]; exact f_or
  have f_h0 : h25 h0 = some (.inr (2, [.ref q2, .ref q13, .int 1, .int 0])) := by rw [e26]; exact hu_s _ _ _
  have hkp : kp [h0] h h25 := by rw [e26]; exact kp_put hkp (by simp)
  refine lv_aload_n hx hb d_Ns_init_27 rfl (lv_at hl 0 rfl) ?_
  refine lv_iconst (v := 1) hx hb d_Ns_init_28 (by decide) ?_
  refine hm_put (ci := 2) (v := .int 1) (ty := .int) (C := R_Ns) (T := F_Ns) (N := 4) hx hb hts ig_Ns t_Ns tk_Ns nm_Ns hown hK hH hLo f_h0 rfl 3 (by decide) (hts _ mw_151) (fun _ h9 => h9) rfl (by decide +kernel) rfl rfl (Nat.le_of_ble_eq_true rfl) d_Ns_init_29 (fun H27 locs hH z28 hLo => ?_)
  have hz : s.heap.size ≤ H27.size := by rw [z28]; exact hz
  obtain ⟨h29, e30⟩ : ∃ z, z = hu h25 h0 (.inr (2, [.ref q2, .ref q13, .int 1, .int 1])) := ⟨_, rfl⟩
  have hH : hm D vwCl G h29 H27 := by rw [e30]; exact hH
  have f_sl : h29 q2 = some (.inl ((t 4), 30, .inr (.inr (.inr (.inr (fun _ => none)))))) := by rw [e30, hu_n (Ne.symm ne_h0_q2)]; exact f_sl
  have f_or : h29 q13 = some (.inl ((t 4), 30, .inr (.inr (.inr (.inr (fun _ => none)))))) := by rw [e30, hu_n (Ne.symm ne_h0_q13)]; exact f_or
  have f_h0 : h29 h0 = some (.inr (2, [.ref q2, .ref q13, .int 1, .int 1])) := by rw [e30]; exact hu_s _ _ _
  have hkp : kp [h0] h h29 := by rw [e30]; exact kp_put hkp (by simp)
  refine lv_iconst (v := 0) hx hb d_Ns_init_32 (by decide) ?_
  refine lv_topi (fun v31 e32 => ?_)
  obtain rfl : v31 = nI 0 := e32.trans (nI_0.symm)
  refine lv_istore_n (lv' := [(1, .int (nI 0)), (0, .ref h0)]) hx hb d_Ns_init_33 rfl hl (by decide) rfl (fun ls hl => ?_)
  refine hm_loopC (fun k ls H locs hh cs ss => ∃ (i : Nat) (f : Nat → Option Nat) (g : Nat → Option Nat), k = 30 - i ∧ cs = 2 + i ∧ ss = 60 + 11 * i ∧ lv_has ls 2 [(1, .int (nI i)), (0, .ref h0)] ∧ hm D vwCl G hh H ∧ s.heap.size ≤ H.size ∧ hLc G.P locs ∧ kp [h0] h hh ∧ hh h0 = some (.inr (2, [.ref q2, .ref q13, .int 1, .int 1])) ∧ hh q2 = some (.inl ((t 4), 30, .inr (.inr (.inr (.inr f))))) ∧ hh q13 = some (.inl ((t 4), 30, .inr (.inr (.inr (.inr g))))) ∧ (∀ j, j < i → ∃ a, f j = some a ∧ g j = some a ∧ hh a = some (.inr (1, [.int 0, .null, .int 1, .long 0, .int 0, .int 0, .int 0, .int 0, .int 0, .int 0, .int 1])) ∧ h a = none) ∧ (∀ j k, j < i → k < i → f j = f k → j = k) ∧ (i ≤ 30)) ?_ (hh := h29) ⟨0, _, _, rfl, (by omega), (by omega), (lv_sub hl [0, 1] rfl), hH, hz, hLo, hkp, f_h0, f_sl, f_or, fun j hj => absurd hj (Nat.not_lt_zero j), fun j _ hj => absurd hj (Nat.not_lt_zero j), by omega⟩
  rintro k ls H locs hh cs ss ⟨i, f, g, hk, rfl, rfl, hl, hH, hz, hLo, hkp, f_h0, f_sl, f_or, hnod, hinj, hi⟩ ih
  have hkl : kp [q2, q13] hh hh := kp_rf
  refine lv_iload_n hx hb d_Ns_init_34 rfl (lv_at hl 0 rfl) ?_
  refine lv_bipush (v := 30) hx hb d_Ns_init_35 (by decide) ?_
  have f_sl0 := f_sl
  have f_or0 := f_or
  refine lv_icmp_ge (tgt := 71) hx hb d_Ns_init_37 (by decide) (fun hc33 => ?_) (fun hc33 => ?_)
  · skip
    have hin : i = 30 := by
      have h8 := (nI_leI (a := 30) (by omega) (by omega)).mp hc33
      omega
    refine W.widen (k := 32) (n := 390) (by omega) (by omega) ?_
    exact W.vret hx hb hr (fun t9 ht hW => ⟨hh, rfl, ⟨hkp, q2, q13, f, g, f_h0, f_sl, f_or, fun j hj => hnod j (by omega), fun j k hj hk9 => hinj j k (by omega) (by omega), ne_q2_q13, nb_h_q2, nb_h_q13⟩, by rw [ht]; exact hH, by rw [ht]; exact hz⟩) hLo d_Ns_init_71
  · skip
    have hin : i < 30 := by
      have h8 := mt (nI_leI (a := 30) (by omega) (by omega)).mpr hc33
      omega
    refine lv_aload_n hx hb d_Ns_init_40 rfl (lv_at hl 1 rfl) ?_
    refine hm_get (ci := 2) (v := .ref q2) (C := R_Ns) (T := F_Ns) (N := 4) hx hb hts ig_Ns hown hK hH f_h0 rfl 0 (by decide) (hts _ mw_129) (fun _ h9 => h9) rfl d_Ns_init_41 ?_
    refine lv_iload_n hx hb d_Ns_init_44 rfl (lv_at hl 0 rfl) ?_
    refine hm_new (ci := 1) (fs := [.int 0, .null, .int 0, .long 0, .int 0, .int 0, .int 0, .int 0, .int 0, .int 0, .int 0]) (C := R_No) (T := F_No) (N := 11) hx hb hts ig_No t_No tk_No hown (hts _ mw_529) (hts _ mw_530) (hts _ mw_106) hK hH rfl df_No (by show 2 + i + 1 ≤ 32; omega) (by show 60 + 11 * i + 11 ≤ 390; omega) d_Ns_init_45 (fun q35 H34 hq36 hn37 hH z38 => ?_)
    have hz : s.heap.size ≤ H34.size := by rw [z38]; exact Nat.le_succ_of_le hz
    obtain ⟨h39, e40⟩ : ∃ z, z = hu hh q35 (.inr (1, [.int 0, .null, .int 0, .long 0, .int 0, .int 0, .int 0, .int 0, .int 0, .int 0, .int 0])) := ⟨_, rfl⟩
    have hH : hm D vwCl G h39 H34 := by rw [e40]; exact hH
    have nb_h_q35 : h q35 = none := kp_none hkp hn37 (nmc (Ne.symm (h_nf hn37 f_h0)) nm0)
    have nb_hh_q35 : hh q35 = none := kp_none hkl hn37 (nmc (Ne.symm (h_nf hn37 f_sl)) (nmc (Ne.symm (h_nf hn37 f_or)) nm0))
    have hkp : kp [h0] h h39 := by rw [e40]; exact kp_new hkp hn37
    have hkl : kp [q2, q13] hh h39 := by rw [e40]; exact kp_new hkl hn37
    have ne_h0_q35 : h0 ≠ q35 := h_nf hn37 f_h0
    have f_h0 : h39 h0 = some (.inr (2, [.ref q2, .ref q13, .int 1, .int 1])) := by rw [e40, hu_n ne_h0_q35]; exact f_h0
    have ne_q2_q35 : q2 ≠ q35 := h_nf hn37 f_sl
    have f_sl : h39 q2 = some (.inl ((t 4), 30, .inr (.inr (.inr (.inr f))))) := by rw [e40, hu_n ne_q2_q35]; exact f_sl
    have ne_q13_q35 : q13 ≠ q35 := h_nf hn37 f_or
    have f_or : h39 q13 = some (.inl ((t 4), 30, .inr (.inr (.inr (.inr g))))) := by rw [e40, hu_n ne_q13_q35]; exact f_or
    have f_q : h39 q35 = some (.inr (1, [.int 0, .null, .int 0, .long 0, .int 0, .int 0, .int 0, .int 0, .int 0, .int 0, .int 0])) := by rw [e40]; exact hu_s _ _ _
    refine lv_dup hx hb d_Ns_init_48 rfl ?_
    refine hm_callv (va_runIN (As := []) (b := q35) (rest := [.ref q35, .int (nI i), .ref q2]) ⟨hx, hb, hml, hown, hts⟩ (d_Node_init l D t G ak av h39 q35 f_q) ⟨cw9N 0 hts mw_531 (nmU hE nM_4) mw_106 rfl rfl (by decide +kernel) ⟨Nat.le_of_ble_eq_true rfl, Nat.le_of_ble_eq_true rfl⟩, rfl, hts _ mw_532⟩ (hP_S kE_ok hE hH) rfl rfl hl.1 rfl (lv_room (Nat.le_of_ble_eq_true rfl)) d_Ns_init_49 ⟨by show 2 + i + 1 + 0 ≤ 32; omega, by show 60 + 11 * i + 11 + 0 ≤ 390; omega⟩) hLo (fun h41 H42 locs hp44 hH z43 hLo => ?_)
    have hz : s.heap.size ≤ H42.size := Nat.le_trans hz z43
    obtain ⟨hk9, hq9⟩ := hp44
    have f_h0 : h41 h0 = some (.inr (2, [.ref q2, .ref q13, .int 1, .int 1])) := kp_at hk9 f_h0 (nmc ne_h0_q35 nm0)
    have f_sl : h41 q2 = some (.inl ((t 4), 30, .inr (.inr (.inr (.inr f))))) := kp_at hk9 f_sl (nmc ne_q2_q35 nm0)
    have f_or : h41 q13 = some (.inl ((t 4), 30, .inr (.inr (.inr (.inr g))))) := kp_at hk9 f_or (nmc ne_q13_q35 nm0)
    have hkp : kp [h0] h h41 := kp_tr2 hkp hk9 (List.forall_mem_cons.mpr ⟨Or.inr nb_h_q35, List.forall_mem_nil _⟩)
    have hkl : kp [q2, q13] hh h41 := kp_tr2 hkl hk9 (List.forall_mem_cons.mpr ⟨Or.inr nb_hh_q35, List.forall_mem_nil _⟩)
    have f_q : h41 q35 = some (.inr (1, [.int 0, .null, .int 1, .long 0, .int 0, .int 0, .int 0, .int 0, .int 0, .int 0, .int 1])) := hq9
    refine hj_aast hx hb hK hH hLo 4 1 f_sl rfl f_q rfl i rfl hin (by decide) d_Ns_init_52 (fun H45 locs hH z46 hLo => ?_)
    have hz : s.heap.size ≤ H45.size := by rw [z46]; exact hz
    obtain ⟨h47, e48⟩ : ∃ z, z = hu h41 q2 (.inl ((t 4), 30, .inr (.inr (.inr (.inr (va_up f i (some q35))))))) := ⟨_, rfl⟩
    have hH : hm D vwCl G h47 H45 := by rw [e48]; exact hH
    have f_h0 : h47 h0 = some (.inr (2, [.ref q2, .ref q13, .int 1, .int 1])) := by rw [e48, hu_n ne_h0_q2]; exact f_h0
    have f_or : h47 q13 = some (.inl ((t 4), 30, .inr (.inr (.inr (.inr g))))) := by rw [e48, hu_n (Ne.symm ne_q2_q13)]; exact f_or
    have f_q : h47 q35 = some (.inr (1, [.int 0, .null, .int 1, .long 0, .int 0, .int 0, .int 0, .int 0, .int 0, .int 0, .int 1])) := by rw [e48, hu_n (Ne.symm ne_q2_q35)]; exact f_q
    have f_sl : h47 q2 = some (.inl ((t 4), 30, .inr (.inr (.inr (.inr (va_up f i (some q35))))))) := by rw [e48]; exact hu_s _ _ _
    have hkp : kp [h0] h h47 := by rw [e48]; exact kp_putN hkp nb_h_q2
    have hkl : kp [q2, q13] hh h47 := by rw [e48]; exact kp_put hkl (by simp)
    refine lv_aload_n hx hb d_Ns_init_53 rfl (lv_at hl 1 rfl) ?_
    refine hm_get (ci := 2) (v := .ref q13) (C := R_Ns) (T := F_Ns) (N := 4) hx hb hts ig_Ns hown hK hH f_h0 rfl 1 (by decide) (hts _ mw_152) (fun _ h9 => h9) rfl d_Ns_init_54 ?_
    refine lv_iload_n hx hb d_Ns_init_57 rfl (lv_at hl 0 rfl) ?_
    refine lv_aload_n hx hb d_Ns_init_58 rfl (lv_at hl 1 rfl) ?_
    refine hm_get (ci := 2) (v := .ref q2) (C := R_Ns) (T := F_Ns) (N := 4) hx hb hts ig_Ns hown hK hH f_h0 rfl 0 (by decide) (hts _ mw_129) (fun _ h9 => h9) rfl d_Ns_init_59 ?_
    refine lv_iload_n hx hb d_Ns_init_62 rfl (lv_at hl 0 rfl) ?_
    refine hj_aald (v := .ref q35) hx hb hK hH 4 f_sl (C := R_No) rfl i rfl hin (by decide) (by rw [va_up_self]; rfl) d_Ns_init_63 ?_
    refine hj_aast hx hb hK hH hLo 4 1 f_or rfl f_q rfl i rfl hin (by decide) d_Ns_init_64 (fun H49 locs hH z50 hLo => ?_)
    have hz : s.heap.size ≤ H49.size := by rw [z50]; exact hz
    obtain ⟨h51, e52⟩ : ∃ z, z = hu h47 q13 (.inl ((t 4), 30, .inr (.inr (.inr (.inr (va_up g i (some q35))))))) := ⟨_, rfl⟩
    have hH : hm D vwCl G h51 H49 := by rw [e52]; exact hH
    have f_h0 : h51 h0 = some (.inr (2, [.ref q2, .ref q13, .int 1, .int 1])) := by rw [e52, hu_n ne_h0_q13]; exact f_h0
    have f_sl : h51 q2 = some (.inl ((t 4), 30, .inr (.inr (.inr (.inr (va_up f i (some q35))))))) := by rw [e52, hu_n ne_q2_q13]; exact f_sl
    have f_q : h51 q35 = some (.inr (1, [.int 0, .null, .int 1, .long 0, .int 0, .int 0, .int 0, .int 0, .int 0, .int 0, .int 1])) := by rw [e52, hu_n (Ne.symm ne_q13_q35)]; exact f_q
    have f_or : h51 q13 = some (.inl ((t 4), 30, .inr (.inr (.inr (.inr (va_up g i (some q35))))))) := by rw [e52]; exact hu_s _ _ _
    have hkp : kp [h0] h h51 := by rw [e52]; exact kp_putN hkp nb_h_q13
    have hkl : kp [q2, q13] hh h51 := by rw [e52]; exact kp_put hkl (by simp)
    have hnod2 : ∀ j, j < i + 1 → ∃ a, (va_up f i (some q35)) j = some a ∧ (va_up g i (some q35)) j = some a ∧ h51 a = some (.inr (1, [.int 0, .null, .int 1, .long 0, .int 0, .int 0, .int 0, .int 0, .int 0, .int 0, .int 1])) ∧ h a = none := by
      intro j hj
      by_cases hji : j = i
      · subst hji
        exact ⟨q35, va_up_self _ _ _, va_up_self _ _ _, f_q, nb_h_q35⟩
      · obtain ⟨a, h1, h2, h3, h4⟩ := hnod j (by omega)
        exact ⟨a, by rw [va_up_ne _ _ hji]; exact h1, by rw [va_up_ne _ _ hji]; exact h2, kp_at hkl h3 (nmc (Ne.symm (h_neA f_sl0 h3)) (nmc (Ne.symm (h_neA f_or0 h3)) nm0)), h4⟩
    have hinj2 : ∀ j k, j < i + 1 → k < i + 1 → (va_up f i (some q35)) j = (va_up f i (some q35)) k → j = k := by
      intro j k hj hk2 e9
      by_cases hji : j = i <;> by_cases hki : k = i
      · omega
      · rw [hji, va_up_self, va_up_ne _ _ hki] at e9
        obtain ⟨a, h1, -, h3, -⟩ := hnod k (by omega)
        rw [h1] at e9
        exact absurd (Option.some.inj e9).symm (fun z => by rw [z, nb_hh_q35] at h3; cases h3)
      · rw [hki, va_up_self, va_up_ne _ _ hji] at e9
        obtain ⟨a, h1, -, h3, -⟩ := hnod j (by omega)
        rw [h1] at e9
        exact absurd (Option.some.inj e9) (fun z => by rw [z, nb_hh_q35] at h3; cases h3)
      · rw [va_up_ne _ _ hji, va_up_ne _ _ hki] at e9
        exact hinj j k (by omega) (by omega) e9
    refine lv_iinc (v := nI (i + 1)) (lv' := [(1, .int (nI (i + 1))), (0, .ref h0)]) hx hb d_Ns_init_65 hl (k := 0) rfl (nI_1 i) (by decide) rfl (fun ls hl => ?_)
    refine lv_goto (tgt := 34) hx hb d_Ns_init_68 (by decide) ?_
    exact ih (30 - (i + 1)) ls _ locs _ _ _ (by rw [hk]; omega) ⟨(i + 1), _, _, rfl, (by omega), (by omega), (lv_sub hl [0, 1] rfl), hH, hz, hLo, hkp, f_h0, f_sl, f_or, hnod2, hinj2, by omega⟩

set_option maxHeartbeats 4000000 in
set_option maxRecDepth 100000 in
theorem d_Writer_init (l : Launch) (D : va_G) (t : Nat → ClassId) (G : hG) (ak av : Nat → Nat) (h : hM) (h0 : Nat) (f_h0 : h h0 = some (.inr (7, [.null, .null]))) : Met l y_Wr_init (.code y_Wr_init b_Wr_init 1 none :: lw_g) { frames := 2, cells := 3, slots := 2052, locals := 33 } (hP (kE D t G ak av) D vwCl G h [.ref h0]) (hQv D vwCl G (fun h' => kp [h0] h h' ∧ ∃ su pg pb, h' h0 = some (.inr (7, [.ref su, .ref pg])) ∧ h' su = some (.inr (4, [.int (-1), .int 0, .int 0])) ∧ h' pg = some (.inr (3, [.ref pb])) ∧ h' pb = some (.inl (t 0, 2048, .inl (fun _ => 0))) ∧ h su = none ∧ h pg = none ∧ h pb = none)) 3 2052 G.P := by
  refine Met.ofW (cc := b_Wr_init) (maxL := 1) (ret := none) (by decide) rfl ?_
  intro p e s m args below meth c s₁ Bd hml hv
  obtain ⟨ha, hE, hH⟩ := hv
  have hx := Bd.exec
  have hb := Bd.bytes
  have hr := Bd.returns
  have hts : ∀ w ∈ lw_g, w.before args s = true := fun w hw => atoms_spec (ws := (.code y_Wr_init b_Wr_init 1 none :: lw_g)) Bd.pre w (List.mem_cons_of_mem _ hw)
  have hown : s.vm.findClass R_Wr = some m.cls := findClass_of_methodNamed Bd.named
  have hlocks := Bd.notSynchronized
  have hin : meth.name = "<init>" := (name_of_methodNamed Bd.named Bd.method).1
  have hK := hE.1
  have hH0 := hH
  have hLo : hLc G.P [] := hLc_nil
  have hz : s.heap.size ≤ s.heap.size := Nat.le_refl _
  have hkp : kp [h0] h h := kp_rf
  have hl := lv_entry [.ref h0] (n := 1) (Nat.le_of_ble_eq_true rfl)
  rw [show entryFrame m args 1 = F0 m 0 ((lg_sl [.ref h0] ++ List.replicate (1 - (lg_sl [.ref h0]).length) Slot.unset).toArray) [] from (by rw [ha]; exact lg_entry_eq m [.ref h0] 1)]
  generalize (lg_sl [.ref h0] ++ List.replicate (1 - (lg_sl [.ref h0]).length) Slot.unset).toArray = ls at hl ⊢
  have hl : lv_has ls 1 [(0, .ref h0)] := hl
  refine lv_aload_n hx hb d_Wr_init_0 rfl (lv_at hl 0 rfl) ?_
  refine W.objInit hx hb hown (hts _ mw_533) (hts _ mw_517) (hts _ mw_518) rfl (by rw [hml]; exact hl.1) rfl d_Wr_init_1 (Nat.le_of_ble_eq_true rfl) (Nat.le_of_ble_eq_true rfl) ?_
  refine W.eq (g2 := F0 m 4 ls []) rfl ?_
  refine lv_aload_n hx hb d_Wr_init_4 rfl (lv_at hl 0 rfl) ?_
  refine hm_new (ci := 4) (fs := [.int 0, .int 0, .int 0]) (C := R_Po) (T := F_Po) (N := 3) hx hb hts ig_Po t_Po tk_Po hown (hts _ mw_534) (hts _ mw_535) (hts _ mw_247) hK hH rfl df_Po (Nat.le_of_ble_eq_true rfl) (Nat.le_of_ble_eq_true rfl) d_Wr_init_5 (fun q2 H1 hq3 hn4 hH z5 => ?_)
  have hz : s.heap.size ≤ H1.size := by rw [z5]; exact Nat.le_succ_of_le hz
  obtain ⟨h6, e7⟩ : ∃ z, z = hu h q2 (.inr (4, [.int 0, .int 0, .int 0])) := ⟨_, rfl⟩
  have hH : hm D vwCl G h6 H1 := by rw [e7]; exact hH
  have nb_h_q2 : h q2 = none := kp_none hkp hn4 (nmc (Ne.symm (h_nf hn4 f_h0)) nm0)
  have hkp : kp [h0] h h6 := by rw [e7]; exact kp_new hkp hn4
  have ne_h0_q2 : h0 ≠ q2 := h_nf hn4 f_h0
  have f_h0 : h6 h0 = some (.inr (7, [.null, .null])) := by rw [e7, hu_n ne_h0_q2]; exact f_h0
  have f_su : h6 q2 = some (.inr (4, [.int 0, .int 0, .int 0])) := by rw [e7]; exact hu_s _ _ _
  refine lv_dup hx hb d_Wr_init_8 rfl ?_
  refine hm_callv (va_runIN (As := []) (b := q2) (rest := [.ref q2, .ref h0]) ⟨hx, hb, hml, hown, hts⟩ (d_Power_init l D t G ak av h6 q2 f_su) ⟨cw9N 0 hts mw_536 (nmU hE nM_1) mw_247 rfl rfl (by decide +kernel) ⟨Nat.le_of_ble_eq_true rfl, Nat.le_of_ble_eq_true rfl⟩, rfl, hts _ mw_537⟩ (hP_S kE_ok hE hH) rfl rfl hl.1 rfl (lv_room (Nat.le_of_ble_eq_true rfl)) d_Wr_init_9 ⟨Nat.le_of_ble_eq_true rfl, Nat.le_of_ble_eq_true rfl⟩) hLo (fun h8 H9 locs hp11 hH z10 hLo => ?_)
  have hz : s.heap.size ≤ H9.size := Nat.le_trans hz z10
  obtain ⟨hk9, hq9⟩ := hp11
  have f_h0 : h8 h0 = some (.inr (7, [.null, .null])) := kp_at hk9 f_h0 (nmc ne_h0_q2 nm0)
  have hkp : kp [h0] h h8 := kp_tr2 hkp hk9 (List.forall_mem_cons.mpr ⟨Or.inr nb_h_q2, List.forall_mem_nil _⟩)
  have f_su : h8 q2 = some (.inr (4, [.int (-1), .int 0, .int 0])) := hq9
  refine hm_putF (ci := 7) (v := .ref q2) (ty := (.object "WriteOnceDisc$Power")) (C := R_Wr) (T := F_Wr) (N := 2) hx hb hts ig_Wr t_Wr tk_Wr nm_Wr hown hK hH hLo f_h0 rfl 0 (by decide) (hts _ mw_263) (fun _ h9 => h9) rfl hin rfl (by decide +kernel) rfl rfl (Nat.le_of_ble_eq_true rfl) d_Wr_init_12 (fun H12 locs hH z13 hLo => ?_)
  have hz : s.heap.size ≤ H12.size := by rw [z13]; exact hz
  obtain ⟨h14, e15⟩ : ∃ z, z = hu h8 h0 (.inr (7, [.ref q2, .null])) := ⟨_, rfl⟩
  have hH : hm D vwCl G h14 H12 := by rw [e15]; exact hH
  have f_su : h14 q2 = some (.inr (4, [.int (-1), .int 0, .int 0])) := by rw [e15, hu_n (Ne.symm ne_h0_q2)]; exact f_su
  have f_h0 : h14 h0 = some (.inr (7, [.ref q2, .null])) := by rw [e15]; exact hu_s _ _ _
  have hkp : kp [h0] h h14 := by rw [e15]; exact kp_put hkp (by simp)
  refine lv_aload_n hx hb d_Wr_init_15 rfl (lv_at hl 0 rfl) ?_
  refine hm_new (ci := 3) (fs := [.null]) (C := R_Pg) (T := F_Pg) (N := 1) hx hb hts ig_Pg t_Pg tk_Pg hown (hts _ mw_538) (hts _ mw_539) (hts _ mw_77) hK hH rfl df_Pg (Nat.le_of_ble_eq_true rfl) (Nat.le_of_ble_eq_true rfl) d_Wr_init_16 (fun q17 H16 hq18 hn19 hH z20 => ?_)
  have hz : s.heap.size ≤ H16.size := by rw [z20]; exact Nat.le_succ_of_le hz
  obtain ⟨h21, e22⟩ : ∃ z, z = hu h14 q17 (.inr (3, [.null])) := ⟨_, rfl⟩
  have hH : hm D vwCl G h21 H16 := by rw [e22]; exact hH
  have nb_h_q17 : h q17 = none := kp_none hkp hn19 (nmc (Ne.symm (h_nf hn19 f_h0)) nm0)
  have hkp : kp [h0] h h21 := by rw [e22]; exact kp_new hkp hn19
  have ne_h0_q17 : h0 ≠ q17 := h_nf hn19 f_h0
  have f_h0 : h21 h0 = some (.inr (7, [.ref q2, .null])) := by rw [e22, hu_n ne_h0_q17]; exact f_h0
  have ne_q2_q17 : q2 ≠ q17 := h_nf hn19 f_su
  have f_su : h21 q2 = some (.inr (4, [.int (-1), .int 0, .int 0])) := by rw [e22, hu_n ne_q2_q17]; exact f_su
  have f_pg : h21 q17 = some (.inr (3, [.null])) := by rw [e22]; exact hu_s _ _ _
  refine lv_dup hx hb d_Wr_init_19 rfl ?_
  refine lv_sipush (v := 2048) hx hb d_Wr_init_20 (by decide) ?_
  refine hm_callv (va_runI (As := [.int 2048]) (b := q17) (rest := [.ref q17, .ref h0]) ⟨hx, hb, hml, hown, hts⟩ (d_Page_init_2048 l D t G ak av h21 q17 f_pg) ⟨cw9B 1 hts mw_540 mw_541 mw_77 rfl rfl (by decide +kernel) ⟨Nat.le_of_ble_eq_true rfl, Nat.le_of_ble_eq_true rfl⟩, rfl, hts _ mw_542⟩ (hP_S kE_ok hE hH) rfl rfl hl.1 rfl (lv_room (Nat.le_of_ble_eq_true rfl)) d_Wr_init_23 ⟨Nat.le_of_ble_eq_true rfl, Nat.le_of_ble_eq_true rfl⟩) hLo (fun h23 H24 locs hp26 hH z25 hLo => ?_)
  have hz : s.heap.size ≤ H24.size := Nat.le_trans hz z25
  obtain ⟨hk9, pb, hq9, hp9, hn9⟩ := hp26
  have nb_h_pb : h pb = none := kp_none hkp hn9 (nmc (fun z => by rw [z, f_h0] at hn9; cases hn9) nm0)
  have f_h0 : h23 h0 = some (.inr (7, [.ref q2, .null])) := kp_at hk9 f_h0 (nmc ne_h0_q17 nm0)
  have f_su : h23 q2 = some (.inr (4, [.int (-1), .int 0, .int 0])) := kp_at hk9 f_su (nmc ne_q2_q17 nm0)
  have hkp : kp [h0] h h23 := kp_tr2 hkp hk9 (List.forall_mem_cons.mpr ⟨Or.inr nb_h_q17, List.forall_mem_nil _⟩)
  have f_pg : h23 q17 = some (.inr (3, [.ref pb])) := hq9
  have f_pb : h23 pb = some (.inl ((t 0), 2048, .inl (fun _ => 0))) := hp9
  refine hm_putF (ci := 7) (v := .ref q17) (ty := (.object "WriteOnceDisc$Page")) (C := R_Wr) (T := F_Wr) (N := 2) hx hb hts ig_Wr t_Wr tk_Wr nm_Wr hown hK hH hLo f_h0 rfl 1 (by decide) (hts _ mw_256) (fun _ h9 => h9) rfl hin rfl (by decide +kernel) rfl rfl (Nat.le_of_ble_eq_true rfl) d_Wr_init_26 (fun H27 locs hH z28 hLo => ?_)
  have hz : s.heap.size ≤ H27.size := by rw [z28]; exact hz
  obtain ⟨h29, e30⟩ : ∃ z, z = hu h23 h0 (.inr (7, [.ref q2, .ref q17])) := ⟨_, rfl⟩
  have hH : hm D vwCl G h29 H27 := by rw [e30]; exact hH
  have f_su : h29 q2 = some (.inr (4, [.int (-1), .int 0, .int 0])) := by rw [e30, hu_n (Ne.symm ne_h0_q2)]; exact f_su
  have f_pg : h29 q17 = some (.inr (3, [.ref pb])) := by rw [e30, hu_n (Ne.symm ne_h0_q17)]; exact f_pg
  have f_pb : h29 pb = some (.inl ((t 0), 2048, .inl (fun _ => 0))) := by rw [e30, hu_n (h_neA f_pb f_h0)]; exact f_pb
  have f_h0 : h29 h0 = some (.inr (7, [.ref q2, .ref q17])) := by rw [e30]; exact hu_s _ _ _
  have hkp : kp [h0] h h29 := by rw [e30]; exact kp_put hkp (by simp)
  exact W.vret hx hb hr (fun t9 ht hW => ⟨h29, rfl, ⟨hkp, q2, q17, pb, f_h0, f_su, f_pg, f_pb, nb_h_q2, nb_h_q17, nb_h_pb⟩, by rw [ht]; exact hH, by rw [ht]; exact hz⟩) hLo d_Wr_init_29

set_option maxHeartbeats 4000000 in
set_option maxRecDepth 100000 in
theorem d_Reader_init (l : Launch) (D : va_G) (t : Nat → ClassId) (G : hG) (ak av : Nat → Nat) (h : hM) (h0 : Nat) (f_h0 : h h0 = some (.inr (5, [.null, .null, .null, .null, .int 0]))) : Met l y_Re_init (.code y_Re_init b_Re_init 1 none :: lw_g) { frames := 2, cells := 3, slots := 492, locals := 33 } (hP (kE D t G ak av) D vwCl G h [.ref h0]) (hQv D vwCl G (fun h' => kp [h0] h h' ∧ ∃ pg no pb, h' h0 = some (.inr (5, [.ref pg, .ref no, .null, .null, .int 0])) ∧ h' no = some (.inr (1, [.int 0, .null, .int 1, .long 0, .int 0, .int 0, .int 0, .int 0, .int 0, .int 0, .int 1])) ∧ h' pg = some (.inr (3, [.ref pb])) ∧ h' pb = some (.inl (t 0, 480, .inl (fun _ => 0))) ∧ h pg = none ∧ h no = none ∧ h pb = none)) 3 492 G.P := by
  refine Met.ofW (cc := b_Re_init) (maxL := 1) (ret := none) (by decide) rfl ?_
  intro p e s m args below meth c s₁ Bd hml hv
  obtain ⟨ha, hE, hH⟩ := hv
  have hx := Bd.exec
  have hb := Bd.bytes
  have hr := Bd.returns
  have hts : ∀ w ∈ lw_g, w.before args s = true := fun w hw => atoms_spec (ws := (.code y_Re_init b_Re_init 1 none :: lw_g)) Bd.pre w (List.mem_cons_of_mem _ hw)
  have hown : s.vm.findClass R_Re = some m.cls := findClass_of_methodNamed Bd.named
  have hlocks := Bd.notSynchronized
  have hin : meth.name = "<init>" := (name_of_methodNamed Bd.named Bd.method).1
  have hK := hE.1
  have hH0 := hH
  have hLo : hLc G.P [] := hLc_nil
  have hz : s.heap.size ≤ s.heap.size := Nat.le_refl _
  have hkp : kp [h0] h h := kp_rf
  have hl := lv_entry [.ref h0] (n := 1) (Nat.le_of_ble_eq_true rfl)
  rw [show entryFrame m args 1 = F0 m 0 ((lg_sl [.ref h0] ++ List.replicate (1 - (lg_sl [.ref h0]).length) Slot.unset).toArray) [] from (by rw [ha]; exact lg_entry_eq m [.ref h0] 1)]
  generalize (lg_sl [.ref h0] ++ List.replicate (1 - (lg_sl [.ref h0]).length) Slot.unset).toArray = ls at hl ⊢
  have hl : lv_has ls 1 [(0, .ref h0)] := hl
  refine lv_aload_n hx hb d_Re_init_0 rfl (lv_at hl 0 rfl) ?_
  refine W.objInit hx hb hown (hts _ mw_543) (hts _ mw_517) (hts _ mw_518) rfl (by rw [hml]; exact hl.1) rfl d_Re_init_1 (Nat.le_of_ble_eq_true rfl) (Nat.le_of_ble_eq_true rfl) ?_
  refine W.eq (g2 := F0 m 4 ls []) rfl ?_
  refine lv_aload_n hx hb d_Re_init_4 rfl (lv_at hl 0 rfl) ?_
  refine hm_new (ci := 3) (fs := [.null]) (C := R_Pg) (T := F_Pg) (N := 1) hx hb hts ig_Pg t_Pg tk_Pg hown (hts _ mw_544) (hts _ mw_539) (hts _ mw_77) hK hH rfl df_Pg (Nat.le_of_ble_eq_true rfl) (Nat.le_of_ble_eq_true rfl) d_Re_init_5 (fun q2 H1 hq3 hn4 hH z5 => ?_)
  have hz : s.heap.size ≤ H1.size := by rw [z5]; exact Nat.le_succ_of_le hz
  obtain ⟨h6, e7⟩ : ∃ z, z = hu h q2 (.inr (3, [.null])) := ⟨_, rfl⟩
  have hH : hm D vwCl G h6 H1 := by rw [e7]; exact hH
  have nb_h_q2 : h q2 = none := kp_none hkp hn4 (nmc (Ne.symm (h_nf hn4 f_h0)) nm0)
  have hkp : kp [h0] h h6 := by rw [e7]; exact kp_new hkp hn4
  have ne_h0_q2 : h0 ≠ q2 := h_nf hn4 f_h0
  have f_h0 : h6 h0 = some (.inr (5, [.null, .null, .null, .null, .int 0])) := by rw [e7, hu_n ne_h0_q2]; exact f_h0
  have f_pg : h6 q2 = some (.inr (3, [.null])) := by rw [e7]; exact hu_s _ _ _
  refine lv_dup hx hb d_Re_init_8 rfl ?_
  refine lv_sipush (v := 480) hx hb d_Re_init_9 (by decide) ?_
  refine hm_callv (va_runI (As := [.int 480]) (b := q2) (rest := [.ref q2, .ref h0]) ⟨hx, hb, hml, hown, hts⟩ (d_Page_init_480 l D t G ak av h6 q2 f_pg) ⟨cw9B 1 hts mw_540 mw_545 mw_77 rfl rfl (by decide +kernel) ⟨Nat.le_of_ble_eq_true rfl, Nat.le_of_ble_eq_true rfl⟩, rfl, hts _ mw_542⟩ (hP_S kE_ok hE hH) rfl rfl hl.1 rfl (lv_room (Nat.le_of_ble_eq_true rfl)) d_Re_init_12 ⟨Nat.le_of_ble_eq_true rfl, Nat.le_of_ble_eq_true rfl⟩) hLo (fun h8 H9 locs hp11 hH z10 hLo => ?_)
  have hz : s.heap.size ≤ H9.size := Nat.le_trans hz z10
  obtain ⟨hk9, pb, hq9, hp9, hn9⟩ := hp11
  have nb_h_pb : h pb = none := kp_none hkp hn9 (nmc (fun z => by rw [z, f_h0] at hn9; cases hn9) nm0)
  have f_h0 : h8 h0 = some (.inr (5, [.null, .null, .null, .null, .int 0])) := kp_at hk9 f_h0 (nmc ne_h0_q2 nm0)
  have hkp : kp [h0] h h8 := kp_tr2 hkp hk9 (List.forall_mem_cons.mpr ⟨Or.inr nb_h_q2, List.forall_mem_nil _⟩)
  have f_pg : h8 q2 = some (.inr (3, [.ref pb])) := hq9
  have f_pb : h8 pb = some (.inl ((t 0), 480, .inl (fun _ => 0))) := hp9
  refine hm_putF (ci := 5) (v := .ref q2) (ty := (.object "WriteOnceDisc$Page")) (C := R_Re) (T := F_Re) (N := 5) hx hb hts ig_Re t_Re tk_Re nm_Re hown hK hH hLo f_h0 rfl 0 (by decide) (hts _ mw_350) (fun _ h9 => h9) rfl hin rfl (by decide +kernel) rfl rfl (Nat.le_of_ble_eq_true rfl) d_Re_init_15 (fun H12 locs hH z13 hLo => ?_)
  have hz : s.heap.size ≤ H12.size := by rw [z13]; exact hz
  obtain ⟨h14, e15⟩ : ∃ z, z = hu h8 h0 (.inr (5, [.ref q2, .null, .null, .null, .int 0])) := ⟨_, rfl⟩
  have hH : hm D vwCl G h14 H12 := by rw [e15]; exact hH
  have f_pg : h14 q2 = some (.inr (3, [.ref pb])) := by rw [e15, hu_n (Ne.symm ne_h0_q2)]; exact f_pg
  have f_pb : h14 pb = some (.inl ((t 0), 480, .inl (fun _ => 0))) := by rw [e15, hu_n (h_neA f_pb f_h0)]; exact f_pb
  have f_h0 : h14 h0 = some (.inr (5, [.ref q2, .null, .null, .null, .int 0])) := by rw [e15]; exact hu_s _ _ _
  have hkp : kp [h0] h h14 := by rw [e15]; exact kp_put hkp (by simp)
  refine lv_aload_n hx hb d_Re_init_18 rfl (lv_at hl 0 rfl) ?_
  refine hm_new (ci := 1) (fs := [.int 0, .null, .int 0, .long 0, .int 0, .int 0, .int 0, .int 0, .int 0, .int 0, .int 0]) (C := R_No) (T := F_No) (N := 11) hx hb hts ig_No t_No tk_No hown (hts _ mw_546) (hts _ mw_530) (hts _ mw_106) hK hH rfl df_No (Nat.le_of_ble_eq_true rfl) (Nat.le_of_ble_eq_true rfl) d_Re_init_19 (fun q17 H16 hq18 hn19 hH z20 => ?_)
  have hz : s.heap.size ≤ H16.size := by rw [z20]; exact Nat.le_succ_of_le hz
  obtain ⟨h21, e22⟩ : ∃ z, z = hu h14 q17 (.inr (1, [.int 0, .null, .int 0, .long 0, .int 0, .int 0, .int 0, .int 0, .int 0, .int 0, .int 0])) := ⟨_, rfl⟩
  have hH : hm D vwCl G h21 H16 := by rw [e22]; exact hH
  have nb_h_q17 : h q17 = none := kp_none hkp hn19 (nmc (Ne.symm (h_nf hn19 f_h0)) nm0)
  have hkp : kp [h0] h h21 := by rw [e22]; exact kp_new hkp hn19
  have ne_h0_q17 : h0 ≠ q17 := h_nf hn19 f_h0
  have f_h0 : h21 h0 = some (.inr (5, [.ref q2, .null, .null, .null, .int 0])) := by rw [e22, hu_n ne_h0_q17]; exact f_h0
  have ne_q2_q17 : q2 ≠ q17 := h_nf hn19 f_pg
  have f_pg : h21 q2 = some (.inr (3, [.ref pb])) := by rw [e22, hu_n ne_q2_q17]; exact f_pg
  have ne_pb_q17 : pb ≠ q17 := h_nf hn19 f_pb
  have f_pb : h21 pb = some (.inl ((t 0), 480, .inl (fun _ => 0))) := by rw [e22, hu_n ne_pb_q17]; exact f_pb
  have f_no : h21 q17 = some (.inr (1, [.int 0, .null, .int 0, .long 0, .int 0, .int 0, .int 0, .int 0, .int 0, .int 0, .int 0])) := by rw [e22]; exact hu_s _ _ _
  refine lv_dup hx hb d_Re_init_22 rfl ?_
  refine hm_callv (va_runIN (As := []) (b := q17) (rest := [.ref q17, .ref h0]) ⟨hx, hb, hml, hown, hts⟩ (d_Node_init l D t G ak av h21 q17 f_no) ⟨cw9N 0 hts mw_531 (nmU hE nM_3) mw_106 rfl rfl (by decide +kernel) ⟨Nat.le_of_ble_eq_true rfl, Nat.le_of_ble_eq_true rfl⟩, rfl, hts _ mw_532⟩ (hP_S kE_ok hE hH) rfl rfl hl.1 rfl (lv_room (Nat.le_of_ble_eq_true rfl)) d_Re_init_23 ⟨Nat.le_of_ble_eq_true rfl, Nat.le_of_ble_eq_true rfl⟩) hLo (fun h23 H24 locs hp26 hH z25 hLo => ?_)
  have hz : s.heap.size ≤ H24.size := Nat.le_trans hz z25
  obtain ⟨hk9, hq9⟩ := hp26
  have f_h0 : h23 h0 = some (.inr (5, [.ref q2, .null, .null, .null, .int 0])) := kp_at hk9 f_h0 (nmc ne_h0_q17 nm0)
  have f_pg : h23 q2 = some (.inr (3, [.ref pb])) := kp_at hk9 f_pg (nmc ne_q2_q17 nm0)
  have f_pb : h23 pb = some (.inl ((t 0), 480, .inl (fun _ => 0))) := kp_at hk9 f_pb (nmc ne_pb_q17 nm0)
  have hkp : kp [h0] h h23 := kp_tr2 hkp hk9 (List.forall_mem_cons.mpr ⟨Or.inr nb_h_q17, List.forall_mem_nil _⟩)
  have f_no : h23 q17 = some (.inr (1, [.int 0, .null, .int 1, .long 0, .int 0, .int 0, .int 0, .int 0, .int 0, .int 0, .int 1])) := hq9
  refine hm_putF (ci := 5) (v := .ref q17) (ty := (.object "WriteOnceDisc$Node")) (C := R_Re) (T := F_Re) (N := 5) hx hb hts ig_Re t_Re tk_Re nm_Re hown hK hH hLo f_h0 rfl 1 (by decide) (hts _ mw_366) (fun _ h9 => h9) rfl hin rfl (by decide +kernel) rfl rfl (Nat.le_of_ble_eq_true rfl) d_Re_init_26 (fun H27 locs hH z28 hLo => ?_)
  have hz : s.heap.size ≤ H27.size := by rw [z28]; exact hz
  obtain ⟨h29, e30⟩ : ∃ z, z = hu h23 h0 (.inr (5, [.ref q2, .ref q17, .null, .null, .int 0])) := ⟨_, rfl⟩
  have hH : hm D vwCl G h29 H27 := by rw [e30]; exact hH
  have f_pg : h29 q2 = some (.inr (3, [.ref pb])) := by rw [e30, hu_n (Ne.symm ne_h0_q2)]; exact f_pg
  have f_pb : h29 pb = some (.inl ((t 0), 480, .inl (fun _ => 0))) := by rw [e30, hu_n (h_neA f_pb f_h0)]; exact f_pb
  have f_no : h29 q17 = some (.inr (1, [.int 0, .null, .int 1, .long 0, .int 0, .int 0, .int 0, .int 0, .int 0, .int 0, .int 1])) := by rw [e30, hu_n (Ne.symm ne_h0_q17)]; exact f_no
  have f_h0 : h29 h0 = some (.inr (5, [.ref q2, .ref q17, .null, .null, .int 0])) := by rw [e30]; exact hu_s _ _ _
  have hkp : kp [h0] h h29 := by rw [e30]; exact kp_put hkp (by simp)
  refine lv_aload_n hx hb d_Re_init_29 rfl (lv_at hl 0 rfl) ?_
  refine lv_null hx hb d_Re_init_30 ?_
  refine hm_put (ci := 5) (v := .null) (ty := (.object "WriteOnceDisc$Medium")) (C := R_Re) (T := F_Re) (N := 5) hx hb hts ig_Re t_Re tk_Re nm_Re hown hK hH hLo f_h0 rfl 2 (by decide) (hts _ mw_329) (fun _ h9 => h9) rfl (by decide +kernel) rfl rfl (Nat.le_of_ble_eq_true rfl) d_Re_init_31 (fun H31 locs hH z32 hLo => ?_)
  have hz : s.heap.size ≤ H31.size := by rw [z32]; exact hz
  obtain ⟨h33, e34⟩ : ∃ z, z = hu h29 h0 (.inr (5, [.ref q2, .ref q17, .null, .null, .int 0])) := ⟨_, rfl⟩
  have hH : hm D vwCl G h33 H31 := by rw [e34]; exact hH
  have f_pg : h33 q2 = some (.inr (3, [.ref pb])) := by rw [e34, hu_n (Ne.symm ne_h0_q2)]; exact f_pg
  have f_pb : h33 pb = some (.inl ((t 0), 480, .inl (fun _ => 0))) := by rw [e34, hu_n (h_neA f_pb f_h0)]; exact f_pb
  have f_no : h33 q17 = some (.inr (1, [.int 0, .null, .int 1, .long 0, .int 0, .int 0, .int 0, .int 0, .int 0, .int 0, .int 1])) := by rw [e34, hu_n (Ne.symm ne_h0_q17)]; exact f_no
  have f_h0 : h33 h0 = some (.inr (5, [.ref q2, .ref q17, .null, .null, .int 0])) := by rw [e34]; exact hu_s _ _ _
  have hkp : kp [h0] h h33 := by rw [e34]; exact kp_put hkp (by simp)
  refine lv_aload_n hx hb d_Re_init_34 rfl (lv_at hl 0 rfl) ?_
  refine lv_null hx hb d_Re_init_35 ?_
  refine hm_put (ci := 5) (v := .null) (ty := (.object "WriteOnceDisc$Nodes")) (C := R_Re) (T := F_Re) (N := 5) hx hb hts ig_Re t_Re tk_Re nm_Re hown hK hH hLo f_h0 rfl 3 (by decide) (hts _ mw_342) (fun _ h9 => h9) rfl (by decide +kernel) rfl rfl (Nat.le_of_ble_eq_true rfl) d_Re_init_36 (fun H35 locs hH z36 hLo => ?_)
  have hz : s.heap.size ≤ H35.size := by rw [z36]; exact hz
  obtain ⟨h37, e38⟩ : ∃ z, z = hu h33 h0 (.inr (5, [.ref q2, .ref q17, .null, .null, .int 0])) := ⟨_, rfl⟩
  have hH : hm D vwCl G h37 H35 := by rw [e38]; exact hH
  have f_pg : h37 q2 = some (.inr (3, [.ref pb])) := by rw [e38, hu_n (Ne.symm ne_h0_q2)]; exact f_pg
  have f_pb : h37 pb = some (.inl ((t 0), 480, .inl (fun _ => 0))) := by rw [e38, hu_n (h_neA f_pb f_h0)]; exact f_pb
  have f_no : h37 q17 = some (.inr (1, [.int 0, .null, .int 1, .long 0, .int 0, .int 0, .int 0, .int 0, .int 0, .int 0, .int 1])) := by rw [e38, hu_n (Ne.symm ne_h0_q17)]; exact f_no
  have f_h0 : h37 h0 = some (.inr (5, [.ref q2, .ref q17, .null, .null, .int 0])) := by rw [e38]; exact hu_s _ _ _
  have hkp : kp [h0] h h37 := by rw [e38]; exact kp_put hkp (by simp)
  refine lv_aload_n hx hb d_Re_init_39 rfl (lv_at hl 0 rfl) ?_
  refine lv_iconst (v := 0) hx hb d_Re_init_40 (by decide) ?_
  refine hm_put (ci := 5) (v := .int 0) (ty := .int) (C := R_Re) (T := F_Re) (N := 5) hx hb hts ig_Re t_Re tk_Re nm_Re hown hK hH hLo f_h0 rfl 4 (by decide) (hts _ mw_328) (fun _ h9 => h9) rfl (by decide +kernel) rfl rfl (Nat.le_of_ble_eq_true rfl) d_Re_init_41 (fun H39 locs hH z40 hLo => ?_)
  have hz : s.heap.size ≤ H39.size := by rw [z40]; exact hz
  obtain ⟨h41, e42⟩ : ∃ z, z = hu h37 h0 (.inr (5, [.ref q2, .ref q17, .null, .null, .int 0])) := ⟨_, rfl⟩
  have hH : hm D vwCl G h41 H39 := by rw [e42]; exact hH
  have f_pg : h41 q2 = some (.inr (3, [.ref pb])) := by rw [e42, hu_n (Ne.symm ne_h0_q2)]; exact f_pg
  have f_pb : h41 pb = some (.inl ((t 0), 480, .inl (fun _ => 0))) := by rw [e42, hu_n (h_neA f_pb f_h0)]; exact f_pb
  have f_no : h41 q17 = some (.inr (1, [.int 0, .null, .int 1, .long 0, .int 0, .int 0, .int 0, .int 0, .int 0, .int 0, .int 1])) := by rw [e42, hu_n (Ne.symm ne_h0_q17)]; exact f_no
  have f_h0 : h41 h0 = some (.inr (5, [.ref q2, .ref q17, .null, .null, .int 0])) := by rw [e42]; exact hu_s _ _ _
  have hkp : kp [h0] h h41 := by rw [e42]; exact kp_put hkp (by simp)
  exact W.vret hx hb hr (fun t9 ht hW => ⟨h41, rfl, ⟨hkp, q2, q17, pb, f_h0, f_no, f_pg, f_pb, nb_h_q2, nb_h_q17, nb_h_pb⟩, by rw [ht]; exact hH, by rw [ht]; exact hz⟩) hLo d_Re_init_44
