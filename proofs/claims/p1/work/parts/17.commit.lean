set_option maxRecDepth 100000 in
theorem mw_350 : Cond.code y_No_needsSectors b_No_needsSectors 1 (some .boolean) ∈ lw_g := lw_gin (List.mem_append_right _ (List.mem_of_getElem? (i := 380) rfl)) (by decide +kernel)
set_option maxRecDepth 100000 in
theorem mw_351 : Cond.methodLink R_Wr 37 y_No_needsSectors ∈ lw_g := lw_gin (List.mem_append_right _ (List.mem_of_getElem? (i := 377) rfl)) (by decide +kernel)
set_option maxRecDepth 100000 in
theorem mw_352 : Cond.instanceMethod y_No_needsSectors ∈ lw_g := lw_gin (List.mem_append_right _ (List.mem_of_getElem? (i := 378) rfl)) (by decide +kernel)
set_option maxRecDepth 100000 in
theorem mw_353 : Cond.selects R_No y_No_needsSectors y_No_needsSectors ∈ lw_g := lw_gin (List.mem_append_right _ (List.mem_of_getElem? (i := 379) rfl)) (by decide +kernel)
set_option maxRecDepth 100000 in
theorem mw_354 : Cond.fieldLink R_Wr 54 "WriteOnceDisc$Node" "extent" "I" ∈ lw_g := lw_gin (List.mem_append_right _ (List.mem_of_getElem? (i := 120) rfl)) (by decide +kernel)
set_option maxRecDepth 100000 in
theorem mw_355 : Cond.code y_Wr_writeNewFiles b_Wr_writeNewFiles 6 (some .int) ∈ lw_g := lw_gin (List.mem_append_right _ (List.mem_of_getElem? (i := 376) rfl)) (by decide +kernel)
set_option maxRecDepth 100000 in
theorem mw_356 : Cond.methodLink R_Di 131 y_Wr_writeNewFiles ∈ lw_g := lw_gin (List.mem_append_right _ (List.mem_of_getElem? (i := 373) rfl)) (by decide +kernel)
set_option maxRecDepth 100000 in
theorem mw_357 : Cond.instanceMethod y_Wr_writeNewFiles ∈ lw_g := lw_gin (List.mem_append_right _ (List.mem_of_getElem? (i := 374) rfl)) (by decide +kernel)
set_option maxRecDepth 100000 in
theorem mw_358 : Cond.selects R_Wr y_Wr_writeNewFiles y_Wr_writeNewFiles ∈ lw_g := lw_gin (List.mem_append_right _ (List.mem_of_getElem? (i := 375) rfl)) (by decide +kernel)
set_option maxRecDepth 100000 in
theorem mw_359 : Cond.code y_Wr_writeSession b_Wr_writeSession 8 (some .int) ∈ lw_g := lw_gin (List.mem_append_right _ (List.mem_of_getElem? (i := 451) rfl)) (by decide +kernel)
set_option maxRecDepth 100000 in
theorem mw_360 : Cond.methodLink R_Di 135 y_Wr_writeSession ∈ lw_g := lw_gin (List.mem_append_right _ (List.mem_of_getElem? (i := 448) rfl)) (by decide +kernel)
set_option maxRecDepth 100000 in
theorem mw_361 : Cond.instanceMethod y_Wr_writeSession ∈ lw_g := lw_gin (List.mem_append_right _ (List.mem_of_getElem? (i := 449) rfl)) (by decide +kernel)
set_option maxRecDepth 100000 in
theorem mw_362 : Cond.selects R_Wr y_Wr_writeSession y_Wr_writeSession ∈ lw_g := lw_gin (List.mem_append_right _ (List.mem_of_getElem? (i := 450) rfl)) (by decide +kernel)
set_option maxRecDepth 100000 in
theorem mw_363 : Cond.methodLink R_Ns 28 y_Ns_append ∈ lw_g := lw_gin (List.mem_append_right _ (List.mem_of_getElem? (i := 603) rfl)) (by decide +kernel)
set_option maxRecDepth 100000 in
theorem mw_364 : Cond.methodLink R_Ns 32 y_No_become ∈ lw_g := lw_gin (List.mem_append_right _ (List.mem_of_getElem? (i := 604) rfl)) (by decide +kernel)
set_option maxRecDepth 100000 in
theorem mw_365 : Cond.code y_Ns_becomeRootAlone b_Ns_becomeRootAlone 2 none ∈ lw_g := lw_gin (List.mem_append_right _ (List.mem_of_getElem? (i := 602) rfl)) (by decide +kernel)
set_option maxRecDepth 100000 in
theorem mw_366 : Cond.methodLink R_Di 139 y_Ns_becomeRootAlone ∈ lw_g := lw_gin (List.mem_append_right _ (List.mem_of_getElem? (i := 599) rfl)) (by decide +kernel)
set_option maxRecDepth 100000 in
theorem mw_367 : Cond.instanceMethod y_Ns_becomeRootAlone ∈ lw_g := lw_gin (List.mem_append_right _ (List.mem_of_getElem? (i := 600) rfl)) (by decide +kernel)
set_option maxRecDepth 100000 in
theorem mw_368 : Cond.selects R_Ns y_Ns_becomeRootAlone y_Ns_becomeRootAlone ∈ lw_g := lw_gin (List.mem_append_right _ (List.mem_of_getElem? (i := 601) rfl)) (by decide +kernel)
set_option maxRecDepth 100000 in
theorem mw_369 : Cond.fieldLink R_Di 142 "WriteOnceDisc$Medium" "front" "I" ∈ lw_g := lw_gin (List.mem_append_right _ (List.mem_of_getElem? (i := 230) rfl)) (by decide +kernel)
set_option maxRecDepth 100000 in
theorem mw_370 : Cond.code y_Po_comeBack b_Po_comeBack 1 none ∈ lw_g := lw_gin (List.mem_append_right _ (List.mem_of_getElem? (i := 742) rfl)) (by decide +kernel)
set_option maxRecDepth 100000 in
theorem mw_371 : Cond.methodLink R_Di 163 y_Po_comeBack ∈ lw_g := lw_gin (List.mem_append_right _ (List.mem_of_getElem? (i := 739) rfl)) (by decide +kernel)
set_option maxRecDepth 100000 in
theorem mw_372 : Cond.instanceMethod y_Po_comeBack ∈ lw_g := lw_gin (List.mem_append_right _ (List.mem_of_getElem? (i := 740) rfl)) (by decide +kernel)
set_option maxRecDepth 100000 in
theorem mw_373 : Cond.selects R_Po y_Po_comeBack y_Po_comeBack ∈ lw_g := lw_gin (List.mem_append_right _ (List.mem_of_getElem? (i := 741) rfl)) (by decide +kernel)
set_option maxRecDepth 100000 in
theorem mw_374 : Cond.code y_Se_erase b_Se_erase 1 none ∈ lw_g := lw_gin (List.mem_append_right _ (List.mem_of_getElem? (i := 754) rfl)) (by decide +kernel)
set_option maxRecDepth 100000 in
theorem mw_375 : Cond.methodLink R_Me 22 y_Se_erase ∈ lw_g := lw_gin (List.mem_append_right _ (List.mem_of_getElem? (i := 751) rfl)) (by decide +kernel)
set_option maxRecDepth 100000 in
theorem mw_376 : Cond.instanceMethod y_Se_erase ∈ lw_g := lw_gin (List.mem_append_right _ (List.mem_of_getElem? (i := 752) rfl)) (by decide +kernel)
set_option maxRecDepth 100000 in
theorem mw_377 : Cond.selects R_Se y_Se_erase y_Se_erase ∈ lw_g := lw_gin (List.mem_append_right _ (List.mem_of_getElem? (i := 753) rfl)) (by decide +kernel)
set_option maxRecDepth 100000 in
theorem mw_378 : Cond.code y_Me_erase b_Me_erase 2 none ∈ lw_g := lw_gin (List.mem_append_right _ (List.mem_of_getElem? (i := 750) rfl)) (by decide +kernel)
set_option maxRecDepth 100000 in
theorem mw_379 : Cond.methodLink R_Di 170 y_Me_erase ∈ lw_g := lw_gin (List.mem_append_right _ (List.mem_of_getElem? (i := 747) rfl)) (by decide +kernel)
set_option maxRecDepth 100000 in
theorem mw_380 : Cond.instanceMethod y_Me_erase ∈ lw_g := lw_gin (List.mem_append_right _ (List.mem_of_getElem? (i := 748) rfl)) (by decide +kernel)
set_option maxRecDepth 100000 in
theorem mw_381 : Cond.selects R_Me y_Me_erase y_Me_erase ∈ lw_g := lw_gin (List.mem_append_right _ (List.mem_of_getElem? (i := 749) rfl)) (by decide +kernel)
set_option maxRecDepth 100000 in
theorem mw_382 : Cond.code y_Wr_writeAllFiles b_Wr_writeAllFiles 7 (some .int) ∈ lw_g := lw_gin (List.mem_append_right _ (List.mem_of_getElem? (i := 758) rfl)) (by decide +kernel)
set_option maxRecDepth 100000 in
theorem mw_383 : Cond.methodLink R_Di 173 y_Wr_writeAllFiles ∈ lw_g := lw_gin (List.mem_append_right _ (List.mem_of_getElem? (i := 755) rfl)) (by decide +kernel)
set_option maxRecDepth 100000 in
theorem mw_384 : Cond.instanceMethod y_Wr_writeAllFiles ∈ lw_g := lw_gin (List.mem_append_right _ (List.mem_of_getElem? (i := 756) rfl)) (by decide +kernel)
set_option maxRecDepth 100000 in
theorem mw_385 : Cond.selects R_Wr y_Wr_writeAllFiles y_Wr_writeAllFiles ∈ lw_g := lw_gin (List.mem_append_right _ (List.mem_of_getElem? (i := 757) rfl)) (by decide +kernel)
set_option maxRecDepth 100000 in
theorem mw_386 : Cond.code y_Ns_settle b_Ns_settle 2 none ∈ lw_g := lw_gin (List.mem_append_right _ (List.mem_of_getElem? (i := 762) rfl)) (by decide +kernel)
set_option maxRecDepth 100000 in
theorem mw_387 : Cond.methodLink R_Di 177 y_Ns_settle ∈ lw_g := lw_gin (List.mem_append_right _ (List.mem_of_getElem? (i := 759) rfl)) (by decide +kernel)
set_option maxRecDepth 100000 in
theorem mw_388 : Cond.instanceMethod y_Ns_settle ∈ lw_g := lw_gin (List.mem_append_right _ (List.mem_of_getElem? (i := 760) rfl)) (by decide +kernel)
set_option maxRecDepth 100000 in
theorem mw_389 : Cond.selects R_Ns y_Ns_settle y_Ns_settle ∈ lw_g := lw_gin (List.mem_append_right _ (List.mem_of_getElem? (i := 761) rfl)) (by decide +kernel)
theorem d_Wr_writeNewFiles_0 : decode b_Wr_writeNewFiles 0 = .ok (.iconst 0, 1) := by decide +kernel
theorem d_Wr_writeNewFiles_1 : decode b_Wr_writeNewFiles 1 = .ok (.istore_n 3, 1) := by decide +kernel
theorem d_Wr_writeNewFiles_2 : decode b_Wr_writeNewFiles 2 = .ok (.iload_n 3, 1) := by decide +kernel
theorem d_Wr_writeNewFiles_3 : decode b_Wr_writeNewFiles 3 = .ok (.aload_n 1, 1) := by decide +kernel
theorem d_Wr_writeNewFiles_4 : decode b_Wr_writeNewFiles 4 = .ok (.getfield 27, 3) := by decide +kernel
theorem d_Wr_writeNewFiles_7 : decode b_Wr_writeNewFiles 7 = .ok (.if_icmp .ge 68, 3) := by decide +kernel
theorem d_Wr_writeNewFiles_10 : decode b_Wr_writeNewFiles 10 = .ok (.aload_n 1, 1) := by decide +kernel
theorem d_Wr_writeNewFiles_11 : decode b_Wr_writeNewFiles 11 = .ok (.getfield 33, 3) := by decide +kernel
theorem d_Wr_writeNewFiles_14 : decode b_Wr_writeNewFiles 14 = .ok (.iload_n 3, 1) := by decide +kernel
theorem d_Wr_writeNewFiles_15 : decode b_Wr_writeNewFiles 15 = .ok (.aaload, 1) := by decide +kernel
theorem d_Wr_writeNewFiles_16 : decode b_Wr_writeNewFiles 16 = .ok (.astore 4, 2) := by decide +kernel
theorem d_Wr_writeNewFiles_18 : decode b_Wr_writeNewFiles 18 = .ok (.aload 4, 2) := by decide +kernel
theorem d_Wr_writeNewFiles_20 : decode b_Wr_writeNewFiles 20 = .ok (.invokevirtual 37, 3) := by decide +kernel
theorem d_Wr_writeNewFiles_23 : decode b_Wr_writeNewFiles 23 = .ok (.ifCond .eq 36, 3) := by decide +kernel
theorem d_Wr_writeNewFiles_59 : decode b_Wr_writeNewFiles 59 = .ok (.aload 4, 2) := by decide +kernel
theorem d_Wr_writeNewFiles_61 : decode b_Wr_writeNewFiles 61 = .ok (.aload 4, 2) := by decide +kernel
theorem d_Wr_writeNewFiles_63 : decode b_Wr_writeNewFiles 63 = .ok (.getfield 54, 3) := by decide +kernel
theorem d_Wr_writeNewFiles_66 : decode b_Wr_writeNewFiles 66 = .ok (.putfield 57, 3) := by decide +kernel
theorem d_Wr_writeNewFiles_69 : decode b_Wr_writeNewFiles 69 = .ok (.iinc 3 1, 3) := by decide +kernel
theorem d_Wr_writeNewFiles_72 : decode b_Wr_writeNewFiles 72 = .ok (.goto (-70), 3) := by decide +kernel
theorem d_Wr_writeNewFiles_75 : decode b_Wr_writeNewFiles 75 = .ok (.iconst 1, 1) := by decide +kernel
theorem d_Wr_writeNewFiles_76 : decode b_Wr_writeNewFiles 76 = .ok (.ireturn, 1) := by decide +kernel
theorem d_Wr_writeAllFiles_0 : decode b_Wr_writeAllFiles 0 = .ok (.iconst 0, 1) := by decide +kernel
theorem d_Wr_writeAllFiles_1 : decode b_Wr_writeAllFiles 1 = .ok (.istore 4, 2) := by decide +kernel
theorem d_Wr_writeAllFiles_3 : decode b_Wr_writeAllFiles 3 = .ok (.iload 4, 2) := by decide +kernel
theorem d_Wr_writeAllFiles_5 : decode b_Wr_writeAllFiles 5 = .ok (.aload_n 1, 1) := by decide +kernel
theorem d_Wr_writeAllFiles_6 : decode b_Wr_writeAllFiles 6 = .ok (.getfield 27, 3) := by decide +kernel
theorem d_Wr_writeAllFiles_9 : decode b_Wr_writeAllFiles 9 = .ok (.if_icmp .ge 55, 3) := by decide +kernel
theorem d_Wr_writeAllFiles_12 : decode b_Wr_writeAllFiles 12 = .ok (.aload_n 1, 1) := by decide +kernel
theorem d_Wr_writeAllFiles_13 : decode b_Wr_writeAllFiles 13 = .ok (.getfield 33, 3) := by decide +kernel
theorem d_Wr_writeAllFiles_16 : decode b_Wr_writeAllFiles 16 = .ok (.iload 4, 2) := by decide +kernel
theorem d_Wr_writeAllFiles_18 : decode b_Wr_writeAllFiles 18 = .ok (.aaload, 1) := by decide +kernel
theorem d_Wr_writeAllFiles_19 : decode b_Wr_writeAllFiles 19 = .ok (.astore 5, 2) := by decide +kernel
theorem d_Wr_writeAllFiles_21 : decode b_Wr_writeAllFiles 21 = .ok (.aload 5, 2) := by decide +kernel
theorem d_Wr_writeAllFiles_23 : decode b_Wr_writeAllFiles 23 = .ok (.invokevirtual 37, 3) := by decide +kernel
theorem d_Wr_writeAllFiles_26 : decode b_Wr_writeAllFiles 26 = .ok (.ifCond .eq 14, 3) := by decide +kernel
theorem d_Wr_writeAllFiles_40 : decode b_Wr_writeAllFiles 40 = .ok (.iconst 0, 1) := by decide +kernel
theorem d_Wr_writeAllFiles_41 : decode b_Wr_writeAllFiles 41 = .ok (.istore 6, 2) := by decide +kernel
theorem d_Wr_writeAllFiles_43 : decode b_Wr_writeAllFiles 43 = .ok (.iload 6, 2) := by decide +kernel
theorem d_Wr_writeAllFiles_45 : decode b_Wr_writeAllFiles 45 = .ok (.ifCond .ge 6, 3) := by decide +kernel
theorem d_Wr_writeAllFiles_51 : decode b_Wr_writeAllFiles 51 = .ok (.aload 5, 2) := by decide +kernel
theorem d_Wr_writeAllFiles_53 : decode b_Wr_writeAllFiles 53 = .ok (.iload 6, 2) := by decide +kernel
theorem d_Wr_writeAllFiles_55 : decode b_Wr_writeAllFiles 55 = .ok (.putfield 57, 3) := by decide +kernel
theorem d_Wr_writeAllFiles_58 : decode b_Wr_writeAllFiles 58 = .ok (.iinc 4 1, 3) := by decide +kernel
theorem d_Wr_writeAllFiles_61 : decode b_Wr_writeAllFiles 61 = .ok (.goto (-58), 3) := by decide +kernel
theorem d_Wr_writeAllFiles_64 : decode b_Wr_writeAllFiles 64 = .ok (.iconst 1, 1) := by decide +kernel
theorem d_Wr_writeAllFiles_65 : decode b_Wr_writeAllFiles 65 = .ok (.ireturn, 1) := by decide +kernel
theorem d_Di_commit_0 : decode b_Di_commit 0 = .ok (.aload_n 0, 1) := by decide +kernel
theorem d_Di_commit_1 : decode b_Di_commit 1 = .ok (.getfield 10, 3) := by decide +kernel
theorem d_Di_commit_4 : decode b_Di_commit 4 = .ok (.getfield 60, 3) := by decide +kernel
theorem d_Di_commit_7 : decode b_Di_commit 7 = .ok (.getfield 69, 3) := by decide +kernel
theorem d_Di_commit_10 : decode b_Di_commit 10 = .ok (.ifCond .eq 6, 3) := by decide +kernel
theorem d_Di_commit_16 : decode b_Di_commit 16 = .ok (.aload_n 0, 1) := by decide +kernel
theorem d_Di_commit_17 : decode b_Di_commit 17 = .ok (.getfield 10, 3) := by decide +kernel
theorem d_Di_commit_20 : decode b_Di_commit 20 = .ok (.aload_n 0, 1) := by decide +kernel
theorem d_Di_commit_21 : decode b_Di_commit 21 = .ok (.getfield 26, 3) := by decide +kernel
theorem d_Di_commit_24 : decode b_Di_commit 24 = .ok (.aload_n 0, 1) := by decide +kernel
theorem d_Di_commit_25 : decode b_Di_commit 25 = .ok (.getfield 53, 3) := by decide +kernel
theorem d_Di_commit_28 : decode b_Di_commit 28 = .ok (.invokevirtual 131, 3) := by decide +kernel
theorem d_Di_commit_31 : decode b_Di_commit 31 = .ok (.istore_n 1, 1) := by decide +kernel
theorem d_Di_commit_32 : decode b_Di_commit 32 = .ok (.iload_n 1, 1) := by decide +kernel
theorem d_Di_commit_33 : decode b_Di_commit 33 = .ok (.iconst 1, 1) := by decide +kernel
theorem d_Di_commit_34 : decode b_Di_commit 34 = .ok (.if_icmp .ne 25, 3) := by decide +kernel
theorem d_Di_commit_37 : decode b_Di_commit 37 = .ok (.aload_n 0, 1) := by decide +kernel
theorem d_Di_commit_38 : decode b_Di_commit 38 = .ok (.getfield 10, 3) := by decide +kernel
theorem d_Di_commit_41 : decode b_Di_commit 41 = .ok (.aload_n 0, 1) := by decide +kernel
theorem d_Di_commit_42 : decode b_Di_commit 42 = .ok (.getfield 26, 3) := by decide +kernel
theorem d_Di_commit_45 : decode b_Di_commit 45 = .ok (.aload_n 0, 1) := by decide +kernel
theorem d_Di_commit_46 : decode b_Di_commit 46 = .ok (.getfield 53, 3) := by decide +kernel
theorem d_Di_commit_49 : decode b_Di_commit 49 = .ok (.aload_n 0, 1) := by decide +kernel
theorem d_Di_commit_50 : decode b_Di_commit 50 = .ok (.getfield 34, 3) := by decide +kernel
theorem d_Di_commit_53 : decode b_Di_commit 53 = .ok (.iconst 1, 1) := by decide +kernel
theorem d_Di_commit_54 : decode b_Di_commit 54 = .ok (.iadd, 1) := by decide +kernel
theorem d_Di_commit_55 : decode b_Di_commit 55 = .ok (.invokevirtual 135, 3) := by decide +kernel
theorem d_Di_commit_58 : decode b_Di_commit 58 = .ok (.istore_n 1, 1) := by decide +kernel
theorem d_Di_commit_59 : decode b_Di_commit 59 = .ok (.iload_n 1, 1) := by decide +kernel
theorem d_Di_commit_60 : decode b_Di_commit 60 = .ok (.iconst 1, 1) := by decide +kernel
theorem d_Di_commit_61 : decode b_Di_commit 61 = .ok (.if_icmp .eq 5, 3) := by decide +kernel
theorem d_Di_commit_66 : decode b_Di_commit 66 = .ok (.aload_n 0, 1) := by decide +kernel
theorem d_Di_commit_67 : decode b_Di_commit 67 = .ok (.dup, 1) := by decide +kernel
theorem d_Di_commit_68 : decode b_Di_commit 68 = .ok (.getfield 34, 3) := by decide +kernel
theorem d_Di_commit_71 : decode b_Di_commit 71 = .ok (.iconst 1, 1) := by decide +kernel
theorem d_Di_commit_72 : decode b_Di_commit 72 = .ok (.iadd, 1) := by decide +kernel
theorem d_Di_commit_73 : decode b_Di_commit 73 = .ok (.putfield 34, 3) := by decide +kernel
theorem d_Di_commit_76 : decode b_Di_commit 76 = .ok (.aload_n 0, 1) := by decide +kernel
theorem d_Di_commit_77 : decode b_Di_commit 77 = .ok (.getfield 34, 3) := by decide +kernel
theorem d_Di_commit_80 : decode b_Di_commit 80 = .ok (.ireturn, 1) := by decide +kernel
theorem d_Ns_becomeRootAlone_0 : decode b_Ns_becomeRootAlone 0 = .ok (.aload_n 0, 1) := by decide +kernel
theorem d_Ns_becomeRootAlone_1 : decode b_Ns_becomeRootAlone 1 = .ok (.iconst 0, 1) := by decide +kernel
theorem d_Ns_becomeRootAlone_2 : decode b_Ns_becomeRootAlone 2 = .ok (.putfield 20, 3) := by decide +kernel
theorem d_Ns_becomeRootAlone_5 : decode b_Ns_becomeRootAlone 5 = .ok (.aload_n 0, 1) := by decide +kernel
theorem d_Ns_becomeRootAlone_6 : decode b_Ns_becomeRootAlone 6 = .ok (.iconst 0, 1) := by decide +kernel
theorem d_Ns_becomeRootAlone_7 : decode b_Ns_becomeRootAlone 7 = .ok (.putfield 24, 3) := by decide +kernel
theorem d_Ns_becomeRootAlone_10 : decode b_Ns_becomeRootAlone 10 = .ok (.aload_n 0, 1) := by decide +kernel
theorem d_Ns_becomeRootAlone_11 : decode b_Ns_becomeRootAlone 11 = .ok (.invokevirtual 28, 3) := by decide +kernel
theorem d_Ns_becomeRootAlone_14 : decode b_Ns_becomeRootAlone 14 = .ok (.astore_n 1, 1) := by decide +kernel
theorem d_Ns_becomeRootAlone_15 : decode b_Ns_becomeRootAlone 15 = .ok (.aload_n 1, 1) := by decide +kernel
theorem d_Ns_becomeRootAlone_16 : decode b_Ns_becomeRootAlone 16 = .ok (.ifnull 10, 3) := by decide +kernel
theorem d_Ns_becomeRootAlone_19 : decode b_Ns_becomeRootAlone 19 = .ok (.aload_n 1, 1) := by decide +kernel
theorem d_Ns_becomeRootAlone_20 : decode b_Ns_becomeRootAlone 20 = .ok (.aconst_null, 1) := by decide +kernel
theorem d_Ns_becomeRootAlone_21 : decode b_Ns_becomeRootAlone 21 = .ok (.iconst 1, 1) := by decide +kernel
theorem d_Ns_becomeRootAlone_22 : decode b_Ns_becomeRootAlone 22 = .ok (.lconst 0, 1) := by decide +kernel
theorem d_Ns_becomeRootAlone_23 : decode b_Ns_becomeRootAlone 23 = .ok (.invokevirtual 32, 3) := by decide +kernel
theorem d_Ns_becomeRootAlone_26 : decode b_Ns_becomeRootAlone 26 = .ok (.return_, 1) := by decide +kernel
theorem d_Po_comeBack_0 : decode b_Po_comeBack 0 = .ok (.aload_n 0, 1) := by decide +kernel
theorem d_Po_comeBack_1 : decode b_Po_comeBack 1 = .ok (.getfield 15, 3) := by decide +kernel
theorem d_Po_comeBack_4 : decode b_Po_comeBack 4 = .ok (.ifCond .eq 8, 3) := by decide +kernel
theorem d_Po_comeBack_12 : decode b_Po_comeBack 12 = .ok (.aload_n 0, 1) := by decide +kernel
theorem d_Po_comeBack_13 : decode b_Po_comeBack 13 = .ok (.iconst 0, 1) := by decide +kernel
theorem d_Po_comeBack_14 : decode b_Po_comeBack 14 = .ok (.putfield 15, 3) := by decide +kernel
theorem d_Po_comeBack_17 : decode b_Po_comeBack 17 = .ok (.return_, 1) := by decide +kernel
theorem d_Di_discover_0 : decode b_Di_discover 0 = .ok (.iconst 0, 1) := by decide +kernel
theorem d_Di_discover_1 : decode b_Di_discover 1 = .ok (.istore_n 1, 1) := by decide +kernel
theorem d_Di_discover_2 : decode b_Di_discover 2 = .ok (.aload_n 0, 1) := by decide +kernel
theorem d_Di_discover_3 : decode b_Di_discover 3 = .ok (.getfield 26, 3) := by decide +kernel
theorem d_Di_discover_6 : decode b_Di_discover 6 = .ok (.invokevirtual 139, 3) := by decide +kernel
theorem d_Di_discover_9 : decode b_Di_discover 9 = .ok (.aload_n 0, 1) := by decide +kernel
theorem d_Di_discover_10 : decode b_Di_discover 10 = .ok (.iconst 0, 1) := by decide +kernel
theorem d_Di_discover_11 : decode b_Di_discover 11 = .ok (.putfield 34, 3) := by decide +kernel
theorem d_Di_discover_14 : decode b_Di_discover 14 = .ok (.iconst 0, 1) := by decide +kernel
theorem d_Di_discover_15 : decode b_Di_discover 15 = .ok (.istore_n 2, 1) := by decide +kernel
theorem d_Di_discover_16 : decode b_Di_discover 16 = .ok (.iload_n 2, 1) := by decide +kernel
theorem d_Di_discover_17 : decode b_Di_discover 17 = .ok (.aload_n 0, 1) := by decide +kernel
theorem d_Di_discover_18 : decode b_Di_discover 18 = .ok (.getfield 53, 3) := by decide +kernel
theorem d_Di_discover_21 : decode b_Di_discover 21 = .ok (.getfield 142, 3) := by decide +kernel
theorem d_Di_discover_24 : decode b_Di_discover 24 = .ok (.if_icmp .ge 72, 3) := by decide +kernel
theorem d_Di_discover_96 : decode b_Di_discover 96 = .ok (.aload_n 0, 1) := by decide +kernel
theorem d_Di_discover_97 : decode b_Di_discover 97 = .ok (.getfield 10, 3) := by decide +kernel
theorem d_Di_discover_100 : decode b_Di_discover 100 = .ok (.getfield 60, 3) := by decide +kernel
theorem d_Di_discover_103 : decode b_Di_discover 103 = .ok (.invokevirtual 163, 3) := by decide +kernel
theorem d_Di_discover_106 : decode b_Di_discover 106 = .ok (.iload_n 1, 1) := by decide +kernel
theorem d_Di_discover_107 : decode b_Di_discover 107 = .ok (.ireturn, 1) := by decide +kernel
theorem d_Se_erase_0 : decode b_Se_erase 0 = .ok (.aload_n 0, 1) := by decide +kernel
theorem d_Se_erase_1 : decode b_Se_erase 1 = .ok (.iconst 0, 1) := by decide +kernel
theorem d_Se_erase_2 : decode b_Se_erase 2 = .ok (.putfield 9, 3) := by decide +kernel
theorem d_Se_erase_5 : decode b_Se_erase 5 = .ok (.aload_n 0, 1) := by decide +kernel
theorem d_Se_erase_6 : decode b_Se_erase 6 = .ok (.iconst 0, 1) := by decide +kernel
theorem d_Se_erase_7 : decode b_Se_erase 7 = .ok (.putfield 15, 3) := by decide +kernel
theorem d_Se_erase_10 : decode b_Se_erase 10 = .ok (.return_, 1) := by decide +kernel
theorem d_Me_erase_0 : decode b_Me_erase 0 = .ok (.iconst 0, 1) := by decide +kernel
theorem d_Me_erase_1 : decode b_Me_erase 1 = .ok (.istore_n 1, 1) := by decide +kernel
theorem d_Me_erase_2 : decode b_Me_erase 2 = .ok (.iload_n 1, 1) := by decide +kernel
theorem d_Me_erase_3 : decode b_Me_erase 3 = .ok (.aload_n 0, 1) := by decide +kernel
theorem d_Me_erase_4 : decode b_Me_erase 4 = .ok (.getfield 17, 3) := by decide +kernel
theorem d_Me_erase_7 : decode b_Me_erase 7 = .ok (.arraylength, 1) := by decide +kernel
theorem d_Me_erase_8 : decode b_Me_erase 8 = .ok (.if_icmp .ge 18, 3) := by decide +kernel
theorem d_Me_erase_26 : decode b_Me_erase 26 = .ok (.aload_n 0, 1) := by decide +kernel
theorem d_Me_erase_27 : decode b_Me_erase 27 = .ok (.iconst 0, 1) := by decide +kernel
theorem d_Me_erase_28 : decode b_Me_erase 28 = .ok (.putfield 9, 3) := by decide +kernel
theorem d_Me_erase_31 : decode b_Me_erase 31 = .ok (.return_, 1) := by decide +kernel
theorem d_Me_erase_11 : decode b_Me_erase 11 = .ok (.aload_n 0, 1) := by decide +kernel
theorem d_Me_erase_12 : decode b_Me_erase 12 = .ok (.getfield 17, 3) := by decide +kernel
theorem d_Me_erase_15 : decode b_Me_erase 15 = .ok (.iload_n 1, 1) := by decide +kernel
theorem d_Me_erase_16 : decode b_Me_erase 16 = .ok (.aaload, 1) := by decide +kernel
theorem d_Me_erase_17 : decode b_Me_erase 17 = .ok (.invokevirtual 22, 3) := by decide +kernel
theorem d_Me_erase_20 : decode b_Me_erase 20 = .ok (.iinc 1 1, 3) := by decide +kernel
theorem d_Me_erase_23 : decode b_Me_erase 23 = .ok (.goto (-21), 3) := by decide +kernel
theorem d_Ns_settle_0 : decode b_Ns_settle 0 = .ok (.iconst 0, 1) := by decide +kernel
theorem d_Ns_settle_1 : decode b_Ns_settle 1 = .ok (.istore_n 1, 1) := by decide +kernel
theorem d_Ns_settle_2 : decode b_Ns_settle 2 = .ok (.iload_n 1, 1) := by decide +kernel
theorem d_Ns_settle_3 : decode b_Ns_settle 3 = .ok (.aload_n 0, 1) := by decide +kernel
theorem d_Ns_settle_4 : decode b_Ns_settle 4 = .ok (.getfield 20, 3) := by decide +kernel
theorem d_Ns_settle_7 : decode b_Ns_settle 7 = .ok (.if_icmp .ge 39, 3) := by decide +kernel
theorem d_Ns_settle_10 : decode b_Ns_settle 10 = .ok (.aload_n 0, 1) := by decide +kernel
theorem d_Ns_settle_11 : decode b_Ns_settle 11 = .ok (.getfield 11, 3) := by decide +kernel
theorem d_Ns_settle_14 : decode b_Ns_settle 14 = .ok (.iload_n 1, 1) := by decide +kernel
theorem d_Ns_settle_15 : decode b_Ns_settle 15 = .ok (.aaload, 1) := by decide +kernel
theorem d_Ns_settle_16 : decode b_Ns_settle 16 = .ok (.getfield 58, 3) := by decide +kernel
theorem d_Ns_settle_19 : decode b_Ns_settle 19 = .ok (.ifCond .ne 21, 3) := by decide +kernel
theorem d_Ns_settle_40 : decode b_Ns_settle 40 = .ok (.iinc 1 1, 3) := by decide +kernel
theorem d_Ns_settle_43 : decode b_Ns_settle 43 = .ok (.goto (-41), 3) := by decide +kernel
theorem d_Ns_settle_46 : decode b_Ns_settle 46 = .ok (.return_, 1) := by decide +kernel
theorem d_Di_compact_0 : decode b_Di_compact 0 = .ok (.aload_n 0, 1) := by decide +kernel
theorem d_Di_compact_1 : decode b_Di_compact 1 = .ok (.getfield 10, 3) := by decide +kernel
theorem d_Di_compact_4 : decode b_Di_compact 4 = .ok (.getfield 60, 3) := by decide +kernel
theorem d_Di_compact_7 : decode b_Di_compact 7 = .ok (.getfield 69, 3) := by decide +kernel
theorem d_Di_compact_10 : decode b_Di_compact 10 = .ok (.ifCond .eq 6, 3) := by decide +kernel
theorem d_Di_compact_16 : decode b_Di_compact 16 = .ok (.aload_n 0, 1) := by decide +kernel
theorem d_Di_compact_17 : decode b_Di_compact 17 = .ok (.getfield 30, 3) := by decide +kernel
theorem d_Di_compact_20 : decode b_Di_compact 20 = .ok (.ifnonnull 22, 3) := by decide +kernel
theorem d_Di_compact_23 : decode b_Di_compact 23 = .ok (.aload_n 0, 1) := by decide +kernel
theorem d_Di_compact_24 : decode b_Di_compact 24 = .ok (.new 48, 3) := by decide +kernel
theorem d_Di_compact_27 : decode b_Di_compact 27 = .ok (.dup, 1) := by decide +kernel
theorem d_Di_compact_28 : decode b_Di_compact 28 = .ok (.aload_n 0, 1) := by decide +kernel
theorem d_Di_compact_29 : decode b_Di_compact 29 = .ok (.getfield 53, 3) := by decide +kernel
theorem d_Di_compact_32 : decode b_Di_compact 32 = .ok (.getfield 166, 3) := by decide +kernel
theorem d_Di_compact_35 : decode b_Di_compact 35 = .ok (.arraylength, 1) := by decide +kernel
theorem d_Di_compact_36 : decode b_Di_compact 36 = .ok (.invokespecial 50, 3) := by decide +kernel
theorem d_Di_compact_39 : decode b_Di_compact 39 = .ok (.putfield 30, 3) := by decide +kernel
theorem d_Di_compact_42 : decode b_Di_compact 42 = .ok (.aload_n 0, 1) := by decide +kernel
theorem d_Di_compact_43 : decode b_Di_compact 43 = .ok (.getfield 30, 3) := by decide +kernel
theorem d_Di_compact_46 : decode b_Di_compact 46 = .ok (.invokevirtual 170, 3) := by decide +kernel
theorem d_Di_compact_49 : decode b_Di_compact 49 = .ok (.aload_n 0, 1) := by decide +kernel
theorem d_Di_compact_50 : decode b_Di_compact 50 = .ok (.getfield 10, 3) := by decide +kernel
theorem d_Di_compact_53 : decode b_Di_compact 53 = .ok (.aload_n 0, 1) := by decide +kernel
theorem d_Di_compact_54 : decode b_Di_compact 54 = .ok (.getfield 26, 3) := by decide +kernel
theorem d_Di_compact_57 : decode b_Di_compact 57 = .ok (.aload_n 0, 1) := by decide +kernel
theorem d_Di_compact_58 : decode b_Di_compact 58 = .ok (.getfield 53, 3) := by decide +kernel
theorem d_Di_compact_61 : decode b_Di_compact 61 = .ok (.aload_n 0, 1) := by decide +kernel
theorem d_Di_compact_62 : decode b_Di_compact 62 = .ok (.getfield 30, 3) := by decide +kernel
theorem d_Di_compact_65 : decode b_Di_compact 65 = .ok (.invokevirtual 173, 3) := by decide +kernel
theorem d_Di_compact_68 : decode b_Di_compact 68 = .ok (.istore_n 1, 1) := by decide +kernel
theorem d_Di_compact_69 : decode b_Di_compact 69 = .ok (.iload_n 1, 1) := by decide +kernel
theorem d_Di_compact_70 : decode b_Di_compact 70 = .ok (.iconst 1, 1) := by decide +kernel
theorem d_Di_compact_71 : decode b_Di_compact 71 = .ok (.if_icmp .ne 20, 3) := by decide +kernel
theorem d_Di_compact_74 : decode b_Di_compact 74 = .ok (.aload_n 0, 1) := by decide +kernel
theorem d_Di_compact_75 : decode b_Di_compact 75 = .ok (.getfield 10, 3) := by decide +kernel
theorem d_Di_compact_78 : decode b_Di_compact 78 = .ok (.aload_n 0, 1) := by decide +kernel
theorem d_Di_compact_79 : decode b_Di_compact 79 = .ok (.getfield 26, 3) := by decide +kernel
theorem d_Di_compact_82 : decode b_Di_compact 82 = .ok (.aload_n 0, 1) := by decide +kernel
theorem d_Di_compact_83 : decode b_Di_compact 83 = .ok (.getfield 30, 3) := by decide +kernel
theorem d_Di_compact_86 : decode b_Di_compact 86 = .ok (.iconst 1, 1) := by decide +kernel
theorem d_Di_compact_87 : decode b_Di_compact 87 = .ok (.invokevirtual 135, 3) := by decide +kernel
theorem d_Di_compact_90 : decode b_Di_compact 90 = .ok (.istore_n 1, 1) := by decide +kernel
theorem d_Di_compact_91 : decode b_Di_compact 91 = .ok (.iload_n 1, 1) := by decide +kernel
theorem d_Di_compact_92 : decode b_Di_compact 92 = .ok (.iconst 1, 1) := by decide +kernel
theorem d_Di_compact_93 : decode b_Di_compact 93 = .ok (.if_icmp .eq 5, 3) := by decide +kernel
theorem d_Di_compact_98 : decode b_Di_compact 98 = .ok (.aload_n 0, 1) := by decide +kernel
theorem d_Di_compact_99 : decode b_Di_compact 99 = .ok (.getfield 53, 3) := by decide +kernel
theorem d_Di_compact_102 : decode b_Di_compact 102 = .ok (.astore_n 2, 1) := by decide +kernel
theorem d_Di_compact_103 : decode b_Di_compact 103 = .ok (.aload_n 0, 1) := by decide +kernel
theorem d_Di_compact_104 : decode b_Di_compact 104 = .ok (.aload_n 0, 1) := by decide +kernel
theorem d_Di_compact_105 : decode b_Di_compact 105 = .ok (.getfield 30, 3) := by decide +kernel
theorem d_Di_compact_108 : decode b_Di_compact 108 = .ok (.putfield 53, 3) := by decide +kernel
theorem d_Di_compact_111 : decode b_Di_compact 111 = .ok (.aload_n 0, 1) := by decide +kernel
theorem d_Di_compact_112 : decode b_Di_compact 112 = .ok (.aload_n 2, 1) := by decide +kernel
theorem d_Di_compact_113 : decode b_Di_compact 113 = .ok (.putfield 30, 3) := by decide +kernel
theorem d_Di_compact_116 : decode b_Di_compact 116 = .ok (.aload_n 0, 1) := by decide +kernel
theorem d_Di_compact_117 : decode b_Di_compact 117 = .ok (.getfield 26, 3) := by decide +kernel
theorem d_Di_compact_120 : decode b_Di_compact 120 = .ok (.invokevirtual 177, 3) := by decide +kernel
theorem d_Di_compact_123 : decode b_Di_compact 123 = .ok (.aload_n 0, 1) := by decide +kernel
theorem d_Di_compact_124 : decode b_Di_compact 124 = .ok (.iconst 0, 1) := by decide +kernel
theorem d_Di_compact_125 : decode b_Di_compact 125 = .ok (.putfield 38, 3) := by decide +kernel
theorem d_Di_compact_128 : decode b_Di_compact 128 = .ok (.aload_n 0, 1) := by decide +kernel
theorem d_Di_compact_129 : decode b_Di_compact 129 = .ok (.iconst 1, 1) := by decide +kernel
theorem d_Di_compact_130 : decode b_Di_compact 130 = .ok (.putfield 34, 3) := by decide +kernel
theorem d_Di_compact_133 : decode b_Di_compact 133 = .ok (.aload_n 0, 1) := by decide +kernel
theorem d_Di_compact_134 : decode b_Di_compact 134 = .ok (.getfield 34, 3) := by decide +kernel
theorem d_Di_compact_137 : decode b_Di_compact 137 = .ok (.ireturn, 1) := by decide +kernel
theorem kp_same {a : Nat} {h h1 h2 : hM} {e : va_E} (k : kp [] h h1) (ha : h1 a = some e) (k2 : kp [a] h1 h2) (h3 : h2 a = some e) : kp [] h h2 := fun b f hb _ => by
  have h4 := k b f hb nm0
  by_cases q : b = a
  · rw [q] at h4 ⊢
    rw [ha] at h4
    rw [h3]
    exact h4
  · exact k2 b f h4 (nmc q nm0)

set_option maxHeartbeats 4000000 in
set_option maxRecDepth 100000 in
theorem c_Writer_newFiles (l : Launch) (D : va_G) (t : Nat → ClassId) (G : hG) (ak av : Nat → Nat) (h : hM) (wr ns sl od rt md md2 : Nat) (fs : Nat → Option Nat) (f_ns : h ns = some (.inr (2, [.ref sl, .ref od, .int 1, .int 1]))) (f_sl : h sl = some (.inl ((t 4), 30, .inr (.inr (.inr (.inr fs)))))) (f_rt : h rt = some (.inr (1, [.int 0, .null, .int 1, .long 0, .int 0, .int 0, .int 0, .int 0, .int 0, .int 0, .int 1]))) (hf0 : fs 0 = some rt) : Met l y_Wr_writeNewFiles (.code y_Wr_writeNewFiles b_Wr_writeNewFiles 6 (some .int) :: lw_g) { frames := 1, cells := 0, slots := 0, locals := 20 } (hP (kE D t G ak av) D vwCl G h [.ref wr, .ref ns, .ref md]) (hQi D vwCl G (fun r h' => r = 1 ∧ kp [rt] h h' ∧ h' rt = some (.inr (1, [.int 0, .null, .int 1, .long 0, .int 0, .int 0, .int 0, .int 0, .int 0, .int 0, .int 1])))) 0 0 G.P := by
  refine Met.ofW (cc := b_Wr_writeNewFiles) (maxL := 6) (ret := (some .int)) (by decide) rfl ?_
  intro p e s m args below meth c s₁ Bd hml hv
  obtain ⟨ha, hE, hH⟩ := hv
  have hx := Bd.exec
  have hb := Bd.bytes
  have hr := Bd.returns
  have hts : ∀ w ∈ lw_g, w.before args s = true := fun w hw => atoms_spec (ws := (.code y_Wr_writeNewFiles b_Wr_writeNewFiles 6 (some .int) :: lw_g)) Bd.pre w (List.mem_cons_of_mem _ hw)
  have hown : s.vm.findClass R_Wr = some m.cls := findClass_of_methodNamed Bd.named
  have hlocks := Bd.notSynchronized
  have hK := hE.1
  have hH0 := hH
  have hLo : hLc G.P [] := hLc_nil
  have hz : s.heap.size ≤ s.heap.size := Nat.le_refl _
  have hkp : kp [rt] h h := kp_rf
  have hl := lv_entry [.ref wr, .ref ns, .ref md] (n := 6) (Nat.le_of_ble_eq_true rfl)
  rw [show entryFrame m args 6 = F0 m 0 ((lg_sl [.ref wr, .ref ns, .ref md] ++ List.replicate (6 - (lg_sl [.ref wr, .ref ns, .ref md]).length) Slot.unset).toArray) [] from (by rw [ha]; exact lg_entry_eq m [.ref wr, .ref ns, .ref md] 6)]
  generalize (lg_sl [.ref wr, .ref ns, .ref md] ++ List.replicate (6 - (lg_sl [.ref wr, .ref ns, .ref md]).length) Slot.unset).toArray = ls at hl ⊢
  have hl : lv_has ls 6 [(0, .ref wr), (1, .ref ns), (2, .ref md)] := hl
  refine lv_iconst (v := 0) hx hb d_Wr_writeNewFiles_0 (by decide) ?_
  refine lv_istore_n (lv' := [(3, .int 0), (0, .ref wr), (1, .ref ns), (2, .ref md)]) hx hb d_Wr_writeNewFiles_1 rfl hl (by decide) rfl (fun ls hl => ?_)
  refine lv_iload_n hx hb d_Wr_writeNewFiles_2 rfl (lv_at hl 0 rfl) ?_
  refine lv_aload_n hx hb d_Wr_writeNewFiles_3 rfl (lv_at hl 2 rfl) ?_
  refine hm_get (ci := 2) (v := .int 1) (C := R_Ns) (T := F_Ns) (N := 4) hx hb hts ig_Ns hown hK hH f_ns rfl 2 (by decide) (hts _ mw_180) (fun _ h9 => h9) rfl d_Wr_writeNewFiles_4 ?_
  refine lv_icmp_ge (tgt := 75) hx hb d_Wr_writeNewFiles_7 (by decide) (fun hc1 => absurd hc1 (by decide)) (fun hc1 => ?_)
  refine lv_aload_n hx hb d_Wr_writeNewFiles_10 rfl (lv_at hl 2 rfl) ?_
  refine hm_get (ci := 2) (v := .ref sl) (C := R_Ns) (T := F_Ns) (N := 4) hx hb hts ig_Ns hown hK hH f_ns rfl 0 (by decide) (hts _ mw_195) (fun _ h9 => h9) rfl d_Wr_writeNewFiles_11 ?_
  refine lv_iload_n hx hb d_Wr_writeNewFiles_14 rfl (lv_at hl 0 rfl) ?_
  refine hj_aald (v := .ref rt) hx hb hK hH 4 f_sl (C := R_No) rfl 0 (by decide) (by decide) (by decide) (by rw [hf0]; rfl) d_Wr_writeNewFiles_15 ?_
  refine lv_astore (lv' := [(4, .ref rt), (3, .int 0), (0, .ref wr), (1, .ref ns), (2, .ref md)]) hx hb d_Wr_writeNewFiles_16 hl (by decide) rfl (fun ls hl => ?_)
  refine lv_aload hx hb d_Wr_writeNewFiles_18 (lv_at hl 0 rfl) ?_
  refine hm_calli (va_runV (As := []) (b := rt) (rest := []) ⟨hx, hb, hml, hown, hts⟩ (c_Node_needs_root l D t G ak av h rt 0 1 f_rt) ⟨cw9B 0 hts mw_350 mw_351 mw_40 rfl rfl (by decide +kernel) ⟨Nat.le_of_ble_eq_true rfl, Nat.le_of_ble_eq_true rfl⟩, hts _ mw_352, hts _ mw_353⟩ (hP_V (q := (R_No, F_No, 11)) kE_ok hE hK hH f_rt rfl) rfl rfl hl.1 rfl (lv_room (Nat.le_of_ble_eq_true rfl)) d_Wr_writeNewFiles_20 ⟨Nat.le_of_ble_eq_true rfl, Nat.le_of_ble_eq_true rfl⟩) hLo (fun r2 h3 H4 locs hp6 hH z5 hLo => ?_)
  have hz : s.heap.size ≤ H4.size := Nat.le_trans hz z5
  obtain ⟨rfl, rfl⟩ := hp6
  refine lv_if_eq (tgt := 59) hx hb d_Wr_writeNewFiles_23 (by decide) (fun hc7 => ?_) (fun hc7 => absurd rfl hc7)
  refine lv_aload hx hb d_Wr_writeNewFiles_59 (lv_at hl 0 rfl) ?_
  refine lv_aload hx hb d_Wr_writeNewFiles_61 (lv_at hl 0 rfl) ?_
  refine hm_get (ci := 1) (v := .int 0) (C := R_No) (T := F_No) (N := 11) hx hb hts ig_No hown hK hH f_rt rfl 8 (by decide) (hts _ mw_354) (fun _ h9 => h9) rfl d_Wr_writeNewFiles_63 ?_
  refine hm_put (ci := 1) (v := .int 0) (ty := .int) (C := R_No) (T := F_No) (N := 11) hx hb hts ig_No t_No tk_No nm_No hown hK hH hLo f_rt rfl 9 (by decide) (hts _ mw_183) (fun _ h9 => h9) rfl (by decide +kernel) rfl rfl (Nat.le_of_ble_eq_true rfl) d_Wr_writeNewFiles_66 (fun H8 locs hH z9 hLo => ?_)
  have hz : s.heap.size ≤ H8.size := by rw [z9]; exact hz
  obtain ⟨h10, e11⟩ : ∃ z, z = hu h rt (.inr (1, [.int 0, .null, .int 1, .long 0, .int 0, .int 0, .int 0, .int 0, .int 0, .int 0, .int 1])) := ⟨_, rfl⟩
  have hH : hm D vwCl G h10 H8 := by rw [e11]; exact hH
  have f_ns : h10 ns = some (.inr (2, [.ref sl, .ref od, .int 1, .int 1])) := by rw [e11, hu_n (h_neC f_ns f_rt (by decide))]; exact f_ns
  have f_sl : h10 sl = some (.inl ((t 4), 30, .inr (.inr (.inr (.inr fs))))) := by rw [e11, hu_n (h_neA f_sl f_rt)]; exact f_sl
  have f_rt : h10 rt = some (.inr (1, [.int 0, .null, .int 1, .long 0, .int 0, .int 0, .int 0, .int 0, .int 0, .int 0, .int 1])) := by rw [e11]; exact hu_s _ _ _
  have hkp : kp [rt] h h10 := by rw [e11]; exact kp_put hkp (by simp)
  refine lv_iinc (v := 0 + 1) (lv' := [(3, .int (0 + 1)), (4, .ref rt), (0, .ref wr), (1, .ref ns), (2, .ref md)]) hx hb d_Wr_writeNewFiles_69 hl (k := 1) rfl (by rfl) (by decide) rfl (fun ls hl => ?_)
  refine lv_goto (tgt := 2) hx hb d_Wr_writeNewFiles_72 (by decide) ?_
  refine lv_iload_n hx hb d_Wr_writeNewFiles_2 rfl (lv_at hl 0 rfl) ?_
  refine lv_aload_n hx hb d_Wr_writeNewFiles_3 rfl (lv_at hl 3 rfl) ?_
  refine hm_get (ci := 2) (v := .int 1) (C := R_Ns) (T := F_Ns) (N := 4) hx hb hts ig_Ns hown hK hH f_ns rfl 2 (by decide) (hts _ mw_180) (fun _ h9 => h9) rfl d_Wr_writeNewFiles_4 ?_
  refine lv_icmp_ge (tgt := 75) hx hb d_Wr_writeNewFiles_7 (by decide) (fun hc12 => ?_) (fun hc12 => absurd (by decide) hc12)
  refine lv_iconst (v := 1) hx hb d_Wr_writeNewFiles_75 (by decide) ?_
  exact W.iret (v := 1) hx hb hr (fun t9 ht hW => ⟨1, h10, rfl, ⟨rfl, hkp, f_rt⟩, by rw [ht]; exact hH, by rw [ht]; exact hz⟩) hLo d_Wr_writeNewFiles_76

set_option maxHeartbeats 4000000 in
set_option maxRecDepth 100000 in
theorem c_Writer_allFiles (l : Launch) (D : va_G) (t : Nat → ClassId) (G : hG) (ak av : Nat → Nat) (h : hM) (wr ns sl od rt md md2 : Nat) (fs : Nat → Option Nat) (f_ns : h ns = some (.inr (2, [.ref sl, .ref od, .int 1, .int 1]))) (f_sl : h sl = some (.inl ((t 4), 30, .inr (.inr (.inr (.inr fs)))))) (f_rt : h rt = some (.inr (1, [.int 0, .null, .int 1, .long 0, .int 0, .int 0, .int 0, .int 0, .int 0, .int 0, .int 1]))) (hf0 : fs 0 = some rt) : Met l y_Wr_writeAllFiles (.code y_Wr_writeAllFiles b_Wr_writeAllFiles 7 (some .int) :: lw_g) { frames := 1, cells := 0, slots := 0, locals := 20 } (hP (kE D t G ak av) D vwCl G h [.ref wr, .ref ns, .ref md, .ref md2]) (hQi D vwCl G (fun r h' => r = 1 ∧ kp [rt] h h' ∧ h' rt = some (.inr (1, [.int 0, .null, .int 1, .long 0, .int 0, .int 0, .int 0, .int 0, .int 0, .int 0, .int 1])))) 0 0 G.P := by
  refine Met.ofW (cc := b_Wr_writeAllFiles) (maxL := 7) (ret := (some .int)) (by decide) rfl ?_
  intro p e s m args below meth c s₁ Bd hml hv
  obtain ⟨ha, hE, hH⟩ := hv
  have hx := Bd.exec
  have hb := Bd.bytes
  have hr := Bd.returns
  have hts : ∀ w ∈ lw_g, w.before args s = true := fun w hw => atoms_spec (ws := (.code y_Wr_writeAllFiles b_Wr_writeAllFiles 7 (some .int) :: lw_g)) Bd.pre w (List.mem_cons_of_mem _ hw)
  have hown : s.vm.findClass R_Wr = some m.cls := findClass_of_methodNamed Bd.named
  have hlocks := Bd.notSynchronized
  have hK := hE.1
  have hH0 := hH
  have hLo : hLc G.P [] := hLc_nil
  have hz : s.heap.size ≤ s.heap.size := Nat.le_refl _
  have hkp : kp [rt] h h := kp_rf
  have hl := lv_entry [.ref wr, .ref ns, .ref md, .ref md2] (n := 7) (Nat.le_of_ble_eq_true rfl)
  rw [show entryFrame m args 7 = F0 m 0 ((lg_sl [.ref wr, .ref ns, .ref md, .ref md2] ++ List.replicate (7 - (lg_sl [.ref wr, .ref ns, .ref md, .ref md2]).length) Slot.unset).toArray) [] from (by rw [ha]; exact lg_entry_eq m [.ref wr, .ref ns, .ref md, .ref md2] 7)]
  generalize (lg_sl [.ref wr, .ref ns, .ref md, .ref md2] ++ List.replicate (7 - (lg_sl [.ref wr, .ref ns, .ref md, .ref md2]).length) Slot.unset).toArray = ls at hl ⊢
  have hl : lv_has ls 7 [(0, .ref wr), (1, .ref ns), (2, .ref md), (3, .ref md2)] := hl
  refine lv_iconst (v := 0) hx hb d_Wr_writeAllFiles_0 (by decide) ?_
  refine lv_istore (lv' := [(4, .int 0), (0, .ref wr), (1, .ref ns), (2, .ref md), (3, .ref md2)]) hx hb d_Wr_writeAllFiles_1 hl (by decide) rfl (fun ls hl => ?_)
  refine lv_iload hx hb d_Wr_writeAllFiles_3 (lv_at hl 0 rfl) ?_
  refine lv_aload_n hx hb d_Wr_writeAllFiles_5 rfl (lv_at hl 2 rfl) ?_
  refine hm_get (ci := 2) (v := .int 1) (C := R_Ns) (T := F_Ns) (N := 4) hx hb hts ig_Ns hown hK hH f_ns rfl 2 (by decide) (hts _ mw_180) (fun _ h9 => h9) rfl d_Wr_writeAllFiles_6 ?_
  refine lv_icmp_ge (tgt := 64) hx hb d_Wr_writeAllFiles_9 (by decide) (fun hc1 => absurd hc1 (by decide)) (fun hc1 => ?_)
  refine lv_aload_n hx hb d_Wr_writeAllFiles_12 rfl (lv_at hl 2 rfl) ?_
  refine hm_get (ci := 2) (v := .ref sl) (C := R_Ns) (T := F_Ns) (N := 4) hx hb hts ig_Ns hown hK hH f_ns rfl 0 (by decide) (hts _ mw_195) (fun _ h9 => h9) rfl d_Wr_writeAllFiles_13 ?_
  refine lv_iload hx hb d_Wr_writeAllFiles_16 (lv_at hl 0 rfl) ?_
  refine hj_aald (v := .ref rt) hx hb hK hH 4 f_sl (C := R_No) rfl 0 (by decide) (by decide) (by decide) (by rw [hf0]; rfl) d_Wr_writeAllFiles_18 ?_
  refine lv_astore (lv' := [(5, .ref rt), (4, .int 0), (0, .ref wr), (1, .ref ns), (2, .ref md), (3, .ref md2)]) hx hb d_Wr_writeAllFiles_19 hl (by decide) rfl (fun ls hl => ?_)
  refine lv_aload hx hb d_Wr_writeAllFiles_21 (lv_at hl 0 rfl) ?_
  refine hm_calli (va_runV (As := []) (b := rt) (rest := []) ⟨hx, hb, hml, hown, hts⟩ (c_Node_needs_root l D t G ak av h rt 0 1 f_rt) ⟨cw9B 0 hts mw_350 mw_351 mw_40 rfl rfl (by decide +kernel) ⟨Nat.le_of_ble_eq_true rfl, Nat.le_of_ble_eq_true rfl⟩, hts _ mw_352, hts _ mw_353⟩ (hP_V (q := (R_No, F_No, 11)) kE_ok hE hK hH f_rt rfl) rfl rfl hl.1 rfl (lv_room (Nat.le_of_ble_eq_true rfl)) d_Wr_writeAllFiles_23 ⟨Nat.le_of_ble_eq_true rfl, Nat.le_of_ble_eq_true rfl⟩) hLo (fun r2 h3 H4 locs hp6 hH z5 hLo => ?_)
  have hz : s.heap.size ≤ H4.size := Nat.le_trans hz z5
  obtain ⟨rfl, rfl⟩ := hp6
  refine lv_if_eq (tgt := 40) hx hb d_Wr_writeAllFiles_26 (by decide) (fun hc7 => ?_) (fun hc7 => absurd rfl hc7)
  refine lv_iconst (v := 0) hx hb d_Wr_writeAllFiles_40 (by decide) ?_
  refine lv_istore (lv' := [(6, .int 0), (5, .ref rt), (4, .int 0), (0, .ref wr), (1, .ref ns), (2, .ref md), (3, .ref md2)]) hx hb d_Wr_writeAllFiles_41 hl (by decide) rfl (fun ls hl => ?_)
  refine lv_iload hx hb d_Wr_writeAllFiles_43 (lv_at hl 0 rfl) ?_
  refine lv_if_ge (tgt := 51) hx hb d_Wr_writeAllFiles_45 (by decide) (fun hc8 => ?_) (fun hc8 => absurd (by decide) hc8)
  refine lv_aload hx hb d_Wr_writeAllFiles_51 (lv_at hl 1 rfl) ?_
  refine lv_iload hx hb d_Wr_writeAllFiles_53 (lv_at hl 0 rfl) ?_
  refine hm_put (ci := 1) (v := .int 0) (ty := .int) (C := R_No) (T := F_No) (N := 11) hx hb hts ig_No t_No tk_No nm_No hown hK hH hLo f_rt rfl 9 (by decide) (hts _ mw_183) (fun _ h9 => h9) rfl (by decide +kernel) rfl rfl (Nat.le_of_ble_eq_true rfl) d_Wr_writeAllFiles_55 (fun H9 locs hH z10 hLo => ?_)
  have hz : s.heap.size ≤ H9.size := by rw [z10]; exact hz
  obtain ⟨h11, e12⟩ : ∃ z, z = hu h rt (.inr (1, [.int 0, .null, .int 1, .long 0, .int 0, .int 0, .int 0, .int 0, .int 0, .int 0, .int 1])) := ⟨_, rfl⟩
  have hH : hm D vwCl G h11 H9 := by rw [e12]; exact hH
  have f_ns : h11 ns = some (.inr (2, [.ref sl, .ref od, .int 1, .int 1])) := by rw [e12, hu_n (h_neC f_ns f_rt (by decide))]; exact f_ns
  have f_sl : h11 sl = some (.inl ((t 4), 30, .inr (.inr (.inr (.inr fs))))) := by rw [e12, hu_n (h_neA f_sl f_rt)]; exact f_sl
  have f_rt : h11 rt = some (.inr (1, [.int 0, .null, .int 1, .long 0, .int 0, .int 0, .int 0, .int 0, .int 0, .int 0, .int 1])) := by rw [e12]; exact hu_s _ _ _
  have hkp : kp [rt] h h11 := by rw [e12]; exact kp_put hkp (by simp)
  refine lv_iinc (v := 0 + 1) (lv' := [(4, .int (0 + 1)), (6, .int 0), (5, .ref rt), (0, .ref wr), (1, .ref ns), (2, .ref md), (3, .ref md2)]) hx hb d_Wr_writeAllFiles_58 hl (k := 2) rfl (by rfl) (by decide) rfl (fun ls hl => ?_)
  refine lv_goto (tgt := 3) hx hb d_Wr_writeAllFiles_61 (by decide) ?_
  refine lv_iload hx hb d_Wr_writeAllFiles_3 (lv_at hl 0 rfl) ?_
  refine lv_aload_n hx hb d_Wr_writeAllFiles_5 rfl (lv_at hl 4 rfl) ?_
  refine hm_get (ci := 2) (v := .int 1) (C := R_Ns) (T := F_Ns) (N := 4) hx hb hts ig_Ns hown hK hH f_ns rfl 2 (by decide) (hts _ mw_180) (fun _ h9 => h9) rfl d_Wr_writeAllFiles_6 ?_
  refine lv_icmp_ge (tgt := 64) hx hb d_Wr_writeAllFiles_9 (by decide) (fun hc13 => ?_) (fun hc13 => absurd (by decide) hc13)
  refine lv_iconst (v := 1) hx hb d_Wr_writeAllFiles_64 (by decide) ?_
  exact W.iret (v := 1) hx hb hr (fun t9 ht hW => ⟨1, h11, rfl, ⟨rfl, hkp, f_rt⟩, by rw [ht]; exact hH, by rw [ht]; exact hz⟩) hLo d_Wr_writeAllFiles_65

set_option maxHeartbeats 4000000 in
set_option maxRecDepth 100000 in
theorem c_x_commit (l : Launch) (D : va_G) (t : Nat → ClassId) (G : hG) (ak av : Nat → Nat) (h : hM) (x n : Nat) (hX : FrX t h x n) : Met l y_Di_commit (.code y_Di_commit b_Di_commit 2 (some .int) :: lw_g) { frames := 9, cells := 6, slots := 12288, locals := 206 } (hP (kE D t G ak av) D vwCl G h [.ref x]) (hQi D vwCl G (fun r h' => r = 1)) 6 12288 G.P := by
  refine Met.ofW (cc := b_Di_commit) (maxL := 2) (ret := (some .int)) (by decide) rfl ?_
  intro p e s m args below meth c s₁ Bd hml hv
  obtain ⟨ha, hE, hH⟩ := hv
  have hx := Bd.exec
  have hb := Bd.bytes
  have hr := Bd.returns
  have hts : ∀ w ∈ lw_g, w.before args s = true := fun w hw => atoms_spec (ws := (.code y_Di_commit b_Di_commit 2 (some .int) :: lw_g)) Bd.pre w (List.mem_cons_of_mem _ hw)
  have hown : s.vm.findClass R_Di = some m.cls := findClass_of_methodNamed Bd.named
  have hlocks := Bd.notSynchronized
  have hK := hE.1
  have hH0 := hH
  have hLo : hLc G.P [] := hLc_nil
  have hz : s.heap.size ≤ s.heap.size := Nat.le_refl _
  have hkp : kp [] h h := kp_rf
  have hl := lv_entry [.ref x] (n := 2) (Nat.le_of_ble_eq_true rfl)
  rw [show entryFrame m args 2 = F0 m 0 ((lg_sl [.ref x] ++ List.replicate (2 - (lg_sl [.ref x]).length) Slot.unset).toArray) [] from (by rw [ha]; exact lg_entry_eq m [.ref x] 2)]
  generalize (lg_sl [.ref x] ++ List.replicate (2 - (lg_sl [.ref x]).length) Slot.unset).toArray = ls at hl ⊢
  have hl : lv_has ls 2 [(0, .ref x)] := hl
  obtain ⟨wr, rd, ns, op, sr, md, su, pg, pb, sl, od, sa, fs, g, fa, f_x, f_wr, f_su, f_pg, f_pb, f_ns, f_sl, f_od, hgf, hnd, f_md, f_sa, hrow, ne_sl_od, hn40, hn⟩ := hX
  obtain ⟨rt, hf0, f_rt⟩ := hnd.2 0 (by decide) (by decide)
  refine lv_aload_n hx hb d_Di_commit_0 rfl (lv_at hl 0 rfl) ?_
  refine hm_get (ci := 8) (v := .ref wr) (C := R_Di) (T := F_Di) (N := 9) hx hb hts ig_Di hown hK hH f_x rfl 0 (by decide) (hts _ mw_246) (fun _ h9 => h9) rfl d_Di_commit_1 ?_
  refine hm_get (ci := 7) (v := .ref su) (C := R_Wr) (T := F_Wr) (N := 2) hx hb hts ig_Wr hown hK hH f_wr rfl 0 (by decide) (hts _ mw_290) (fun _ h9 => h9) rfl d_Di_commit_4 ?_
  refine hm_get (ci := 4) (v := .int 0) (C := R_Po) (T := F_Po) (N := 3) hx hb hts ig_Po hown hK hH f_su rfl 1 (by decide) (hts _ mw_314) (fun _ h9 => h9) rfl d_Di_commit_7 ?_
  refine lv_if_eq (tgt := 16) hx hb d_Di_commit_10 (by decide) (fun hc1 => ?_) (fun hc1 => absurd rfl hc1)
  refine lv_aload_n hx hb d_Di_commit_16 rfl (lv_at hl 0 rfl) ?_
  refine hm_get (ci := 8) (v := .ref wr) (C := R_Di) (T := F_Di) (N := 9) hx hb hts ig_Di hown hK hH f_x rfl 0 (by decide) (hts _ mw_246) (fun _ h9 => h9) rfl d_Di_commit_17 ?_
  refine lv_aload_n hx hb d_Di_commit_20 rfl (lv_at hl 0 rfl) ?_
  refine hm_get (ci := 8) (v := .ref ns) (C := R_Di) (T := F_Di) (N := 9) hx hb hts ig_Di hown hK hH f_x rfl 2 (by decide) (hts _ mw_258) (fun _ h9 => h9) rfl d_Di_commit_21 ?_
  refine lv_aload_n hx hb d_Di_commit_24 rfl (lv_at hl 0 rfl) ?_
  refine hm_get (ci := 8) (v := .ref md) (C := R_Di) (T := F_Di) (N := 9) hx hb hts ig_Di hown hK hH f_x rfl 3 (by decide) (hts _ mw_269) (fun _ h9 => h9) rfl d_Di_commit_25 ?_
  refine hm_calli (va_runV (As := [.ref ns, .ref md]) (b := wr) (rest := []) ⟨hx, hb, hml, hown, hts⟩ (c_Writer_newFiles l D t G ak av h wr ns sl od rt md 0 fs f_ns f_sl f_rt hf0) ⟨cw9B 2 hts mw_355 mw_356 mw_221 rfl rfl (by decide +kernel) ⟨Nat.le_of_ble_eq_true rfl, Nat.le_of_ble_eq_true rfl⟩, hts _ mw_357, hts _ mw_358⟩ (hP_V (q := (R_Wr, F_Wr, 2)) kE_ok hE hK hH f_wr rfl) rfl rfl hl.1 rfl (lv_room (Nat.le_of_ble_eq_true rfl)) d_Di_commit_28 ⟨Nat.le_of_ble_eq_true rfl, Nat.le_of_ble_eq_true rfl⟩) hLo (fun r2 h3 H4 locs hp6 hH z5 hLo => ?_)
  have hz : s.heap.size ≤ H4.size := Nat.le_trans hz z5
  obtain ⟨rfl, hk9, hr9⟩ := hp6
  have hrow : rowP (.inr (6, [.int 0, .int 0, .null])) fa 0 n h3 := rowP_kp hrow hk9 (List.forall_mem_cons.mpr ⟨by rw [f_rt]; simp, List.forall_mem_nil _⟩)
  have f_x : h3 x = some (.inr (8, [.ref wr, .ref rd, .ref ns, .ref md, .null, .int 0, .int 0, .ref op, .ref sr])) := kp_at hk9 f_x (nmc (h_neC f_x f_rt (by decide)) nm0)
  have f_wr : h3 wr = some (.inr (7, [.ref su, .ref pg])) := kp_at hk9 f_wr (nmc (h_neC f_wr f_rt (by decide)) nm0)
  have f_su : h3 su = some (.inr (4, [.int (-1), .int 0, .int 0])) := kp_at hk9 f_su (nmc (h_neC f_su f_rt (by decide)) nm0)
  have f_pg : h3 pg = some (.inr (3, [.ref pb])) := kp_at hk9 f_pg (nmc (h_neC f_pg f_rt (by decide)) nm0)
  have f_pb : h3 pb = some (.inl ((t 0), 2048, .inl (fun _ => 0))) := kp_at hk9 f_pb (nmc (h_neA f_pb f_rt) nm0)
  have f_ns : h3 ns = some (.inr (2, [.ref sl, .ref od, .int 1, .int 1])) := kp_at hk9 f_ns (nmc (h_neC f_ns f_rt (by decide)) nm0)
  have f_sl : h3 sl = some (.inl ((t 4), 30, .inr (.inr (.inr (.inr fs))))) := kp_at hk9 f_sl (nmc (h_neA f_sl f_rt) nm0)
  have f_od : h3 od = some (.inl ((t 4), 30, .inr (.inr (.inr (.inr g))))) := kp_at hk9 f_od (nmc (h_neA f_od f_rt) nm0)
  have f_md : h3 md = some (.inr (0, [.ref sa, .int (nI 0)])) := kp_at hk9 f_md (nmc (h_neC f_md f_rt (by decide)) nm0)
  have f_sa : h3 sa = some (.inl ((t 5), n, .inr (.inr (.inr (.inr fa))))) := kp_at hk9 f_sa (nmc (h_neA f_sa f_rt) nm0)
  have f_rt : h3 rt = some (.inr (1, [.int 0, .null, .int 1, .long 0, .int 0, .int 0, .int 0, .int 0, .int 0, .int 0, .int 1])) := hr9
  refine lv_istore_n (lv' := [(1, .int 1), (0, .ref x)]) hx hb d_Di_commit_31 rfl hl (by decide) rfl (fun ls hl => ?_)
  refine lv_iload_n hx hb d_Di_commit_32 rfl (lv_at hl 0 rfl) ?_
  refine lv_iconst (v := 1) hx hb d_Di_commit_33 (by decide) ?_
  refine lv_icmp_ne (tgt := 59) hx hb d_Di_commit_34 (by decide) (fun hc7 => absurd rfl hc7) (fun hc7 => ?_)
  refine lv_aload_n hx hb d_Di_commit_37 rfl (lv_at hl 1 rfl) ?_
  refine hm_get (ci := 8) (v := .ref wr) (C := R_Di) (T := F_Di) (N := 9) hx hb hts ig_Di hown hK hH f_x rfl 0 (by decide) (hts _ mw_246) (fun _ h9 => h9) rfl d_Di_commit_38 ?_
  refine lv_aload_n hx hb d_Di_commit_41 rfl (lv_at hl 1 rfl) ?_
  refine hm_get (ci := 8) (v := .ref ns) (C := R_Di) (T := F_Di) (N := 9) hx hb hts ig_Di hown hK hH f_x rfl 2 (by decide) (hts _ mw_258) (fun _ h9 => h9) rfl d_Di_commit_42 ?_
  refine lv_aload_n hx hb d_Di_commit_45 rfl (lv_at hl 1 rfl) ?_
  refine hm_get (ci := 8) (v := .ref md) (C := R_Di) (T := F_Di) (N := 9) hx hb hts ig_Di hown hK hH f_x rfl 3 (by decide) (hts _ mw_269) (fun _ h9 => h9) rfl d_Di_commit_46 ?_
  refine lv_aload_n hx hb d_Di_commit_49 rfl (lv_at hl 1 rfl) ?_
  refine hm_get (ci := 8) (v := .int 0) (C := R_Di) (T := F_Di) (N := 9) hx hb hts ig_Di hown hK hH f_x rfl 5 (by decide) (hts _ mw_260) (fun _ h9 => h9) rfl d_Di_commit_50 ?_
  refine lv_iconst (v := 1) hx hb d_Di_commit_53 (by decide) ?_
  refine lv_iadd hx hb d_Di_commit_54 ?_
  refine hm_calli (va_runV (As := [.ref ns, .ref md, .int (0 + 1)]) (b := wr) (rest := []) ⟨hx, hb, hml, hown, hts⟩ (c_Writer_session l D t G ak av h3 wr pg pb ns sl od rt md sa su n fs g fa 0 1 0 (0 + 1) f_wr f_pg f_ns f_sl f_od f_rt f_md f_sa f_su ⟨_, sb_fit0, f_pb⟩ hf0 hrow hn40 hn ne_sl_od) ⟨cw9B 3 hts mw_359 mw_360 mw_221 rfl rfl (by decide +kernel) ⟨Nat.le_of_ble_eq_true rfl, Nat.le_of_ble_eq_true rfl⟩, hts _ mw_361, hts _ mw_362⟩ (hP_V (q := (R_Wr, F_Wr, 2)) kE_ok hE hK hH f_wr rfl) rfl rfl hl.1 rfl (lv_room (Nat.le_of_ble_eq_true rfl)) d_Di_commit_55 ⟨Nat.le_of_ble_eq_true rfl, Nat.le_of_ble_eq_true rfl⟩) hLo (fun r8 h9 H10 locs hp12 hH z11 hLo => ?_)
  have hz : s.heap.size ≤ H10.size := Nat.le_trans hz z11
  obtain ⟨rfl, hk9, hr9⟩ := hp12
  have f_x : h9 x = some (.inr (8, [.ref wr, .ref rd, .ref ns, .ref md, .null, .int 0, .int 0, .ref op, .ref sr])) := kx_at hk9 f_x (nmc (Ne.symm (h_neA f_pb f_x)) (nmc (h_neC f_x f_rt (by decide)) (nmc (h_neC f_x f_md (by decide)) (nmc (h_neC f_x f_su (by decide)) (nmc (Ne.symm (h_neA f_od f_x)) nm0))))) (by simp)
  refine lv_istore_n (lv' := [(1, .int 1), (0, .ref x)]) hx hb d_Di_commit_58 rfl hl (by decide) rfl (fun ls hl => ?_)
  refine lv_iload_n hx hb d_Di_commit_59 rfl (lv_at hl 0 rfl) ?_
  refine lv_iconst (v := 1) hx hb d_Di_commit_60 (by decide) ?_
  refine lv_icmp_eq (tgt := 66) hx hb d_Di_commit_61 (by decide) (fun hc13 => ?_) (fun hc13 => absurd rfl hc13)
  refine lv_aload_n hx hb d_Di_commit_66 rfl (lv_at hl 1 rfl) ?_
  refine lv_dup hx hb d_Di_commit_67 rfl ?_
  refine hm_get (ci := 8) (v := .int 0) (C := R_Di) (T := F_Di) (N := 9) hx hb hts ig_Di hown hK hH f_x rfl 5 (by decide) (hts _ mw_260) (fun _ h9 => h9) rfl d_Di_commit_68 ?_
  refine lv_iconst (v := 1) hx hb d_Di_commit_71 (by decide) ?_
  refine lv_iadd hx hb d_Di_commit_72 ?_
  refine hm_put (ci := 8) (v := .int (0 + 1)) (ty := .int) (C := R_Di) (T := F_Di) (N := 9) hx hb hts ig_Di t_Di tk_Di nm_Di hown hK hH hLo f_x rfl 5 (by decide) (hts _ mw_260) (fun _ h9 => h9) rfl (by decide +kernel) rfl rfl (Nat.le_of_ble_eq_true rfl) d_Di_commit_73 (fun H14 locs hH z15 hLo => ?_)
  have hz : s.heap.size ≤ H14.size := by rw [z15]; exact hz
  obtain ⟨h16, e17⟩ : ∃ z, z = hu h9 x (.inr (8, [.ref wr, .ref rd, .ref ns, .ref md, .null, .int (0 + 1), .int 0, .ref op, .ref sr])) := ⟨_, rfl⟩
  have hH : hm D vwCl G h16 H14 := by rw [e17]; exact hH
  have f_x : h16 x = some (.inr (8, [.ref wr, .ref rd, .ref ns, .ref md, .null, .int (0 + 1), .int 0, .ref op, .ref sr])) := by rw [e17]; exact hu_s _ _ _
  refine lv_aload_n hx hb d_Di_commit_76 rfl (lv_at hl 1 rfl) ?_
  refine hm_get (ci := 8) (v := .int (0 + 1)) (C := R_Di) (T := F_Di) (N := 9) hx hb hts ig_Di hown hK hH f_x rfl 5 (by decide) (hts _ mw_260) (fun _ h9 => h9) rfl d_Di_commit_77 ?_
  exact W.iret (v := 0 + 1) hx hb hr (fun t9 ht hW => ⟨0 + 1, h16, rfl, (show (0 + 1 : Int32) = 1 by decide), by rw [ht]; exact hH, by rw [ht]; exact hz⟩) hLo d_Di_commit_80

set_option maxHeartbeats 4000000 in
set_option maxRecDepth 100000 in
theorem c_Nodes_appendR (l : Launch) (D : va_G) (t : Nat → ClassId) (G : hG) (ak av : Nat → Nat) (h : hM) (ns sl od rt : Nat) (fs : Nat → Option Nat) (f_ns : h ns = some (.inr (2, [.ref sl, .ref od, .int 0, .int 0]))) (f_sl : h sl = some (.inl ((t 4), 30, .inr (.inr (.inr (.inr fs)))))) (f_rt : h rt = some (.inr (1, [.int 0, .null, .int 1, .long 0, .int 0, .int 0, .int 0, .int 0, .int 0, .int 0, .int 1]))) (hf0 : fs 0 = some rt) : Met l y_Ns_append (.code y_Ns_append b_Ns_append 2 (some (.object "WriteOnceDisc$Node")) :: lw_g) { frames := 0, cells := 0, slots := 0, locals := 0 } (hP (kE D t G ak av) D vwCl G h [.ref ns]) (hQr D vwCl G (fun r h' => r = some rt ∧ kp [ns, rt] h h' ∧ h' rt = some (.inr (1, [.int 0, .null, .int 1, .long 0, .int 0, .int 0, .int 0, .int 0, .int 0, .int 0, .int 1])))) 0 0 G.P := by
  refine Met.ofW (cc := b_Ns_append) (maxL := 2) (ret := (some (.object "WriteOnceDisc$Node"))) (by decide) rfl ?_
  intro p e s m args below meth c s₁ Bd hml hv
  obtain ⟨ha, hE, hH⟩ := hv
  have hx := Bd.exec
  have hb := Bd.bytes
  have hr := Bd.returns
  have hts : ∀ w ∈ lw_g, w.before args s = true := fun w hw => atoms_spec (ws := (.code y_Ns_append b_Ns_append 2 (some (.object "WriteOnceDisc$Node")) :: lw_g)) Bd.pre w (List.mem_cons_of_mem _ hw)
  have hown : s.vm.findClass R_Ns = some m.cls := findClass_of_methodNamed Bd.named
  have hlocks := Bd.notSynchronized
  have hK := hE.1
  have hH0 := hH
  have hLo : hLc G.P [] := hLc_nil
  have hz : s.heap.size ≤ s.heap.size := Nat.le_refl _
  have hkp : kp [ns, rt] h h := kp_rf
  have hl := lv_entry [.ref ns] (n := 2) (Nat.le_of_ble_eq_true rfl)
  rw [show entryFrame m args 2 = F0 m 0 ((lg_sl [.ref ns] ++ List.replicate (2 - (lg_sl [.ref ns]).length) Slot.unset).toArray) [] from (by rw [ha]; exact lg_entry_eq m [.ref ns] 2)]
  generalize (lg_sl [.ref ns] ++ List.replicate (2 - (lg_sl [.ref ns]).length) Slot.unset).toArray = ls at hl ⊢
  have hl : lv_has ls 2 [(0, .ref ns)] := hl
  refine lv_aload_n hx hb d_Ns_append_0 rfl (lv_at hl 0 rfl) ?_
  refine hm_get (ci := 2) (v := .int 0) (C := R_Ns) (T := F_Ns) (N := 4) hx hb hts ig_Ns hown hK hH f_ns rfl 2 (by decide) (hts _ mw_37) (fun _ h9 => h9) rfl d_Ns_append_1 ?_
  refine lv_aload_n hx hb d_Ns_append_4 rfl (lv_at hl 0 rfl) ?_
  refine hm_get (ci := 2) (v := .ref sl) (C := R_Ns) (T := F_Ns) (N := 4) hx hb hts ig_Ns hown hK hH f_ns rfl 0 (by decide) (hts _ mw_35) (fun _ h9 => h9) rfl d_Ns_append_5 ?_
  refine hm_alen (v := 30) hx hb hK hH 4 f_sl (ty := (.object "WriteOnceDisc$Node")) rfl (show Int32.ofNat 30 = 30 by decide) d_Ns_append_8 ?_
  refine lv_icmp_lt (tgt := 14) hx hb d_Ns_append_9 (by decide) (fun hc1 => ?_) (fun hc1 => absurd (by decide) hc1)
  refine lv_aload_n hx hb d_Ns_append_14 rfl (lv_at hl 0 rfl) ?_
  refine hm_get (ci := 2) (v := .ref sl) (C := R_Ns) (T := F_Ns) (N := 4) hx hb hts ig_Ns hown hK hH f_ns rfl 0 (by decide) (hts _ mw_35) (fun _ h9 => h9) rfl d_Ns_append_15 ?_
  refine lv_aload_n hx hb d_Ns_append_18 rfl (lv_at hl 0 rfl) ?_
  refine hm_get (ci := 2) (v := .int 0) (C := R_Ns) (T := F_Ns) (N := 4) hx hb hts ig_Ns hown hK hH f_ns rfl 2 (by decide) (hts _ mw_37) (fun _ h9 => h9) rfl d_Ns_append_19 ?_
  refine hj_aald (v := .ref rt) hx hb hK hH 4 f_sl (C := R_No) rfl 0 (by decide) (by decide) (by decide) (by rw [hf0]; rfl) d_Ns_append_22 ?_
  refine lv_astore_n (lv' := [(1, .ref rt), (0, .ref ns)]) hx hb d_Ns_append_23 rfl hl (by decide) rfl (fun ls hl => ?_)
  refine lv_aload_n hx hb d_Ns_append_24 rfl (lv_at hl 0 rfl) ?_
  refine lv_aload_n hx hb d_Ns_append_25 rfl (lv_at hl 1 rfl) ?_
  refine hm_get (ci := 2) (v := .int 0) (C := R_Ns) (T := F_Ns) (N := 4) hx hb hts ig_Ns hown hK hH f_ns rfl 3 (by decide) (hts _ mw_38) (fun _ h9 => h9) rfl d_Ns_append_26 ?_
  refine hm_put (ci := 1) (v := .int 0) (ty := .int) (C := R_No) (T := F_No) (N := 11) hx hb hts ig_No t_No tk_No nm_No hown hK hH hLo f_rt rfl 0 (by decide) (hts _ mw_273) (fun _ h9 => h9) rfl (by decide +kernel) rfl rfl (Nat.le_of_ble_eq_true rfl) d_Ns_append_29 (fun H2 locs hH z3 hLo => ?_)
  have hz : s.heap.size ≤ H2.size := by rw [z3]; exact hz
  obtain ⟨h4, e5⟩ : ∃ z, z = hu h rt (.inr (1, [.int 0, .null, .int 1, .long 0, .int 0, .int 0, .int 0, .int 0, .int 0, .int 0, .int 1])) := ⟨_, rfl⟩
  have hH : hm D vwCl G h4 H2 := by rw [e5]; exact hH
  have f_ns : h4 ns = some (.inr (2, [.ref sl, .ref od, .int 0, .int 0])) := by rw [e5, hu_n (h_neC f_ns f_rt (by decide))]; exact f_ns
  have f_sl : h4 sl = some (.inl ((t 4), 30, .inr (.inr (.inr (.inr fs))))) := by rw [e5, hu_n (h_neA f_sl f_rt)]; exact f_sl
  have f_rt : h4 rt = some (.inr (1, [.int 0, .null, .int 1, .long 0, .int 0, .int 0, .int 0, .int 0, .int 0, .int 0, .int 1])) := by rw [e5]; exact hu_s _ _ _
  have hkp : kp [ns, rt] h h4 := by rw [e5]; exact kp_put hkp (by simp)
  refine lv_aload_n hx hb d_Ns_append_32 rfl (lv_at hl 1 rfl) ?_
  refine lv_dup hx hb d_Ns_append_33 rfl ?_
  refine hm_get (ci := 2) (v := .int 0) (C := R_Ns) (T := F_Ns) (N := 4) hx hb hts ig_Ns hown hK hH f_ns rfl 2 (by decide) (hts _ mw_37) (fun _ h9 => h9) rfl d_Ns_append_34 ?_
  refine lv_iconst (v := 1) hx hb d_Ns_append_37 (by decide) ?_
  refine lv_iadd hx hb d_Ns_append_38 ?_
  refine hm_put (ci := 2) (v := .int (0 + 1)) (ty := .int) (C := R_Ns) (T := F_Ns) (N := 4) hx hb hts ig_Ns t_Ns tk_Ns nm_Ns hown hK hH hLo f_ns rfl 2 (by decide) (hts _ mw_37) (fun _ h9 => h9) rfl (by decide +kernel) rfl rfl (Nat.le_of_ble_eq_true rfl) d_Ns_append_39 (fun H6 locs hH z7 hLo => ?_)
  have hz : s.heap.size ≤ H6.size := by rw [z7]; exact hz
  obtain ⟨h8, e9⟩ : ∃ z, z = hu h4 ns (.inr (2, [.ref sl, .ref od, .int (0 + 1), .int 0])) := ⟨_, rfl⟩
  have hH : hm D vwCl G h8 H6 := by rw [e9]; exact hH
  have f_sl : h8 sl = some (.inl ((t 4), 30, .inr (.inr (.inr (.inr fs))))) := by rw [e9, hu_n (h_neA f_sl f_ns)]; exact f_sl
  have f_rt : h8 rt = some (.inr (1, [.int 0, .null, .int 1, .long 0, .int 0, .int 0, .int 0, .int 0, .int 0, .int 0, .int 1])) := by rw [e9, hu_n (h_neC f_rt f_ns (by decide))]; exact f_rt
  have f_ns : h8 ns = some (.inr (2, [.ref sl, .ref od, .int (0 + 1), .int 0])) := by rw [e9]; exact hu_s _ _ _
  have hkp : kp [ns, rt] h h8 := by rw [e9]; exact kp_put hkp (by simp)
  refine lv_aload_n hx hb d_Ns_append_42 rfl (lv_at hl 1 rfl) ?_
  refine lv_dup hx hb d_Ns_append_43 rfl ?_
  refine hm_get (ci := 2) (v := .int 0) (C := R_Ns) (T := F_Ns) (N := 4) hx hb hts ig_Ns hown hK hH f_ns rfl 3 (by decide) (hts _ mw_38) (fun _ h9 => h9) rfl d_Ns_append_44 ?_
  refine lv_iconst (v := 1) hx hb d_Ns_append_47 (by decide) ?_
  refine lv_iadd hx hb d_Ns_append_48 ?_
  refine hm_put (ci := 2) (v := .int (0 + 1)) (ty := .int) (C := R_Ns) (T := F_Ns) (N := 4) hx hb hts ig_Ns t_Ns tk_Ns nm_Ns hown hK hH hLo f_ns rfl 3 (by decide) (hts _ mw_38) (fun _ h9 => h9) rfl (by decide +kernel) rfl rfl (Nat.le_of_ble_eq_true rfl) d_Ns_append_49 (fun H10 locs hH z11 hLo => ?_)
  have hz : s.heap.size ≤ H10.size := by rw [z11]; exact hz
  obtain ⟨h12, e13⟩ : ∃ z, z = hu h8 ns (.inr (2, [.ref sl, .ref od, .int (0 + 1), .int (0 + 1)])) := ⟨_, rfl⟩
  have hH : hm D vwCl G h12 H10 := by rw [e13]; exact hH
  have f_sl : h12 sl = some (.inl ((t 4), 30, .inr (.inr (.inr (.inr fs))))) := by rw [e13, hu_n (h_neA f_sl f_ns)]; exact f_sl
  have f_rt : h12 rt = some (.inr (1, [.int 0, .null, .int 1, .long 0, .int 0, .int 0, .int 0, .int 0, .int 0, .int 0, .int 1])) := by rw [e13, hu_n (h_neC f_rt f_ns (by decide))]; exact f_rt
  have f_ns : h12 ns = some (.inr (2, [.ref sl, .ref od, .int (0 + 1), .int (0 + 1)])) := by rw [e13]; exact hu_s _ _ _
  have hkp : kp [ns, rt] h h12 := by rw [e13]; exact kp_put hkp (by simp)
  refine lv_aload_n hx hb d_Ns_append_52 rfl (lv_at hl 0 rfl) ?_
  exact W.aret (v := va_rf (some rt)) hx hb hr (Or.inl ⟨_, rfl⟩) (va_rf_or _) (fun t9 ht hW => ⟨some rt, h12, rfl, ⟨rfl, hkp, f_rt⟩, by rw [ht]; exact hH, by rw [ht]; exact hz⟩) hLo d_Ns_append_53

set_option maxHeartbeats 4000000 in
set_option maxRecDepth 100000 in
theorem c_Node_takeNameR (l : Launch) (D : va_G) (t : Nat → ClassId) (G : hG) (ak av : Nat → Nat) (h : hM) (rt : Nat) (f_rt : h rt = some (.inr (1, [.int 0, .null, .int 1, .long 0, .int 0, .int 0, .int 0, .int 0, .int 0, .int 0, .int 1]))) : Met l y_No_takeName (.code y_No_takeName b_No_takeName 4 none :: lw_g) { frames := 0, cells := 0, slots := 0, locals := 0 } (hP (kE D t G ak av) D vwCl G h [.ref rt, .long 0]) (hQv D vwCl G (fun h' => kp [rt] h h' ∧ ∃ le : Int32, h' rt = some (.inr (1, [.int 0, .null, .int 1, .long 0, .int le, .int 0, .int 0, .int 0, .int 0, .int 0, .int 1])))) 0 0 G.P := by
  refine Met.ofW (cc := b_No_takeName) (maxL := 4) (ret := none) (by decide) rfl ?_
  intro p e s m args below meth c s₁ Bd hml hv
  obtain ⟨ha, hE, hH⟩ := hv
  have hx := Bd.exec
  have hb := Bd.bytes
  have hr := Bd.returns
  have hts : ∀ w ∈ lw_g, w.before args s = true := fun w hw => atoms_spec (ws := (.code y_No_takeName b_No_takeName 4 none :: lw_g)) Bd.pre w (List.mem_cons_of_mem _ hw)
  have hown : s.vm.findClass R_No = some m.cls := findClass_of_methodNamed Bd.named
  have hlocks := Bd.notSynchronized
  have hK := hE.1
  have hH0 := hH
  have hLo : hLc G.P [] := hLc_nil
  have hz : s.heap.size ≤ s.heap.size := Nat.le_refl _
  have hkp : kp [rt] h h := kp_rf
  have hl := lv_entry [.ref rt, .long 0] (n := 4) (Nat.le_of_ble_eq_true rfl)
  rw [show entryFrame m args 4 = F0 m 0 ((lg_sl [.ref rt, .long 0] ++ List.replicate (4 - (lg_sl [.ref rt, .long 0]).length) Slot.unset).toArray) [] from (by rw [ha]; exact lg_entry_eq m [.ref rt, .long 0] 4)]
  generalize (lg_sl [.ref rt, .long 0] ++ List.replicate (4 - (lg_sl [.ref rt, .long 0]).length) Slot.unset).toArray = ls at hl ⊢
  have hl : lv_has ls 4 [(0, .ref rt), (1, .long 0)] := hl
  refine lv_aload_n hx hb d_No_takeName_0 rfl (lv_at hl 0 rfl) ?_
  refine lv_lload_n hx hb d_No_takeName_1 rfl (lv_at hl 1 rfl) ?_
  refine hm_put (ci := 1) (v := .long 0) (ty := .long) (C := R_No) (T := F_No) (N := 11) hx hb hts ig_No t_No tk_No nm_No hown hK hH hLo f_rt rfl 3 (by decide) (hts _ mw_14) (fun _ h9 => h9) rfl (by decide +kernel) rfl rfl (Nat.le_of_ble_eq_true rfl) d_No_takeName_2 (fun H1 locs hH z2 hLo => ?_)
  have hz : s.heap.size ≤ H1.size := by rw [z2]; exact hz
  obtain ⟨h3, e4⟩ : ∃ z, z = hu h rt (.inr (1, [.int 0, .null, .int 1, .long 0, .int 0, .int 0, .int 0, .int 0, .int 0, .int 0, .int 1])) := ⟨_, rfl⟩
  have hH : hm D vwCl G h3 H1 := by rw [e4]; exact hH
  have f_rt : h3 rt = some (.inr (1, [.int 0, .null, .int 1, .long 0, .int 0, .int 0, .int 0, .int 0, .int 0, .int 0, .int 1])) := by rw [e4]; exact hu_s _ _ _
  have hkp : kp [rt] h h3 := by rw [e4]; exact kp_put hkp (by simp)
  refine lv_aload_n hx hb d_No_takeName_5 rfl (lv_at hl 0 rfl) ?_
  refine lv_iconst (v := 0) hx hb d_No_takeName_6 (by decide) ?_
  refine hm_put (ci := 1) (v := .int 0) (ty := .int) (C := R_No) (T := F_No) (N := 11) hx hb hts ig_No t_No tk_No nm_No hown hK hH hLo f_rt rfl 4 (by decide) (hts _ mw_15) (fun _ h9 => h9) rfl (by decide +kernel) rfl rfl (Nat.le_of_ble_eq_true rfl) d_No_takeName_7 (fun H5 locs hH z6 hLo => ?_)
  have hz : s.heap.size ≤ H5.size := by rw [z6]; exact hz
  obtain ⟨h7, e8⟩ : ∃ z, z = hu h3 rt (.inr (1, [.int 0, .null, .int 1, .long 0, .int 0, .int 0, .int 0, .int 0, .int 0, .int 0, .int 1])) := ⟨_, rfl⟩
  have hH : hm D vwCl G h7 H5 := by rw [e8]; exact hH
  have f_rt : h7 rt = some (.inr (1, [.int 0, .null, .int 1, .long 0, .int 0, .int 0, .int 0, .int 0, .int 0, .int 0, .int 1])) := by rw [e8]; exact hu_s _ _ _
  have hkp : kp [rt] h h7 := by rw [e8]; exact kp_put hkp (by simp)
  refine lv_iconst (v := 0) hx hb d_No_takeName_10 (by decide) ?_
  refine lv_topi (fun v9 e10 => ?_)
  obtain rfl : v9 = 64 - nI (8 * 8) := e10.trans (by decide)
  refine lv_istore_n (lv' := [(3, .int (64 - nI (8 * 8))), (0, .ref rt), (1, .long 0)]) hx hb d_No_takeName_11 rfl hl (by decide) rfl (fun ls hl => ?_)
  refine hm_loop (fun k ls H locs hh => ∃ (k9 : Nat) (le : Int32), k = k9 ∧ lv_has ls 4 [(3, .int (64 - nI (8 * k9))), (0, .ref rt), (1, .long 0)] ∧ hm D vwCl G hh H ∧ s.heap.size ≤ H.size ∧ hLc G.P locs ∧ kp [rt] h hh ∧ hh rt = some (.inr (1, [.int 0, .null, .int 1, .long 0, .int le, .int 0, .int 0, .int 0, .int 0, .int 0, .int 1])) ∧ (k9 ≤ 8)) ?_ (hh := h7) ⟨8, 0, rfl, (lv_sub hl [0, 1, 2] rfl), hH, hz, hLo, hkp, f_rt, by omega⟩
  rintro k ls H locs hh ⟨k9, le, hk, hl, hH, hz, hLo, hkp, f_rt, hk9⟩ ih
  rcases (show k9 = 0 ∨ 0 < k9 by omega) with rfl | hpos
  · skip
    refine lv_iload_n hx hb d_No_takeName_12 rfl (lv_at hl 0 rfl) ?_
    refine lv_bipush (v := 64) hx hb d_No_takeName_13 (by decide) ?_
    refine lv_icmp_ge (tgt := 42) hx hb d_No_takeName_15 (by decide) (fun hc11 => ?_) (fun hc11 => absurd ((sn_ge 0 (by decide)).mpr rfl) hc11)
    exact W.vret hx hb hr (fun t9 ht hW => ⟨hh, rfl, ⟨hkp, le, f_rt⟩, by rw [ht]; exact hH, by rw [ht]; exact hz⟩) hLo d_No_takeName_42
  · skip
    obtain ⟨j, rfl⟩ : ∃ j, k9 = j + 1 := ⟨k9 - 1, by omega⟩
    refine lv_iload_n hx hb d_No_takeName_12 rfl (lv_at hl 0 rfl) ?_
    refine lv_bipush (v := 64) hx hb d_No_takeName_13 (by decide) ?_
    refine lv_icmp_ge (tgt := 42) hx hb d_No_takeName_15 (by decide) (fun hc12 => absurd hc12 (mt (sn_ge (j + 1) (by omega)).mp (by omega))) (fun hc12 => ?_)
    refine lv_lload_n hx hb d_No_takeName_18 rfl (lv_at hl 2 rfl) ?_
    refine lv_iload_n hx hb d_No_takeName_19 rfl (lv_at hl 0 rfl) ?_
    refine lv_lushr (v := ((0 : Int64).toUInt64 >>> ((64 - nI (8 * (j + 1))).toInt64.toUInt64 &&& Int64.toUInt64 63)).toInt64) hx hb d_No_takeName_20 rfl ?_
    refine lv_lconst (v := 0) hx hb d_No_takeName_21 (by decide) ?_
    refine W.lcmp hx hb d_No_takeName_22 ?_
    refine lv_if_eq (tgt := 36) hx hb d_No_takeName_23 (by decide) (fun hc13 => ?_) (fun hc13 => ?_)
    · skip
      refine lv_iinc (v := 64 - nI (8 * j)) (lv' := [(3, .int (64 - nI (8 * j))), (0, .ref rt), (1, .long 0)]) hx hb d_No_takeName_36 hl (k := 0) rfl (sn_dec j (by omega)) (by decide) rfl (fun ls hl => ?_)
      refine lv_goto (tgt := 12) hx hb d_No_takeName_39 (by decide) ?_
      exact ih (j) ls _ locs _ (by rw [hk]; omega) ⟨j, le, rfl, (lv_sub hl [0, 1, 2] rfl), hH, hz, hLo, hkp, f_rt, by omega⟩
    · skip
      refine lv_aload_n hx hb d_No_takeName_26 rfl (lv_at hl 1 rfl) ?_
      refine lv_dup hx hb d_No_takeName_27 rfl ?_
      refine hm_get (ci := 1) (v := .int le) (C := R_No) (T := F_No) (N := 11) hx hb hts ig_No hown hK hH f_rt rfl 4 (by decide) (hts _ mw_15) (fun _ h9 => h9) rfl d_No_takeName_28 ?_
      refine lv_iconst (v := 1) hx hb d_No_takeName_31 (by decide) ?_
      refine lv_iadd hx hb d_No_takeName_32 ?_
      refine hm_put (ci := 1) (v := .int (le + 1)) (ty := .int) (C := R_No) (T := F_No) (N := 11) hx hb hts ig_No t_No tk_No nm_No hown hK hH hLo f_rt rfl 4 (by decide) (hts _ mw_15) (fun _ h9 => h9) rfl (by decide +kernel) rfl rfl (Nat.le_of_ble_eq_true rfl) d_No_takeName_33 (fun H14 locs hH z15 hLo => ?_)
      have hz : s.heap.size ≤ H14.size := by rw [z15]; exact hz
      obtain ⟨h16, e17⟩ : ∃ z, z = hu hh rt (.inr (1, [.int 0, .null, .int 1, .long 0, .int (le + 1), .int 0, .int 0, .int 0, .int 0, .int 0, .int 1])) := ⟨_, rfl⟩
      have hH : hm D vwCl G h16 H14 := by rw [e17]; exact hH
      have f_rt : h16 rt = some (.inr (1, [.int 0, .null, .int 1, .long 0, .int (le + 1), .int 0, .int 0, .int 0, .int 0, .int 0, .int 1])) := by rw [e17]; exact hu_s _ _ _
      have hkp : kp [rt] h h16 := by rw [e17]; exact kp_put hkp (by simp)
      refine lv_iinc (v := 64 - nI (8 * j)) (lv' := [(3, .int (64 - nI (8 * j))), (0, .ref rt), (1, .long 0)]) hx hb d_No_takeName_36 hl (k := 0) rfl (sn_dec j (by omega)) (by decide) rfl (fun ls hl => ?_)
      refine lv_goto (tgt := 12) hx hb d_No_takeName_39 (by decide) ?_
      exact ih (j) ls _ locs _ (by rw [hk]; omega) ⟨j, _, rfl, (lv_sub hl [0, 1, 2] rfl), hH, hz, hLo, hkp, f_rt, by omega⟩

set_option maxHeartbeats 4000000 in
set_option maxRecDepth 100000 in
theorem c_Node_takeContentR (l : Launch) (D : va_G) (t : Nat → ClassId) (G : hG) (ak av : Nat → Nat) (h : hM) (rt : Nat) (le : Int32) (f_rt : h rt = some (.inr (1, [.int 0, .null, .int 1, .long 0, .int le, .int 0, .int 0, .int 0, .int 0, .int 0, .int 1]))) : Met l y_No_takeContent (.code y_No_takeContent b_No_takeContent 3 none :: lw_g) { frames := 0, cells := 0, slots := 0, locals := 0 } (hP (kE D t G ak av) D vwCl G h [.ref rt, .int 0, .int 0]) (hQv D vwCl G (fun h' => kp [rt] h h')) 0 0 G.P := by
  refine Met.ofW (cc := b_No_takeContent) (maxL := 3) (ret := none) (by decide) rfl ?_
  intro p e s m args below meth c s₁ Bd hml hv
  obtain ⟨ha, hE, hH⟩ := hv
  have hx := Bd.exec
  have hb := Bd.bytes
  have hr := Bd.returns
  have hts : ∀ w ∈ lw_g, w.before args s = true := fun w hw => atoms_spec (ws := (.code y_No_takeContent b_No_takeContent 3 none :: lw_g)) Bd.pre w (List.mem_cons_of_mem _ hw)
  have hown : s.vm.findClass R_No = some m.cls := findClass_of_methodNamed Bd.named
  have hlocks := Bd.notSynchronized
  have hK := hE.1
  have hH0 := hH
  have hLo : hLc G.P [] := hLc_nil
  have hz : s.heap.size ≤ s.heap.size := Nat.le_refl _
  have hkp : kp [rt] h h := kp_rf
  have hl := lv_entry [.ref rt, .int 0, .int 0] (n := 3) (Nat.le_of_ble_eq_true rfl)
  rw [show entryFrame m args 3 = F0 m 0 ((lg_sl [.ref rt, .int 0, .int 0] ++ List.replicate (3 - (lg_sl [.ref rt, .int 0, .int 0]).length) Slot.unset).toArray) [] from (by rw [ha]; exact lg_entry_eq m [.ref rt, .int 0, .int 0] 3)]
  generalize (lg_sl [.ref rt, .int 0, .int 0] ++ List.replicate (3 - (lg_sl [.ref rt, .int 0, .int 0]).length) Slot.unset).toArray = ls at hl ⊢
  have hl : lv_has ls 3 [(0, .ref rt), (1, .int 0), (2, .int 0)] := hl
  refine lv_aload_n hx hb d_No_takeContent_0 rfl (lv_at hl 0 rfl) ?_
  refine lv_iload_n hx hb d_No_takeContent_1 rfl (lv_at hl 1 rfl) ?_
  refine hm_put (ci := 1) (v := .int 0) (ty := .int) (C := R_No) (T := F_No) (N := 11) hx hb hts ig_No t_No tk_No nm_No hown hK hH hLo f_rt rfl 5 (by decide) (hts _ mw_16) (fun _ h9 => h9) rfl (by decide +kernel) rfl rfl (Nat.le_of_ble_eq_true rfl) d_No_takeContent_2 (fun H1 locs hH z2 hLo => ?_)
  have hz : s.heap.size ≤ H1.size := by rw [z2]; exact hz
  obtain ⟨h3, e4⟩ : ∃ z, z = hu h rt (.inr (1, [.int 0, .null, .int 1, .long 0, .int le, .int 0, .int 0, .int 0, .int 0, .int 0, .int 1])) := ⟨_, rfl⟩
  have hH : hm D vwCl G h3 H1 := by rw [e4]; exact hH
  have f_rt : h3 rt = some (.inr (1, [.int 0, .null, .int 1, .long 0, .int le, .int 0, .int 0, .int 0, .int 0, .int 0, .int 1])) := by rw [e4]; exact hu_s _ _ _
  have hkp : kp [rt] h h3 := by rw [e4]; exact kp_put hkp (by simp)
  refine lv_aload_n hx hb d_No_takeContent_5 rfl (lv_at hl 0 rfl) ?_
  refine lv_iload_n hx hb d_No_takeContent_6 rfl (lv_at hl 2 rfl) ?_
  refine hm_put (ci := 1) (v := .int 0) (ty := .int) (C := R_No) (T := F_No) (N := 11) hx hb hts ig_No t_No tk_No nm_No hown hK hH hLo f_rt rfl 6 (by decide) (hts _ mw_17) (fun _ h9 => h9) rfl (by decide +kernel) rfl rfl (Nat.le_of_ble_eq_true rfl) d_No_takeContent_7 (fun H5 locs hH z6 hLo => ?_)
  have hz : s.heap.size ≤ H5.size := by rw [z6]; exact hz
  obtain ⟨h7, e8⟩ : ∃ z, z = hu h3 rt (.inr (1, [.int 0, .null, .int 1, .long 0, .int le, .int 0, .int 0, .int 0, .int 0, .int 0, .int 1])) := ⟨_, rfl⟩
  have hH : hm D vwCl G h7 H5 := by rw [e8]; exact hH
  have f_rt : h7 rt = some (.inr (1, [.int 0, .null, .int 1, .long 0, .int le, .int 0, .int 0, .int 0, .int 0, .int 0, .int 1])) := by rw [e8]; exact hu_s _ _ _
  have hkp : kp [rt] h h7 := by rw [e8]; exact kp_put hkp (by simp)
  refine lv_aload_n hx hb d_No_takeContent_10 rfl (lv_at hl 0 rfl) ?_
  refine lv_iconst (v := 0) hx hb d_No_takeContent_11 (by decide) ?_
  refine hm_put (ci := 1) (v := .int 0) (ty := .boolean) (C := R_No) (T := F_No) (N := 11) hx hb hts ig_No t_No tk_No nm_No hown hK hH hLo f_rt rfl 7 (by decide) (hts _ mw_18) (fun _ h9 => h9) rfl (by decide +kernel) (by decide) (by decide) (Nat.le_of_ble_eq_true rfl) d_No_takeContent_12 (fun H9 locs hH z10 hLo => ?_)
  have hz : s.heap.size ≤ H9.size := by rw [z10]; exact hz
  obtain ⟨h11, e12⟩ : ∃ z, z = hu h7 rt (.inr (1, [.int 0, .null, .int 1, .long 0, .int le, .int 0, .int 0, .int 0, .int 0, .int 0, .int 1])) := ⟨_, rfl⟩
  have hH : hm D vwCl G h11 H9 := by rw [e12]; exact hH
  have f_rt : h11 rt = some (.inr (1, [.int 0, .null, .int 1, .long 0, .int le, .int 0, .int 0, .int 0, .int 0, .int 0, .int 1])) := by rw [e12]; exact hu_s _ _ _
  have hkp : kp [rt] h h11 := by rw [e12]; exact kp_put hkp (by simp)
  refine lv_aload_n hx hb d_No_takeContent_15 rfl (lv_at hl 0 rfl) ?_
  refine lv_iconst (v := 0) hx hb d_No_takeContent_16 (by decide) ?_
  refine hm_put (ci := 1) (v := .int 0) (ty := .int) (C := R_No) (T := F_No) (N := 11) hx hb hts ig_No t_No tk_No nm_No hown hK hH hLo f_rt rfl 8 (by decide) (hts _ mw_19) (fun _ h9 => h9) rfl (by decide +kernel) rfl rfl (Nat.le_of_ble_eq_true rfl) d_No_takeContent_17 (fun H13 locs hH z14 hLo => ?_)
  have hz : s.heap.size ≤ H13.size := by rw [z14]; exact hz
  obtain ⟨h15, e16⟩ : ∃ z, z = hu h11 rt (.inr (1, [.int 0, .null, .int 1, .long 0, .int le, .int 0, .int 0, .int 0, .int 0, .int 0, .int 1])) := ⟨_, rfl⟩
  have hH : hm D vwCl G h15 H13 := by rw [e16]; exact hH
  have f_rt : h15 rt = some (.inr (1, [.int 0, .null, .int 1, .long 0, .int le, .int 0, .int 0, .int 0, .int 0, .int 0, .int 1])) := by rw [e16]; exact hu_s _ _ _
  have hkp : kp [rt] h h15 := by rw [e16]; exact kp_put hkp (by simp)
  exact W.vret hx hb hr (fun t9 ht hW => ⟨h15, rfl, hkp, by rw [ht]; exact hH, by rw [ht]; exact hz⟩) hLo d_No_takeContent_20

set_option maxHeartbeats 4000000 in
set_option maxRecDepth 100000 in
theorem c_Node_becomeR (l : Launch) (D : va_G) (t : Nat → ClassId) (G : hG) (ak av : Nat → Nat) (h : hM) (rt : Nat) (f_rt : h rt = some (.inr (1, [.int 0, .null, .int 1, .long 0, .int 0, .int 0, .int 0, .int 0, .int 0, .int 0, .int 1]))) : Met l y_No_become (.code y_No_become b_No_become 5 none :: lw_g) { frames := 1, cells := 0, slots := 0, locals := 23 } (hP (kE D t G ak av) D vwCl G h [.ref rt, .null, .int 1, .long 0]) (hQv D vwCl G (fun h' => kp [rt] h h')) 0 0 G.P := by
  refine Met.ofW (cc := b_No_become) (maxL := 5) (ret := none) (by decide) rfl ?_
  intro p e s m args below meth c s₁ Bd hml hv
  obtain ⟨ha, hE, hH⟩ := hv
  have hx := Bd.exec
  have hb := Bd.bytes
  have hr := Bd.returns
  have hts : ∀ w ∈ lw_g, w.before args s = true := fun w hw => atoms_spec (ws := (.code y_No_become b_No_become 5 none :: lw_g)) Bd.pre w (List.mem_cons_of_mem _ hw)
  have hown : s.vm.findClass R_No = some m.cls := findClass_of_methodNamed Bd.named
  have hlocks := Bd.notSynchronized
  have hK := hE.1
  have hH0 := hH
  have hLo : hLc G.P [] := hLc_nil
  have hz : s.heap.size ≤ s.heap.size := Nat.le_refl _
  have hkp : kp [rt] h h := kp_rf
  have hl := lv_entry [.ref rt, .null, .int 1, .long 0] (n := 5) (Nat.le_of_ble_eq_true rfl)
  rw [show entryFrame m args 5 = F0 m 0 ((lg_sl [.ref rt, .null, .int 1, .long 0] ++ List.replicate (5 - (lg_sl [.ref rt, .null, .int 1, .long 0]).length) Slot.unset).toArray) [] from (by rw [ha]; exact lg_entry_eq m [.ref rt, .null, .int 1, .long 0] 5)]
  generalize (lg_sl [.ref rt, .null, .int 1, .long 0] ++ List.replicate (5 - (lg_sl [.ref rt, .null, .int 1, .long 0]).length) Slot.unset).toArray = ls at hl ⊢
  have hl : lv_has ls 5 [(0, .ref rt), (1, .null), (2, .int 1), (3, .long 0)] := hl
  refine lv_aload_n hx hb d_No_become_0 rfl (lv_at hl 0 rfl) ?_
  refine lv_aload_nN hx hb d_No_become_1 rfl (lv_at hl 1 rfl) ?_
  refine hm_put (ci := 1) (v := .null) (ty := (.object "WriteOnceDisc$Node")) (C := R_No) (T := F_No) (N := 11) hx hb hts ig_No t_No tk_No nm_No hown hK hH hLo f_rt rfl 1 (by decide) (hts _ mw_12) (fun _ h9 => h9) rfl (by decide +kernel) rfl rfl (Nat.le_of_ble_eq_true rfl) d_No_become_2 (fun H1 locs hH z2 hLo => ?_)
  have hz : s.heap.size ≤ H1.size := by rw [z2]; exact hz
  obtain ⟨h3, e4⟩ : ∃ z, z = hu h rt (.inr (1, [.int 0, .null, .int 1, .long 0, .int 0, .int 0, .int 0, .int 0, .int 0, .int 0, .int 1])) := ⟨_, rfl⟩
  have hH : hm D vwCl G h3 H1 := by rw [e4]; exact hH
  have f_rt : h3 rt = some (.inr (1, [.int 0, .null, .int 1, .long 0, .int 0, .int 0, .int 0, .int 0, .int 0, .int 0, .int 1])) := by rw [e4]; exact hu_s _ _ _
  have hkp : kp [rt] h h3 := by rw [e4]; exact kp_put hkp (by simp)
  refine lv_aload_n hx hb d_No_become_5 rfl (lv_at hl 0 rfl) ?_
  refine lv_iload_n hx hb d_No_become_6 rfl (lv_at hl 2 rfl) ?_
  refine hm_put (ci := 1) (v := .int 1) (ty := .boolean) (C := R_No) (T := F_No) (N := 11) hx hb hts ig_No t_No tk_No nm_No hown hK hH hLo f_rt rfl 2 (by decide) (hts _ mw_13) (fun _ h9 => h9) rfl (by decide +kernel) (by decide) (by decide) (Nat.le_of_ble_eq_true rfl) d_No_become_7 (fun H5 locs hH z6 hLo => ?_)
  have hz : s.heap.size ≤ H5.size := by rw [z6]; exact hz
  obtain ⟨h7, e8⟩ : ∃ z, z = hu h3 rt (.inr (1, [.int 0, .null, .int 1, .long 0, .int 0, .int 0, .int 0, .int 0, .int 0, .int 0, .int 1])) := ⟨_, rfl⟩
  have hH : hm D vwCl G h7 H5 := by rw [e8]; exact hH
  have f_rt : h7 rt = some (.inr (1, [.int 0, .null, .int 1, .long 0, .int 0, .int 0, .int 0, .int 0, .int 0, .int 0, .int 1])) := by rw [e8]; exact hu_s _ _ _
  have hkp : kp [rt] h h7 := by rw [e8]; exact kp_put hkp (by simp)
  refine lv_aload_n hx hb d_No_become_10 rfl (lv_at hl 0 rfl) ?_
  refine lv_lload_n hx hb d_No_become_11 rfl (lv_at hl 3 rfl) ?_
  refine hm_callv (va_runV (As := [.long 0]) (b := rt) (rest := []) ⟨hx, hb, hml, hown, hts⟩ (c_Node_takeNameR l D t G ak av h7 rt f_rt) ⟨cw9B 1 hts mw_278 mw_279 mw_40 rfl rfl (by decide +kernel) ⟨Nat.le_of_ble_eq_true rfl, Nat.le_of_ble_eq_true rfl⟩, hts _ mw_280, hts _ mw_281⟩ (hP_V (q := (R_No, F_No, 11)) kE_ok hE hK hH f_rt rfl) rfl rfl hl.1 rfl (lv_room (Nat.le_of_ble_eq_true rfl)) d_No_become_12 ⟨Nat.le_of_ble_eq_true rfl, Nat.le_of_ble_eq_true rfl⟩) hLo (fun h9 H10 locs hp12 hH z11 hLo => ?_)
  have hz : s.heap.size ≤ H10.size := Nat.le_trans hz z11
  obtain ⟨hk9, le, hn9⟩ := hp12
  have hkp : kp [rt] h h9 := kp_tr2 hkp hk9 (List.forall_mem_cons.mpr ⟨Or.inl (by simp), List.forall_mem_nil _⟩)
  have f_rt : h9 rt = some (.inr (1, [.int 0, .null, .int 1, .long 0, .int le, .int 0, .int 0, .int 0, .int 0, .int 0, .int 1])) := hn9
  refine lv_aload_n hx hb d_No_become_15 rfl (lv_at hl 0 rfl) ?_
  refine lv_iconst (v := 0) hx hb d_No_become_16 (by decide) ?_
  refine lv_iconst (v := 0) hx hb d_No_become_17 (by decide) ?_
  refine hm_callv (va_runV (As := [.int 0, .int 0]) (b := rt) (rest := []) ⟨hx, hb, hml, hown, hts⟩ (c_Node_takeContentR l D t G ak av h9 rt le f_rt) ⟨cw9B 2 hts mw_282 mw_283 mw_40 rfl rfl (by decide +kernel) ⟨Nat.le_of_ble_eq_true rfl, Nat.le_of_ble_eq_true rfl⟩, hts _ mw_284, hts _ mw_285⟩ (hP_V (q := (R_No, F_No, 11)) kE_ok hE hK hH f_rt rfl) rfl rfl hl.1 rfl (lv_room (Nat.le_of_ble_eq_true rfl)) d_No_become_18 ⟨Nat.le_of_ble_eq_true rfl, Nat.le_of_ble_eq_true rfl⟩) hLo (fun h13 H14 locs hp16 hH z15 hLo => ?_)
  have hz : s.heap.size ≤ H14.size := Nat.le_trans hz z15
  have hkp : kp [rt] h h13 := kp_tr2 hkp hp16 (List.forall_mem_cons.mpr ⟨Or.inl (by simp), List.forall_mem_nil _⟩)
  exact W.vret hx hb hr (fun t9 ht hW => ⟨h13, rfl, hkp, by rw [ht]; exact hH, by rw [ht]; exact hz⟩) hLo d_No_become_21

set_option maxHeartbeats 4000000 in
set_option maxRecDepth 100000 in
theorem c_Nodes_rootAlone (l : Launch) (D : va_G) (t : Nat → ClassId) (G : hG) (ak av : Nat → Nat) (h : hM) (ns sl od rt : Nat) (fs : Nat → Option Nat) (f_ns : h ns = some (.inr (2, [.ref sl, .ref od, .int 1, .int 1]))) (f_sl : h sl = some (.inl ((t 4), 30, .inr (.inr (.inr (.inr fs)))))) (f_rt : h rt = some (.inr (1, [.int 0, .null, .int 1, .long 0, .int 0, .int 0, .int 0, .int 0, .int 0, .int 0, .int 1]))) (hf0 : fs 0 = some rt) : Met l y_Ns_becomeRootAlone (.code y_Ns_becomeRootAlone b_Ns_becomeRootAlone 2 none :: lw_g) { frames := 2, cells := 0, slots := 0, locals := 47 } (hP (kE D t G ak av) D vwCl G h [.ref ns]) (hQv D vwCl G (fun h' => kp [ns, rt] h h')) 0 0 G.P := by
  refine Met.ofW (cc := b_Ns_becomeRootAlone) (maxL := 2) (ret := none) (by decide) rfl ?_
  intro p e s m args below meth c s₁ Bd hml hv
  obtain ⟨ha, hE, hH⟩ := hv
  have hx := Bd.exec
  have hb := Bd.bytes
  have hr := Bd.returns
  have hts : ∀ w ∈ lw_g, w.before args s = true := fun w hw => atoms_spec (ws := (.code y_Ns_becomeRootAlone b_Ns_becomeRootAlone 2 none :: lw_g)) Bd.pre w (List.mem_cons_of_mem _ hw)
  have hown : s.vm.findClass R_Ns = some m.cls := findClass_of_methodNamed Bd.named
  have hlocks := Bd.notSynchronized
  have hK := hE.1
  have hH0 := hH
  have hLo : hLc G.P [] := hLc_nil
  have hz : s.heap.size ≤ s.heap.size := Nat.le_refl _
  have hkp : kp [ns, rt] h h := kp_rf
  have hl := lv_entry [.ref ns] (n := 2) (Nat.le_of_ble_eq_true rfl)
  rw [show entryFrame m args 2 = F0 m 0 ((lg_sl [.ref ns] ++ List.replicate (2 - (lg_sl [.ref ns]).length) Slot.unset).toArray) [] from (by rw [ha]; exact lg_entry_eq m [.ref ns] 2)]
  generalize (lg_sl [.ref ns] ++ List.replicate (2 - (lg_sl [.ref ns]).length) Slot.unset).toArray = ls at hl ⊢
  have hl : lv_has ls 2 [(0, .ref ns)] := hl
  refine lv_aload_n hx hb d_Ns_becomeRootAlone_0 rfl (lv_at hl 0 rfl) ?_
  refine lv_iconst (v := 0) hx hb d_Ns_becomeRootAlone_1 (by decide) ?_
  refine hm_put (ci := 2) (v := .int 0) (ty := .int) (C := R_Ns) (T := F_Ns) (N := 4) hx hb hts ig_Ns t_Ns tk_Ns nm_Ns hown hK hH hLo f_ns rfl 2 (by decide) (hts _ mw_37) (fun _ h9 => h9) rfl (by decide +kernel) rfl rfl (Nat.le_of_ble_eq_true rfl) d_Ns_becomeRootAlone_2 (fun H1 locs hH z2 hLo => ?_)
  have hz : s.heap.size ≤ H1.size := by rw [z2]; exact hz
  obtain ⟨h3, e4⟩ : ∃ z, z = hu h ns (.inr (2, [.ref sl, .ref od, .int 0, .int 1])) := ⟨_, rfl⟩
  have hH : hm D vwCl G h3 H1 := by rw [e4]; exact hH
  have f_sl : h3 sl = some (.inl ((t 4), 30, .inr (.inr (.inr (.inr fs))))) := by rw [e4, hu_n (h_neA f_sl f_ns)]; exact f_sl
  have f_rt : h3 rt = some (.inr (1, [.int 0, .null, .int 1, .long 0, .int 0, .int 0, .int 0, .int 0, .int 0, .int 0, .int 1])) := by rw [e4, hu_n (h_neC f_rt f_ns (by decide))]; exact f_rt
  have f_ns : h3 ns = some (.inr (2, [.ref sl, .ref od, .int 0, .int 1])) := by rw [e4]; exact hu_s _ _ _
  have hkp : kp [ns, rt] h h3 := by rw [e4]; exact kp_put hkp (by simp)
  refine lv_aload_n hx hb d_Ns_becomeRootAlone_5 rfl (lv_at hl 0 rfl) ?_
  refine lv_iconst (v := 0) hx hb d_Ns_becomeRootAlone_6 (by decide) ?_
  refine hm_put (ci := 2) (v := .int 0) (ty := .int) (C := R_Ns) (T := F_Ns) (N := 4) hx hb hts ig_Ns t_Ns tk_Ns nm_Ns hown hK hH hLo f_ns rfl 3 (by decide) (hts _ mw_38) (fun _ h9 => h9) rfl (by decide +kernel) rfl rfl (Nat.le_of_ble_eq_true rfl) d_Ns_becomeRootAlone_7 (fun H5 locs hH z6 hLo => ?_)
  have hz : s.heap.size ≤ H5.size := by rw [z6]; exact hz
  obtain ⟨h7, e8⟩ : ∃ z, z = hu h3 ns (.inr (2, [.ref sl, .ref od, .int 0, .int 0])) := ⟨_, rfl⟩
  have hH : hm D vwCl G h7 H5 := by rw [e8]; exact hH
  have f_sl : h7 sl = some (.inl ((t 4), 30, .inr (.inr (.inr (.inr fs))))) := by rw [e8, hu_n (h_neA f_sl f_ns)]; exact f_sl
  have f_rt : h7 rt = some (.inr (1, [.int 0, .null, .int 1, .long 0, .int 0, .int 0, .int 0, .int 0, .int 0, .int 0, .int 1])) := by rw [e8, hu_n (h_neC f_rt f_ns (by decide))]; exact f_rt
  have f_ns : h7 ns = some (.inr (2, [.ref sl, .ref od, .int 0, .int 0])) := by rw [e8]; exact hu_s _ _ _
  have hkp : kp [ns, rt] h h7 := by rw [e8]; exact kp_put hkp (by simp)
  refine lv_aload_n hx hb d_Ns_becomeRootAlone_10 rfl (lv_at hl 0 rfl) ?_
  refine hm_callr (va_runV (As := []) (b := ns) (rest := []) ⟨hx, hb, hml, hown, hts⟩ (c_Nodes_appendR l D t G ak av h7 ns sl od rt fs f_ns f_sl f_rt hf0) ⟨cw9B 0 hts mw_329 mw_363 mw_187 rfl rfl (by decide +kernel) ⟨Nat.le_of_ble_eq_true rfl, Nat.le_of_ble_eq_true rfl⟩, hts _ mw_331, hts _ mw_332⟩ (hP_V (q := (R_Ns, F_Ns, 4)) kE_ok hE hK hH f_ns rfl) rfl rfl hl.1 rfl (lv_room (Nat.le_of_ble_eq_true rfl)) d_Ns_becomeRootAlone_11 ⟨Nat.le_of_ble_eq_true rfl, Nat.le_of_ble_eq_true rfl⟩) hLo (fun r9 h10 H11 locs hp13 hH z12 hLo => ?_)
  have hz : s.heap.size ≤ H11.size := Nat.le_trans hz z12
  obtain ⟨rfl, hk9, hr9⟩ := hp13
  have f_sl : h10 sl = some (.inl ((t 4), 30, .inr (.inr (.inr (.inr fs))))) := kp_at hk9 f_sl (nmc (h_neA f_sl f_ns) (nmc (h_neA f_sl f_rt) nm0))
  have hkp : kp [ns, rt] h h10 := kp_tr2 hkp hk9 (List.forall_mem_cons.mpr ⟨Or.inl (by simp), List.forall_mem_cons.mpr ⟨Or.inl (by simp), List.forall_mem_nil _⟩⟩)
  have f_rt : h10 rt = some (.inr (1, [.int 0, .null, .int 1, .long 0, .int 0, .int 0, .int 0, .int 0, .int 0, .int 0, .int 1])) := hr9
  refine W.eq (g2 := F0 m 14 ls [.ref rt]) rfl ?_
  refine lv_astore_n (lv' := [(1, .ref rt), (0, .ref ns)]) hx hb d_Ns_becomeRootAlone_14 rfl hl (by decide) rfl (fun ls hl => ?_)
  refine lv_aload_n hx hb d_Ns_becomeRootAlone_15 rfl (lv_at hl 0 rfl) ?_
  refine lv_ifnull hx hb d_Ns_becomeRootAlone_16 ?_
  refine lv_aload_n hx hb d_Ns_becomeRootAlone_19 rfl (lv_at hl 0 rfl) ?_
  refine lv_null hx hb d_Ns_becomeRootAlone_20 ?_
  refine lv_iconst (v := 1) hx hb d_Ns_becomeRootAlone_21 (by decide) ?_
  refine lv_lconst (v := 0) hx hb d_Ns_becomeRootAlone_22 (by decide) ?_
  refine hm_callv (va_runV (As := [.null, .int 1, .long 0]) (b := rt) (rest := []) ⟨hx, hb, hml, hown, hts⟩ (c_Node_becomeR l D t G ak av h10 rt f_rt) ⟨cw9B 3 hts mw_333 mw_364 mw_40 rfl rfl (by decide +kernel) ⟨Nat.le_of_ble_eq_true rfl, Nat.le_of_ble_eq_true rfl⟩, hts _ mw_335, hts _ mw_336⟩ (hP_V (q := (R_No, F_No, 11)) kE_ok hE hK hH f_rt rfl) rfl rfl hl.1 rfl (lv_room (Nat.le_of_ble_eq_true rfl)) d_Ns_becomeRootAlone_23 ⟨Nat.le_of_ble_eq_true rfl, Nat.le_of_ble_eq_true rfl⟩) hLo (fun h14 H15 locs hp17 hH z16 hLo => ?_)
  have hz : s.heap.size ≤ H15.size := Nat.le_trans hz z16
  have f_sl : h14 sl = some (.inl ((t 4), 30, .inr (.inr (.inr (.inr fs))))) := kp_at hp17 f_sl (nmc (h_neA f_sl f_rt) nm0)
  have hkp : kp [ns, rt] h h14 := kp_tr2 hkp hp17 (List.forall_mem_cons.mpr ⟨Or.inl (by simp), List.forall_mem_nil _⟩)
  exact W.vret hx hb hr (fun t9 ht hW => ⟨h14, rfl, hkp, by rw [ht]; exact hH, by rw [ht]; exact hz⟩) hLo d_Ns_becomeRootAlone_26

set_option maxHeartbeats 4000000 in
set_option maxRecDepth 100000 in
theorem c_Power_comeBack (l : Launch) (D : va_G) (t : Nat → ClassId) (G : hG) (ak av : Nat → Nat) (h : hM) (su : Nat) (sp : Int32) (f_su : h su = some (.inr (4, [.int (-1), .int 0, .int sp]))) : Met l y_Po_comeBack (.code y_Po_comeBack b_Po_comeBack 1 none :: lw_g) { frames := 0, cells := 0, slots := 0, locals := 0 } (hP (kE D t G ak av) D vwCl G h [.ref su]) (hQv D vwCl G (fun h' => True)) 0 0 G.P := by
  refine Met.ofW (cc := b_Po_comeBack) (maxL := 1) (ret := none) (by decide) rfl ?_
  intro p e s m args below meth c s₁ Bd hml hv
  obtain ⟨ha, hE, hH⟩ := hv
  have hx := Bd.exec
  have hb := Bd.bytes
  have hr := Bd.returns
  have hts : ∀ w ∈ lw_g, w.before args s = true := fun w hw => atoms_spec (ws := (.code y_Po_comeBack b_Po_comeBack 1 none :: lw_g)) Bd.pre w (List.mem_cons_of_mem _ hw)
  have hown : s.vm.findClass R_Po = some m.cls := findClass_of_methodNamed Bd.named
  have hlocks := Bd.notSynchronized
  have hK := hE.1
  have hH0 := hH
  have hLo : hLc G.P [] := hLc_nil
  have hz : s.heap.size ≤ s.heap.size := Nat.le_refl _
  have hkp : kp [su] h h := kp_rf
  have hl := lv_entry [.ref su] (n := 1) (Nat.le_of_ble_eq_true rfl)
  rw [show entryFrame m args 1 = F0 m 0 ((lg_sl [.ref su] ++ List.replicate (1 - (lg_sl [.ref su]).length) Slot.unset).toArray) [] from (by rw [ha]; exact lg_entry_eq m [.ref su] 1)]
  generalize (lg_sl [.ref su] ++ List.replicate (1 - (lg_sl [.ref su]).length) Slot.unset).toArray = ls at hl ⊢
  have hl : lv_has ls 1 [(0, .ref su)] := hl
  refine lv_aload_n hx hb d_Po_comeBack_0 rfl (lv_at hl 0 rfl) ?_
  refine hm_get (ci := 4) (v := .int 0) (C := R_Po) (T := F_Po) (N := 3) hx hb hts ig_Po hown hK hH f_su rfl 1 (by decide) (hts _ mw_4) (fun _ h9 => h9) rfl d_Po_comeBack_1 ?_
  refine lv_if_eq (tgt := 12) hx hb d_Po_comeBack_4 (by decide) (fun hc1 => ?_) (fun hc1 => absurd rfl hc1)
  refine lv_aload_n hx hb d_Po_comeBack_12 rfl (lv_at hl 0 rfl) ?_
  refine lv_iconst (v := 0) hx hb d_Po_comeBack_13 (by decide) ?_
  refine hm_put (ci := 4) (v := .int 0) (ty := .boolean) (C := R_Po) (T := F_Po) (N := 3) hx hb hts ig_Po t_Po tk_Po nm_Po hown hK hH hLo f_su rfl 1 (by decide) (hts _ mw_4) (fun _ h9 => h9) rfl (by decide +kernel) (by decide) (by decide) (Nat.le_of_ble_eq_true rfl) d_Po_comeBack_14 (fun H2 locs hH z3 hLo => ?_)
  have hz : s.heap.size ≤ H2.size := by rw [z3]; exact hz
  obtain ⟨h4, e5⟩ : ∃ z, z = hu h su (.inr (4, [.int (-1), .int 0, .int sp])) := ⟨_, rfl⟩
  have hH : hm D vwCl G h4 H2 := by rw [e5]; exact hH
  have f_su : h4 su = some (.inr (4, [.int (-1), .int 0, .int sp])) := by rw [e5]; exact hu_s _ _ _
  have hkp : kp [su] h h4 := by rw [e5]; exact kp_put hkp (by simp)
  exact W.vret hx hb hr (fun t9 ht hW => ⟨h4, rfl, trivial, by rw [ht]; exact hH, by rw [ht]; exact hz⟩) hLo d_Po_comeBack_17

set_option maxHeartbeats 4000000 in
set_option maxRecDepth 100000 in
theorem c_x_discover (l : Launch) (D : va_G) (t : Nat → ClassId) (G : hG) (ak av : Nat → Nat) (h : hM) (x n : Nat) (hX : FrX t h x n) : Met l y_Di_discover (.code y_Di_discover b_Di_discover 3 (some .int) :: lw_g) { frames := 3, cells := 0, slots := 0, locals := 68 } (hP (kE D t G ak av) D vwCl G h [.ref x]) (hQi D vwCl G (fun r h' => r = 0)) 0 0 G.P := by
  refine Met.ofW (cc := b_Di_discover) (maxL := 3) (ret := (some .int)) (by decide) rfl ?_
  intro p e s m args below meth c s₁ Bd hml hv
  obtain ⟨ha, hE, hH⟩ := hv
  have hx := Bd.exec
  have hb := Bd.bytes
  have hr := Bd.returns
  have hts : ∀ w ∈ lw_g, w.before args s = true := fun w hw => atoms_spec (ws := (.code y_Di_discover b_Di_discover 3 (some .int) :: lw_g)) Bd.pre w (List.mem_cons_of_mem _ hw)
  have hown : s.vm.findClass R_Di = some m.cls := findClass_of_methodNamed Bd.named
  have hlocks := Bd.notSynchronized
  have hK := hE.1
  have hH0 := hH
  have hLo : hLc G.P [] := hLc_nil
  have hz : s.heap.size ≤ s.heap.size := Nat.le_refl _
  have hkp : kp [] h h := kp_rf
  have hl := lv_entry [.ref x] (n := 3) (Nat.le_of_ble_eq_true rfl)
  rw [show entryFrame m args 3 = F0 m 0 ((lg_sl [.ref x] ++ List.replicate (3 - (lg_sl [.ref x]).length) Slot.unset).toArray) [] from (by rw [ha]; exact lg_entry_eq m [.ref x] 3)]
  generalize (lg_sl [.ref x] ++ List.replicate (3 - (lg_sl [.ref x]).length) Slot.unset).toArray = ls at hl ⊢
  have hl : lv_has ls 3 [(0, .ref x)] := hl
  obtain ⟨wr, rd, ns, op, sr, md, su, pg, pb, sl, od, sa, fs, g, fa, f_x, f_wr, f_su, f_pg, f_pb, f_ns, f_sl, f_od, hgf, hnd, f_md, f_sa, hrow, ne_sl_od, hn40, hn⟩ := hX
  obtain ⟨rt, hf0, f_rt⟩ := hnd.2 0 (by decide) (by decide)
  refine lv_iconst (v := 0) hx hb d_Di_discover_0 (by decide) ?_
  refine lv_istore_n (lv' := [(1, .int 0), (0, .ref x)]) hx hb d_Di_discover_1 rfl hl (by decide) rfl (fun ls hl => ?_)
  refine lv_aload_n hx hb d_Di_discover_2 rfl (lv_at hl 1 rfl) ?_
  refine hm_get (ci := 8) (v := .ref ns) (C := R_Di) (T := F_Di) (N := 9) hx hb hts ig_Di hown hK hH f_x rfl 2 (by decide) (hts _ mw_258) (fun _ h9 => h9) rfl d_Di_discover_3 ?_
  refine hm_callv (va_runV (As := []) (b := ns) (rest := []) ⟨hx, hb, hml, hown, hts⟩ (c_Nodes_rootAlone l D t G ak av h ns sl od rt fs f_ns f_sl f_rt hf0) ⟨cw9B 0 hts mw_365 mw_366 mw_187 rfl rfl (by decide +kernel) ⟨Nat.le_of_ble_eq_true rfl, Nat.le_of_ble_eq_true rfl⟩, hts _ mw_367, hts _ mw_368⟩ (hP_V (q := (R_Ns, F_Ns, 4)) kE_ok hE hK hH f_ns rfl) rfl rfl hl.1 rfl (lv_room (Nat.le_of_ble_eq_true rfl)) d_Di_discover_6 ⟨Nat.le_of_ble_eq_true rfl, Nat.le_of_ble_eq_true rfl⟩) hLo (fun h1 H2 locs hp4 hH z3 hLo => ?_)
  have hz : s.heap.size ≤ H2.size := Nat.le_trans hz z3
  have f_x : h1 x = some (.inr (8, [.ref wr, .ref rd, .ref ns, .ref md, .null, .int 0, .int 0, .ref op, .ref sr])) := kp_at hp4 f_x (nmc (h_neC f_x f_ns (by decide)) (nmc (h_neC f_x f_rt (by decide)) nm0))
  have f_wr : h1 wr = some (.inr (7, [.ref su, .ref pg])) := kp_at hp4 f_wr (nmc (h_neC f_wr f_ns (by decide)) (nmc (h_neC f_wr f_rt (by decide)) nm0))
  have f_su : h1 su = some (.inr (4, [.int (-1), .int 0, .int 0])) := kp_at hp4 f_su (nmc (h_neC f_su f_ns (by decide)) (nmc (h_neC f_su f_rt (by decide)) nm0))
  have f_pg : h1 pg = some (.inr (3, [.ref pb])) := kp_at hp4 f_pg (nmc (h_neC f_pg f_ns (by decide)) (nmc (h_neC f_pg f_rt (by decide)) nm0))
  have f_pb : h1 pb = some (.inl ((t 0), 2048, .inl (fun _ => 0))) := kp_at hp4 f_pb (nmc (h_neA f_pb f_ns) (nmc (h_neA f_pb f_rt) nm0))
  have f_sl : h1 sl = some (.inl ((t 4), 30, .inr (.inr (.inr (.inr fs))))) := kp_at hp4 f_sl (nmc (h_neA f_sl f_ns) (nmc (h_neA f_sl f_rt) nm0))
  have f_od : h1 od = some (.inl ((t 4), 30, .inr (.inr (.inr (.inr g))))) := kp_at hp4 f_od (nmc (h_neA f_od f_ns) (nmc (h_neA f_od f_rt) nm0))
  have f_md : h1 md = some (.inr (0, [.ref sa, .int (nI 0)])) := kp_at hp4 f_md (nmc (h_neC f_md f_ns (by decide)) (nmc (h_neC f_md f_rt (by decide)) nm0))
  have f_sa : h1 sa = some (.inl ((t 5), n, .inr (.inr (.inr (.inr fa))))) := kp_at hp4 f_sa (nmc (h_neA f_sa f_ns) (nmc (h_neA f_sa f_rt) nm0))
  refine lv_aload_n hx hb d_Di_discover_9 rfl (lv_at hl 1 rfl) ?_
  refine lv_iconst (v := 0) hx hb d_Di_discover_10 (by decide) ?_
  refine hm_put (ci := 8) (v := .int 0) (ty := .int) (C := R_Di) (T := F_Di) (N := 9) hx hb hts ig_Di t_Di tk_Di nm_Di hown hK hH hLo f_x rfl 5 (by decide) (hts _ mw_260) (fun _ h9 => h9) rfl (by decide +kernel) rfl rfl (Nat.le_of_ble_eq_true rfl) d_Di_discover_11 (fun H5 locs hH z6 hLo => ?_)
  have hz : s.heap.size ≤ H5.size := by rw [z6]; exact hz
  obtain ⟨h7, e8⟩ : ∃ z, z = hu h1 x (.inr (8, [.ref wr, .ref rd, .ref ns, .ref md, .null, .int 0, .int 0, .ref op, .ref sr])) := ⟨_, rfl⟩
  have hH : hm D vwCl G h7 H5 := by rw [e8]; exact hH
  have f_wr : h7 wr = some (.inr (7, [.ref su, .ref pg])) := by rw [e8, hu_n (h_neC f_wr f_x (by decide))]; exact f_wr
  have f_su : h7 su = some (.inr (4, [.int (-1), .int 0, .int 0])) := by rw [e8, hu_n (h_neC f_su f_x (by decide))]; exact f_su
  have f_pg : h7 pg = some (.inr (3, [.ref pb])) := by rw [e8, hu_n (h_neC f_pg f_x (by decide))]; exact f_pg
  have f_pb : h7 pb = some (.inl ((t 0), 2048, .inl (fun _ => 0))) := by rw [e8, hu_n (h_neA f_pb f_x)]; exact f_pb
  have f_sl : h7 sl = some (.inl ((t 4), 30, .inr (.inr (.inr (.inr fs))))) := by rw [e8, hu_n (h_neA f_sl f_x)]; exact f_sl
  have f_od : h7 od = some (.inl ((t 4), 30, .inr (.inr (.inr (.inr g))))) := by rw [e8, hu_n (h_neA f_od f_x)]; exact f_od
  have f_md : h7 md = some (.inr (0, [.ref sa, .int (nI 0)])) := by rw [e8, hu_n (h_neC f_md f_x (by decide))]; exact f_md
  have f_sa : h7 sa = some (.inl ((t 5), n, .inr (.inr (.inr (.inr fa))))) := by rw [e8, hu_n (h_neA f_sa f_x)]; exact f_sa
  have f_x : h7 x = some (.inr (8, [.ref wr, .ref rd, .ref ns, .ref md, .null, .int 0, .int 0, .ref op, .ref sr])) := by rw [e8]; exact hu_s _ _ _
  refine lv_iconst (v := 0) hx hb d_Di_discover_14 (by decide) ?_
  refine lv_istore_n (lv' := [(2, .int 0), (1, .int 0), (0, .ref x)]) hx hb d_Di_discover_15 rfl hl (by decide) rfl (fun ls hl => ?_)
  refine lv_iload_n hx hb d_Di_discover_16 rfl (lv_at hl 0 rfl) ?_
  refine lv_aload_n hx hb d_Di_discover_17 rfl (lv_at hl 2 rfl) ?_
  refine hm_get (ci := 8) (v := .ref md) (C := R_Di) (T := F_Di) (N := 9) hx hb hts ig_Di hown hK hH f_x rfl 3 (by decide) (hts _ mw_269) (fun _ h9 => h9) rfl d_Di_discover_18 ?_
  refine hm_get (ci := 0) (v := .int (nI 0)) (C := R_Me) (T := F_Me) (N := 2) hx hb hts ig_Me hown hK hH f_md rfl 1 (by decide) (hts _ mw_369) (fun _ h9 => h9) rfl d_Di_discover_21 ?_
  refine lv_icmp_ge (tgt := 96) hx hb d_Di_discover_24 (by decide) (fun hc9 => ?_) (fun hc9 => absurd (by decide) hc9)
  refine lv_aload_n hx hb d_Di_discover_96 rfl (lv_at hl 2 rfl) ?_
  refine hm_get (ci := 8) (v := .ref wr) (C := R_Di) (T := F_Di) (N := 9) hx hb hts ig_Di hown hK hH f_x rfl 0 (by decide) (hts _ mw_246) (fun _ h9 => h9) rfl d_Di_discover_97 ?_
  refine hm_get (ci := 7) (v := .ref su) (C := R_Wr) (T := F_Wr) (N := 2) hx hb hts ig_Wr hown hK hH f_wr rfl 0 (by decide) (hts _ mw_290) (fun _ h9 => h9) rfl d_Di_discover_100 ?_
  refine hm_callv (va_runV (As := []) (b := su) (rest := []) ⟨hx, hb, hml, hown, hts⟩ (c_Power_comeBack l D t G ak av h7 su 0 f_su) ⟨cw9B 0 hts mw_370 mw_371 mw_46 rfl rfl (by decide +kernel) ⟨Nat.le_of_ble_eq_true rfl, Nat.le_of_ble_eq_true rfl⟩, hts _ mw_372, hts _ mw_373⟩ (hP_V (q := (R_Po, F_Po, 3)) kE_ok hE hK hH f_su rfl) rfl rfl hl.1 rfl (lv_room (Nat.le_of_ble_eq_true rfl)) d_Di_discover_103 ⟨Nat.le_of_ble_eq_true rfl, Nat.le_of_ble_eq_true rfl⟩) hLo (fun h10 H11 locs hp13 hH z12 hLo => ?_)
  have hz : s.heap.size ≤ H11.size := Nat.le_trans hz z12
  refine lv_iload_n hx hb d_Di_discover_106 rfl (lv_at hl 1 rfl) ?_
  exact W.iret (v := 0) hx hb hr (fun t9 ht hW => ⟨0, h10, rfl, rfl, by rw [ht]; exact hH, by rw [ht]; exact hz⟩) hLo d_Di_discover_107

set_option maxHeartbeats 4000000 in
set_option maxRecDepth 100000 in
theorem c_Sector_erase (l : Launch) (D : va_G) (t : Nat → ClassId) (G : hG) (ak av : Nat → Nat) (h : hM) (sc : Nat) (f_sc : h sc = some (.inr (6, [.int 0, .int 0, .null]))) : Met l y_Se_erase (.code y_Se_erase b_Se_erase 1 none :: lw_g) { frames := 0, cells := 0, slots := 0, locals := 0 } (hP (kE D t G ak av) D vwCl G h [.ref sc]) (hQv D vwCl G (fun h' => kp [sc] h h' ∧ h' sc = some (.inr (6, [.int 0, .int 0, .null])))) 0 0 G.P := by
  refine Met.ofW (cc := b_Se_erase) (maxL := 1) (ret := none) (by decide) rfl ?_
  intro p e s m args below meth c s₁ Bd hml hv
  obtain ⟨ha, hE, hH⟩ := hv
  have hx := Bd.exec
  have hb := Bd.bytes
  have hr := Bd.returns
  have hts : ∀ w ∈ lw_g, w.before args s = true := fun w hw => atoms_spec (ws := (.code y_Se_erase b_Se_erase 1 none :: lw_g)) Bd.pre w (List.mem_cons_of_mem _ hw)
  have hown : s.vm.findClass R_Se = some m.cls := findClass_of_methodNamed Bd.named
  have hlocks := Bd.notSynchronized
  have hK := hE.1
  have hH0 := hH
  have hLo : hLc G.P [] := hLc_nil
  have hz : s.heap.size ≤ s.heap.size := Nat.le_refl _
  have hkp : kp [sc] h h := kp_rf
  have hl := lv_entry [.ref sc] (n := 1) (Nat.le_of_ble_eq_true rfl)
  rw [show entryFrame m args 1 = F0 m 0 ((lg_sl [.ref sc] ++ List.replicate (1 - (lg_sl [.ref sc]).length) Slot.unset).toArray) [] from (by rw [ha]; exact lg_entry_eq m [.ref sc] 1)]
  generalize (lg_sl [.ref sc] ++ List.replicate (1 - (lg_sl [.ref sc]).length) Slot.unset).toArray = ls at hl ⊢
  have hl : lv_has ls 1 [(0, .ref sc)] := hl
  refine lv_aload_n hx hb d_Se_erase_0 rfl (lv_at hl 0 rfl) ?_
  refine lv_iconst (v := 0) hx hb d_Se_erase_1 (by decide) ?_
  refine hm_put (ci := 6) (v := .int 0) (ty := .int) (C := R_Se) (T := F_Se) (N := 3) hx hb hts ig_Se t_Se tk_Se nm_Se hown hK hH hLo f_sc rfl 0 (by decide) (hts _ mw_7) (fun _ h9 => h9) rfl (by decide +kernel) rfl rfl (Nat.le_of_ble_eq_true rfl) d_Se_erase_2 (fun H1 locs hH z2 hLo => ?_)
  have hz : s.heap.size ≤ H1.size := by rw [z2]; exact hz
  obtain ⟨h3, e4⟩ : ∃ z, z = hu h sc (.inr (6, [.int 0, .int 0, .null])) := ⟨_, rfl⟩
  have hH : hm D vwCl G h3 H1 := by rw [e4]; exact hH
  have f_sc : h3 sc = some (.inr (6, [.int 0, .int 0, .null])) := by rw [e4]; exact hu_s _ _ _
  have hkp : kp [sc] h h3 := by rw [e4]; exact kp_put hkp (by simp)
  refine lv_aload_n hx hb d_Se_erase_5 rfl (lv_at hl 0 rfl) ?_
  refine lv_iconst (v := 0) hx hb d_Se_erase_6 (by decide) ?_
  refine hm_put (ci := 6) (v := .int 0) (ty := .boolean) (C := R_Se) (T := F_Se) (N := 3) hx hb hts ig_Se t_Se tk_Se nm_Se hown hK hH hLo f_sc rfl 1 (by decide) (hts _ mw_8) (fun _ h9 => h9) rfl (by decide +kernel) (by decide) (by decide) (Nat.le_of_ble_eq_true rfl) d_Se_erase_7 (fun H5 locs hH z6 hLo => ?_)
  have hz : s.heap.size ≤ H5.size := by rw [z6]; exact hz
  obtain ⟨h7, e8⟩ : ∃ z, z = hu h3 sc (.inr (6, [.int 0, .int 0, .null])) := ⟨_, rfl⟩
  have hH : hm D vwCl G h7 H5 := by rw [e8]; exact hH
  have f_sc : h7 sc = some (.inr (6, [.int 0, .int 0, .null])) := by rw [e8]; exact hu_s _ _ _
  have hkp : kp [sc] h h7 := by rw [e8]; exact kp_put hkp (by simp)
  exact W.vret hx hb hr (fun t9 ht hW => ⟨h7, rfl, ⟨hkp, f_sc⟩, by rw [ht]; exact hH, by rw [ht]; exact hz⟩) hLo d_Se_erase_10

set_option maxHeartbeats 4000000 in
set_option maxRecDepth 100000 in
theorem c_Medium_erase (l : Launch) (D : va_G) (t : Nat → ClassId) (G : hG) (ak av : Nat → Nat) (h : hM) (md sa n : Nat) (fa : Nat → Option Nat) (f_md : h md = some (.inr (0, [.ref sa, .int 0]))) (f_sa : h sa = some (.inl ((t 5), n, .inr (.inr (.inr (.inr fa)))))) (hrow : rowP (.inr (6, [.int 0, .int 0, .null])) fa 0 n h) (hn : n ≤ 200) : Met l y_Me_erase (.code y_Me_erase b_Me_erase 2 none :: lw_g) { frames := 1, cells := 0, slots := 0, locals := 20 } (hP (kE D t G ak av) D vwCl G h [.ref md]) (hQv D vwCl G (fun h' => kp [] h h' ∧ h' md = some (.inr (0, [.ref sa, .int 0])))) 0 0 G.P := by
  refine Met.ofW (cc := b_Me_erase) (maxL := 2) (ret := none) (by decide) rfl ?_
  intro p e s m args below meth c s₁ Bd hml hv
  obtain ⟨ha, hE, hH⟩ := hv
  have hx := Bd.exec
  have hb := Bd.bytes
  have hr := Bd.returns
  have hts : ∀ w ∈ lw_g, w.before args s = true := fun w hw => atoms_spec (ws := (.code y_Me_erase b_Me_erase 2 none :: lw_g)) Bd.pre w (List.mem_cons_of_mem _ hw)
  have hown : s.vm.findClass R_Me = some m.cls := findClass_of_methodNamed Bd.named
  have hlocks := Bd.notSynchronized
  have hK := hE.1
  have hH0 := hH
  have hLo : hLc G.P [] := hLc_nil
  have hz : s.heap.size ≤ s.heap.size := Nat.le_refl _
  have hkp : kp [md] h h := kp_rf
  have hl := lv_entry [.ref md] (n := 2) (Nat.le_of_ble_eq_true rfl)
  rw [show entryFrame m args 2 = F0 m 0 ((lg_sl [.ref md] ++ List.replicate (2 - (lg_sl [.ref md]).length) Slot.unset).toArray) [] from (by rw [ha]; exact lg_entry_eq m [.ref md] 2)]
  generalize (lg_sl [.ref md] ++ List.replicate (2 - (lg_sl [.ref md]).length) Slot.unset).toArray = ls at hl ⊢
  have hl : lv_has ls 2 [(0, .ref md)] := hl
  refine lv_iconst (v := 0) hx hb d_Me_erase_0 (by decide) ?_
  refine lv_topi (fun v1 e2 => ?_)
  obtain rfl : v1 = nI 0 := e2.trans (nI_0.symm)
  refine lv_istore_n (lv' := [(1, .int (nI 0)), (0, .ref md)]) hx hb d_Me_erase_1 rfl hl (by decide) rfl (fun ls hl => ?_)
  have f_md0 := f_md
  have f_sa0 := f_sa
  refine hm_loop (fun k ls H locs hh => ∃ (i9 : Nat), k = n - i9 ∧ lv_has ls 2 [(1, .int (nI i9)), (0, .ref md)] ∧ hm D vwCl G hh H ∧ s.heap.size ≤ H.size ∧ hLc G.P locs ∧ (kp [] h hh) ∧ (i9 ≤ n)) ?_ (hh := h) ⟨0, rfl, (lv_sub hl [0, 1] rfl), hH, hz, hLo, kp_rf, by omega⟩
  rintro k ls H locs hh ⟨i9, hk, hl, hH, hz, hLo, hkk, hi⟩ ih
  have f_md := kp_at hkk f_md0 nm0
  have f_sa := kp_at hkk f_sa0 nm0
  refine lv_iload_n hx hb d_Me_erase_2 rfl (lv_at hl 0 rfl) ?_
  refine lv_aload_n hx hb d_Me_erase_3 rfl (lv_at hl 1 rfl) ?_
  refine hm_get (ci := 0) (v := .ref sa) (C := R_Me) (T := F_Me) (N := 2) hx hb hts ig_Me hown hK hH f_md rfl 0 (by decide) (hts _ mw_28) (fun _ h9 => h9) rfl d_Me_erase_4 ?_
  refine hm_alen (v := nI n) hx hb hK hH 5 f_sa (ty := (.object "WriteOnceDisc$Sector")) rfl rfl d_Me_erase_7 ?_
  refine lv_icmp_ge (tgt := 26) hx hb d_Me_erase_8 (by decide) (fun hc3 => ?_) (fun hc3 => ?_)
  · skip
    have f_md9 := f_md
    refine lv_aload_n hx hb d_Me_erase_26 rfl (lv_at hl 1 rfl) ?_
    refine lv_iconst (v := 0) hx hb d_Me_erase_27 (by decide) ?_
    refine hm_put (ci := 0) (v := .int 0) (ty := .int) (C := R_Me) (T := F_Me) (N := 2) hx hb hts ig_Me t_Me tk_Me nm_Me hown hK hH hLo f_md rfl 1 (by decide) (hts _ mw_26) (fun _ h9 => h9) rfl (by decide +kernel) rfl rfl (Nat.le_of_ble_eq_true rfl) d_Me_erase_28 (fun H4 locs hH z5 hLo => ?_)
    have hz : s.heap.size ≤ H4.size := by rw [z5]; exact hz
    obtain ⟨h6, e7⟩ : ∃ z, z = hu hh md (.inr (0, [.ref sa, .int 0])) := ⟨_, rfl⟩
    have hH : hm D vwCl G h6 H4 := by rw [e7]; exact hH
    have f_sa : h6 sa = some (.inl ((t 5), n, .inr (.inr (.inr (.inr fa))))) := by rw [e7, hu_n (h_neA f_sa f_md)]; exact f_sa
    have f_md : h6 md = some (.inr (0, [.ref sa, .int 0])) := by rw [e7]; exact hu_s _ _ _
    have hkpz : kp [] h h6 := kp_same hkk f_md9 (by rw [e7]; exact kp_put kp_rf (by simp)) f_md
    exact W.vret hx hb hr (fun t9 ht hW => ⟨h6, rfl, ⟨hkpz, f_md⟩, by rw [ht]; exact hH, by rw [ht]; exact hz⟩) hLo d_Me_erase_31
  · skip
    have hin : i9 < n := by
      have h8 := mt (nI_leI (by omega) (by omega)).mpr hc3
      omega
    obtain ⟨sc, hsc, hs9⟩ := hrow.2 i9 (Nat.zero_le _) hin
    have f_sc := kp_at hkk hs9 nm0
    refine lv_aload_n hx hb d_Me_erase_11 rfl (lv_at hl 1 rfl) ?_
    refine hm_get (ci := 0) (v := .ref sa) (C := R_Me) (T := F_Me) (N := 2) hx hb hts ig_Me hown hK hH f_md rfl 0 (by decide) (hts _ mw_28) (fun _ h9 => h9) rfl d_Me_erase_12 ?_
    refine lv_iload_n hx hb d_Me_erase_15 rfl (lv_at hl 0 rfl) ?_
    refine hj_aald (v := .ref sc) hx hb hK hH 5 f_sa (C := R_Se) rfl i9 rfl hin (by omega) (by rw [hsc]; rfl) d_Me_erase_16 ?_
    refine hm_callv (va_runV (As := []) (b := sc) (rest := []) ⟨hx, hb, hml, hown, hts⟩ (c_Sector_erase l D t G ak av hh sc f_sc) ⟨cw9B 0 hts mw_374 mw_375 mw_30 rfl rfl (by decide +kernel) ⟨Nat.le_of_ble_eq_true rfl, Nat.le_of_ble_eq_true rfl⟩, hts _ mw_376, hts _ mw_377⟩ (hP_V (q := (R_Se, F_Se, 3)) kE_ok hE hK hH f_sc rfl) rfl rfl hl.1 rfl (lv_room (Nat.le_of_ble_eq_true rfl)) d_Me_erase_17 ⟨Nat.le_of_ble_eq_true rfl, Nat.le_of_ble_eq_true rfl⟩) hLo (fun h8 H9 locs hp11 hH z10 hLo => ?_)
    have hz : s.heap.size ≤ H9.size := Nat.le_trans hz z10
    obtain ⟨hk9, hq9⟩ := hp11
    have hkk : kp [] h h8 := kp_same hkk f_sc hk9 hq9
    refine lv_iinc (v := nI (i9 + 1)) (lv' := [(1, .int (nI (i9 + 1))), (0, .ref md)]) hx hb d_Me_erase_20 hl (k := 0) rfl (nI_1 i9) (by decide) rfl (fun ls hl => ?_)
    refine lv_goto (tgt := 2) hx hb d_Me_erase_23 (by decide) ?_
    exact ih (n - (i9 + 1)) ls _ locs _ (by rw [hk]; omega) ⟨(i9 + 1), rfl, (lv_sub hl [0, 1] rfl), hH, hz, hLo, hkk, by omega⟩

set_option maxHeartbeats 4000000 in
set_option maxRecDepth 100000 in
theorem c_Nodes_settle (l : Launch) (D : va_G) (t : Nat → ClassId) (G : hG) (ak av : Nat → Nat) (h : hM) (ns sl od rt : Nat) (fs : Nat → Option Nat) (sc np : Int32) (f_ns : h ns = some (.inr (2, [.ref sl, .ref od, .int 1, .int 1]))) (f_sl : h sl = some (.inl ((t 4), 30, .inr (.inr (.inr (.inr fs)))))) (f_rt : h rt = some (.inr (1, [.int 0, .null, .int 1, .long 0, .int 0, .int 0, .int 0, .int 0, .int 0, .int sc, .int np]))) (hf0 : fs 0 = some rt) : Met l y_Ns_settle (.code y_Ns_settle b_Ns_settle 2 none :: lw_g) { frames := 0, cells := 0, slots := 0, locals := 0 } (hP (kE D t G ak av) D vwCl G h [.ref ns]) (hQv D vwCl G (fun h' => h = h')) 0 0 G.P := by
  refine Met.ofW (cc := b_Ns_settle) (maxL := 2) (ret := none) (by decide) rfl ?_
  intro p e s m args below meth c s₁ Bd hml hv
  obtain ⟨ha, hE, hH⟩ := hv
  have hx := Bd.exec
  have hb := Bd.bytes
  have hr := Bd.returns
  have hts : ∀ w ∈ lw_g, w.before args s = true := fun w hw => atoms_spec (ws := (.code y_Ns_settle b_Ns_settle 2 none :: lw_g)) Bd.pre w (List.mem_cons_of_mem _ hw)
  have hown : s.vm.findClass R_Ns = some m.cls := findClass_of_methodNamed Bd.named
  have hlocks := Bd.notSynchronized
  have hK := hE.1
  have hH0 := hH
  have hLo : hLc G.P [] := hLc_nil
  have hz : s.heap.size ≤ s.heap.size := Nat.le_refl _
  have hkp : kp [] h h := kp_rf
  have hl := lv_entry [.ref ns] (n := 2) (Nat.le_of_ble_eq_true rfl)
  rw [show entryFrame m args 2 = F0 m 0 ((lg_sl [.ref ns] ++ List.replicate (2 - (lg_sl [.ref ns]).length) Slot.unset).toArray) [] from (by rw [ha]; exact lg_entry_eq m [.ref ns] 2)]
  generalize (lg_sl [.ref ns] ++ List.replicate (2 - (lg_sl [.ref ns]).length) Slot.unset).toArray = ls at hl ⊢
  have hl : lv_has ls 2 [(0, .ref ns)] := hl
  refine lv_iconst (v := 0) hx hb d_Ns_settle_0 (by decide) ?_
  refine lv_istore_n (lv' := [(1, .int 0), (0, .ref ns)]) hx hb d_Ns_settle_1 rfl hl (by decide) rfl (fun ls hl => ?_)
  refine lv_iload_n hx hb d_Ns_settle_2 rfl (lv_at hl 0 rfl) ?_
  refine lv_aload_n hx hb d_Ns_settle_3 rfl (lv_at hl 1 rfl) ?_
  refine hm_get (ci := 2) (v := .int 1) (C := R_Ns) (T := F_Ns) (N := 4) hx hb hts ig_Ns hown hK hH f_ns rfl 2 (by decide) (hts _ mw_37) (fun _ h9 => h9) rfl d_Ns_settle_4 ?_
  refine lv_icmp_ge (tgt := 46) hx hb d_Ns_settle_7 (by decide) (fun hc1 => absurd hc1 (by decide)) (fun hc1 => ?_)
  refine lv_aload_n hx hb d_Ns_settle_10 rfl (lv_at hl 1 rfl) ?_
  refine hm_get (ci := 2) (v := .ref sl) (C := R_Ns) (T := F_Ns) (N := 4) hx hb hts ig_Ns hown hK hH f_ns rfl 0 (by decide) (hts _ mw_35) (fun _ h9 => h9) rfl d_Ns_settle_11 ?_
  refine lv_iload_n hx hb d_Ns_settle_14 rfl (lv_at hl 0 rfl) ?_
  refine hj_aald (v := .ref rt) hx hb hK hH 4 f_sl (C := R_No) rfl 0 (by decide) (by decide) (by decide) (by rw [hf0]; rfl) d_Ns_settle_15 ?_
  refine hm_get (ci := 1) (v := .int 1) (C := R_No) (T := F_No) (N := 11) hx hb hts ig_No hown hK hH f_rt rfl 2 (by decide) (hts _ mw_185) (fun _ h9 => h9) rfl d_Ns_settle_16 ?_
  refine lv_if_ne (tgt := 40) hx hb d_Ns_settle_19 (by decide) (fun hc2 => ?_) (fun hc2 => absurd hc2 (by decide))
  refine lv_iinc (v := 0 + 1) (lv' := [(1, .int (0 + 1)), (0, .ref ns)]) hx hb d_Ns_settle_40 hl (k := 0) rfl (by rfl) (by decide) rfl (fun ls hl => ?_)
  refine lv_goto (tgt := 2) hx hb d_Ns_settle_43 (by decide) ?_
  refine lv_iload_n hx hb d_Ns_settle_2 rfl (lv_at hl 0 rfl) ?_
  refine lv_aload_n hx hb d_Ns_settle_3 rfl (lv_at hl 1 rfl) ?_
  refine hm_get (ci := 2) (v := .int 1) (C := R_Ns) (T := F_Ns) (N := 4) hx hb hts ig_Ns hown hK hH f_ns rfl 2 (by decide) (hts _ mw_37) (fun _ h9 => h9) rfl d_Ns_settle_4 ?_
  refine lv_icmp_ge (tgt := 46) hx hb d_Ns_settle_7 (by decide) (fun hc3 => ?_) (fun hc3 => absurd (by decide) hc3)
  exact W.vret hx hb hr (fun t9 ht hW => ⟨h, rfl, rfl, by rw [ht]; exact hH, by rw [ht]; exact hz⟩) hLo d_Ns_settle_46

set_option maxHeartbeats 4000000 in
set_option maxRecDepth 100000 in
theorem c_x_compact (l : Launch) (D : va_G) (t : Nat → ClassId) (G : hG) (ak av : Nat → Nat) (h : hM) (x n : Nat) (hX : FrX t h x n) : Met l y_Di_compact (.code y_Di_compact b_Di_compact 3 (some .int) :: lw_g) { frames := 9, cells := 208, slots := 13090, locals := 206 } (hP (kE D t G ak av) D vwCl G h [.ref x]) (hQi D vwCl G (fun r h' => r = 1)) 208 13090 G.P := by
  refine Met.ofW (cc := b_Di_compact) (maxL := 3) (ret := (some .int)) (by decide) rfl ?_
  intro p e s m args below meth c s₁ Bd hml hv
  obtain ⟨ha, hE, hH⟩ := hv
  have hx := Bd.exec
  have hb := Bd.bytes
  have hr := Bd.returns
  have hts : ∀ w ∈ lw_g, w.before args s = true := fun w hw => atoms_spec (ws := (.code y_Di_compact b_Di_compact 3 (some .int) :: lw_g)) Bd.pre w (List.mem_cons_of_mem _ hw)
  have hown : s.vm.findClass R_Di = some m.cls := findClass_of_methodNamed Bd.named
  have hlocks := Bd.notSynchronized
  have hK := hE.1
  have hH0 := hH
  have hLo : hLc G.P [] := hLc_nil
  have hz : s.heap.size ≤ s.heap.size := Nat.le_refl _
  have hkp : kp [] h h := kp_rf
  have hl := lv_entry [.ref x] (n := 3) (Nat.le_of_ble_eq_true rfl)
  rw [show entryFrame m args 3 = F0 m 0 ((lg_sl [.ref x] ++ List.replicate (3 - (lg_sl [.ref x]).length) Slot.unset).toArray) [] from (by rw [ha]; exact lg_entry_eq m [.ref x] 3)]
  generalize (lg_sl [.ref x] ++ List.replicate (3 - (lg_sl [.ref x]).length) Slot.unset).toArray = ls at hl ⊢
  have hl : lv_has ls 3 [(0, .ref x)] := hl
  obtain ⟨wr, rd, ns, op, sr, md, su, pg, pb, sl, od, sa, fs, g, fa, f_x, f_wr, f_su, f_pg, f_pb, f_ns, f_sl, f_od, hgf, hnd, f_md, f_sa, hrow, ne_sl_od, hn40, hn⟩ := hX
  obtain ⟨rt, hf0, f_rt⟩ := hnd.2 0 (by decide) (by decide)
  refine lv_aload_n hx hb d_Di_compact_0 rfl (lv_at hl 0 rfl) ?_
  refine hm_get (ci := 8) (v := .ref wr) (C := R_Di) (T := F_Di) (N := 9) hx hb hts ig_Di hown hK hH f_x rfl 0 (by decide) (hts _ mw_246) (fun _ h9 => h9) rfl d_Di_compact_1 ?_
  refine hm_get (ci := 7) (v := .ref su) (C := R_Wr) (T := F_Wr) (N := 2) hx hb hts ig_Wr hown hK hH f_wr rfl 0 (by decide) (hts _ mw_290) (fun _ h9 => h9) rfl d_Di_compact_4 ?_
  refine hm_get (ci := 4) (v := .int 0) (C := R_Po) (T := F_Po) (N := 3) hx hb hts ig_Po hown hK hH f_su rfl 1 (by decide) (hts _ mw_314) (fun _ h9 => h9) rfl d_Di_compact_7 ?_
  refine lv_if_eq (tgt := 16) hx hb d_Di_compact_10 (by decide) (fun hc1 => ?_) (fun hc1 => absurd rfl hc1)
  refine lv_aload_n hx hb d_Di_compact_16 rfl (lv_at hl 0 rfl) ?_
  refine hm_get (ci := 8) (v := .null) (C := R_Di) (T := F_Di) (N := 9) hx hb hts ig_Di hown hK hH f_x rfl 4 (by decide) (hts _ mw_259) (fun _ h9 => h9) rfl d_Di_compact_17 ?_
  refine lv_ifnonnullN hx hb d_Di_compact_20 ?_
  refine lv_aload_n hx hb d_Di_compact_23 rfl (lv_at hl 0 rfl) ?_
  refine hm_new (ci := 0) (fs := [.null, .int 0]) (C := R_Me) (T := F_Me) (N := 2) hx hb hts ig_Me t_Me tk_Me hown (hts _ mw_264) (hts _ mw_265) (hts _ mw_163) hK hH rfl df_Me (Nat.le_of_ble_eq_true rfl) (Nat.le_of_ble_eq_true rfl) d_Di_compact_24 (fun q3 H2 hq4 hn5 hH z6 => ?_)
  have hz : s.heap.size ≤ H2.size := by rw [z6]; exact Nat.le_succ_of_le hz
  obtain ⟨h7, e8⟩ : ∃ z, z = hu h q3 (.inr (0, [.null, .int 0])) := ⟨_, rfl⟩
  have hH : hm D vwCl G h7 H2 := by rw [e8]; exact hH
  have ne_x_q3 : x ≠ q3 := h_nf hn5 f_x
  have f_x : h7 x = some (.inr (8, [.ref wr, .ref rd, .ref ns, .ref md, .null, .int 0, .int 0, .ref op, .ref sr])) := by rw [e8, hu_n ne_x_q3]; exact f_x
  have ne_wr_q3 : wr ≠ q3 := h_nf hn5 f_wr
  have f_wr : h7 wr = some (.inr (7, [.ref su, .ref pg])) := by rw [e8, hu_n ne_wr_q3]; exact f_wr
  have ne_su_q3 : su ≠ q3 := h_nf hn5 f_su
  have f_su : h7 su = some (.inr (4, [.int (-1), .int 0, .int 0])) := by rw [e8, hu_n ne_su_q3]; exact f_su
  have ne_pg_q3 : pg ≠ q3 := h_nf hn5 f_pg
  have f_pg : h7 pg = some (.inr (3, [.ref pb])) := by rw [e8, hu_n ne_pg_q3]; exact f_pg
  have ne_pb_q3 : pb ≠ q3 := h_nf hn5 f_pb
  have f_pb : h7 pb = some (.inl ((t 0), 2048, .inl (fun _ => 0))) := by rw [e8, hu_n ne_pb_q3]; exact f_pb
  have ne_ns_q3 : ns ≠ q3 := h_nf hn5 f_ns
  have f_ns : h7 ns = some (.inr (2, [.ref sl, .ref od, .int 1, .int 1])) := by rw [e8, hu_n ne_ns_q3]; exact f_ns
  have ne_sl_q3 : sl ≠ q3 := h_nf hn5 f_sl
  have f_sl : h7 sl = some (.inl ((t 4), 30, .inr (.inr (.inr (.inr fs))))) := by rw [e8, hu_n ne_sl_q3]; exact f_sl
  have ne_od_q3 : od ≠ q3 := h_nf hn5 f_od
  have f_od : h7 od = some (.inl ((t 4), 30, .inr (.inr (.inr (.inr g))))) := by rw [e8, hu_n ne_od_q3]; exact f_od
  have ne_md_q3 : md ≠ q3 := h_nf hn5 f_md
  have f_md : h7 md = some (.inr (0, [.ref sa, .int (nI 0)])) := by rw [e8, hu_n ne_md_q3]; exact f_md
  have ne_sa_q3 : sa ≠ q3 := h_nf hn5 f_sa
  have f_sa : h7 sa = some (.inl ((t 5), n, .inr (.inr (.inr (.inr fa))))) := by rw [e8, hu_n ne_sa_q3]; exact f_sa
  have ne_rt_q3 : rt ≠ q3 := h_nf hn5 f_rt
  have f_rt : h7 rt = some (.inr (1, [.int 0, .null, .int 1, .long 0, .int 0, .int 0, .int 0, .int 0, .int 0, .int 0, .int 1])) := by rw [e8, hu_n ne_rt_q3]; exact f_rt
  have f_m2 : h7 q3 = some (.inr (0, [.null, .int 0])) := by rw [e8]; exact hu_s _ _ _
  refine lv_dup hx hb d_Di_compact_27 rfl ?_
  refine lv_aload_n hx hb d_Di_compact_28 rfl (lv_at hl 0 rfl) ?_
  refine hm_get (ci := 8) (v := .ref md) (C := R_Di) (T := F_Di) (N := 9) hx hb hts ig_Di hown hK hH f_x rfl 3 (by decide) (hts _ mw_269) (fun _ h9 => h9) rfl d_Di_compact_29 ?_
  refine hm_get (ci := 0) (v := .ref sa) (C := R_Me) (T := F_Me) (N := 2) hx hb hts ig_Me hown hK hH f_md rfl 0 (by decide) (hts _ mw_294) (fun _ h9 => h9) rfl d_Di_compact_32 ?_
  refine hm_alen (v := nI n) hx hb hK hH 5 f_sa (ty := (.object "WriteOnceDisc$Sector")) rfl rfl d_Di_compact_35 ?_
  refine hm_callv (va_runI (As := [.int (nI n)]) (b := q3) (rest := [.ref q3, .ref x]) ⟨hx, hb, hml, hown, hts⟩ (c_Medium_init l D t G ak av h7 q3 n f_m2 hn) ⟨cw9B 1 hts mw_266 mw_267 mw_163 rfl rfl (by decide +kernel) ⟨Nat.le_of_ble_eq_true rfl, Nat.le_of_ble_eq_true rfl⟩, rfl, hts _ mw_268⟩ (hP_S kE_ok hE hH) rfl rfl hl.1 rfl (lv_room (Nat.le_of_ble_eq_true rfl)) d_Di_compact_36 ⟨Nat.le_of_ble_eq_true rfl, Nat.le_of_ble_eq_true rfl⟩) hLo (fun h9 H10 locs hp12 hH z11 hLo => ?_)
  have hz : s.heap.size ≤ H10.size := Nat.le_trans hz z11
  obtain ⟨hk9, sa2, fa2, hq9, ha9, hrow2⟩ := hp12
  have f_x : h9 x = some (.inr (8, [.ref wr, .ref rd, .ref ns, .ref md, .null, .int 0, .int 0, .ref op, .ref sr])) := kp_at hk9 f_x (nmc ne_x_q3 nm0)
  have f_wr : h9 wr = some (.inr (7, [.ref su, .ref pg])) := kp_at hk9 f_wr (nmc ne_wr_q3 nm0)
  have f_su : h9 su = some (.inr (4, [.int (-1), .int 0, .int 0])) := kp_at hk9 f_su (nmc ne_su_q3 nm0)
  have f_pg : h9 pg = some (.inr (3, [.ref pb])) := kp_at hk9 f_pg (nmc ne_pg_q3 nm0)
  have f_pb : h9 pb = some (.inl ((t 0), 2048, .inl (fun _ => 0))) := kp_at hk9 f_pb (nmc ne_pb_q3 nm0)
  have f_ns : h9 ns = some (.inr (2, [.ref sl, .ref od, .int 1, .int 1])) := kp_at hk9 f_ns (nmc ne_ns_q3 nm0)
  have f_sl : h9 sl = some (.inl ((t 4), 30, .inr (.inr (.inr (.inr fs))))) := kp_at hk9 f_sl (nmc ne_sl_q3 nm0)
  have f_od : h9 od = some (.inl ((t 4), 30, .inr (.inr (.inr (.inr g))))) := kp_at hk9 f_od (nmc ne_od_q3 nm0)
  have f_md : h9 md = some (.inr (0, [.ref sa, .int (nI 0)])) := kp_at hk9 f_md (nmc ne_md_q3 nm0)
  have f_sa : h9 sa = some (.inl ((t 5), n, .inr (.inr (.inr (.inr fa))))) := kp_at hk9 f_sa (nmc ne_sa_q3 nm0)
  have f_rt : h9 rt = some (.inr (1, [.int 0, .null, .int 1, .long 0, .int 0, .int 0, .int 0, .int 0, .int 0, .int 0, .int 1])) := kp_at hk9 f_rt (nmc ne_rt_q3 nm0)
  have f_m2 : h9 q3 = some (.inr (0, [.ref sa2, .int 0])) := hq9
  have f_sa2 : h9 sa2 = some (.inl ((t 5), n, .inr (.inr (.inr (.inr fa2))))) := ha9
  refine hm_put (ci := 8) (v := .ref q3) (ty := (.object "WriteOnceDisc$Medium")) (C := R_Di) (T := F_Di) (N := 9) hx hb hts ig_Di t_Di tk_Di nm_Di hown hK hH hLo f_x rfl 4 (by decide) (hts _ mw_259) (fun _ h9 => h9) rfl (by decide +kernel) rfl rfl (Nat.le_of_ble_eq_true rfl) d_Di_compact_39 (fun H13 locs hH z14 hLo => ?_)
  have hz : s.heap.size ≤ H13.size := by rw [z14]; exact hz
  obtain ⟨h15, e16⟩ : ∃ z, z = hu h9 x (.inr (8, [.ref wr, .ref rd, .ref ns, .ref md, .ref q3, .int 0, .int 0, .ref op, .ref sr])) := ⟨_, rfl⟩
  have hH : hm D vwCl G h15 H13 := by rw [e16]; exact hH
  have hrow2 : rowP (.inr (6, [.int 0, .int 0, .null])) fa2 0 n h15 := by rw [e16]; exact rowP_put hrow2 (by rw [f_x]; simp)
  have f_wr : h15 wr = some (.inr (7, [.ref su, .ref pg])) := by rw [e16, hu_n (h_neC f_wr f_x (by decide))]; exact f_wr
  have f_su : h15 su = some (.inr (4, [.int (-1), .int 0, .int 0])) := by rw [e16, hu_n (h_neC f_su f_x (by decide))]; exact f_su
  have f_pg : h15 pg = some (.inr (3, [.ref pb])) := by rw [e16, hu_n (h_neC f_pg f_x (by decide))]; exact f_pg
  have f_pb : h15 pb = some (.inl ((t 0), 2048, .inl (fun _ => 0))) := by rw [e16, hu_n (h_neA f_pb f_x)]; exact f_pb
  have f_ns : h15 ns = some (.inr (2, [.ref sl, .ref od, .int 1, .int 1])) := by rw [e16, hu_n (h_neC f_ns f_x (by decide))]; exact f_ns
  have f_sl : h15 sl = some (.inl ((t 4), 30, .inr (.inr (.inr (.inr fs))))) := by rw [e16, hu_n (h_neA f_sl f_x)]; exact f_sl
  have f_od : h15 od = some (.inl ((t 4), 30, .inr (.inr (.inr (.inr g))))) := by rw [e16, hu_n (h_neA f_od f_x)]; exact f_od
  have f_rt : h15 rt = some (.inr (1, [.int 0, .null, .int 1, .long 0, .int 0, .int 0, .int 0, .int 0, .int 0, .int 0, .int 1])) := by rw [e16, hu_n (h_neC f_rt f_x (by decide))]; exact f_rt
  have f_m2 : h15 q3 = some (.inr (0, [.ref sa2, .int 0])) := by rw [e16, hu_n (Ne.symm ne_x_q3)]; exact f_m2
  have f_sa2 : h15 sa2 = some (.inl ((t 5), n, .inr (.inr (.inr (.inr fa2))))) := by rw [e16, hu_n (h_neA f_sa2 f_x)]; exact f_sa2
  have f_x : h15 x = some (.inr (8, [.ref wr, .ref rd, .ref ns, .ref md, .ref q3, .int 0, .int 0, .ref op, .ref sr])) := by rw [e16]; exact hu_s _ _ _
  refine lv_aload_n hx hb d_Di_compact_42 rfl (lv_at hl 0 rfl) ?_
  refine hm_get (ci := 8) (v := .ref q3) (C := R_Di) (T := F_Di) (N := 9) hx hb hts ig_Di hown hK hH f_x rfl 4 (by decide) (hts _ mw_259) (fun _ h9 => h9) rfl d_Di_compact_43 ?_
  refine hm_callv (va_runV (As := []) (b := q3) (rest := []) ⟨hx, hb, hml, hown, hts⟩ (c_Medium_erase l D t G ak av h15 q3 sa2 n fa2 f_m2 f_sa2 hrow2 hn) ⟨cw9B 0 hts mw_378 mw_379 mw_163 rfl rfl (by decide +kernel) ⟨Nat.le_of_ble_eq_true rfl, Nat.le_of_ble_eq_true rfl⟩, hts _ mw_380, hts _ mw_381⟩ (hP_V (q := (R_Me, F_Me, 2)) kE_ok hE hK hH f_m2 rfl) rfl rfl hl.1 rfl (lv_room (Nat.le_of_ble_eq_true rfl)) d_Di_compact_46 ⟨Nat.le_of_ble_eq_true rfl, Nat.le_of_ble_eq_true rfl⟩) hLo (fun h17 H18 locs hp20 hH z19 hLo => ?_)
  have hz : s.heap.size ≤ H18.size := Nat.le_trans hz z19
  obtain ⟨hk9, hm9⟩ := hp20
  have hrow2 : rowP (.inr (6, [.int 0, .int 0, .null])) fa2 0 n h17 := rowP_kp hrow2 hk9 (List.forall_mem_nil _)
  have f_x : h17 x = some (.inr (8, [.ref wr, .ref rd, .ref ns, .ref md, .ref q3, .int 0, .int 0, .ref op, .ref sr])) := kp_at hk9 f_x nm0
  have f_wr : h17 wr = some (.inr (7, [.ref su, .ref pg])) := kp_at hk9 f_wr nm0
  have f_su : h17 su = some (.inr (4, [.int (-1), .int 0, .int 0])) := kp_at hk9 f_su nm0
  have f_pg : h17 pg = some (.inr (3, [.ref pb])) := kp_at hk9 f_pg nm0
  have f_pb : h17 pb = some (.inl ((t 0), 2048, .inl (fun _ => 0))) := kp_at hk9 f_pb nm0
  have f_ns : h17 ns = some (.inr (2, [.ref sl, .ref od, .int 1, .int 1])) := kp_at hk9 f_ns nm0
  have f_sl : h17 sl = some (.inl ((t 4), 30, .inr (.inr (.inr (.inr fs))))) := kp_at hk9 f_sl nm0
  have f_od : h17 od = some (.inl ((t 4), 30, .inr (.inr (.inr (.inr g))))) := kp_at hk9 f_od nm0
  have f_rt : h17 rt = some (.inr (1, [.int 0, .null, .int 1, .long 0, .int 0, .int 0, .int 0, .int 0, .int 0, .int 0, .int 1])) := kp_at hk9 f_rt nm0
  have f_m2 : h17 q3 = some (.inr (0, [.ref sa2, .int 0])) := kp_at hk9 f_m2 nm0
  have f_sa2 : h17 sa2 = some (.inl ((t 5), n, .inr (.inr (.inr (.inr fa2))))) := kp_at hk9 f_sa2 nm0
  refine lv_aload_n hx hb d_Di_compact_49 rfl (lv_at hl 0 rfl) ?_
  refine hm_get (ci := 8) (v := .ref wr) (C := R_Di) (T := F_Di) (N := 9) hx hb hts ig_Di hown hK hH f_x rfl 0 (by decide) (hts _ mw_246) (fun _ h9 => h9) rfl d_Di_compact_50 ?_
  refine lv_aload_n hx hb d_Di_compact_53 rfl (lv_at hl 0 rfl) ?_
  refine hm_get (ci := 8) (v := .ref ns) (C := R_Di) (T := F_Di) (N := 9) hx hb hts ig_Di hown hK hH f_x rfl 2 (by decide) (hts _ mw_258) (fun _ h9 => h9) rfl d_Di_compact_54 ?_
  refine lv_aload_n hx hb d_Di_compact_57 rfl (lv_at hl 0 rfl) ?_
  refine hm_get (ci := 8) (v := .ref md) (C := R_Di) (T := F_Di) (N := 9) hx hb hts ig_Di hown hK hH f_x rfl 3 (by decide) (hts _ mw_269) (fun _ h9 => h9) rfl d_Di_compact_58 ?_
  refine lv_aload_n hx hb d_Di_compact_61 rfl (lv_at hl 0 rfl) ?_
  refine hm_get (ci := 8) (v := .ref q3) (C := R_Di) (T := F_Di) (N := 9) hx hb hts ig_Di hown hK hH f_x rfl 4 (by decide) (hts _ mw_259) (fun _ h9 => h9) rfl d_Di_compact_62 ?_
  refine hm_calli (va_runV (As := [.ref ns, .ref md, .ref q3]) (b := wr) (rest := []) ⟨hx, hb, hml, hown, hts⟩ (c_Writer_allFiles l D t G ak av h17 wr ns sl od rt md q3 fs f_ns f_sl f_rt hf0) ⟨cw9B 3 hts mw_382 mw_383 mw_221 rfl rfl (by decide +kernel) ⟨Nat.le_of_ble_eq_true rfl, Nat.le_of_ble_eq_true rfl⟩, hts _ mw_384, hts _ mw_385⟩ (hP_V (q := (R_Wr, F_Wr, 2)) kE_ok hE hK hH f_wr rfl) rfl rfl hl.1 rfl (lv_room (Nat.le_of_ble_eq_true rfl)) d_Di_compact_65 ⟨Nat.le_of_ble_eq_true rfl, Nat.le_of_ble_eq_true rfl⟩) hLo (fun r21 h22 H23 locs hp25 hH z24 hLo => ?_)
  have hz : s.heap.size ≤ H23.size := Nat.le_trans hz z24
  obtain ⟨rfl, hk9, hr9⟩ := hp25
  have hrow2 : rowP (.inr (6, [.int 0, .int 0, .null])) fa2 0 n h22 := rowP_kp hrow2 hk9 (List.forall_mem_cons.mpr ⟨by rw [f_rt]; simp, List.forall_mem_nil _⟩)
  have f_x : h22 x = some (.inr (8, [.ref wr, .ref rd, .ref ns, .ref md, .ref q3, .int 0, .int 0, .ref op, .ref sr])) := kp_at hk9 f_x (nmc (h_neC f_x f_rt (by decide)) nm0)
  have f_wr : h22 wr = some (.inr (7, [.ref su, .ref pg])) := kp_at hk9 f_wr (nmc (h_neC f_wr f_rt (by decide)) nm0)
  have f_su : h22 su = some (.inr (4, [.int (-1), .int 0, .int 0])) := kp_at hk9 f_su (nmc (h_neC f_su f_rt (by decide)) nm0)
  have f_pg : h22 pg = some (.inr (3, [.ref pb])) := kp_at hk9 f_pg (nmc (h_neC f_pg f_rt (by decide)) nm0)
  have f_pb : h22 pb = some (.inl ((t 0), 2048, .inl (fun _ => 0))) := kp_at hk9 f_pb (nmc (h_neA f_pb f_rt) nm0)
  have f_ns : h22 ns = some (.inr (2, [.ref sl, .ref od, .int 1, .int 1])) := kp_at hk9 f_ns (nmc (h_neC f_ns f_rt (by decide)) nm0)
  have f_sl : h22 sl = some (.inl ((t 4), 30, .inr (.inr (.inr (.inr fs))))) := kp_at hk9 f_sl (nmc (h_neA f_sl f_rt) nm0)
  have f_od : h22 od = some (.inl ((t 4), 30, .inr (.inr (.inr (.inr g))))) := kp_at hk9 f_od (nmc (h_neA f_od f_rt) nm0)
  have f_m2 : h22 q3 = some (.inr (0, [.ref sa2, .int 0])) := kp_at hk9 f_m2 (nmc (Ne.symm ne_rt_q3) nm0)
  have f_sa2 : h22 sa2 = some (.inl ((t 5), n, .inr (.inr (.inr (.inr fa2))))) := kp_at hk9 f_sa2 (nmc (h_neA f_sa2 f_rt) nm0)
  have f_rt : h22 rt = some (.inr (1, [.int 0, .null, .int 1, .long 0, .int 0, .int 0, .int 0, .int 0, .int 0, .int 0, .int 1])) := hr9
  refine lv_istore_n (lv' := [(1, .int 1), (0, .ref x)]) hx hb d_Di_compact_68 rfl hl (by decide) rfl (fun ls hl => ?_)
  refine lv_iload_n hx hb d_Di_compact_69 rfl (lv_at hl 0 rfl) ?_
  refine lv_iconst (v := 1) hx hb d_Di_compact_70 (by decide) ?_
  refine lv_icmp_ne (tgt := 91) hx hb d_Di_compact_71 (by decide) (fun hc26 => absurd rfl hc26) (fun hc26 => ?_)
  refine lv_aload_n hx hb d_Di_compact_74 rfl (lv_at hl 1 rfl) ?_
  refine hm_get (ci := 8) (v := .ref wr) (C := R_Di) (T := F_Di) (N := 9) hx hb hts ig_Di hown hK hH f_x rfl 0 (by decide) (hts _ mw_246) (fun _ h9 => h9) rfl d_Di_compact_75 ?_
  refine lv_aload_n hx hb d_Di_compact_78 rfl (lv_at hl 1 rfl) ?_
  refine hm_get (ci := 8) (v := .ref ns) (C := R_Di) (T := F_Di) (N := 9) hx hb hts ig_Di hown hK hH f_x rfl 2 (by decide) (hts _ mw_258) (fun _ h9 => h9) rfl d_Di_compact_79 ?_
  refine lv_aload_n hx hb d_Di_compact_82 rfl (lv_at hl 1 rfl) ?_
  refine hm_get (ci := 8) (v := .ref q3) (C := R_Di) (T := F_Di) (N := 9) hx hb hts ig_Di hown hK hH f_x rfl 4 (by decide) (hts _ mw_259) (fun _ h9 => h9) rfl d_Di_compact_83 ?_
  refine lv_iconst (v := 1) hx hb d_Di_compact_86 (by decide) ?_
  have f_m2 : h22 q3 = some (.inr (0, [.ref sa2, .int (nI 0)])) := by rw [nI_0]; exact f_m2
  refine hm_calli (va_runV (As := [.ref ns, .ref q3, .int 1]) (b := wr) (rest := []) ⟨hx, hb, hml, hown, hts⟩ (c_Writer_session l D t G ak av h22 wr pg pb ns sl od rt q3 sa2 su n fs g fa2 0 1 0 1 f_wr f_pg f_ns f_sl f_od f_rt f_m2 f_sa2 f_su ⟨_, sb_fit0, f_pb⟩ hf0 hrow2 hn40 hn ne_sl_od) ⟨cw9B 3 hts mw_359 mw_360 mw_221 rfl rfl (by decide +kernel) ⟨Nat.le_of_ble_eq_true rfl, Nat.le_of_ble_eq_true rfl⟩, hts _ mw_361, hts _ mw_362⟩ (hP_V (q := (R_Wr, F_Wr, 2)) kE_ok hE hK hH f_wr rfl) rfl rfl hl.1 rfl (lv_room (Nat.le_of_ble_eq_true rfl)) d_Di_compact_87 ⟨Nat.le_of_ble_eq_true rfl, Nat.le_of_ble_eq_true rfl⟩) hLo (fun r27 h28 H29 locs hp31 hH z30 hLo => ?_)
  have hz : s.heap.size ≤ H29.size := Nat.le_trans hz z30
  obtain ⟨rfl, hk9, hr9⟩ := hp31
  have f_x : h28 x = some (.inr (8, [.ref wr, .ref rd, .ref ns, .ref md, .ref q3, .int 0, .int 0, .ref op, .ref sr])) := kx_at hk9 f_x (nmc (Ne.symm (h_neA f_pb f_x)) (nmc (h_neC f_x f_rt (by decide)) (nmc (h_neC f_x f_m2 (by decide)) (nmc (h_neC f_x f_su (by decide)) (nmc (Ne.symm (h_neA f_od f_x)) nm0))))) (by simp)
  have f_ns : h28 ns = some (.inr (2, [.ref sl, .ref od, .int 1, .int 1])) := kx_at hk9 f_ns (nmc (Ne.symm (h_neA f_pb f_ns)) (nmc (h_neC f_ns f_rt (by decide)) (nmc (h_neC f_ns f_m2 (by decide)) (nmc (h_neC f_ns f_su (by decide)) (nmc (Ne.symm (h_neA f_od f_ns)) nm0))))) (by simp)
  have f_sl : h28 sl = some (.inl ((t 4), 30, .inr (.inr (.inr (.inr fs))))) := kx_at hk9 f_sl (nmc (h_neK (k1 := 4) (k2 := 0) f_sl f_pb rfl rfl (by decide)) (nmc (h_neA f_sl f_rt) (nmc (h_neA f_sl f_m2) (nmc (h_neA f_sl f_su) (nmc ne_sl_od nm0))))) (by simp)
  have f_rt : h28 rt = some (.inr (1, [.int 0, .null, .int 1, .long 0, .int 0, .int 0, .int 0, .int 0, .int 0, .int 20, .int (0 + 1)])) := hr9
  refine lv_istore_n (lv' := [(1, .int 1), (0, .ref x)]) hx hb d_Di_compact_90 rfl hl (by decide) rfl (fun ls hl => ?_)
  refine lv_iload_n hx hb d_Di_compact_91 rfl (lv_at hl 0 rfl) ?_
  refine lv_iconst (v := 1) hx hb d_Di_compact_92 (by decide) ?_
  refine lv_icmp_eq (tgt := 98) hx hb d_Di_compact_93 (by decide) (fun hc32 => ?_) (fun hc32 => absurd rfl hc32)
  refine lv_aload_n hx hb d_Di_compact_98 rfl (lv_at hl 1 rfl) ?_
  refine hm_get (ci := 8) (v := .ref md) (C := R_Di) (T := F_Di) (N := 9) hx hb hts ig_Di hown hK hH f_x rfl 3 (by decide) (hts _ mw_269) (fun _ h9 => h9) rfl d_Di_compact_99 ?_
  refine lv_astore_n (lv' := [(2, .ref md), (1, .int 1), (0, .ref x)]) hx hb d_Di_compact_102 rfl hl (by decide) rfl (fun ls hl => ?_)
  refine lv_aload_n hx hb d_Di_compact_103 rfl (lv_at hl 2 rfl) ?_
  refine lv_aload_n hx hb d_Di_compact_104 rfl (lv_at hl 2 rfl) ?_
  refine hm_get (ci := 8) (v := .ref q3) (C := R_Di) (T := F_Di) (N := 9) hx hb hts ig_Di hown hK hH f_x rfl 4 (by decide) (hts _ mw_259) (fun _ h9 => h9) rfl d_Di_compact_105 ?_
  refine hm_put (ci := 8) (v := .ref q3) (ty := (.object "WriteOnceDisc$Medium")) (C := R_Di) (T := F_Di) (N := 9) hx hb hts ig_Di t_Di tk_Di nm_Di hown hK hH hLo f_x rfl 3 (by decide) (hts _ mw_269) (fun _ h9 => h9) rfl (by decide +kernel) rfl rfl (Nat.le_of_ble_eq_true rfl) d_Di_compact_108 (fun H33 locs hH z34 hLo => ?_)
  have hz : s.heap.size ≤ H33.size := by rw [z34]; exact hz
  obtain ⟨h35, e36⟩ : ∃ z, z = hu h28 x (.inr (8, [.ref wr, .ref rd, .ref ns, .ref q3, .ref q3, .int 0, .int 0, .ref op, .ref sr])) := ⟨_, rfl⟩
  have hH : hm D vwCl G h35 H33 := by rw [e36]; exact hH
  have f_ns : h35 ns = some (.inr (2, [.ref sl, .ref od, .int 1, .int 1])) := by rw [e36, hu_n (h_neC f_ns f_x (by decide))]; exact f_ns
  have f_sl : h35 sl = some (.inl ((t 4), 30, .inr (.inr (.inr (.inr fs))))) := by rw [e36, hu_n (h_neA f_sl f_x)]; exact f_sl
  have f_rt : h35 rt = some (.inr (1, [.int 0, .null, .int 1, .long 0, .int 0, .int 0, .int 0, .int 0, .int 0, .int 20, .int (0 + 1)])) := by rw [e36, hu_n (h_neC f_rt f_x (by decide))]; exact f_rt
  have f_x : h35 x = some (.inr (8, [.ref wr, .ref rd, .ref ns, .ref q3, .ref q3, .int 0, .int 0, .ref op, .ref sr])) := by rw [e36]; exact hu_s _ _ _
  refine lv_aload_n hx hb d_Di_compact_111 rfl (lv_at hl 2 rfl) ?_
  refine lv_aload_n hx hb d_Di_compact_112 rfl (lv_at hl 0 rfl) ?_
  refine hm_put (ci := 8) (v := .ref md) (ty := (.object "WriteOnceDisc$Medium")) (C := R_Di) (T := F_Di) (N := 9) hx hb hts ig_Di t_Di tk_Di nm_Di hown hK hH hLo f_x rfl 4 (by decide) (hts _ mw_259) (fun _ h9 => h9) rfl (by decide +kernel) rfl rfl (Nat.le_of_ble_eq_true rfl) d_Di_compact_113 (fun H37 locs hH z38 hLo => ?_)
  have hz : s.heap.size ≤ H37.size := by rw [z38]; exact hz
  obtain ⟨h39, e40⟩ : ∃ z, z = hu h35 x (.inr (8, [.ref wr, .ref rd, .ref ns, .ref q3, .ref md, .int 0, .int 0, .ref op, .ref sr])) := ⟨_, rfl⟩
  have hH : hm D vwCl G h39 H37 := by rw [e40]; exact hH
  have f_ns : h39 ns = some (.inr (2, [.ref sl, .ref od, .int 1, .int 1])) := by rw [e40, hu_n (h_neC f_ns f_x (by decide))]; exact f_ns
  have f_sl : h39 sl = some (.inl ((t 4), 30, .inr (.inr (.inr (.inr fs))))) := by rw [e40, hu_n (h_neA f_sl f_x)]; exact f_sl
  have f_rt : h39 rt = some (.inr (1, [.int 0, .null, .int 1, .long 0, .int 0, .int 0, .int 0, .int 0, .int 0, .int 20, .int (0 + 1)])) := by rw [e40, hu_n (h_neC f_rt f_x (by decide))]; exact f_rt
  have f_x : h39 x = some (.inr (8, [.ref wr, .ref rd, .ref ns, .ref q3, .ref md, .int 0, .int 0, .ref op, .ref sr])) := by rw [e40]; exact hu_s _ _ _
  refine lv_aload_n hx hb d_Di_compact_116 rfl (lv_at hl 2 rfl) ?_
  refine hm_get (ci := 8) (v := .ref ns) (C := R_Di) (T := F_Di) (N := 9) hx hb hts ig_Di hown hK hH f_x rfl 2 (by decide) (hts _ mw_258) (fun _ h9 => h9) rfl d_Di_compact_117 ?_
  refine hm_callv (va_runV (As := []) (b := ns) (rest := []) ⟨hx, hb, hml, hown, hts⟩ (c_Nodes_settle l D t G ak av h39 ns sl od rt fs 20 (0 + 1) f_ns f_sl f_rt hf0) ⟨cw9B 0 hts mw_386 mw_387 mw_187 rfl rfl (by decide +kernel) ⟨Nat.le_of_ble_eq_true rfl, Nat.le_of_ble_eq_true rfl⟩, hts _ mw_388, hts _ mw_389⟩ (hP_V (q := (R_Ns, F_Ns, 4)) kE_ok hE hK hH f_ns rfl) rfl rfl hl.1 rfl (lv_room (Nat.le_of_ble_eq_true rfl)) d_Di_compact_120 ⟨Nat.le_of_ble_eq_true rfl, Nat.le_of_ble_eq_true rfl⟩) hLo (fun h41 H42 locs hp44 hH z43 hLo => ?_)
  have hz : s.heap.size ≤ H42.size := Nat.le_trans hz z43
  obtain rfl := hp44
  refine lv_aload_n hx hb d_Di_compact_123 rfl (lv_at hl 2 rfl) ?_
  refine lv_iconst (v := 0) hx hb d_Di_compact_124 (by decide) ?_
  refine hm_put (ci := 8) (v := .int 0) (ty := .boolean) (C := R_Di) (T := F_Di) (N := 9) hx hb hts ig_Di t_Di tk_Di nm_Di hown hK hH hLo f_x rfl 6 (by decide) (hts _ mw_261) (fun _ h9 => h9) rfl (by decide +kernel) (by decide) (by decide) (Nat.le_of_ble_eq_true rfl) d_Di_compact_125 (fun H45 locs hH z46 hLo => ?_)
  have hz : s.heap.size ≤ H45.size := by rw [z46]; exact hz
  obtain ⟨h47, e48⟩ : ∃ z, z = hu h39 x (.inr (8, [.ref wr, .ref rd, .ref ns, .ref q3, .ref md, .int 0, .int 0, .ref op, .ref sr])) := ⟨_, rfl⟩
  have hH : hm D vwCl G h47 H45 := by rw [e48]; exact hH
  have f_ns : h47 ns = some (.inr (2, [.ref sl, .ref od, .int 1, .int 1])) := by rw [e48, hu_n (h_neC f_ns f_x (by decide))]; exact f_ns
  have f_sl : h47 sl = some (.inl ((t 4), 30, .inr (.inr (.inr (.inr fs))))) := by rw [e48, hu_n (h_neA f_sl f_x)]; exact f_sl
  have f_rt : h47 rt = some (.inr (1, [.int 0, .null, .int 1, .long 0, .int 0, .int 0, .int 0, .int 0, .int 0, .int 20, .int (0 + 1)])) := by rw [e48, hu_n (h_neC f_rt f_x (by decide))]; exact f_rt
  have f_x : h47 x = some (.inr (8, [.ref wr, .ref rd, .ref ns, .ref q3, .ref md, .int 0, .int 0, .ref op, .ref sr])) := by rw [e48]; exact hu_s _ _ _
  refine lv_aload_n hx hb d_Di_compact_128 rfl (lv_at hl 2 rfl) ?_
  refine lv_iconst (v := 1) hx hb d_Di_compact_129 (by decide) ?_
  refine hm_put (ci := 8) (v := .int 1) (ty := .int) (C := R_Di) (T := F_Di) (N := 9) hx hb hts ig_Di t_Di tk_Di nm_Di hown hK hH hLo f_x rfl 5 (by decide) (hts _ mw_260) (fun _ h9 => h9) rfl (by decide +kernel) rfl rfl (Nat.le_of_ble_eq_true rfl) d_Di_compact_130 (fun H49 locs hH z50 hLo => ?_)
  have hz : s.heap.size ≤ H49.size := by rw [z50]; exact hz
  obtain ⟨h51, e52⟩ : ∃ z, z = hu h47 x (.inr (8, [.ref wr, .ref rd, .ref ns, .ref q3, .ref md, .int 1, .int 0, .ref op, .ref sr])) := ⟨_, rfl⟩
  have hH : hm D vwCl G h51 H49 := by rw [e52]; exact hH
  have f_ns : h51 ns = some (.inr (2, [.ref sl, .ref od, .int 1, .int 1])) := by rw [e52, hu_n (h_neC f_ns f_x (by decide))]; exact f_ns
  have f_sl : h51 sl = some (.inl ((t 4), 30, .inr (.inr (.inr (.inr fs))))) := by rw [e52, hu_n (h_neA f_sl f_x)]; exact f_sl
  have f_rt : h51 rt = some (.inr (1, [.int 0, .null, .int 1, .long 0, .int 0, .int 0, .int 0, .int 0, .int 0, .int 20, .int (0 + 1)])) := by rw [e52, hu_n (h_neC f_rt f_x (by decide))]; exact f_rt
  have f_x : h51 x = some (.inr (8, [.ref wr, .ref rd, .ref ns, .ref q3, .ref md, .int 1, .int 0, .ref op, .ref sr])) := by rw [e52]; exact hu_s _ _ _
  refine lv_aload_n hx hb d_Di_compact_133 rfl (lv_at hl 2 rfl) ?_
  refine hm_get (ci := 8) (v := .int 1) (C := R_Di) (T := F_Di) (N := 9) hx hb hts ig_Di hown hK hH f_x rfl 5 (by decide) (hts _ mw_260) (fun _ h9 => h9) rfl d_Di_compact_134 ?_
  exact W.iret (v := 1) hx hb hr (fun t9 ht hW => ⟨1, h51, rfl, rfl, by rw [ht]; exact hH, by rw [ht]; exact hz⟩) hLo d_Di_compact_137
