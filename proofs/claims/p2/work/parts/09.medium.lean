set_option maxRecDepth 100000 in
theorem mw_30 : Cond.fieldLink R_Me 52 "WriteOnceDisc$Sector" "bytes" "[B" ∈ lw_g := lw_gin (List.mem_append_right _ (List.mem_of_getElem? (i := 216) rfl)) (by decide +kernel)
set_option maxRecDepth 100000 in
theorem mw_31 : Cond.code y_Me_fetch b_Me_fetch 4 (some .int) ∈ lw_g := lw_gin (List.mem_append_right _ (List.mem_of_getElem? (i := 618) rfl)) (by decide +kernel)
set_option maxRecDepth 100000 in
theorem mw_32 : Cond.initialized R_Me ∈ lw_g := lw_gin (List.mem_append_right _ (List.mem_of_getElem? (i := 8) rfl)) (by decide +kernel)
set_option maxRecDepth 100000 in
theorem mw_33 : Cond.methodLink R_Me 65 y_Me_fetch ∈ lw_g := lw_gin (List.mem_append_right _ (List.mem_of_getElem? (i := 615) rfl)) (by decide +kernel)
set_option maxRecDepth 100000 in
theorem mw_34 : Cond.instanceMethod y_Me_fetch ∈ lw_g := lw_gin (List.mem_append_right _ (List.mem_of_getElem? (i := 616) rfl)) (by decide +kernel)
set_option maxRecDepth 100000 in
theorem mw_35 : Cond.selects R_Me y_Me_fetch y_Me_fetch ∈ lw_g := lw_gin (List.mem_append_right _ (List.mem_of_getElem? (i := 617) rfl)) (by decide +kernel)
set_option maxRecDepth 100000 in
theorem mw_36 : Cond.code y_St_length b_St_length 1 (some .int) ∈ lw_g := lw_gin (List.mem_append_right _ (List.mem_of_getElem? (i := 472) rfl)) (by decide +kernel)
set_option maxRecDepth 100000 in
theorem mw_37 : Cond.methodLink R_Me 69 y_St_length ∈ lw_g := lw_gin (List.mem_append_right _ (List.mem_of_getElem? (i := 614) rfl)) (by decide +kernel)
set_option maxRecDepth 100000 in
theorem mw_38 : Cond.instanceMethod y_St_length ∈ lw_g := lw_gin (List.mem_append_right _ (List.mem_of_getElem? (i := 470) rfl)) (by decide +kernel)
set_option maxRecDepth 100000 in
theorem mw_39 : Cond.selects R_St y_St_length y_St_length ∈ lw_g := lw_gin (List.mem_append_right _ (List.mem_of_getElem? (i := 471) rfl)) (by decide +kernel)
set_option maxRecDepth 100000 in
theorem mw_40 : Cond.code y_St_charAt b_St_charAt 2 (some .char) ∈ lw_g := lw_gin (List.mem_append_right _ (List.mem_of_getElem? (i := 486) rfl)) (by decide +kernel)
set_option maxRecDepth 100000 in
theorem mw_41 : Cond.methodLink R_Me 75 y_St_charAt ∈ lw_g := lw_gin (List.mem_append_right _ (List.mem_of_getElem? (i := 619) rfl)) (by decide +kernel)
set_option maxRecDepth 100000 in
theorem mw_42 : Cond.instanceMethod y_St_charAt ∈ lw_g := lw_gin (List.mem_append_right _ (List.mem_of_getElem? (i := 484) rfl)) (by decide +kernel)
set_option maxRecDepth 100000 in
theorem mw_43 : Cond.selects R_St y_St_charAt y_St_charAt ∈ lw_g := lw_gin (List.mem_append_right _ (List.mem_of_getElem? (i := 485) rfl)) (by decide +kernel)
set_option maxRecDepth 100000 in
theorem mw_44 : Cond.code y_Me_low b_Me_low 5 (some .int) ∈ lw_g := lw_gin (List.mem_append_right _ (List.mem_of_getElem? (i := 627) rfl)) (by decide +kernel)
set_option maxRecDepth 100000 in
theorem mw_45 : Cond.methodLink R_Me 91 y_Me_low ∈ lw_g := lw_gin (List.mem_append_right _ (List.mem_of_getElem? (i := 624) rfl)) (by decide +kernel)
set_option maxRecDepth 100000 in
theorem mw_46 : Cond.instanceMethod y_Me_low ∈ lw_g := lw_gin (List.mem_append_right _ (List.mem_of_getElem? (i := 625) rfl)) (by decide +kernel)
set_option maxRecDepth 100000 in
theorem mw_47 : Cond.selects R_Me y_Me_low y_Me_low ∈ lw_g := lw_gin (List.mem_append_right _ (List.mem_of_getElem? (i := 626) rfl)) (by decide +kernel)
set_option maxRecDepth 100000 in
theorem mw_48 : Cond.code y_Me_isWritten b_Me_isWritten 2 (some .boolean) ∈ lw_g := lw_gin (List.mem_append_right _ (List.mem_of_getElem? (i := 417) rfl)) (by decide +kernel)
set_option maxRecDepth 100000 in
theorem mw_49 : Cond.methodLink R_Me 56 y_Me_isWritten ∈ lw_g := lw_gin (List.mem_append_right _ (List.mem_of_getElem? (i := 414) rfl)) (by decide +kernel)
set_option maxRecDepth 100000 in
theorem mw_50 : Cond.instanceMethod y_Me_isWritten ∈ lw_g := lw_gin (List.mem_append_right _ (List.mem_of_getElem? (i := 415) rfl)) (by decide +kernel)
set_option maxRecDepth 100000 in
theorem mw_51 : Cond.selects R_Me y_Me_isWritten y_Me_isWritten ∈ lw_g := lw_gin (List.mem_append_right _ (List.mem_of_getElem? (i := 416) rfl)) (by decide +kernel)
set_option maxRecDepth 100000 in
theorem mw_52 : Cond.code y_Me_hasText b_Me_hasText 4 (some .boolean) ∈ lw_g := lw_gin (List.mem_append_right _ (List.mem_of_getElem? (i := 613) rfl)) (by decide +kernel)
set_option maxRecDepth 100000 in
theorem mw_53 : Cond.methodLink R_Me 81 y_Me_hasText ∈ lw_g := lw_gin (List.mem_append_right _ (List.mem_of_getElem? (i := 610) rfl)) (by decide +kernel)
set_option maxRecDepth 100000 in
theorem mw_54 : Cond.instanceMethod y_Me_hasText ∈ lw_g := lw_gin (List.mem_append_right _ (List.mem_of_getElem? (i := 611) rfl)) (by decide +kernel)
set_option maxRecDepth 100000 in
theorem mw_55 : Cond.selects R_Me y_Me_hasText y_Me_hasText ∈ lw_g := lw_gin (List.mem_append_right _ (List.mem_of_getElem? (i := 612) rfl)) (by decide +kernel)
set_option maxRecDepth 100000 in
theorem mw_56 : Cond.code y_Me_markedNumber b_Me_markedNumber 2 (some .int) ∈ lw_g := lw_gin (List.mem_append_right _ (List.mem_of_getElem? (i := 623) rfl)) (by decide +kernel)
set_option maxRecDepth 100000 in
theorem mw_57 : Cond.methodLink R_Me 85 y_Me_markedNumber ∈ lw_g := lw_gin (List.mem_append_right _ (List.mem_of_getElem? (i := 620) rfl)) (by decide +kernel)
set_option maxRecDepth 100000 in
theorem mw_58 : Cond.instanceMethod y_Me_markedNumber ∈ lw_g := lw_gin (List.mem_append_right _ (List.mem_of_getElem? (i := 621) rfl)) (by decide +kernel)
set_option maxRecDepth 100000 in
theorem mw_59 : Cond.selects R_Me y_Me_markedNumber y_Me_markedNumber ∈ lw_g := lw_gin (List.mem_append_right _ (List.mem_of_getElem? (i := 622) rfl)) (by decide +kernel)
set_option maxRecDepth 100000 in
theorem mw_60 : Cond.code y_Me_markedBase b_Me_markedBase 2 (some .int) ∈ lw_g := lw_gin (List.mem_append_right _ (List.mem_of_getElem? (i := 631) rfl)) (by decide +kernel)
set_option maxRecDepth 100000 in
theorem mw_61 : Cond.methodLink R_Me 88 y_Me_markedBase ∈ lw_g := lw_gin (List.mem_append_right _ (List.mem_of_getElem? (i := 628) rfl)) (by decide +kernel)
set_option maxRecDepth 100000 in
theorem mw_62 : Cond.instanceMethod y_Me_markedBase ∈ lw_g := lw_gin (List.mem_append_right _ (List.mem_of_getElem? (i := 629) rfl)) (by decide +kernel)
set_option maxRecDepth 100000 in
theorem mw_63 : Cond.selects R_Me y_Me_markedBase y_Me_markedBase ∈ lw_g := lw_gin (List.mem_append_right _ (List.mem_of_getElem? (i := 630) rfl)) (by decide +kernel)
set_option maxRecDepth 100000 in
theorem mw_64 : Cond.fieldLink R_Me 9 "WriteOnceDisc$Medium" "front" "I" ∈ lw_g := lw_gin (List.mem_append_right _ (List.mem_of_getElem? (i := 228) rfl)) (by decide +kernel)
set_option maxRecDepth 100000 in
theorem mw_65 : Cond.code y_Me_isMark b_Me_isMark 2 (some .boolean) ∈ lw_g := lw_gin (List.mem_append_right _ (List.mem_of_getElem? (i := 608) rfl)) (by decide +kernel)
set_option maxRecDepth 100000 in
theorem mw_66 : Cond.methodLink R_Me 94 y_Me_isMark ∈ lw_g := lw_gin (List.mem_append_right _ (List.mem_of_getElem? (i := 794) rfl)) (by decide +kernel)
set_option maxRecDepth 100000 in
theorem mw_67 : Cond.instanceMethod y_Me_isMark ∈ lw_g := lw_gin (List.mem_append_right _ (List.mem_of_getElem? (i := 606) rfl)) (by decide +kernel)
set_option maxRecDepth 100000 in
theorem mw_68 : Cond.selects R_Me y_Me_isMark y_Me_isMark ∈ lw_g := lw_gin (List.mem_append_right _ (List.mem_of_getElem? (i := 607) rfl)) (by decide +kernel)
theorem d_Me_fetch_0 : decode b_Me_fetch 0 = .ok (.iload_n 1, 1) := by decide +kernel
theorem d_Me_fetch_1 : decode b_Me_fetch 1 = .ok (.sipush 2048, 3) := by decide +kernel
theorem d_Me_fetch_4 : decode b_Me_fetch 4 = .ok (.idiv, 1) := by decide +kernel
theorem d_Me_fetch_5 : decode b_Me_fetch 5 = .ok (.istore_n 2, 1) := by decide +kernel
theorem d_Me_fetch_6 : decode b_Me_fetch 6 = .ok (.iload_n 1, 1) := by decide +kernel
theorem d_Me_fetch_7 : decode b_Me_fetch 7 = .ok (.ifCond .lt 12, 3) := by decide +kernel
theorem d_Me_fetch_19 : decode b_Me_fetch 19 = .ok (.iconst (-1), 1) := by decide +kernel
theorem d_Me_fetch_20 : decode b_Me_fetch 20 = .ok (.ireturn, 1) := by decide +kernel
theorem d_Me_fetch_10 : decode b_Me_fetch 10 = .ok (.iload_n 2, 1) := by decide +kernel
theorem d_Me_fetch_11 : decode b_Me_fetch 11 = .ok (.aload_n 0, 1) := by decide +kernel
theorem d_Me_fetch_12 : decode b_Me_fetch 12 = .ok (.getfield 17, 3) := by decide +kernel
theorem d_Me_fetch_15 : decode b_Me_fetch 15 = .ok (.arraylength, 1) := by decide +kernel
theorem d_Me_fetch_16 : decode b_Me_fetch 16 = .ok (.if_icmp .lt 5, 3) := by decide +kernel
theorem d_Me_fetch_21 : decode b_Me_fetch 21 = .ok (.aload_n 0, 1) := by decide +kernel
theorem d_Me_fetch_22 : decode b_Me_fetch 22 = .ok (.getfield 17, 3) := by decide +kernel
theorem d_Me_fetch_25 : decode b_Me_fetch 25 = .ok (.iload_n 2, 1) := by decide +kernel
theorem d_Me_fetch_26 : decode b_Me_fetch 26 = .ok (.aaload, 1) := by decide +kernel
theorem d_Me_fetch_27 : decode b_Me_fetch 27 = .ok (.astore_n 3, 1) := by decide +kernel
theorem d_Me_fetch_28 : decode b_Me_fetch 28 = .ok (.aload_n 3, 1) := by decide +kernel
theorem d_Me_fetch_29 : decode b_Me_fetch 29 = .ok (.getfield 25, 3) := by decide +kernel
theorem d_Me_fetch_32 : decode b_Me_fetch 32 = .ok (.iconst 1, 1) := by decide +kernel
theorem d_Me_fetch_33 : decode b_Me_fetch 33 = .ok (.if_icmp .ne 27, 3) := by decide +kernel
theorem d_Me_fetch_60 : decode b_Me_fetch 60 = .ok (.iconst 0, 1) := by decide +kernel
theorem d_Me_fetch_61 : decode b_Me_fetch 61 = .ok (.ireturn, 1) := by decide +kernel
theorem d_Me_fetch_36 : decode b_Me_fetch 36 = .ok (.aload_n 3, 1) := by decide +kernel
theorem d_Me_fetch_37 : decode b_Me_fetch 37 = .ok (.getfield 52, 3) := by decide +kernel
theorem d_Me_fetch_40 : decode b_Me_fetch 40 = .ok (.ifnull 20, 3) := by decide +kernel
theorem d_Me_fetch_43 : decode b_Me_fetch 43 = .ok (.aload_n 3, 1) := by decide +kernel
theorem d_Me_fetch_44 : decode b_Me_fetch 44 = .ok (.getfield 52, 3) := by decide +kernel
theorem d_Me_fetch_47 : decode b_Me_fetch 47 = .ok (.iload_n 1, 1) := by decide +kernel
theorem d_Me_fetch_48 : decode b_Me_fetch 48 = .ok (.sipush 2048, 3) := by decide +kernel
theorem d_Me_fetch_51 : decode b_Me_fetch 51 = .ok (.irem, 1) := by decide +kernel
theorem d_Me_fetch_52 : decode b_Me_fetch 52 = .ok (.baload, 1) := by decide +kernel
theorem d_Me_fetch_53 : decode b_Me_fetch 53 = .ok (.sipush 255, 3) := by decide +kernel
theorem d_Me_fetch_56 : decode b_Me_fetch 56 = .ok (.iand, 1) := by decide +kernel
theorem d_Me_fetch_57 : decode b_Me_fetch 57 = .ok (.goto 4, 3) := by decide +kernel
theorem d_Me_low_0 : decode b_Me_low 0 = .ok (.iconst 0, 1) := by decide +kernel
theorem d_Me_low_1 : decode b_Me_low 1 = .ok (.istore_n 3, 1) := by decide +kernel
theorem d_Me_low_2 : decode b_Me_low 2 = .ok (.iload_n 2, 1) := by decide +kernel
theorem d_Me_low_3 : decode b_Me_low 3 = .ok (.iconst 1, 1) := by decide +kernel
theorem d_Me_low_4 : decode b_Me_low 4 = .ok (.isub, 1) := by decide +kernel
theorem d_Me_low_5 : decode b_Me_low 5 = .ok (.istore 4, 2) := by decide +kernel
theorem d_Me_low_7 : decode b_Me_low 7 = .ok (.iload 4, 2) := by decide +kernel
theorem d_Me_low_9 : decode b_Me_low 9 = .ok (.ifCond .lt 23, 3) := by decide +kernel
theorem d_Me_low_32 : decode b_Me_low 32 = .ok (.iload_n 3, 1) := by decide +kernel
theorem d_Me_low_33 : decode b_Me_low 33 = .ok (.ireturn, 1) := by decide +kernel
theorem d_Me_low_12 : decode b_Me_low 12 = .ok (.iload_n 3, 1) := by decide +kernel
theorem d_Me_low_13 : decode b_Me_low 13 = .ok (.bipush 8, 2) := by decide +kernel
theorem d_Me_low_15 : decode b_Me_low 15 = .ok (.ishl, 1) := by decide +kernel
theorem d_Me_low_16 : decode b_Me_low 16 = .ok (.aload_n 0, 1) := by decide +kernel
theorem d_Me_low_17 : decode b_Me_low 17 = .ok (.iload_n 1, 1) := by decide +kernel
theorem d_Me_low_18 : decode b_Me_low 18 = .ok (.iload 4, 2) := by decide +kernel
theorem d_Me_low_20 : decode b_Me_low 20 = .ok (.iadd, 1) := by decide +kernel
theorem d_Me_low_21 : decode b_Me_low 21 = .ok (.invokevirtual 65, 3) := by decide +kernel
theorem d_Me_low_24 : decode b_Me_low 24 = .ok (.ior, 1) := by decide +kernel
theorem d_Me_low_25 : decode b_Me_low 25 = .ok (.istore_n 3, 1) := by decide +kernel
theorem d_Me_low_26 : decode b_Me_low 26 = .ok (.iinc 4 (-1), 3) := by decide +kernel
theorem d_Me_low_29 : decode b_Me_low 29 = .ok (.goto (-22), 3) := by decide +kernel
theorem d_Me_high_0 : decode b_Me_high 0 = .ok (.iconst 0, 1) := by decide +kernel
theorem d_Me_high_1 : decode b_Me_high 1 = .ok (.istore_n 3, 1) := by decide +kernel
theorem d_Me_high_2 : decode b_Me_high 2 = .ok (.iconst 0, 1) := by decide +kernel
theorem d_Me_high_3 : decode b_Me_high 3 = .ok (.istore 4, 2) := by decide +kernel
theorem d_Me_high_5 : decode b_Me_high 5 = .ok (.iload 4, 2) := by decide +kernel
theorem d_Me_high_7 : decode b_Me_high 7 = .ok (.iload_n 2, 1) := by decide +kernel
theorem d_Me_high_8 : decode b_Me_high 8 = .ok (.if_icmp .ge 23, 3) := by decide +kernel
theorem d_Me_high_31 : decode b_Me_high 31 = .ok (.iload_n 3, 1) := by decide +kernel
theorem d_Me_high_32 : decode b_Me_high 32 = .ok (.ireturn, 1) := by decide +kernel
theorem d_Me_high_11 : decode b_Me_high 11 = .ok (.iload_n 3, 1) := by decide +kernel
theorem d_Me_high_12 : decode b_Me_high 12 = .ok (.bipush 8, 2) := by decide +kernel
theorem d_Me_high_14 : decode b_Me_high 14 = .ok (.ishl, 1) := by decide +kernel
theorem d_Me_high_15 : decode b_Me_high 15 = .ok (.aload_n 0, 1) := by decide +kernel
theorem d_Me_high_16 : decode b_Me_high 16 = .ok (.iload_n 1, 1) := by decide +kernel
theorem d_Me_high_17 : decode b_Me_high 17 = .ok (.iload 4, 2) := by decide +kernel
theorem d_Me_high_19 : decode b_Me_high 19 = .ok (.iadd, 1) := by decide +kernel
theorem d_Me_high_20 : decode b_Me_high 20 = .ok (.invokevirtual 65, 3) := by decide +kernel
theorem d_Me_high_23 : decode b_Me_high 23 = .ok (.ior, 1) := by decide +kernel
theorem d_Me_high_24 : decode b_Me_high 24 = .ok (.istore_n 3, 1) := by decide +kernel
theorem d_Me_high_25 : decode b_Me_high 25 = .ok (.iinc 4 1, 3) := by decide +kernel
theorem d_Me_high_28 : decode b_Me_high 28 = .ok (.goto (-23), 3) := by decide +kernel
theorem d_Me_halvesAgree_0 : decode b_Me_halvesAgree 0 = .ok (.iconst 0, 1) := by decide +kernel
theorem d_Me_halvesAgree_1 : decode b_Me_halvesAgree 1 = .ok (.istore_n 3, 1) := by decide +kernel
theorem d_Me_halvesAgree_2 : decode b_Me_halvesAgree 2 = .ok (.iload_n 3, 1) := by decide +kernel
theorem d_Me_halvesAgree_3 : decode b_Me_halvesAgree 3 = .ok (.iload_n 2, 1) := by decide +kernel
theorem d_Me_halvesAgree_4 : decode b_Me_halvesAgree 4 = .ok (.if_icmp .ge 34, 3) := by decide +kernel
theorem d_Me_halvesAgree_38 : decode b_Me_halvesAgree 38 = .ok (.iconst 1, 1) := by decide +kernel
theorem d_Me_halvesAgree_39 : decode b_Me_halvesAgree 39 = .ok (.ireturn, 1) := by decide +kernel
theorem d_Me_halvesAgree_7 : decode b_Me_halvesAgree 7 = .ok (.aload_n 0, 1) := by decide +kernel
theorem d_Me_halvesAgree_8 : decode b_Me_halvesAgree 8 = .ok (.iload_n 1, 1) := by decide +kernel
theorem d_Me_halvesAgree_9 : decode b_Me_halvesAgree 9 = .ok (.iload_n 3, 1) := by decide +kernel
theorem d_Me_halvesAgree_10 : decode b_Me_halvesAgree 10 = .ok (.iadd, 1) := by decide +kernel
theorem d_Me_halvesAgree_11 : decode b_Me_halvesAgree 11 = .ok (.invokevirtual 65, 3) := by decide +kernel
theorem d_Me_halvesAgree_14 : decode b_Me_halvesAgree 14 = .ok (.aload_n 0, 1) := by decide +kernel
theorem d_Me_halvesAgree_15 : decode b_Me_halvesAgree 15 = .ok (.iload_n 1, 1) := by decide +kernel
theorem d_Me_halvesAgree_16 : decode b_Me_halvesAgree 16 = .ok (.iconst 2, 1) := by decide +kernel
theorem d_Me_halvesAgree_17 : decode b_Me_halvesAgree 17 = .ok (.iload_n 2, 1) := by decide +kernel
theorem d_Me_halvesAgree_18 : decode b_Me_halvesAgree 18 = .ok (.imul, 1) := by decide +kernel
theorem d_Me_halvesAgree_19 : decode b_Me_halvesAgree 19 = .ok (.iadd, 1) := by decide +kernel
theorem d_Me_halvesAgree_20 : decode b_Me_halvesAgree 20 = .ok (.iconst 1, 1) := by decide +kernel
theorem d_Me_halvesAgree_21 : decode b_Me_halvesAgree 21 = .ok (.isub, 1) := by decide +kernel
theorem d_Me_halvesAgree_22 : decode b_Me_halvesAgree 22 = .ok (.iload_n 3, 1) := by decide +kernel
theorem d_Me_halvesAgree_23 : decode b_Me_halvesAgree 23 = .ok (.isub, 1) := by decide +kernel
theorem d_Me_halvesAgree_24 : decode b_Me_halvesAgree 24 = .ok (.invokevirtual 65, 3) := by decide +kernel
theorem d_Me_halvesAgree_27 : decode b_Me_halvesAgree 27 = .ok (.if_icmp .eq 5, 3) := by decide +kernel
theorem d_Me_halvesAgree_32 : decode b_Me_halvesAgree 32 = .ok (.iinc 3 1, 3) := by decide +kernel
theorem d_Me_halvesAgree_35 : decode b_Me_halvesAgree 35 = .ok (.goto (-33), 3) := by decide +kernel
theorem d_Me_halvesAgree_30 : decode b_Me_halvesAgree 30 = .ok (.iconst 0, 1) := by decide +kernel
theorem d_Me_halvesAgree_31 : decode b_Me_halvesAgree 31 = .ok (.ireturn, 1) := by decide +kernel
theorem d_Me_hasText_0 : decode b_Me_hasText 0 = .ok (.iconst 0, 1) := by decide +kernel
theorem d_Me_hasText_1 : decode b_Me_hasText 1 = .ok (.istore_n 3, 1) := by decide +kernel
theorem d_Me_hasText_2 : decode b_Me_hasText 2 = .ok (.iload_n 3, 1) := by decide +kernel
theorem d_Me_hasText_3 : decode b_Me_hasText 3 = .ok (.aload_n 2, 1) := by decide +kernel
theorem d_Me_hasText_4 : decode b_Me_hasText 4 = .ok (.invokevirtual 69, 3) := by decide +kernel
theorem d_Me_hasText_7 : decode b_Me_hasText 7 = .ok (.if_icmp .ge 26, 3) := by decide +kernel
theorem d_Me_hasText_33 : decode b_Me_hasText 33 = .ok (.iconst 1, 1) := by decide +kernel
theorem d_Me_hasText_34 : decode b_Me_hasText 34 = .ok (.ireturn, 1) := by decide +kernel
theorem d_Me_hasText_10 : decode b_Me_hasText 10 = .ok (.aload_n 0, 1) := by decide +kernel
theorem d_Me_hasText_11 : decode b_Me_hasText 11 = .ok (.iload_n 1, 1) := by decide +kernel
theorem d_Me_hasText_12 : decode b_Me_hasText 12 = .ok (.iload_n 3, 1) := by decide +kernel
theorem d_Me_hasText_13 : decode b_Me_hasText 13 = .ok (.iadd, 1) := by decide +kernel
theorem d_Me_hasText_14 : decode b_Me_hasText 14 = .ok (.invokevirtual 65, 3) := by decide +kernel
theorem d_Me_hasText_17 : decode b_Me_hasText 17 = .ok (.aload_n 2, 1) := by decide +kernel
theorem d_Me_hasText_18 : decode b_Me_hasText 18 = .ok (.iload_n 3, 1) := by decide +kernel
theorem d_Me_hasText_19 : decode b_Me_hasText 19 = .ok (.invokevirtual 75, 3) := by decide +kernel
theorem d_Me_hasText_22 : decode b_Me_hasText 22 = .ok (.if_icmp .eq 5, 3) := by decide +kernel
theorem d_Me_hasText_27 : decode b_Me_hasText 27 = .ok (.iinc 3 1, 3) := by decide +kernel
theorem d_Me_hasText_30 : decode b_Me_hasText 30 = .ok (.goto (-28), 3) := by decide +kernel
theorem d_Me_hasText_25 : decode b_Me_hasText 25 = .ok (.iconst 0, 1) := by decide +kernel
theorem d_Me_hasText_26 : decode b_Me_hasText 26 = .ok (.ireturn, 1) := by decide +kernel
theorem d_Me_markedBase_0 : decode b_Me_markedBase 0 = .ok (.aload_n 0, 1) := by decide +kernel
theorem d_Me_markedBase_1 : decode b_Me_markedBase 1 = .ok (.iload_n 1, 1) := by decide +kernel
theorem d_Me_markedBase_2 : decode b_Me_markedBase 2 = .ok (.sipush 2048, 3) := by decide +kernel
theorem d_Me_markedBase_5 : decode b_Me_markedBase 5 = .ok (.imul, 1) := by decide +kernel
theorem d_Me_markedBase_6 : decode b_Me_markedBase 6 = .ok (.iconst 4, 1) := by decide +kernel
theorem d_Me_markedBase_7 : decode b_Me_markedBase 7 = .ok (.iadd, 1) := by decide +kernel
theorem d_Me_markedBase_8 : decode b_Me_markedBase 8 = .ok (.iconst 4, 1) := by decide +kernel
theorem d_Me_markedBase_9 : decode b_Me_markedBase 9 = .ok (.invokevirtual 91, 3) := by decide +kernel
theorem d_Me_markedBase_12 : decode b_Me_markedBase 12 = .ok (.ireturn, 1) := by decide +kernel
theorem d_Me_markedNumber_0 : decode b_Me_markedNumber 0 = .ok (.aload_n 0, 1) := by decide +kernel
theorem d_Me_markedNumber_1 : decode b_Me_markedNumber 1 = .ok (.iload_n 1, 1) := by decide +kernel
theorem d_Me_markedNumber_2 : decode b_Me_markedNumber 2 = .ok (.sipush 2048, 3) := by decide +kernel
theorem d_Me_markedNumber_5 : decode b_Me_markedNumber 5 = .ok (.imul, 1) := by decide +kernel
theorem d_Me_markedNumber_6 : decode b_Me_markedNumber 6 = .ok (.bipush 8, 2) := by decide +kernel
theorem d_Me_markedNumber_8 : decode b_Me_markedNumber 8 = .ok (.iadd, 1) := by decide +kernel
theorem d_Me_markedNumber_9 : decode b_Me_markedNumber 9 = .ok (.iconst 4, 1) := by decide +kernel
theorem d_Me_markedNumber_10 : decode b_Me_markedNumber 10 = .ok (.invokevirtual 91, 3) := by decide +kernel
theorem d_Me_markedNumber_13 : decode b_Me_markedNumber 13 = .ok (.ireturn, 1) := by decide +kernel
theorem d_Me_isMark_0 : decode b_Me_isMark 0 = .ok (.aload_n 0, 1) := by decide +kernel
theorem d_Me_isMark_1 : decode b_Me_isMark 1 = .ok (.iload_n 1, 1) := by decide +kernel
theorem d_Me_isMark_2 : decode b_Me_isMark 2 = .ok (.invokevirtual 56, 3) := by decide +kernel
theorem d_Me_isMark_5 : decode b_Me_isMark 5 = .ok (.ifCond .eq 46, 3) := by decide +kernel
theorem d_Me_isMark_51 : decode b_Me_isMark 51 = .ok (.iconst 0, 1) := by decide +kernel
theorem d_Me_isMark_52 : decode b_Me_isMark 52 = .ok (.ireturn, 1) := by decide +kernel
theorem d_Me_isMark_8 : decode b_Me_isMark 8 = .ok (.aload_n 0, 1) := by decide +kernel
theorem d_Me_isMark_9 : decode b_Me_isMark 9 = .ok (.iload_n 1, 1) := by decide +kernel
theorem d_Me_isMark_10 : decode b_Me_isMark 10 = .ok (.sipush 2048, 3) := by decide +kernel
theorem d_Me_isMark_13 : decode b_Me_isMark 13 = .ok (.imul, 1) := by decide +kernel
theorem d_Me_isMark_14 : decode b_Me_isMark 14 = .ok (.ldc 79, 2) := by decide +kernel
theorem d_Me_isMark_16 : decode b_Me_isMark 16 = .ok (.invokevirtual 81, 3) := by decide +kernel
theorem d_Me_isMark_19 : decode b_Me_isMark 19 = .ok (.ifCond .eq 32, 3) := by decide +kernel
theorem d_Me_isMark_22 : decode b_Me_isMark 22 = .ok (.aload_n 0, 1) := by decide +kernel
theorem d_Me_isMark_23 : decode b_Me_isMark 23 = .ok (.iload_n 1, 1) := by decide +kernel
theorem d_Me_isMark_24 : decode b_Me_isMark 24 = .ok (.invokevirtual 85, 3) := by decide +kernel
theorem d_Me_isMark_27 : decode b_Me_isMark 27 = .ok (.ifCond .le 24, 3) := by decide +kernel
theorem d_Me_isMark_30 : decode b_Me_isMark 30 = .ok (.aload_n 0, 1) := by decide +kernel
theorem d_Me_isMark_31 : decode b_Me_isMark 31 = .ok (.iload_n 1, 1) := by decide +kernel
theorem d_Me_isMark_32 : decode b_Me_isMark 32 = .ok (.invokevirtual 88, 3) := by decide +kernel
theorem d_Me_isMark_35 : decode b_Me_isMark 35 = .ok (.ifCond .lt 16, 3) := by decide +kernel
theorem d_Me_isMark_38 : decode b_Me_isMark 38 = .ok (.aload_n 0, 1) := by decide +kernel
theorem d_Me_isMark_39 : decode b_Me_isMark 39 = .ok (.iload_n 1, 1) := by decide +kernel
theorem d_Me_isMark_40 : decode b_Me_isMark 40 = .ok (.invokevirtual 88, 3) := by decide +kernel
theorem d_Me_isMark_43 : decode b_Me_isMark 43 = .ok (.iload_n 1, 1) := by decide +kernel
theorem d_Me_isMark_44 : decode b_Me_isMark 44 = .ok (.if_icmp .ge 7, 3) := by decide +kernel
theorem d_Me_isMark_47 : decode b_Me_isMark 47 = .ok (.iconst 1, 1) := by decide +kernel
theorem d_Me_isMark_48 : decode b_Me_isMark 48 = .ok (.goto 4, 3) := by decide +kernel
theorem d_Me_sectorOfMark_0 : decode b_Me_sectorOfMark 0 = .ok (.iconst 0, 1) := by decide +kernel
theorem d_Me_sectorOfMark_1 : decode b_Me_sectorOfMark 1 = .ok (.istore_n 2, 1) := by decide +kernel
theorem d_Me_sectorOfMark_2 : decode b_Me_sectorOfMark 2 = .ok (.iconst 0, 1) := by decide +kernel
theorem d_Me_sectorOfMark_3 : decode b_Me_sectorOfMark 3 = .ok (.istore_n 3, 1) := by decide +kernel
theorem d_Me_sectorOfMark_4 : decode b_Me_sectorOfMark 4 = .ok (.iload_n 3, 1) := by decide +kernel
theorem d_Me_sectorOfMark_5 : decode b_Me_sectorOfMark 5 = .ok (.aload_n 0, 1) := by decide +kernel
theorem d_Me_sectorOfMark_6 : decode b_Me_sectorOfMark 6 = .ok (.getfield 9, 3) := by decide +kernel
theorem d_Me_sectorOfMark_9 : decode b_Me_sectorOfMark 9 = .ok (.if_icmp .ge 27, 3) := by decide +kernel
theorem d_Me_sectorOfMark_36 : decode b_Me_sectorOfMark 36 = .ok (.iconst (-1), 1) := by decide +kernel
theorem d_Me_sectorOfMark_37 : decode b_Me_sectorOfMark 37 = .ok (.ireturn, 1) := by decide +kernel
theorem d_Me_sectorOfMark_12 : decode b_Me_sectorOfMark 12 = .ok (.aload_n 0, 1) := by decide +kernel
theorem d_Me_sectorOfMark_13 : decode b_Me_sectorOfMark 13 = .ok (.iload_n 3, 1) := by decide +kernel
theorem d_Me_sectorOfMark_14 : decode b_Me_sectorOfMark 14 = .ok (.invokevirtual 94, 3) := by decide +kernel
theorem d_Me_sectorOfMark_17 : decode b_Me_sectorOfMark 17 = .ok (.ifCond .eq 13, 3) := by decide +kernel
theorem d_Me_sectorOfMark_30 : decode b_Me_sectorOfMark 30 = .ok (.iinc 3 1, 3) := by decide +kernel
theorem d_Me_sectorOfMark_33 : decode b_Me_sectorOfMark 33 = .ok (.goto (-29), 3) := by decide +kernel
theorem d_Me_sectorOfMark_20 : decode b_Me_sectorOfMark 20 = .ok (.iload_n 2, 1) := by decide +kernel
theorem d_Me_sectorOfMark_21 : decode b_Me_sectorOfMark 21 = .ok (.iload_n 1, 1) := by decide +kernel
theorem d_Me_sectorOfMark_22 : decode b_Me_sectorOfMark 22 = .ok (.if_icmp .ne 5, 3) := by decide +kernel
theorem d_Me_sectorOfMark_27 : decode b_Me_sectorOfMark 27 = .ok (.iinc 2 1, 3) := by decide +kernel
theorem d_Me_sectorOfMark_25 : decode b_Me_sectorOfMark 25 = .ok (.iload_n 3, 1) := by decide +kernel
theorem d_Me_sectorOfMark_26 : decode b_Me_sectorOfMark 26 = .ok (.ireturn, 1) := by decide +kernel
set_option maxHeartbeats 4000000 in
set_option maxRecDepth 100000 in
theorem t_fetch (l : Launch) (D : va_G) (t : Nat → ClassId) (G : hG) (ak av : Nat → Nat) (h : hM) (τ : tM) (n : Nat) (m9 : Nat) (a9 : Int32) (hn : n ≤ 200) (hT : TI τ t n h) (T_m9 : τ m9 = (11, 0)) : Met l y_Me_fetch (.code y_Me_fetch b_Me_fetch 4 (some .int) :: lw_g) { frames := 0, cells := 0, slots := 0, locals := 0 } (hP (kE D t G ak av) D vwCl G h [.ref m9, .int a9]) (hQi D vwCl G (fun r h' => ((-1 ≤ r.toInt ∧ r.toInt ≤ 255) ∧ (a9.toInt < 0 → r = -1)) ∧ h = h')) 0 0 nof := by
  refine Met.ofW (cc := b_Me_fetch) (maxL := 4) (ret := (some .int)) (by decide) rfl ?_
  intro p e s m args below meth c s₁ Bd hml hv
  obtain ⟨ha, hE, hH⟩ := hv
  have hx := Bd.exec
  have hb := Bd.bytes
  have hr := Bd.returns
  have hts : ∀ w ∈ lw_g, w.before args s = true := fun w hw => atoms_spec (ws := (.code y_Me_fetch b_Me_fetch 4 (some .int) :: lw_g)) Bd.pre w (List.mem_cons_of_mem _ hw)
  have hown : s.vm.findClass R_Me = some m.cls := findClass_of_methodNamed Bd.named
  have hlocks := Bd.notSynchronized
  have hK := hE.1
  have hH0 := hH
  have hLo : hLc nof [] := hLc_nil
  have hz : s.heap.size ≤ s.heap.size := Nat.le_refl _
  have hl := lv_entry [.ref m9, .int a9] (n := 4) (Nat.le_of_ble_eq_true rfl)
  rw [show entryFrame m args 4 = F0 m 0 ((lg_sl [.ref m9, .int a9] ++ List.replicate (4 - (lg_sl [.ref m9, .int a9]).length) Slot.unset).toArray) [] from (by rw [ha]; exact lg_entry_eq m [.ref m9, .int a9] 4)]
  generalize (lg_sl [.ref m9, .int a9] ++ List.replicate (4 - (lg_sl [.ref m9, .int a9]).length) Slot.unset).toArray = ls at hl ⊢
  have hl : lv_has ls 4 [(0, .ref m9), (1, .int a9)] := hl
  refine lv_iload_n hx hb d_Me_fetch_0 rfl (lv_at hl 1 rfl) ?_
  refine lv_sipush (v := 2048) hx hb d_Me_fetch_1 (by decide) ?_
  refine lv_idiv hx hb d_Me_fetch_4 (by decide) ?_
  refine lv_topi (fun v_1 e_2 => ?_)
  have id_3 : 0 ≤ a9.toInt → v_1.toInt = a9.toInt / 2048 := fun h9 => by rw [e_2]; exact i_div (d := 2048) (by decide) h9
  refine lv_istore_n (lv' := [(2, .int v_1), (0, .ref m9), (1, .int a9)]) hx hb d_Me_fetch_5 rfl hl (by decide) rfl (fun ls hl => ?_)
  refine lv_iload_n hx hb d_Me_fetch_6 rfl (lv_at hl 2 rfl) ?_
  refine lv_if_lt (tgt := 19) hx hb d_Me_fetch_7 (by decide) (fun hc_4 => ?_) (fun hc_4 => ?_)
  · skip
    have ic_5 : a9.toInt < 0 := iLt hc_4
    refine lv_iconst (v := -1) hx hb d_Me_fetch_19 (by decide) ?_
    exact W.iret (v := (-1)) hx hb hr (fun t9 ht hW => ⟨(-1), h, rfl, ⟨⟨⟨by decide, by decide⟩, fun _ => rfl⟩, rfl⟩, by rw [ht]; exact hH, by rw [ht]; exact hz⟩) hLo d_Me_fetch_20
  · skip
    have ic_6 : 0 ≤ a9.toInt := iNl hc_4
    refine lv_iload_n hx hb d_Me_fetch_10 rfl (lv_at hl 0 rfl) ?_
    refine lv_aload_n hx hb d_Me_fetch_11 rfl (lv_at hl 1 rfl) ?_
    obtain ⟨v_7, v_9, F_m9, c_8⟩ := TI_med hT T_m9
    refine hm_get (ci := 0) (v := .ref v_7) (C := R_Me) (T := F_Me) (N := 2) hx hb hts ig_Me hown hK hH F_m9 rfl 0 (by decide) (hts _ mw_28) (fun _ h9 => h9) rfl d_Me_fetch_12 ?_
    obtain ⟨g_10, F_v_7, c_11⟩ := TI_secs hT c_8
    have iln_12 : (nI n).toInt = (n : Nat) := nI_toInt (by omega)
    refine hm_alen (v := nI n) hx hb hK hH 5 F_v_7 (ty := (.object "WriteOnceDisc$Sector")) rfl rfl d_Me_fetch_15 ?_
    refine lv_icmp_lt (tgt := 21) hx hb d_Me_fetch_16 (by decide) (fun hc_13 => ?_) (fun hc_13 => ?_)
    · skip
      have ic_14 : v_1.toInt < (nI n).toInt := iLt hc_13
      have iu_15 : (nI n).toInt < 2147483648 := iUp _
      refine lv_aload_n hx hb d_Me_fetch_21 rfl (lv_at hl 1 rfl) ?_
      refine hm_get (ci := 0) (v := .ref v_7) (C := R_Me) (T := F_Me) (N := 2) hx hb hts ig_Me hown hK hH F_m9 rfl 0 (by decide) (hts _ mw_28) (fun _ h9 => h9) rfl d_Me_fetch_22 ?_
      refine lv_iload_n hx hb d_Me_fetch_25 rfl (lv_at hl 0 rfl) ?_
      obtain ⟨a_16, e_17, T_18⟩ := c_11 v_1.toNatClampNeg (iCl (by omega) (by omega))
      refine hm_aald (v := .ref a_16) hx hb hK hH 5 F_v_7 (C := R_Se) rfl (iIn (by omega) (by omega)) (by rw [e_17]; rfl) d_Me_fetch_26 ?_
      refine lv_astore_n (lv' := [(3, .ref a_16), (2, .int v_1), (0, .ref m9), (1, .int a9)]) hx hb d_Me_fetch_27 rfl hl (by decide) rfl (fun ls hl => ?_)
      refine lv_aload_n hx hb d_Me_fetch_28 rfl (lv_at hl 0 rfl) ?_
      obtain ⟨v_19, v_20, v_22, F_a_16, c_21, c_23⟩ := TI_sec hT T_18
      refine hm_get (ci := 6) (v := .int v_19) (C := R_Se) (T := F_Se) (N := 3) hx hb hts ig_Se hown hK hH F_a_16 rfl 0 (by decide) (hts _ mw_29) (fun _ h9 => h9) rfl d_Me_fetch_29 ?_
      refine lv_iconst (v := 1) hx hb d_Me_fetch_32 (by decide) ?_
      refine lv_icmp_ne (tgt := 60) hx hb d_Me_fetch_33 (by decide) (fun hc_24 => ?_) (fun hc_24 => ?_)
      · skip
        refine lv_iconst (v := 0) hx hb d_Me_fetch_60 (by decide) ?_
        exact W.iret (v := 0) hx hb hr (fun t9 ht hW => ⟨0, h, rfl, ⟨⟨⟨by decide, by decide⟩, fun z => absurd z (by omega)⟩, rfl⟩, by rw [ht]; exact hH, by rw [ht]; exact hz⟩) hLo d_Me_fetch_61
      · skip
        have ic_25 : v_19.toInt = 1 := congrArg Int32.toInt hc_24
        refine lv_aload_n hx hb d_Me_fetch_36 rfl (lv_at hl 0 rfl) ?_
        refine hm_get (ci := 6) (v := va_rf v_22) (C := R_Se) (T := F_Se) (N := 3) hx hb hts ig_Se hown hK hH F_a_16 rfl 2 (by decide) (hts _ mw_30) (fun _ h9 => h9) rfl d_Me_fetch_37 ?_
        rcases v_22 with _ | q_26
        · skip
          refine lv_ifnullN (tgt := 60) hx hb d_Me_fetch_40 (by decide) ?_
          refine lv_iconst (v := 0) hx hb d_Me_fetch_60 (by decide) ?_
          exact W.iret (v := 0) hx hb hr (fun t9 ht hW => ⟨0, h, rfl, ⟨⟨⟨by decide, by decide⟩, fun z => absurd z (by omega)⟩, rfl⟩, by rw [ht]; exact hH, by rw [ht]; exact hz⟩) hLo d_Me_fetch_61
        · skip
          have T_27 := c_23 q_26 rfl
          refine lv_ifnull hx hb d_Me_fetch_40 ?_
          refine lv_aload_n hx hb d_Me_fetch_43 rfl (lv_at hl 0 rfl) ?_
          refine hm_get (ci := 6) (v := .ref q_26) (C := R_Se) (T := F_Se) (N := 3) hx hb hts ig_Se hown hK hH F_a_16 rfl 2 (by decide) (hts _ mw_30) (fun _ h9 => h9) rfl d_Me_fetch_44 ?_
          refine lv_iload_n hx hb d_Me_fetch_47 rfl (lv_at hl 3 rfl) ?_
          refine lv_sipush (v := 2048) hx hb d_Me_fetch_48 (by decide) ?_
          refine lv_irem hx hb d_Me_fetch_51 (by decide) ?_
          refine lv_topi (fun v_28 e_29 => ?_)
          have id_30 : 0 ≤ a9.toInt → v_28.toInt = a9.toInt % 2048 := fun h9 => by rw [e_29]; exact i_mod (d := 2048) (by decide) h9
          obtain ⟨u_32, g_31, u_33, F_q_26⟩ := T_27
          refine hm_bald hx hb hK hH 0 F_q_26 rfl (iIn (by omega) (by omega)) d_Me_fetch_52 ?_
          refine lv_sipush (v := 255) hx hb d_Me_fetch_53 (by decide) ?_
          refine lv_iand hx hb d_Me_fetch_56 ?_
          refine lv_goto (tgt := 61) hx hb d_Me_fetch_57 (by decide) ?_
          exact W.iret (v := (g_31 v_28.toNatClampNeg) &&& 255) hx hb hr (fun t9 ht hW => ⟨(g_31 v_28.toNatClampNeg) &&& 255, h, rfl, ⟨⟨i_and255 _, fun z => absurd z (by omega)⟩, rfl⟩, by rw [ht]; exact hH, by rw [ht]; exact hz⟩) hLo d_Me_fetch_61
    · skip
      have ic_34 : (nI n).toInt ≤ v_1.toInt := iNl hc_13
      refine lv_iconst (v := -1) hx hb d_Me_fetch_19 (by decide) ?_
      exact W.iret (v := (-1)) hx hb hr (fun t9 ht hW => ⟨(-1), h, rfl, ⟨⟨⟨by decide, by decide⟩, fun _ => rfl⟩, rfl⟩, by rw [ht]; exact hH, by rw [ht]; exact hz⟩) hLo d_Me_fetch_20

set_option maxHeartbeats 4000000 in
set_option maxRecDepth 100000 in
theorem t_low (l : Launch) (D : va_G) (t : Nat → ClassId) (G : hG) (ak av : Nat → Nat) (h : hM) (τ : tM) (n : Nat) (m9 : Nat) (a9 : Int32) (b9 : Int32) (hn : n ≤ 200) (hT : TI τ t n h) (T_m9 : τ m9 = (11, 0)) : Met l y_Me_low (.code y_Me_low b_Me_low 5 (some .int) :: lw_g) { frames := 1, cells := 0, slots := 0, locals := 23 } (hP (kE D t G ak av) D vwCl G h [.ref m9, .int a9, .int b9]) (hQi D vwCl G (fun r h' => h = h')) 0 0 nof := by
  refine Met.ofW (cc := b_Me_low) (maxL := 5) (ret := (some .int)) (by decide) rfl ?_
  intro p e s m args below meth c s₁ Bd hml hv
  obtain ⟨ha, hE, hH⟩ := hv
  have hx := Bd.exec
  have hb := Bd.bytes
  have hr := Bd.returns
  have hts : ∀ w ∈ lw_g, w.before args s = true := fun w hw => atoms_spec (ws := (.code y_Me_low b_Me_low 5 (some .int) :: lw_g)) Bd.pre w (List.mem_cons_of_mem _ hw)
  have hown : s.vm.findClass R_Me = some m.cls := findClass_of_methodNamed Bd.named
  have hlocks := Bd.notSynchronized
  have hK := hE.1
  have hH0 := hH
  have hLo : hLc nof [] := hLc_nil
  have hz : s.heap.size ≤ s.heap.size := Nat.le_refl _
  have hl := lv_entry [.ref m9, .int a9, .int b9] (n := 5) (Nat.le_of_ble_eq_true rfl)
  rw [show entryFrame m args 5 = F0 m 0 ((lg_sl [.ref m9, .int a9, .int b9] ++ List.replicate (5 - (lg_sl [.ref m9, .int a9, .int b9]).length) Slot.unset).toArray) [] from (by rw [ha]; exact lg_entry_eq m [.ref m9, .int a9, .int b9] 5)]
  generalize (lg_sl [.ref m9, .int a9, .int b9] ++ List.replicate (5 - (lg_sl [.ref m9, .int a9, .int b9]).length) Slot.unset).toArray = ls at hl ⊢
  have hl : lv_has ls 5 [(0, .ref m9), (1, .int a9), (2, .int b9)] := hl
  refine lv_iconst (v := 0) hx hb d_Me_low_0 (by decide) ?_
  refine lv_istore_n (lv' := [(3, .int 0), (0, .ref m9), (1, .int a9), (2, .int b9)]) hx hb d_Me_low_1 rfl hl (by decide) rfl (fun ls hl => ?_)
  refine lv_iload_n hx hb d_Me_low_2 rfl (lv_at hl 3 rfl) ?_
  refine lv_iconst (v := 1) hx hb d_Me_low_3 (by decide) ?_
  refine lv_isub hx hb d_Me_low_4 ?_
  refine lv_topi (fun v_1 e_2 => ?_)
  refine lv_istore (lv' := [(4, .int v_1), (3, .int 0), (0, .ref m9), (1, .int a9), (2, .int b9)]) hx hb d_Me_low_5 hl (by decide) rfl (fun ls hl => ?_)
  refine hm_loop (fun k7 ls H locs hh7 => ∃ (v9 : Int32) (i9 : Int32), k7 = mD i9 ∧ lv_has ls 5 [(0, .ref m9), (1, .int a9), (2, .int b9), (3, .int v9), (4, .int i9)] ∧ hm D vwCl G hh7 H ∧ s.heap.size ≤ H.size ∧ hLc nof locs ∧ (h = hh7)) ?_ (hh := h) ⟨0, v_1, rfl, (lv_sub hl [2, 3, 4, 1, 0] rfl), hH, hz, hLo, rfl⟩
  rintro k7 ls H locs hh7 ⟨v9, i9, hk7, hl, hH, hz, hLo, rfl⟩ ih7
  refine lv_iload hx hb d_Me_low_7 (lv_at hl 4 rfl) ?_
  refine lv_if_lt (tgt := 32) hx hb d_Me_low_9 (by decide) (fun hc_3 => ?_) (fun hc_3 => ?_)
  · skip
    have ic_4 : i9.toInt < 0 := iLt hc_3
    refine lv_iload_n hx hb d_Me_low_32 rfl (lv_at hl 3 rfl) ?_
    exact W.iret (v := v9) hx hb hr (fun t9 ht hW => ⟨v9, h, rfl, rfl, by rw [ht]; exact hH, by rw [ht]; exact hz⟩) hLo d_Me_low_33
  · skip
    have ic_5 : 0 ≤ i9.toInt := iNl hc_3
    refine lv_iload_n hx hb d_Me_low_12 rfl (lv_at hl 3 rfl) ?_
    refine lv_bipush (v := 8) hx hb d_Me_low_13 (by decide) ?_
    refine lv_ishl hx hb d_Me_low_15 ?_
    refine lv_aload_n hx hb d_Me_low_16 rfl (lv_at hl 0 rfl) ?_
    refine lv_iload_n hx hb d_Me_low_17 rfl (lv_at hl 1 rfl) ?_
    refine lv_iload hx hb d_Me_low_18 (lv_at hl 4 rfl) ?_
    refine lv_iadd hx hb d_Me_low_20 ?_
    obtain ⟨v_6, v_8, F_m9, c_7⟩ := TI_med hT T_m9
    refine hm_callPi (va_runV (As := [.int (a9 + i9)]) (b := m9) (rest := [.int (v9 <<< (8 &&& 31))]) ⟨hx, hb, hml, hown, hts⟩ (t_fetch l D t G ak av h τ n m9 (a9 + i9)  hn hT T_m9) ⟨cw9B 1 hts mw_31 mw_33 mw_32 rfl rfl (by decide +kernel) ⟨Nat.le_of_ble_eq_true rfl, Nat.le_of_ble_eq_true rfl⟩, hts _ mw_34, hts _ mw_35⟩ (hP_V (q := (R_Me, F_Me, 2)) kE_ok hE hK hH F_m9 rfl) rfl rfl hl.1 rfl (lv_room (Nat.le_of_ble_eq_true rfl)) d_Me_low_21 ⟨Nat.le_of_ble_eq_true rfl, Nat.le_of_ble_eq_true rfl⟩) (fun r_9 h_10 H_11 hp_13  hH z_12 => ?_)
    have hz : s.heap.size ≤ H_11.size := Nat.le_trans hz z_12
    obtain ⟨xp_14, rfl⟩ := hp_13
    refine lv_ior hx hb d_Me_low_24 ?_
    refine lv_topi (fun v_15 e_16 => ?_)
    refine lv_istore_n (lv' := [(3, .int v_15), (0, .ref m9), (1, .int a9), (2, .int b9), (4, .int i9)]) hx hb d_Me_low_25 rfl hl (by decide) rfl (fun ls hl => ?_)
    obtain ⟨j_17, e_18⟩ : ∃ z : Int32, z = i9 + (-1) := ⟨_, rfl⟩
    refine lv_iinc (v := j_17) (lv' := [(4, .int j_17), (3, .int v_15), (0, .ref m9), (1, .int a9), (2, .int b9)]) hx hb d_Me_low_26 hl (k := 4) rfl e_18.symm (by decide) rfl (fun ls hl => ?_)
    refine lv_goto (tgt := 7) hx hb d_Me_low_29 (by decide) ?_
    have is_19 : j_17.toInt = i9.toInt + -1 := by rw [e_18]; exact iDecK 1 rfl (by decide) (by omega)
    exact ih7 (mD j_17) ls _ locs _ (by rw [hk7]; exact mD_lt (by omega)) ⟨v_15, j_17, rfl, (lv_sub hl [2, 3, 4, 1, 0] rfl), hH, hz, hLo, rfl⟩

set_option maxHeartbeats 4000000 in
set_option maxRecDepth 100000 in
theorem t_high (l : Launch) (D : va_G) (t : Nat → ClassId) (G : hG) (ak av : Nat → Nat) (h : hM) (τ : tM) (n : Nat) (m9 : Nat) (a9 : Int32) (b9 : Int32) (hn : n ≤ 200) (hT : TI τ t n h) (T_m9 : τ m9 = (11, 0)) : Met l y_Me_high (.code y_Me_high b_Me_high 5 (some .int) :: lw_g) { frames := 1, cells := 0, slots := 0, locals := 23 } (hP (kE D t G ak av) D vwCl G h [.ref m9, .int a9, .int b9]) (hQi D vwCl G (fun r h' => h = h')) 0 0 nof := by
  refine Met.ofW (cc := b_Me_high) (maxL := 5) (ret := (some .int)) (by decide) rfl ?_
  intro p e s m args below meth c s₁ Bd hml hv
  obtain ⟨ha, hE, hH⟩ := hv
  have hx := Bd.exec
  have hb := Bd.bytes
  have hr := Bd.returns
  have hts : ∀ w ∈ lw_g, w.before args s = true := fun w hw => atoms_spec (ws := (.code y_Me_high b_Me_high 5 (some .int) :: lw_g)) Bd.pre w (List.mem_cons_of_mem _ hw)
  have hown : s.vm.findClass R_Me = some m.cls := findClass_of_methodNamed Bd.named
  have hlocks := Bd.notSynchronized
  have hK := hE.1
  have hH0 := hH
  have hLo : hLc nof [] := hLc_nil
  have hz : s.heap.size ≤ s.heap.size := Nat.le_refl _
  have hl := lv_entry [.ref m9, .int a9, .int b9] (n := 5) (Nat.le_of_ble_eq_true rfl)
  rw [show entryFrame m args 5 = F0 m 0 ((lg_sl [.ref m9, .int a9, .int b9] ++ List.replicate (5 - (lg_sl [.ref m9, .int a9, .int b9]).length) Slot.unset).toArray) [] from (by rw [ha]; exact lg_entry_eq m [.ref m9, .int a9, .int b9] 5)]
  generalize (lg_sl [.ref m9, .int a9, .int b9] ++ List.replicate (5 - (lg_sl [.ref m9, .int a9, .int b9]).length) Slot.unset).toArray = ls at hl ⊢
  have hl : lv_has ls 5 [(0, .ref m9), (1, .int a9), (2, .int b9)] := hl
  refine lv_iconst (v := 0) hx hb d_Me_high_0 (by decide) ?_
  refine lv_istore_n (lv' := [(3, .int 0), (0, .ref m9), (1, .int a9), (2, .int b9)]) hx hb d_Me_high_1 rfl hl (by decide) rfl (fun ls hl => ?_)
  refine lv_iconst (v := 0) hx hb d_Me_high_2 (by decide) ?_
  refine lv_istore (lv' := [(4, .int 0), (3, .int 0), (0, .ref m9), (1, .int a9), (2, .int b9)]) hx hb d_Me_high_3 hl (by decide) rfl (fun ls hl => ?_)
  refine hm_loop (fun k5 ls H locs hh5 => ∃ (v9 : Int32) (i9 : Int32), k5 = mU i9 ∧ lv_has ls 5 [(0, .ref m9), (1, .int a9), (2, .int b9), (3, .int v9), (4, .int i9)] ∧ hm D vwCl G hh5 H ∧ s.heap.size ≤ H.size ∧ hLc nof locs ∧ (h = hh5) ∧ (0 ≤ i9.toInt)) ?_ (hh := h) ⟨0, 0, rfl, (lv_sub hl [2, 3, 4, 1, 0] rfl), hH, hz, hLo, rfl, (by decide)⟩
  rintro k5 ls H locs hh5 ⟨v9, i9, hk5, hl, hH, hz, hLo, rfl, I_i9⟩ ih5
  refine lv_iload hx hb d_Me_high_5 (lv_at hl 4 rfl) ?_
  refine lv_iload_n hx hb d_Me_high_7 rfl (lv_at hl 2 rfl) ?_
  refine lv_icmp_ge (tgt := 31) hx hb d_Me_high_8 (by decide) (fun hc_1 => ?_) (fun hc_1 => ?_)
  · skip
    have ic_2 : b9.toInt ≤ i9.toInt := iLe hc_1
    refine lv_iload_n hx hb d_Me_high_31 rfl (lv_at hl 3 rfl) ?_
    exact W.iret (v := v9) hx hb hr (fun t9 ht hW => ⟨v9, h, rfl, rfl, by rw [ht]; exact hH, by rw [ht]; exact hz⟩) hLo d_Me_high_32
  · skip
    have ic_3 : i9.toInt < b9.toInt := iNe hc_1
    have iu_4 : b9.toInt < 2147483648 := iUp _
    refine lv_iload_n hx hb d_Me_high_11 rfl (lv_at hl 3 rfl) ?_
    refine lv_bipush (v := 8) hx hb d_Me_high_12 (by decide) ?_
    refine lv_ishl hx hb d_Me_high_14 ?_
    refine lv_aload_n hx hb d_Me_high_15 rfl (lv_at hl 0 rfl) ?_
    refine lv_iload_n hx hb d_Me_high_16 rfl (lv_at hl 1 rfl) ?_
    refine lv_iload hx hb d_Me_high_17 (lv_at hl 4 rfl) ?_
    refine lv_iadd hx hb d_Me_high_19 ?_
    obtain ⟨v_5, v_7, F_m9, c_6⟩ := TI_med hT T_m9
    refine hm_callPi (va_runV (As := [.int (a9 + i9)]) (b := m9) (rest := [.int (v9 <<< (8 &&& 31))]) ⟨hx, hb, hml, hown, hts⟩ (t_fetch l D t G ak av h τ n m9 (a9 + i9)  hn hT T_m9) ⟨cw9B 1 hts mw_31 mw_33 mw_32 rfl rfl (by decide +kernel) ⟨Nat.le_of_ble_eq_true rfl, Nat.le_of_ble_eq_true rfl⟩, hts _ mw_34, hts _ mw_35⟩ (hP_V (q := (R_Me, F_Me, 2)) kE_ok hE hK hH F_m9 rfl) rfl rfl hl.1 rfl (lv_room (Nat.le_of_ble_eq_true rfl)) d_Me_high_20 ⟨Nat.le_of_ble_eq_true rfl, Nat.le_of_ble_eq_true rfl⟩) (fun r_8 h_9 H_10 hp_12  hH z_11 => ?_)
    have hz : s.heap.size ≤ H_10.size := Nat.le_trans hz z_11
    obtain ⟨xp_13, rfl⟩ := hp_12
    refine lv_ior hx hb d_Me_high_23 ?_
    refine lv_topi (fun v_14 e_15 => ?_)
    refine lv_istore_n (lv' := [(3, .int v_14), (0, .ref m9), (1, .int a9), (2, .int b9), (4, .int i9)]) hx hb d_Me_high_24 rfl hl (by decide) rfl (fun ls hl => ?_)
    obtain ⟨j_16, e_17⟩ : ∃ z : Int32, z = i9 + 1 := ⟨_, rfl⟩
    refine lv_iinc (v := j_16) (lv' := [(4, .int j_16), (3, .int v_14), (0, .ref m9), (1, .int a9), (2, .int b9)]) hx hb d_Me_high_25 hl (k := 4) rfl e_17.symm (by decide) rfl (fun ls hl => ?_)
    refine lv_goto (tgt := 5) hx hb d_Me_high_28 (by decide) ?_
    have is_18 : j_16.toInt = i9.toInt + 1 := by rw [e_17]; exact iAddK 1 rfl (by omega) (by omega)
    exact ih5 (mU j_16) ls _ locs _ (by rw [hk5]; exact mU_lt (by omega)) ⟨v_14, j_16, rfl, (lv_sub hl [2, 3, 4, 1, 0] rfl), hH, hz, hLo, rfl, (by omega)⟩

set_option maxHeartbeats 4000000 in
set_option maxRecDepth 100000 in
theorem t_halves (l : Launch) (D : va_G) (t : Nat → ClassId) (G : hG) (ak av : Nat → Nat) (h : hM) (τ : tM) (n : Nat) (m9 : Nat) (a9 : Int32) (b9 : Int32) (hn : n ≤ 200) (hT : TI τ t n h) (T_m9 : τ m9 = (11, 0)) : Met l y_Me_halvesAgree (.code y_Me_halvesAgree b_Me_halvesAgree 4 (some .boolean) :: lw_g) { frames := 1, cells := 0, slots := 0, locals := 23 } (hP (kE D t G ak av) D vwCl G h [.ref m9, .int a9, .int b9]) (hQi D vwCl G (fun r h' => zb r ∧ h = h')) 0 0 nof := by
  refine Met.ofW (cc := b_Me_halvesAgree) (maxL := 4) (ret := (some .boolean)) (by decide) rfl ?_
  intro p e s m args below meth c s₁ Bd hml hv
  obtain ⟨ha, hE, hH⟩ := hv
  have hx := Bd.exec
  have hb := Bd.bytes
  have hr := Bd.returns
  have hts : ∀ w ∈ lw_g, w.before args s = true := fun w hw => atoms_spec (ws := (.code y_Me_halvesAgree b_Me_halvesAgree 4 (some .boolean) :: lw_g)) Bd.pre w (List.mem_cons_of_mem _ hw)
  have hown : s.vm.findClass R_Me = some m.cls := findClass_of_methodNamed Bd.named
  have hlocks := Bd.notSynchronized
  have hK := hE.1
  have hH0 := hH
  have hLo : hLc nof [] := hLc_nil
  have hz : s.heap.size ≤ s.heap.size := Nat.le_refl _
  have hl := lv_entry [.ref m9, .int a9, .int b9] (n := 4) (Nat.le_of_ble_eq_true rfl)
  rw [show entryFrame m args 4 = F0 m 0 ((lg_sl [.ref m9, .int a9, .int b9] ++ List.replicate (4 - (lg_sl [.ref m9, .int a9, .int b9]).length) Slot.unset).toArray) [] from (by rw [ha]; exact lg_entry_eq m [.ref m9, .int a9, .int b9] 4)]
  generalize (lg_sl [.ref m9, .int a9, .int b9] ++ List.replicate (4 - (lg_sl [.ref m9, .int a9, .int b9]).length) Slot.unset).toArray = ls at hl ⊢
  have hl : lv_has ls 4 [(0, .ref m9), (1, .int a9), (2, .int b9)] := hl
  refine lv_iconst (v := 0) hx hb d_Me_halvesAgree_0 (by decide) ?_
  refine lv_istore_n (lv' := [(3, .int 0), (0, .ref m9), (1, .int a9), (2, .int b9)]) hx hb d_Me_halvesAgree_1 rfl hl (by decide) rfl (fun ls hl => ?_)
  refine hm_loop (fun k2 ls H locs hh2 => ∃ (i9 : Int32), k2 = mU i9 ∧ lv_has ls 4 [(0, .ref m9), (1, .int a9), (2, .int b9), (3, .int i9)] ∧ hm D vwCl G hh2 H ∧ s.heap.size ≤ H.size ∧ hLc nof locs ∧ (h = hh2) ∧ (0 ≤ i9.toInt)) ?_ (hh := h) ⟨0, rfl, (lv_sub hl [1, 2, 3, 0] rfl), hH, hz, hLo, rfl, (by decide)⟩
  rintro k2 ls H locs hh2 ⟨i9, hk2, hl, hH, hz, hLo, rfl, I_i9⟩ ih2
  refine lv_iload_n hx hb d_Me_halvesAgree_2 rfl (lv_at hl 3 rfl) ?_
  refine lv_iload_n hx hb d_Me_halvesAgree_3 rfl (lv_at hl 2 rfl) ?_
  refine lv_icmp_ge (tgt := 38) hx hb d_Me_halvesAgree_4 (by decide) (fun hc_1 => ?_) (fun hc_1 => ?_)
  · skip
    have ic_2 : b9.toInt ≤ i9.toInt := iLe hc_1
    refine lv_iconst (v := 1) hx hb d_Me_halvesAgree_38 (by decide) ?_
    exact W.zret (v := 1) hx hb hr (by decide) (fun t9 ht hW => ⟨1, h, rfl, ⟨zb1, rfl⟩, by rw [ht]; exact hH, by rw [ht]; exact hz⟩) hLo d_Me_halvesAgree_39
  · skip
    have ic_3 : i9.toInt < b9.toInt := iNe hc_1
    have iu_4 : b9.toInt < 2147483648 := iUp _
    refine lv_aload_n hx hb d_Me_halvesAgree_7 rfl (lv_at hl 0 rfl) ?_
    refine lv_iload_n hx hb d_Me_halvesAgree_8 rfl (lv_at hl 1 rfl) ?_
    refine lv_iload_n hx hb d_Me_halvesAgree_9 rfl (lv_at hl 3 rfl) ?_
    refine lv_iadd hx hb d_Me_halvesAgree_10 ?_
    obtain ⟨v_5, v_7, F_m9, c_6⟩ := TI_med hT T_m9
    refine hm_callPi (va_runV (As := [.int (a9 + i9)]) (b := m9) (rest := []) ⟨hx, hb, hml, hown, hts⟩ (t_fetch l D t G ak av h τ n m9 (a9 + i9)  hn hT T_m9) ⟨cw9B 1 hts mw_31 mw_33 mw_32 rfl rfl (by decide +kernel) ⟨Nat.le_of_ble_eq_true rfl, Nat.le_of_ble_eq_true rfl⟩, hts _ mw_34, hts _ mw_35⟩ (hP_V (q := (R_Me, F_Me, 2)) kE_ok hE hK hH F_m9 rfl) rfl rfl hl.1 rfl (lv_room (Nat.le_of_ble_eq_true rfl)) d_Me_halvesAgree_11 ⟨Nat.le_of_ble_eq_true rfl, Nat.le_of_ble_eq_true rfl⟩) (fun r_8 h_9 H_10 hp_12  hH z_11 => ?_)
    have hz : s.heap.size ≤ H_10.size := Nat.le_trans hz z_11
    obtain ⟨xp_13, rfl⟩ := hp_12
    refine lv_aload_n hx hb d_Me_halvesAgree_14 rfl (lv_at hl 0 rfl) ?_
    refine lv_iload_n hx hb d_Me_halvesAgree_15 rfl (lv_at hl 1 rfl) ?_
    refine lv_iconst (v := 2) hx hb d_Me_halvesAgree_16 (by decide) ?_
    refine lv_iload_n hx hb d_Me_halvesAgree_17 rfl (lv_at hl 2 rfl) ?_
    refine lv_imul hx hb d_Me_halvesAgree_18 ?_
    refine lv_iadd hx hb d_Me_halvesAgree_19 ?_
    refine lv_iconst (v := 1) hx hb d_Me_halvesAgree_20 (by decide) ?_
    refine lv_isub hx hb d_Me_halvesAgree_21 ?_
    refine lv_iload_n hx hb d_Me_halvesAgree_22 rfl (lv_at hl 3 rfl) ?_
    refine lv_isub hx hb d_Me_halvesAgree_23 ?_
    refine hm_callPi (va_runV (As := [.int (((a9 + (2 * b9)) - 1) - i9)]) (b := m9) (rest := [.int r_8]) ⟨hx, hb, hml, hown, hts⟩ (t_fetch l D t G ak av h τ n m9 (((a9 + (2 * b9)) - 1) - i9)  hn hT T_m9) ⟨cw9B 1 hts mw_31 mw_33 mw_32 rfl rfl (by decide +kernel) ⟨Nat.le_of_ble_eq_true rfl, Nat.le_of_ble_eq_true rfl⟩, hts _ mw_34, hts _ mw_35⟩ (hP_V (q := (R_Me, F_Me, 2)) kE_ok hE hK hH F_m9 rfl) rfl rfl hl.1 rfl (lv_room (Nat.le_of_ble_eq_true rfl)) d_Me_halvesAgree_24 ⟨Nat.le_of_ble_eq_true rfl, Nat.le_of_ble_eq_true rfl⟩) (fun r_14 h_15 H_16 hp_18  hH z_17 => ?_)
    have hz : s.heap.size ≤ H_16.size := Nat.le_trans hz z_17
    obtain ⟨xp_19, rfl⟩ := hp_18
    refine lv_icmp_eq (tgt := 32) hx hb d_Me_halvesAgree_27 (by decide) (fun hc_20 => ?_) (fun hc_20 => ?_)
    · skip
      have ic_21 : r_8.toInt = r_14.toInt := congrArg Int32.toInt hc_20
      obtain ⟨j_22, e_23⟩ : ∃ z : Int32, z = i9 + 1 := ⟨_, rfl⟩
      refine lv_iinc (v := j_22) (lv' := [(3, .int j_22), (0, .ref m9), (1, .int a9), (2, .int b9)]) hx hb d_Me_halvesAgree_32 hl (k := 3) rfl e_23.symm (by decide) rfl (fun ls hl => ?_)
      refine lv_goto (tgt := 2) hx hb d_Me_halvesAgree_35 (by decide) ?_
      have is_24 : j_22.toInt = i9.toInt + 1 := by rw [e_23]; exact iAddK 1 rfl (by omega) (by omega)
      exact ih2 (mU j_22) ls _ locs _ (by rw [hk2]; exact mU_lt (by omega)) ⟨j_22, rfl, (lv_sub hl [1, 2, 3, 0] rfl), hH, hz, hLo, rfl, (by omega)⟩
    · skip
      refine lv_iconst (v := 0) hx hb d_Me_halvesAgree_30 (by decide) ?_
      exact W.zret (v := 0) hx hb hr (by decide) (fun t9 ht hW => ⟨0, h, rfl, ⟨zb0, rfl⟩, by rw [ht]; exact hH, by rw [ht]; exact hz⟩) hLo d_Me_halvesAgree_31

set_option maxHeartbeats 4000000 in
set_option maxRecDepth 100000 in
theorem t_hasText (l : Launch) (D : va_G) (t : Nat → ClassId) (G : hG) (ak av : Nat → Nat) (h : hM) (τ : tM) (n : Nat) (m9 : Nat) (a9 : Int32) (i8 : Nat) (hn : n ≤ 200) (hT : TI τ t n h) (T_m9 : τ m9 = (11, 0)) (hi_i8 : i8 < 3) : Met l y_Me_hasText (.code y_Me_hasText b_Me_hasText 4 (some .boolean) :: lw_g) { frames := 4, cells := 0, slots := 0, locals := 85 } (hP (kE D t G ak av) D vwCl G h [.ref m9, .int a9, .ref (ak i8)]) (hQi D vwCl G (fun r h' => zb r ∧ h = h')) 0 0 nof := by
  refine Met.ofW (cc := b_Me_hasText) (maxL := 4) (ret := (some .boolean)) (by decide) rfl ?_
  intro p e s m args below meth c s₁ Bd hml hv
  obtain ⟨ha, hE, hH⟩ := hv
  have hx := Bd.exec
  have hb := Bd.bytes
  have hr := Bd.returns
  have hts : ∀ w ∈ lw_g, w.before args s = true := fun w hw => atoms_spec (ws := (.code y_Me_hasText b_Me_hasText 4 (some .boolean) :: lw_g)) Bd.pre w (List.mem_cons_of_mem _ hw)
  have hown : s.vm.findClass R_Me = some m.cls := findClass_of_methodNamed Bd.named
  have hlocks := Bd.notSynchronized
  have hK := hE.1
  have hH0 := hH
  have hLo : hLc nof [] := hLc_nil
  have hz : s.heap.size ≤ s.heap.size := Nat.le_refl _
  have hl := lv_entry [.ref m9, .int a9, .ref (ak i8)] (n := 4) (Nat.le_of_ble_eq_true rfl)
  rw [show entryFrame m args 4 = F0 m 0 ((lg_sl [.ref m9, .int a9, .ref (ak i8)] ++ List.replicate (4 - (lg_sl [.ref m9, .int a9, .ref (ak i8)]).length) Slot.unset).toArray) [] from (by rw [ha]; exact lg_entry_eq m [.ref m9, .int a9, .ref (ak i8)] 4)]
  generalize (lg_sl [.ref m9, .int a9, .ref (ak i8)] ++ List.replicate (4 - (lg_sl [.ref m9, .int a9, .ref (ak i8)]).length) Slot.unset).toArray = ls at hl ⊢
  have hl : lv_has ls 4 [(0, .ref m9), (1, .int a9), (2, .ref (ak i8))] := hl
  refine lv_iconst (v := 0) hx hb d_Me_hasText_0 (by decide) ?_
  refine lv_istore_n (lv' := [(3, .int 0), (0, .ref m9), (1, .int a9), (2, .ref (ak i8))]) hx hb d_Me_hasText_1 rfl hl (by decide) rfl (fun ls hl => ?_)
  refine hm_loop (fun k2 ls H locs hh2 => ∃ (i9 : Int32), k2 = mU i9 ∧ lv_has ls 4 [(0, .ref m9), (1, .int a9), (2, .ref (ak i8)), (3, .int i9)] ∧ hm D vwCl G hh2 H ∧ s.heap.size ≤ H.size ∧ hLc nof locs ∧ (h = hh2) ∧ (0 ≤ i9.toInt)) ?_ (hh := h) ⟨0, rfl, (lv_sub hl [1, 2, 3, 0] rfl), hH, hz, hLo, rfl, (by decide)⟩
  rintro k2 ls H locs hh2 ⟨i9, hk2, hl, hH, hz, hLo, rfl, I_i9⟩ ih2
  refine lv_iload_n hx hb d_Me_hasText_2 rfl (lv_at hl 3 rfl) ?_
  refine lv_aload_n hx hb d_Me_hasText_3 rfl (lv_at hl 2 rfl) ?_
  have hZ := K9 hE.2.2.2.2 hH0
  have hS := S9 hH0 hH hz (hLc_nof hLo)
  refine hm_callPi (va_runV (As := []) (b := ak i8) (rest := [.int i9]) ⟨hx, hb, hml, hown, hts⟩ (c_St_length l D t G ak av h i8 hi_i8) ⟨cw9B 0 hts mw_36 mw_37 mw_4 rfl rfl (by decide +kernel) ⟨Nat.le_of_ble_eq_true rfl, Nat.le_of_ble_eq_true rfl⟩, hts _ mw_38, hts _ mw_39⟩ (hP_W kE_ok hE hH (vk_recv hZ hi_i8 hS)) rfl rfl hl.1 rfl (lv_room (Nat.le_of_ble_eq_true rfl)) d_Me_hasText_4 ⟨Nat.le_of_ble_eq_true rfl, Nat.le_of_ble_eq_true rfl⟩) (fun r_1 h_2 H_3 hp_5  hH z_4 => ?_)
  have hz : s.heap.size ≤ H_3.size := Nat.le_trans hz z_4
  obtain ⟨e_r_1, rfl⟩ := hp_5
  have is_r_1 : r_1.toInt = (sLen.getD i8 0 : Nat) := by rw [e_r_1]; exact nI_toInt (sl_lt hi_i8)
  have iq_r_1 := sl_8 (i := i8) hi_i8
  refine lv_icmp_ge (tgt := 33) hx hb d_Me_hasText_7 (by decide) (fun hc_6 => ?_) (fun hc_6 => ?_)
  · skip
    have ic_7 : r_1.toInt ≤ i9.toInt := iLe hc_6
    refine lv_iconst (v := 1) hx hb d_Me_hasText_33 (by decide) ?_
    exact W.zret (v := 1) hx hb hr (by decide) (fun t9 ht hW => ⟨1, h, rfl, ⟨zb1, rfl⟩, by rw [ht]; exact hH, by rw [ht]; exact hz⟩) hLo d_Me_hasText_34
  · skip
    have ic_8 : i9.toInt < r_1.toInt := iNe hc_6
    have iu_9 : r_1.toInt < 2147483648 := iUp _
    refine lv_aload_n hx hb d_Me_hasText_10 rfl (lv_at hl 0 rfl) ?_
    refine lv_iload_n hx hb d_Me_hasText_11 rfl (lv_at hl 1 rfl) ?_
    refine lv_iload_n hx hb d_Me_hasText_12 rfl (lv_at hl 3 rfl) ?_
    refine lv_iadd hx hb d_Me_hasText_13 ?_
    obtain ⟨v_10, v_12, F_m9, c_11⟩ := TI_med hT T_m9
    refine hm_callPi (va_runV (As := [.int (a9 + i9)]) (b := m9) (rest := []) ⟨hx, hb, hml, hown, hts⟩ (t_fetch l D t G ak av h τ n m9 (a9 + i9)  hn hT T_m9) ⟨cw9B 1 hts mw_31 mw_33 mw_32 rfl rfl (by decide +kernel) ⟨Nat.le_of_ble_eq_true rfl, Nat.le_of_ble_eq_true rfl⟩, hts _ mw_34, hts _ mw_35⟩ (hP_V (q := (R_Me, F_Me, 2)) kE_ok hE hK hH F_m9 rfl) rfl rfl hl.1 rfl (lv_room (Nat.le_of_ble_eq_true rfl)) d_Me_hasText_14 ⟨Nat.le_of_ble_eq_true rfl, Nat.le_of_ble_eq_true rfl⟩) (fun r_13 h_14 H_15 hp_17  hH z_16 => ?_)
    have hz : s.heap.size ≤ H_15.size := Nat.le_trans hz z_16
    obtain ⟨xp_18, rfl⟩ := hp_17
    refine lv_aload_n hx hb d_Me_hasText_17 rfl (lv_at hl 2 rfl) ?_
    refine lv_iload_n hx hb d_Me_hasText_18 rfl (lv_at hl 3 rfl) ?_
    have hZ := K9 hE.2.2.2.2 hH0
    have hS := S9 hH0 hH hz (hLc_nof hLo)
    obtain ⟨j_19, e_20l, e_20⟩ : ∃ j : Nat, j < sLen.getD i8 0 ∧ i9 = nI j := ⟨i9.toInt.toNat, by omega, i_nI (by omega)⟩
    refine lv_topi (fun v_21 e_22 => ?_)
    obtain rfl : v_21 = nI j_19 := e_22.trans (e_20)
    refine hm_callPi (va_runV (As := [.int (nI j_19)]) (b := ak i8) (rest := [.int r_13]) ⟨hx, hb, hml, hown, hts⟩ (c_St_charAt l D t G ak av h i8 j_19 hi_i8 e_20l) ⟨cw9B 1 hts mw_40 mw_41 mw_4 rfl rfl (by decide +kernel) ⟨Nat.le_of_ble_eq_true rfl, Nat.le_of_ble_eq_true rfl⟩, hts _ mw_42, hts _ mw_43⟩ (hP_W kE_ok hE hH (vk_recv hZ hi_i8 hS)) rfl rfl hl.1 rfl (lv_room (Nat.le_of_ble_eq_true rfl)) d_Me_hasText_19 ⟨Nat.le_of_ble_eq_true rfl, Nat.le_of_ble_eq_true rfl⟩) (fun r_23 h_24 H_25 hp_27  hH z_26 => ?_)
    have hz : s.heap.size ≤ H_25.size := Nat.le_trans hz z_26
    obtain ⟨-, rfl⟩ := hp_27
    refine lv_icmp_eq (tgt := 27) hx hb d_Me_hasText_22 (by decide) (fun hc_28 => ?_) (fun hc_28 => ?_)
    · skip
      have ic_29 : r_13.toInt = r_23.toInt := congrArg Int32.toInt hc_28
      obtain ⟨j_30, e_31⟩ : ∃ z : Int32, z = i9 + 1 := ⟨_, rfl⟩
      refine lv_iinc (v := j_30) (lv' := [(3, .int j_30), (0, .ref m9), (1, .int a9), (2, .ref (ak i8))]) hx hb d_Me_hasText_27 hl (k := 3) rfl e_31.symm (by decide) rfl (fun ls hl => ?_)
      refine lv_goto (tgt := 2) hx hb d_Me_hasText_30 (by decide) ?_
      have is_32 : j_30.toInt = i9.toInt + 1 := by rw [e_31]; exact iAddK 1 rfl (by omega) (by omega)
      exact ih2 (mU j_30) ls _ locs _ (by rw [hk2]; exact mU_lt (by omega)) ⟨j_30, rfl, (lv_sub hl [1, 2, 3, 0] rfl), hH, hz, hLo, rfl, (by omega)⟩
    · skip
      refine lv_iconst (v := 0) hx hb d_Me_hasText_25 (by decide) ?_
      exact W.zret (v := 0) hx hb hr (by decide) (fun t9 ht hW => ⟨0, h, rfl, ⟨zb0, rfl⟩, by rw [ht]; exact hH, by rw [ht]; exact hz⟩) hLo d_Me_hasText_26

set_option maxHeartbeats 4000000 in
set_option maxRecDepth 100000 in
theorem t_mBase (l : Launch) (D : va_G) (t : Nat → ClassId) (G : hG) (ak av : Nat → Nat) (h : hM) (τ : tM) (n : Nat) (m9 : Nat) (a9 : Int32) (hn : n ≤ 200) (hT : TI τ t n h) (T_m9 : τ m9 = (11, 0)) : Met l y_Me_markedBase (.code y_Me_markedBase b_Me_markedBase 2 (some .int) :: lw_g) { frames := 2, cells := 0, slots := 0, locals := 47 } (hP (kE D t G ak av) D vwCl G h [.ref m9, .int a9]) (hQi D vwCl G (fun r h' => h = h')) 0 0 nof := by
  refine Met.ofW (cc := b_Me_markedBase) (maxL := 2) (ret := (some .int)) (by decide) rfl ?_
  intro p e s m args below meth c s₁ Bd hml hv
  obtain ⟨ha, hE, hH⟩ := hv
  have hx := Bd.exec
  have hb := Bd.bytes
  have hr := Bd.returns
  have hts : ∀ w ∈ lw_g, w.before args s = true := fun w hw => atoms_spec (ws := (.code y_Me_markedBase b_Me_markedBase 2 (some .int) :: lw_g)) Bd.pre w (List.mem_cons_of_mem _ hw)
  have hown : s.vm.findClass R_Me = some m.cls := findClass_of_methodNamed Bd.named
  have hlocks := Bd.notSynchronized
  have hK := hE.1
  have hH0 := hH
  have hLo : hLc nof [] := hLc_nil
  have hz : s.heap.size ≤ s.heap.size := Nat.le_refl _
  have hl := lv_entry [.ref m9, .int a9] (n := 2) (Nat.le_of_ble_eq_true rfl)
  rw [show entryFrame m args 2 = F0 m 0 ((lg_sl [.ref m9, .int a9] ++ List.replicate (2 - (lg_sl [.ref m9, .int a9]).length) Slot.unset).toArray) [] from (by rw [ha]; exact lg_entry_eq m [.ref m9, .int a9] 2)]
  generalize (lg_sl [.ref m9, .int a9] ++ List.replicate (2 - (lg_sl [.ref m9, .int a9]).length) Slot.unset).toArray = ls at hl ⊢
  have hl : lv_has ls 2 [(0, .ref m9), (1, .int a9)] := hl
  refine lv_aload_n hx hb d_Me_markedBase_0 rfl (lv_at hl 0 rfl) ?_
  refine lv_iload_n hx hb d_Me_markedBase_1 rfl (lv_at hl 1 rfl) ?_
  refine lv_sipush (v := 2048) hx hb d_Me_markedBase_2 (by decide) ?_
  refine lv_imul hx hb d_Me_markedBase_5 ?_
  refine lv_iconst (v := 4) hx hb d_Me_markedBase_6 (by decide) ?_
  refine lv_iadd hx hb d_Me_markedBase_7 ?_
  refine lv_iconst (v := 4) hx hb d_Me_markedBase_8 (by decide) ?_
  obtain ⟨v_1, v_3, F_m9, c_2⟩ := TI_med hT T_m9
  refine hm_callPi (va_runV (As := [.int ((a9 * 2048) + 4), .int 4]) (b := m9) (rest := []) ⟨hx, hb, hml, hown, hts⟩ (t_low l D t G ak av h τ n m9 ((a9 * 2048) + 4) 4  hn hT T_m9) ⟨cw9B 2 hts mw_44 mw_45 mw_32 rfl rfl (by decide +kernel) ⟨Nat.le_of_ble_eq_true rfl, Nat.le_of_ble_eq_true rfl⟩, hts _ mw_46, hts _ mw_47⟩ (hP_V (q := (R_Me, F_Me, 2)) kE_ok hE hK hH F_m9 rfl) rfl rfl hl.1 rfl (lv_room (Nat.le_of_ble_eq_true rfl)) d_Me_markedBase_9 ⟨Nat.le_of_ble_eq_true rfl, Nat.le_of_ble_eq_true rfl⟩) (fun r_4 h_5 H_6 hp_8  hH z_7 => ?_)
  have hz : s.heap.size ≤ H_6.size := Nat.le_trans hz z_7
  obtain rfl := hp_8
  exact W.iret (v := r_4) hx hb hr (fun t9 ht hW => ⟨r_4, h, rfl, rfl, by rw [ht]; exact hH, by rw [ht]; exact hz⟩) hLo d_Me_markedBase_12

set_option maxHeartbeats 4000000 in
set_option maxRecDepth 100000 in
theorem t_mNum (l : Launch) (D : va_G) (t : Nat → ClassId) (G : hG) (ak av : Nat → Nat) (h : hM) (τ : tM) (n : Nat) (m9 : Nat) (a9 : Int32) (hn : n ≤ 200) (hT : TI τ t n h) (T_m9 : τ m9 = (11, 0)) : Met l y_Me_markedNumber (.code y_Me_markedNumber b_Me_markedNumber 2 (some .int) :: lw_g) { frames := 2, cells := 0, slots := 0, locals := 47 } (hP (kE D t G ak av) D vwCl G h [.ref m9, .int a9]) (hQi D vwCl G (fun r h' => h = h')) 0 0 nof := by
  refine Met.ofW (cc := b_Me_markedNumber) (maxL := 2) (ret := (some .int)) (by decide) rfl ?_
  intro p e s m args below meth c s₁ Bd hml hv
  obtain ⟨ha, hE, hH⟩ := hv
  have hx := Bd.exec
  have hb := Bd.bytes
  have hr := Bd.returns
  have hts : ∀ w ∈ lw_g, w.before args s = true := fun w hw => atoms_spec (ws := (.code y_Me_markedNumber b_Me_markedNumber 2 (some .int) :: lw_g)) Bd.pre w (List.mem_cons_of_mem _ hw)
  have hown : s.vm.findClass R_Me = some m.cls := findClass_of_methodNamed Bd.named
  have hlocks := Bd.notSynchronized
  have hK := hE.1
  have hH0 := hH
  have hLo : hLc nof [] := hLc_nil
  have hz : s.heap.size ≤ s.heap.size := Nat.le_refl _
  have hl := lv_entry [.ref m9, .int a9] (n := 2) (Nat.le_of_ble_eq_true rfl)
  rw [show entryFrame m args 2 = F0 m 0 ((lg_sl [.ref m9, .int a9] ++ List.replicate (2 - (lg_sl [.ref m9, .int a9]).length) Slot.unset).toArray) [] from (by rw [ha]; exact lg_entry_eq m [.ref m9, .int a9] 2)]
  generalize (lg_sl [.ref m9, .int a9] ++ List.replicate (2 - (lg_sl [.ref m9, .int a9]).length) Slot.unset).toArray = ls at hl ⊢
  have hl : lv_has ls 2 [(0, .ref m9), (1, .int a9)] := hl
  refine lv_aload_n hx hb d_Me_markedNumber_0 rfl (lv_at hl 0 rfl) ?_
  refine lv_iload_n hx hb d_Me_markedNumber_1 rfl (lv_at hl 1 rfl) ?_
  refine lv_sipush (v := 2048) hx hb d_Me_markedNumber_2 (by decide) ?_
  refine lv_imul hx hb d_Me_markedNumber_5 ?_
  refine lv_bipush (v := 8) hx hb d_Me_markedNumber_6 (by decide) ?_
  refine lv_iadd hx hb d_Me_markedNumber_8 ?_
  refine lv_iconst (v := 4) hx hb d_Me_markedNumber_9 (by decide) ?_
  obtain ⟨v_1, v_3, F_m9, c_2⟩ := TI_med hT T_m9
  refine hm_callPi (va_runV (As := [.int ((a9 * 2048) + 8), .int 4]) (b := m9) (rest := []) ⟨hx, hb, hml, hown, hts⟩ (t_low l D t G ak av h τ n m9 ((a9 * 2048) + 8) 4  hn hT T_m9) ⟨cw9B 2 hts mw_44 mw_45 mw_32 rfl rfl (by decide +kernel) ⟨Nat.le_of_ble_eq_true rfl, Nat.le_of_ble_eq_true rfl⟩, hts _ mw_46, hts _ mw_47⟩ (hP_V (q := (R_Me, F_Me, 2)) kE_ok hE hK hH F_m9 rfl) rfl rfl hl.1 rfl (lv_room (Nat.le_of_ble_eq_true rfl)) d_Me_markedNumber_10 ⟨Nat.le_of_ble_eq_true rfl, Nat.le_of_ble_eq_true rfl⟩) (fun r_4 h_5 H_6 hp_8  hH z_7 => ?_)
  have hz : s.heap.size ≤ H_6.size := Nat.le_trans hz z_7
  obtain rfl := hp_8
  exact W.iret (v := r_4) hx hb hr (fun t9 ht hW => ⟨r_4, h, rfl, rfl, by rw [ht]; exact hH, by rw [ht]; exact hz⟩) hLo d_Me_markedNumber_13

set_option maxHeartbeats 4000000 in
set_option maxRecDepth 100000 in
theorem t_isMark (l : Launch) (D : va_G) (t : Nat → ClassId) (G : hG) (ak av : Nat → Nat) (h : hM) (τ : tM) (n : Nat) (m9 : Nat) (s9 : Int32) (hn : n ≤ 200) (hT : TI τ t n h) (T_m9 : τ m9 = (11, 0)) : Met l y_Me_isMark (.code y_Me_isMark b_Me_isMark 2 (some .boolean) :: lw_g) { frames := 5, cells := 0, slots := 0, locals := 108 } (hP (kE D t G ak av) D vwCl G h [.ref m9, .int s9]) (hQi D vwCl G (fun r h' => zb r ∧ h = h')) 0 0 nof := by
  refine Met.ofW (cc := b_Me_isMark) (maxL := 2) (ret := (some .boolean)) (by decide) rfl ?_
  intro p e s m args below meth c s₁ Bd hml hv
  obtain ⟨ha, hE, hH⟩ := hv
  have hx := Bd.exec
  have hb := Bd.bytes
  have hr := Bd.returns
  have hts : ∀ w ∈ lw_g, w.before args s = true := fun w hw => atoms_spec (ws := (.code y_Me_isMark b_Me_isMark 2 (some .boolean) :: lw_g)) Bd.pre w (List.mem_cons_of_mem _ hw)
  have hown : s.vm.findClass R_Me = some m.cls := findClass_of_methodNamed Bd.named
  have hlocks := Bd.notSynchronized
  have hK := hE.1
  have hH0 := hH
  have hLo : hLc nof [] := hLc_nil
  have hz : s.heap.size ≤ s.heap.size := Nat.le_refl _
  have hl := lv_entry [.ref m9, .int s9] (n := 2) (Nat.le_of_ble_eq_true rfl)
  rw [show entryFrame m args 2 = F0 m 0 ((lg_sl [.ref m9, .int s9] ++ List.replicate (2 - (lg_sl [.ref m9, .int s9]).length) Slot.unset).toArray) [] from (by rw [ha]; exact lg_entry_eq m [.ref m9, .int s9] 2)]
  generalize (lg_sl [.ref m9, .int s9] ++ List.replicate (2 - (lg_sl [.ref m9, .int s9]).length) Slot.unset).toArray = ls at hl ⊢
  have hl : lv_has ls 2 [(0, .ref m9), (1, .int s9)] := hl
  refine lv_aload_n hx hb d_Me_isMark_0 rfl (lv_at hl 0 rfl) ?_
  refine lv_iload_n hx hb d_Me_isMark_1 rfl (lv_at hl 1 rfl) ?_
  obtain ⟨v_1, v_3, F_m9, c_2⟩ := TI_med hT T_m9
  refine hm_callPi (va_runV (As := [.int s9]) (b := m9) (rest := []) ⟨hx, hb, hml, hown, hts⟩ (t_isWritten l D t G ak av h τ n m9 s9  hn hT T_m9) ⟨cw9B 1 hts mw_48 mw_49 mw_32 rfl rfl (by decide +kernel) ⟨Nat.le_of_ble_eq_true rfl, Nat.le_of_ble_eq_true rfl⟩, hts _ mw_50, hts _ mw_51⟩ (hP_V (q := (R_Me, F_Me, 2)) kE_ok hE hK hH F_m9 rfl) rfl rfl hl.1 rfl (lv_room (Nat.le_of_ble_eq_true rfl)) d_Me_isMark_2 ⟨Nat.le_of_ble_eq_true rfl, Nat.le_of_ble_eq_true rfl⟩) (fun r_4 h_5 H_6 hp_8  hH z_7 => ?_)
  have hz : s.heap.size ≤ H_6.size := Nat.le_trans hz z_7
  obtain ⟨c_9, xp_10, rfl⟩ := hp_8
  rcases xp_10 with rfl | ⟨rfl, ix9, iy9⟩
  · skip
    refine lv_if_eq (tgt := 51) hx hb d_Me_isMark_5 (by decide) (fun hc_11 => ?_) (fun hc_11 => absurd hc_11 (by decide))
    refine lv_iconst (v := 0) hx hb d_Me_isMark_51 (by decide) ?_
    exact W.zret (v := 0) hx hb hr (by decide) (fun t9 ht hW => ⟨0, h, rfl, ⟨zb0, rfl⟩, by rw [ht]; exact hH, by rw [ht]; exact hz⟩) hLo d_Me_isMark_52
  · skip
    refine lv_if_eq (tgt := 51) hx hb d_Me_isMark_5 (by decide) (fun hc_12 => absurd hc_12 (by decide)) (fun hc_12 => ?_)
    refine lv_aload_n hx hb d_Me_isMark_8 rfl (lv_at hl 0 rfl) ?_
    refine lv_iload_n hx hb d_Me_isMark_9 rfl (lv_at hl 1 rfl) ?_
    refine lv_sipush (v := 2048) hx hb d_Me_isMark_10 (by decide) ?_
    refine lv_imul hx hb d_Me_isMark_13 ?_
    refine va_ldcS hx hb hown hE.2.2.2.2.2.2.2.1 d_Me_isMark_14 ?_
    refine hm_callPi (va_runV (As := [.int (s9 * 2048), .ref (ak 1)]) (b := m9) (rest := []) ⟨hx, hb, hml, hown, hts⟩ (t_hasText l D t G ak av h τ n m9 (s9 * 2048) 1  hn hT T_m9 (by decide)) ⟨cw9B 2 hts mw_52 mw_53 mw_32 rfl rfl (by decide +kernel) ⟨Nat.le_of_ble_eq_true rfl, Nat.le_of_ble_eq_true rfl⟩, hts _ mw_54, hts _ mw_55⟩ (hP_V (q := (R_Me, F_Me, 2)) kE_ok hE hK hH F_m9 rfl) rfl rfl hl.1 rfl (lv_room (Nat.le_of_ble_eq_true rfl)) d_Me_isMark_16 ⟨Nat.le_of_ble_eq_true rfl, Nat.le_of_ble_eq_true rfl⟩) (fun r_13 h_14 H_15 hp_17  hH z_16 => ?_)
    have hz : s.heap.size ≤ H_15.size := Nat.le_trans hz z_16
    obtain ⟨c_18, rfl⟩ := hp_17
    refine lv_if_eq (tgt := 51) hx hb d_Me_isMark_19 (by decide) (fun hc_20 => ?_) (fun hc_20 => ?_)
    · skip
      have ic_21 : r_13.toInt = 0 := congrArg Int32.toInt hc_20
      refine lv_iconst (v := 0) hx hb d_Me_isMark_51 (by decide) ?_
      exact W.zret (v := 0) hx hb hr (by decide) (fun t9 ht hW => ⟨0, h, rfl, ⟨zb0, rfl⟩, by rw [ht]; exact hH, by rw [ht]; exact hz⟩) hLo d_Me_isMark_52
    · skip
      refine lv_aload_n hx hb d_Me_isMark_22 rfl (lv_at hl 0 rfl) ?_
      refine lv_iload_n hx hb d_Me_isMark_23 rfl (lv_at hl 1 rfl) ?_
      refine hm_callPi (va_runV (As := [.int s9]) (b := m9) (rest := []) ⟨hx, hb, hml, hown, hts⟩ (t_mNum l D t G ak av h τ n m9 s9  hn hT T_m9) ⟨cw9B 1 hts mw_56 mw_57 mw_32 rfl rfl (by decide +kernel) ⟨Nat.le_of_ble_eq_true rfl, Nat.le_of_ble_eq_true rfl⟩, hts _ mw_58, hts _ mw_59⟩ (hP_V (q := (R_Me, F_Me, 2)) kE_ok hE hK hH F_m9 rfl) rfl rfl hl.1 rfl (lv_room (Nat.le_of_ble_eq_true rfl)) d_Me_isMark_24 ⟨Nat.le_of_ble_eq_true rfl, Nat.le_of_ble_eq_true rfl⟩) (fun r_22 h_23 H_24 hp_26  hH z_25 => ?_)
      have hz : s.heap.size ≤ H_24.size := Nat.le_trans hz z_25
      obtain rfl := hp_26
      refine lv_if_le (tgt := 51) hx hb d_Me_isMark_27 (by decide) (fun hc_28 => ?_) (fun hc_28 => ?_)
      · skip
        have ic_29 : r_22.toInt ≤ 0 := iLe hc_28
        refine lv_iconst (v := 0) hx hb d_Me_isMark_51 (by decide) ?_
        exact W.zret (v := 0) hx hb hr (by decide) (fun t9 ht hW => ⟨0, h, rfl, ⟨zb0, rfl⟩, by rw [ht]; exact hH, by rw [ht]; exact hz⟩) hLo d_Me_isMark_52
      · skip
        have ic_30 : 0 < r_22.toInt := iNe hc_28
        have iu_31 : r_22.toInt < 2147483648 := iUp _
        refine lv_aload_n hx hb d_Me_isMark_30 rfl (lv_at hl 0 rfl) ?_
        refine lv_iload_n hx hb d_Me_isMark_31 rfl (lv_at hl 1 rfl) ?_
        refine hm_callPi (va_runV (As := [.int s9]) (b := m9) (rest := []) ⟨hx, hb, hml, hown, hts⟩ (t_mBase l D t G ak av h τ n m9 s9  hn hT T_m9) ⟨cw9B 1 hts mw_60 mw_61 mw_32 rfl rfl (by decide +kernel) ⟨Nat.le_of_ble_eq_true rfl, Nat.le_of_ble_eq_true rfl⟩, hts _ mw_62, hts _ mw_63⟩ (hP_V (q := (R_Me, F_Me, 2)) kE_ok hE hK hH F_m9 rfl) rfl rfl hl.1 rfl (lv_room (Nat.le_of_ble_eq_true rfl)) d_Me_isMark_32 ⟨Nat.le_of_ble_eq_true rfl, Nat.le_of_ble_eq_true rfl⟩) (fun r_32 h_33 H_34 hp_36  hH z_35 => ?_)
        have hz : s.heap.size ≤ H_34.size := Nat.le_trans hz z_35
        obtain rfl := hp_36
        refine lv_if_lt (tgt := 51) hx hb d_Me_isMark_35 (by decide) (fun hc_38 => ?_) (fun hc_38 => ?_)
        · skip
          have ic_39 : r_32.toInt < 0 := iLt hc_38
          refine lv_iconst (v := 0) hx hb d_Me_isMark_51 (by decide) ?_
          exact W.zret (v := 0) hx hb hr (by decide) (fun t9 ht hW => ⟨0, h, rfl, ⟨zb0, rfl⟩, by rw [ht]; exact hH, by rw [ht]; exact hz⟩) hLo d_Me_isMark_52
        · skip
          have ic_40 : 0 ≤ r_32.toInt := iNl hc_38
          refine lv_aload_n hx hb d_Me_isMark_38 rfl (lv_at hl 0 rfl) ?_
          refine lv_iload_n hx hb d_Me_isMark_39 rfl (lv_at hl 1 rfl) ?_
          refine hm_callPi (va_runV (As := [.int s9]) (b := m9) (rest := []) ⟨hx, hb, hml, hown, hts⟩ (t_mBase l D t G ak av h τ n m9 s9  hn hT T_m9) ⟨cw9B 1 hts mw_60 mw_61 mw_32 rfl rfl (by decide +kernel) ⟨Nat.le_of_ble_eq_true rfl, Nat.le_of_ble_eq_true rfl⟩, hts _ mw_62, hts _ mw_63⟩ (hP_V (q := (R_Me, F_Me, 2)) kE_ok hE hK hH F_m9 rfl) rfl rfl hl.1 rfl (lv_room (Nat.le_of_ble_eq_true rfl)) d_Me_isMark_40 ⟨Nat.le_of_ble_eq_true rfl, Nat.le_of_ble_eq_true rfl⟩) (fun r_41 h_42 H_43 hp_45  hH z_44 => ?_)
          have hz : s.heap.size ≤ H_43.size := Nat.le_trans hz z_44
          obtain rfl := hp_45
          refine lv_iload_n hx hb d_Me_isMark_43 rfl (lv_at hl 1 rfl) ?_
          refine lv_icmp_ge (tgt := 51) hx hb d_Me_isMark_44 (by decide) (fun hc_47 => ?_) (fun hc_47 => ?_)
          · skip
            have ic_48 : s9.toInt ≤ r_41.toInt := iLe hc_47
            refine lv_iconst (v := 0) hx hb d_Me_isMark_51 (by decide) ?_
            exact W.zret (v := 0) hx hb hr (by decide) (fun t9 ht hW => ⟨0, h, rfl, ⟨zb0, rfl⟩, by rw [ht]; exact hH, by rw [ht]; exact hz⟩) hLo d_Me_isMark_52
          · skip
            have ic_49 : r_41.toInt < s9.toInt := iNe hc_47
            have iu_50 : s9.toInt < 2147483648 := iUp _
            refine lv_iconst (v := 1) hx hb d_Me_isMark_47 (by decide) ?_
            refine lv_goto (tgt := 52) hx hb d_Me_isMark_48 (by decide) ?_
            exact W.zret (v := 1) hx hb hr (by decide) (fun t9 ht hW => ⟨1, h, rfl, ⟨zb1, rfl⟩, by rw [ht]; exact hH, by rw [ht]; exact hz⟩) hLo d_Me_isMark_52

set_option maxHeartbeats 4000000 in
set_option maxRecDepth 100000 in
theorem t_sMark (l : Launch) (D : va_G) (t : Nat → ClassId) (G : hG) (ak av : Nat → Nat) (h : hM) (τ : tM) (n : Nat) (m9 : Nat) (i8 : Int32) (hn : n ≤ 200) (hT : TI τ t n h) (T_m9 : τ m9 = (11, 0)) : Met l y_Me_sectorOfMark (.code y_Me_sectorOfMark b_Me_sectorOfMark 4 (some .int) :: lw_g) { frames := 6, cells := 0, slots := 0, locals := 129 } (hP (kE D t G ak av) D vwCl G h [.ref m9, .int i8]) (hQi D vwCl G (fun r h' => h = h')) 0 0 nof := by
  refine Met.ofW (cc := b_Me_sectorOfMark) (maxL := 4) (ret := (some .int)) (by decide) rfl ?_
  intro p e s m args below meth c s₁ Bd hml hv
  obtain ⟨ha, hE, hH⟩ := hv
  have hx := Bd.exec
  have hb := Bd.bytes
  have hr := Bd.returns
  have hts : ∀ w ∈ lw_g, w.before args s = true := fun w hw => atoms_spec (ws := (.code y_Me_sectorOfMark b_Me_sectorOfMark 4 (some .int) :: lw_g)) Bd.pre w (List.mem_cons_of_mem _ hw)
  have hown : s.vm.findClass R_Me = some m.cls := findClass_of_methodNamed Bd.named
  have hlocks := Bd.notSynchronized
  have hK := hE.1
  have hH0 := hH
  have hLo : hLc nof [] := hLc_nil
  have hz : s.heap.size ≤ s.heap.size := Nat.le_refl _
  have hl := lv_entry [.ref m9, .int i8] (n := 4) (Nat.le_of_ble_eq_true rfl)
  rw [show entryFrame m args 4 = F0 m 0 ((lg_sl [.ref m9, .int i8] ++ List.replicate (4 - (lg_sl [.ref m9, .int i8]).length) Slot.unset).toArray) [] from (by rw [ha]; exact lg_entry_eq m [.ref m9, .int i8] 4)]
  generalize (lg_sl [.ref m9, .int i8] ++ List.replicate (4 - (lg_sl [.ref m9, .int i8]).length) Slot.unset).toArray = ls at hl ⊢
  have hl : lv_has ls 4 [(0, .ref m9), (1, .int i8)] := hl
  refine lv_iconst (v := 0) hx hb d_Me_sectorOfMark_0 (by decide) ?_
  refine lv_istore_n (lv' := [(2, .int 0), (0, .ref m9), (1, .int i8)]) hx hb d_Me_sectorOfMark_1 rfl hl (by decide) rfl (fun ls hl => ?_)
  refine lv_iconst (v := 0) hx hb d_Me_sectorOfMark_2 (by decide) ?_
  refine lv_istore_n (lv' := [(3, .int 0), (2, .int 0), (0, .ref m9), (1, .int i8)]) hx hb d_Me_sectorOfMark_3 rfl hl (by decide) rfl (fun ls hl => ?_)
  refine hm_loop (fun k4 ls H locs hh4 => ∃ (c9 : Int32) (i9 : Int32), k4 = mU i9 ∧ lv_has ls 4 [(0, .ref m9), (1, .int i8), (2, .int c9), (3, .int i9)] ∧ hm D vwCl G hh4 H ∧ s.heap.size ≤ H.size ∧ hLc nof locs ∧ (h = hh4) ∧ (0 ≤ i9.toInt)) ?_ (hh := h) ⟨0, 0, rfl, (lv_sub hl [2, 3, 1, 0] rfl), hH, hz, hLo, rfl, (by decide)⟩
  rintro k4 ls H locs hh4 ⟨c9, i9, hk4, hl, hH, hz, hLo, rfl, I_i9⟩ ih4
  refine lv_iload_n hx hb d_Me_sectorOfMark_4 rfl (lv_at hl 3 rfl) ?_
  refine lv_aload_n hx hb d_Me_sectorOfMark_5 rfl (lv_at hl 0 rfl) ?_
  obtain ⟨v_1, v_3, F_m9, c_2⟩ := TI_med hT T_m9
  refine hm_get (ci := 0) (v := .int v_3) (C := R_Me) (T := F_Me) (N := 2) hx hb hts ig_Me hown hK hH F_m9 rfl 1 (by decide) (hts _ mw_64) (fun _ h9 => h9) rfl d_Me_sectorOfMark_6 ?_
  refine lv_icmp_ge (tgt := 36) hx hb d_Me_sectorOfMark_9 (by decide) (fun hc_4 => ?_) (fun hc_4 => ?_)
  · skip
    have ic_5 : v_3.toInt ≤ i9.toInt := iLe hc_4
    refine lv_iconst (v := -1) hx hb d_Me_sectorOfMark_36 (by decide) ?_
    exact W.iret (v := (-1)) hx hb hr (fun t9 ht hW => ⟨(-1), h, rfl, rfl, by rw [ht]; exact hH, by rw [ht]; exact hz⟩) hLo d_Me_sectorOfMark_37
  · skip
    have ic_6 : i9.toInt < v_3.toInt := iNe hc_4
    have iu_7 : v_3.toInt < 2147483648 := iUp _
    refine lv_aload_n hx hb d_Me_sectorOfMark_12 rfl (lv_at hl 0 rfl) ?_
    refine lv_iload_n hx hb d_Me_sectorOfMark_13 rfl (lv_at hl 3 rfl) ?_
    refine hm_callPi (va_runV (As := [.int i9]) (b := m9) (rest := []) ⟨hx, hb, hml, hown, hts⟩ (t_isMark l D t G ak av h τ n m9 i9  hn hT T_m9) ⟨cw9B 1 hts mw_65 mw_66 mw_32 rfl rfl (by decide +kernel) ⟨Nat.le_of_ble_eq_true rfl, Nat.le_of_ble_eq_true rfl⟩, hts _ mw_67, hts _ mw_68⟩ (hP_V (q := (R_Me, F_Me, 2)) kE_ok hE hK hH F_m9 rfl) rfl rfl hl.1 rfl (lv_room (Nat.le_of_ble_eq_true rfl)) d_Me_sectorOfMark_14 ⟨Nat.le_of_ble_eq_true rfl, Nat.le_of_ble_eq_true rfl⟩) (fun r_8 h_9 H_10 hp_12  hH z_11 => ?_)
    have hz : s.heap.size ≤ H_10.size := Nat.le_trans hz z_11
    obtain ⟨c_13, rfl⟩ := hp_12
    refine lv_if_eq (tgt := 30) hx hb d_Me_sectorOfMark_17 (by decide) (fun hc_15 => ?_) (fun hc_15 => ?_)
    · skip
      have ic_16 : r_8.toInt = 0 := congrArg Int32.toInt hc_15
      obtain ⟨j_17, e_18⟩ : ∃ z : Int32, z = i9 + 1 := ⟨_, rfl⟩
      refine lv_iinc (v := j_17) (lv' := [(3, .int j_17), (0, .ref m9), (1, .int i8), (2, .int c9)]) hx hb d_Me_sectorOfMark_30 hl (k := 3) rfl e_18.symm (by decide) rfl (fun ls hl => ?_)
      refine lv_goto (tgt := 4) hx hb d_Me_sectorOfMark_33 (by decide) ?_
      have is_19 : j_17.toInt = i9.toInt + 1 := by rw [e_18]; exact iAddK 1 rfl (by omega) (by omega)
      exact ih4 (mU j_17) ls _ locs _ (by rw [hk4]; exact mU_lt (by omega)) ⟨c9, j_17, rfl, (lv_sub hl [1, 2, 3, 0] rfl), hH, hz, hLo, rfl, (by omega)⟩
    · skip
      refine lv_iload_n hx hb d_Me_sectorOfMark_20 rfl (lv_at hl 2 rfl) ?_
      refine lv_iload_n hx hb d_Me_sectorOfMark_21 rfl (lv_at hl 1 rfl) ?_
      refine lv_icmp_ne (tgt := 27) hx hb d_Me_sectorOfMark_22 (by decide) (fun hc_20 => ?_) (fun hc_20 => ?_)
      · skip
        obtain ⟨j_21, e_22⟩ : ∃ z : Int32, z = c9 + 1 := ⟨_, rfl⟩
        refine lv_iinc (v := j_21) (lv' := [(2, .int j_21), (0, .ref m9), (1, .int i8), (3, .int i9)]) hx hb d_Me_sectorOfMark_27 hl (k := 2) rfl e_22.symm (by decide) rfl (fun ls hl => ?_)
        obtain ⟨j_23, e_24⟩ : ∃ z : Int32, z = i9 + 1 := ⟨_, rfl⟩
        refine lv_iinc (v := j_23) (lv' := [(3, .int j_23), (2, .int j_21), (0, .ref m9), (1, .int i8)]) hx hb d_Me_sectorOfMark_30 hl (k := 3) rfl e_24.symm (by decide) rfl (fun ls hl => ?_)
        refine lv_goto (tgt := 4) hx hb d_Me_sectorOfMark_33 (by decide) ?_
        have is_25 : j_23.toInt = i9.toInt + 1 := by rw [e_24]; exact iAddK 1 rfl (by omega) (by omega)
        exact ih4 (mU j_23) ls _ locs _ (by rw [hk4]; exact mU_lt (by omega)) ⟨j_21, j_23, rfl, (lv_sub hl [2, 3, 1, 0] rfl), hH, hz, hLo, rfl, (by omega)⟩
      · skip
        have ic_26 : c9.toInt = i8.toInt := congrArg Int32.toInt hc_20
        refine lv_iload_n hx hb d_Me_sectorOfMark_25 rfl (lv_at hl 3 rfl) ?_
        exact W.iret (v := i9) hx hb hr (fun t9 ht hW => ⟨i9, h, rfl, rfl, by rw [ht]; exact hH, by rw [ht]; exact hz⟩) hLo d_Me_sectorOfMark_26
