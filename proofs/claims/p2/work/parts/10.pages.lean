set_option maxRecDepth 100000 in
theorem mw_69 : Cond.fieldLink R_Pg 9 "WriteOnceDisc$Page" "bytes" "[B" ∈ lw_g := lw_gin (List.mem_append_right _ (List.mem_of_getElem? (i := 61) rfl)) (by decide +kernel)
set_option maxRecDepth 100000 in
theorem mw_70 : Cond.code y_Ar_fill b_Ar_fill 4 none ∈ lw_g := lw_gin (List.mem_append_right _ (List.mem_of_getElem? (i := 406) rfl)) (by decide +kernel)
set_option maxRecDepth 100000 in
theorem mw_71 : Cond.initialized R_Ar ∈ lw_g := lw_gin (List.mem_append_right _ (List.mem_of_getElem? (i := 12) rfl)) (by decide +kernel)
set_option maxRecDepth 100000 in
theorem mw_72 : Cond.methodLink R_Pg 15 y_Ar_fill ∈ lw_g := lw_gin (List.mem_append_right _ (List.mem_of_getElem? (i := 404) rfl)) (by decide +kernel)
set_option maxRecDepth 100000 in
theorem mw_73 : Cond.static y_Ar_fill ∈ lw_g := lw_gin (List.mem_append_right _ (List.mem_of_getElem? (i := 405) rfl)) (by decide +kernel)
set_option maxRecDepth 100000 in
theorem mw_74 : Cond.methodLink R_Pg 21 y_St_length ∈ lw_g := lw_gin (List.mem_append_right _ (List.mem_of_getElem? (i := 567) rfl)) (by decide +kernel)
set_option maxRecDepth 100000 in
theorem mw_75 : Cond.methodLink R_Pg 27 y_St_charAt ∈ lw_g := lw_gin (List.mem_append_right _ (List.mem_of_getElem? (i := 568) rfl)) (by decide +kernel)
set_option maxRecDepth 100000 in
theorem mw_76 : Cond.code y_Pg_put b_Pg_put 3 none ∈ lw_g := lw_gin (List.mem_append_right _ (List.mem_of_getElem? (i := 428) rfl)) (by decide +kernel)
set_option maxRecDepth 100000 in
theorem mw_77 : Cond.initialized R_Pg ∈ lw_g := lw_gin (List.mem_append_right _ (List.mem_of_getElem? (i := 4) rfl)) (by decide +kernel)
set_option maxRecDepth 100000 in
theorem mw_78 : Cond.methodLink R_Pg 31 y_Pg_put ∈ lw_g := lw_gin (List.mem_append_right _ (List.mem_of_getElem? (i := 425) rfl)) (by decide +kernel)
set_option maxRecDepth 100000 in
theorem mw_79 : Cond.instanceMethod y_Pg_put ∈ lw_g := lw_gin (List.mem_append_right _ (List.mem_of_getElem? (i := 426) rfl)) (by decide +kernel)
set_option maxRecDepth 100000 in
theorem mw_80 : Cond.selects R_Pg y_Pg_put y_Pg_put ∈ lw_g := lw_gin (List.mem_append_right _ (List.mem_of_getElem? (i := 427) rfl)) (by decide +kernel)
set_option maxRecDepth 100000 in
theorem mw_81 : Cond.code y_Pg_clear b_Pg_clear 1 none ∈ lw_g := lw_gin (List.mem_append_right _ (List.mem_of_getElem? (i := 403) rfl)) (by decide +kernel)
set_option maxRecDepth 100000 in
theorem mw_82 : Cond.methodLink R_Pg 35 y_Pg_clear ∈ lw_g := lw_gin (List.mem_append_right _ (List.mem_of_getElem? (i := 400) rfl)) (by decide +kernel)
set_option maxRecDepth 100000 in
theorem mw_83 : Cond.instanceMethod y_Pg_clear ∈ lw_g := lw_gin (List.mem_append_right _ (List.mem_of_getElem? (i := 401) rfl)) (by decide +kernel)
set_option maxRecDepth 100000 in
theorem mw_84 : Cond.selects R_Pg y_Pg_clear y_Pg_clear ∈ lw_g := lw_gin (List.mem_append_right _ (List.mem_of_getElem? (i := 402) rfl)) (by decide +kernel)
set_option maxRecDepth 100000 in
theorem mw_85 : Cond.code y_Pg_putText b_Pg_putText 4 none ∈ lw_g := lw_gin (List.mem_append_right _ (List.mem_of_getElem? (i := 566) rfl)) (by decide +kernel)
set_option maxRecDepth 100000 in
theorem mw_86 : Cond.methodLink R_Pg 40 y_Pg_putText ∈ lw_g := lw_gin (List.mem_append_right _ (List.mem_of_getElem? (i := 563) rfl)) (by decide +kernel)
set_option maxRecDepth 100000 in
theorem mw_87 : Cond.instanceMethod y_Pg_putText ∈ lw_g := lw_gin (List.mem_append_right _ (List.mem_of_getElem? (i := 564) rfl)) (by decide +kernel)
set_option maxRecDepth 100000 in
theorem mw_88 : Cond.selects R_Pg y_Pg_putText y_Pg_putText ∈ lw_g := lw_gin (List.mem_append_right _ (List.mem_of_getElem? (i := 565) rfl)) (by decide +kernel)
set_option maxRecDepth 100000 in
theorem mw_89 : Cond.code y_Pg_putLow b_Pg_putLow 5 none ∈ lw_g := lw_gin (List.mem_append_right _ (List.mem_of_getElem? (i := 540) rfl)) (by decide +kernel)
set_option maxRecDepth 100000 in
theorem mw_90 : Cond.methodLink R_Pg 46 y_Pg_putLow ∈ lw_g := lw_gin (List.mem_append_right _ (List.mem_of_getElem? (i := 537) rfl)) (by decide +kernel)
set_option maxRecDepth 100000 in
theorem mw_91 : Cond.instanceMethod y_Pg_putLow ∈ lw_g := lw_gin (List.mem_append_right _ (List.mem_of_getElem? (i := 538) rfl)) (by decide +kernel)
set_option maxRecDepth 100000 in
theorem mw_92 : Cond.selects R_Pg y_Pg_putLow y_Pg_putLow ∈ lw_g := lw_gin (List.mem_append_right _ (List.mem_of_getElem? (i := 539) rfl)) (by decide +kernel)
theorem d_Pg_clear_0 : decode b_Pg_clear 0 = .ok (.aload_n 0, 1) := by decide +kernel
theorem d_Pg_clear_1 : decode b_Pg_clear 1 = .ok (.getfield 9, 3) := by decide +kernel
theorem d_Pg_clear_4 : decode b_Pg_clear 4 = .ok (.iconst 0, 1) := by decide +kernel
theorem d_Pg_clear_5 : decode b_Pg_clear 5 = .ok (.invokestatic 15, 3) := by decide +kernel
theorem d_Pg_clear_8 : decode b_Pg_clear 8 = .ok (.return_, 1) := by decide +kernel
theorem d_Pg_put_0 : decode b_Pg_put 0 = .ok (.iload_n 1, 1) := by decide +kernel
theorem d_Pg_put_1 : decode b_Pg_put 1 = .ok (.ifCond .lt 20, 3) := by decide +kernel
theorem d_Pg_put_21 : decode b_Pg_put 21 = .ok (.return_, 1) := by decide +kernel
theorem d_Pg_put_4 : decode b_Pg_put 4 = .ok (.iload_n 1, 1) := by decide +kernel
theorem d_Pg_put_5 : decode b_Pg_put 5 = .ok (.aload_n 0, 1) := by decide +kernel
theorem d_Pg_put_6 : decode b_Pg_put 6 = .ok (.getfield 9, 3) := by decide +kernel
theorem d_Pg_put_9 : decode b_Pg_put 9 = .ok (.arraylength, 1) := by decide +kernel
theorem d_Pg_put_10 : decode b_Pg_put 10 = .ok (.if_icmp .ge 11, 3) := by decide +kernel
theorem d_Pg_put_13 : decode b_Pg_put 13 = .ok (.aload_n 0, 1) := by decide +kernel
theorem d_Pg_put_14 : decode b_Pg_put 14 = .ok (.getfield 9, 3) := by decide +kernel
theorem d_Pg_put_17 : decode b_Pg_put 17 = .ok (.iload_n 1, 1) := by decide +kernel
theorem d_Pg_put_18 : decode b_Pg_put 18 = .ok (.iload_n 2, 1) := by decide +kernel
theorem d_Pg_put_19 : decode b_Pg_put 19 = .ok (.i2b, 1) := by decide +kernel
theorem d_Pg_put_20 : decode b_Pg_put 20 = .ok (.bastore, 1) := by decide +kernel
theorem d_Pg_putText_0 : decode b_Pg_putText 0 = .ok (.iconst 0, 1) := by decide +kernel
theorem d_Pg_putText_1 : decode b_Pg_putText 1 = .ok (.istore_n 3, 1) := by decide +kernel
theorem d_Pg_putText_2 : decode b_Pg_putText 2 = .ok (.iload_n 3, 1) := by decide +kernel
theorem d_Pg_putText_3 : decode b_Pg_putText 3 = .ok (.aload_n 2, 1) := by decide +kernel
theorem d_Pg_putText_4 : decode b_Pg_putText 4 = .ok (.invokevirtual 21, 3) := by decide +kernel
theorem d_Pg_putText_7 : decode b_Pg_putText 7 = .ok (.if_icmp .ge 21, 3) := by decide +kernel
theorem d_Pg_putText_28 : decode b_Pg_putText 28 = .ok (.return_, 1) := by decide +kernel
theorem d_Pg_putText_10 : decode b_Pg_putText 10 = .ok (.aload_n 0, 1) := by decide +kernel
theorem d_Pg_putText_11 : decode b_Pg_putText 11 = .ok (.iload_n 1, 1) := by decide +kernel
theorem d_Pg_putText_12 : decode b_Pg_putText 12 = .ok (.iload_n 3, 1) := by decide +kernel
theorem d_Pg_putText_13 : decode b_Pg_putText 13 = .ok (.iadd, 1) := by decide +kernel
theorem d_Pg_putText_14 : decode b_Pg_putText 14 = .ok (.aload_n 2, 1) := by decide +kernel
theorem d_Pg_putText_15 : decode b_Pg_putText 15 = .ok (.iload_n 3, 1) := by decide +kernel
theorem d_Pg_putText_16 : decode b_Pg_putText 16 = .ok (.invokevirtual 27, 3) := by decide +kernel
theorem d_Pg_putText_19 : decode b_Pg_putText 19 = .ok (.invokevirtual 31, 3) := by decide +kernel
theorem d_Pg_putText_22 : decode b_Pg_putText 22 = .ok (.iinc 3 1, 3) := by decide +kernel
theorem d_Pg_putText_25 : decode b_Pg_putText 25 = .ok (.goto (-23), 3) := by decide +kernel
theorem d_Pg_putLow_0 : decode b_Pg_putLow 0 = .ok (.iconst 0, 1) := by decide +kernel
theorem d_Pg_putLow_1 : decode b_Pg_putLow 1 = .ok (.istore 4, 2) := by decide +kernel
theorem d_Pg_putLow_3 : decode b_Pg_putLow 3 = .ok (.iload 4, 2) := by decide +kernel
theorem d_Pg_putLow_5 : decode b_Pg_putLow 5 = .ok (.iload_n 2, 1) := by decide +kernel
theorem d_Pg_putLow_6 : decode b_Pg_putLow 6 = .ok (.if_icmp .ge 24, 3) := by decide +kernel
theorem d_Pg_putLow_30 : decode b_Pg_putLow 30 = .ok (.return_, 1) := by decide +kernel
theorem d_Pg_putLow_9 : decode b_Pg_putLow 9 = .ok (.aload_n 0, 1) := by decide +kernel
theorem d_Pg_putLow_10 : decode b_Pg_putLow 10 = .ok (.iload_n 1, 1) := by decide +kernel
theorem d_Pg_putLow_11 : decode b_Pg_putLow 11 = .ok (.iload 4, 2) := by decide +kernel
theorem d_Pg_putLow_13 : decode b_Pg_putLow 13 = .ok (.iadd, 1) := by decide +kernel
theorem d_Pg_putLow_14 : decode b_Pg_putLow 14 = .ok (.iload_n 3, 1) := by decide +kernel
theorem d_Pg_putLow_15 : decode b_Pg_putLow 15 = .ok (.bipush 8, 2) := by decide +kernel
theorem d_Pg_putLow_17 : decode b_Pg_putLow 17 = .ok (.iload 4, 2) := by decide +kernel
theorem d_Pg_putLow_19 : decode b_Pg_putLow 19 = .ok (.imul, 1) := by decide +kernel
theorem d_Pg_putLow_20 : decode b_Pg_putLow 20 = .ok (.ishr, 1) := by decide +kernel
theorem d_Pg_putLow_21 : decode b_Pg_putLow 21 = .ok (.invokevirtual 31, 3) := by decide +kernel
theorem d_Pg_putLow_24 : decode b_Pg_putLow 24 = .ok (.iinc 4 1, 3) := by decide +kernel
theorem d_Pg_putLow_27 : decode b_Pg_putLow 27 = .ok (.goto (-24), 3) := by decide +kernel
theorem d_Pg_putHigh_0 : decode b_Pg_putHigh 0 = .ok (.iconst 0, 1) := by decide +kernel
theorem d_Pg_putHigh_1 : decode b_Pg_putHigh 1 = .ok (.istore 4, 2) := by decide +kernel
theorem d_Pg_putHigh_3 : decode b_Pg_putHigh 3 = .ok (.iload 4, 2) := by decide +kernel
theorem d_Pg_putHigh_5 : decode b_Pg_putHigh 5 = .ok (.iload_n 2, 1) := by decide +kernel
theorem d_Pg_putHigh_6 : decode b_Pg_putHigh 6 = .ok (.if_icmp .ge 28, 3) := by decide +kernel
theorem d_Pg_putHigh_34 : decode b_Pg_putHigh 34 = .ok (.return_, 1) := by decide +kernel
theorem d_Pg_putHigh_9 : decode b_Pg_putHigh 9 = .ok (.aload_n 0, 1) := by decide +kernel
theorem d_Pg_putHigh_10 : decode b_Pg_putHigh 10 = .ok (.iload_n 1, 1) := by decide +kernel
theorem d_Pg_putHigh_11 : decode b_Pg_putHigh 11 = .ok (.iload_n 2, 1) := by decide +kernel
theorem d_Pg_putHigh_12 : decode b_Pg_putHigh 12 = .ok (.iadd, 1) := by decide +kernel
theorem d_Pg_putHigh_13 : decode b_Pg_putHigh 13 = .ok (.iconst 1, 1) := by decide +kernel
theorem d_Pg_putHigh_14 : decode b_Pg_putHigh 14 = .ok (.isub, 1) := by decide +kernel
theorem d_Pg_putHigh_15 : decode b_Pg_putHigh 15 = .ok (.iload 4, 2) := by decide +kernel
theorem d_Pg_putHigh_17 : decode b_Pg_putHigh 17 = .ok (.isub, 1) := by decide +kernel
theorem d_Pg_putHigh_18 : decode b_Pg_putHigh 18 = .ok (.iload_n 3, 1) := by decide +kernel
theorem d_Pg_putHigh_19 : decode b_Pg_putHigh 19 = .ok (.bipush 8, 2) := by decide +kernel
theorem d_Pg_putHigh_21 : decode b_Pg_putHigh 21 = .ok (.iload 4, 2) := by decide +kernel
theorem d_Pg_putHigh_23 : decode b_Pg_putHigh 23 = .ok (.imul, 1) := by decide +kernel
theorem d_Pg_putHigh_24 : decode b_Pg_putHigh 24 = .ok (.ishr, 1) := by decide +kernel
theorem d_Pg_putHigh_25 : decode b_Pg_putHigh 25 = .ok (.invokevirtual 31, 3) := by decide +kernel
theorem d_Pg_putHigh_28 : decode b_Pg_putHigh 28 = .ok (.iinc 4 1, 3) := by decide +kernel
theorem d_Pg_putHigh_31 : decode b_Pg_putHigh 31 = .ok (.goto (-28), 3) := by decide +kernel
theorem d_Pg_putBoth_0 : decode b_Pg_putBoth 0 = .ok (.iconst 0, 1) := by decide +kernel
theorem d_Pg_putBoth_1 : decode b_Pg_putBoth 1 = .ok (.istore 4, 2) := by decide +kernel
theorem d_Pg_putBoth_3 : decode b_Pg_putBoth 3 = .ok (.iload 4, 2) := by decide +kernel
theorem d_Pg_putBoth_5 : decode b_Pg_putBoth 5 = .ok (.iload_n 2, 1) := by decide +kernel
theorem d_Pg_putBoth_6 : decode b_Pg_putBoth 6 = .ok (.if_icmp .ge 45, 3) := by decide +kernel
theorem d_Pg_putBoth_51 : decode b_Pg_putBoth 51 = .ok (.return_, 1) := by decide +kernel
theorem d_Pg_putBoth_9 : decode b_Pg_putBoth 9 = .ok (.aload_n 0, 1) := by decide +kernel
theorem d_Pg_putBoth_10 : decode b_Pg_putBoth 10 = .ok (.iload_n 1, 1) := by decide +kernel
theorem d_Pg_putBoth_11 : decode b_Pg_putBoth 11 = .ok (.iload 4, 2) := by decide +kernel
theorem d_Pg_putBoth_13 : decode b_Pg_putBoth 13 = .ok (.iadd, 1) := by decide +kernel
theorem d_Pg_putBoth_14 : decode b_Pg_putBoth 14 = .ok (.iload_n 3, 1) := by decide +kernel
theorem d_Pg_putBoth_15 : decode b_Pg_putBoth 15 = .ok (.bipush 8, 2) := by decide +kernel
theorem d_Pg_putBoth_17 : decode b_Pg_putBoth 17 = .ok (.iload 4, 2) := by decide +kernel
theorem d_Pg_putBoth_19 : decode b_Pg_putBoth 19 = .ok (.imul, 1) := by decide +kernel
theorem d_Pg_putBoth_20 : decode b_Pg_putBoth 20 = .ok (.ishr, 1) := by decide +kernel
theorem d_Pg_putBoth_21 : decode b_Pg_putBoth 21 = .ok (.invokevirtual 31, 3) := by decide +kernel
theorem d_Pg_putBoth_24 : decode b_Pg_putBoth 24 = .ok (.aload_n 0, 1) := by decide +kernel
theorem d_Pg_putBoth_25 : decode b_Pg_putBoth 25 = .ok (.iload_n 1, 1) := by decide +kernel
theorem d_Pg_putBoth_26 : decode b_Pg_putBoth 26 = .ok (.iconst 2, 1) := by decide +kernel
theorem d_Pg_putBoth_27 : decode b_Pg_putBoth 27 = .ok (.iload_n 2, 1) := by decide +kernel
theorem d_Pg_putBoth_28 : decode b_Pg_putBoth 28 = .ok (.imul, 1) := by decide +kernel
theorem d_Pg_putBoth_29 : decode b_Pg_putBoth 29 = .ok (.iadd, 1) := by decide +kernel
theorem d_Pg_putBoth_30 : decode b_Pg_putBoth 30 = .ok (.iconst 1, 1) := by decide +kernel
theorem d_Pg_putBoth_31 : decode b_Pg_putBoth 31 = .ok (.isub, 1) := by decide +kernel
theorem d_Pg_putBoth_32 : decode b_Pg_putBoth 32 = .ok (.iload 4, 2) := by decide +kernel
theorem d_Pg_putBoth_34 : decode b_Pg_putBoth 34 = .ok (.isub, 1) := by decide +kernel
theorem d_Pg_putBoth_35 : decode b_Pg_putBoth 35 = .ok (.iload_n 3, 1) := by decide +kernel
theorem d_Pg_putBoth_36 : decode b_Pg_putBoth 36 = .ok (.bipush 8, 2) := by decide +kernel
theorem d_Pg_putBoth_38 : decode b_Pg_putBoth 38 = .ok (.iload 4, 2) := by decide +kernel
theorem d_Pg_putBoth_40 : decode b_Pg_putBoth 40 = .ok (.imul, 1) := by decide +kernel
theorem d_Pg_putBoth_41 : decode b_Pg_putBoth 41 = .ok (.ishr, 1) := by decide +kernel
theorem d_Pg_putBoth_42 : decode b_Pg_putBoth 42 = .ok (.invokevirtual 31, 3) := by decide +kernel
theorem d_Pg_putBoth_45 : decode b_Pg_putBoth 45 = .ok (.iinc 4 1, 3) := by decide +kernel
theorem d_Pg_putBoth_48 : decode b_Pg_putBoth 48 = .ok (.goto (-45), 3) := by decide +kernel
theorem d_Pg_fillWithStandard_0 : decode b_Pg_fillWithStandard 0 = .ok (.aload_n 0, 1) := by decide +kernel
theorem d_Pg_fillWithStandard_1 : decode b_Pg_fillWithStandard 1 = .ok (.invokevirtual 35, 3) := by decide +kernel
theorem d_Pg_fillWithStandard_4 : decode b_Pg_fillWithStandard 4 = .ok (.aload_n 0, 1) := by decide +kernel
theorem d_Pg_fillWithStandard_5 : decode b_Pg_fillWithStandard 5 = .ok (.iconst 0, 1) := by decide +kernel
theorem d_Pg_fillWithStandard_6 : decode b_Pg_fillWithStandard 6 = .ok (.iload_n 1, 1) := by decide +kernel
theorem d_Pg_fillWithStandard_7 : decode b_Pg_fillWithStandard 7 = .ok (.invokevirtual 31, 3) := by decide +kernel
theorem d_Pg_fillWithStandard_10 : decode b_Pg_fillWithStandard 10 = .ok (.aload_n 0, 1) := by decide +kernel
theorem d_Pg_fillWithStandard_11 : decode b_Pg_fillWithStandard 11 = .ok (.iconst 1, 1) := by decide +kernel
theorem d_Pg_fillWithStandard_12 : decode b_Pg_fillWithStandard 12 = .ok (.ldc 38, 2) := by decide +kernel
theorem d_Pg_fillWithStandard_14 : decode b_Pg_fillWithStandard 14 = .ok (.invokevirtual 40, 3) := by decide +kernel
theorem d_Pg_fillWithStandard_17 : decode b_Pg_fillWithStandard 17 = .ok (.aload_n 0, 1) := by decide +kernel
theorem d_Pg_fillWithStandard_18 : decode b_Pg_fillWithStandard 18 = .ok (.bipush 6, 2) := by decide +kernel
theorem d_Pg_fillWithStandard_20 : decode b_Pg_fillWithStandard 20 = .ok (.iconst 1, 1) := by decide +kernel
theorem d_Pg_fillWithStandard_21 : decode b_Pg_fillWithStandard 21 = .ok (.invokevirtual 31, 3) := by decide +kernel
theorem d_Pg_fillWithStandard_24 : decode b_Pg_fillWithStandard 24 = .ok (.return_, 1) := by decide +kernel
theorem d_Pg_fillWithMark_0 : decode b_Pg_fillWithMark 0 = .ok (.aload_n 0, 1) := by decide +kernel
theorem d_Pg_fillWithMark_1 : decode b_Pg_fillWithMark 1 = .ok (.invokevirtual 35, 3) := by decide +kernel
theorem d_Pg_fillWithMark_4 : decode b_Pg_fillWithMark 4 = .ok (.aload_n 0, 1) := by decide +kernel
theorem d_Pg_fillWithMark_5 : decode b_Pg_fillWithMark 5 = .ok (.iconst 0, 1) := by decide +kernel
theorem d_Pg_fillWithMark_6 : decode b_Pg_fillWithMark 6 = .ok (.ldc 44, 2) := by decide +kernel
theorem d_Pg_fillWithMark_8 : decode b_Pg_fillWithMark 8 = .ok (.invokevirtual 40, 3) := by decide +kernel
theorem d_Pg_fillWithMark_11 : decode b_Pg_fillWithMark 11 = .ok (.aload_n 0, 1) := by decide +kernel
theorem d_Pg_fillWithMark_12 : decode b_Pg_fillWithMark 12 = .ok (.iconst 4, 1) := by decide +kernel
theorem d_Pg_fillWithMark_13 : decode b_Pg_fillWithMark 13 = .ok (.iconst 4, 1) := by decide +kernel
theorem d_Pg_fillWithMark_14 : decode b_Pg_fillWithMark 14 = .ok (.iload_n 1, 1) := by decide +kernel
theorem d_Pg_fillWithMark_15 : decode b_Pg_fillWithMark 15 = .ok (.invokevirtual 46, 3) := by decide +kernel
theorem d_Pg_fillWithMark_18 : decode b_Pg_fillWithMark 18 = .ok (.aload_n 0, 1) := by decide +kernel
theorem d_Pg_fillWithMark_19 : decode b_Pg_fillWithMark 19 = .ok (.bipush 8, 2) := by decide +kernel
theorem d_Pg_fillWithMark_21 : decode b_Pg_fillWithMark 21 = .ok (.iconst 4, 1) := by decide +kernel
theorem d_Pg_fillWithMark_22 : decode b_Pg_fillWithMark 22 = .ok (.iload_n 2, 1) := by decide +kernel
theorem d_Pg_fillWithMark_23 : decode b_Pg_fillWithMark 23 = .ok (.invokevirtual 46, 3) := by decide +kernel
theorem d_Pg_fillWithMark_26 : decode b_Pg_fillWithMark 26 = .ok (.return_, 1) := by decide +kernel
set_option maxHeartbeats 4000000 in
set_option maxRecDepth 100000 in
theorem t_clear (l : Launch) (D : va_G) (t : Nat → ClassId) (G : hG) (ak av : Nat → Nat) (h : hM) (τ : tM) (n f : Nat) (p9 : Nat) (hn : n ≤ 200) (hT : TI τ t n h) (T_p9 : τ p9 = (4, f)) : Met l y_Pg_clear (.code y_Pg_clear b_Pg_clear 1 none :: lw_g) { frames := 1, cells := 0, slots := 0, locals := 23 } (hP (kE D t G ak av) D vwCl G h [.ref p9]) (hQv D vwCl G (fun h' => TI τ t n h' ∧ kf τ [(5, f)] [] h h')) 0 0 G.P := by
  refine Met.ofW (cc := b_Pg_clear) (maxL := 1) (ret := none) (by decide) rfl ?_
  intro p e s m args below meth c s₁ Bd hml hv
  obtain ⟨ha, hE, hH⟩ := hv
  have hx := Bd.exec
  have hb := Bd.bytes
  have hr := Bd.returns
  have hts : ∀ w ∈ lw_g, w.before args s = true := fun w hw => atoms_spec (ws := (.code y_Pg_clear b_Pg_clear 1 none :: lw_g)) Bd.pre w (List.mem_cons_of_mem _ hw)
  have hown : s.vm.findClass R_Pg = some m.cls := findClass_of_methodNamed Bd.named
  have hlocks := Bd.notSynchronized
  have hK := hE.1
  have hH0 := hH
  have hLo : hLc G.P [] := hLc_nil
  have hz : s.heap.size ≤ s.heap.size := Nat.le_refl _
  have hl := lv_entry [.ref p9] (n := 1) (Nat.le_of_ble_eq_true rfl)
  rw [show entryFrame m args 1 = F0 m 0 ((lg_sl [.ref p9] ++ List.replicate (1 - (lg_sl [.ref p9]).length) Slot.unset).toArray) [] from (by rw [ha]; exact lg_entry_eq m [.ref p9] 1)]
  generalize (lg_sl [.ref p9] ++ List.replicate (1 - (lg_sl [.ref p9]).length) Slot.unset).toArray = ls at hl ⊢
  have hl : lv_has ls 1 [(0, .ref p9)] := hl
  have hkf : kf τ [(5, f)] [] h h := kf_rf
  refine lv_aload_n hx hb d_Pg_clear_0 rfl (lv_at hl 0 rfl) ?_
  obtain ⟨v_1, F_p9, c_2⟩ := TI_page hT T_p9
  refine hm_get (ci := 3) (v := .ref v_1) (C := R_Pg) (T := F_Pg) (N := 1) hx hb hts ig_Pg hown hK hH F_p9 rfl 0 (by decide) (hts _ mw_69) (fun _ h9 => h9) rfl d_Pg_clear_1 ?_
  refine lv_iconst (v := 0) hx hb d_Pg_clear_4 (by decide) ?_
  obtain ⟨g_3, F_v_1, c_4⟩ := TI_byts hT c_2
  refine hm_callv (va_runS (As := [.ref v_1, .int 0]) (rest := []) ⟨hx, hb, hml, hown, hts⟩ (c_Ar_fill l D t G ak av h v_1 (pgn f) ⟨g_3, c_4, F_v_1⟩ (pgn_lt _)) ⟨cw9B 2 hts mw_70 mw_72 mw_71 rfl rfl (by decide +kernel) ⟨Nat.le_of_ble_eq_true rfl, Nat.le_of_ble_eq_true rfl⟩, hts _ mw_73⟩ (hP_S kE_ok hE hH) rfl rfl hl.1 rfl (lv_room (Nat.le_of_ble_eq_true rfl)) d_Pg_clear_5 ⟨Nat.le_of_ble_eq_true rfl, Nat.le_of_ble_eq_true rfl⟩) hLo (fun h_5 H_6 locs hp_8 hH z_7 hLo => ?_)
  have hz : s.heap.size ≤ H_6.size := Nat.le_trans hz z_7
  obtain ⟨hk9, hpg9⟩ := hp_8
  have kf_9 : kf τ [(5, f)] [] h h_5 := kf_kp hT hk9 c_2
  have hT : TI τ t n h_5 := TI_kp hT hk9 c_2 hpg9
  have F_p9 : h_5 p9 = some (.inr (3, [.ref v_1])) := kf_at kf_9 T_p9 (by decide) (tnc (by decide) tn0) nm0 F_p9
  have hkf : kf τ [(5, f)] [] h h_5 := kf_tr hkf kf_9 (List.forall_mem_cons.mpr ⟨List.mem_cons_self, List.forall_mem_nil _⟩) (List.forall_mem_nil _)
  exact W.vret hx hb hr (fun t9 ht hW => ⟨h_5, rfl, ⟨hT, hkf⟩, by rw [ht]; exact hH, by rw [ht]; exact hz⟩) hLo d_Pg_clear_8

set_option maxHeartbeats 4000000 in
set_option maxRecDepth 100000 in
theorem t_put (l : Launch) (D : va_G) (t : Nat → ClassId) (G : hG) (ak av : Nat → Nat) (h : hM) (τ : tM) (n f : Nat) (p9 : Nat) (a9 : Int32) (v9 : Int32) (hn : n ≤ 200) (hT : TI τ t n h) (T_p9 : τ p9 = (4, f)) : Met l y_Pg_put (.code y_Pg_put b_Pg_put 3 none :: lw_g) { frames := 0, cells := 0, slots := 0, locals := 0 } (hP (kE D t G ak av) D vwCl G h [.ref p9, .int a9, .int v9]) (hQv D vwCl G (fun h' => TI τ t n h' ∧ kf τ [(5, f)] [] h h')) 0 0 G.P := by
  refine Met.ofW (cc := b_Pg_put) (maxL := 3) (ret := none) (by decide) rfl ?_
  intro p e s m args below meth c s₁ Bd hml hv
  obtain ⟨ha, hE, hH⟩ := hv
  have hx := Bd.exec
  have hb := Bd.bytes
  have hr := Bd.returns
  have hts : ∀ w ∈ lw_g, w.before args s = true := fun w hw => atoms_spec (ws := (.code y_Pg_put b_Pg_put 3 none :: lw_g)) Bd.pre w (List.mem_cons_of_mem _ hw)
  have hown : s.vm.findClass R_Pg = some m.cls := findClass_of_methodNamed Bd.named
  have hlocks := Bd.notSynchronized
  have hK := hE.1
  have hH0 := hH
  have hLo : hLc G.P [] := hLc_nil
  have hz : s.heap.size ≤ s.heap.size := Nat.le_refl _
  have hl := lv_entry [.ref p9, .int a9, .int v9] (n := 3) (Nat.le_of_ble_eq_true rfl)
  rw [show entryFrame m args 3 = F0 m 0 ((lg_sl [.ref p9, .int a9, .int v9] ++ List.replicate (3 - (lg_sl [.ref p9, .int a9, .int v9]).length) Slot.unset).toArray) [] from (by rw [ha]; exact lg_entry_eq m [.ref p9, .int a9, .int v9] 3)]
  generalize (lg_sl [.ref p9, .int a9, .int v9] ++ List.replicate (3 - (lg_sl [.ref p9, .int a9, .int v9]).length) Slot.unset).toArray = ls at hl ⊢
  have hl : lv_has ls 3 [(0, .ref p9), (1, .int a9), (2, .int v9)] := hl
  have hkf : kf τ [(5, f)] [] h h := kf_rf
  refine lv_iload_n hx hb d_Pg_put_0 rfl (lv_at hl 1 rfl) ?_
  refine lv_if_lt (tgt := 21) hx hb d_Pg_put_1 (by decide) (fun hc_1 => ?_) (fun hc_1 => ?_)
  · skip
    have ic_2 : a9.toInt < 0 := iLt hc_1
    exact W.vret hx hb hr (fun t9 ht hW => ⟨h, rfl, ⟨hT, hkf⟩, by rw [ht]; exact hH, by rw [ht]; exact hz⟩) hLo d_Pg_put_21
  · skip
    have ic_3 : 0 ≤ a9.toInt := iNl hc_1
    refine lv_iload_n hx hb d_Pg_put_4 rfl (lv_at hl 1 rfl) ?_
    refine lv_aload_n hx hb d_Pg_put_5 rfl (lv_at hl 0 rfl) ?_
    obtain ⟨v_4, F_p9, c_5⟩ := TI_page hT T_p9
    refine hm_get (ci := 3) (v := .ref v_4) (C := R_Pg) (T := F_Pg) (N := 1) hx hb hts ig_Pg hown hK hH F_p9 rfl 0 (by decide) (hts _ mw_69) (fun _ h9 => h9) rfl d_Pg_put_6 ?_
    obtain ⟨g_6, F_v_4, c_7⟩ := TI_byts hT c_5
    have iln_8 : (nI (pgn f)).toInt = ((pgn f) : Nat) := nI_toInt (pgn_lt _)
    refine hm_alen (v := nI (pgn f)) hx hb hK hH 0 F_v_4 (ty := .byte) rfl rfl d_Pg_put_9 ?_
    refine lv_icmp_ge (tgt := 21) hx hb d_Pg_put_10 (by decide) (fun hc_9 => ?_) (fun hc_9 => ?_)
    · skip
      have ic_10 : (nI (pgn f)).toInt ≤ a9.toInt := iLe hc_9
      exact W.vret hx hb hr (fun t9 ht hW => ⟨h, rfl, ⟨hT, hkf⟩, by rw [ht]; exact hH, by rw [ht]; exact hz⟩) hLo d_Pg_put_21
    · skip
      have ic_11 : a9.toInt < (nI (pgn f)).toInt := iNe hc_9
      have iu_12 : (nI (pgn f)).toInt < 2147483648 := iUp _
      refine lv_aload_n hx hb d_Pg_put_13 rfl (lv_at hl 0 rfl) ?_
      refine hm_get (ci := 3) (v := .ref v_4) (C := R_Pg) (T := F_Pg) (N := 1) hx hb hts ig_Pg hown hK hH F_p9 rfl 0 (by decide) (hts _ mw_69) (fun _ h9 => h9) rfl d_Pg_put_14 ?_
      refine lv_iload_n hx hb d_Pg_put_17 rfl (lv_at hl 1 rfl) ?_
      refine lv_iload_n hx hb d_Pg_put_18 rfl (lv_at hl 2 rfl) ?_
      refine lv_i2b (v := v9.toInt8.toInt32) hx hb d_Pg_put_19 rfl ?_
      refine hm_bast hx hb hK hH hLo 0 F_v_4 rfl (iIn (by omega) (by omega)) d_Pg_put_20 (fun H_13 locs hH z_14 hLo => ?_)
      have hz : s.heap.size ≤ H_13.size := by rw [z_14]; exact hz
      obtain ⟨h_15, e_16⟩ : ∃ z, z = hu h v_4 (.inl ((t 0), (pgn f), .inl (upd g_6 a9.toNatClampNeg (vp_nar .byte v9.toInt8.toInt32)))) := ⟨_, rfl⟩
      have hH : hm D vwCl G h_15 H_13 := by rw [e_16]; exact hH
      have F_p9 : h_15 p9 = some (.inr (3, [.ref v_4])) := by rw [e_16, hu_n (tne T_p9 c_5 (by decide))]; exact F_p9
      have F_v_4 : h_15 v_4 = some (.inl ((t 0), (pgn f), .inl (upd g_6 a9.toNatClampNeg (vp_nar .byte v9.toInt8.toInt32)))) := by rw [e_16]; exact hu_s _ _ _
      have hT : TI τ t n h_15 := by rw [e_16]; exact TI_put hT c_5 (by decide) ⟨_, rfl, (sb_fitU c_7 (fitNar _))⟩
      have hkf : kf τ [(5, f)] [] h h_15 := by rw [e_16]; exact kf_put hkf c_5 List.mem_cons_self
      obtain ⟨g_17, e_18⟩ : ∃ z, z = upd g_6 a9.toNatClampNeg (vp_nar .byte v9.toInt8.toInt32) := ⟨_, rfl⟩
      rw [← e_18] at F_v_4
      have c_19 : sb_Fit g_17 := by rw [e_18]; exact (sb_fitU c_7 (fitNar _))
      exact W.vret hx hb hr (fun t9 ht hW => ⟨h_15, rfl, ⟨hT, hkf⟩, by rw [ht]; exact hH, by rw [ht]; exact hz⟩) hLo d_Pg_put_21

set_option maxHeartbeats 4000000 in
set_option maxRecDepth 100000 in
theorem t_putText (l : Launch) (D : va_G) (t : Nat → ClassId) (G : hG) (ak av : Nat → Nat) (h : hM) (τ : tM) (n f : Nat) (p9 : Nat) (a9 : Int32) (i8 : Nat) (hn : n ≤ 200) (hT : TI τ t n h) (T_p9 : τ p9 = (4, f)) (hi_i8 : i8 < 3) : Met l y_Pg_putText (.code y_Pg_putText b_Pg_putText 4 none :: lw_g) { frames := 4, cells := 0, slots := 0, locals := 85 } (hP (kE D t G ak av) D vwCl G h [.ref p9, .int a9, .ref (ak i8)]) (hQv D vwCl G (fun h' => TI τ t n h' ∧ kf τ [(5, f)] [] h h')) 0 0 G.P := by
  refine Met.ofW (cc := b_Pg_putText) (maxL := 4) (ret := none) (by decide) rfl ?_
  intro p e s m args below meth c s₁ Bd hml hv
  obtain ⟨ha, hE, hH⟩ := hv
  have hx := Bd.exec
  have hb := Bd.bytes
  have hr := Bd.returns
  have hts : ∀ w ∈ lw_g, w.before args s = true := fun w hw => atoms_spec (ws := (.code y_Pg_putText b_Pg_putText 4 none :: lw_g)) Bd.pre w (List.mem_cons_of_mem _ hw)
  have hown : s.vm.findClass R_Pg = some m.cls := findClass_of_methodNamed Bd.named
  have hlocks := Bd.notSynchronized
  have hK := hE.1
  have hH0 := hH
  have hLo : hLc G.P [] := hLc_nil
  have hz : s.heap.size ≤ s.heap.size := Nat.le_refl _
  have hl := lv_entry [.ref p9, .int a9, .ref (ak i8)] (n := 4) (Nat.le_of_ble_eq_true rfl)
  rw [show entryFrame m args 4 = F0 m 0 ((lg_sl [.ref p9, .int a9, .ref (ak i8)] ++ List.replicate (4 - (lg_sl [.ref p9, .int a9, .ref (ak i8)]).length) Slot.unset).toArray) [] from (by rw [ha]; exact lg_entry_eq m [.ref p9, .int a9, .ref (ak i8)] 4)]
  generalize (lg_sl [.ref p9, .int a9, .ref (ak i8)] ++ List.replicate (4 - (lg_sl [.ref p9, .int a9, .ref (ak i8)]).length) Slot.unset).toArray = ls at hl ⊢
  have hl : lv_has ls 4 [(0, .ref p9), (1, .int a9), (2, .ref (ak i8))] := hl
  have hkf : kf τ [(5, f)] [] h h := kf_rf
  refine lv_iconst (v := 0) hx hb d_Pg_putText_0 (by decide) ?_
  refine lv_istore_n (lv' := [(3, .int 0), (0, .ref p9), (1, .int a9), (2, .ref (ak i8))]) hx hb d_Pg_putText_1 rfl hl (by decide) rfl (fun ls hl => ?_)
  refine hm_loop (fun k2 ls H locs hh2 => ∃ (i9 : Int32), k2 = mU i9 ∧ lv_has ls 4 [(0, .ref p9), (1, .int a9), (2, .ref (ak i8)), (3, .int i9)] ∧ hm D vwCl G hh2 H ∧ s.heap.size ≤ H.size ∧ hLc G.P locs ∧ (TI τ t n hh2) ∧ (kf τ [(5, f)] [] h hh2) ∧ (0 ≤ i9.toInt)) ?_ (hh := h) ⟨0, rfl, (lv_sub hl [1, 2, 3, 0] rfl), hH, hz, hLo, hT, hkf, (by decide)⟩
  rintro k2 ls H locs hh2 ⟨i9, hk2, hl, hH, hz, hLo, hT, hkf, I_i9⟩ ih2
  refine lv_iload_n hx hb d_Pg_putText_2 rfl (lv_at hl 3 rfl) ?_
  refine lv_aload_n hx hb d_Pg_putText_3 rfl (lv_at hl 2 rfl) ?_
  have hZ := K9 hE.2.2.2.2 hH0
  have hS := S9 hH0 hH hz hLo
  refine hm_callPi (va_runV (As := []) (b := ak i8) (rest := [.int i9]) ⟨hx, hb, hml, hown, hts⟩ (c_St_length l D t G ak av hh2 i8 hi_i8) ⟨cw9B 0 hts mw_36 mw_74 mw_4 rfl rfl (by decide +kernel) ⟨Nat.le_of_ble_eq_true rfl, Nat.le_of_ble_eq_true rfl⟩, hts _ mw_38, hts _ mw_39⟩ (hP_W kE_ok hE hH (vk_recv hZ hi_i8 hS)) rfl rfl hl.1 rfl (lv_room (Nat.le_of_ble_eq_true rfl)) d_Pg_putText_4 ⟨Nat.le_of_ble_eq_true rfl, Nat.le_of_ble_eq_true rfl⟩) (fun r_1 h_2 H_3 hp_5  hH z_4 => ?_)
  have hz : s.heap.size ≤ H_3.size := Nat.le_trans hz z_4
  obtain ⟨e_r_1, rfl⟩ := hp_5
  have is_r_1 : r_1.toInt = (sLen.getD i8 0 : Nat) := by rw [e_r_1]; exact nI_toInt (sl_lt hi_i8)
  have iq_r_1 := sl_8 (i := i8) hi_i8
  refine lv_icmp_ge (tgt := 28) hx hb d_Pg_putText_7 (by decide) (fun hc_6 => ?_) (fun hc_6 => ?_)
  · skip
    have ic_7 : r_1.toInt ≤ i9.toInt := iLe hc_6
    exact W.vret hx hb hr (fun t9 ht hW => ⟨hh2, rfl, ⟨hT, hkf⟩, by rw [ht]; exact hH, by rw [ht]; exact hz⟩) hLo d_Pg_putText_28
  · skip
    have ic_8 : i9.toInt < r_1.toInt := iNe hc_6
    have iu_9 : r_1.toInt < 2147483648 := iUp _
    refine lv_aload_n hx hb d_Pg_putText_10 rfl (lv_at hl 0 rfl) ?_
    refine lv_iload_n hx hb d_Pg_putText_11 rfl (lv_at hl 1 rfl) ?_
    refine lv_iload_n hx hb d_Pg_putText_12 rfl (lv_at hl 3 rfl) ?_
    refine lv_iadd hx hb d_Pg_putText_13 ?_
    refine lv_aload_n hx hb d_Pg_putText_14 rfl (lv_at hl 2 rfl) ?_
    refine lv_iload_n hx hb d_Pg_putText_15 rfl (lv_at hl 3 rfl) ?_
    have hZ := K9 hE.2.2.2.2 hH0
    have hS := S9 hH0 hH hz hLo
    obtain ⟨j_10, e_11l, e_11⟩ : ∃ j : Nat, j < sLen.getD i8 0 ∧ i9 = nI j := ⟨i9.toInt.toNat, by omega, i_nI (by omega)⟩
    refine lv_topi (fun v_12 e_13 => ?_)
    obtain rfl : v_12 = nI j_10 := e_13.trans (e_11)
    refine hm_callPi (va_runV (As := [.int (nI j_10)]) (b := ak i8) (rest := [.int (a9 + i9), .ref p9]) ⟨hx, hb, hml, hown, hts⟩ (c_St_charAt l D t G ak av hh2 i8 j_10 hi_i8 e_11l) ⟨cw9B 1 hts mw_40 mw_75 mw_4 rfl rfl (by decide +kernel) ⟨Nat.le_of_ble_eq_true rfl, Nat.le_of_ble_eq_true rfl⟩, hts _ mw_42, hts _ mw_43⟩ (hP_W kE_ok hE hH (vk_recv hZ hi_i8 hS)) rfl rfl hl.1 rfl (lv_room (Nat.le_of_ble_eq_true rfl)) d_Pg_putText_16 ⟨Nat.le_of_ble_eq_true rfl, Nat.le_of_ble_eq_true rfl⟩) (fun r_14 h_15 H_16 hp_18  hH z_17 => ?_)
    have hz : s.heap.size ≤ H_16.size := Nat.le_trans hz z_17
    obtain ⟨-, rfl⟩ := hp_18
    obtain ⟨v_19, F_p9, c_20⟩ := TI_page hT T_p9
    refine hm_callv (va_runV (As := [.int (a9 + i9), .int r_14]) (b := p9) (rest := []) ⟨hx, hb, hml, hown, hts⟩ (t_put l D t G ak av hh2 τ n f p9 (a9 + i9) r_14  hn hT T_p9) ⟨cw9B 2 hts mw_76 mw_78 mw_77 rfl rfl (by decide +kernel) ⟨Nat.le_of_ble_eq_true rfl, Nat.le_of_ble_eq_true rfl⟩, hts _ mw_79, hts _ mw_80⟩ (hP_V (q := (R_Pg, F_Pg, 1)) kE_ok hE hK hH F_p9 rfl) rfl rfl hl.1 rfl (lv_room (Nat.le_of_ble_eq_true rfl)) d_Pg_putText_19 ⟨Nat.le_of_ble_eq_true rfl, Nat.le_of_ble_eq_true rfl⟩) hLo (fun h_21 H_22 locs hp_24 hH z_23 hLo => ?_)
    have hz : s.heap.size ≤ H_22.size := Nat.le_trans hz z_23
    have hT0 := hT
    obtain ⟨hT, kf_26⟩ := hp_24
    have F_p9 : h_21 p9 = some (.inr (3, [.ref v_19])) := kf_at kf_26 T_p9 (by decide) (tnc (by decide) tn0) nm0 F_p9
    have hkf : kf τ [(5, f)] [] h h_21 := kf_tr hkf kf_26 (List.forall_mem_cons.mpr ⟨List.mem_cons_self, List.forall_mem_nil _⟩) (List.forall_mem_nil _)
    obtain ⟨j_27, e_28⟩ : ∃ z : Int32, z = i9 + 1 := ⟨_, rfl⟩
    refine lv_iinc (v := j_27) (lv' := [(3, .int j_27), (0, .ref p9), (1, .int a9), (2, .ref (ak i8))]) hx hb d_Pg_putText_22 hl (k := 3) rfl e_28.symm (by decide) rfl (fun ls hl => ?_)
    refine lv_goto (tgt := 2) hx hb d_Pg_putText_25 (by decide) ?_
    have is_29 : j_27.toInt = i9.toInt + 1 := by rw [e_28]; exact iAddK 1 rfl (by omega) (by omega)
    exact ih2 (mU j_27) ls _ locs _ (by rw [hk2]; exact mU_lt (by omega)) ⟨j_27, rfl, (lv_sub hl [1, 2, 3, 0] rfl), hH, hz, hLo, hT, hkf, (by omega)⟩

set_option maxHeartbeats 4000000 in
set_option maxRecDepth 100000 in
theorem t_putLow (l : Launch) (D : va_G) (t : Nat → ClassId) (G : hG) (ak av : Nat → Nat) (h : hM) (τ : tM) (n f : Nat) (p9 : Nat) (a9 : Int32) (w9 : Int32) (v9 : Int32) (hn : n ≤ 200) (hT : TI τ t n h) (T_p9 : τ p9 = (4, f)) : Met l y_Pg_putLow (.code y_Pg_putLow b_Pg_putLow 5 none :: lw_g) { frames := 1, cells := 0, slots := 0, locals := 22 } (hP (kE D t G ak av) D vwCl G h [.ref p9, .int a9, .int w9, .int v9]) (hQv D vwCl G (fun h' => TI τ t n h' ∧ kf τ [(5, f)] [] h h')) 0 0 G.P := by
  refine Met.ofW (cc := b_Pg_putLow) (maxL := 5) (ret := none) (by decide) rfl ?_
  intro p e s m args below meth c s₁ Bd hml hv
  obtain ⟨ha, hE, hH⟩ := hv
  have hx := Bd.exec
  have hb := Bd.bytes
  have hr := Bd.returns
  have hts : ∀ w ∈ lw_g, w.before args s = true := fun w hw => atoms_spec (ws := (.code y_Pg_putLow b_Pg_putLow 5 none :: lw_g)) Bd.pre w (List.mem_cons_of_mem _ hw)
  have hown : s.vm.findClass R_Pg = some m.cls := findClass_of_methodNamed Bd.named
  have hlocks := Bd.notSynchronized
  have hK := hE.1
  have hH0 := hH
  have hLo : hLc G.P [] := hLc_nil
  have hz : s.heap.size ≤ s.heap.size := Nat.le_refl _
  have hl := lv_entry [.ref p9, .int a9, .int w9, .int v9] (n := 5) (Nat.le_of_ble_eq_true rfl)
  rw [show entryFrame m args 5 = F0 m 0 ((lg_sl [.ref p9, .int a9, .int w9, .int v9] ++ List.replicate (5 - (lg_sl [.ref p9, .int a9, .int w9, .int v9]).length) Slot.unset).toArray) [] from (by rw [ha]; exact lg_entry_eq m [.ref p9, .int a9, .int w9, .int v9] 5)]
  generalize (lg_sl [.ref p9, .int a9, .int w9, .int v9] ++ List.replicate (5 - (lg_sl [.ref p9, .int a9, .int w9, .int v9]).length) Slot.unset).toArray = ls at hl ⊢
  have hl : lv_has ls 5 [(0, .ref p9), (1, .int a9), (2, .int w9), (3, .int v9)] := hl
  have hkf : kf τ [(5, f)] [] h h := kf_rf
  refine lv_iconst (v := 0) hx hb d_Pg_putLow_0 (by decide) ?_
  refine lv_istore (lv' := [(4, .int 0), (0, .ref p9), (1, .int a9), (2, .int w9), (3, .int v9)]) hx hb d_Pg_putLow_1 hl (by decide) rfl (fun ls hl => ?_)
  refine hm_loop (fun k3 ls H locs hh3 => ∃ (i9 : Int32), k3 = mU i9 ∧ lv_has ls 5 [(0, .ref p9), (1, .int a9), (2, .int w9), (3, .int v9), (4, .int i9)] ∧ hm D vwCl G hh3 H ∧ s.heap.size ≤ H.size ∧ hLc G.P locs ∧ (TI τ t n hh3) ∧ (kf τ [(5, f)] [] h hh3) ∧ (0 ≤ i9.toInt)) ?_ (hh := h) ⟨0, rfl, (lv_sub hl [1, 2, 3, 4, 0] rfl), hH, hz, hLo, hT, hkf, (by decide)⟩
  rintro k3 ls H locs hh3 ⟨i9, hk3, hl, hH, hz, hLo, hT, hkf, I_i9⟩ ih3
  refine lv_iload hx hb d_Pg_putLow_3 (lv_at hl 4 rfl) ?_
  refine lv_iload_n hx hb d_Pg_putLow_5 rfl (lv_at hl 2 rfl) ?_
  refine lv_icmp_ge (tgt := 30) hx hb d_Pg_putLow_6 (by decide) (fun hc_1 => ?_) (fun hc_1 => ?_)
  · skip
    have ic_2 : w9.toInt ≤ i9.toInt := iLe hc_1
    exact W.vret hx hb hr (fun t9 ht hW => ⟨hh3, rfl, ⟨hT, hkf⟩, by rw [ht]; exact hH, by rw [ht]; exact hz⟩) hLo d_Pg_putLow_30
  · skip
    have ic_3 : i9.toInt < w9.toInt := iNe hc_1
    have iu_4 : w9.toInt < 2147483648 := iUp _
    refine lv_aload_n hx hb d_Pg_putLow_9 rfl (lv_at hl 0 rfl) ?_
    refine lv_iload_n hx hb d_Pg_putLow_10 rfl (lv_at hl 1 rfl) ?_
    refine lv_iload hx hb d_Pg_putLow_11 (lv_at hl 4 rfl) ?_
    refine lv_iadd hx hb d_Pg_putLow_13 ?_
    refine lv_iload_n hx hb d_Pg_putLow_14 rfl (lv_at hl 3 rfl) ?_
    refine lv_bipush (v := 8) hx hb d_Pg_putLow_15 (by decide) ?_
    refine lv_iload hx hb d_Pg_putLow_17 (lv_at hl 4 rfl) ?_
    refine lv_imul hx hb d_Pg_putLow_19 ?_
    refine lv_ishr hx hb d_Pg_putLow_20 ?_
    obtain ⟨v_5, F_p9, c_6⟩ := TI_page hT T_p9
    refine hm_callv (va_runV (As := [.int (a9 + i9), .int (v9 >>> ((8 * i9) &&& 31))]) (b := p9) (rest := []) ⟨hx, hb, hml, hown, hts⟩ (t_put l D t G ak av hh3 τ n f p9 (a9 + i9) (v9 >>> ((8 * i9) &&& 31))  hn hT T_p9) ⟨cw9B 2 hts mw_76 mw_78 mw_77 rfl rfl (by decide +kernel) ⟨Nat.le_of_ble_eq_true rfl, Nat.le_of_ble_eq_true rfl⟩, hts _ mw_79, hts _ mw_80⟩ (hP_V (q := (R_Pg, F_Pg, 1)) kE_ok hE hK hH F_p9 rfl) rfl rfl hl.1 rfl (lv_room (Nat.le_of_ble_eq_true rfl)) d_Pg_putLow_21 ⟨Nat.le_of_ble_eq_true rfl, Nat.le_of_ble_eq_true rfl⟩) hLo (fun h_7 H_8 locs hp_10 hH z_9 hLo => ?_)
    have hz : s.heap.size ≤ H_8.size := Nat.le_trans hz z_9
    have hT0 := hT
    obtain ⟨hT, kf_12⟩ := hp_10
    have F_p9 : h_7 p9 = some (.inr (3, [.ref v_5])) := kf_at kf_12 T_p9 (by decide) (tnc (by decide) tn0) nm0 F_p9
    have hkf : kf τ [(5, f)] [] h h_7 := kf_tr hkf kf_12 (List.forall_mem_cons.mpr ⟨List.mem_cons_self, List.forall_mem_nil _⟩) (List.forall_mem_nil _)
    obtain ⟨j_13, e_14⟩ : ∃ z : Int32, z = i9 + 1 := ⟨_, rfl⟩
    refine lv_iinc (v := j_13) (lv' := [(4, .int j_13), (0, .ref p9), (1, .int a9), (2, .int w9), (3, .int v9)]) hx hb d_Pg_putLow_24 hl (k := 4) rfl e_14.symm (by decide) rfl (fun ls hl => ?_)
    refine lv_goto (tgt := 3) hx hb d_Pg_putLow_27 (by decide) ?_
    have is_15 : j_13.toInt = i9.toInt + 1 := by rw [e_14]; exact iAddK 1 rfl (by omega) (by omega)
    exact ih3 (mU j_13) ls _ locs _ (by rw [hk3]; exact mU_lt (by omega)) ⟨j_13, rfl, (lv_sub hl [1, 2, 3, 4, 0] rfl), hH, hz, hLo, hT, hkf, (by omega)⟩

set_option maxHeartbeats 4000000 in
set_option maxRecDepth 100000 in
theorem t_putHigh (l : Launch) (D : va_G) (t : Nat → ClassId) (G : hG) (ak av : Nat → Nat) (h : hM) (τ : tM) (n f : Nat) (p9 : Nat) (a9 : Int32) (w9 : Int32) (v9 : Int32) (hn : n ≤ 200) (hT : TI τ t n h) (T_p9 : τ p9 = (4, f)) : Met l y_Pg_putHigh (.code y_Pg_putHigh b_Pg_putHigh 5 none :: lw_g) { frames := 1, cells := 0, slots := 0, locals := 22 } (hP (kE D t G ak av) D vwCl G h [.ref p9, .int a9, .int w9, .int v9]) (hQv D vwCl G (fun h' => TI τ t n h' ∧ kf τ [(5, f)] [] h h')) 0 0 G.P := by
  refine Met.ofW (cc := b_Pg_putHigh) (maxL := 5) (ret := none) (by decide) rfl ?_
  intro p e s m args below meth c s₁ Bd hml hv
  obtain ⟨ha, hE, hH⟩ := hv
  have hx := Bd.exec
  have hb := Bd.bytes
  have hr := Bd.returns
  have hts : ∀ w ∈ lw_g, w.before args s = true := fun w hw => atoms_spec (ws := (.code y_Pg_putHigh b_Pg_putHigh 5 none :: lw_g)) Bd.pre w (List.mem_cons_of_mem _ hw)
  have hown : s.vm.findClass R_Pg = some m.cls := findClass_of_methodNamed Bd.named
  have hlocks := Bd.notSynchronized
  have hK := hE.1
  have hH0 := hH
  have hLo : hLc G.P [] := hLc_nil
  have hz : s.heap.size ≤ s.heap.size := Nat.le_refl _
  have hl := lv_entry [.ref p9, .int a9, .int w9, .int v9] (n := 5) (Nat.le_of_ble_eq_true rfl)
  rw [show entryFrame m args 5 = F0 m 0 ((lg_sl [.ref p9, .int a9, .int w9, .int v9] ++ List.replicate (5 - (lg_sl [.ref p9, .int a9, .int w9, .int v9]).length) Slot.unset).toArray) [] from (by rw [ha]; exact lg_entry_eq m [.ref p9, .int a9, .int w9, .int v9] 5)]
  generalize (lg_sl [.ref p9, .int a9, .int w9, .int v9] ++ List.replicate (5 - (lg_sl [.ref p9, .int a9, .int w9, .int v9]).length) Slot.unset).toArray = ls at hl ⊢
  have hl : lv_has ls 5 [(0, .ref p9), (1, .int a9), (2, .int w9), (3, .int v9)] := hl
  have hkf : kf τ [(5, f)] [] h h := kf_rf
  refine lv_iconst (v := 0) hx hb d_Pg_putHigh_0 (by decide) ?_
  refine lv_istore (lv' := [(4, .int 0), (0, .ref p9), (1, .int a9), (2, .int w9), (3, .int v9)]) hx hb d_Pg_putHigh_1 hl (by decide) rfl (fun ls hl => ?_)
  refine hm_loop (fun k3 ls H locs hh3 => ∃ (i9 : Int32), k3 = mU i9 ∧ lv_has ls 5 [(0, .ref p9), (1, .int a9), (2, .int w9), (3, .int v9), (4, .int i9)] ∧ hm D vwCl G hh3 H ∧ s.heap.size ≤ H.size ∧ hLc G.P locs ∧ (TI τ t n hh3) ∧ (kf τ [(5, f)] [] h hh3) ∧ (0 ≤ i9.toInt)) ?_ (hh := h) ⟨0, rfl, (lv_sub hl [1, 2, 3, 4, 0] rfl), hH, hz, hLo, hT, hkf, (by decide)⟩
  rintro k3 ls H locs hh3 ⟨i9, hk3, hl, hH, hz, hLo, hT, hkf, I_i9⟩ ih3
  refine lv_iload hx hb d_Pg_putHigh_3 (lv_at hl 4 rfl) ?_
  refine lv_iload_n hx hb d_Pg_putHigh_5 rfl (lv_at hl 2 rfl) ?_
  refine lv_icmp_ge (tgt := 34) hx hb d_Pg_putHigh_6 (by decide) (fun hc_1 => ?_) (fun hc_1 => ?_)
  · skip
    have ic_2 : w9.toInt ≤ i9.toInt := iLe hc_1
    exact W.vret hx hb hr (fun t9 ht hW => ⟨hh3, rfl, ⟨hT, hkf⟩, by rw [ht]; exact hH, by rw [ht]; exact hz⟩) hLo d_Pg_putHigh_34
  · skip
    have ic_3 : i9.toInt < w9.toInt := iNe hc_1
    have iu_4 : w9.toInt < 2147483648 := iUp _
    refine lv_aload_n hx hb d_Pg_putHigh_9 rfl (lv_at hl 0 rfl) ?_
    refine lv_iload_n hx hb d_Pg_putHigh_10 rfl (lv_at hl 1 rfl) ?_
    refine lv_iload_n hx hb d_Pg_putHigh_11 rfl (lv_at hl 2 rfl) ?_
    refine lv_iadd hx hb d_Pg_putHigh_12 ?_
    refine lv_iconst (v := 1) hx hb d_Pg_putHigh_13 (by decide) ?_
    refine lv_isub hx hb d_Pg_putHigh_14 ?_
    refine lv_iload hx hb d_Pg_putHigh_15 (lv_at hl 4 rfl) ?_
    refine lv_isub hx hb d_Pg_putHigh_17 ?_
    refine lv_iload_n hx hb d_Pg_putHigh_18 rfl (lv_at hl 3 rfl) ?_
    refine lv_bipush (v := 8) hx hb d_Pg_putHigh_19 (by decide) ?_
    refine lv_iload hx hb d_Pg_putHigh_21 (lv_at hl 4 rfl) ?_
    refine lv_imul hx hb d_Pg_putHigh_23 ?_
    refine lv_ishr hx hb d_Pg_putHigh_24 ?_
    obtain ⟨v_5, F_p9, c_6⟩ := TI_page hT T_p9
    refine hm_callv (va_runV (As := [.int (((a9 + w9) - 1) - i9), .int (v9 >>> ((8 * i9) &&& 31))]) (b := p9) (rest := []) ⟨hx, hb, hml, hown, hts⟩ (t_put l D t G ak av hh3 τ n f p9 (((a9 + w9) - 1) - i9) (v9 >>> ((8 * i9) &&& 31))  hn hT T_p9) ⟨cw9B 2 hts mw_76 mw_78 mw_77 rfl rfl (by decide +kernel) ⟨Nat.le_of_ble_eq_true rfl, Nat.le_of_ble_eq_true rfl⟩, hts _ mw_79, hts _ mw_80⟩ (hP_V (q := (R_Pg, F_Pg, 1)) kE_ok hE hK hH F_p9 rfl) rfl rfl hl.1 rfl (lv_room (Nat.le_of_ble_eq_true rfl)) d_Pg_putHigh_25 ⟨Nat.le_of_ble_eq_true rfl, Nat.le_of_ble_eq_true rfl⟩) hLo (fun h_7 H_8 locs hp_10 hH z_9 hLo => ?_)
    have hz : s.heap.size ≤ H_8.size := Nat.le_trans hz z_9
    have hT0 := hT
    obtain ⟨hT, kf_12⟩ := hp_10
    have F_p9 : h_7 p9 = some (.inr (3, [.ref v_5])) := kf_at kf_12 T_p9 (by decide) (tnc (by decide) tn0) nm0 F_p9
    have hkf : kf τ [(5, f)] [] h h_7 := kf_tr hkf kf_12 (List.forall_mem_cons.mpr ⟨List.mem_cons_self, List.forall_mem_nil _⟩) (List.forall_mem_nil _)
    obtain ⟨j_13, e_14⟩ : ∃ z : Int32, z = i9 + 1 := ⟨_, rfl⟩
    refine lv_iinc (v := j_13) (lv' := [(4, .int j_13), (0, .ref p9), (1, .int a9), (2, .int w9), (3, .int v9)]) hx hb d_Pg_putHigh_28 hl (k := 4) rfl e_14.symm (by decide) rfl (fun ls hl => ?_)
    refine lv_goto (tgt := 3) hx hb d_Pg_putHigh_31 (by decide) ?_
    have is_15 : j_13.toInt = i9.toInt + 1 := by rw [e_14]; exact iAddK 1 rfl (by omega) (by omega)
    exact ih3 (mU j_13) ls _ locs _ (by rw [hk3]; exact mU_lt (by omega)) ⟨j_13, rfl, (lv_sub hl [1, 2, 3, 4, 0] rfl), hH, hz, hLo, hT, hkf, (by omega)⟩

set_option maxHeartbeats 4000000 in
set_option maxRecDepth 100000 in
theorem t_putBoth (l : Launch) (D : va_G) (t : Nat → ClassId) (G : hG) (ak av : Nat → Nat) (h : hM) (τ : tM) (n f : Nat) (p9 : Nat) (a9 : Int32) (w9 : Int32) (v9 : Int32) (hn : n ≤ 200) (hT : TI τ t n h) (T_p9 : τ p9 = (4, f)) : Met l y_Pg_putBoth (.code y_Pg_putBoth b_Pg_putBoth 5 none :: lw_g) { frames := 1, cells := 0, slots := 0, locals := 22 } (hP (kE D t G ak av) D vwCl G h [.ref p9, .int a9, .int w9, .int v9]) (hQv D vwCl G (fun h' => TI τ t n h' ∧ kf τ [(5, f)] [] h h')) 0 0 G.P := by
  refine Met.ofW (cc := b_Pg_putBoth) (maxL := 5) (ret := none) (by decide) rfl ?_
  intro p e s m args below meth c s₁ Bd hml hv
  obtain ⟨ha, hE, hH⟩ := hv
  have hx := Bd.exec
  have hb := Bd.bytes
  have hr := Bd.returns
  have hts : ∀ w ∈ lw_g, w.before args s = true := fun w hw => atoms_spec (ws := (.code y_Pg_putBoth b_Pg_putBoth 5 none :: lw_g)) Bd.pre w (List.mem_cons_of_mem _ hw)
  have hown : s.vm.findClass R_Pg = some m.cls := findClass_of_methodNamed Bd.named
  have hlocks := Bd.notSynchronized
  have hK := hE.1
  have hH0 := hH
  have hLo : hLc G.P [] := hLc_nil
  have hz : s.heap.size ≤ s.heap.size := Nat.le_refl _
  have hl := lv_entry [.ref p9, .int a9, .int w9, .int v9] (n := 5) (Nat.le_of_ble_eq_true rfl)
  rw [show entryFrame m args 5 = F0 m 0 ((lg_sl [.ref p9, .int a9, .int w9, .int v9] ++ List.replicate (5 - (lg_sl [.ref p9, .int a9, .int w9, .int v9]).length) Slot.unset).toArray) [] from (by rw [ha]; exact lg_entry_eq m [.ref p9, .int a9, .int w9, .int v9] 5)]
  generalize (lg_sl [.ref p9, .int a9, .int w9, .int v9] ++ List.replicate (5 - (lg_sl [.ref p9, .int a9, .int w9, .int v9]).length) Slot.unset).toArray = ls at hl ⊢
  have hl : lv_has ls 5 [(0, .ref p9), (1, .int a9), (2, .int w9), (3, .int v9)] := hl
  have hkf : kf τ [(5, f)] [] h h := kf_rf
  refine lv_iconst (v := 0) hx hb d_Pg_putBoth_0 (by decide) ?_
  refine lv_istore (lv' := [(4, .int 0), (0, .ref p9), (1, .int a9), (2, .int w9), (3, .int v9)]) hx hb d_Pg_putBoth_1 hl (by decide) rfl (fun ls hl => ?_)
  refine hm_loop (fun k3 ls H locs hh3 => ∃ (i9 : Int32), k3 = mU i9 ∧ lv_has ls 5 [(0, .ref p9), (1, .int a9), (2, .int w9), (3, .int v9), (4, .int i9)] ∧ hm D vwCl G hh3 H ∧ s.heap.size ≤ H.size ∧ hLc G.P locs ∧ (TI τ t n hh3) ∧ (kf τ [(5, f)] [] h hh3) ∧ (0 ≤ i9.toInt)) ?_ (hh := h) ⟨0, rfl, (lv_sub hl [1, 2, 3, 4, 0] rfl), hH, hz, hLo, hT, hkf, (by decide)⟩
  rintro k3 ls H locs hh3 ⟨i9, hk3, hl, hH, hz, hLo, hT, hkf, I_i9⟩ ih3
  refine lv_iload hx hb d_Pg_putBoth_3 (lv_at hl 4 rfl) ?_
  refine lv_iload_n hx hb d_Pg_putBoth_5 rfl (lv_at hl 2 rfl) ?_
  refine lv_icmp_ge (tgt := 51) hx hb d_Pg_putBoth_6 (by decide) (fun hc_1 => ?_) (fun hc_1 => ?_)
  · skip
    have ic_2 : w9.toInt ≤ i9.toInt := iLe hc_1
    exact W.vret hx hb hr (fun t9 ht hW => ⟨hh3, rfl, ⟨hT, hkf⟩, by rw [ht]; exact hH, by rw [ht]; exact hz⟩) hLo d_Pg_putBoth_51
  · skip
    have ic_3 : i9.toInt < w9.toInt := iNe hc_1
    have iu_4 : w9.toInt < 2147483648 := iUp _
    refine lv_aload_n hx hb d_Pg_putBoth_9 rfl (lv_at hl 0 rfl) ?_
    refine lv_iload_n hx hb d_Pg_putBoth_10 rfl (lv_at hl 1 rfl) ?_
    refine lv_iload hx hb d_Pg_putBoth_11 (lv_at hl 4 rfl) ?_
    refine lv_iadd hx hb d_Pg_putBoth_13 ?_
    refine lv_iload_n hx hb d_Pg_putBoth_14 rfl (lv_at hl 3 rfl) ?_
    refine lv_bipush (v := 8) hx hb d_Pg_putBoth_15 (by decide) ?_
    refine lv_iload hx hb d_Pg_putBoth_17 (lv_at hl 4 rfl) ?_
    refine lv_imul hx hb d_Pg_putBoth_19 ?_
    refine lv_ishr hx hb d_Pg_putBoth_20 ?_
    obtain ⟨v_5, F_p9, c_6⟩ := TI_page hT T_p9
    refine hm_callv (va_runV (As := [.int (a9 + i9), .int (v9 >>> ((8 * i9) &&& 31))]) (b := p9) (rest := []) ⟨hx, hb, hml, hown, hts⟩ (t_put l D t G ak av hh3 τ n f p9 (a9 + i9) (v9 >>> ((8 * i9) &&& 31))  hn hT T_p9) ⟨cw9B 2 hts mw_76 mw_78 mw_77 rfl rfl (by decide +kernel) ⟨Nat.le_of_ble_eq_true rfl, Nat.le_of_ble_eq_true rfl⟩, hts _ mw_79, hts _ mw_80⟩ (hP_V (q := (R_Pg, F_Pg, 1)) kE_ok hE hK hH F_p9 rfl) rfl rfl hl.1 rfl (lv_room (Nat.le_of_ble_eq_true rfl)) d_Pg_putBoth_21 ⟨Nat.le_of_ble_eq_true rfl, Nat.le_of_ble_eq_true rfl⟩) hLo (fun h_7 H_8 locs hp_10 hH z_9 hLo => ?_)
    have hz : s.heap.size ≤ H_8.size := Nat.le_trans hz z_9
    have hT0 := hT
    obtain ⟨hT, kf_12⟩ := hp_10
    have F_p9 : h_7 p9 = some (.inr (3, [.ref v_5])) := kf_at kf_12 T_p9 (by decide) (tnc (by decide) tn0) nm0 F_p9
    have hkf : kf τ [(5, f)] [] h h_7 := kf_tr hkf kf_12 (List.forall_mem_cons.mpr ⟨List.mem_cons_self, List.forall_mem_nil _⟩) (List.forall_mem_nil _)
    refine lv_aload_n hx hb d_Pg_putBoth_24 rfl (lv_at hl 0 rfl) ?_
    refine lv_iload_n hx hb d_Pg_putBoth_25 rfl (lv_at hl 1 rfl) ?_
    refine lv_iconst (v := 2) hx hb d_Pg_putBoth_26 (by decide) ?_
    refine lv_iload_n hx hb d_Pg_putBoth_27 rfl (lv_at hl 2 rfl) ?_
    refine lv_imul hx hb d_Pg_putBoth_28 ?_
    refine lv_iadd hx hb d_Pg_putBoth_29 ?_
    refine lv_iconst (v := 1) hx hb d_Pg_putBoth_30 (by decide) ?_
    refine lv_isub hx hb d_Pg_putBoth_31 ?_
    refine lv_iload hx hb d_Pg_putBoth_32 (lv_at hl 4 rfl) ?_
    refine lv_isub hx hb d_Pg_putBoth_34 ?_
    refine lv_iload_n hx hb d_Pg_putBoth_35 rfl (lv_at hl 3 rfl) ?_
    refine lv_bipush (v := 8) hx hb d_Pg_putBoth_36 (by decide) ?_
    refine lv_iload hx hb d_Pg_putBoth_38 (lv_at hl 4 rfl) ?_
    refine lv_imul hx hb d_Pg_putBoth_40 ?_
    refine lv_ishr hx hb d_Pg_putBoth_41 ?_
    refine hm_callv (va_runV (As := [.int (((a9 + (2 * w9)) - 1) - i9), .int (v9 >>> ((8 * i9) &&& 31))]) (b := p9) (rest := []) ⟨hx, hb, hml, hown, hts⟩ (t_put l D t G ak av h_7 τ n f p9 (((a9 + (2 * w9)) - 1) - i9) (v9 >>> ((8 * i9) &&& 31))  hn hT T_p9) ⟨cw9B 2 hts mw_76 mw_78 mw_77 rfl rfl (by decide +kernel) ⟨Nat.le_of_ble_eq_true rfl, Nat.le_of_ble_eq_true rfl⟩, hts _ mw_79, hts _ mw_80⟩ (hP_V (q := (R_Pg, F_Pg, 1)) kE_ok hE hK hH F_p9 rfl) rfl rfl hl.1 rfl (lv_room (Nat.le_of_ble_eq_true rfl)) d_Pg_putBoth_42 ⟨Nat.le_of_ble_eq_true rfl, Nat.le_of_ble_eq_true rfl⟩) hLo (fun h_13 H_14 locs hp_16 hH z_15 hLo => ?_)
    have hz : s.heap.size ≤ H_14.size := Nat.le_trans hz z_15
    have hT0 := hT
    obtain ⟨hT, kf_18⟩ := hp_16
    have F_p9 : h_13 p9 = some (.inr (3, [.ref v_5])) := kf_at kf_18 T_p9 (by decide) (tnc (by decide) tn0) nm0 F_p9
    have hkf : kf τ [(5, f)] [] h h_13 := kf_tr hkf kf_18 (List.forall_mem_cons.mpr ⟨List.mem_cons_self, List.forall_mem_nil _⟩) (List.forall_mem_nil _)
    obtain ⟨j_19, e_20⟩ : ∃ z : Int32, z = i9 + 1 := ⟨_, rfl⟩
    refine lv_iinc (v := j_19) (lv' := [(4, .int j_19), (0, .ref p9), (1, .int a9), (2, .int w9), (3, .int v9)]) hx hb d_Pg_putBoth_45 hl (k := 4) rfl e_20.symm (by decide) rfl (fun ls hl => ?_)
    refine lv_goto (tgt := 3) hx hb d_Pg_putBoth_48 (by decide) ?_
    have is_21 : j_19.toInt = i9.toInt + 1 := by rw [e_20]; exact iAddK 1 rfl (by omega) (by omega)
    exact ih3 (mU j_19) ls _ locs _ (by rw [hk3]; exact mU_lt (by omega)) ⟨j_19, rfl, (lv_sub hl [1, 2, 3, 4, 0] rfl), hH, hz, hLo, hT, hkf, (by omega)⟩

set_option maxHeartbeats 4000000 in
set_option maxRecDepth 100000 in
theorem t_std (l : Launch) (D : va_G) (t : Nat → ClassId) (G : hG) (ak av : Nat → Nat) (h : hM) (τ : tM) (n f : Nat) (p9 : Nat) (b9 : Int32) (hn : n ≤ 200) (hT : TI τ t n h) (T_p9 : τ p9 = (4, f)) : Met l y_Pg_fillWithStandard (.code y_Pg_fillWithStandard b_Pg_fillWithStandard 2 none :: lw_g) { frames := 5, cells := 0, slots := 0, locals := 108 } (hP (kE D t G ak av) D vwCl G h [.ref p9, .int b9]) (hQv D vwCl G (fun h' => TI τ t n h' ∧ kf τ [(5, f)] [] h h')) 0 0 G.P := by
  refine Met.ofW (cc := b_Pg_fillWithStandard) (maxL := 2) (ret := none) (by decide) rfl ?_
  intro p e s m args below meth c s₁ Bd hml hv
  obtain ⟨ha, hE, hH⟩ := hv
  have hx := Bd.exec
  have hb := Bd.bytes
  have hr := Bd.returns
  have hts : ∀ w ∈ lw_g, w.before args s = true := fun w hw => atoms_spec (ws := (.code y_Pg_fillWithStandard b_Pg_fillWithStandard 2 none :: lw_g)) Bd.pre w (List.mem_cons_of_mem _ hw)
  have hown : s.vm.findClass R_Pg = some m.cls := findClass_of_methodNamed Bd.named
  have hlocks := Bd.notSynchronized
  have hK := hE.1
  have hH0 := hH
  have hLo : hLc G.P [] := hLc_nil
  have hz : s.heap.size ≤ s.heap.size := Nat.le_refl _
  have hl := lv_entry [.ref p9, .int b9] (n := 2) (Nat.le_of_ble_eq_true rfl)
  rw [show entryFrame m args 2 = F0 m 0 ((lg_sl [.ref p9, .int b9] ++ List.replicate (2 - (lg_sl [.ref p9, .int b9]).length) Slot.unset).toArray) [] from (by rw [ha]; exact lg_entry_eq m [.ref p9, .int b9] 2)]
  generalize (lg_sl [.ref p9, .int b9] ++ List.replicate (2 - (lg_sl [.ref p9, .int b9]).length) Slot.unset).toArray = ls at hl ⊢
  have hl : lv_has ls 2 [(0, .ref p9), (1, .int b9)] := hl
  have hkf : kf τ [(5, f)] [] h h := kf_rf
  refine lv_aload_n hx hb d_Pg_fillWithStandard_0 rfl (lv_at hl 0 rfl) ?_
  obtain ⟨v_1, F_p9, c_2⟩ := TI_page hT T_p9
  refine hm_callv (va_runV (As := []) (b := p9) (rest := []) ⟨hx, hb, hml, hown, hts⟩ (t_clear l D t G ak av h τ n f p9  hn hT T_p9) ⟨cw9B 0 hts mw_81 mw_82 mw_77 rfl rfl (by decide +kernel) ⟨Nat.le_of_ble_eq_true rfl, Nat.le_of_ble_eq_true rfl⟩, hts _ mw_83, hts _ mw_84⟩ (hP_V (q := (R_Pg, F_Pg, 1)) kE_ok hE hK hH F_p9 rfl) rfl rfl hl.1 rfl (lv_room (Nat.le_of_ble_eq_true rfl)) d_Pg_fillWithStandard_1 ⟨Nat.le_of_ble_eq_true rfl, Nat.le_of_ble_eq_true rfl⟩) hLo (fun h_3 H_4 locs hp_6 hH z_5 hLo => ?_)
  have hz : s.heap.size ≤ H_4.size := Nat.le_trans hz z_5
  have hT0 := hT
  obtain ⟨hT, kf_8⟩ := hp_6
  have F_p9 : h_3 p9 = some (.inr (3, [.ref v_1])) := kf_at kf_8 T_p9 (by decide) (tnc (by decide) tn0) nm0 F_p9
  have hkf : kf τ [(5, f)] [] h h_3 := kf_tr hkf kf_8 (List.forall_mem_cons.mpr ⟨List.mem_cons_self, List.forall_mem_nil _⟩) (List.forall_mem_nil _)
  refine lv_aload_n hx hb d_Pg_fillWithStandard_4 rfl (lv_at hl 0 rfl) ?_
  refine lv_iconst (v := 0) hx hb d_Pg_fillWithStandard_5 (by decide) ?_
  refine lv_iload_n hx hb d_Pg_fillWithStandard_6 rfl (lv_at hl 1 rfl) ?_
  refine hm_callv (va_runV (As := [.int 0, .int b9]) (b := p9) (rest := []) ⟨hx, hb, hml, hown, hts⟩ (t_put l D t G ak av h_3 τ n f p9 0 b9  hn hT T_p9) ⟨cw9B 2 hts mw_76 mw_78 mw_77 rfl rfl (by decide +kernel) ⟨Nat.le_of_ble_eq_true rfl, Nat.le_of_ble_eq_true rfl⟩, hts _ mw_79, hts _ mw_80⟩ (hP_V (q := (R_Pg, F_Pg, 1)) kE_ok hE hK hH F_p9 rfl) rfl rfl hl.1 rfl (lv_room (Nat.le_of_ble_eq_true rfl)) d_Pg_fillWithStandard_7 ⟨Nat.le_of_ble_eq_true rfl, Nat.le_of_ble_eq_true rfl⟩) hLo (fun h_9 H_10 locs hp_12 hH z_11 hLo => ?_)
  have hz : s.heap.size ≤ H_10.size := Nat.le_trans hz z_11
  have hT0 := hT
  obtain ⟨hT, kf_14⟩ := hp_12
  have F_p9 : h_9 p9 = some (.inr (3, [.ref v_1])) := kf_at kf_14 T_p9 (by decide) (tnc (by decide) tn0) nm0 F_p9
  have hkf : kf τ [(5, f)] [] h h_9 := kf_tr hkf kf_14 (List.forall_mem_cons.mpr ⟨List.mem_cons_self, List.forall_mem_nil _⟩) (List.forall_mem_nil _)
  refine lv_aload_n hx hb d_Pg_fillWithStandard_10 rfl (lv_at hl 0 rfl) ?_
  refine lv_iconst (v := 1) hx hb d_Pg_fillWithStandard_11 (by decide) ?_
  refine va_ldcS hx hb hown hE.2.2.2.2.2.1 d_Pg_fillWithStandard_12 ?_
  refine hm_callv (va_runV (As := [.int 1, .ref (ak 0)]) (b := p9) (rest := []) ⟨hx, hb, hml, hown, hts⟩ (t_putText l D t G ak av h_9 τ n f p9 1 0  hn hT T_p9 (by decide)) ⟨cw9B 2 hts mw_85 mw_86 mw_77 rfl rfl (by decide +kernel) ⟨Nat.le_of_ble_eq_true rfl, Nat.le_of_ble_eq_true rfl⟩, hts _ mw_87, hts _ mw_88⟩ (hP_V (q := (R_Pg, F_Pg, 1)) kE_ok hE hK hH F_p9 rfl) rfl rfl hl.1 rfl (lv_room (Nat.le_of_ble_eq_true rfl)) d_Pg_fillWithStandard_14 ⟨Nat.le_of_ble_eq_true rfl, Nat.le_of_ble_eq_true rfl⟩) hLo (fun h_15 H_16 locs hp_18 hH z_17 hLo => ?_)
  have hz : s.heap.size ≤ H_16.size := Nat.le_trans hz z_17
  have hT0 := hT
  obtain ⟨hT, kf_20⟩ := hp_18
  have F_p9 : h_15 p9 = some (.inr (3, [.ref v_1])) := kf_at kf_20 T_p9 (by decide) (tnc (by decide) tn0) nm0 F_p9
  have hkf : kf τ [(5, f)] [] h h_15 := kf_tr hkf kf_20 (List.forall_mem_cons.mpr ⟨List.mem_cons_self, List.forall_mem_nil _⟩) (List.forall_mem_nil _)
  refine lv_aload_n hx hb d_Pg_fillWithStandard_17 rfl (lv_at hl 0 rfl) ?_
  refine lv_bipush (v := 6) hx hb d_Pg_fillWithStandard_18 (by decide) ?_
  refine lv_iconst (v := 1) hx hb d_Pg_fillWithStandard_20 (by decide) ?_
  refine hm_callv (va_runV (As := [.int 6, .int 1]) (b := p9) (rest := []) ⟨hx, hb, hml, hown, hts⟩ (t_put l D t G ak av h_15 τ n f p9 6 1  hn hT T_p9) ⟨cw9B 2 hts mw_76 mw_78 mw_77 rfl rfl (by decide +kernel) ⟨Nat.le_of_ble_eq_true rfl, Nat.le_of_ble_eq_true rfl⟩, hts _ mw_79, hts _ mw_80⟩ (hP_V (q := (R_Pg, F_Pg, 1)) kE_ok hE hK hH F_p9 rfl) rfl rfl hl.1 rfl (lv_room (Nat.le_of_ble_eq_true rfl)) d_Pg_fillWithStandard_21 ⟨Nat.le_of_ble_eq_true rfl, Nat.le_of_ble_eq_true rfl⟩) hLo (fun h_21 H_22 locs hp_24 hH z_23 hLo => ?_)
  have hz : s.heap.size ≤ H_22.size := Nat.le_trans hz z_23
  have hT0 := hT
  obtain ⟨hT, kf_26⟩ := hp_24
  have F_p9 : h_21 p9 = some (.inr (3, [.ref v_1])) := kf_at kf_26 T_p9 (by decide) (tnc (by decide) tn0) nm0 F_p9
  have hkf : kf τ [(5, f)] [] h h_21 := kf_tr hkf kf_26 (List.forall_mem_cons.mpr ⟨List.mem_cons_self, List.forall_mem_nil _⟩) (List.forall_mem_nil _)
  exact W.vret hx hb hr (fun t9 ht hW => ⟨h_21, rfl, ⟨hT, hkf⟩, by rw [ht]; exact hH, by rw [ht]; exact hz⟩) hLo d_Pg_fillWithStandard_24

set_option maxHeartbeats 4000000 in
set_option maxRecDepth 100000 in
theorem t_fmark (l : Launch) (D : va_G) (t : Nat → ClassId) (G : hG) (ak av : Nat → Nat) (h : hM) (τ : tM) (n f : Nat) (p9 : Nat) (b9 : Int32) (c9 : Int32) (hn : n ≤ 200) (hT : TI τ t n h) (T_p9 : τ p9 = (4, f)) : Met l y_Pg_fillWithMark (.code y_Pg_fillWithMark b_Pg_fillWithMark 3 none :: lw_g) { frames := 5, cells := 0, slots := 0, locals := 108 } (hP (kE D t G ak av) D vwCl G h [.ref p9, .int b9, .int c9]) (hQv D vwCl G (fun h' => TI τ t n h' ∧ kf τ [(5, f)] [] h h')) 0 0 G.P := by
  refine Met.ofW (cc := b_Pg_fillWithMark) (maxL := 3) (ret := none) (by decide) rfl ?_
  intro p e s m args below meth c s₁ Bd hml hv
  obtain ⟨ha, hE, hH⟩ := hv
  have hx := Bd.exec
  have hb := Bd.bytes
  have hr := Bd.returns
  have hts : ∀ w ∈ lw_g, w.before args s = true := fun w hw => atoms_spec (ws := (.code y_Pg_fillWithMark b_Pg_fillWithMark 3 none :: lw_g)) Bd.pre w (List.mem_cons_of_mem _ hw)
  have hown : s.vm.findClass R_Pg = some m.cls := findClass_of_methodNamed Bd.named
  have hlocks := Bd.notSynchronized
  have hK := hE.1
  have hH0 := hH
  have hLo : hLc G.P [] := hLc_nil
  have hz : s.heap.size ≤ s.heap.size := Nat.le_refl _
  have hl := lv_entry [.ref p9, .int b9, .int c9] (n := 3) (Nat.le_of_ble_eq_true rfl)
  rw [show entryFrame m args 3 = F0 m 0 ((lg_sl [.ref p9, .int b9, .int c9] ++ List.replicate (3 - (lg_sl [.ref p9, .int b9, .int c9]).length) Slot.unset).toArray) [] from (by rw [ha]; exact lg_entry_eq m [.ref p9, .int b9, .int c9] 3)]
  generalize (lg_sl [.ref p9, .int b9, .int c9] ++ List.replicate (3 - (lg_sl [.ref p9, .int b9, .int c9]).length) Slot.unset).toArray = ls at hl ⊢
  have hl : lv_has ls 3 [(0, .ref p9), (1, .int b9), (2, .int c9)] := hl
  have hkf : kf τ [(5, f)] [] h h := kf_rf
  refine lv_aload_n hx hb d_Pg_fillWithMark_0 rfl (lv_at hl 0 rfl) ?_
  obtain ⟨v_1, F_p9, c_2⟩ := TI_page hT T_p9
  refine hm_callv (va_runV (As := []) (b := p9) (rest := []) ⟨hx, hb, hml, hown, hts⟩ (t_clear l D t G ak av h τ n f p9  hn hT T_p9) ⟨cw9B 0 hts mw_81 mw_82 mw_77 rfl rfl (by decide +kernel) ⟨Nat.le_of_ble_eq_true rfl, Nat.le_of_ble_eq_true rfl⟩, hts _ mw_83, hts _ mw_84⟩ (hP_V (q := (R_Pg, F_Pg, 1)) kE_ok hE hK hH F_p9 rfl) rfl rfl hl.1 rfl (lv_room (Nat.le_of_ble_eq_true rfl)) d_Pg_fillWithMark_1 ⟨Nat.le_of_ble_eq_true rfl, Nat.le_of_ble_eq_true rfl⟩) hLo (fun h_3 H_4 locs hp_6 hH z_5 hLo => ?_)
  have hz : s.heap.size ≤ H_4.size := Nat.le_trans hz z_5
  have hT0 := hT
  obtain ⟨hT, kf_8⟩ := hp_6
  have F_p9 : h_3 p9 = some (.inr (3, [.ref v_1])) := kf_at kf_8 T_p9 (by decide) (tnc (by decide) tn0) nm0 F_p9
  have hkf : kf τ [(5, f)] [] h h_3 := kf_tr hkf kf_8 (List.forall_mem_cons.mpr ⟨List.mem_cons_self, List.forall_mem_nil _⟩) (List.forall_mem_nil _)
  refine lv_aload_n hx hb d_Pg_fillWithMark_4 rfl (lv_at hl 0 rfl) ?_
  refine lv_iconst (v := 0) hx hb d_Pg_fillWithMark_5 (by decide) ?_
  refine va_ldcS hx hb hown hE.2.2.2.2.2.2.1 d_Pg_fillWithMark_6 ?_
  refine hm_callv (va_runV (As := [.int 0, .ref (ak 1)]) (b := p9) (rest := []) ⟨hx, hb, hml, hown, hts⟩ (t_putText l D t G ak av h_3 τ n f p9 0 1  hn hT T_p9 (by decide)) ⟨cw9B 2 hts mw_85 mw_86 mw_77 rfl rfl (by decide +kernel) ⟨Nat.le_of_ble_eq_true rfl, Nat.le_of_ble_eq_true rfl⟩, hts _ mw_87, hts _ mw_88⟩ (hP_V (q := (R_Pg, F_Pg, 1)) kE_ok hE hK hH F_p9 rfl) rfl rfl hl.1 rfl (lv_room (Nat.le_of_ble_eq_true rfl)) d_Pg_fillWithMark_8 ⟨Nat.le_of_ble_eq_true rfl, Nat.le_of_ble_eq_true rfl⟩) hLo (fun h_9 H_10 locs hp_12 hH z_11 hLo => ?_)
  have hz : s.heap.size ≤ H_10.size := Nat.le_trans hz z_11
  have hT0 := hT
  obtain ⟨hT, kf_14⟩ := hp_12
  have F_p9 : h_9 p9 = some (.inr (3, [.ref v_1])) := kf_at kf_14 T_p9 (by decide) (tnc (by decide) tn0) nm0 F_p9
  have hkf : kf τ [(5, f)] [] h h_9 := kf_tr hkf kf_14 (List.forall_mem_cons.mpr ⟨List.mem_cons_self, List.forall_mem_nil _⟩) (List.forall_mem_nil _)
  refine lv_aload_n hx hb d_Pg_fillWithMark_11 rfl (lv_at hl 0 rfl) ?_
  refine lv_iconst (v := 4) hx hb d_Pg_fillWithMark_12 (by decide) ?_
  refine lv_iconst (v := 4) hx hb d_Pg_fillWithMark_13 (by decide) ?_
  refine lv_iload_n hx hb d_Pg_fillWithMark_14 rfl (lv_at hl 1 rfl) ?_
  refine hm_callv (va_runV (As := [.int 4, .int 4, .int b9]) (b := p9) (rest := []) ⟨hx, hb, hml, hown, hts⟩ (t_putLow l D t G ak av h_9 τ n f p9 4 4 b9  hn hT T_p9) ⟨cw9B 3 hts mw_89 mw_90 mw_77 rfl rfl (by decide +kernel) ⟨Nat.le_of_ble_eq_true rfl, Nat.le_of_ble_eq_true rfl⟩, hts _ mw_91, hts _ mw_92⟩ (hP_V (q := (R_Pg, F_Pg, 1)) kE_ok hE hK hH F_p9 rfl) rfl rfl hl.1 rfl (lv_room (Nat.le_of_ble_eq_true rfl)) d_Pg_fillWithMark_15 ⟨Nat.le_of_ble_eq_true rfl, Nat.le_of_ble_eq_true rfl⟩) hLo (fun h_15 H_16 locs hp_18 hH z_17 hLo => ?_)
  have hz : s.heap.size ≤ H_16.size := Nat.le_trans hz z_17
  have hT0 := hT
  obtain ⟨hT, kf_20⟩ := hp_18
  have F_p9 : h_15 p9 = some (.inr (3, [.ref v_1])) := kf_at kf_20 T_p9 (by decide) (tnc (by decide) tn0) nm0 F_p9
  have hkf : kf τ [(5, f)] [] h h_15 := kf_tr hkf kf_20 (List.forall_mem_cons.mpr ⟨List.mem_cons_self, List.forall_mem_nil _⟩) (List.forall_mem_nil _)
  refine lv_aload_n hx hb d_Pg_fillWithMark_18 rfl (lv_at hl 0 rfl) ?_
  refine lv_bipush (v := 8) hx hb d_Pg_fillWithMark_19 (by decide) ?_
  refine lv_iconst (v := 4) hx hb d_Pg_fillWithMark_21 (by decide) ?_
  refine lv_iload_n hx hb d_Pg_fillWithMark_22 rfl (lv_at hl 2 rfl) ?_
  refine hm_callv (va_runV (As := [.int 8, .int 4, .int c9]) (b := p9) (rest := []) ⟨hx, hb, hml, hown, hts⟩ (t_putLow l D t G ak av h_15 τ n f p9 8 4 c9  hn hT T_p9) ⟨cw9B 3 hts mw_89 mw_90 mw_77 rfl rfl (by decide +kernel) ⟨Nat.le_of_ble_eq_true rfl, Nat.le_of_ble_eq_true rfl⟩, hts _ mw_91, hts _ mw_92⟩ (hP_V (q := (R_Pg, F_Pg, 1)) kE_ok hE hK hH F_p9 rfl) rfl rfl hl.1 rfl (lv_room (Nat.le_of_ble_eq_true rfl)) d_Pg_fillWithMark_23 ⟨Nat.le_of_ble_eq_true rfl, Nat.le_of_ble_eq_true rfl⟩) hLo (fun h_21 H_22 locs hp_24 hH z_23 hLo => ?_)
  have hz : s.heap.size ≤ H_22.size := Nat.le_trans hz z_23
  have hT0 := hT
  obtain ⟨hT, kf_26⟩ := hp_24
  have F_p9 : h_21 p9 = some (.inr (3, [.ref v_1])) := kf_at kf_26 T_p9 (by decide) (tnc (by decide) tn0) nm0 F_p9
  have hkf : kf τ [(5, f)] [] h h_21 := kf_tr hkf kf_26 (List.forall_mem_cons.mpr ⟨List.mem_cons_self, List.forall_mem_nil _⟩) (List.forall_mem_nil _)
  exact W.vret hx hb hr (fun t9 ht hW => ⟨h_21, rfl, ⟨hT, hkf⟩, by rw [ht]; exact hH, by rw [ht]; exact hz⟩) hLo d_Pg_fillWithMark_26
