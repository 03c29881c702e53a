set_option maxRecDepth 100000 in
theorem mw_69 : Cond.fieldLink R_Pg 9 "WriteOnceDisc$Page" "bytes" "[B" ∈ lw_g := lw_gin (List.mem_append_right _ (List.mem_of_getElem? (i := 61) rfl)) (by decide +kernel)
set_option maxRecDepth 100000 in
theorem mw_70 : Cond.code y_Ar_fill b_Ar_fill 4 none ∈ lw_g := lw_gin (List.mem_append_right _ (List.mem_of_getElem? (i := 406) rfl)) (by decide +kernel)
set_option maxRecDepth 100000 in
theorem mw_71 : Cond.initialized R_Ar ∈ lw_g := lw_gin (List.mem_append_right _ (List.mem_of_getElem? (i := 12) rfl)) (by decide +kernel)
set_option maxRecDepth 100000 in
theorem mw_72 : Cond.methodLink R_Pg 15 y_Ar_fill ∈ lw_g := lw_gin (List.mem_append_right _ (List.mem_of_getElem? (i := 404) rfl)) (by decide +kernel)
set_option maxRecDepth 100000 in
theorem mw_73 : Cond.static y_Ar_fill ∈ lw_g := lw_gin (List.mem_append_right _ (List.mem_of_getElem? (i := 405) rfl)) (by decide +kernel)
set_option maxRecDepth 100000 in
theorem mw_74 : Cond.methodLink R_Pg 21 y_St_length ∈ lw_g := lw_gin (List.mem_append_right _ (List.mem_of_getElem? (i := 567) rfl)) (by decide +kernel)
set_option maxRecDepth 100000 in
theorem mw_75 : Cond.methodLink R_Pg 27 y_St_charAt ∈ lw_g := lw_gin (List.mem_append_right _ (List.mem_of_getElem? (i := 568) rfl)) (by decide +kernel)
set_option maxRecDepth 100000 in
theorem mw_76 : Cond.code y_Pg_put b_Pg_put 3 none ∈ lw_g := lw_gin (List.mem_append_right _ (List.mem_of_getElem? (i := 428) rfl)) (by decide +kernel)
set_option maxRecDepth 100000 in
theorem mw_77 : Cond.initialized R_Pg ∈ lw_g := lw_gin (List.mem_append_right _ (List.mem_of_getElem? (i := 4) rfl)) (by decide +kernel)
set_option maxRecDepth 100000 in
theorem mw_78 : Cond.methodLink R_Pg 31 y_Pg_put ∈ lw_g := lw_gin (List.mem_append_right _ (List.mem_of_getElem? (i := 425) rfl)) (by decide +kernel)
set_option maxRecDepth 100000 in
theorem mw_79 : Cond.instanceMethod y_Pg_put ∈ lw_g := lw_gin (List.mem_append_right _ (List.mem_of_getElem? (i := 426) rfl)) (by decide +kernel)
set_option maxRecDepth 100000 in
theorem mw_80 : Cond.selects R_Pg y_Pg_put y_Pg_put ∈ lw_g := lw_gin (List.mem_append_right _ (List.mem_of_getElem? (i := 427) rfl)) (by decide +kernel)
set_option maxRecDepth 100000 in
theorem mw_81 : Cond.code y_Pg_clear b_Pg_clear 1 none ∈ lw_g := lw_gin (List.mem_append_right _ (List.mem_of_getElem? (i := 403) rfl)) (by decide +kernel)
set_option maxRecDepth 100000 in
theorem mw_82 : Cond.methodLink R_Pg 35 y_Pg_clear ∈ lw_g := lw_gin (List.mem_append_right _ (List.mem_of_getElem? (i := 400) rfl)) (by decide +kernel)
set_option maxRecDepth 100000 in
theorem mw_83 : Cond.instanceMethod y_Pg_clear ∈ lw_g := lw_gin (List.mem_append_right _ (List.mem_of_getElem? (i := 401) rfl)) (by decide +kernel)
set_option maxRecDepth 100000 in
theorem mw_84 : Cond.selects R_Pg y_Pg_clear y_Pg_clear ∈ lw_g := lw_gin (List.mem_append_right _ (List.mem_of_getElem? (i := 402) rfl)) (by decide +kernel)
set_option maxRecDepth 100000 in
theorem mw_85 : Cond.code y_Pg_putText b_Pg_putText 4 none ∈ lw_g := lw_gin (List.mem_append_right _ (List.mem_of_getElem? (i := 566) rfl)) (by decide +kernel)
set_option maxRecDepth 100000 in
theorem mw_86 : Cond.methodLink R_Pg 40 y_Pg_putText ∈ lw_g := lw_gin (List.mem_append_right _ (List.mem_of_getElem? (i := 563) rfl)) (by decide +kernel)
set_option maxRecDepth 100000 in
theorem mw_87 : Cond.instanceMethod y_Pg_putText ∈ lw_g := lw_gin (List.mem_append_right _ (List.mem_of_getElem? (i := 564) rfl)) (by decide +kernel)
set_option maxRecDepth 100000 in
theorem mw_88 : Cond.selects R_Pg y_Pg_putText y_Pg_putText ∈ lw_g := lw_gin (List.mem_append_right _ (List.mem_of_getElem? (i := 565) rfl)) (by decide +kernel)
set_option maxRecDepth 100000 in
theorem mw_89 : Cond.code y_Pg_putLow b_Pg_putLow 5 none ∈ lw_g := lw_gin (List.mem_append_right _ (List.mem_of_getElem? (i := 540) rfl)) (by decide +kernel)
set_option maxRecDepth 100000 in
theorem mw_90 : Cond.methodLink R_Pg 46 y_Pg_putLow ∈ lw_g := lw_gin (List.mem_append_right _ (List.mem_of_getElem? (i := 537) rfl)) (by decide +kernel)
set_option maxRecDepth 100000 in
theorem mw_91 : Cond.instanceMethod y_Pg_putLow ∈ lw_g := lw_gin (List.mem_append_right _ (List.mem_of_getElem? (i := 538) rfl)) (by decide +kernel)
set_option maxRecDepth 100000 in
theorem mw_92 : Cond.selects R_Pg y_Pg_putLow y_Pg_putLow ∈ lw_g := lw_gin (List.mem_append_right _ (List.mem_of_getElem? (i := 539) rfl)) (by decide +kernel)
theorem d_Pg_clear_0 : decode b_Pg_clear 0 = .ok (.aload_n 0, 1) := by decide +kernel
theorem d_Pg_clear_1 : decode b_Pg_clear 1 = .ok (.getfield 9, 3) := by decide +kernel
theorem d_Pg_clear_4 : decode b_Pg_clear 4 = .ok (.iconst 0, 1) := by decide +kernel
theorem d_Pg_clear_5 : decode b_Pg_clear 5 = .ok (.invokestatic 15, 3) := by decide +kernel
theorem d_Pg_clear_8 : decode b_Pg_clear 8 = .ok (.return_, 1) := by decide +kernel
theorem d_Pg_put_0 : decode b_Pg_put 0 = .ok (.iload_n 1, 1) := by decide +kernel
theorem d_Pg_put_1 : decode b_Pg_put 1 = .ok (.ifCond .lt 20, 3) := by decide +kernel
theorem d_Pg_put_21 : decode b_Pg_put 21 = .ok (.return_, 1) := by decide +kernel
theorem d_Pg_put_4 : decode b_Pg_put 4 = .ok (.iload_n 1, 1) := by decide +kernel
theorem d_Pg_put_5 : decode b_Pg_put 5 = .ok (.aload_n 0, 1) := by decide +kernel
theorem d_Pg_put_6 : decode b_Pg_put 6 = .ok (.getfield 9, 3) := by decide +kernel
theorem d_Pg_put_9 : decode b_Pg_put 9 = .ok (.arraylength, 1) := by decide +kernel
theorem d_Pg_put_10 : decode b_Pg_put 10 = .ok (.if_icmp .ge 11, 3) := by decide +kernel
theorem d_Pg_put_13 : decode b_Pg_put 13 = .ok (.aload_n 0, 1) := by decide +kernel
theorem d_Pg_put_14 : decode b_Pg_put 14 = .ok (.getfield 9, 3) := by decide +kernel
theorem d_Pg_put_17 : decode b_Pg_put 17 = .ok (.iload_n 1, 1) := by decide +kernel
theorem d_Pg_put_18 : decode b_Pg_put 18 = .ok (.iload_n 2, 1) := by decide +kernel
theorem d_Pg_put_19 : decode b_Pg_put 19 = .ok (.i2b, 1) := by decide +kernel
theorem d_Pg_put_20 : decode b_Pg_put 20 = .ok (.bastore, 1) := by decide +kernel
theorem d_Pg_putText_0 : decode b_Pg_putText 0 = .ok (.iconst 0, 1) := by decide +kernel
theorem d_Pg_putText_1 : decode b_Pg_putText 1 = .ok (.istore_n 3, 1) := by decide +kernel
theorem d_Pg_putText_2 : decode b_Pg_putText 2 = .ok (.iload_n 3, 1) := by decide +kernel
theorem d_Pg_putText_3 : decode b_Pg_putText 3 = .ok (.aload_n 2, 1) := by decide +kernel
theorem d_Pg_putText_4 : decode b_Pg_putText 4 = .ok (.invokevirtual 21, 3) := by decide +kernel
theorem d_Pg_putText_7 : decode b_Pg_putText 7 = .ok (.if_icmp .ge 21, 3) := by decide +kernel
theorem d_Pg_putText_28 : decode b_Pg_putText 28 = .ok (.return_, 1) := by decide +kernel
theorem d_Pg_putText_10 : decode b_Pg_putText 10 = .ok (.aload_n 0, 1) := by decide +kernel
theorem d_Pg_putText_11 : decode b_Pg_putText 11 = .ok (.iload_n 1, 1) := by decide +kernel
theorem d_Pg_putText_12 : decode b_Pg_putText 12 = .ok (.iload_n 3, 1) := by decide +kernel
theorem d_Pg_putText_13 : decode b_Pg_putText 13 = .ok (.iadd, 1) := by decide +kernel
theorem d_Pg_putText_14 : decode b_Pg_putText 14 = .ok (.aload_n 2, 1) := by decide +kernel
theorem d_Pg_putText_15 : decode b_Pg_putText 15 = .ok (.iload_n 3, 1) := by decide +kernel
theorem d_Pg_putText_16 : decode b_Pg_putText 16 = .ok (.invokevirtual 27, 3) := by decide +kernel
theorem d_Pg_putText_19 : decode b_Pg_putText 19 = .ok (.invokevirtual 31, 3) := by decide +kernel
theorem d_Pg_putText_22 : decode b_Pg_putText 22 = .ok (.iinc 3 1, 3) := by decide +kernel
theorem d_Pg_putText_25 : decode b_Pg_putText 25 = .ok (.goto (-23), 3) := by decide +kernel
theorem d_Pg_putLow_0 : decode b_Pg_putLow 0 = .ok (.iconst 0, 1) := by decide +kernel
theorem d_Pg_putLow_1 : decode b_Pg_putLow 1 = .ok (.istore 4, 2) := by decide +kernel
theorem d_Pg_putLow_3 : decode b_Pg_putLow 3 = .ok (.iload 4, 2) := by decide +kernel
theorem d_Pg_putLow_5 : decode b_Pg_putLow 5 = .ok (.iload_n 2, 1) := by decide +kernel
theorem d_Pg_putLow_6 : decode b_Pg_putLow 6 = .ok (.if_icmp .ge 24, 3) := by decide +kernel
theorem d_Pg_putLow_30 : decode b_Pg_putLow 30 = .ok (.return_, 1) := by decide +kernel
theorem d_Pg_putLow_9 : decode b_Pg_putLow 9 = .ok (.aload_n 0, 1) := by decide +kernel
theorem d_Pg_putLow_10 : decode b_Pg_putLow 10 = .ok (.iload_n 1, 1) := by decide +kernel
theorem d_Pg_putLow_11 : decode b_Pg_putLow 11 = .ok (.iload 4, 2) := by decide +kernel
theorem d_Pg_putLow_13 : decode b_Pg_putLow 13 = .ok (.iadd, 1) := by decide +kernel
theorem d_Pg_putLow_14 : decode b_Pg_putLow 14 = .ok (.iload_n 3, 1) := by decide +kernel
theorem d_Pg_putLow_15 : decode b_Pg_putLow 15 = .ok (.bipush 8, 2) := by decide +kernel
theorem d_Pg_putLow_17 : decode b_Pg_putLow 17 = .ok (.iload 4, 2) := by decide +kernel
theorem d_Pg_putLow_19 : decode b_Pg_putLow 19 = .ok (.imul, 1) := by decide +kernel
theorem d_Pg_putLow_20 : decode b_Pg_putLow 20 = .ok (.ishr, 1) := by decide +kernel
theorem d_Pg_putLow_21 : decode b_Pg_putLow 21 = .ok (.invokevirtual 31, 3) := by decide +kernel
theorem d_Pg_putLow_24 : decode b_Pg_putLow 24 = .ok (.iinc 4 1, 3) := by decide +kernel
theorem d_Pg_putLow_27 : decode b_Pg_putLow 27 = .ok (.goto (-24), 3) := by decide +kernel
theorem d_Pg_putHigh_0 : decode b_Pg_putHigh 0 = .ok (.iconst 0, 1) := by decide +kernel
theorem d_Pg_putHigh_1 : decode b_Pg_putHigh 1 = .ok (.istore 4, 2) := by decide +kernel
theorem d_Pg_putHigh_3 : decode b_Pg_putHigh 3 = .ok (.iload 4, 2) := by decide +kernel
theorem d_Pg_putHigh_5 : decode b_Pg_putHigh 5 = .ok (.iload_n 2, 1) := by decide +kernel
theorem d_Pg_putHigh_6 : decode b_Pg_putHigh 6 = .ok (.if_icmp .ge 28, 3) := by decide +kernel
theorem d_Pg_putHigh_34 : decode b_Pg_putHigh 34 = .ok (.return_, 1) := by decide +kernel
theorem d_Pg_putHigh_9 : decode b_Pg_putHigh 9 = .ok (.aload_n 0, 1) := by decide +kernel
theorem d_Pg_putHigh_10 : decode b_Pg_putHigh 10 = .ok (.iload_n 1, 1) := by decide +kernel
theorem d_Pg_putHigh_11 : decode b_Pg_putHigh 11 = .ok (.iload_n 2, 1) := by decide +kernel
theorem d_Pg_putHigh_12 : decode b_Pg_putHigh 12 = .ok (.iadd, 1) := by decide +kernel
theorem d_Pg_putHigh_13 : decode b_Pg_putHigh 13 = .ok (.iconst 1, 1) := by decide +kernel
theorem d_Pg_putHigh_14 : decode b_Pg_putHigh 14 = .ok (.isub, 1) := by decide +kernel
theorem d_Pg_putHigh_15 : decode b_Pg_putHigh 15 = .ok (.iload 4, 2) := by decide +kernel
theorem d_Pg_putHigh_17 : decode b_Pg_putHigh 17 = .ok (.isub, 1) := by decide +kernel
theorem d_Pg_putHigh_18 : decode b_Pg_putHigh 18 = .ok (.iload_n 3, 1) := by decide +kernel
theorem d_Pg_putHigh_19 : decode b_Pg_putHigh 19 = .ok (.bipush 8, 2) := by decide +kernel
theorem d_Pg_putHigh_21 : decode b_Pg_putHigh 21 = .ok (.iload 4, 2) := by decide +kernel
theorem d_Pg_putHigh_23 : decode b_Pg_putHigh 23 = .ok (.imul, 1) := by decide +kernel
theorem d_Pg_putHigh_24 : decode b_Pg_putHigh 24 = .ok (.ishr, 1) := by decide +kernel
theorem d_Pg_putHigh_25 : decode b_Pg_putHigh 25 = .ok (.invokevirtual 31, 3) := by decide +kernel
theorem d_Pg_putHigh_28 : decode b_Pg_putHigh 28 = .ok (.iinc 4 1, 3) := by decide +kernel
theorem d_Pg_putHigh_31 : decode b_Pg_putHigh 31 = .ok (.goto (-28), 3) := by decide +kernel
theorem d_Pg_putBoth_0 : decode b_Pg_putBoth 0 = .ok (.iconst 0, 1) := by decide +kernel
theorem d_Pg_putBoth_1 : decode b_Pg_putBoth 1 = .ok (.istore 4, 2) := by decide +kernel
theorem d_Pg_putBoth_3 : decode b_Pg_putBoth 3 = .ok (.iload 4, 2) := by decide +kernel
theorem d_Pg_putBoth_5 : decode b_Pg_putBoth 5 = .ok (.iload_n 2, 1) := by decide +kernel
theorem d_Pg_putBoth_6 : decode b_Pg_putBoth 6 = .ok (.if_icmp .ge 45, 3) := by decide +kernel
theorem d_Pg_putBoth_51 : decode b_Pg_putBoth 51 = .ok (.return_, 1) := by decide +kernel
theorem d_Pg_putBoth_9 : decode b_Pg_putBoth 9 = .ok (.aload_n 0, 1) := by decide +kernel
theorem d_Pg_putBoth_10 : decode b_Pg_putBoth 10 = .ok (.iload_n 1, 1) := by decide +kernel
theorem d_Pg_putBoth_11 : decode b_Pg_putBoth 11 = .ok (.iload 4, 2) := by decide +kernel
theorem d_Pg_putBoth_13 : decode b_Pg_putBoth 13 = .ok (.iadd, 1) := by decide +kernel
theorem d_Pg_putBoth_14 : decode b_Pg_putBoth 14 = .ok (.iload_n 3, 1) := by decide +kernel
theorem d_Pg_putBoth_15 : decode b_Pg_putBoth 15 = .ok (.bipush 8, 2) := by decide +kernel
theorem d_Pg_putBoth_17 : decode b_Pg_putBoth 17 = .ok (.iload 4, 2) := by decide +kernel
theorem d_Pg_putBoth_19 : decode b_Pg_putBoth 19 = .ok (.imul, 1) := by decide +kernel
theorem d_Pg_putBoth_20 : decode b_Pg_putBoth 20 = .ok (.ishr, 1) := by decide +kernel
theorem d_Pg_putBoth_21 : decode b_Pg_putBoth 21 = .ok (.invokevirtual 31, 3) := by decide +kernel
theorem d_Pg_putBoth_24 : decode b_Pg_putBoth 24 = .ok (.aload_n 0, 1) := by decide +kernel
theorem d_Pg_putBoth_25 : decode b_Pg_putBoth 25 = .ok (.iload_n 1, 1) := by decide +kernel
theorem d_Pg_putBoth_26 : decode b_Pg_putBoth 26 = .ok (.iconst 2, 1) := by decide +kernel
theorem d_Pg_putBoth_27 : decode b_Pg_putBoth 27 = .ok (.iload_n 2, 1) := by decide +kernel
theorem d_Pg_putBoth_28 : decode b_Pg_putBoth 28 = .ok (.imul, 1) := by decide +kernel
theorem d_Pg_putBoth_29 : decode b_Pg_putBoth 29 = .ok (.iadd, 1) := by decide +kernel
theorem d_Pg_putBoth_30 : decode b_Pg_putBoth 30 = .ok (.iconst 1, 1) := by decide +kernel
theorem d_Pg_putBoth_31 : decode b_Pg_putBoth 31 = .ok (.isub, 1) := by decide +kernel
theorem d_Pg_putBoth_32 : decode b_Pg_putBoth 32 = .ok (.iload 4, 2) := by decide +kernel
theorem d_Pg_putBoth_34 : decode b_Pg_putBoth 34 = .ok (.isub, 1) := by decide +kernel
theorem d_Pg_putBoth_35 : decode b_Pg_putBoth 35 = .ok (.iload_n 3, 1) := by decide +kernel
theorem d_Pg_putBoth_36 : decode b_Pg_putBoth 36 = .ok (.bipush 8, 2) := by decide +kernel
theorem d_Pg_putBoth_38 : decode b_Pg_putBoth 38 = .ok (.iload 4, 2) := by decide +kernel
theorem d_Pg_putBoth_40 : decode b_Pg_putBoth 40 = .ok (.imul, 1) := by decide +kernel
theorem d_Pg_putBoth_41 : decode b_Pg_putBoth 41 = .ok (.ishr, 1) := by decide +kernel
theorem d_Pg_putBoth_42 : decode b_Pg_putBoth 42 = .ok (.invokevirtual 31, 3) := by decide +kernel
theorem d_Pg_putBoth_45 : decode b_Pg_putBoth 45 = .ok (.iinc 4 1, 3) := by decide +kernel
theorem d_Pg_putBoth_48 : decode b_Pg_putBoth 48 = .ok (.goto (-45), 3) := by decide +kernel
theorem d_Pg_fillWithStandard_0 : decode b_Pg_fillWithStandard 0 = .ok (.aload_n 0, 1) := by decide +kernel
theorem d_Pg_fillWithStandard_1 : decode b_Pg_fillWithStandard 1 = .ok (.invokevirtual 35, 3) := by decide +kernel
theorem d_Pg_fillWithStandard_4 : decode b_Pg_fillWithStandard 4 = .ok (.aload_n 0, 1) := by decide +kernel
theorem d_Pg_fillWithStandard_5 : decode b_Pg_fillWithStandard 5 = .ok (.iconst 0, 1) := by decide +kernel
theorem d_Pg_fillWithStandard_6 : decode b_Pg_fillWithStandard 6 = .ok (.iload_n 1, 1) := by decide +kernel
theorem d_Pg_fillWithStandard_7 : decode b_Pg_fillWithStandard 7 = .ok (.invokevirtual 31, 3) := by decide +kernel
theorem d_Pg_fillWithStandard_10 : decode b_Pg_fillWithStandard 10 = .ok (.aload_n 0, 1) := by decide +kernel
theorem d_Pg_fillWithStandard_11 : decode b_Pg_fillWithStandard 11 = .ok (.iconst 1, 1) := by decide +kernel
theorem d_Pg_fillWithStandard_12 : decode b_Pg_fillWithStandard 12 = .ok (.ldc 38, 2) := by decide +kernel
theorem d_Pg_fillWithStandard_14 : decode b_Pg_fillWithStandard 14 = .ok (.invokevirtual 40, 3) := by decide +kernel
theorem d_Pg_fillWithStandard_17 : decode b_Pg_fillWithStandard 17 = .ok (.aload_n 0, 1) := by decide +kernel
theorem d_Pg_fillWithStandard_18 : decode b_Pg_fillWithStandard 18 = .ok (.bipush 6, 2) := by decide +kernel
theorem d_Pg_fillWithStandard_20 : decode b_Pg_fillWithStandard 20 = .ok (.iconst 1, 1) := by decide +kernel
theorem d_Pg_fillWithStandard_21 : decode b_Pg_fillWithStandard 21 = .ok (.invokevirtual 31, 3) := by decide +kernel
theorem d_Pg_fillWithStandard_24 : decode b_Pg_fillWithStandard 24 = .ok (.return_, 1) := by decide +kernel
theorem d_Pg_fillWithMark_0 : decode b_Pg_fillWithMark 0 = .ok (.aload_n 0, 1) := by decide +kernel
theorem d_Pg_fillWithMark_1 : decode b_Pg_fillWithMark 1 = .ok (.invokevirtual 35, 3) := by decide +kernel
theorem d_Pg_fillWithMark_4 : decode b_Pg_fillWithMark 4 = .ok (.aload_n 0, 1) := by decide +kernel
theorem d_Pg_fillWithMark_5 : decode b_Pg_fillWithMark 5 = .ok (.iconst 0, 1) := by decide +kernel
theorem d_Pg_fillWithMark_6 : decode b_Pg_fillWithMark 6 = .ok (.ldc 44, 2) := by decide +kernel
theorem d_Pg_fillWithMark_8 : decode b_Pg_fillWithMark 8 = .ok (.invokevirtual 40, 3) := by decide +kernel
theorem d_Pg_fillWithMark_11 : decode b_Pg_fillWithMark 11 = .ok (.aload_n 0, 1) := by decide +kernel
theorem d_Pg_fillWithMark_12 : decode b_Pg_fillWithMark 12 = .ok (.iconst 4, 1) := by decide +kernel
theorem d_Pg_fillWithMark_13 : decode b_Pg_fillWithMark 13 = .ok (.iconst 4, 1) := by decide +kernel
theorem d_Pg_fillWithMark_14 : decode b_Pg_fillWithMark 14 = .ok (.iload_n 1, 1) := by decide +kernel
theorem d_Pg_fillWithMark_15 : decode b_Pg_fillWithMark 15 = .ok (.invokevirtual 46, 3) := by decide +kernel
theorem d_Pg_fillWithMark_18 : decode b_Pg_fillWithMark 18 = .ok (.aload_n 0, 1) := by decide +kernel
theorem d_Pg_fillWithMark_19 : decode b_Pg_fillWithMark 19 = .ok (.bipush 8, 2) := by decide +kernel
theorem d_Pg_fillWithMark_21 : decode b_Pg_fillWithMark 21 = .ok (.iconst 4, 1) := by decide +kernel
theorem d_Pg_fillWithMark_22 : decode b_Pg_fillWithMark 22 = .ok (.iload_n 2, 1) := by decide +kernel
theorem d_Pg_fillWithMark_23 : decode b_Pg_fillWithMark 23 = .ok (.invokevirtual 46, 3) := by decide +kernel
theorem d_Pg_fillWithMark_26 : decode b_Pg_fillWithMark 26 = .ok (.return_, 1) := by decide +kernel
set_option maxHeartbeats 4000000 in
set_option maxRecDepth 100000 in
theorem t_clear (l : Launch) (D : va_G) (t : Nat → ClassId) (G : hG) (ak av : Nat → Nat) (h : hM) (τ : tM) (n f : Nat) (p9 : Nat) (hn : n ≤ 200) (hT : TI τ t n h) (T_p9 : τ p9 = (4, f)) : Met l y_Pg_clear (.code y_Pg_clear b_Pg_clear 1 none :: lw_g) { frames := 1, cells := 0, slots := 0, locals := 23 } (hP (kE D t G ak av) D vwCl G h [.ref p9]) (hQv D vwCl G (fun h' => TI τ t n h' ∧ kf τ [(5, f)] [] h h')) 0 0 G.P := by
  refine Met.ofW (cc := b_Pg_clear) (maxL := 1) (ret := none) (by decide) rfl ?_
  intro p e s m args below meth c s₁ Bd hml hv
  obtain ⟨ha, hE, hH⟩ := hv
  have hx := Bd.exec
  have hb := Bd.bytes
  have hr := Bd.returns
  have hts : ∀ w ∈ lw_g, w.before args s = true := fun w hw => atoms_spec (ws := (.code y_Pg_clear b_Pg_clear 1 none :: lw_g)) Bd.pre w (List.mem_cons_of_mem _ hw)
  have hown : s.vm.findClass R_Pg = some m.cls := findClass_of_methodNamed Bd.named
  have hlocks := Bd.notSynchronized
  have hK := hE.1
  have hH0 := hH
  have hLo : hLc G.P [] := hLc_nil
  have hz : s.heap.size ≤ s.heap.size := Nat.le_refl _
  have hl := lv_entry [.ref p9] (n := 1) (Nat.le_of_ble_eq_true rfl)
  rw [show entryFrame m args 1 = F0 m 0 ((lg_sl [.ref p9] ++ List.replicate (1 - (lg_sl [.ref p9]).length) Slot.unset).toArray) [] from (by rw [ha]; exact lg_entry_eq m [.ref p9] 1)]
  generalize (lg_sl [.ref p9] ++ List.replicate (1 - (lg_sl [.ref p9]).length) Slot.unset).toArray = ls at hl ⊢
  have hl : lv_has ls 1 [(0, .ref p9)] := hl
  have hkf : kf τ [(5, f)] [] h h := kf_rf
  refine lv_aload_n hx hb d_Pg_clear_0 rfl (lv_at hl 0 rfl) ?_
  obtain ⟨v1, F_p9, c2⟩ := TI_page hT T_p9
  refine hm_get (ci := 3) (v := .ref v1) (C := R_Pg) (T := F_Pg) (N := 1) hx hb hts ig_Pg hown hK hH F_p9 rfl 0 (by decide) (hts _ mw_69) (fun _ h9 => h9) rfl d_Pg_clear_1 ?_
  refine lv_iconst (v := 0) hx hb d_Pg_clear_4 (by decide) ?_
  obtain ⟨g3, F_v1, c4⟩ := TI_byts hT c2
  refine hm_callv (va_runS (As := [.ref v1, .int 0]) (rest := []) ⟨hx, hb, hml, hown, hts⟩ (c_Ar_fill l D t G ak av h v1 (pgn f) ⟨g3, c4, F_v1⟩ (pgn_lt _)) ⟨cw9B 2 hts mw_70 mw_72 mw_71 rfl rfl (by decide +kernel) ⟨Nat.le_of_ble_eq_true rfl, Nat.le_of_ble_eq_true rfl⟩, hts _ mw_73⟩ (hP_S kE_ok hE hH) rfl rfl hl.1 rfl (lv_room (Nat.le_of_ble_eq_true rfl)) d_Pg_clear_5 ⟨Nat.le_of_ble_eq_true rfl, Nat.le_of_ble_eq_true rfl⟩) hLo (fun h5 H6 locs hp8 hH z7 hLo => ?_)
  have hz : s.heap.size ≤ H6.size := Nat.le_trans hz z7
  obtain ⟨hk9, hpg9⟩ := hp8
  have kf9 : kf τ [(5, f)] [] h h5 := kf_kp hT hk9 c2
  have hT : TI τ t n h5 := TI_kp hT hk9 c2 hpg9
  have F_p9 : h5 p9 = some (.inr (3, [.ref v1])) := kf_at kf9 T_p9 (by decide) (tnc (by decide) tn0) nm0 F_p9
  have hkf : kf τ [(5, f)] [] h h5 := kf_tr hkf kf9 (List.forall_mem_cons.mpr ⟨List.mem_cons_self, List.forall_mem_nil _⟩) (List.forall_mem_nil _)
  exact W.vret hx hb hr (fun t9 ht hW => ⟨h5, rfl, ⟨hT, hkf⟩, by rw [ht]; exact hH, by rw [ht]; exact hz⟩) hLo d_Pg_clear_8

set_option maxHeartbeats 4000000 in
set_option maxRecDepth 100000 in
theorem t_put (l : Launch) (D : va_G) (t : Nat → ClassId) (G : hG) (ak av : Nat → Nat) (h : hM) (τ : tM) (n f : Nat) (p9 : Nat) (a9 : Int32) (v9 : Int32) (hn : n ≤ 200) (hT : TI τ t n h) (T_p9 : τ p9 = (4, f)) : Met l y_Pg_put (.code y_Pg_put b_Pg_put 3 none :: lw_g) { frames := 0, cells := 0, slots := 0, locals := 0 } (hP (kE D t G ak av) D vwCl G h [.ref p9, .int a9, .int v9]) (hQv D vwCl G (fun h' => TI τ t n h' ∧ kf τ [(5, f)] [] h h')) 0 0 G.P := by
  refine Met.ofW (cc := b_Pg_put) (maxL := 3) (ret := none) (by decide) rfl ?_
  intro p e s m args below meth c s₁ Bd hml hv
  obtain ⟨ha, hE, hH⟩ := hv
  have hx := Bd.exec
  have hb := Bd.bytes
  have hr := Bd.returns
  have hts : ∀ w ∈ lw_g, w.before args s = true := fun w hw => atoms_spec (ws := (.code y_Pg_put b_Pg_put 3 none :: lw_g)) Bd.pre w (List.mem_cons_of_mem _ hw)
  have hown : s.vm.findClass R_Pg = some m.cls := findClass_of_methodNamed Bd.named
  have hlocks := Bd.notSynchronized
  have hK := hE.1
  have hH0 := hH
  have hLo : hLc G.P [] := hLc_nil
  have hz : s.heap.size ≤ s.heap.size := Nat.le_refl _
  have hl := lv_entry [.ref p9, .int a9, .int v9] (n := 3) (Nat.le_of_ble_eq_true rfl)
  rw [show entryFrame m args 3 = F0 m 0 ((lg_sl [.ref p9, .int a9, .int v9] ++ List.replicate (3 - (lg_sl [.ref p9, .int a9, .int v9]).length) Slot.unset).toArray) [] from (by rw [ha]; exact lg_entry_eq m [.ref p9, .int a9, .int v9] 3)]
  generalize (lg_sl [.ref p9, .int a9, .int v9] ++ List.replicate (3 - (lg_sl [.ref p9, .int a9, .int v9]).length) Slot.unset).toArray = ls at hl ⊢
  have hl : lv_has ls 3 [(0, .ref p9), (1, .int a9), (2, .int v9)] := hl
  have hkf : kf τ [(5, f)] [] h h := kf_rf
  refine lv_iload_n hx hb d_Pg_put_0 rfl (lv_at hl 1 rfl) ?_
  refine lv_if_lt (tgt := 21) hx hb d_Pg_put_1 (by decide) (fun hc1 => ?_) (fun hc1 => ?_)
  · skip
    have ic2 : a9.toInt < 0 := iLt hc1
    exact W.vret hx hb hr (fun t9 ht hW => ⟨h, rfl, ⟨hT, hkf⟩, by rw [ht]; exact hH, by rw [ht]; exact hz⟩) hLo d_Pg_put_21
  · skip
    have ic3 : 0 ≤ a9.toInt := iNl hc1
    refine lv_iload_n hx hb d_Pg_put_4 rfl (lv_at hl 1 rfl) ?_
    refine lv_aload_n hx hb d_Pg_put_5 rfl (lv_at hl 0 rfl) ?_
    obtain ⟨v4, F_p9, c5⟩ := TI_page hT T_p9
    refine hm_get (ci := 3) (v := .ref v4) (C := R_Pg) (T := F_Pg) (N := 1) hx hb hts ig_Pg hown hK hH F_p9 rfl 0 (by decide) (hts _ mw_69) (fun _ h9 => h9) rfl d_Pg_put_6 ?_
    obtain ⟨g6, F_v4, c7⟩ := TI_byts hT c5
    have iln8 : (nI (pgn f)).toInt = ((pgn f) : Nat) := nI_toInt (pgn_lt _)
    refine hm_alen (v := nI (pgn f)) hx hb hK hH 0 F_v4 (ty := .byte) rfl rfl d_Pg_put_9 ?_
    refine lv_icmp_ge (tgt := 21) hx hb d_Pg_put_10 (by decide) (fun hc9 => ?_) (fun hc9 => ?_)
    · skip
      have ic10 : (nI (pgn f)).toInt ≤ a9.toInt := iLe hc9
      exact W.vret hx hb hr (fun t9 ht hW => ⟨h, rfl, ⟨hT, hkf⟩, by rw [ht]; exact hH, by rw [ht]; exact hz⟩) hLo d_Pg_put_21
    · skip
      have ic11 : a9.toInt < (nI (pgn f)).toInt := iNe hc9
      refine lv_aload_n hx hb d_Pg_put_13 rfl (lv_at hl 0 rfl) ?_
      refine hm_get (ci := 3) (v := .ref v4) (C := R_Pg) (T := F_Pg) (N := 1) hx hb hts ig_Pg hown hK hH F_p9 rfl 0 (by decide) (hts _ mw_69) (fun _ h9 => h9) rfl d_Pg_put_14 ?_
      refine lv_iload_n hx hb d_Pg_put_17 rfl (lv_at hl 1 rfl) ?_
      refine lv_iload_n hx hb d_Pg_put_18 rfl (lv_at hl 2 rfl) ?_
      refine lv_i2b (v := v9.toInt8.toInt32) hx hb d_Pg_put_19 rfl ?_
      refine hm_bast hx hb hK hH hLo 0 F_v4 rfl (iIn (by omega) (by omega)) d_Pg_put_20 (fun H12 locs hH z13 hLo => ?_)
      have hz : s.heap.size ≤ H12.size := by rw [z13]; exact hz
      obtain ⟨h14, e15⟩ : ∃ z, z = hu h v4 (.inl ((t 0), (pgn f), .inl (upd g6 a9.toNatClampNeg (vp_nar .byte v9.toInt8.toInt32)))) := ⟨_, rfl⟩
      have hH : hm D vwCl G h14 H12 := by rw [e15]; exact hH
      have F_p9 : h14 p9 = some (.inr (3, [.ref v4])) := by rw [e15, hu_n (tne T_p9 c5 (by decide))]; exact F_p9
      have F_v4 : h14 v4 = some (.inl ((t 0), (pgn f), .inl (upd g6 a9.toNatClampNeg (vp_nar .byte v9.toInt8.toInt32)))) := by rw [e15]; exact hu_s _ _ _
      have hT : TI τ t n h14 := by rw [e15]; exact TI_put hT c5 (by decide) ⟨_, rfl, (sb_fitU c7 (fitNar _))⟩
      have hkf : kf τ [(5, f)] [] h h14 := by rw [e15]; exact kf_put hkf c5 List.mem_cons_self
      obtain ⟨g16, e17⟩ : ∃ z, z = upd g6 a9.toNatClampNeg (vp_nar .byte v9.toInt8.toInt32) := ⟨_, rfl⟩
      rw [← e17] at F_v4
      have c18 := (sb_fitU c7 (fitNar _))
      rw [← e17] at c18
      exact W.vret hx hb hr (fun t9 ht hW => ⟨h14, rfl, ⟨hT, hkf⟩, by rw [ht]; exact hH, by rw [ht]; exact hz⟩) hLo d_Pg_put_21

set_option maxHeartbeats 4000000 in
set_option maxRecDepth 100000 in
theorem t_putText (l : Launch) (D : va_G) (t : Nat → ClassId) (G : hG) (ak av : Nat → Nat) (h : hM) (τ : tM) (n f : Nat) (p9 : Nat) (a9 : Int32) (i8 : Nat) (hn : n ≤ 200) (hT : TI τ t n h) (T_p9 : τ p9 = (4, f)) (hi_i8 : i8 < 3) : Met l y_Pg_putText (.code y_Pg_putText b_Pg_putText 4 none :: lw_g) { frames := 4, cells := 0, slots := 0, locals := 85 } (hP (kE D t G ak av) D vwCl G h [.ref p9, .int a9, .ref (ak i8)]) (hQv D vwCl G (fun h' => TI τ t n h' ∧ kf τ [(5, f)] [] h h')) 0 0 G.P := by
  refine Met.ofW (cc := b_Pg_putText) (maxL := 4) (ret := none) (by decide) rfl ?_
  intro p e s m args below meth c s₁ Bd hml hv
  obtain ⟨ha, hE, hH⟩ := hv
  have hx := Bd.exec
  have hb := Bd.bytes
  have hr := Bd.returns
  have hts : ∀ w ∈ lw_g, w.before args s = true := fun w hw => atoms_spec (ws := (.code y_Pg_putText b_Pg_putText 4 none :: lw_g)) Bd.pre w (List.mem_cons_of_mem _ hw)
  have hown : s.vm.findClass R_Pg = some m.cls := findClass_of_methodNamed Bd.named
  have hlocks := Bd.notSynchronized
  have hK := hE.1
  have hH0 := hH
  have hLo : hLc G.P [] := hLc_nil
  have hz : s.heap.size ≤ s.heap.size := Nat.le_refl _
  have hl := lv_entry [.ref p9, .int a9, .ref (ak i8)] (n := 4) (Nat.le_of_ble_eq_true rfl)
  rw [show entryFrame m args 4 = F0 m 0 ((lg_sl [.ref p9, .int a9, .ref (ak i8)] ++ List.replicate (4 - (lg_sl [.ref p9, .int a9, .ref (ak i8)]).length) Slot.unset).toArray) [] from (by rw [ha]; exact lg_entry_eq m [.ref p9, .int a9, .ref (ak i8)] 4)]
  generalize (lg_sl [.ref p9, .int a9, .ref (ak i8)] ++ List.replicate (4 - (lg_sl [.ref p9, .int a9, .ref (ak i8)]).length) Slot.unset).toArray = ls at hl ⊢
  have hl : lv_has ls 4 [(0, .ref p9), (1, .int a9), (2, .ref (ak i8))] := hl
  have hkf : kf τ [(5, f)] [] h h := kf_rf
  refine lv_iconst (v := 0) hx hb d_Pg_putText_0 (by decide) ?_
  refine lv_istore_n (lv' := [(3, .int 0), (0, .ref p9), (1, .int a9), (2, .ref (ak i8))]) hx hb d_Pg_putText_1 rfl hl (by decide) rfl (fun ls hl => ?_)
  refine hm_loop (fun k2 ls H locs hh2 => ∃ (i9 : Int32), k2 = mU i9 ∧ lv_has ls 4 [(0, .ref p9), (1, .int a9), (2, .ref (ak i8)), (3, .int i9)] ∧ hm D vwCl G hh2 H ∧ s.heap.size ≤ H.size ∧ hLc G.P locs ∧ (TI τ t n hh2) ∧ (kf τ [(5, f)] [] h hh2) ∧ (0 ≤ i9.toInt)) ?_ (hh := h) ⟨0, rfl, (lv_sub hl [1, 2, 3, 0] rfl), hH, hz, hLo, hT, hkf, (by decide)⟩
  rintro k2 ls H locs hh2 ⟨i9, hk2, hl, hH, hz, hLo, hT, hkf, I_i9⟩ ih2
  refine lv_iload_n hx hb d_Pg_putText_2 rfl (lv_at hl 3 rfl) ?_
  refine lv_aload_n hx hb d_Pg_putText_3 rfl (lv_at hl 2 rfl) ?_
  have hZ := K9 hE.2.2.2.2 hH0
  have hS := S9 hH0 hH hz hLo
  refine hm_callPi (va_runV (As := []) (b := ak i8) (rest := [.int i9]) ⟨hx, hb, hml, hown, hts⟩ (c_St_length l D t G ak av hh2 i8 hi_i8) ⟨cw9B 0 hts mw_36 mw_74 mw_4 rfl rfl (by decide +kernel) ⟨Nat.le_of_ble_eq_true rfl, Nat.le_of_ble_eq_true rfl⟩, hts _ mw_38, hts _ mw_39⟩ (hP_W kE_ok hE hH (vk_recv hZ hi_i8 hS)) rfl rfl hl.1 rfl (lv_room (Nat.le_of_ble_eq_true rfl)) d_Pg_putText_4 ⟨Nat.le_of_ble_eq_true rfl, Nat.le_of_ble_eq_true rfl⟩) (fun r1 h2 H3 hp5  hH z4 => ?_)
  have hz : s.heap.size ≤ H3.size := Nat.le_trans hz z4
  obtain ⟨e_r1, rfl⟩ := hp5
  have is_r1 : r1.toInt = (sLen.getD i8 0 : Nat) := by rw [e_r1]; exact nI_toInt (sl_lt hi_i8)
  have iq_r1 := sl_8 (i := i8) hi_i8
  refine lv_icmp_ge (tgt := 28) hx hb d_Pg_putText_7 (by decide) (fun hc6 => ?_) (fun hc6 => ?_)
  · skip
    have ic7 : r1.toInt ≤ i9.toInt := iLe hc6
    exact W.vret hx hb hr (fun t9 ht hW => ⟨hh2, rfl, ⟨hT, hkf⟩, by rw [ht]; exact hH, by rw [ht]; exact hz⟩) hLo d_Pg_putText_28
  · skip
    have ic8 : i9.toInt < r1.toInt := iNe hc6
    refine lv_aload_n hx hb d_Pg_putText_10 rfl (lv_at hl 0 rfl) ?_
    refine lv_iload_n hx hb d_Pg_putText_11 rfl (lv_at hl 1 rfl) ?_
    refine lv_iload_n hx hb d_Pg_putText_12 rfl (lv_at hl 3 rfl) ?_
    refine lv_iadd hx hb d_Pg_putText_13 ?_
    refine lv_aload_n hx hb d_Pg_putText_14 rfl (lv_at hl 2 rfl) ?_
    refine lv_iload_n hx hb d_Pg_putText_15 rfl (lv_at hl 3 rfl) ?_
    have hZ := K9 hE.2.2.2.2 hH0
    have hS := S9 hH0 hH hz hLo
    obtain ⟨j9, e10l, e10⟩ : ∃ j : Nat, j < sLen.getD i8 0 ∧ i9 = nI j := ⟨i9.toInt.toNat, by omega, i_nI (by omega)⟩
    rw [e10]
    refine hm_callPi (va_runV (As := [.int (nI j9)]) (b := ak i8) (rest := [.int (a9 + i9), .ref p9]) ⟨hx, hb, hml, hown, hts⟩ (c_St_charAt l D t G ak av hh2 i8 j9 hi_i8 e10l) ⟨cw9B 1 hts mw_40 mw_75 mw_4 rfl rfl (by decide +kernel) ⟨Nat.le_of_ble_eq_true rfl, Nat.le_of_ble_eq_true rfl⟩, hts _ mw_42, hts _ mw_43⟩ (hP_W kE_ok hE hH (vk_recv hZ hi_i8 hS)) rfl rfl hl.1 rfl (lv_room (Nat.le_of_ble_eq_true rfl)) d_Pg_putText_16 ⟨Nat.le_of_ble_eq_true rfl, Nat.le_of_ble_eq_true rfl⟩) (fun r11 h12 H13 hp15  hH z14 => ?_)
    have hz : s.heap.size ≤ H13.size := Nat.le_trans hz z14
    obtain ⟨-, rfl⟩ := hp15
    obtain ⟨v16, F_p9, c17⟩ := TI_page hT T_p9
    refine hm_callv (va_runV (As := [.int (a9 + i9), .int r11]) (b := p9) (rest := []) ⟨hx, hb, hml, hown, hts⟩ (t_put l D t G ak av hh2 τ n f p9 (a9 + i9) r11 hn hT T_p9) ⟨cw9B 2 hts mw_76 mw_78 mw_77 rfl rfl (by decide +kernel) ⟨Nat.le_of_ble_eq_true rfl, Nat.le_of_ble_eq_true rfl⟩, hts _ mw_79, hts _ mw_80⟩ (hP_V (q := (R_Pg, F_Pg, 1)) kE_ok hE hK hH F_p9 rfl) rfl rfl hl.1 rfl (lv_room (Nat.le_of_ble_eq_true rfl)) d_Pg_putText_19 ⟨Nat.le_of_ble_eq_true rfl, Nat.le_of_ble_eq_true rfl⟩) hLo (fun h18 H19 locs hp21 hH z20 hLo => ?_)
    have hz : s.heap.size ≤ H19.size := Nat.le_trans hz z20
    have hT0 := hT
    obtain ⟨hT, kf23, xp22⟩ := hp21
    have F_p9 : h18 p9 = some (.inr (3, [.ref v16])) := kf_at kf23 T_p9 (by decide) (tnc (by decide) tn0) nm0 F_p9
    have hkf : kf τ [(5, f)] [] h h18 := kf_tr hkf kf23 (List.forall_mem_cons.mpr ⟨List.mem_cons_self, List.forall_mem_nil _⟩) (List.forall_mem_nil _)
    refine lv_iinc (v := i9 + 1) (lv' := [(3, .int (i9 + 1)), (0, .ref p9), (1, .int a9), (2, .ref (ak i8))]) hx hb d_Pg_putText_22 hl (k := 3) rfl (by rfl) (by decide) rfl (fun ls hl => ?_)
    refine lv_goto (tgt := 2) hx hb d_Pg_putText_25 (by decide) ?_
    have is24 : (i9 + 1).toInt = i9.toInt + 1 := iAddK 1 rfl (by omega) (by omega)
    exact ih2 (mU (i9 + 1)) ls _ locs _ (by rw [hk2]; exact mU_lt (by omega)) ⟨(i9 + 1), rfl, (lv_sub hl [1, 2, 3, 0] rfl), hH, hz, hLo, hT, hkf, (by omega)⟩

set_option maxHeartbeats 4000000 in
set_option maxRecDepth 100000 in
theorem t_putLow (l : Launch) (D : va_G) (t : Nat → ClassId) (G : hG) (ak av : Nat → Nat) (h : hM) (τ : tM) (n f : Nat) (p9 : Nat) (a9 : Int32) (w9 : Int32) (v9 : Int32) (hn : n ≤ 200) (hT : TI τ t n h) (T_p9 : τ p9 = (4, f)) : Met l y_Pg_putLow (.code y_Pg_putLow b_Pg_putLow 5 none :: lw_g) { frames := 1, cells := 0, slots := 0, locals := 22 } (hP (kE D t G ak av) D vwCl G h [.ref p9, .int a9, .int w9, .int v9]) (hQv D vwCl G (fun h' => TI τ t n h' ∧ kf τ [(5, f)] [] h h')) 0 0 G.P := by
  refine Met.ofW (cc := b_Pg_putLow) (maxL := 5) (ret := none) (by decide) rfl ?_
  intro p e s m args below meth c s₁ Bd hml hv
  obtain ⟨ha, hE, hH⟩ := hv
  have hx := Bd.exec
  have hb := Bd.bytes
  have hr := Bd.returns
  have hts : ∀ w ∈ lw_g, w.before args s = true := fun w hw => atoms_spec (ws := (.code y_Pg_putLow b_Pg_putLow 5 none :: lw_g)) Bd.pre w (List.mem_cons_of_mem _ hw)
  have hown : s.vm.findClass R_Pg = some m.cls := findClass_of_methodNamed Bd.named
  have hlocks := Bd.notSynchronized
  have hK := hE.1
  have hH0 := hH
  have hLo : hLc G.P [] := hLc_nil
  have hz : s.heap.size ≤ s.heap.size := Nat.le_refl _
  have hl := lv_entry [.ref p9, .int a9, .int w9, .int v9] (n := 5) (Nat.le_of_ble_eq_true rfl)
  rw [show entryFrame m args 5 = F0 m 0 ((lg_sl [.ref p9, .int a9, .int w9, .int v9] ++ List.replicate (5 - (lg_sl [.ref p9, .int a9, .int w9, .int v9]).length) Slot.unset).toArray) [] from (by rw [ha]; exact lg_entry_eq m [.ref p9, .int a9, .int w9, .int v9] 5)]
  generalize (lg_sl [.ref p9, .int a9, .int w9, .int v9] ++ List.replicate (5 - (lg_sl [.ref p9, .int a9, .int w9, .int v9]).length) Slot.unset).toArray = ls at hl ⊢
  have hl : lv_has ls 5 [(0, .ref p9), (1, .int a9), (2, .int w9), (3, .int v9)] := hl
  have hkf : kf τ [(5, f)] [] h h := kf_rf
  refine lv_iconst (v := 0) hx hb d_Pg_putLow_0 (by decide) ?_
  refine lv_istore (lv' := [(4, .int 0), (0, .ref p9), (1, .int a9), (2, .int w9), (3, .int v9)]) hx hb d_Pg_putLow_1 hl (by decide) rfl (fun ls hl => ?_)
  refine hm_loop (fun k3 ls H locs hh3 => ∃ (i9 : Int32), k3 = mU i9 ∧ lv_has ls 5 [(0, .ref p9), (1, .int a9), (2, .int w9), (3, .int v9), (4, .int i9)] ∧ hm D vwCl G hh3 H ∧ s.heap.size ≤ H.size ∧ hLc G.P locs ∧ (TI τ t n hh3) ∧ (kf τ [(5, f)] [] h hh3) ∧ (0 ≤ i9.toInt)) ?_ (hh := h) ⟨0, rfl, (lv_sub hl [1, 2, 3, 4, 0] rfl), hH, hz, hLo, hT, hkf, (by decide)⟩
  rintro k3 ls H locs hh3 ⟨i9, hk3, hl, hH, hz, hLo, hT, hkf, I_i9⟩ ih3
  refine lv_iload hx hb d_Pg_putLow_3 (lv_at hl 4 rfl) ?_
  refine lv_iload_n hx hb d_Pg_putLow_5 rfl (lv_at hl 2 rfl) ?_
  refine lv_icmp_ge (tgt := 30) hx hb d_Pg_putLow_6 (by decide) (fun hc1 => ?_) (fun hc1 => ?_)
  · skip
    have ic2 : w9.toInt ≤ i9.toInt := iLe hc1
    exact W.vret hx hb hr (fun t9 ht hW => ⟨hh3, rfl, ⟨hT, hkf⟩, by rw [ht]; exact hH, by rw [ht]; exact hz⟩) hLo d_Pg_putLow_30
  · skip
    have ic3 : i9.toInt < w9.toInt := iNe hc1
    refine lv_aload_n hx hb d_Pg_putLow_9 rfl (lv_at hl 0 rfl) ?_
    refine lv_iload_n hx hb d_Pg_putLow_10 rfl (lv_at hl 1 rfl) ?_
    refine lv_iload hx hb d_Pg_putLow_11 (lv_at hl 4 rfl) ?_
    refine lv_iadd hx hb d_Pg_putLow_13 ?_
    refine lv_iload_n hx hb d_Pg_putLow_14 rfl (lv_at hl 3 rfl) ?_
    refine lv_bipush (v := 8) hx hb d_Pg_putLow_15 (by decide) ?_
    refine lv_iload hx hb d_Pg_putLow_17 (lv_at hl 4 rfl) ?_
    refine lv_imul hx hb d_Pg_putLow_19 ?_
    refine lv_ishr hx hb d_Pg_putLow_20 ?_
    obtain ⟨v4, F_p9, c5⟩ := TI_page hT T_p9
    refine hm_callv (va_runV (As := [.int (a9 + i9), .int (v9 >>> ((8 * i9) &&& 31))]) (b := p9) (rest := []) ⟨hx, hb, hml, hown, hts⟩ (t_put l D t G ak av hh3 τ n f p9 (a9 + i9) (v9 >>> ((8 * i9) &&& 31)) hn hT T_p9) ⟨cw9B 2 hts mw_76 mw_78 mw_77 rfl rfl (by decide +kernel) ⟨Nat.le_of_ble_eq_true rfl, Nat.le_of_ble_eq_true rfl⟩, hts _ mw_79, hts _ mw_80⟩ (hP_V (q := (R_Pg, F_Pg, 1)) kE_ok hE hK hH F_p9 rfl) rfl rfl hl.1 rfl (lv_room (Nat.le_of_ble_eq_true rfl)) d_Pg_putLow_21 ⟨Nat.le_of_ble_eq_true rfl, Nat.le_of_ble_eq_true rfl⟩) hLo (fun h6 H7 locs hp9 hH z8 hLo => ?_)
    have hz : s.heap.size ≤ H7.size := Nat.le_trans hz z8
    have hT0 := hT
    obtain ⟨hT, kf11, xp10⟩ := hp9
    have F_p9 : h6 p9 = some (.inr (3, [.ref v4])) := kf_at kf11 T_p9 (by decide) (tnc (by decide) tn0) nm0 F_p9
    have hkf : kf τ [(5, f)] [] h h6 := kf_tr hkf kf11 (List.forall_mem_cons.mpr ⟨List.mem_cons_self, List.forall_mem_nil _⟩) (List.forall_mem_nil _)
    refine lv_iinc (v := i9 + 1) (lv' := [(4, .int (i9 + 1)), (0, .ref p9), (1, .int a9), (2, .int w9), (3, .int v9)]) hx hb d_Pg_putLow_24 hl (k := 4) rfl (by rfl) (by decide) rfl (fun ls hl => ?_)
    refine lv_goto (tgt := 3) hx hb d_Pg_putLow_27 (by decide) ?_
    have is12 : (i9 + 1).toInt = i9.toInt + 1 := iAddK 1 rfl (by omega) (by omega)
    exact ih3 (mU (i9 + 1)) ls _ locs _ (by rw [hk3]; exact mU_lt (by omega)) ⟨(i9 + 1), rfl, (lv_sub hl [1, 2, 3, 4, 0] rfl), hH, hz, hLo, hT, hkf, (by omega)⟩

set_option maxHeartbeats 4000000 in
set_option maxRecDepth 100000 in
theorem t_putHigh (l : Launch) (D : va_G) (t : Nat → ClassId) (G : hG) (ak av : Nat → Nat) (h : hM) (τ : tM) (n f : Nat) (p9 : Nat) (a9 : Int32) (w9 : Int32) (v9 : Int32) (hn : n ≤ 200) (hT : TI τ t n h) (T_p9 : τ p9 = (4, f)) : Met l y_Pg_putHigh (.code y_Pg_putHigh b_Pg_putHigh 5 none :: lw_g) { frames := 1, cells := 0, slots := 0, locals := 22 } (hP (kE D t G ak av) D vwCl G h [.ref p9, .int a9, .int w9, .int v9]) (hQv D vwCl G (fun h' => TI τ t n h' ∧ kf τ [(5, f)] [] h h')) 0 0 G.P := by
  refine Met.ofW (cc := b_Pg_putHigh) (maxL := 5) (ret := none) (by decide) rfl ?_
  intro p e s m args below meth c s₁ Bd hml hv
  obtain ⟨ha, hE, hH⟩ := hv
  have hx := Bd.exec
  have hb := Bd.bytes
  have hr := Bd.returns
  have hts : ∀ w ∈ lw_g, w.before args s = true := fun w hw => atoms_spec (ws := (.code y_Pg_putHigh b_Pg_putHigh 5 none :: lw_g)) Bd.pre w (List.mem_cons_of_mem _ hw)
  have hown : s.vm.findClass R_Pg = some m.cls := findClass_of_methodNamed Bd.named
  have hlocks := Bd.notSynchronized
  have hK := hE.1
  have hH0 := hH
  have hLo : hLc G.P [] := hLc_nil
  have hz : s.heap.size ≤ s.heap.size := Nat.le_refl _
  have hl := lv_entry [.ref p9, .int a9, .int w9, .int v9] (n := 5) (Nat.le_of_ble_eq_true rfl)
  rw [show entryFrame m args 5 = F0 m 0 ((lg_sl [.ref p9, .int a9, .int w9, .int v9] ++ List.replicate (5 - (lg_sl [.ref p9, .int a9, .int w9, .int v9]).length) Slot.unset).toArray) [] from (by rw [ha]; exact lg_entry_eq m [.ref p9, .int a9, .int w9, .int v9] 5)]
  generalize (lg_sl [.ref p9, .int a9, .int w9, .int v9] ++ List.replicate (5 - (lg_sl [.ref p9, .int a9, .int w9, .int v9]).length) Slot.unset).toArray = ls at hl ⊢
  have hl : lv_has ls 5 [(0, .ref p9), (1, .int a9), (2, .int w9), (3, .int v9)] := hl
  have hkf : kf τ [(5, f)] [] h h := kf_rf
  refine lv_iconst (v := 0) hx hb d_Pg_putHigh_0 (by decide) ?_
  refine lv_istore (lv' := [(4, .int 0), (0, .ref p9), (1, .int a9), (2, .int w9), (3, .int v9)]) hx hb d_Pg_putHigh_1 hl (by decide) rfl (fun ls hl => ?_)
  refine hm_loop (fun k3 ls H locs hh3 => ∃ (i9 : Int32), k3 = mU i9 ∧ lv_has ls 5 [(0, .ref p9), (1, .int a9), (2, .int w9), (3, .int v9), (4, .int i9)] ∧ hm D vwCl G hh3 H ∧ s.heap.size ≤ H.size ∧ hLc G.P locs ∧ (TI τ t n hh3) ∧ (kf τ [(5, f)] [] h hh3) ∧ (0 ≤ i9.toInt)) ?_ (hh := h) ⟨0, rfl, (lv_sub hl [1, 2, 3, 4, 0] rfl), hH, hz, hLo, hT, hkf, (by decide)⟩
  rintro k3 ls H locs hh3 ⟨i9, hk3, hl, hH, hz, hLo, hT, hkf, I_i9⟩ ih3
  refine lv_iload hx hb d_Pg_putHigh_3 (lv_at hl 4 rfl) ?_
  refine lv_iload_n hx hb d_Pg_putHigh_5 rfl (lv_at hl 2 rfl) ?_
  refine lv_icmp_ge (tgt := 34) hx hb d_Pg_putHigh_6 (by decide) (fun hc1 => ?_) (fun hc1 => ?_)
  · skip
    have ic2 : w9.toInt ≤ i9.toInt := iLe hc1
    exact W.vret hx hb hr (fun t9 ht hW => ⟨hh3, rfl, ⟨hT, hkf⟩, by rw [ht]; exact hH, by rw [ht]; exact hz⟩) hLo d_Pg_putHigh_34
  · skip
    have ic3 : i9.toInt < w9.toInt := iNe hc1
    refine lv_aload_n hx hb d_Pg_putHigh_9 rfl (lv_at hl 0 rfl) ?_
    refine lv_iload_n hx hb d_Pg_putHigh_10 rfl (lv_at hl 1 rfl) ?_
    refine lv_iload_n hx hb d_Pg_putHigh_11 rfl (lv_at hl 2 rfl) ?_
    refine lv_iadd hx hb d_Pg_putHigh_12 ?_
    refine lv_iconst (v := 1) hx hb d_Pg_putHigh_13 (by decide) ?_
    refine lv_isub hx hb d_Pg_putHigh_14 ?_
    refine lv_iload hx hb d_Pg_putHigh_15 (lv_at hl 4 rfl) ?_
    refine lv_isub hx hb d_Pg_putHigh_17 ?_
    refine lv_iload_n hx hb d_Pg_putHigh_18 rfl (lv_at hl 3 rfl) ?_
    refine lv_bipush (v := 8) hx hb d_Pg_putHigh_19 (by decide) ?_
    refine lv_iload hx hb d_Pg_putHigh_21 (lv_at hl 4 rfl) ?_
    refine lv_imul hx hb d_Pg_putHigh_23 ?_
    refine lv_ishr hx hb d_Pg_putHigh_24 ?_
    obtain ⟨v4, F_p9, c5⟩ := TI_page hT T_p9
    refine hm_callv (va_runV (As := [.int (((a9 + w9) - 1) - i9), .int (v9 >>> ((8 * i9) &&& 31))]) (b := p9) (rest := []) ⟨hx, hb, hml, hown, hts⟩ (t_put l D t G ak av hh3 τ n f p9 (((a9 + w9) - 1) - i9) (v9 >>> ((8 * i9) &&& 31)) hn hT T_p9) ⟨cw9B 2 hts mw_76 mw_78 mw_77 rfl rfl (by decide +kernel) ⟨Nat.le_of_ble_eq_true rfl, Nat.le_of_ble_eq_true rfl⟩, hts _ mw_79, hts _ mw_80⟩ (hP_V (q := (R_Pg, F_Pg, 1)) kE_ok hE hK hH F_p9 rfl) rfl rfl hl.1 rfl (lv_room (Nat.le_of_ble_eq_true rfl)) d_Pg_putHigh_25 ⟨Nat.le_of_ble_eq_true rfl, Nat.le_of_ble_eq_true rfl⟩) hLo (fun h6 H7 locs hp9 hH z8 hLo => ?_)
    have hz : s.heap.size ≤ H7.size := Nat.le_trans hz z8
    have hT0 := hT
    obtain ⟨hT, kf11, xp10⟩ := hp9
    have F_p9 : h6 p9 = some (.inr (3, [.ref v4])) := kf_at kf11 T_p9 (by decide) (tnc (by decide) tn0) nm0 F_p9
    have hkf : kf τ [(5, f)] [] h h6 := kf_tr hkf kf11 (List.forall_mem_cons.mpr ⟨List.mem_cons_self, List.forall_mem_nil _⟩) (List.forall_mem_nil _)
    refine lv_iinc (v := i9 + 1) (lv' := [(4, .int (i9 + 1)), (0, .ref p9), (1, .int a9), (2, .int w9), (3, .int v9)]) hx hb d_Pg_putHigh_28 hl (k := 4) rfl (by rfl) (by decide) rfl (fun ls hl => ?_)
    refine lv_goto (tgt := 3) hx hb d_Pg_putHigh_31 (by decide) ?_
    have is12 : (i9 + 1).toInt = i9.toInt + 1 := iAddK 1 rfl (by omega) (by omega)
    exact ih3 (mU (i9 + 1)) ls _ locs _ (by rw [hk3]; exact mU_lt (by omega)) ⟨(i9 + 1), rfl, (lv_sub hl [1, 2, 3, 4, 0] rfl), hH, hz, hLo, hT, hkf, (by omega)⟩

set_option maxHeartbeats 4000000 in
set_option maxRecDepth 100000 in
theorem t_putBoth (l : Launch) (D : va_G) (t : Nat → ClassId) (G : hG) (ak av : Nat → Nat) (h : hM) (τ : tM) (n f : Nat) (p9 : Nat) (a9 : Int32) (w9 : Int32) (v9 : Int32) (hn : n ≤ 200) (hT : TI τ t n h) (T_p9 : τ p9 = (4, f)) : Met l y_Pg_putBoth (.code y_Pg_putBoth b_Pg_putBoth 5 none :: lw_g) { frames := 1, cells := 0, slots := 0, locals := 22 } (hP (kE D t G ak av) D vwCl G h [.ref p9, .int a9, .int w9, .int v9]) (hQv D vwCl G (fun h' => TI τ t n h' ∧ kf τ [(5, f)] [] h h')) 0 0 G.P := by
  refine Met.ofW (cc := b_Pg_putBoth) (maxL := 5) (ret := none) (by decide) rfl ?_
  intro p e s m args below meth c s₁ Bd hml hv
  obtain ⟨ha, hE, hH⟩ := hv
  have hx := Bd.exec
  have hb := Bd.bytes
  have hr := Bd.returns
  have hts : ∀ w ∈ lw_g, w.before args s = true := fun w hw => atoms_spec (ws := (.code y_Pg_putBoth b_Pg_putBoth 5 none :: lw_g)) Bd.pre w (List.mem_cons_of_mem _ hw)
  have hown : s.vm.findClass R_Pg = some m.cls := findClass_of_methodNamed Bd.named
  have hlocks := Bd.notSynchronized
  have hK := hE.1
  have hH0 := hH
  have hLo : hLc G.P [] := hLc_nil
  have hz : s.heap.size ≤ s.heap.size := Nat.le_refl _
  have hl := lv_entry [.ref p9, .int a9, .int w9, .int v9] (n := 5) (Nat.le_of_ble_eq_true rfl)
  rw [show entryFrame m args 5 = F0 m 0 ((lg_sl [.ref p9, .int a9, .int w9, .int v9] ++ List.replicate (5 - (lg_sl [.ref p9, .int a9, .int w9, .int v9]).length) Slot.unset).toArray) [] from (by rw [ha]; exact lg_entry_eq m [.ref p9, .int a9, .int w9, .int v9] 5)]
  generalize (lg_sl [.ref p9, .int a9, .int w9, .int v9] ++ List.replicate (5 - (lg_sl [.ref p9, .int a9, .int w9, .int v9]).length) Slot.unset).toArray = ls at hl ⊢
  have hl : lv_has ls 5 [(0, .ref p9), (1, .int a9), (2, .int w9), (3, .int v9)] := hl
  have hkf : kf τ [(5, f)] [] h h := kf_rf
  refine lv_iconst (v := 0) hx hb d_Pg_putBoth_0 (by decide) ?_
  refine lv_istore (lv' := [(4, .int 0), (0, .ref p9), (1, .int a9), (2, .int w9), (3, .int v9)]) hx hb d_Pg_putBoth_1 hl (by decide) rfl (fun ls hl => ?_)
  refine hm_loop (fun k3 ls H locs hh3 => ∃ (i9 : Int32), k3 = mU i9 ∧ lv_has ls 5 [(0, .ref p9), (1, .int a9), (2, .int w9), (3, .int v9), (4, .int i9)] ∧ hm D vwCl G hh3 H ∧ s.heap.size ≤ H.size ∧ hLc G.P locs ∧ (TI τ t n hh3) ∧ (kf τ [(5, f)] [] h hh3) ∧ (0 ≤ i9.toInt)) ?_ (hh := h) ⟨0, rfl, (lv_sub hl [1, 2, 3, 4, 0] rfl), hH, hz, hLo, hT, hkf, (by decide)⟩
  rintro k3 ls H locs hh3 ⟨i9, hk3, hl, hH, hz, hLo, hT, hkf, I_i9⟩ ih3
  refine lv_iload hx hb d_Pg_putBoth_3 (lv_at hl 4 rfl) ?_
  refine lv_iload_n hx hb d_Pg_putBoth_5 rfl (lv_at hl 2 rfl) ?_
  refine lv_icmp_ge (tgt := 51) hx hb d_Pg_putBoth_6 (by decide) (fun hc1 => ?_) (fun hc1 => ?_)
  · skip
    have ic2 : w9.toInt ≤ i9.toInt := iLe hc1
    exact W.vret hx hb hr (fun t9 ht hW => ⟨hh3, rfl, ⟨hT, hkf⟩, by rw [ht]; exact hH, by rw [ht]; exact hz⟩) hLo d_Pg_putBoth_51
  · skip
    have ic3 : i9.toInt < w9.toInt := iNe hc1
    refine lv_aload_n hx hb d_Pg_putBoth_9 rfl (lv_at hl 0 rfl) ?_
    refine lv_iload_n hx hb d_Pg_putBoth_10 rfl (lv_at hl 1 rfl) ?_
    refine lv_iload hx hb d_Pg_putBoth_11 (lv_at hl 4 rfl) ?_
    refine lv_iadd hx hb d_Pg_putBoth_13 ?_
    refine lv_iload_n hx hb d_Pg_putBoth_14 rfl (lv_at hl 3 rfl) ?_
    refine lv_bipush (v := 8) hx hb d_Pg_putBoth_15 (by decide) ?_
    refine lv_iload hx hb d_Pg_putBoth_17 (lv_at hl 4 rfl) ?_
    refine lv_imul hx hb d_Pg_putBoth_19 ?_
    refine lv_ishr hx hb d_Pg_putBoth_20 ?_
    obtain ⟨v4, F_p9, c5⟩ := TI_page hT T_p9
    refine hm_callv (va_runV (As := [.int (a9 + i9), .int (v9 >>> ((8 * i9) &&& 31))]) (b := p9) (rest := []) ⟨hx, hb, hml, hown, hts⟩ (t_put l D t G ak av hh3 τ n f p9 (a9 + i9) (v9 >>> ((8 * i9) &&& 31)) hn hT T_p9) ⟨cw9B 2 hts mw_76 mw_78 mw_77 rfl rfl (by decide +kernel) ⟨Nat.le_of_ble_eq_true rfl, Nat.le_of_ble_eq_true rfl⟩, hts _ mw_79, hts _ mw_80⟩ (hP_V (q := (R_Pg, F_Pg, 1)) kE_ok hE hK hH F_p9 rfl) rfl rfl hl.1 rfl (lv_room (Nat.le_of_ble_eq_true rfl)) d_Pg_putBoth_21 ⟨Nat.le_of_ble_eq_true rfl, Nat.le_of_ble_eq_true rfl⟩) hLo (fun h6 H7 locs hp9 hH z8 hLo => ?_)
    have hz : s.heap.size ≤ H7.size := Nat.le_trans hz z8
    have hT0 := hT
    obtain ⟨hT, kf11, xp10⟩ := hp9
    have F_p9 : h6 p9 = some (.inr (3, [.ref v4])) := kf_at kf11 T_p9 (by decide) (tnc (by decide) tn0) nm0 F_p9
    have hkf : kf τ [(5, f)] [] h h6 := kf_tr hkf kf11 (List.forall_mem_cons.mpr ⟨List.mem_cons_self, List.forall_mem_nil _⟩) (List.forall_mem_nil _)
    refine lv_aload_n hx hb d_Pg_putBoth_24 rfl (lv_at hl 0 rfl) ?_
    refine lv_iload_n hx hb d_Pg_putBoth_25 rfl (lv_at hl 1 rfl) ?_
    refine lv_iconst (v := 2) hx hb d_Pg_putBoth_26 (by decide) ?_
    refine lv_iload_n hx hb d_Pg_putBoth_27 rfl (lv_at hl 2 rfl) ?_
    refine lv_imul hx hb d_Pg_putBoth_28 ?_
    refine lv_iadd hx hb d_Pg_putBoth_29 ?_
    refine lv_iconst (v := 1) hx hb d_Pg_putBoth_30 (by decide) ?_
    refine lv_isub hx hb d_Pg_putBoth_31 ?_
    refine lv_iload hx hb d_Pg_putBoth_32 (lv_at hl 4 rfl) ?_
    refine lv_isub hx hb d_Pg_putBoth_34 ?_
    refine lv_iload_n hx hb d_Pg_putBoth_35 rfl (lv_at hl 3 rfl) ?_
    refine lv_bipush (v := 8) hx hb d_Pg_putBoth_36 (by decide) ?_
    refine lv_iload hx hb d_Pg_putBoth_38 (lv_at hl 4 rfl) ?_
    refine lv_imul hx hb d_Pg_putBoth_40 ?_
    refine lv_ishr hx hb d_Pg_putBoth_41 ?_
    refine hm_callv (va_runV (As := [.int (((a9 + (2 * w9)) - 1) - i9), .int (v9 >>> ((8 * i9) &&& 31))]) (b := p9) (rest := []) ⟨hx, hb, hml, hown, hts⟩ (t_put l D t G ak av h6 τ n f p9 (((a9 + (2 * w9)) - 1) - i9) (v9 >>> ((8 * i9) &&& 31)) hn hT T_p9) ⟨cw9B 2 hts mw_76 mw_78 mw_77 rfl rfl (by decide +kernel) ⟨Nat.le_of_ble_eq_true rfl, Nat.le_of_ble_eq_true rfl⟩, hts _ mw_79, hts _ mw_80⟩ (hP_V (q := (R_Pg, F_Pg, 1)) kE_ok hE hK hH F_p9 rfl) rfl rfl hl.1 rfl (lv_room (Nat.le_of_ble_eq_true rfl)) d_Pg_putBoth_42 ⟨Nat.le_of_ble_eq_true rfl, Nat.le_of_ble_eq_true rfl⟩) hLo (fun h12 H13 locs hp15 hH z14 hLo => ?_)
    have hz : s.heap.size ≤ H13.size := Nat.le_trans hz z14
    have hT0 := hT
    obtain ⟨hT, kf17, xp16⟩ := hp15
    have F_p9 : h12 p9 = some (.inr (3, [.ref v4])) := kf_at kf17 T_p9 (by decide) (tnc (by decide) tn0) nm0 F_p9
    have hkf : kf τ [(5, f)] [] h h12 := kf_tr hkf kf17 (List.forall_mem_cons.mpr ⟨List.mem_cons_self, List.forall_mem_nil _⟩) (List.forall_mem_nil _)
    refine lv_iinc (v := i9 + 1) (lv' := [(4, .int (i9 + 1)), (0, .ref p9), (1, .int a9), (2, .int w9), (3, .int v9)]) hx hb d_Pg_putBoth_45 hl (k := 4) rfl (by rfl) (by decide) rfl (fun ls hl => ?_)
    refine lv_goto (tgt := 3) hx hb d_Pg_putBoth_48 (by decide) ?_
    have is18 : (i9 + 1).toInt = i9.toInt + 1 := iAddK 1 rfl (by omega) (by omega)
    exact ih3 (mU (i9 + 1)) ls _ locs _ (by rw [hk3]; exact mU_lt (by omega)) ⟨(i9 + 1), rfl, (lv_sub hl [1, 2, 3, 4, 0] rfl), hH, hz, hLo, hT, hkf, (by omega)⟩

set_option maxHeartbeats 4000000 in
set_option maxRecDepth 100000 in
theorem t_std (l : Launch) (D : va_G) (t : Nat → ClassId) (G : hG) (ak av : Nat → Nat) (h : hM) (τ : tM) (n f : Nat) (p9 : Nat) (b9 : Int32) (hn : n ≤ 200) (hT : TI τ t n h) (T_p9 : τ p9 = (4, f)) : Met l y_Pg_fillWithStandard (.code y_Pg_fillWithStandard b_Pg_fillWithStandard 2 none :: lw_g) { frames := 5, cells := 0, slots := 0, locals := 108 } (hP (kE D t G ak av) D vwCl G h [.ref p9, .int b9]) (hQv D vwCl G (fun h' => TI τ t n h' ∧ kf τ [(5, f)] [] h h')) 0 0 G.P := by
  refine Met.ofW (cc := b_Pg_fillWithStandard) (maxL := 2) (ret := none) (by decide) rfl ?_
  intro p e s m args below meth c s₁ Bd hml hv
  obtain ⟨ha, hE, hH⟩ := hv
  have hx := Bd.exec
  have hb := Bd.bytes
  have hr := Bd.returns
  have hts : ∀ w ∈ lw_g, w.before args s = true := fun w hw => atoms_spec (ws := (.code y_Pg_fillWithStandard b_Pg_fillWithStandard 2 none :: lw_g)) Bd.pre w (List.mem_cons_of_mem _ hw)
  have hown : s.vm.findClass R_Pg = some m.cls := findClass_of_methodNamed Bd.named
  have hlocks := Bd.notSynchronized
  have hK := hE.1
  have hH0 := hH
  have hLo : hLc G.P [] := hLc_nil
  have hz : s.heap.size ≤ s.heap.size := Nat.le_refl _
  have hl := lv_entry [.ref p9, .int b9] (n := 2) (Nat.le_of_ble_eq_true rfl)
  rw [show entryFrame m args 2 = F0 m 0 ((lg_sl [.ref p9, .int b9] ++ List.replicate (2 - (lg_sl [.ref p9, .int b9]).length) Slot.unset).toArray) [] from (by rw [ha]; exact lg_entry_eq m [.ref p9, .int b9] 2)]
  generalize (lg_sl [.ref p9, .int b9] ++ List.replicate (2 - (lg_sl [.ref p9, .int b9]).length) Slot.unset).toArray = ls at hl ⊢
  have hl : lv_has ls 2 [(0, .ref p9), (1, .int b9)] := hl
  have hkf : kf τ [(5, f)] [] h h := kf_rf
  refine lv_aload_n hx hb d_Pg_fillWithStandard_0 rfl (lv_at hl 0 rfl) ?_
  obtain ⟨v1, F_p9, c2⟩ := TI_page hT T_p9
  refine hm_callv (va_runV (As := []) (b := p9) (rest := []) ⟨hx, hb, hml, hown, hts⟩ (t_clear l D t G ak av h τ n f p9 hn hT T_p9) ⟨cw9B 0 hts mw_81 mw_82 mw_77 rfl rfl (by decide +kernel) ⟨Nat.le_of_ble_eq_true rfl, Nat.le_of_ble_eq_true rfl⟩, hts _ mw_83, hts _ mw_84⟩ (hP_V (q := (R_Pg, F_Pg, 1)) kE_ok hE hK hH F_p9 rfl) rfl rfl hl.1 rfl (lv_room (Nat.le_of_ble_eq_true rfl)) d_Pg_fillWithStandard_1 ⟨Nat.le_of_ble_eq_true rfl, Nat.le_of_ble_eq_true rfl⟩) hLo (fun h3 H4 locs hp6 hH z5 hLo => ?_)
  have hz : s.heap.size ≤ H4.size := Nat.le_trans hz z5
  have hT0 := hT
  obtain ⟨hT, kf8, xp7⟩ := hp6
  have F_p9 : h3 p9 = some (.inr (3, [.ref v1])) := kf_at kf8 T_p9 (by decide) (tnc (by decide) tn0) nm0 F_p9
  have hkf : kf τ [(5, f)] [] h h3 := kf_tr hkf kf8 (List.forall_mem_cons.mpr ⟨List.mem_cons_self, List.forall_mem_nil _⟩) (List.forall_mem_nil _)
  refine lv_aload_n hx hb d_Pg_fillWithStandard_4 rfl (lv_at hl 0 rfl) ?_
  refine lv_iconst (v := 0) hx hb d_Pg_fillWithStandard_5 (by decide) ?_
  refine lv_iload_n hx hb d_Pg_fillWithStandard_6 rfl (lv_at hl 1 rfl) ?_
  refine hm_callv (va_runV (As := [.int 0, .int b9]) (b := p9) (rest := []) ⟨hx, hb, hml, hown, hts⟩ (t_put l D t G ak av h3 τ n f p9 0 b9 hn hT T_p9) ⟨cw9B 2 hts mw_76 mw_78 mw_77 rfl rfl (by decide +kernel) ⟨Nat.le_of_ble_eq_true rfl, Nat.le_of_ble_eq_true rfl⟩, hts _ mw_79, hts _ mw_80⟩ (hP_V (q := (R_Pg, F_Pg, 1)) kE_ok hE hK hH F_p9 rfl) rfl rfl hl.1 rfl (lv_room (Nat.le_of_ble_eq_true rfl)) d_Pg_fillWithStandard_7 ⟨Nat.le_of_ble_eq_true rfl, Nat.le_of_ble_eq_true rfl⟩) hLo (fun h9 H10 locs hp12 hH z11 hLo => ?_)
  have hz : s.heap.size ≤ H10.size := Nat.le_trans hz z11
  have hT0 := hT
  obtain ⟨hT, kf14, xp13⟩ := hp12
  have F_p9 : h9 p9 = some (.inr (3, [.ref v1])) := kf_at kf14 T_p9 (by decide) (tnc (by decide) tn0) nm0 F_p9
  have hkf : kf τ [(5, f)] [] h h9 := kf_tr hkf kf14 (List.forall_mem_cons.mpr ⟨List.mem_cons_self, List.forall_mem_nil _⟩) (List.forall_mem_nil _)
  refine lv_aload_n hx hb d_Pg_fillWithStandard_10 rfl (lv_at hl 0 rfl) ?_
  refine lv_iconst (v := 1) hx hb d_Pg_fillWithStandard_11 (by decide) ?_
  refine va_ldcS hx hb hown hE.2.2.2.2.2.1 d_Pg_fillWithStandard_12 ?_
  refine hm_callv (va_runV (As := [.int 1, .ref (ak 0)]) (b := p9) (rest := []) ⟨hx, hb, hml, hown, hts⟩ (t_putText l D t G ak av h9 τ n f p9 1 0 hn hT T_p9 (by decide)) ⟨cw9B 2 hts mw_85 mw_86 mw_77 rfl rfl (by decide +kernel) ⟨Nat.le_of_ble_eq_true rfl, Nat.le_of_ble_eq_true rfl⟩, hts _ mw_87, hts _ mw_88⟩ (hP_V (q := (R_Pg, F_Pg, 1)) kE_ok hE hK hH F_p9 rfl) rfl rfl hl.1 rfl (lv_room (Nat.le_of_ble_eq_true rfl)) d_Pg_fillWithStandard_14 ⟨Nat.le_of_ble_eq_true rfl, Nat.le_of_ble_eq_true rfl⟩) hLo (fun h15 H16 locs hp18 hH z17 hLo => ?_)
  have hz : s.heap.size ≤ H16.size := Nat.le_trans hz z17
  have hT0 := hT
  obtain ⟨hT, kf20, xp19⟩ := hp18
  have F_p9 : h15 p9 = some (.inr (3, [.ref v1])) := kf_at kf20 T_p9 (by decide) (tnc (by decide) tn0) nm0 F_p9
  have hkf : kf τ [(5, f)] [] h h15 := kf_tr hkf kf20 (List.forall_mem_cons.mpr ⟨List.mem_cons_self, List.forall_mem_nil _⟩) (List.forall_mem_nil _)
  refine lv_aload_n hx hb d_Pg_fillWithStandard_17 rfl (lv_at hl 0 rfl) ?_
  refine lv_bipush (v := 6) hx hb d_Pg_fillWithStandard_18 (by decide) ?_
  refine lv_iconst (v := 1) hx hb d_Pg_fillWithStandard_20 (by decide) ?_
  refine hm_callv (va_runV (As := [.int 6, .int 1]) (b := p9) (rest := []) ⟨hx, hb, hml, hown, hts⟩ (t_put l D t G ak av h15 τ n f p9 6 1 hn hT T_p9) ⟨cw9B 2 hts mw_76 mw_78 mw_77 rfl rfl (by decide +kernel) ⟨Nat.le_of_ble_eq_true rfl, Nat.le_of_ble_eq_true rfl⟩, hts _ mw_79, hts _ mw_80⟩ (hP_V (q := (R_Pg, F_Pg, 1)) kE_ok hE hK hH F_p9 rfl) rfl rfl hl.1 rfl (lv_room (Nat.le_of_ble_eq_true rfl)) d_Pg_fillWithStandard_21 ⟨Nat.le_of_ble_eq_true rfl, Nat.le_of_ble_eq_true rfl⟩) hLo (fun h21 H22 locs hp24 hH z23 hLo => ?_)
  have hz : s.heap.size ≤ H22.size := Nat.le_trans hz z23
  have hT0 := hT
  obtain ⟨hT, kf26, xp25⟩ := hp24
  have F_p9 : h21 p9 = some (.inr (3, [.ref v1])) := kf_at kf26 T_p9 (by decide) (tnc (by decide) tn0) nm0 F_p9
  have hkf : kf τ [(5, f)] [] h h21 := kf_tr hkf kf26 (List.forall_mem_cons.mpr ⟨List.mem_cons_self, List.forall_mem_nil _⟩) (List.forall_mem_nil _)
  exact W.vret hx hb hr (fun t9 ht hW => ⟨h21, rfl, ⟨hT, hkf⟩, by rw [ht]; exact hH, by rw [ht]; exact hz⟩) hLo d_Pg_fillWithStandard_24

set_option maxHeartbeats 4000000 in
set_option maxRecDepth 100000 in
theorem t_fmark (l : Launch) (D : va_G) (t : Nat → ClassId) (G : hG) (ak av : Nat → Nat) (h : hM) (τ : tM) (n f : Nat) (p9 : Nat) (b9 : Int32) (c9 : Int32) (hn : n ≤ 200) (hT : TI τ t n h) (T_p9 : τ p9 = (4, f)) : Met l y_Pg_fillWithMark (.code y_Pg_fillWithMark b_Pg_fillWithMark 3 none :: lw_g) { frames := 5, cells := 0, slots := 0, locals := 108 } (hP (kE D t G ak av) D vwCl G h [.ref p9, .int b9, .int c9]) (hQv D vwCl G (fun h' => TI τ t n h' ∧ kf τ [(5, f)] [] h h')) 0 0 G.P := by
  refine Met.ofW (cc := b_Pg_fillWithMark) (maxL := 3) (ret := none) (by decide) rfl ?_
  intro p e s m args below meth c s₁ Bd hml hv
  obtain ⟨ha, hE, hH⟩ := hv
  have hx := Bd.exec
  have hb := Bd.bytes
  have hr := Bd.returns
  have hts : ∀ w ∈ lw_g, w.before args s = true := fun w hw => atoms_spec (ws := (.code y_Pg_fillWithMark b_Pg_fillWithMark 3 none :: lw_g)) Bd.pre w (List.mem_cons_of_mem _ hw)
  have hown : s.vm.findClass R_Pg = some m.cls := findClass_of_methodNamed Bd.named
  have hlocks := Bd.notSynchronized
  have hK := hE.1
  have hH0 := hH
  have hLo : hLc G.P [] := hLc_nil
  have hz : s.heap.size ≤ s.heap.size := Nat.le_refl _
  have hl := lv_entry [.ref p9, .int b9, .int c9] (n := 3) (Nat.le_of_ble_eq_true rfl)
  rw [show entryFrame m args 3 = F0 m 0 ((lg_sl [.ref p9, .int b9, .int c9] ++ List.replicate (3 - (lg_sl [.ref p9, .int b9, .int c9]).length) Slot.unset).toArray) [] from (by rw [ha]; exact lg_entry_eq m [.ref p9, .int b9, .int c9] 3)]
  generalize (lg_sl [.ref p9, .int b9, .int c9] ++ List.replicate (3 - (lg_sl [.ref p9, .int b9, .int c9]).length) Slot.unset).toArray = ls at hl ⊢
  have hl : lv_has ls 3 [(0, .ref p9), (1, .int b9), (2, .int c9)] := hl
  have hkf : kf τ [(5, f)] [] h h := kf_rf
  refine lv_aload_n hx hb d_Pg_fillWithMark_0 rfl (lv_at hl 0 rfl) ?_
  obtain ⟨v1, F_p9, c2⟩ := TI_page hT T_p9
  refine hm_callv (va_runV (As := []) (b := p9) (rest := []) ⟨hx, hb, hml, hown, hts⟩ (t_clear l D t G ak av h τ n f p9 hn hT T_p9) ⟨cw9B 0 hts mw_81 mw_82 mw_77 rfl rfl (by decide +kernel) ⟨Nat.le_of_ble_eq_true rfl, Nat.le_of_ble_eq_true rfl⟩, hts _ mw_83, hts _ mw_84⟩ (hP_V (q := (R_Pg, F_Pg, 1)) kE_ok hE hK hH F_p9 rfl) rfl rfl hl.1 rfl (lv_room (Nat.le_of_ble_eq_true rfl)) d_Pg_fillWithMark_1 ⟨Nat.le_of_ble_eq_true rfl, Nat.le_of_ble_eq_true rfl⟩) hLo (fun h3 H4 locs hp6 hH z5 hLo => ?_)
  have hz : s.heap.size ≤ H4.size := Nat.le_trans hz z5
  have hT0 := hT
  obtain ⟨hT, kf8, xp7⟩ := hp6
  have F_p9 : h3 p9 = some (.inr (3, [.ref v1])) := kf_at kf8 T_p9 (by decide) (tnc (by decide) tn0) nm0 F_p9
  have hkf : kf τ [(5, f)] [] h h3 := kf_tr hkf kf8 (List.forall_mem_cons.mpr ⟨List.mem_cons_self, List.forall_mem_nil _⟩) (List.forall_mem_nil _)
  refine lv_aload_n hx hb d_Pg_fillWithMark_4 rfl (lv_at hl 0 rfl) ?_
  refine lv_iconst (v := 0) hx hb d_Pg_fillWithMark_5 (by decide) ?_
  refine va_ldcS hx hb hown hE.2.2.2.2.2.2.1 d_Pg_fillWithMark_6 ?_
  refine hm_callv (va_runV (As := [.int 0, .ref (ak 1)]) (b := p9) (rest := []) ⟨hx, hb, hml, hown, hts⟩ (t_putText l D t G ak av h3 τ n f p9 0 1 hn hT T_p9 (by decide)) ⟨cw9B 2 hts mw_85 mw_86 mw_77 rfl rfl (by decide +kernel) ⟨Nat.le_of_ble_eq_true rfl, Nat.le_of_ble_eq_true rfl⟩, hts _ mw_87, hts _ mw_88⟩ (hP_V (q := (R_Pg, F_Pg, 1)) kE_ok hE hK hH F_p9 rfl) rfl rfl hl.1 rfl (lv_room (Nat.le_of_ble_eq_true rfl)) d_Pg_fillWithMark_8 ⟨Nat.le_of_ble_eq_true rfl, Nat.le_of_ble_eq_true rfl⟩) hLo (fun h9 H10 locs hp12 hH z11 hLo => ?_)
  have hz : s.heap.size ≤ H10.size := Nat.le_trans hz z11
  have hT0 := hT
  obtain ⟨hT, kf14, xp13⟩ := hp12
  have F_p9 : h9 p9 = some (.inr (3, [.ref v1])) := kf_at kf14 T_p9 (by decide) (tnc (by decide) tn0) nm0 F_p9
  have hkf : kf τ [(5, f)] [] h h9 := kf_tr hkf kf14 (List.forall_mem_cons.mpr ⟨List.mem_cons_self, List.forall_mem_nil _⟩) (List.forall_mem_nil _)
  refine lv_aload_n hx hb d_Pg_fillWithMark_11 rfl (lv_at hl 0 rfl) ?_
  refine lv_iconst (v := 4) hx hb d_Pg_fillWithMark_12 (by decide) ?_
  refine lv_iconst (v := 4) hx hb d_Pg_fillWithMark_13 (by decide) ?_
  refine lv_iload_n hx hb d_Pg_fillWithMark_14 rfl (lv_at hl 1 rfl) ?_
  refine hm_callv (va_runV (As := [.int 4, .int 4, .int b9]) (b := p9) (rest := []) ⟨hx, hb, hml, hown, hts⟩ (t_putLow l D t G ak av h9 τ n f p9 4 4 b9 hn hT T_p9) ⟨cw9B 3 hts mw_89 mw_90 mw_77 rfl rfl (by decide +kernel) ⟨Nat.le_of_ble_eq_true rfl, Nat.le_of_ble_eq_true rfl⟩, hts _ mw_91, hts _ mw_92⟩ (hP_V (q := (R_Pg, F_Pg, 1)) kE_ok hE hK hH F_p9 rfl) rfl rfl hl.1 rfl (lv_room (Nat.le_of_ble_eq_true rfl)) d_Pg_fillWithMark_15 ⟨Nat.le_of_ble_eq_true rfl, Nat.le_of_ble_eq_true rfl⟩) hLo (fun h15 H16 locs hp18 hH z17 hLo => ?_)
  have hz : s.heap.size ≤ H16.size := Nat.le_trans hz z17
  have hT0 := hT
  obtain ⟨hT, kf20, xp19⟩ := hp18
  have F_p9 : h15 p9 = some (.inr (3, [.ref v1])) := kf_at kf20 T_p9 (by decide) (tnc (by decide) tn0) nm0 F_p9
  have hkf : kf τ [(5, f)] [] h h15 := kf_tr hkf kf20 (List.forall_mem_cons.mpr ⟨List.mem_cons_self, List.forall_mem_nil _⟩) (List.forall_mem_nil _)
  refine lv_aload_n hx hb d_Pg_fillWithMark_18 rfl (lv_at hl 0 rfl) ?_
  refine lv_bipush (v := 8) hx hb d_Pg_fillWithMark_19 (by decide) ?_
  refine lv_iconst (v := 4) hx hb d_Pg_fillWithMark_21 (by decide) ?_
  refine lv_iload_n hx hb d_Pg_fillWithMark_22 rfl (lv_at hl 2 rfl) ?_
  refine hm_callv (va_runV (As := [.int 8, .int 4, .int c9]) (b := p9) (rest := []) ⟨hx, hb, hml, hown, hts⟩ (t_putLow l D t G ak av h15 τ n f p9 8 4 c9 hn hT T_p9) ⟨cw9B 3 hts mw_89 mw_90 mw_77 rfl rfl (by decide +kernel) ⟨Nat.le_of_ble_eq_true rfl, Nat.le_of_ble_eq_true rfl⟩, hts _ mw_91, hts _ mw_92⟩ (hP_V (q := (R_Pg, F_Pg, 1)) kE_ok hE hK hH F_p9 rfl) rfl rfl hl.1 rfl (lv_room (Nat.le_of_ble_eq_true rfl)) d_Pg_fillWithMark_23 ⟨Nat.le_of_ble_eq_true rfl, Nat.le_of_ble_eq_true rfl⟩) hLo (fun h21 H22 locs hp24 hH z23 hLo => ?_)
  have hz : s.heap.size ≤ H22.size := Nat.le_trans hz z23
  have hT0 := hT
  obtain ⟨hT, kf26, xp25⟩ := hp24
  have F_p9 : h21 p9 = some (.inr (3, [.ref v1])) := kf_at kf26 T_p9 (by decide) (tnc (by decide) tn0) nm0 F_p9
  have hkf : kf τ [(5, f)] [] h h21 := kf_tr hkf kf26 (List.forall_mem_cons.mpr ⟨List.mem_cons_self, List.forall_mem_nil _⟩) (List.forall_mem_nil _)
  exact W.vret hx hb hr (fun t9 ht hW => ⟨h21, rfl, ⟨hT, hkf⟩, by rw [ht]; exact hH, by rw [ht]; exact hz⟩) hLo d_Pg_fillWithMark_26
