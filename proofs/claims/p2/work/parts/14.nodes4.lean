set_option maxRecDepth 100000 in
theorem mw_152 : Cond.fieldLink R_Ns 17 "WriteOnceDisc$Nodes" "order" "[LWriteOnceDisc$Node;" ∈ lw_g := lw_gin (List.mem_append_right _ (List.mem_of_getElem? (i := 182) rfl)) (by decide +kernel)
set_option maxRecDepth 100000 in
theorem mw_153 : Cond.code y_No_comesBefore b_No_comesBefore 6 (some .boolean) ∈ lw_g := lw_gin (List.mem_append_right _ (List.mem_of_getElem? (i := 463) rfl)) (by decide +kernel)
set_option maxRecDepth 100000 in
theorem mw_154 : Cond.methodLink R_Ns 90 y_No_comesBefore ∈ lw_g := lw_gin (List.mem_append_right _ (List.mem_of_getElem? (i := 460) rfl)) (by decide +kernel)
set_option maxRecDepth 100000 in
theorem mw_155 : Cond.instanceMethod y_No_comesBefore ∈ lw_g := lw_gin (List.mem_append_right _ (List.mem_of_getElem? (i := 461) rfl)) (by decide +kernel)
set_option maxRecDepth 100000 in
theorem mw_156 : Cond.selects R_No y_No_comesBefore y_No_comesBefore ∈ lw_g := lw_gin (List.mem_append_right _ (List.mem_of_getElem? (i := 462) rfl)) (by decide +kernel)
set_option maxRecDepth 100000 in
theorem mw_157 : Cond.code y_Ns_listChildren b_Ns_listChildren 6 (some .int) ∈ lw_g := lw_gin (List.mem_append_right _ (List.mem_of_getElem? (i := 459) rfl)) (by decide +kernel)
set_option maxRecDepth 100000 in
theorem mw_158 : Cond.methodLink R_Ns 86 y_Ns_listChildren ∈ lw_g := lw_gin (List.mem_append_right _ (List.mem_of_getElem? (i := 456) rfl)) (by decide +kernel)
set_option maxRecDepth 100000 in
theorem mw_159 : Cond.instanceMethod y_Ns_listChildren ∈ lw_g := lw_gin (List.mem_append_right _ (List.mem_of_getElem? (i := 458) rfl)) (by decide +kernel)
set_option maxRecDepth 100000 in
theorem mw_160 : Cond.selects R_Ns y_Ns_listChildren y_Ns_listChildren ∈ lw_g := lw_gin (List.mem_append_left _ (List.mem_of_getElem? (i := 3) rfl)) (by decide +kernel)
set_option maxRecDepth 100000 in
theorem mw_161 : Cond.fieldLink R_Ns 62 "WriteOnceDisc$Node" "sector" "I" ∈ lw_g := lw_gin (List.mem_append_right _ (List.mem_of_getElem? (i := 125) rfl)) (by decide +kernel)
set_option maxRecDepth 100000 in
theorem mw_162 : Cond.methodLink R_Ns 65 y_No_settle ∈ lw_g := lw_gin (List.mem_append_right _ (List.mem_of_getElem? (i := 763) rfl)) (by decide +kernel)
set_option maxRecDepth 100000 in
theorem mw_163 : Cond.code y_Ns_append b_Ns_append 2 (some (.object "WriteOnceDisc$Node")) ∈ lw_g := lw_gin (List.mem_append_right _ (List.mem_of_getElem? (i := 313) rfl)) (by decide +kernel)
set_option maxRecDepth 100000 in
theorem mw_164 : Cond.methodLink R_Ns 28 y_Ns_append ∈ lw_g := lw_gin (List.mem_append_right _ (List.mem_of_getElem? (i := 603) rfl)) (by decide +kernel)
set_option maxRecDepth 100000 in
theorem mw_165 : Cond.instanceMethod y_Ns_append ∈ lw_g := lw_gin (List.mem_append_right _ (List.mem_of_getElem? (i := 311) rfl)) (by decide +kernel)
set_option maxRecDepth 100000 in
theorem mw_166 : Cond.selects R_Ns y_Ns_append y_Ns_append ∈ lw_g := lw_gin (List.mem_append_right _ (List.mem_of_getElem? (i := 312) rfl)) (by decide +kernel)
set_option maxRecDepth 100000 in
theorem mw_167 : Cond.code y_No_become b_No_become 5 none ∈ lw_g := lw_gin (List.mem_append_right _ (List.mem_of_getElem? (i := 317) rfl)) (by decide +kernel)
set_option maxRecDepth 100000 in
theorem mw_168 : Cond.methodLink R_Ns 32 y_No_become ∈ lw_g := lw_gin (List.mem_append_right _ (List.mem_of_getElem? (i := 604) rfl)) (by decide +kernel)
set_option maxRecDepth 100000 in
theorem mw_169 : Cond.instanceMethod y_No_become ∈ lw_g := lw_gin (List.mem_append_right _ (List.mem_of_getElem? (i := 315) rfl)) (by decide +kernel)
set_option maxRecDepth 100000 in
theorem mw_170 : Cond.selects R_No y_No_become y_No_become ∈ lw_g := lw_gin (List.mem_append_right _ (List.mem_of_getElem? (i := 316) rfl)) (by decide +kernel)
theorem d_Ns_listChildren_0 : decode b_Ns_listChildren 0 = .ok (.iload_n 2, 1) := by decide +kernel
theorem d_Ns_listChildren_1 : decode b_Ns_listChildren 1 = .ok (.istore_n 3, 1) := by decide +kernel
theorem d_Ns_listChildren_2 : decode b_Ns_listChildren 2 = .ok (.iconst 0, 1) := by decide +kernel
theorem d_Ns_listChildren_3 : decode b_Ns_listChildren 3 = .ok (.istore 4, 2) := by decide +kernel
theorem d_Ns_listChildren_5 : decode b_Ns_listChildren 5 = .ok (.iload 4, 2) := by decide +kernel
theorem d_Ns_listChildren_7 : decode b_Ns_listChildren 7 = .ok (.aload_n 0, 1) := by decide +kernel
theorem d_Ns_listChildren_8 : decode b_Ns_listChildren 8 = .ok (.getfield 20, 3) := by decide +kernel
theorem d_Ns_listChildren_11 : decode b_Ns_listChildren 11 = .ok (.if_icmp .ge 99, 3) := by decide +kernel
theorem d_Ns_listChildren_110 : decode b_Ns_listChildren 110 = .ok (.iload_n 3, 1) := by decide +kernel
theorem d_Ns_listChildren_111 : decode b_Ns_listChildren 111 = .ok (.ireturn, 1) := by decide +kernel
theorem d_Ns_listChildren_14 : decode b_Ns_listChildren 14 = .ok (.iload_n 3, 1) := by decide +kernel
theorem d_Ns_listChildren_15 : decode b_Ns_listChildren 15 = .ok (.bipush 30, 2) := by decide +kernel
theorem d_Ns_listChildren_17 : decode b_Ns_listChildren 17 = .ok (.if_icmp .ge 93, 3) := by decide +kernel
theorem d_Ns_listChildren_20 : decode b_Ns_listChildren 20 = .ok (.aload_n 0, 1) := by decide +kernel
theorem d_Ns_listChildren_21 : decode b_Ns_listChildren 21 = .ok (.getfield 11, 3) := by decide +kernel
theorem d_Ns_listChildren_24 : decode b_Ns_listChildren 24 = .ok (.iload 4, 2) := by decide +kernel
theorem d_Ns_listChildren_26 : decode b_Ns_listChildren 26 = .ok (.aaload, 1) := by decide +kernel
theorem d_Ns_listChildren_27 : decode b_Ns_listChildren 27 = .ok (.getfield 54, 3) := by decide +kernel
theorem d_Ns_listChildren_30 : decode b_Ns_listChildren 30 = .ok (.aload_n 1, 1) := by decide +kernel
theorem d_Ns_listChildren_31 : decode b_Ns_listChildren 31 = .ok (.if_acmp .ne 73, 3) := by decide +kernel
theorem d_Ns_listChildren_104 : decode b_Ns_listChildren 104 = .ok (.iinc 4 1, 3) := by decide +kernel
theorem d_Ns_listChildren_107 : decode b_Ns_listChildren 107 = .ok (.goto (-102), 3) := by decide +kernel
theorem d_Ns_listChildren_34 : decode b_Ns_listChildren 34 = .ok (.iload_n 3, 1) := by decide +kernel
theorem d_Ns_listChildren_35 : decode b_Ns_listChildren 35 = .ok (.istore 5, 2) := by decide +kernel
theorem d_Ns_listChildren_37 : decode b_Ns_listChildren 37 = .ok (.iload 5, 2) := by decide +kernel
theorem d_Ns_listChildren_39 : decode b_Ns_listChildren 39 = .ok (.iload_n 2, 1) := by decide +kernel
theorem d_Ns_listChildren_40 : decode b_Ns_listChildren 40 = .ok (.if_icmp .le 47, 3) := by decide +kernel
theorem d_Ns_listChildren_87 : decode b_Ns_listChildren 87 = .ok (.aload_n 0, 1) := by decide +kernel
theorem d_Ns_listChildren_88 : decode b_Ns_listChildren 88 = .ok (.getfield 17, 3) := by decide +kernel
theorem d_Ns_listChildren_91 : decode b_Ns_listChildren 91 = .ok (.iload 5, 2) := by decide +kernel
theorem d_Ns_listChildren_93 : decode b_Ns_listChildren 93 = .ok (.aload_n 0, 1) := by decide +kernel
theorem d_Ns_listChildren_94 : decode b_Ns_listChildren 94 = .ok (.getfield 11, 3) := by decide +kernel
theorem d_Ns_listChildren_97 : decode b_Ns_listChildren 97 = .ok (.iload 4, 2) := by decide +kernel
theorem d_Ns_listChildren_99 : decode b_Ns_listChildren 99 = .ok (.aaload, 1) := by decide +kernel
theorem d_Ns_listChildren_100 : decode b_Ns_listChildren 100 = .ok (.aastore, 1) := by decide +kernel
theorem d_Ns_listChildren_101 : decode b_Ns_listChildren 101 = .ok (.iinc 3 1, 3) := by decide +kernel
theorem d_Ns_listChildren_43 : decode b_Ns_listChildren 43 = .ok (.aload_n 0, 1) := by decide +kernel
theorem d_Ns_listChildren_44 : decode b_Ns_listChildren 44 = .ok (.getfield 11, 3) := by decide +kernel
theorem d_Ns_listChildren_47 : decode b_Ns_listChildren 47 = .ok (.iload 4, 2) := by decide +kernel
theorem d_Ns_listChildren_49 : decode b_Ns_listChildren 49 = .ok (.aaload, 1) := by decide +kernel
theorem d_Ns_listChildren_50 : decode b_Ns_listChildren 50 = .ok (.aload_n 0, 1) := by decide +kernel
theorem d_Ns_listChildren_51 : decode b_Ns_listChildren 51 = .ok (.getfield 17, 3) := by decide +kernel
theorem d_Ns_listChildren_54 : decode b_Ns_listChildren 54 = .ok (.iload 5, 2) := by decide +kernel
theorem d_Ns_listChildren_56 : decode b_Ns_listChildren 56 = .ok (.iconst 1, 1) := by decide +kernel
theorem d_Ns_listChildren_57 : decode b_Ns_listChildren 57 = .ok (.isub, 1) := by decide +kernel
theorem d_Ns_listChildren_58 : decode b_Ns_listChildren 58 = .ok (.aaload, 1) := by decide +kernel
theorem d_Ns_listChildren_59 : decode b_Ns_listChildren 59 = .ok (.invokevirtual 90, 3) := by decide +kernel
theorem d_Ns_listChildren_62 : decode b_Ns_listChildren 62 = .ok (.ifCond .eq 25, 3) := by decide +kernel
theorem d_Ns_listChildren_65 : decode b_Ns_listChildren 65 = .ok (.aload_n 0, 1) := by decide +kernel
theorem d_Ns_listChildren_66 : decode b_Ns_listChildren 66 = .ok (.getfield 17, 3) := by decide +kernel
theorem d_Ns_listChildren_69 : decode b_Ns_listChildren 69 = .ok (.iload 5, 2) := by decide +kernel
theorem d_Ns_listChildren_71 : decode b_Ns_listChildren 71 = .ok (.aload_n 0, 1) := by decide +kernel
theorem d_Ns_listChildren_72 : decode b_Ns_listChildren 72 = .ok (.getfield 17, 3) := by decide +kernel
theorem d_Ns_listChildren_75 : decode b_Ns_listChildren 75 = .ok (.iload 5, 2) := by decide +kernel
theorem d_Ns_listChildren_77 : decode b_Ns_listChildren 77 = .ok (.iconst 1, 1) := by decide +kernel
theorem d_Ns_listChildren_78 : decode b_Ns_listChildren 78 = .ok (.isub, 1) := by decide +kernel
theorem d_Ns_listChildren_79 : decode b_Ns_listChildren 79 = .ok (.aaload, 1) := by decide +kernel
theorem d_Ns_listChildren_80 : decode b_Ns_listChildren 80 = .ok (.aastore, 1) := by decide +kernel
theorem d_Ns_listChildren_81 : decode b_Ns_listChildren 81 = .ok (.iinc 5 (-1), 3) := by decide +kernel
theorem d_Ns_listChildren_84 : decode b_Ns_listChildren 84 = .ok (.goto (-47), 3) := by decide +kernel
theorem d_Ns_putInOrder_0 : decode b_Ns_putInOrder 0 = .ok (.aload_n 0, 1) := by decide +kernel
theorem d_Ns_putInOrder_1 : decode b_Ns_putInOrder 1 = .ok (.getfield 17, 3) := by decide +kernel
theorem d_Ns_putInOrder_4 : decode b_Ns_putInOrder 4 = .ok (.iconst 0, 1) := by decide +kernel
theorem d_Ns_putInOrder_5 : decode b_Ns_putInOrder 5 = .ok (.aload_n 0, 1) := by decide +kernel
theorem d_Ns_putInOrder_6 : decode b_Ns_putInOrder 6 = .ok (.getfield 11, 3) := by decide +kernel
theorem d_Ns_putInOrder_9 : decode b_Ns_putInOrder 9 = .ok (.iconst 0, 1) := by decide +kernel
theorem d_Ns_putInOrder_10 : decode b_Ns_putInOrder 10 = .ok (.aaload, 1) := by decide +kernel
theorem d_Ns_putInOrder_11 : decode b_Ns_putInOrder 11 = .ok (.aastore, 1) := by decide +kernel
theorem d_Ns_putInOrder_12 : decode b_Ns_putInOrder 12 = .ok (.iconst 1, 1) := by decide +kernel
theorem d_Ns_putInOrder_13 : decode b_Ns_putInOrder 13 = .ok (.istore_n 1, 1) := by decide +kernel
theorem d_Ns_putInOrder_14 : decode b_Ns_putInOrder 14 = .ok (.iconst 0, 1) := by decide +kernel
theorem d_Ns_putInOrder_15 : decode b_Ns_putInOrder 15 = .ok (.istore_n 2, 1) := by decide +kernel
theorem d_Ns_putInOrder_16 : decode b_Ns_putInOrder 16 = .ok (.iload_n 2, 1) := by decide +kernel
theorem d_Ns_putInOrder_17 : decode b_Ns_putInOrder 17 = .ok (.iload_n 1, 1) := by decide +kernel
theorem d_Ns_putInOrder_18 : decode b_Ns_putInOrder 18 = .ok (.if_icmp .ge 39, 3) := by decide +kernel
theorem d_Ns_putInOrder_57 : decode b_Ns_putInOrder 57 = .ok (.return_, 1) := by decide +kernel
theorem d_Ns_putInOrder_21 : decode b_Ns_putInOrder 21 = .ok (.iload_n 2, 1) := by decide +kernel
theorem d_Ns_putInOrder_22 : decode b_Ns_putInOrder 22 = .ok (.bipush 30, 2) := by decide +kernel
theorem d_Ns_putInOrder_24 : decode b_Ns_putInOrder 24 = .ok (.if_icmp .ge 33, 3) := by decide +kernel
theorem d_Ns_putInOrder_27 : decode b_Ns_putInOrder 27 = .ok (.aload_n 0, 1) := by decide +kernel
theorem d_Ns_putInOrder_28 : decode b_Ns_putInOrder 28 = .ok (.getfield 17, 3) := by decide +kernel
theorem d_Ns_putInOrder_31 : decode b_Ns_putInOrder 31 = .ok (.iload_n 2, 1) := by decide +kernel
theorem d_Ns_putInOrder_32 : decode b_Ns_putInOrder 32 = .ok (.aaload, 1) := by decide +kernel
theorem d_Ns_putInOrder_33 : decode b_Ns_putInOrder 33 = .ok (.getfield 58, 3) := by decide +kernel
theorem d_Ns_putInOrder_36 : decode b_Ns_putInOrder 36 = .ok (.ifCond .eq 15, 3) := by decide +kernel
theorem d_Ns_putInOrder_51 : decode b_Ns_putInOrder 51 = .ok (.iinc 2 1, 3) := by decide +kernel
theorem d_Ns_putInOrder_54 : decode b_Ns_putInOrder 54 = .ok (.goto (-38), 3) := by decide +kernel
theorem d_Ns_putInOrder_39 : decode b_Ns_putInOrder 39 = .ok (.aload_n 0, 1) := by decide +kernel
theorem d_Ns_putInOrder_40 : decode b_Ns_putInOrder 40 = .ok (.aload_n 0, 1) := by decide +kernel
theorem d_Ns_putInOrder_41 : decode b_Ns_putInOrder 41 = .ok (.getfield 17, 3) := by decide +kernel
theorem d_Ns_putInOrder_44 : decode b_Ns_putInOrder 44 = .ok (.iload_n 2, 1) := by decide +kernel
theorem d_Ns_putInOrder_45 : decode b_Ns_putInOrder 45 = .ok (.aaload, 1) := by decide +kernel
theorem d_Ns_putInOrder_46 : decode b_Ns_putInOrder 46 = .ok (.iload_n 1, 1) := by decide +kernel
theorem d_Ns_putInOrder_47 : decode b_Ns_putInOrder 47 = .ok (.invokevirtual 86, 3) := by decide +kernel
theorem d_Ns_putInOrder_50 : decode b_Ns_putInOrder 50 = .ok (.istore_n 1, 1) := by decide +kernel
theorem d_Ns_settle_0 : decode b_Ns_settle 0 = .ok (.iconst 0, 1) := by decide +kernel
theorem d_Ns_settle_1 : decode b_Ns_settle 1 = .ok (.istore_n 1, 1) := by decide +kernel
theorem d_Ns_settle_2 : decode b_Ns_settle 2 = .ok (.iload_n 1, 1) := by decide +kernel
theorem d_Ns_settle_3 : decode b_Ns_settle 3 = .ok (.aload_n 0, 1) := by decide +kernel
theorem d_Ns_settle_4 : decode b_Ns_settle 4 = .ok (.getfield 20, 3) := by decide +kernel
theorem d_Ns_settle_7 : decode b_Ns_settle 7 = .ok (.if_icmp .ge 39, 3) := by decide +kernel
theorem d_Ns_settle_46 : decode b_Ns_settle 46 = .ok (.return_, 1) := by decide +kernel
theorem d_Ns_settle_10 : decode b_Ns_settle 10 = .ok (.aload_n 0, 1) := by decide +kernel
theorem d_Ns_settle_11 : decode b_Ns_settle 11 = .ok (.getfield 11, 3) := by decide +kernel
theorem d_Ns_settle_14 : decode b_Ns_settle 14 = .ok (.iload_n 1, 1) := by decide +kernel
theorem d_Ns_settle_15 : decode b_Ns_settle 15 = .ok (.aaload, 1) := by decide +kernel
theorem d_Ns_settle_16 : decode b_Ns_settle 16 = .ok (.getfield 58, 3) := by decide +kernel
theorem d_Ns_settle_19 : decode b_Ns_settle 19 = .ok (.ifCond .ne 21, 3) := by decide +kernel
theorem d_Ns_settle_40 : decode b_Ns_settle 40 = .ok (.iinc 1 1, 3) := by decide +kernel
theorem d_Ns_settle_43 : decode b_Ns_settle 43 = .ok (.goto (-41), 3) := by decide +kernel
theorem d_Ns_settle_22 : decode b_Ns_settle 22 = .ok (.aload_n 0, 1) := by decide +kernel
theorem d_Ns_settle_23 : decode b_Ns_settle 23 = .ok (.getfield 11, 3) := by decide +kernel
theorem d_Ns_settle_26 : decode b_Ns_settle 26 = .ok (.iload_n 1, 1) := by decide +kernel
theorem d_Ns_settle_27 : decode b_Ns_settle 27 = .ok (.aaload, 1) := by decide +kernel
theorem d_Ns_settle_28 : decode b_Ns_settle 28 = .ok (.aload_n 0, 1) := by decide +kernel
theorem d_Ns_settle_29 : decode b_Ns_settle 29 = .ok (.getfield 11, 3) := by decide +kernel
theorem d_Ns_settle_32 : decode b_Ns_settle 32 = .ok (.iload_n 1, 1) := by decide +kernel
theorem d_Ns_settle_33 : decode b_Ns_settle 33 = .ok (.aaload, 1) := by decide +kernel
theorem d_Ns_settle_34 : decode b_Ns_settle 34 = .ok (.getfield 62, 3) := by decide +kernel
theorem d_Ns_settle_37 : decode b_Ns_settle 37 = .ok (.invokevirtual 65, 3) := by decide +kernel
theorem d_Ns_becomeRootAlone_0 : decode b_Ns_becomeRootAlone 0 = .ok (.aload_n 0, 1) := by decide +kernel
theorem d_Ns_becomeRootAlone_1 : decode b_Ns_becomeRootAlone 1 = .ok (.iconst 0, 1) := by decide +kernel
theorem d_Ns_becomeRootAlone_2 : decode b_Ns_becomeRootAlone 2 = .ok (.putfield 20, 3) := by decide +kernel
theorem d_Ns_becomeRootAlone_5 : decode b_Ns_becomeRootAlone 5 = .ok (.aload_n 0, 1) := by decide +kernel
theorem d_Ns_becomeRootAlone_6 : decode b_Ns_becomeRootAlone 6 = .ok (.iconst 0, 1) := by decide +kernel
theorem d_Ns_becomeRootAlone_7 : decode b_Ns_becomeRootAlone 7 = .ok (.putfield 24, 3) := by decide +kernel
theorem d_Ns_becomeRootAlone_10 : decode b_Ns_becomeRootAlone 10 = .ok (.aload_n 0, 1) := by decide +kernel
theorem d_Ns_becomeRootAlone_11 : decode b_Ns_becomeRootAlone 11 = .ok (.invokevirtual 28, 3) := by decide +kernel
theorem d_Ns_becomeRootAlone_14 : decode b_Ns_becomeRootAlone 14 = .ok (.astore_n 1, 1) := by decide +kernel
theorem d_Ns_becomeRootAlone_15 : decode b_Ns_becomeRootAlone 15 = .ok (.aload_n 1, 1) := by decide +kernel
theorem d_Ns_becomeRootAlone_16 : decode b_Ns_becomeRootAlone 16 = .ok (.ifnull 10, 3) := by decide +kernel
theorem d_Ns_becomeRootAlone_19 : decode b_Ns_becomeRootAlone 19 = .ok (.aload_n 1, 1) := by decide +kernel
theorem d_Ns_becomeRootAlone_20 : decode b_Ns_becomeRootAlone 20 = .ok (.aconst_null, 1) := by decide +kernel
theorem d_Ns_becomeRootAlone_21 : decode b_Ns_becomeRootAlone 21 = .ok (.iconst 1, 1) := by decide +kernel
theorem d_Ns_becomeRootAlone_22 : decode b_Ns_becomeRootAlone 22 = .ok (.lconst 0, 1) := by decide +kernel
theorem d_Ns_becomeRootAlone_23 : decode b_Ns_becomeRootAlone 23 = .ok (.invokevirtual 32, 3) := by decide +kernel
theorem d_Ns_becomeRootAlone_26 : decode b_Ns_becomeRootAlone 26 = .ok (.return_, 1) := by decide +kernel
set_option maxHeartbeats 4000000 in
set_option maxRecDepth 100000 in
theorem t_lchild (l : Launch) (D : va_G) (t : Nat → ClassId) (G : hG) (ak av : Nat → Nat) (h : hM) (τ : tM) (n f : Nat) (P9 : Nat) (d9 : Nat) (lq9 : Int32) (hn : n ≤ 200) (hT : TI τ t n h) (T_P9 : τ P9 = (7, f)) (T_d9 : τ d9 = (10, f)) (hls : 0 ≤ lq9.toInt ∧ lq9.toInt ≤ 30) : Met l y_Ns_listChildren (.code y_Ns_listChildren b_Ns_listChildren 6 (some .int) :: lw_g) { frames := 6, cells := 0, slots := 0, locals := 132 } (hP (kE D t G ak av) D vwCl G h [.ref P9, .ref d9, .int lq9]) (hQi D vwCl G (fun r h' => TI τ t n h' ∧ kf τ [(9, f)] [] h h' ∧ (lq9.toInt ≤ r.toInt ∧ r.toInt ≤ 30))) 0 0 G.P := by
  refine Met.ofW (cc := b_Ns_listChildren) (maxL := 6) (ret := (some .int)) (by decide) rfl ?_
  intro p e s m args below meth c s₁ Bd hml hv
  obtain ⟨ha, hE, hH⟩ := hv
  have hx := Bd.exec
  have hb := Bd.bytes
  have hr := Bd.returns
  have hts : ∀ w ∈ lw_g, w.before args s = true := fun w hw => atoms_spec (ws := (.code y_Ns_listChildren b_Ns_listChildren 6 (some .int) :: lw_g)) Bd.pre w (List.mem_cons_of_mem _ hw)
  have hown : s.vm.findClass R_Ns = some m.cls := findClass_of_methodNamed Bd.named
  have hlocks := Bd.notSynchronized
  have hK := hE.1
  have hH0 := hH
  have hLo : hLc G.P [] := hLc_nil
  have hz : s.heap.size ≤ s.heap.size := Nat.le_refl _
  have hl := lv_entry [.ref P9, .ref d9, .int lq9] (n := 6) (Nat.le_of_ble_eq_true rfl)
  rw [show entryFrame m args 6 = F0 m 0 ((lg_sl [.ref P9, .ref d9, .int lq9] ++ List.replicate (6 - (lg_sl [.ref P9, .ref d9, .int lq9]).length) Slot.unset).toArray) [] from (by rw [ha]; exact lg_entry_eq m [.ref P9, .ref d9, .int lq9] 6)]
  generalize (lg_sl [.ref P9, .ref d9, .int lq9] ++ List.replicate (6 - (lg_sl [.ref P9, .ref d9, .int lq9]).length) Slot.unset).toArray = ls at hl ⊢
  have hl : lv_has ls 6 [(0, .ref P9), (1, .ref d9), (2, .int lq9)] := hl
  have hkf : kf τ [(9, f)] [] h h := kf_rf
  refine lv_iload_n hx hb d_Ns_listChildren_0 rfl (lv_at hl 2 rfl) ?_
  refine lv_istore_n (lv' := [(3, .int lq9), (0, .ref P9), (1, .ref d9), (2, .int lq9)]) hx hb d_Ns_listChildren_1 rfl hl (by decide) rfl (fun ls hl => ?_)
  refine lv_iconst (v := 0) hx hb d_Ns_listChildren_2 (by decide) ?_
  refine lv_istore (lv' := [(4, .int 0), (3, .int lq9), (0, .ref P9), (1, .ref d9), (2, .int lq9)]) hx hb d_Ns_listChildren_3 hl (by decide) rfl (fun ls hl => ?_)
  refine hm_loop (fun k5 ls H locs hh5 => ∃ (en9 : Int32) (i9 : Int32), k5 = mU i9 ∧ lv_has ls 6 [(0, .ref P9), (1, .ref d9), (2, .int lq9), (3, .int en9), (4, .int i9)] ∧ hm D vwCl G hh5 H ∧ s.heap.size ≤ H.size ∧ hLc G.P locs ∧ (TI τ t n hh5) ∧ (kf τ [(9, f)] [] h hh5) ∧ (0 ≤ i9.toInt) ∧ (lq9.toInt ≤ en9.toInt ∧ en9.toInt ≤ 30)) ?_ (hh := h) ⟨lq9, 0, rfl, (lv_sub hl [2, 3, 4, 1, 0] rfl), hH, hz, hLo, hT, hkf, (by decide), ⟨by omega, by omega⟩⟩
  rintro k5 ls H locs hh5 ⟨en9, i9, hk5, hl, hH, hz, hLo, hT, hkf, I_i9, I_en⟩ ih5
  refine lv_iload hx hb d_Ns_listChildren_5 (lv_at hl 4 rfl) ?_
  refine lv_aload_n hx hb d_Ns_listChildren_7 rfl (lv_at hl 0 rfl) ?_
  obtain ⟨v_1, v_3, v_5, v_7, F_P9, c_2, c_4, c_6⟩ := TI_nds hT T_P9
  refine hm_get (ci := 2) (v := .int v_5) (C := R_Ns) (T := F_Ns) (N := 4) hx hb hts ig_Ns hown hK hH F_P9 rfl 2 (by decide) (hts _ mw_128) (fun _ h9 => h9) rfl d_Ns_listChildren_8 ?_
  refine lv_icmp_ge (tgt := 110) hx hb d_Ns_listChildren_11 (by decide) (fun hc_8 => ?_) (fun hc_8 => ?_)
  · skip
    have ic_9 : v_5.toInt ≤ i9.toInt := iLe hc_8
    refine lv_iload_n hx hb d_Ns_listChildren_110 rfl (lv_at hl 3 rfl) ?_
    exact W.iret (v := en9) hx hb hr (fun t9 ht hW => ⟨en9, hh5, rfl, ⟨hT, hkf, ⟨by omega, by omega⟩⟩, by rw [ht]; exact hH, by rw [ht]; exact hz⟩) hLo d_Ns_listChildren_111
  · skip
    have ic_10 : i9.toInt < v_5.toInt := iNe hc_8
    have iu_11 : v_5.toInt < 2147483648 := iUp _
    refine lv_iload_n hx hb d_Ns_listChildren_14 rfl (lv_at hl 3 rfl) ?_
    refine lv_bipush (v := 30) hx hb d_Ns_listChildren_15 (by decide) ?_
    refine lv_icmp_ge (tgt := 110) hx hb d_Ns_listChildren_17 (by decide) (fun hc_12 => ?_) (fun hc_12 => ?_)
    · skip
      have ic_13 : 30 ≤ en9.toInt := iLe hc_12
      refine lv_iload_n hx hb d_Ns_listChildren_110 rfl (lv_at hl 3 rfl) ?_
      exact W.iret (v := en9) hx hb hr (fun t9 ht hW => ⟨en9, hh5, rfl, ⟨hT, hkf, ⟨by omega, by omega⟩⟩, by rw [ht]; exact hH, by rw [ht]; exact hz⟩) hLo d_Ns_listChildren_111
    · skip
      have ic_14 : en9.toInt < 30 := iNe hc_12
      refine lv_aload_n hx hb d_Ns_listChildren_20 rfl (lv_at hl 0 rfl) ?_
      refine hm_get (ci := 2) (v := .ref v_1) (C := R_Ns) (T := F_Ns) (N := 4) hx hb hts ig_Ns hown hK hH F_P9 rfl 0 (by decide) (hts _ mw_129) (fun _ h9 => h9) rfl d_Ns_listChildren_21 ?_
      refine lv_iload hx hb d_Ns_listChildren_24 (lv_at hl 4 rfl) ?_
      obtain ⟨g_15, F_v_1, c_16, c_17⟩ := TI_slo hT c_2
      obtain ⟨a_18, e_19, T_20⟩ := c_16 i9.toNatClampNeg (iCl (by omega) (by omega))
      refine hm_aald (v := .ref a_18) hx hb hK hH 4 F_v_1 (C := R_No) rfl (iIn (by omega) (by omega)) (by rw [e_19]; rfl) d_Ns_listChildren_26 ?_
      obtain ⟨v_21, v_22, v_24, v_26, v_27, v_29, v_30, v_31, v_33, v_34, v_35, F_a_18, c_23, c_25, c_28, c_32⟩ := TI_node hT T_20
      refine hm_get (ci := 1) (v := va_rf v_22) (C := R_No) (T := F_No) (N := 11) hx hb hts ig_No hown hK hH F_a_18 rfl 1 (by decide) (hts _ mw_137) (fun _ h9 => h9) rfl d_Ns_listChildren_27 ?_
      refine lv_aload_n hx hb d_Ns_listChildren_30 rfl (lv_at hl 1 rfl) ?_
      refine lv_acmp_ne (rx := v_22) (ry := some d9) (tgt := 104) hx hb d_Ns_listChildren_31 (by decide) (fun hc_36 => ?_) (fun hc_36 => ?_)
      · skip
        obtain ⟨j_37, e_38⟩ : ∃ z : Int32, z = i9 + 1 := ⟨_, rfl⟩
        refine lv_iinc (v := j_37) (lv' := [(4, .int j_37), (0, .ref P9), (1, .ref d9), (2, .int lq9), (3, .int en9)]) hx hb d_Ns_listChildren_104 hl (k := 4) rfl e_38.symm (by decide) rfl (fun ls hl => ?_)
        refine lv_goto (tgt := 5) hx hb d_Ns_listChildren_107 (by decide) ?_
        have is_39 : j_37.toInt = i9.toInt + 1 := by rw [e_38]; exact iAddK 1 rfl (by omega) (by omega)
        exact ih5 (mU j_37) ls _ locs _ (by rw [hk5]; exact mU_lt (by omega)) ⟨en9, j_37, rfl, (lv_sub hl [1, 2, 3, 4, 0] rfl), hH, hz, hLo, hT, hkf, (by omega), ⟨by omega, by omega⟩⟩
      · skip
        refine lv_iload_n hx hb d_Ns_listChildren_34 rfl (lv_at hl 3 rfl) ?_
        refine lv_istore (lv' := [(5, .int en9), (0, .ref P9), (1, .ref d9), (2, .int lq9), (3, .int en9), (4, .int i9)]) hx hb d_Ns_listChildren_35 hl (by decide) rfl (fun ls hl => ?_)
        refine hm_loop (fun k37 ls H locs hh37 => ∃ (at9 : Int32), k37 = at9.toInt.toNat ∧ lv_has ls 6 [(0, .ref P9), (1, .ref d9), (2, .int lq9), (3, .int en9), (4, .int i9), (5, .int at9)] ∧ hm D vwCl G hh37 H ∧ s.heap.size ≤ H.size ∧ hLc G.P locs ∧ (TI τ t n hh37) ∧ (kf τ [(9, f)] [] h hh37) ∧ (lq9.toInt ≤ at9.toInt ∧ at9.toInt ≤ en9.toInt)) ?_ (hh := hh5) ⟨en9, rfl, (lv_sub hl [1, 2, 3, 4, 5, 0] rfl), hH, hz, hLo, hT, hkf, ⟨by omega, by omega⟩⟩
        rintro k37 ls H locs hh37 ⟨at9, hk37, hl, hH, hz, hLo, hT, hkf, I_at⟩ ih37
        refine lv_iload hx hb d_Ns_listChildren_37 (lv_at hl 5 rfl) ?_
        refine lv_iload_n hx hb d_Ns_listChildren_39 rfl (lv_at hl 2 rfl) ?_
        refine lv_icmp_le (tgt := 87) hx hb d_Ns_listChildren_40 (by decide) (fun hc_40 => ?_) (fun hc_40 => ?_)
        · skip
          have ic_41 : at9.toInt ≤ lq9.toInt := iLe hc_40
          refine lv_aload_n hx hb d_Ns_listChildren_87 rfl (lv_at hl 0 rfl) ?_
          obtain ⟨v_42, v_44, v_46, v_48, F_P9, c_43, c_45, c_47⟩ := TI_nds hT T_P9
          refine hm_get (ci := 2) (v := .ref v_44) (C := R_Ns) (T := F_Ns) (N := 4) hx hb hts ig_Ns hown hK hH F_P9 rfl 1 (by decide) (hts _ mw_152) (fun _ h9 => h9) rfl d_Ns_listChildren_88 ?_
          refine lv_iload hx hb d_Ns_listChildren_91 (lv_at hl 5 rfl) ?_
          refine lv_aload_n hx hb d_Ns_listChildren_93 rfl (lv_at hl 0 rfl) ?_
          refine hm_get (ci := 2) (v := .ref v_42) (C := R_Ns) (T := F_Ns) (N := 4) hx hb hts ig_Ns hown hK hH F_P9 rfl 0 (by decide) (hts _ mw_129) (fun _ h9 => h9) rfl d_Ns_listChildren_94 ?_
          refine lv_iload hx hb d_Ns_listChildren_97 (lv_at hl 4 rfl) ?_
          obtain ⟨g_49, F_v_42, c_50, c_51⟩ := TI_slo hT c_43
          obtain ⟨a_52, e_53, T_54⟩ := c_50 i9.toNatClampNeg (iCl (by omega) (by omega))
          refine hm_aald (v := .ref a_52) hx hb hK hH 4 F_v_42 (C := R_No) rfl (iIn (by omega) (by omega)) (by rw [e_53]; rfl) d_Ns_listChildren_99 ?_
          obtain ⟨g_55, F_v_44, c_56⟩ := TI_ord hT c_45
          obtain ⟨v_59, v_60, v_62, v_64, v_65, v_67, v_68, v_69, v_71, v_72, v_73, F_a_52, c_61, c_63, c_66, c_70⟩ := TI_node hT T_54
          refine hm_aast hx hb hK hH hLo 4 1 F_v_44 rfl F_a_52 rfl (iIn (by omega) (by omega)) d_Ns_listChildren_100 (fun H_57 locs hH z_58 hLo => ?_)
          have hz : s.heap.size ≤ H_57.size := by rw [z_58]; exact hz
          obtain ⟨h_74, e_75⟩ : ∃ z, z = hu hh37 v_44 (.inl ((t 4), 30, .inr (.inr (.inr (.inr (va_up g_55 at9.toNatClampNeg (some a_52))))))) := ⟨_, rfl⟩
          have hH : hm D vwCl G h_74 H_57 := by rw [e_75]; exact hH
          have F_P9 : h_74 P9 = some (.inr (2, [.ref v_42, .ref v_44, .int v_46, .int v_48])) := by rw [e_75, hu_n (tne T_P9 c_45 (by decide))]; exact F_P9
          have F_v_42 : h_74 v_42 = some (.inl ((t 4), 30, .inr (.inr (.inr (.inr g_49))))) := by rw [e_75, hu_n (tne c_43 c_45 (by decide))]; exact F_v_42
          have F_a_52 : h_74 a_52 = some (.inr (1, [.int v_59, va_rf v_60, .int v_62, .long v_64, .int v_65, .int v_67, .int v_68, .int v_69, .int v_71, .int v_72, .int v_73])) := by rw [e_75, hu_n (tne T_54 c_45 (by decide))]; exact F_a_52
          have F_v_44 : h_74 v_44 = some (.inl ((t 4), 30, .inr (.inr (.inr (.inr (va_up g_55 at9.toNatClampNeg (some a_52))))))) := by rw [e_75]; exact hu_s _ _ _
          have hT : TI τ t n h_74 := by rw [e_75]; exact TI_put hT c_45 (by decide) ⟨_, rfl, (nodA_up c_56 T_54)⟩
          have hkf : kf τ [(9, f)] [] h h_74 := by rw [e_75]; exact kf_put hkf c_45 List.mem_cons_self
          obtain ⟨g_76, e_77⟩ : ∃ z, z = va_up g_55 at9.toNatClampNeg (some a_52) := ⟨_, rfl⟩
          rw [← e_77] at F_v_44
          have c_78 : nodA τ f g_76 := by rw [e_77]; exact (nodA_up c_56 T_54)
          obtain ⟨j_79, e_80⟩ : ∃ z : Int32, z = en9 + 1 := ⟨_, rfl⟩
          refine lv_iinc (v := j_79) (lv' := [(3, .int j_79), (0, .ref P9), (1, .ref d9), (2, .int lq9), (4, .int i9), (5, .int at9)]) hx hb d_Ns_listChildren_101 hl (k := 3) rfl e_80.symm (by decide) rfl (fun ls hl => ?_)
          obtain ⟨j_81, e_82⟩ : ∃ z : Int32, z = i9 + 1 := ⟨_, rfl⟩
          refine lv_iinc (v := j_81) (lv' := [(4, .int j_81), (3, .int j_79), (0, .ref P9), (1, .ref d9), (2, .int lq9), (5, .int at9)]) hx hb d_Ns_listChildren_104 hl (k := 4) rfl e_82.symm (by decide) rfl (fun ls hl => ?_)
          refine lv_goto (tgt := 5) hx hb d_Ns_listChildren_107 (by decide) ?_
          have is_83 : j_79.toInt = en9.toInt + 1 := by rw [e_80]; exact iAddK 1 rfl (by omega) (by omega)
          have is_84 : j_81.toInt = i9.toInt + 1 := by rw [e_82]; exact iAddK 1 rfl (by omega) (by omega)
          exact ih5 (mU j_81) ls _ locs _ (by rw [hk5]; exact mU_lt (by omega)) ⟨j_79, j_81, rfl, (lv_sub hl [2, 3, 4, 1, 0] rfl), hH, hz, hLo, hT, hkf, (by omega), ⟨by omega, by omega⟩⟩
        · skip
          have ic_85 : lq9.toInt < at9.toInt := iNe hc_40
          have iu_86 : at9.toInt < 2147483648 := iUp _
          refine lv_aload_n hx hb d_Ns_listChildren_43 rfl (lv_at hl 0 rfl) ?_
          obtain ⟨v_87, v_89, v_91, v_93, F_P9, c_88, c_90, c_92⟩ := TI_nds hT T_P9
          refine hm_get (ci := 2) (v := .ref v_87) (C := R_Ns) (T := F_Ns) (N := 4) hx hb hts ig_Ns hown hK hH F_P9 rfl 0 (by decide) (hts _ mw_129) (fun _ h9 => h9) rfl d_Ns_listChildren_44 ?_
          refine lv_iload hx hb d_Ns_listChildren_47 (lv_at hl 4 rfl) ?_
          obtain ⟨g_94, F_v_87, c_95, c_96⟩ := TI_slo hT c_88
          obtain ⟨a_97, e_98, T_99⟩ := c_95 i9.toNatClampNeg (iCl (by omega) (by omega))
          refine hm_aald (v := .ref a_97) hx hb hK hH 4 F_v_87 (C := R_No) rfl (iIn (by omega) (by omega)) (by rw [e_98]; rfl) d_Ns_listChildren_49 ?_
          refine lv_aload_n hx hb d_Ns_listChildren_50 rfl (lv_at hl 0 rfl) ?_
          refine hm_get (ci := 2) (v := .ref v_89) (C := R_Ns) (T := F_Ns) (N := 4) hx hb hts ig_Ns hown hK hH F_P9 rfl 1 (by decide) (hts _ mw_152) (fun _ h9 => h9) rfl d_Ns_listChildren_51 ?_
          refine lv_iload hx hb d_Ns_listChildren_54 (lv_at hl 5 rfl) ?_
          refine lv_iconst (v := 1) hx hb d_Ns_listChildren_56 (by decide) ?_
          refine lv_isub hx hb d_Ns_listChildren_57 ?_
          obtain ⟨g_100, F_v_89, c_101⟩ := TI_ord hT c_90
          refine lv_topi (fun v_102 e_103 => ?_)
          have is_104 : v_102.toInt = at9.toInt - 1 := by rw [e_103]; exact iDecS 1 rfl (by decide) (by omega)
          obtain ⟨a_105, e_106, T_107⟩ := c_101 v_102.toNatClampNeg (iCl (by omega) (by omega))
          refine hm_aald (v := .ref a_105) hx hb hK hH 4 F_v_89 (C := R_No) rfl (iIn (by omega) (by omega)) (by rw [e_106]; rfl) d_Ns_listChildren_58 ?_
          obtain ⟨v_108, v_109, v_111, v_113, v_114, v_116, v_117, v_118, v_120, v_121, v_122, F_a_97, c_110, c_112, c_115, c_119⟩ := TI_node hT T_99
          refine hm_callPi (va_runV (As := [.ref a_105]) (b := a_97) (rest := []) ⟨hx, hb, hml, hown, hts⟩ (t_before l D t G ak av hh37 τ n f f a_97 a_105  hn hT T_99 T_107) ⟨cw9B 1 hts mw_153 mw_154 mw_106 rfl rfl (by decide +kernel) ⟨Nat.le_of_ble_eq_true rfl, Nat.le_of_ble_eq_true rfl⟩, hts _ mw_155, hts _ mw_156⟩ (hP_V (q := (R_No, F_No, 11)) kE_ok hE hK hH F_a_97 rfl) rfl rfl hl.1 rfl (lv_room (Nat.le_of_ble_eq_true rfl)) d_Ns_listChildren_59 ⟨Nat.le_of_ble_eq_true rfl, Nat.le_of_ble_eq_true rfl⟩) (fun r_123 h_124 H_125 hp_127  hH z_126 => ?_)
          have hz : s.heap.size ≤ H_125.size := Nat.le_trans hz z_126
          obtain ⟨c_128, rfl⟩ := hp_127
          refine lv_if_eq (tgt := 87) hx hb d_Ns_listChildren_62 (by decide) (fun hc_130 => ?_) (fun hc_130 => ?_)
          · skip
            have ic_131 : r_123.toInt = 0 := congrArg Int32.toInt hc_130
            refine lv_aload_n hx hb d_Ns_listChildren_87 rfl (lv_at hl 0 rfl) ?_
            refine hm_get (ci := 2) (v := .ref v_89) (C := R_Ns) (T := F_Ns) (N := 4) hx hb hts ig_Ns hown hK hH F_P9 rfl 1 (by decide) (hts _ mw_152) (fun _ h9 => h9) rfl d_Ns_listChildren_88 ?_
            refine lv_iload hx hb d_Ns_listChildren_91 (lv_at hl 5 rfl) ?_
            refine lv_aload_n hx hb d_Ns_listChildren_93 rfl (lv_at hl 0 rfl) ?_
            refine hm_get (ci := 2) (v := .ref v_87) (C := R_Ns) (T := F_Ns) (N := 4) hx hb hts ig_Ns hown hK hH F_P9 rfl 0 (by decide) (hts _ mw_129) (fun _ h9 => h9) rfl d_Ns_listChildren_94 ?_
            refine lv_iload hx hb d_Ns_listChildren_97 (lv_at hl 4 rfl) ?_
            refine hm_aald (v := .ref a_97) hx hb hK hH 4 F_v_87 (C := R_No) rfl (iIn (by omega) (by omega)) (by rw [e_98]; rfl) d_Ns_listChildren_99 ?_
            refine hm_aast hx hb hK hH hLo 4 1 F_v_89 rfl F_a_97 rfl (iIn (by omega) (by omega)) d_Ns_listChildren_100 (fun H_132 locs hH z_133 hLo => ?_)
            have hz : s.heap.size ≤ H_132.size := by rw [z_133]; exact hz
            obtain ⟨h_134, e_135⟩ : ∃ z, z = hu hh37 v_89 (.inl ((t 4), 30, .inr (.inr (.inr (.inr (va_up g_100 at9.toNatClampNeg (some a_97))))))) := ⟨_, rfl⟩
            have hH : hm D vwCl G h_134 H_132 := by rw [e_135]; exact hH
            have F_P9 : h_134 P9 = some (.inr (2, [.ref v_87, .ref v_89, .int v_91, .int v_93])) := by rw [e_135, hu_n (tne T_P9 c_90 (by decide))]; exact F_P9
            have F_v_87 : h_134 v_87 = some (.inl ((t 4), 30, .inr (.inr (.inr (.inr g_94))))) := by rw [e_135, hu_n (tne c_88 c_90 (by decide))]; exact F_v_87
            have F_a_97 : h_134 a_97 = some (.inr (1, [.int v_108, va_rf v_109, .int v_111, .long v_113, .int v_114, .int v_116, .int v_117, .int v_118, .int v_120, .int v_121, .int v_122])) := by rw [e_135, hu_n (tne T_99 c_90 (by decide))]; exact F_a_97
            have F_v_89 : h_134 v_89 = some (.inl ((t 4), 30, .inr (.inr (.inr (.inr (va_up g_100 at9.toNatClampNeg (some a_97))))))) := by rw [e_135]; exact hu_s _ _ _
            have hT : TI τ t n h_134 := by rw [e_135]; exact TI_put hT c_90 (by decide) ⟨_, rfl, (nodA_up c_101 T_99)⟩
            have hkf : kf τ [(9, f)] [] h h_134 := by rw [e_135]; exact kf_put hkf c_90 List.mem_cons_self
            obtain ⟨g_136, e_137⟩ : ∃ z, z = va_up g_100 at9.toNatClampNeg (some a_97) := ⟨_, rfl⟩
            rw [← e_137] at F_v_89
            have c_138 : nodA τ f g_136 := by rw [e_137]; exact (nodA_up c_101 T_99)
            obtain ⟨j_139, e_140⟩ : ∃ z : Int32, z = en9 + 1 := ⟨_, rfl⟩
            refine lv_iinc (v := j_139) (lv' := [(3, .int j_139), (0, .ref P9), (1, .ref d9), (2, .int lq9), (4, .int i9), (5, .int at9)]) hx hb d_Ns_listChildren_101 hl (k := 3) rfl e_140.symm (by decide) rfl (fun ls hl => ?_)
            obtain ⟨j_141, e_142⟩ : ∃ z : Int32, z = i9 + 1 := ⟨_, rfl⟩
            refine lv_iinc (v := j_141) (lv' := [(4, .int j_141), (3, .int j_139), (0, .ref P9), (1, .ref d9), (2, .int lq9), (5, .int at9)]) hx hb d_Ns_listChildren_104 hl (k := 4) rfl e_142.symm (by decide) rfl (fun ls hl => ?_)
            refine lv_goto (tgt := 5) hx hb d_Ns_listChildren_107 (by decide) ?_
            have is_143 : j_139.toInt = en9.toInt + 1 := by rw [e_140]; exact iAddK 1 rfl (by omega) (by omega)
            have is_144 : j_141.toInt = i9.toInt + 1 := by rw [e_142]; exact iAddK 1 rfl (by omega) (by omega)
            exact ih5 (mU j_141) ls _ locs _ (by rw [hk5]; exact mU_lt (by omega)) ⟨j_139, j_141, rfl, (lv_sub hl [2, 3, 4, 1, 0] rfl), hH, hz, hLo, hT, hkf, (by omega), ⟨by omega, by omega⟩⟩
          · skip
            refine lv_aload_n hx hb d_Ns_listChildren_65 rfl (lv_at hl 0 rfl) ?_
            refine hm_get (ci := 2) (v := .ref v_89) (C := R_Ns) (T := F_Ns) (N := 4) hx hb hts ig_Ns hown hK hH F_P9 rfl 1 (by decide) (hts _ mw_152) (fun _ h9 => h9) rfl d_Ns_listChildren_66 ?_
            refine lv_iload hx hb d_Ns_listChildren_69 (lv_at hl 5 rfl) ?_
            refine lv_aload_n hx hb d_Ns_listChildren_71 rfl (lv_at hl 0 rfl) ?_
            refine hm_get (ci := 2) (v := .ref v_89) (C := R_Ns) (T := F_Ns) (N := 4) hx hb hts ig_Ns hown hK hH F_P9 rfl 1 (by decide) (hts _ mw_152) (fun _ h9 => h9) rfl d_Ns_listChildren_72 ?_
            refine lv_iload hx hb d_Ns_listChildren_75 (lv_at hl 5 rfl) ?_
            refine lv_iconst (v := 1) hx hb d_Ns_listChildren_77 (by decide) ?_
            refine lv_isub hx hb d_Ns_listChildren_78 ?_
            refine lv_topi (fun v_145 e_146 => ?_)
            obtain rfl : v_145 = v_102 := e_146.trans (e_103.symm)
            refine hm_aald (v := .ref a_105) hx hb hK hH 4 F_v_89 (C := R_No) rfl (iIn (by omega) (by omega)) (by rw [e_106]; rfl) d_Ns_listChildren_79 ?_
            obtain ⟨v_149, v_150, v_152, v_154, v_155, v_157, v_158, v_159, v_161, v_162, v_163, F_a_105, c_151, c_153, c_156, c_160⟩ := TI_node hT T_107
            refine hm_aast hx hb hK hH hLo 4 1 F_v_89 rfl F_a_105 rfl (iIn (by omega) (by omega)) d_Ns_listChildren_80 (fun H_147 locs hH z_148 hLo => ?_)
            have hz : s.heap.size ≤ H_147.size := by rw [z_148]; exact hz
            obtain ⟨h_164, e_165⟩ : ∃ z, z = hu hh37 v_89 (.inl ((t 4), 30, .inr (.inr (.inr (.inr (va_up g_100 at9.toNatClampNeg (some a_105))))))) := ⟨_, rfl⟩
            have hH : hm D vwCl G h_164 H_147 := by rw [e_165]; exact hH
            have F_P9 : h_164 P9 = some (.inr (2, [.ref v_87, .ref v_89, .int v_91, .int v_93])) := by rw [e_165, hu_n (tne T_P9 c_90 (by decide))]; exact F_P9
            have F_v_87 : h_164 v_87 = some (.inl ((t 4), 30, .inr (.inr (.inr (.inr g_94))))) := by rw [e_165, hu_n (tne c_88 c_90 (by decide))]; exact F_v_87
            have F_a_97 : h_164 a_97 = some (.inr (1, [.int v_108, va_rf v_109, .int v_111, .long v_113, .int v_114, .int v_116, .int v_117, .int v_118, .int v_120, .int v_121, .int v_122])) := by rw [e_165, hu_n (tne T_99 c_90 (by decide))]; exact F_a_97
            have F_a_105 : h_164 a_105 = some (.inr (1, [.int v_149, va_rf v_150, .int v_152, .long v_154, .int v_155, .int v_157, .int v_158, .int v_159, .int v_161, .int v_162, .int v_163])) := by rw [e_165, hu_n (tne T_107 c_90 (by decide))]; exact F_a_105
            have F_v_89 : h_164 v_89 = some (.inl ((t 4), 30, .inr (.inr (.inr (.inr (va_up g_100 at9.toNatClampNeg (some a_105))))))) := by rw [e_165]; exact hu_s _ _ _
            have hT : TI τ t n h_164 := by rw [e_165]; exact TI_put hT c_90 (by decide) ⟨_, rfl, (nodA_up c_101 T_107)⟩
            have hkf : kf τ [(9, f)] [] h h_164 := by rw [e_165]; exact kf_put hkf c_90 List.mem_cons_self
            obtain ⟨g_166, e_167⟩ : ∃ z, z = va_up g_100 at9.toNatClampNeg (some a_105) := ⟨_, rfl⟩
            rw [← e_167] at F_v_89
            have c_168 : nodA τ f g_166 := by rw [e_167]; exact (nodA_up c_101 T_107)
            obtain ⟨j_169, e_170⟩ : ∃ z : Int32, z = at9 + (-1) := ⟨_, rfl⟩
            refine lv_iinc (v := j_169) (lv' := [(5, .int j_169), (0, .ref P9), (1, .ref d9), (2, .int lq9), (3, .int en9), (4, .int i9)]) hx hb d_Ns_listChildren_81 hl (k := 5) rfl e_170.symm (by decide) rfl (fun ls hl => ?_)
            refine lv_goto (tgt := 37) hx hb d_Ns_listChildren_84 (by decide) ?_
            have is_171 : j_169.toInt = at9.toInt + -1 := by rw [e_170]; exact iDecK 1 rfl (by decide) (by omega)
            exact ih37 (j_169.toInt.toNat) ls _ locs _ (by rw [hk37]; omega) ⟨j_169, rfl, (lv_sub hl [1, 2, 3, 4, 5, 0] rfl), hH, hz, hLo, hT, hkf, ⟨by omega, by omega⟩⟩

set_option maxHeartbeats 4000000 in
set_option maxRecDepth 100000 in
theorem t_inOrder (l : Launch) (D : va_G) (t : Nat → ClassId) (G : hG) (ak av : Nat → Nat) (h : hM) (τ : tM) (n f : Nat) (P9 : Nat) (hn : n ≤ 200) (hT : TI τ t n h) (T_P9 : τ P9 = (7, f)) : Met l y_Ns_putInOrder (.code y_Ns_putInOrder b_Ns_putInOrder 3 none :: lw_g) { frames := 7, cells := 0, slots := 0, locals := 157 } (hP (kE D t G ak av) D vwCl G h [.ref P9]) (hQv D vwCl G (fun h' => TI τ t n h' ∧ kf τ [(9, f)] [] h h')) 0 0 G.P := by
  refine Met.ofW (cc := b_Ns_putInOrder) (maxL := 3) (ret := none) (by decide) rfl ?_
  intro p e s m args below meth c s₁ Bd hml hv
  obtain ⟨ha, hE, hH⟩ := hv
  have hx := Bd.exec
  have hb := Bd.bytes
  have hr := Bd.returns
  have hts : ∀ w ∈ lw_g, w.before args s = true := fun w hw => atoms_spec (ws := (.code y_Ns_putInOrder b_Ns_putInOrder 3 none :: lw_g)) Bd.pre w (List.mem_cons_of_mem _ hw)
  have hown : s.vm.findClass R_Ns = some m.cls := findClass_of_methodNamed Bd.named
  have hlocks := Bd.notSynchronized
  have hK := hE.1
  have hH0 := hH
  have hLo : hLc G.P [] := hLc_nil
  have hz : s.heap.size ≤ s.heap.size := Nat.le_refl _
  have hl := lv_entry [.ref P9] (n := 3) (Nat.le_of_ble_eq_true rfl)
  rw [show entryFrame m args 3 = F0 m 0 ((lg_sl [.ref P9] ++ List.replicate (3 - (lg_sl [.ref P9]).length) Slot.unset).toArray) [] from (by rw [ha]; exact lg_entry_eq m [.ref P9] 3)]
  generalize (lg_sl [.ref P9] ++ List.replicate (3 - (lg_sl [.ref P9]).length) Slot.unset).toArray = ls at hl ⊢
  have hl : lv_has ls 3 [(0, .ref P9)] := hl
  have hkf : kf τ [(9, f)] [] h h := kf_rf
  refine lv_aload_n hx hb d_Ns_putInOrder_0 rfl (lv_at hl 0 rfl) ?_
  obtain ⟨v_1, v_3, v_5, v_7, F_P9, c_2, c_4, c_6⟩ := TI_nds hT T_P9
  refine hm_get (ci := 2) (v := .ref v_3) (C := R_Ns) (T := F_Ns) (N := 4) hx hb hts ig_Ns hown hK hH F_P9 rfl 1 (by decide) (hts _ mw_152) (fun _ h9 => h9) rfl d_Ns_putInOrder_1 ?_
  refine lv_iconst (v := 0) hx hb d_Ns_putInOrder_4 (by decide) ?_
  refine lv_aload_n hx hb d_Ns_putInOrder_5 rfl (lv_at hl 0 rfl) ?_
  refine hm_get (ci := 2) (v := .ref v_1) (C := R_Ns) (T := F_Ns) (N := 4) hx hb hts ig_Ns hown hK hH F_P9 rfl 0 (by decide) (hts _ mw_129) (fun _ h9 => h9) rfl d_Ns_putInOrder_6 ?_
  refine lv_iconst (v := 0) hx hb d_Ns_putInOrder_9 (by decide) ?_
  obtain ⟨g_8, F_v_1, c_9, c_10⟩ := TI_slo hT c_2
  obtain ⟨a_11, e_12, T_13⟩ := c_9 ((0 : Int32).toNatClampNeg) (by decide)
  refine hm_aald (v := .ref a_11) hx hb hK hH 4 F_v_1 (C := R_No) rfl (iIn (by decide) (by decide)) (by rw [e_12]; rfl) d_Ns_putInOrder_10 ?_
  obtain ⟨g_14, F_v_3, c_15⟩ := TI_ord hT c_4
  obtain ⟨v_18, v_19, v_21, v_23, v_24, v_26, v_27, v_28, v_30, v_31, v_32, F_a_11, c_20, c_22, c_25, c_29⟩ := TI_node hT T_13
  refine hm_aast hx hb hK hH hLo 4 1 F_v_3 rfl F_a_11 rfl (iIn (by decide) (by decide)) d_Ns_putInOrder_11 (fun H_16 locs hH z_17 hLo => ?_)
  have hz : s.heap.size ≤ H_16.size := by rw [z_17]; exact hz
  obtain ⟨h_33, e_34⟩ : ∃ z, z = hu h v_3 (.inl ((t 4), 30, .inr (.inr (.inr (.inr (va_up g_14 ((0 : Int32).toNatClampNeg) (some a_11))))))) := ⟨_, rfl⟩
  have hH : hm D vwCl G h_33 H_16 := by rw [e_34]; exact hH
  have F_P9 : h_33 P9 = some (.inr (2, [.ref v_1, .ref v_3, .int v_5, .int v_7])) := by rw [e_34, hu_n (tne T_P9 c_4 (by decide))]; exact F_P9
  have F_v_1 : h_33 v_1 = some (.inl ((t 4), 30, .inr (.inr (.inr (.inr g_8))))) := by rw [e_34, hu_n (tne c_2 c_4 (by decide))]; exact F_v_1
  have F_a_11 : h_33 a_11 = some (.inr (1, [.int v_18, va_rf v_19, .int v_21, .long v_23, .int v_24, .int v_26, .int v_27, .int v_28, .int v_30, .int v_31, .int v_32])) := by rw [e_34, hu_n (tne T_13 c_4 (by decide))]; exact F_a_11
  have F_v_3 : h_33 v_3 = some (.inl ((t 4), 30, .inr (.inr (.inr (.inr (va_up g_14 ((0 : Int32).toNatClampNeg) (some a_11))))))) := by rw [e_34]; exact hu_s _ _ _
  have hT : TI τ t n h_33 := by rw [e_34]; exact TI_put hT c_4 (by decide) ⟨_, rfl, (nodA_up c_15 T_13)⟩
  have hkf : kf τ [(9, f)] [] h h_33 := by rw [e_34]; exact kf_put hkf c_4 List.mem_cons_self
  obtain ⟨g_35, e_36⟩ : ∃ z, z = va_up g_14 ((0 : Int32).toNatClampNeg) (some a_11) := ⟨_, rfl⟩
  rw [← e_36] at F_v_3
  have c_37 : nodA τ f g_35 := by rw [e_36]; exact (nodA_up c_15 T_13)
  refine lv_iconst (v := 1) hx hb d_Ns_putInOrder_12 (by decide) ?_
  refine lv_istore_n (lv' := [(1, .int 1), (0, .ref P9)]) hx hb d_Ns_putInOrder_13 rfl hl (by decide) rfl (fun ls hl => ?_)
  refine lv_iconst (v := 0) hx hb d_Ns_putInOrder_14 (by decide) ?_
  refine lv_istore_n (lv' := [(2, .int 0), (1, .int 1), (0, .ref P9)]) hx hb d_Ns_putInOrder_15 rfl hl (by decide) rfl (fun ls hl => ?_)
  refine hm_loop (fun k16 ls H locs hh16 => ∃ (ls9 : Int32) (i9 : Int32), k16 = mU i9 ∧ lv_has ls 3 [(0, .ref P9), (1, .int ls9), (2, .int i9)] ∧ hm D vwCl G hh16 H ∧ s.heap.size ≤ H.size ∧ hLc G.P locs ∧ (TI τ t n hh16) ∧ (kf τ [(9, f)] [] h hh16) ∧ (0 ≤ i9.toInt) ∧ (0 ≤ ls9.toInt ∧ ls9.toInt ≤ 30)) ?_ (hh := h_33) ⟨1, 0, rfl, (lv_sub hl [2, 1, 0] rfl), hH, hz, hLo, hT, hkf, (by decide), (by decide)⟩
  rintro k16 ls H locs hh16 ⟨ls9, i9, hk16, hl, hH, hz, hLo, hT, hkf, I_i9, I_ls⟩ ih16
  refine lv_iload_n hx hb d_Ns_putInOrder_16 rfl (lv_at hl 2 rfl) ?_
  refine lv_iload_n hx hb d_Ns_putInOrder_17 rfl (lv_at hl 1 rfl) ?_
  refine lv_icmp_ge (tgt := 57) hx hb d_Ns_putInOrder_18 (by decide) (fun hc_38 => ?_) (fun hc_38 => ?_)
  · skip
    have ic_39 : ls9.toInt ≤ i9.toInt := iLe hc_38
    exact W.vret hx hb hr (fun t9 ht hW => ⟨hh16, rfl, ⟨hT, hkf⟩, by rw [ht]; exact hH, by rw [ht]; exact hz⟩) hLo d_Ns_putInOrder_57
  · skip
    have ic_40 : i9.toInt < ls9.toInt := iNe hc_38
    have iu_41 : ls9.toInt < 2147483648 := iUp _
    refine lv_iload_n hx hb d_Ns_putInOrder_21 rfl (lv_at hl 2 rfl) ?_
    refine lv_bipush (v := 30) hx hb d_Ns_putInOrder_22 (by decide) ?_
    refine lv_icmp_ge (tgt := 57) hx hb d_Ns_putInOrder_24 (by decide) (fun hc_42 => ?_) (fun hc_42 => ?_)
    · skip
      have ic_43 : 30 ≤ i9.toInt := iLe hc_42
      exact W.vret hx hb hr (fun t9 ht hW => ⟨hh16, rfl, ⟨hT, hkf⟩, by rw [ht]; exact hH, by rw [ht]; exact hz⟩) hLo d_Ns_putInOrder_57
    · skip
      have ic_44 : i9.toInt < 30 := iNe hc_42
      refine lv_aload_n hx hb d_Ns_putInOrder_27 rfl (lv_at hl 0 rfl) ?_
      obtain ⟨v_45, v_47, v_49, v_51, F_P9, c_46, c_48, c_50⟩ := TI_nds hT T_P9
      refine hm_get (ci := 2) (v := .ref v_47) (C := R_Ns) (T := F_Ns) (N := 4) hx hb hts ig_Ns hown hK hH F_P9 rfl 1 (by decide) (hts _ mw_152) (fun _ h9 => h9) rfl d_Ns_putInOrder_28 ?_
      refine lv_iload_n hx hb d_Ns_putInOrder_31 rfl (lv_at hl 2 rfl) ?_
      obtain ⟨g_52, F_v_47, c_53⟩ := TI_ord hT c_48
      obtain ⟨a_54, e_55, T_56⟩ := c_53 i9.toNatClampNeg (iCl (by omega) (by omega))
      refine hm_aald (v := .ref a_54) hx hb hK hH 4 F_v_47 (C := R_No) rfl (iIn (by omega) (by omega)) (by rw [e_55]; rfl) d_Ns_putInOrder_32 ?_
      obtain ⟨v_57, v_58, v_60, v_62, v_63, v_65, v_66, v_67, v_69, v_70, v_71, F_a_54, c_59, c_61, c_64, c_68⟩ := TI_node hT T_56
      refine hm_get (ci := 1) (v := .int v_60) (C := R_No) (T := F_No) (N := 11) hx hb hts ig_No hown hK hH F_a_54 rfl 2 (by decide) (hts _ mw_136) (fun _ h9 => h9) rfl d_Ns_putInOrder_33 ?_
      refine lv_if_eq (tgt := 51) hx hb d_Ns_putInOrder_36 (by decide) (fun hc_72 => ?_) (fun hc_72 => ?_)
      · skip
        have ic_73 : v_60.toInt = 0 := congrArg Int32.toInt hc_72
        obtain ⟨j_74, e_75⟩ : ∃ z : Int32, z = i9 + 1 := ⟨_, rfl⟩
        refine lv_iinc (v := j_74) (lv' := [(2, .int j_74), (0, .ref P9), (1, .int ls9)]) hx hb d_Ns_putInOrder_51 hl (k := 2) rfl e_75.symm (by decide) rfl (fun ls hl => ?_)
        refine lv_goto (tgt := 16) hx hb d_Ns_putInOrder_54 (by decide) ?_
        have is_76 : j_74.toInt = i9.toInt + 1 := by rw [e_75]; exact iAddK 1 rfl (by omega) (by omega)
        exact ih16 (mU j_74) ls _ locs _ (by rw [hk16]; exact mU_lt (by omega)) ⟨ls9, j_74, rfl, (lv_sub hl [1, 2, 0] rfl), hH, hz, hLo, hT, hkf, (by omega), ⟨by omega, by omega⟩⟩
      · skip
        refine lv_aload_n hx hb d_Ns_putInOrder_39 rfl (lv_at hl 0 rfl) ?_
        refine lv_aload_n hx hb d_Ns_putInOrder_40 rfl (lv_at hl 0 rfl) ?_
        refine hm_get (ci := 2) (v := .ref v_47) (C := R_Ns) (T := F_Ns) (N := 4) hx hb hts ig_Ns hown hK hH F_P9 rfl 1 (by decide) (hts _ mw_152) (fun _ h9 => h9) rfl d_Ns_putInOrder_41 ?_
        refine lv_iload_n hx hb d_Ns_putInOrder_44 rfl (lv_at hl 2 rfl) ?_
        refine hm_aald (v := .ref a_54) hx hb hK hH 4 F_v_47 (C := R_No) rfl (iIn (by omega) (by omega)) (by rw [e_55]; rfl) d_Ns_putInOrder_45 ?_
        refine lv_iload_n hx hb d_Ns_putInOrder_46 rfl (lv_at hl 1 rfl) ?_
        refine hm_calli (va_runV (As := [.ref a_54, .int ls9]) (b := P9) (rest := []) ⟨hx, hb, hml, hown, hts⟩ (t_lchild l D t G ak av hh16 τ n f P9 a_54 ls9  hn hT T_P9 T_56 ⟨by omega, by omega⟩) ⟨cw9B 2 hts mw_157 mw_158 mw_132 rfl rfl (by decide +kernel) ⟨Nat.le_of_ble_eq_true rfl, Nat.le_of_ble_eq_true rfl⟩, hts _ mw_159, hts _ mw_160⟩ (hP_V (q := (R_Ns, F_Ns, 4)) kE_ok hE hK hH F_P9 rfl) rfl rfl hl.1 rfl (lv_room (Nat.le_of_ble_eq_true rfl)) d_Ns_putInOrder_47 ⟨Nat.le_of_ble_eq_true rfl, Nat.le_of_ble_eq_true rfl⟩) hLo (fun r_77 h_78 H_79 locs hp_81 hH z_80 hLo => ?_)
        have hz : s.heap.size ≤ H_79.size := Nat.le_trans hz z_80
        have hT0 := hT
        obtain ⟨hT, kf_83, xp_82⟩ := hp_81
        have F_P9 : h_78 P9 = some (.inr (2, [.ref v_45, .ref v_47, .int v_49, .int v_51])) := kf_at kf_83 T_P9 (by decide) (tnc (by decide) tn0) nm0 F_P9
        have F_a_54 : h_78 a_54 = some (.inr (1, [.int v_57, va_rf v_58, .int v_60, .long v_62, .int v_63, .int v_65, .int v_66, .int v_67, .int v_69, .int v_70, .int v_71])) := kf_at kf_83 T_56 (by decide) (tnc (by decide) tn0) nm0 F_a_54
        have hkf : kf τ [(9, f)] [] h h_78 := kf_tr hkf kf_83 (List.forall_mem_cons.mpr ⟨List.mem_cons_self, List.forall_mem_nil _⟩) (List.forall_mem_nil _)
        refine lv_istore_n (lv' := [(1, .int r_77), (0, .ref P9), (2, .int i9)]) hx hb d_Ns_putInOrder_50 rfl hl (by decide) rfl (fun ls hl => ?_)
        obtain ⟨j_84, e_85⟩ : ∃ z : Int32, z = i9 + 1 := ⟨_, rfl⟩
        refine lv_iinc (v := j_84) (lv' := [(2, .int j_84), (1, .int r_77), (0, .ref P9)]) hx hb d_Ns_putInOrder_51 hl (k := 2) rfl e_85.symm (by decide) rfl (fun ls hl => ?_)
        refine lv_goto (tgt := 16) hx hb d_Ns_putInOrder_54 (by decide) ?_
        have is_86 : j_84.toInt = i9.toInt + 1 := by rw [e_85]; exact iAddK 1 rfl (by omega) (by omega)
        exact ih16 (mU j_84) ls _ locs _ (by rw [hk16]; exact mU_lt (by omega)) ⟨r_77, j_84, rfl, (lv_sub hl [2, 1, 0] rfl), hH, hz, hLo, hT, hkf, (by omega), ⟨by omega, by omega⟩⟩

set_option maxHeartbeats 4000000 in
set_option maxRecDepth 100000 in
theorem t_nssettle (l : Launch) (D : va_G) (t : Nat → ClassId) (G : hG) (ak av : Nat → Nat) (h : hM) (τ : tM) (n f : Nat) (P9 : Nat) (hn : n ≤ 200) (hT : TI τ t n h) (T_P9 : τ P9 = (7, f)) : Met l y_Ns_settle (.code y_Ns_settle b_Ns_settle 2 none :: lw_g) { frames := 1, cells := 0, slots := 0, locals := 21 } (hP (kE D t G ak av) D vwCl G h [.ref P9]) (hQv D vwCl G (fun h' => TI τ t n h' ∧ kf τ [(10, f)] [] h h' ∧ knp τ f h h')) 0 0 G.P := by
  refine Met.ofW (cc := b_Ns_settle) (maxL := 2) (ret := none) (by decide) rfl ?_
  intro p e s m args below meth c s₁ Bd hml hv
  obtain ⟨ha, hE, hH⟩ := hv
  have hx := Bd.exec
  have hb := Bd.bytes
  have hr := Bd.returns
  have hts : ∀ w ∈ lw_g, w.before args s = true := fun w hw => atoms_spec (ws := (.code y_Ns_settle b_Ns_settle 2 none :: lw_g)) Bd.pre w (List.mem_cons_of_mem _ hw)
  have hown : s.vm.findClass R_Ns = some m.cls := findClass_of_methodNamed Bd.named
  have hlocks := Bd.notSynchronized
  have hK := hE.1
  have hH0 := hH
  have hLo : hLc G.P [] := hLc_nil
  have hz : s.heap.size ≤ s.heap.size := Nat.le_refl _
  have hl := lv_entry [.ref P9] (n := 2) (Nat.le_of_ble_eq_true rfl)
  rw [show entryFrame m args 2 = F0 m 0 ((lg_sl [.ref P9] ++ List.replicate (2 - (lg_sl [.ref P9]).length) Slot.unset).toArray) [] from (by rw [ha]; exact lg_entry_eq m [.ref P9] 2)]
  generalize (lg_sl [.ref P9] ++ List.replicate (2 - (lg_sl [.ref P9]).length) Slot.unset).toArray = ls at hl ⊢
  have hl : lv_has ls 2 [(0, .ref P9)] := hl
  have hkf : kf τ [(10, f)] [] h h := kf_rf
  have hnp_f : knp τ f h h := knp_rf
  refine lv_iconst (v := 0) hx hb d_Ns_settle_0 (by decide) ?_
  refine lv_istore_n (lv' := [(1, .int 0), (0, .ref P9)]) hx hb d_Ns_settle_1 rfl hl (by decide) rfl (fun ls hl => ?_)
  refine hm_loop (fun k2 ls H locs hh2 => ∃ (i9 : Int32), k2 = mU i9 ∧ lv_has ls 2 [(0, .ref P9), (1, .int i9)] ∧ hm D vwCl G hh2 H ∧ s.heap.size ≤ H.size ∧ hLc G.P locs ∧ (TI τ t n hh2) ∧ (kf τ [(10, f)] [] h hh2) ∧ (knp τ f h hh2) ∧ (0 ≤ i9.toInt)) ?_ (hh := h) ⟨0, rfl, (lv_sub hl [1, 0] rfl), hH, hz, hLo, hT, hkf, hnp_f, (by decide)⟩
  rintro k2 ls H locs hh2 ⟨i9, hk2, hl, hH, hz, hLo, hT, hkf, hnp_f, I_i9⟩ ih2
  refine lv_iload_n hx hb d_Ns_settle_2 rfl (lv_at hl 1 rfl) ?_
  refine lv_aload_n hx hb d_Ns_settle_3 rfl (lv_at hl 0 rfl) ?_
  obtain ⟨v_1, v_3, v_5, v_7, F_P9, c_2, c_4, c_6⟩ := TI_nds hT T_P9
  refine hm_get (ci := 2) (v := .int v_5) (C := R_Ns) (T := F_Ns) (N := 4) hx hb hts ig_Ns hown hK hH F_P9 rfl 2 (by decide) (hts _ mw_128) (fun _ h9 => h9) rfl d_Ns_settle_4 ?_
  refine lv_icmp_ge (tgt := 46) hx hb d_Ns_settle_7 (by decide) (fun hc_8 => ?_) (fun hc_8 => ?_)
  · skip
    have ic_9 : v_5.toInt ≤ i9.toInt := iLe hc_8
    exact W.vret hx hb hr (fun t9 ht hW => ⟨hh2, rfl, ⟨hT, hkf, hnp_f⟩, by rw [ht]; exact hH, by rw [ht]; exact hz⟩) hLo d_Ns_settle_46
  · skip
    have ic_10 : i9.toInt < v_5.toInt := iNe hc_8
    have iu_11 : v_5.toInt < 2147483648 := iUp _
    refine lv_aload_n hx hb d_Ns_settle_10 rfl (lv_at hl 0 rfl) ?_
    refine hm_get (ci := 2) (v := .ref v_1) (C := R_Ns) (T := F_Ns) (N := 4) hx hb hts ig_Ns hown hK hH F_P9 rfl 0 (by decide) (hts _ mw_129) (fun _ h9 => h9) rfl d_Ns_settle_11 ?_
    refine lv_iload_n hx hb d_Ns_settle_14 rfl (lv_at hl 1 rfl) ?_
    obtain ⟨g_12, F_v_1, c_13, c_14⟩ := TI_slo hT c_2
    obtain ⟨a_15, e_16, T_17⟩ := c_13 i9.toNatClampNeg (iCl (by omega) (by omega))
    refine hm_aald (v := .ref a_15) hx hb hK hH 4 F_v_1 (C := R_No) rfl (iIn (by omega) (by omega)) (by rw [e_16]; rfl) d_Ns_settle_15 ?_
    obtain ⟨v_18, v_19, v_21, v_23, v_24, v_26, v_27, v_28, v_30, v_31, v_32, F_a_15, c_20, c_22, c_25, c_29⟩ := TI_node hT T_17
    refine hm_get (ci := 1) (v := .int v_21) (C := R_No) (T := F_No) (N := 11) hx hb hts ig_No hown hK hH F_a_15 rfl 2 (by decide) (hts _ mw_136) (fun _ h9 => h9) rfl d_Ns_settle_16 ?_
    refine lv_if_ne (tgt := 40) hx hb d_Ns_settle_19 (by decide) (fun hc_33 => ?_) (fun hc_33 => ?_)
    · skip
      obtain ⟨j_34, e_35⟩ : ∃ z : Int32, z = i9 + 1 := ⟨_, rfl⟩
      refine lv_iinc (v := j_34) (lv' := [(1, .int j_34), (0, .ref P9)]) hx hb d_Ns_settle_40 hl (k := 1) rfl e_35.symm (by decide) rfl (fun ls hl => ?_)
      refine lv_goto (tgt := 2) hx hb d_Ns_settle_43 (by decide) ?_
      have is_36 : j_34.toInt = i9.toInt + 1 := by rw [e_35]; exact iAddK 1 rfl (by omega) (by omega)
      exact ih2 (mU j_34) ls _ locs _ (by rw [hk2]; exact mU_lt (by omega)) ⟨j_34, rfl, (lv_sub hl [1, 0] rfl), hH, hz, hLo, hT, hkf, hnp_f, (by omega)⟩
    · skip
      have ic_37 : v_21.toInt = 0 := congrArg Int32.toInt hc_33
      refine lv_aload_n hx hb d_Ns_settle_22 rfl (lv_at hl 0 rfl) ?_
      refine hm_get (ci := 2) (v := .ref v_1) (C := R_Ns) (T := F_Ns) (N := 4) hx hb hts ig_Ns hown hK hH F_P9 rfl 0 (by decide) (hts _ mw_129) (fun _ h9 => h9) rfl d_Ns_settle_23 ?_
      refine lv_iload_n hx hb d_Ns_settle_26 rfl (lv_at hl 1 rfl) ?_
      refine hm_aald (v := .ref a_15) hx hb hK hH 4 F_v_1 (C := R_No) rfl (iIn (by omega) (by omega)) (by rw [e_16]; rfl) d_Ns_settle_27 ?_
      refine lv_aload_n hx hb d_Ns_settle_28 rfl (lv_at hl 0 rfl) ?_
      refine hm_get (ci := 2) (v := .ref v_1) (C := R_Ns) (T := F_Ns) (N := 4) hx hb hts ig_Ns hown hK hH F_P9 rfl 0 (by decide) (hts _ mw_129) (fun _ h9 => h9) rfl d_Ns_settle_29 ?_
      refine lv_iload_n hx hb d_Ns_settle_32 rfl (lv_at hl 1 rfl) ?_
      refine hm_aald (v := .ref a_15) hx hb hK hH 4 F_v_1 (C := R_No) rfl (iIn (by omega) (by omega)) (by rw [e_16]; rfl) d_Ns_settle_33 ?_
      refine hm_get (ci := 1) (v := .int v_31) (C := R_No) (T := F_No) (N := 11) hx hb hts ig_No hown hK hH F_a_15 rfl 9 (by decide) (hts _ mw_161) (fun _ h9 => h9) rfl d_Ns_settle_34 ?_
      refine hm_callv (va_runV (As := [.int v_31]) (b := a_15) (rest := []) ⟨hx, hb, hml, hown, hts⟩ (t_nsettle l D t G ak av hh2 τ n f a_15 v_31  hn hT T_17) ⟨cw9B 1 hts mw_124 mw_162 mw_106 rfl rfl (by decide +kernel) ⟨Nat.le_of_ble_eq_true rfl, Nat.le_of_ble_eq_true rfl⟩, hts _ mw_126, hts _ mw_127⟩ (hP_V (q := (R_No, F_No, 11)) kE_ok hE hK hH F_a_15 rfl) rfl rfl hl.1 rfl (lv_room (Nat.le_of_ble_eq_true rfl)) d_Ns_settle_37 ⟨Nat.le_of_ble_eq_true rfl, Nat.le_of_ble_eq_true rfl⟩) hLo (fun h_38 H_39 locs hp_41 hH z_40 hLo => ?_)
      have hz : s.heap.size ≤ H_39.size := Nat.le_trans hz z_40
      have hT0 := hT
      obtain ⟨hT, kf_43, xk_44⟩ := hp_41
      have F_P9 : h_38 P9 = some (.inr (2, [.ref v_1, .ref v_3, .int v_5, .int v_7])) := kf_at kf_43 T_P9 (by decide) tn0 (nmc (tne T_P9 T_17 (by decide)) nm0) F_P9
      have F_v_1 : h_38 v_1 = some (.inl ((t 4), 30, .inr (.inr (.inr (.inr g_12))))) := kf_at kf_43 c_2 (by decide) tn0 (nmc (tne c_2 T_17 (by decide)) nm0) F_v_1
      have hnp_f : knp τ f h h_38 := knp_tr hnp_f xk_44
      have hkf : kf τ [(10, f)] [] h h_38 := kf_tr hkf kf_43 (List.forall_mem_nil _) (List.forall_mem_cons.mpr ⟨Or.inr (by rw [T_17]; exact List.mem_cons_self), List.forall_mem_nil _⟩)
      obtain ⟨j_45, e_46⟩ : ∃ z : Int32, z = i9 + 1 := ⟨_, rfl⟩
      refine lv_iinc (v := j_45) (lv' := [(1, .int j_45), (0, .ref P9)]) hx hb d_Ns_settle_40 hl (k := 1) rfl e_46.symm (by decide) rfl (fun ls hl => ?_)
      refine lv_goto (tgt := 2) hx hb d_Ns_settle_43 (by decide) ?_
      have is_47 : j_45.toInt = i9.toInt + 1 := by rw [e_46]; exact iAddK 1 rfl (by omega) (by omega)
      exact ih2 (mU j_45) ls _ locs _ (by rw [hk2]; exact mU_lt (by omega)) ⟨j_45, rfl, (lv_sub hl [1, 0] rfl), hH, hz, hLo, hT, hkf, hnp_f, (by omega)⟩

set_option maxHeartbeats 4000000 in
set_option maxRecDepth 100000 in
theorem t_rootAlone (l : Launch) (D : va_G) (t : Nat → ClassId) (G : hG) (ak av : Nat → Nat) (h : hM) (τ : tM) (n f : Nat) (P9 : Nat) (hn : n ≤ 200) (hT : TI τ t n h) (T_P9 : τ P9 = (7, f)) : Met l y_Ns_becomeRootAlone (.code y_Ns_becomeRootAlone b_Ns_becomeRootAlone 2 none :: lw_g) { frames := 2, cells := 0, slots := 0, locals := 47 } (hP (kE D t G ak av) D vwCl G h [.ref P9]) (hQv D vwCl G (fun h' => TI τ t n h' ∧ kf τ [(10, f)] [P9] h h' ∧ rtP t h h' P9)) 0 0 G.P := by
  refine Met.ofW (cc := b_Ns_becomeRootAlone) (maxL := 2) (ret := none) (by decide) rfl ?_
  intro p e s m args below meth c s₁ Bd hml hv
  obtain ⟨ha, hE, hH⟩ := hv
  have hx := Bd.exec
  have hb := Bd.bytes
  have hr := Bd.returns
  have hts : ∀ w ∈ lw_g, w.before args s = true := fun w hw => atoms_spec (ws := (.code y_Ns_becomeRootAlone b_Ns_becomeRootAlone 2 none :: lw_g)) Bd.pre w (List.mem_cons_of_mem _ hw)
  have hown : s.vm.findClass R_Ns = some m.cls := findClass_of_methodNamed Bd.named
  have hlocks := Bd.notSynchronized
  have hK := hE.1
  have hH0 := hH
  have hLo : hLc G.P [] := hLc_nil
  have hz : s.heap.size ≤ s.heap.size := Nat.le_refl _
  have hl := lv_entry [.ref P9] (n := 2) (Nat.le_of_ble_eq_true rfl)
  rw [show entryFrame m args 2 = F0 m 0 ((lg_sl [.ref P9] ++ List.replicate (2 - (lg_sl [.ref P9]).length) Slot.unset).toArray) [] from (by rw [ha]; exact lg_entry_eq m [.ref P9] 2)]
  generalize (lg_sl [.ref P9] ++ List.replicate (2 - (lg_sl [.ref P9]).length) Slot.unset).toArray = ls at hl ⊢
  have hl : lv_has ls 2 [(0, .ref P9)] := hl
  have hkf : kf τ [(10, f)] [P9] h h := kf_rf
  obtain ⟨v_1, v_3, v_5, v_7, F_P9, c_2, c_4, c_6⟩ := TI_nds hT T_P9
  obtain ⟨g_8, F_v_1, c_9, c_10⟩ := TI_slo hT c_2
  have O_0 : Nds t h P9 v_1 v_3 v_5 v_7 g_8 := ⟨F_P9, F_v_1⟩
  refine lv_aload_n hx hb d_Ns_becomeRootAlone_0 rfl (lv_at hl 0 rfl) ?_
  refine lv_iconst (v := 0) hx hb d_Ns_becomeRootAlone_1 (by decide) ?_
  refine hm_put (ci := 2) (v := .int 0) (ty := .int) (C := R_Ns) (T := F_Ns) (N := 4) hx hb hts ig_Ns t_Ns tk_Ns nm_Ns hown hK hH hLo F_P9 rfl 2 (by decide) (hts _ mw_128) (fun _ h9 => h9) rfl (by decide +kernel) rfl rfl (Nat.le_of_ble_eq_true rfl) d_Ns_becomeRootAlone_2 (fun H_11 locs hH z_12 hLo => ?_)
  have hz : s.heap.size ≤ H_11.size := by rw [z_12]; exact hz
  obtain ⟨h_13, e_14⟩ : ∃ z, z = hu h P9 (.inr (2, [.ref v_1, .ref v_3, .int 0, .int v_7])) := ⟨_, rfl⟩
  have hH : hm D vwCl G h_13 H_11 := by rw [e_14]; exact hH
  have F_v_1 : h_13 v_1 = some (.inl ((t 4), 30, .inr (.inr (.inr (.inr g_8))))) := by rw [e_14, hu_n (tne c_2 T_P9 (by decide))]; exact F_v_1
  have F_P9 : h_13 P9 = some (.inr (2, [.ref v_1, .ref v_3, .int 0, .int v_7])) := by rw [e_14]; exact hu_s _ _ _
  have hT : TI τ t n h_13 := by rw [e_14]; exact TI_put hT T_P9 (by decide) ⟨v_1, v_3, 0, v_7, rfl, c_2, c_4, ⟨by decide, by decide⟩⟩
  have hkf : kf τ [(10, f)] [P9] h h_13 := by rw [e_14]; exact kf_putM hkf (by simp)
  refine lv_aload_n hx hb d_Ns_becomeRootAlone_5 rfl (lv_at hl 0 rfl) ?_
  refine lv_iconst (v := 0) hx hb d_Ns_becomeRootAlone_6 (by decide) ?_
  refine hm_put (ci := 2) (v := .int 0) (ty := .int) (C := R_Ns) (T := F_Ns) (N := 4) hx hb hts ig_Ns t_Ns tk_Ns nm_Ns hown hK hH hLo F_P9 rfl 3 (by decide) (hts _ mw_151) (fun _ h9 => h9) rfl (by decide +kernel) rfl rfl (Nat.le_of_ble_eq_true rfl) d_Ns_becomeRootAlone_7 (fun H_15 locs hH z_16 hLo => ?_)
  have hz : s.heap.size ≤ H_15.size := by rw [z_16]; exact hz
  obtain ⟨h_17, e_18⟩ : ∃ z, z = hu h_13 P9 (.inr (2, [.ref v_1, .ref v_3, .int 0, .int 0])) := ⟨_, rfl⟩
  have hH : hm D vwCl G h_17 H_15 := by rw [e_18]; exact hH
  have F_v_1 : h_17 v_1 = some (.inl ((t 4), 30, .inr (.inr (.inr (.inr g_8))))) := by rw [e_18, hu_n (tne c_2 T_P9 (by decide))]; exact F_v_1
  have F_P9 : h_17 P9 = some (.inr (2, [.ref v_1, .ref v_3, .int 0, .int 0])) := by rw [e_18]; exact hu_s _ _ _
  have hT : TI τ t n h_17 := by rw [e_18]; exact TI_put hT T_P9 (by decide) ⟨v_1, v_3, 0, 0, rfl, c_2, c_4, ⟨by decide, by decide⟩⟩
  have hkf : kf τ [(10, f)] [P9] h h_17 := by rw [e_18]; exact kf_putM hkf (by simp)
  refine lv_aload_n hx hb d_Ns_becomeRootAlone_10 rfl (lv_at hl 0 rfl) ?_
  have O_N : Nds t h_17 P9 v_1 v_3 0 0 g_8 := ⟨F_P9, F_v_1⟩
  refine hm_callr (va_runV (As := []) (b := P9) (rest := []) ⟨hx, hb, hml, hown, hts⟩ (t_append l D t G ak av h_17 τ n f P9  hn hT T_P9) ⟨cw9B 0 hts mw_163 mw_164 mw_132 rfl rfl (by decide +kernel) ⟨Nat.le_of_ble_eq_true rfl, Nat.le_of_ble_eq_true rfl⟩, hts _ mw_165, hts _ mw_166⟩ (hP_V (q := (R_Ns, F_Ns, 4)) kE_ok hE hK hH F_P9 rfl) rfl rfl hl.1 rfl (lv_room (Nat.le_of_ble_eq_true rfl)) d_Ns_becomeRootAlone_11 ⟨Nat.le_of_ble_eq_true rfl, Nat.le_of_ble_eq_true rfl⟩) hLo (fun r_19 h_20 H_21 locs hp_23 hH z_22 hLo => ?_)
  have hz : s.heap.size ≤ H_21.size := Nat.le_trans hz z_22
  have hT0 := hT
  obtain ⟨c_24, hT, kf_26, xp_25⟩ := hp_23
  have F_v_1 : h_20 v_1 = some (.inl ((t 4), 30, .inr (.inr (.inr (.inr g_8))))) := kf_at kf_26 c_2 (by decide) (tnc (by decide) tn0) (nmc (tne c_2 T_P9 (by decide)) nm0) F_v_1
  have hkf : kf τ [(10, f)] [P9] h h_20 := kf_tr hkf kf_26 (List.forall_mem_cons.mpr ⟨List.mem_cons_self, List.forall_mem_nil _⟩) (List.forall_mem_cons.mpr ⟨Or.inl (by simp), List.forall_mem_nil _⟩)
  rcases xp_25 _ _ _ _ _ O_N with ⟨-, -, hbad⟩ | ⟨a8, h81, hlt8, hsl8, hP8, ⟨x8, y8, h83, h84⟩, hfr8⟩
  · exact absurd hbad (by decide)
  subst h81
  have T_a8 := c_24 a8 rfl
  have F_P9 : h_20 P9 = some (.inr (2, [.ref v_1, .ref v_3, .int 1, .int 1])) := hP8
  refine lv_astore_n (lv' := [(1, .ref a8), (0, .ref P9)]) hx hb d_Ns_becomeRootAlone_14 rfl hl (by decide) rfl (fun ls hl => ?_)
  refine lv_aload_n hx hb d_Ns_becomeRootAlone_15 rfl (lv_at hl 0 rfl) ?_
  refine lv_ifnull hx hb d_Ns_becomeRootAlone_16 ?_
  refine lv_aload_n hx hb d_Ns_becomeRootAlone_19 rfl (lv_at hl 0 rfl) ?_
  refine lv_null hx hb d_Ns_becomeRootAlone_20 ?_
  refine lv_iconst (v := 1) hx hb d_Ns_becomeRootAlone_21 (by decide) ?_
  refine lv_lconst (v := 0) hx hb d_Ns_becomeRootAlone_22 (by decide) ?_
  obtain ⟨v_27, v_28, v_30, v_32, v_33, v_35, v_36, v_37, v_39, v_40, v_41, F_a8, c_29, c_31, c_34, c_38⟩ := TI_node hT T_a8
  refine hm_callv (va_runV (As := [.null, .int 1, .long 0]) (b := a8) (rest := []) ⟨hx, hb, hml, hown, hts⟩ (t_become0 l D t G ak av h_20 τ n f a8 (1 : Int32) 0  hn hT T_a8 zb1) ⟨cw9B 3 hts mw_167 mw_168 mw_106 rfl rfl (by decide +kernel) ⟨Nat.le_of_ble_eq_true rfl, Nat.le_of_ble_eq_true rfl⟩, hts _ mw_169, hts _ mw_170⟩ (hP_V (q := (R_No, F_No, 11)) kE_ok hE hK hH F_a8 rfl) rfl rfl hl.1 rfl (lv_room (Nat.le_of_ble_eq_true rfl)) d_Ns_becomeRootAlone_23 ⟨Nat.le_of_ble_eq_true rfl, Nat.le_of_ble_eq_true rfl⟩) hLo (fun h_42 H_43 locs hp_45 hH z_44 hLo => ?_)
  have hz : s.heap.size ≤ H_43.size := Nat.le_trans hz z_44
  have hT0 := hT
  obtain ⟨hT, kf_47, xp_46⟩ := hp_45
  have F_v_1 : h_42 v_1 = some (.inl ((t 4), 30, .inr (.inr (.inr (.inr g_8))))) := kf_at kf_47 c_2 (by decide) tn0 (nmc (tne c_2 T_a8 (by decide)) nm0) F_v_1
  have F_P9 : h_42 P9 = some (.inr (2, [.ref v_1, .ref v_3, .int 1, .int 1])) := kf_at kf_47 T_P9 (by decide) tn0 (nmc (tne T_P9 T_a8 (by decide)) nm0) F_P9
  have hkf : kf τ [(10, f)] [P9] h h_42 := kf_tr hkf kf_47 (List.forall_mem_nil _) (List.forall_mem_cons.mpr ⟨Or.inr (by rw [T_a8]; exact List.mem_cons_self), List.forall_mem_nil _⟩)
  have hbn8 : nod h_42 a8 = some (.int 0, .null) := xp_46 _ _ h84
  have W_N : Nds t h_42 P9 v_1 v_3 1 1 g_8 := ⟨F_P9, F_v_1⟩
  exact W.vret hx hb hr (fun t9 ht hW => ⟨h_42, rfl, ⟨hT, hkf, (fun s o c nn sl hq => by
    obtain ⟨rfl, rfl, rfl, rfl, rfl⟩ := Nds_eq hq O_0
    exact ⟨a8, hsl8, W_N, hbn8⟩)⟩, by rw [ht]; exact hH, by rw [ht]; exact hz⟩) hLo d_Ns_becomeRootAlone_26
