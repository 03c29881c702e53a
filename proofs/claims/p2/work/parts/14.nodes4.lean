set_option maxRecDepth 100000 in
theorem mw_152 : Cond.fieldLink R_Ns 17 "WriteOnceDisc$Nodes" "order" "[LWriteOnceDisc$Node;" ∈ lw_g := lw_gin (List.mem_append_right _ (List.mem_of_getElem? (i := 182) rfl)) (by decide +kernel)
set_option maxRecDepth 100000 in
theorem mw_153 : Cond.code y_No_comesBefore b_No_comesBefore 6 (some .boolean) ∈ lw_g := lw_gin (List.mem_append_right _ (List.mem_of_getElem? (i := 463) rfl)) (by decide +kernel)
set_option maxRecDepth 100000 in
theorem mw_154 : Cond.methodLink R_Ns 90 y_No_comesBefore ∈ lw_g := lw_gin (List.mem_append_right _ (List.mem_of_getElem? (i := 460) rfl)) (by decide +kernel)
set_option maxRecDepth 100000 in
theorem mw_155 : Cond.instanceMethod y_No_comesBefore ∈ lw_g := lw_gin (List.mem_append_right _ (List.mem_of_getElem? (i := 461) rfl)) (by decide +kernel)
set_option maxRecDepth 100000 in
theorem mw_156 : Cond.selects R_No y_No_comesBefore y_No_comesBefore ∈ lw_g := lw_gin (List.mem_append_right _ (List.mem_of_getElem? (i := 462) rfl)) (by decide +kernel)
set_option maxRecDepth 100000 in
theorem mw_157 : Cond.code y_Ns_listChildren b_Ns_listChildren 6 (some .int) ∈ lw_g := lw_gin (List.mem_append_right _ (List.mem_of_getElem? (i := 459) rfl)) (by decide +kernel)
set_option maxRecDepth 100000 in
theorem mw_158 : Cond.methodLink R_Ns 86 y_Ns_listChildren ∈ lw_g := lw_gin (List.mem_append_right _ (List.mem_of_getElem? (i := 456) rfl)) (by decide +kernel)
set_option maxRecDepth 100000 in
theorem mw_159 : Cond.instanceMethod y_Ns_listChildren ∈ lw_g := lw_gin (List.mem_append_right _ (List.mem_of_getElem? (i := 458) rfl)) (by decide +kernel)
set_option maxRecDepth 100000 in
theorem mw_160 : Cond.selects R_Ns y_Ns_listChildren y_Ns_listChildren ∈ lw_g := lw_gin (List.mem_append_left _ (List.mem_of_getElem? (i := 3) rfl)) (by decide +kernel)
set_option maxRecDepth 100000 in
theorem mw_161 : Cond.fieldLink R_Ns 62 "WriteOnceDisc$Node" "sector" "I" ∈ lw_g := lw_gin (List.mem_append_right _ (List.mem_of_getElem? (i := 125) rfl)) (by decide +kernel)
set_option maxRecDepth 100000 in
theorem mw_162 : Cond.methodLink R_Ns 65 y_No_settle ∈ lw_g := lw_gin (List.mem_append_right _ (List.mem_of_getElem? (i := 763) rfl)) (by decide +kernel)
set_option maxRecDepth 100000 in
theorem mw_163 : Cond.code y_Ns_append b_Ns_append 2 (some (.object "WriteOnceDisc$Node")) ∈ lw_g := lw_gin (List.mem_append_right _ (List.mem_of_getElem? (i := 313) rfl)) (by decide +kernel)
set_option maxRecDepth 100000 in
theorem mw_164 : Cond.methodLink R_Ns 28 y_Ns_append ∈ lw_g := lw_gin (List.mem_append_right _ (List.mem_of_getElem? (i := 603) rfl)) (by decide +kernel)
set_option maxRecDepth 100000 in
theorem mw_165 : Cond.instanceMethod y_Ns_append ∈ lw_g := lw_gin (List.mem_append_right _ (List.mem_of_getElem? (i := 311) rfl)) (by decide +kernel)
set_option maxRecDepth 100000 in
theorem mw_166 : Cond.selects R_Ns y_Ns_append y_Ns_append ∈ lw_g := lw_gin (List.mem_append_right _ (List.mem_of_getElem? (i := 312) rfl)) (by decide +kernel)
set_option maxRecDepth 100000 in
theorem mw_167 : Cond.code y_No_become b_No_become 5 none ∈ lw_g := lw_gin (List.mem_append_right _ (List.mem_of_getElem? (i := 317) rfl)) (by decide +kernel)
set_option maxRecDepth 100000 in
theorem mw_168 : Cond.methodLink R_Ns 32 y_No_become ∈ lw_g := lw_gin (List.mem_append_right _ (List.mem_of_getElem? (i := 604) rfl)) (by decide +kernel)
set_option maxRecDepth 100000 in
theorem mw_169 : Cond.instanceMethod y_No_become ∈ lw_g := lw_gin (List.mem_append_right _ (List.mem_of_getElem? (i := 315) rfl)) (by decide +kernel)
set_option maxRecDepth 100000 in
theorem mw_170 : Cond.selects R_No y_No_become y_No_become ∈ lw_g := lw_gin (List.mem_append_right _ (List.mem_of_getElem? (i := 316) rfl)) (by decide +kernel)
theorem d_Ns_listChildren_0 : decode b_Ns_listChildren 0 = .ok (.iload_n 2, 1) := by decide +kernel
theorem d_Ns_listChildren_1 : decode b_Ns_listChildren 1 = .ok (.istore_n 3, 1) := by decide +kernel
theorem d_Ns_listChildren_2 : decode b_Ns_listChildren 2 = .ok (.iconst 0, 1) := by decide +kernel
theorem d_Ns_listChildren_3 : decode b_Ns_listChildren 3 = .ok (.istore 4, 2) := by decide +kernel
theorem d_Ns_listChildren_5 : decode b_Ns_listChildren 5 = .ok (.iload 4, 2) := by decide +kernel
theorem d_Ns_listChildren_7 : decode b_Ns_listChildren 7 = .ok (.aload_n 0, 1) := by decide +kernel
theorem d_Ns_listChildren_8 : decode b_Ns_listChildren 8 = .ok (.getfield 20, 3) := by decide +kernel
theorem d_Ns_listChildren_11 : decode b_Ns_listChildren 11 = .ok (.if_icmp .ge 99, 3) := by decide +kernel
theorem d_Ns_listChildren_110 : decode b_Ns_listChildren 110 = .ok (.iload_n 3, 1) := by decide +kernel
theorem d_Ns_listChildren_111 : decode b_Ns_listChildren 111 = .ok (.ireturn, 1) := by decide +kernel
theorem d_Ns_listChildren_14 : decode b_Ns_listChildren 14 = .ok (.iload_n 3, 1) := by decide +kernel
theorem d_Ns_listChildren_15 : decode b_Ns_listChildren 15 = .ok (.bipush 30, 2) := by decide +kernel
theorem d_Ns_listChildren_17 : decode b_Ns_listChildren 17 = .ok (.if_icmp .ge 93, 3) := by decide +kernel
theorem d_Ns_listChildren_20 : decode b_Ns_listChildren 20 = .ok (.aload_n 0, 1) := by decide +kernel
theorem d_Ns_listChildren_21 : decode b_Ns_listChildren 21 = .ok (.getfield 11, 3) := by decide +kernel
theorem d_Ns_listChildren_24 : decode b_Ns_listChildren 24 = .ok (.iload 4, 2) := by decide +kernel
theorem d_Ns_listChildren_26 : decode b_Ns_listChildren 26 = .ok (.aaload, 1) := by decide +kernel
theorem d_Ns_listChildren_27 : decode b_Ns_listChildren 27 = .ok (.getfield 54, 3) := by decide +kernel
theorem d_Ns_listChildren_30 : decode b_Ns_listChildren 30 = .ok (.aload_n 1, 1) := by decide +kernel
theorem d_Ns_listChildren_31 : decode b_Ns_listChildren 31 = .ok (.if_acmp .ne 73, 3) := by decide +kernel
theorem d_Ns_listChildren_104 : decode b_Ns_listChildren 104 = .ok (.iinc 4 1, 3) := by decide +kernel
theorem d_Ns_listChildren_107 : decode b_Ns_listChildren 107 = .ok (.goto (-102), 3) := by decide +kernel
theorem d_Ns_listChildren_34 : decode b_Ns_listChildren 34 = .ok (.iload_n 3, 1) := by decide +kernel
theorem d_Ns_listChildren_35 : decode b_Ns_listChildren 35 = .ok (.istore 5, 2) := by decide +kernel
theorem d_Ns_listChildren_37 : decode b_Ns_listChildren 37 = .ok (.iload 5, 2) := by decide +kernel
theorem d_Ns_listChildren_39 : decode b_Ns_listChildren 39 = .ok (.iload_n 2, 1) := by decide +kernel
theorem d_Ns_listChildren_40 : decode b_Ns_listChildren 40 = .ok (.if_icmp .le 47, 3) := by decide +kernel
theorem d_Ns_listChildren_87 : decode b_Ns_listChildren 87 = .ok (.aload_n 0, 1) := by decide +kernel
theorem d_Ns_listChildren_88 : decode b_Ns_listChildren 88 = .ok (.getfield 17, 3) := by decide +kernel
theorem d_Ns_listChildren_91 : decode b_Ns_listChildren 91 = .ok (.iload 5, 2) := by decide +kernel
theorem d_Ns_listChildren_93 : decode b_Ns_listChildren 93 = .ok (.aload_n 0, 1) := by decide +kernel
theorem d_Ns_listChildren_94 : decode b_Ns_listChildren 94 = .ok (.getfield 11, 3) := by decide +kernel
theorem d_Ns_listChildren_97 : decode b_Ns_listChildren 97 = .ok (.iload 4, 2) := by decide +kernel
theorem d_Ns_listChildren_99 : decode b_Ns_listChildren 99 = .ok (.aaload, 1) := by decide +kernel
theorem d_Ns_listChildren_100 : decode b_Ns_listChildren 100 = .ok (.aastore, 1) := by decide +kernel
theorem d_Ns_listChildren_101 : decode b_Ns_listChildren 101 = .ok (.iinc 3 1, 3) := by decide +kernel
theorem d_Ns_listChildren_43 : decode b_Ns_listChildren 43 = .ok (.aload_n 0, 1) := by decide +kernel
theorem d_Ns_listChildren_44 : decode b_Ns_listChildren 44 = .ok (.getfield 11, 3) := by decide +kernel
theorem d_Ns_listChildren_47 : decode b_Ns_listChildren 47 = .ok (.iload 4, 2) := by decide +kernel
theorem d_Ns_listChildren_49 : decode b_Ns_listChildren 49 = .ok (.aaload, 1) := by decide +kernel
theorem d_Ns_listChildren_50 : decode b_Ns_listChildren 50 = .ok (.aload_n 0, 1) := by decide +kernel
theorem d_Ns_listChildren_51 : decode b_Ns_listChildren 51 = .ok (.getfield 17, 3) := by decide +kernel
theorem d_Ns_listChildren_54 : decode b_Ns_listChildren 54 = .ok (.iload 5, 2) := by decide +kernel
theorem d_Ns_listChildren_56 : decode b_Ns_listChildren 56 = .ok (.iconst 1, 1) := by decide +kernel
theorem d_Ns_listChildren_57 : decode b_Ns_listChildren 57 = .ok (.isub, 1) := by decide +kernel
theorem d_Ns_listChildren_58 : decode b_Ns_listChildren 58 = .ok (.aaload, 1) := by decide +kernel
theorem d_Ns_listChildren_59 : decode b_Ns_listChildren 59 = .ok (.invokevirtual 90, 3) := by decide +kernel
theorem d_Ns_listChildren_62 : decode b_Ns_listChildren 62 = .ok (.ifCond .eq 25, 3) := by decide +kernel
theorem d_Ns_listChildren_65 : decode b_Ns_listChildren 65 = .ok (.aload_n 0, 1) := by decide +kernel
theorem d_Ns_listChildren_66 : decode b_Ns_listChildren 66 = .ok (.getfield 17, 3) := by decide +kernel
theorem d_Ns_listChildren_69 : decode b_Ns_listChildren 69 = .ok (.iload 5, 2) := by decide +kernel
theorem d_Ns_listChildren_71 : decode b_Ns_listChildren 71 = .ok (.aload_n 0, 1) := by decide +kernel
theorem d_Ns_listChildren_72 : decode b_Ns_listChildren 72 = .ok (.getfield 17, 3) := by decide +kernel
theorem d_Ns_listChildren_75 : decode b_Ns_listChildren 75 = .ok (.iload 5, 2) := by decide +kernel
theorem d_Ns_listChildren_77 : decode b_Ns_listChildren 77 = .ok (.iconst 1, 1) := by decide +kernel
theorem d_Ns_listChildren_78 : decode b_Ns_listChildren 78 = .ok (.isub, 1) := by decide +kernel
theorem d_Ns_listChildren_79 : decode b_Ns_listChildren 79 = .ok (.aaload, 1) := by decide +kernel
theorem d_Ns_listChildren_80 : decode b_Ns_listChildren 80 = .ok (.aastore, 1) := by decide +kernel
theorem d_Ns_listChildren_81 : decode b_Ns_listChildren 81 = .ok (.iinc 5 (-1), 3) := by decide +kernel
theorem d_Ns_listChildren_84 : decode b_Ns_listChildren 84 = .ok (.goto (-47), 3) := by decide +kernel
theorem d_Ns_putInOrder_0 : decode b_Ns_putInOrder 0 = .ok (.aload_n 0, 1) := by decide +kernel
theorem d_Ns_putInOrder_1 : decode b_Ns_putInOrder 1 = .ok (.getfield 17, 3) := by decide +kernel
theorem d_Ns_putInOrder_4 : decode b_Ns_putInOrder 4 = .ok (.iconst 0, 1) := by decide +kernel
theorem d_Ns_putInOrder_5 : decode b_Ns_putInOrder 5 = .ok (.aload_n 0, 1) := by decide +kernel
theorem d_Ns_putInOrder_6 : decode b_Ns_putInOrder 6 = .ok (.getfield 11, 3) := by decide +kernel
theorem d_Ns_putInOrder_9 : decode b_Ns_putInOrder 9 = .ok (.iconst 0, 1) := by decide +kernel
theorem d_Ns_putInOrder_10 : decode b_Ns_putInOrder 10 = .ok (.aaload, 1) := by decide +kernel
theorem d_Ns_putInOrder_11 : decode b_Ns_putInOrder 11 = .ok (.aastore, 1) := by decide +kernel
theorem d_Ns_putInOrder_12 : decode b_Ns_putInOrder 12 = .ok (.iconst 1, 1) := by decide +kernel
theorem d_Ns_putInOrder_13 : decode b_Ns_putInOrder 13 = .ok (.istore_n 1, 1) := by decide +kernel
theorem d_Ns_putInOrder_14 : decode b_Ns_putInOrder 14 = .ok (.iconst 0, 1) := by decide +kernel
theorem d_Ns_putInOrder_15 : decode b_Ns_putInOrder 15 = .ok (.istore_n 2, 1) := by decide +kernel
theorem d_Ns_putInOrder_16 : decode b_Ns_putInOrder 16 = .ok (.iload_n 2, 1) := by decide +kernel
theorem d_Ns_putInOrder_17 : decode b_Ns_putInOrder 17 = .ok (.iload_n 1, 1) := by decide +kernel
theorem d_Ns_putInOrder_18 : decode b_Ns_putInOrder 18 = .ok (.if_icmp .ge 39, 3) := by decide +kernel
theorem d_Ns_putInOrder_57 : decode b_Ns_putInOrder 57 = .ok (.return_, 1) := by decide +kernel
theorem d_Ns_putInOrder_21 : decode b_Ns_putInOrder 21 = .ok (.iload_n 2, 1) := by decide +kernel
theorem d_Ns_putInOrder_22 : decode b_Ns_putInOrder 22 = .ok (.bipush 30, 2) := by decide +kernel
theorem d_Ns_putInOrder_24 : decode b_Ns_putInOrder 24 = .ok (.if_icmp .ge 33, 3) := by decide +kernel
theorem d_Ns_putInOrder_27 : decode b_Ns_putInOrder 27 = .ok (.aload_n 0, 1) := by decide +kernel
theorem d_Ns_putInOrder_28 : decode b_Ns_putInOrder 28 = .ok (.getfield 17, 3) := by decide +kernel
theorem d_Ns_putInOrder_31 : decode b_Ns_putInOrder 31 = .ok (.iload_n 2, 1) := by decide +kernel
theorem d_Ns_putInOrder_32 : decode b_Ns_putInOrder 32 = .ok (.aaload, 1) := by decide +kernel
theorem d_Ns_putInOrder_33 : decode b_Ns_putInOrder 33 = .ok (.getfield 58, 3) := by decide +kernel
theorem d_Ns_putInOrder_36 : decode b_Ns_putInOrder 36 = .ok (.ifCond .eq 15, 3) := by decide +kernel
theorem d_Ns_putInOrder_51 : decode b_Ns_putInOrder 51 = .ok (.iinc 2 1, 3) := by decide +kernel
theorem d_Ns_putInOrder_54 : decode b_Ns_putInOrder 54 = .ok (.goto (-38), 3) := by decide +kernel
theorem d_Ns_putInOrder_39 : decode b_Ns_putInOrder 39 = .ok (.aload_n 0, 1) := by decide +kernel
theorem d_Ns_putInOrder_40 : decode b_Ns_putInOrder 40 = .ok (.aload_n 0, 1) := by decide +kernel
theorem d_Ns_putInOrder_41 : decode b_Ns_putInOrder 41 = .ok (.getfield 17, 3) := by decide +kernel
theorem d_Ns_putInOrder_44 : decode b_Ns_putInOrder 44 = .ok (.iload_n 2, 1) := by decide +kernel
theorem d_Ns_putInOrder_45 : decode b_Ns_putInOrder 45 = .ok (.aaload, 1) := by decide +kernel
theorem d_Ns_putInOrder_46 : decode b_Ns_putInOrder 46 = .ok (.iload_n 1, 1) := by decide +kernel
theorem d_Ns_putInOrder_47 : decode b_Ns_putInOrder 47 = .ok (.invokevirtual 86, 3) := by decide +kernel
theorem d_Ns_putInOrder_50 : decode b_Ns_putInOrder 50 = .ok (.istore_n 1, 1) := by decide +kernel
theorem d_Ns_settle_0 : decode b_Ns_settle 0 = .ok (.iconst 0, 1) := by decide +kernel
theorem d_Ns_settle_1 : decode b_Ns_settle 1 = .ok (.istore_n 1, 1) := by decide +kernel
theorem d_Ns_settle_2 : decode b_Ns_settle 2 = .ok (.iload_n 1, 1) := by decide +kernel
theorem d_Ns_settle_3 : decode b_Ns_settle 3 = .ok (.aload_n 0, 1) := by decide +kernel
theorem d_Ns_settle_4 : decode b_Ns_settle 4 = .ok (.getfield 20, 3) := by decide +kernel
theorem d_Ns_settle_7 : decode b_Ns_settle 7 = .ok (.if_icmp .ge 39, 3) := by decide +kernel
theorem d_Ns_settle_46 : decode b_Ns_settle 46 = .ok (.return_, 1) := by decide +kernel
theorem d_Ns_settle_10 : decode b_Ns_settle 10 = .ok (.aload_n 0, 1) := by decide +kernel
theorem d_Ns_settle_11 : decode b_Ns_settle 11 = .ok (.getfield 11, 3) := by decide +kernel
theorem d_Ns_settle_14 : decode b_Ns_settle 14 = .ok (.iload_n 1, 1) := by decide +kernel
theorem d_Ns_settle_15 : decode b_Ns_settle 15 = .ok (.aaload, 1) := by decide +kernel
theorem d_Ns_settle_16 : decode b_Ns_settle 16 = .ok (.getfield 58, 3) := by decide +kernel
theorem d_Ns_settle_19 : decode b_Ns_settle 19 = .ok (.ifCond .ne 21, 3) := by decide +kernel
theorem d_Ns_settle_40 : decode b_Ns_settle 40 = .ok (.iinc 1 1, 3) := by decide +kernel
theorem d_Ns_settle_43 : decode b_Ns_settle 43 = .ok (.goto (-41), 3) := by decide +kernel
theorem d_Ns_settle_22 : decode b_Ns_settle 22 = .ok (.aload_n 0, 1) := by decide +kernel
theorem d_Ns_settle_23 : decode b_Ns_settle 23 = .ok (.getfield 11, 3) := by decide +kernel
theorem d_Ns_settle_26 : decode b_Ns_settle 26 = .ok (.iload_n 1, 1) := by decide +kernel
theorem d_Ns_settle_27 : decode b_Ns_settle 27 = .ok (.aaload, 1) := by decide +kernel
theorem d_Ns_settle_28 : decode b_Ns_settle 28 = .ok (.aload_n 0, 1) := by decide +kernel
theorem d_Ns_settle_29 : decode b_Ns_settle 29 = .ok (.getfield 11, 3) := by decide +kernel
theorem d_Ns_settle_32 : decode b_Ns_settle 32 = .ok (.iload_n 1, 1) := by decide +kernel
theorem d_Ns_settle_33 : decode b_Ns_settle 33 = .ok (.aaload, 1) := by decide +kernel
theorem d_Ns_settle_34 : decode b_Ns_settle 34 = .ok (.getfield 62, 3) := by decide +kernel
theorem d_Ns_settle_37 : decode b_Ns_settle 37 = .ok (.invokevirtual 65, 3) := by decide +kernel
theorem d_Ns_becomeRootAlone_0 : decode b_Ns_becomeRootAlone 0 = .ok (.aload_n 0, 1) := by decide +kernel
theorem d_Ns_becomeRootAlone_1 : decode b_Ns_becomeRootAlone 1 = .ok (.iconst 0, 1) := by decide +kernel
theorem d_Ns_becomeRootAlone_2 : decode b_Ns_becomeRootAlone 2 = .ok (.putfield 20, 3) := by decide +kernel
theorem d_Ns_becomeRootAlone_5 : decode b_Ns_becomeRootAlone 5 = .ok (.aload_n 0, 1) := by decide +kernel
theorem d_Ns_becomeRootAlone_6 : decode b_Ns_becomeRootAlone 6 = .ok (.iconst 0, 1) := by decide +kernel
theorem d_Ns_becomeRootAlone_7 : decode b_Ns_becomeRootAlone 7 = .ok (.putfield 24, 3) := by decide +kernel
theorem d_Ns_becomeRootAlone_10 : decode b_Ns_becomeRootAlone 10 = .ok (.aload_n 0, 1) := by decide +kernel
theorem d_Ns_becomeRootAlone_11 : decode b_Ns_becomeRootAlone 11 = .ok (.invokevirtual 28, 3) := by decide +kernel
theorem d_Ns_becomeRootAlone_14 : decode b_Ns_becomeRootAlone 14 = .ok (.astore_n 1, 1) := by decide +kernel
theorem d_Ns_becomeRootAlone_15 : decode b_Ns_becomeRootAlone 15 = .ok (.aload_n 1, 1) := by decide +kernel
theorem d_Ns_becomeRootAlone_16 : decode b_Ns_becomeRootAlone 16 = .ok (.ifnull 10, 3) := by decide +kernel
theorem d_Ns_becomeRootAlone_19 : decode b_Ns_becomeRootAlone 19 = .ok (.aload_n 1, 1) := by decide +kernel
theorem d_Ns_becomeRootAlone_20 : decode b_Ns_becomeRootAlone 20 = .ok (.aconst_null, 1) := by decide +kernel
theorem d_Ns_becomeRootAlone_21 : decode b_Ns_becomeRootAlone 21 = .ok (.iconst 1, 1) := by decide +kernel
theorem d_Ns_becomeRootAlone_22 : decode b_Ns_becomeRootAlone 22 = .ok (.lconst 0, 1) := by decide +kernel
theorem d_Ns_becomeRootAlone_23 : decode b_Ns_becomeRootAlone 23 = .ok (.invokevirtual 32, 3) := by decide +kernel
theorem d_Ns_becomeRootAlone_26 : decode b_Ns_becomeRootAlone 26 = .ok (.return_, 1) := by decide +kernel
set_option maxHeartbeats 4000000 in
set_option maxRecDepth 100000 in
theorem t_lchild (l : Launch) (D : va_G) (t : Nat → ClassId) (G : hG) (ak av : Nat → Nat) (h : hM) (τ : tM) (n f : Nat) (P9 : Nat) (d9 : Nat) (ls : Int32) (hn : n ≤ 200) (hT : TI τ t n h) (T_P9 : τ P9 = (7, f)) (T_d9 : τ d9 = (10, f)) (hls : 0 ≤ ls.toInt ∧ ls.toInt ≤ 30) : Met l y_Ns_listChildren (.code y_Ns_listChildren b_Ns_listChildren 6 (some .int) :: lw_g) { frames := 6, cells := 0, slots := 0, locals := 132 } (hP (kE D t G ak av) D vwCl G h [.ref P9, .ref d9, .int ls]) (hQi D vwCl G (fun r h' => TI τ t n h' ∧ kf τ [(9, f)] [] h h' ∧ (ls.toInt ≤ r.toInt ∧ r.toInt ≤ 30))) 0 0 G.P := by
  refine Met.ofW (cc := b_Ns_listChildren) (maxL := 6) (ret := (some .int)) (by decide) rfl ?_
  intro p e s m args below meth c s₁ Bd hml hv
  obtain ⟨ha, hE, hH⟩ := hv
  have hx := Bd.exec
  have hb := Bd.bytes
  have hr := Bd.returns
  have hts : ∀ w ∈ lw_g, w.before args s = true := fun w hw => atoms_spec (ws := (.code y_Ns_listChildren b_Ns_listChildren 6 (some .int) :: lw_g)) Bd.pre w (List.mem_cons_of_mem _ hw)
  have hown : s.vm.findClass R_Ns = some m.cls := findClass_of_methodNamed Bd.named
  have hlocks := Bd.notSynchronized
  have hK := hE.1
  have hH0 := hH
  have hLo : hLc G.P [] := hLc_nil
  have hz : s.heap.size ≤ s.heap.size := Nat.le_refl _
  have hl := lv_entry [.ref P9, .ref d9, .int ls] (n := 6) (Nat.le_of_ble_eq_true rfl)
  rw [show entryFrame m args 6 = F0 m 0 ((lg_sl [.ref P9, .ref d9, .int ls] ++ List.replicate (6 - (lg_sl [.ref P9, .ref d9, .int ls]).length) Slot.unset).toArray) [] from (by rw [ha]; exact lg_entry_eq m [.ref P9, .ref d9, .int ls] 6)]
  generalize (lg_sl [.ref P9, .ref d9, .int ls] ++ List.replicate (6 - (lg_sl [.ref P9, .ref d9, .int ls]).length) Slot.unset).toArray = ls at hl ⊢
  have hl : lv_has ls 6 [(0, .ref P9), (1, .ref d9), (2, .int ls)] := hl
  have hkf : kf τ [(9, f)] [] h h := kf_rf
  refine lv_iload_n hx hb d_Ns_listChildren_0 rfl (lv_at hl 2 rfl) ?_
  refine lv_istore_n (lv' := [(3, .int ls), (0, .ref P9), (1, .ref d9), (2, .int ls)]) hx hb d_Ns_listChildren_1 rfl hl (by decide) rfl (fun ls hl => ?_)
  refine lv_iconst (v := 0) hx hb d_Ns_listChildren_2 (by decide) ?_
  refine lv_istore (lv' := [(4, .int 0), (3, .int ls), (0, .ref P9), (1, .ref d9), (2, .int ls)]) hx hb d_Ns_listChildren_3 hl (by decide) rfl (fun ls hl => ?_)
  refine hm_loop (fun k5 ls H locs hh5 => ∃ (en9 : Int32) (i9 : Int32), k5 = mU i9 ∧ lv_has ls 6 [(0, .ref P9), (1, .ref d9), (2, .int ls), (3, .int en9), (4, .int i9)] ∧ hm D vwCl G hh5 H ∧ s.heap.size ≤ H.size ∧ hLc G.P locs ∧ (TI τ t n hh5) ∧ (kf τ [(9, f)] [] h hh5) ∧ (0 ≤ i9.toInt) ∧ (ls.toInt ≤ en9.toInt ∧ en9.toInt ≤ 30)) ?_ (hh := h) ⟨ls, 0, rfl, (lv_sub hl [2, 3, 4, 1, 0] rfl), hH, hz, hLo, hT, hkf, (by decide), ⟨by omega, by omega⟩⟩
  rintro k5 ls H locs hh5 ⟨en9, i9, hk5, hl, hH, hz, hLo, hT, hkf, I_i9, I_en⟩ ih5
  refine lv_iload hx hb d_Ns_listChildren_5 (lv_at hl 4 rfl) ?_
  refine lv_aload_n hx hb d_Ns_listChildren_7 rfl (lv_at hl 0 rfl) ?_
  obtain ⟨v1, v3, v5, v7, F_P9, c2, c4, c6⟩ := TI_nds hT T_P9
  refine hm_get (ci := 2) (v := .int v5) (C := R_Ns) (T := F_Ns) (N := 4) hx hb hts ig_Ns hown hK hH F_P9 rfl 2 (by decide) (hts _ mw_128) (fun _ h9 => h9) rfl d_Ns_listChildren_8 ?_
  refine lv_icmp_ge (tgt := 110) hx hb d_Ns_listChildren_11 (by decide) (fun hc8 => ?_) (fun hc8 => ?_)
  · skip
    have ic9 : v5.toInt ≤ i9.toInt := iLe hc8
    refine lv_iload_n hx hb d_Ns_listChildren_110 rfl (lv_at hl 3 rfl) ?_
    exact W.iret (v := en9) hx hb hr (fun t9 ht hW => ⟨en9, hh5, rfl, ⟨hT, hkf, ⟨by omega, by omega⟩⟩, by rw [ht]; exact hH, by rw [ht]; exact hz⟩) hLo d_Ns_listChildren_111
  · skip
    have ic10 : i9.toInt < v5.toInt := iNe hc8
    refine lv_iload_n hx hb d_Ns_listChildren_14 rfl (lv_at hl 3 rfl) ?_
    refine lv_bipush (v := 30) hx hb d_Ns_listChildren_15 (by decide) ?_
    refine lv_icmp_ge (tgt := 110) hx hb d_Ns_listChildren_17 (by decide) (fun hc11 => ?_) (fun hc11 => ?_)
    · skip
      have ic12 : 30 ≤ en9.toInt := iLe hc11
      refine lv_iload_n hx hb d_Ns_listChildren_110 rfl (lv_at hl 3 rfl) ?_
      exact W.iret (v := en9) hx hb hr (fun t9 ht hW => ⟨en9, hh5, rfl, ⟨hT, hkf, ⟨by omega, by omega⟩⟩, by rw [ht]; exact hH, by rw [ht]; exact hz⟩) hLo d_Ns_listChildren_111
    · skip
      have ic13 : en9.toInt < 30 := iNe hc11
      refine lv_aload_n hx hb d_Ns_listChildren_20 rfl (lv_at hl 0 rfl) ?_
      refine hm_get (ci := 2) (v := .ref v1) (C := R_Ns) (T := F_Ns) (N := 4) hx hb hts ig_Ns hown hK hH F_P9 rfl 0 (by decide) (hts _ mw_129) (fun _ h9 => h9) rfl d_Ns_listChildren_21 ?_
      refine lv_iload hx hb d_Ns_listChildren_24 (lv_at hl 4 rfl) ?_
      obtain ⟨g14, F_v1, c15, c16⟩ := TI_slo hT c2
      obtain ⟨a17, e18, T19⟩ := c15 i9.toNatClampNeg (iCl (by omega) (by omega))
      refine hm_aald (v := .ref a17) hx hb hK hH 4 F_v1 (C := R_No) rfl (iIn (by omega) (by omega)) (by rw [e18]; rfl) d_Ns_listChildren_26 ?_
      obtain ⟨v20, v21, v23, v25, v26, v28, v29, v30, v32, v33, v34, F_a17, c22, c24, c27, c31⟩ := TI_node hT T19
      refine hm_get (ci := 1) (v := va_rf v21) (C := R_No) (T := F_No) (N := 11) hx hb hts ig_No hown hK hH F_a17 rfl 1 (by decide) (hts _ mw_137) (fun _ h9 => h9) rfl d_Ns_listChildren_27 ?_
      refine lv_aload_n hx hb d_Ns_listChildren_30 rfl (lv_at hl 1 rfl) ?_
      refine lv_acmp_ne (rx := v21) (ry := some d9) (tgt := 104) hx hb d_Ns_listChildren_31 (by decide) (fun hc35 => ?_) (fun hc35 => ?_)
      · skip
        refine lv_iinc (v := i9 + 1) (lv' := [(4, .int (i9 + 1)), (0, .ref P9), (1, .ref d9), (2, .int ls), (3, .int en9)]) hx hb d_Ns_listChildren_104 hl (k := 4) rfl (by rfl) (by decide) rfl (fun ls hl => ?_)
        refine lv_goto (tgt := 5) hx hb d_Ns_listChildren_107 (by decide) ?_
        have is36 : (i9 + 1).toInt = i9.toInt + 1 := iAddK 1 rfl (by omega) (by omega)
        exact ih5 (mU (i9 + 1)) ls _ locs _ (by rw [hk5]; exact mU_lt (by omega)) ⟨en9, (i9 + 1), rfl, (lv_sub hl [1, 2, 3, 4, 0] rfl), hH, hz, hLo, hT, hkf, (by omega), ⟨by omega, by omega⟩⟩
      · skip
        refine lv_iload_n hx hb d_Ns_listChildren_34 rfl (lv_at hl 3 rfl) ?_
        refine lv_istore (lv' := [(5, .int en9), (0, .ref P9), (1, .ref d9), (2, .int ls), (3, .int en9), (4, .int i9)]) hx hb d_Ns_listChildren_35 hl (by decide) rfl (fun ls hl => ?_)
        refine hm_loop (fun k37 ls H locs hh37 => ∃ (at9 : Int32), k37 = at9.toInt.toNat ∧ lv_has ls 6 [(0, .ref P9), (1, .ref d9), (2, .int ls), (3, .int en9), (4, .int i9), (5, .int at9)] ∧ hm D vwCl G hh37 H ∧ s.heap.size ≤ H.size ∧ hLc G.P locs ∧ (TI τ t n hh37) ∧ (kf τ [(9, f)] [] h hh37) ∧ (ls.toInt ≤ at9.toInt ∧ at9.toInt ≤ en9.toInt)) ?_ (hh := hh5) ⟨en9, rfl, (lv_sub hl [1, 2, 3, 4, 5, 0] rfl), hH, hz, hLo, hT, hkf, ⟨by omega, by omega⟩⟩
        rintro k37 ls H locs hh37 ⟨at9, hk37, hl, hH, hz, hLo, hT, hkf, I_at⟩ ih37
        refine lv_iload hx hb d_Ns_listChildren_37 (lv_at hl 5 rfl) ?_
        refine lv_iload_n hx hb d_Ns_listChildren_39 rfl (lv_at hl 2 rfl) ?_
        refine lv_icmp_le (tgt := 87) hx hb d_Ns_listChildren_40 (by decide) (fun hc37 => ?_) (fun hc37 => ?_)
        · skip
          have ic38 : at9.toInt ≤ ls.toInt := iLe hc37
          refine lv_aload_n hx hb d_Ns_listChildren_87 rfl (lv_at hl 0 rfl) ?_
          obtain ⟨v39, v41, v43, v45, F_P9, c40, c42, c44⟩ := TI_nds hT T_P9
          refine hm_get (ci := 2) (v := .ref v41) (C := R_Ns) (T := F_Ns) (N := 4) hx hb hts ig_Ns hown hK hH F_P9 rfl 1 (by decide) (hts _ mw_152) (fun _ h9 => h9) rfl d_Ns_listChildren_88 ?_
          refine lv_iload hx hb d_Ns_listChildren_91 (lv_at hl 5 rfl) ?_
          refine lv_aload_n hx hb d_Ns_listChildren_93 rfl (lv_at hl 0 rfl) ?_
          refine hm_get (ci := 2) (v := .ref v39) (C := R_Ns) (T := F_Ns) (N := 4) hx hb hts ig_Ns hown hK hH F_P9 rfl 0 (by decide) (hts _ mw_129) (fun _ h9 => h9) rfl d_Ns_listChildren_94 ?_
          refine lv_iload hx hb d_Ns_listChildren_97 (lv_at hl 4 rfl) ?_
          obtain ⟨g46, F_v39, c47, c48⟩ := TI_slo hT c40
          obtain ⟨a49, e50, T51⟩ := c47 i9.toNatClampNeg (iCl (by omega) (by omega))
          refine hm_aald (v := .ref a49) hx hb hK hH 4 F_v39 (C := R_No) rfl (iIn (by omega) (by omega)) (by rw [e50]; rfl) d_Ns_listChildren_99 ?_
          obtain ⟨g52, F_v41, c53⟩ := TI_ord hT c42
          obtain ⟨v56, v57, v59, v61, v62, v64, v65, v66, v68, v69, v70, F_a49, c58, c60, c63, c67⟩ := TI_node hT T51
          refine hm_aast hx hb hK hH hLo 4 1 F_v41 rfl F_a49 rfl (iIn (by omega) (by omega)) d_Ns_listChildren_100 (fun H54 locs hH z55 hLo => ?_)
          have hz : s.heap.size ≤ H54.size := by rw [z55]; exact hz
          obtain ⟨h71, e72⟩ : ∃ z, z = hu hh37 v41 (.inl ((t 4), 30, .inr (.inr (.inr (.inr (va_up g52 at9.toNatClampNeg (some a49))))))) := ⟨_, rfl⟩
          have hH : hm D vwCl G h71 H54 := by rw [e72]; exact hH
          have F_P9 : h71 P9 = some (.inr (2, [.ref v39, .ref v41, .int v43, .int v45])) := by rw [e72, hu_n (tne T_P9 c42 (by decide))]; exact F_P9
          have F_v39 : h71 v39 = some (.inl ((t 4), 30, .inr (.inr (.inr (.inr g46))))) := by rw [e72, hu_n (tne c40 c42 (by decide))]; exact F_v39
          have F_a49 : h71 a49 = some (.inr (1, [.int v56, va_rf v57, .int v59, .long v61, .int v62, .int v64, .int v65, .int v66, .int v68, .int v69, .int v70])) := by rw [e72, hu_n (tne T51 c42 (by decide))]; exact F_a49
          have F_v41 : h71 v41 = some (.inl ((t 4), 30, .inr (.inr (.inr (.inr (va_up g52 at9.toNatClampNeg (some a49))))))) := by rw [e72]; exact hu_s _ _ _
          have hT : TI τ t n h71 := by rw [e72]; exact TI_put hT c42 (by decide) ⟨_, rfl, (nodA_up c53 T51)⟩
          have hkf : kf τ [(9, f)] [] h h71 := by rw [e72]; exact kf_put hkf c42 List.mem_cons_self
          obtain ⟨g73, e74⟩ : ∃ z, z = va_up g52 at9.toNatClampNeg (some a49) := ⟨_, rfl⟩
          rw [← e74] at F_v41
          have c75 := (nodA_up c53 T51)
          rw [← e74] at c75
          refine lv_iinc (v := en9 + 1) (lv' := [(3, .int (en9 + 1)), (0, .ref P9), (1, .ref d9), (2, .int ls), (4, .int i9), (5, .int at9)]) hx hb d_Ns_listChildren_101 hl (k := 3) rfl (by rfl) (by decide) rfl (fun ls hl => ?_)
          refine lv_iinc (v := i9 + 1) (lv' := [(4, .int (i9 + 1)), (3, .int (en9 + 1)), (0, .ref P9), (1, .ref d9), (2, .int ls), (5, .int at9)]) hx hb d_Ns_listChildren_104 hl (k := 4) rfl (by rfl) (by decide) rfl (fun ls hl => ?_)
          refine lv_goto (tgt := 5) hx hb d_Ns_listChildren_107 (by decide) ?_
          have is76 : (en9 + 1).toInt = en9.toInt + 1 := iAddK 1 rfl (by omega) (by omega)
          have is77 : (i9 + 1).toInt = i9.toInt + 1 := iAddK 1 rfl (by omega) (by omega)
          exact ih5 (mU (i9 + 1)) ls _ locs _ (by rw [hk5]; exact mU_lt (by omega)) ⟨(en9 + 1), (i9 + 1), rfl, (lv_sub hl [2, 3, 4, 1, 0] rfl), hH, hz, hLo, hT, hkf, (by omega), ⟨by omega, by omega⟩⟩
        · skip
          have ic78 : ls.toInt < at9.toInt := iNe hc37
          refine lv_aload_n hx hb d_Ns_listChildren_43 rfl (lv_at hl 0 rfl) ?_
          obtain ⟨v79, v81, v83, v85, F_P9, c80, c82, c84⟩ := TI_nds hT T_P9
          refine hm_get (ci := 2) (v := .ref v79) (C := R_Ns) (T := F_Ns) (N := 4) hx hb hts ig_Ns hown hK hH F_P9 rfl 0 (by decide) (hts _ mw_129) (fun _ h9 => h9) rfl d_Ns_listChildren_44 ?_
          refine lv_iload hx hb d_Ns_listChildren_47 (lv_at hl 4 rfl) ?_
          obtain ⟨g86, F_v79, c87, c88⟩ := TI_slo hT c80
          obtain ⟨a89, e90, T91⟩ := c87 i9.toNatClampNeg (iCl (by omega) (by omega))
          refine hm_aald (v := .ref a89) hx hb hK hH 4 F_v79 (C := R_No) rfl (iIn (by omega) (by omega)) (by rw [e90]; rfl) d_Ns_listChildren_49 ?_
          refine lv_aload_n hx hb d_Ns_listChildren_50 rfl (lv_at hl 0 rfl) ?_
          refine hm_get (ci := 2) (v := .ref v81) (C := R_Ns) (T := F_Ns) (N := 4) hx hb hts ig_Ns hown hK hH F_P9 rfl 1 (by decide) (hts _ mw_152) (fun _ h9 => h9) rfl d_Ns_listChildren_51 ?_
          refine lv_iload hx hb d_Ns_listChildren_54 (lv_at hl 5 rfl) ?_
          refine lv_iconst (v := 1) hx hb d_Ns_listChildren_56 (by decide) ?_
          refine lv_isub hx hb d_Ns_listChildren_57 ?_
          obtain ⟨g92, F_v81, c93⟩ := TI_ord hT c82
          have is94 : (at9 - 1).toInt = at9.toInt - 1 := iSubK 1 rfl (by omega) (by omega)
          obtain ⟨a95, e96, T97⟩ := c93 ((at9 - 1 : Int32).toNatClampNeg) (iCl (by omega) (by omega))
          refine hm_aald (v := .ref a95) hx hb hK hH 4 F_v81 (C := R_No) rfl (iIn (by omega) (by omega)) (by rw [e96]; rfl) d_Ns_listChildren_58 ?_
          obtain ⟨v98, v99, v101, v103, v104, v106, v107, v108, v110, v111, v112, F_a89, c100, c102, c105, c109⟩ := TI_node hT T91
          refine hm_callPi (va_runV (As := [.ref a95]) (b := a89) (rest := []) ⟨hx, hb, hml, hown, hts⟩ (t_before l D t G ak av hh37 τ n f f a89 a95 hn hT T91 T97) ⟨cw9B 1 hts mw_153 mw_154 mw_106 rfl rfl (by decide +kernel) ⟨Nat.le_of_ble_eq_true rfl, Nat.le_of_ble_eq_true rfl⟩, hts _ mw_155, hts _ mw_156⟩ (hP_V (q := (R_No, F_No, 11)) kE_ok hE hK hH F_a89 rfl) rfl rfl hl.1 rfl (lv_room (Nat.le_of_ble_eq_true rfl)) d_Ns_listChildren_59 ⟨Nat.le_of_ble_eq_true rfl, Nat.le_of_ble_eq_true rfl⟩) (fun r113 h114 H115 hp117  hH z116 => ?_)
          have hz : s.heap.size ≤ H115.size := Nat.le_trans hz z116
          obtain ⟨c118, rfl⟩ := hp117
          refine lv_if_eq (tgt := 87) hx hb d_Ns_listChildren_62 (by decide) (fun hc120 => ?_) (fun hc120 => ?_)
          · skip
            have ic121 : r113.toInt = 0 := congrArg Int32.toInt hc120
            refine lv_aload_n hx hb d_Ns_listChildren_87 rfl (lv_at hl 0 rfl) ?_
            refine hm_get (ci := 2) (v := .ref v81) (C := R_Ns) (T := F_Ns) (N := 4) hx hb hts ig_Ns hown hK hH F_P9 rfl 1 (by decide) (hts _ mw_152) (fun _ h9 => h9) rfl d_Ns_listChildren_88 ?_
            refine lv_iload hx hb d_Ns_listChildren_91 (lv_at hl 5 rfl) ?_
            refine lv_aload_n hx hb d_Ns_listChildren_93 rfl (lv_at hl 0 rfl) ?_
            refine hm_get (ci := 2) (v := .ref v79) (C := R_Ns) (T := F_Ns) (N := 4) hx hb hts ig_Ns hown hK hH F_P9 rfl 0 (by decide) (hts _ mw_129) (fun _ h9 => h9) rfl d_Ns_listChildren_94 ?_
            refine lv_iload hx hb d_Ns_listChildren_97 (lv_at hl 4 rfl) ?_
            refine hm_aald (v := .ref a89) hx hb hK hH 4 F_v79 (C := R_No) rfl (iIn (by omega) (by omega)) (by rw [e90]; rfl) d_Ns_listChildren_99 ?_
            refine hm_aast hx hb hK hH hLo 4 1 F_v81 rfl F_a89 rfl (iIn (by omega) (by omega)) d_Ns_listChildren_100 (fun H122 locs hH z123 hLo => ?_)
            have hz : s.heap.size ≤ H122.size := by rw [z123]; exact hz
            obtain ⟨h124, e125⟩ : ∃ z, z = hu hh37 v81 (.inl ((t 4), 30, .inr (.inr (.inr (.inr (va_up g92 at9.toNatClampNeg (some a89))))))) := ⟨_, rfl⟩
            have hH : hm D vwCl G h124 H122 := by rw [e125]; exact hH
            have F_P9 : h124 P9 = some (.inr (2, [.ref v79, .ref v81, .int v83, .int v85])) := by rw [e125, hu_n (tne T_P9 c82 (by decide))]; exact F_P9
            have F_v79 : h124 v79 = some (.inl ((t 4), 30, .inr (.inr (.inr (.inr g86))))) := by rw [e125, hu_n (tne c80 c82 (by decide))]; exact F_v79
            have F_a89 : h124 a89 = some (.inr (1, [.int v98, va_rf v99, .int v101, .long v103, .int v104, .int v106, .int v107, .int v108, .int v110, .int v111, .int v112])) := by rw [e125, hu_n (tne T91 c82 (by decide))]; exact F_a89
            have F_v81 : h124 v81 = some (.inl ((t 4), 30, .inr (.inr (.inr (.inr (va_up g92 at9.toNatClampNeg (some a89))))))) := by rw [e125]; exact hu_s _ _ _
            have hT : TI τ t n h124 := by rw [e125]; exact TI_put hT c82 (by decide) ⟨_, rfl, (nodA_up c93 T91)⟩
            have hkf : kf τ [(9, f)] [] h h124 := by rw [e125]; exact kf_put hkf c82 List.mem_cons_self
            obtain ⟨g126, e127⟩ : ∃ z, z = va_up g92 at9.toNatClampNeg (some a89) := ⟨_, rfl⟩
            rw [← e127] at F_v81
            have c128 := (nodA_up c93 T91)
            rw [← e127] at c128
            refine lv_iinc (v := en9 + 1) (lv' := [(3, .int (en9 + 1)), (0, .ref P9), (1, .ref d9), (2, .int ls), (4, .int i9), (5, .int at9)]) hx hb d_Ns_listChildren_101 hl (k := 3) rfl (by rfl) (by decide) rfl (fun ls hl => ?_)
            refine lv_iinc (v := i9 + 1) (lv' := [(4, .int (i9 + 1)), (3, .int (en9 + 1)), (0, .ref P9), (1, .ref d9), (2, .int ls), (5, .int at9)]) hx hb d_Ns_listChildren_104 hl (k := 4) rfl (by rfl) (by decide) rfl (fun ls hl => ?_)
            refine lv_goto (tgt := 5) hx hb d_Ns_listChildren_107 (by decide) ?_
            have is129 : (en9 + 1).toInt = en9.toInt + 1 := iAddK 1 rfl (by omega) (by omega)
            have is130 : (i9 + 1).toInt = i9.toInt + 1 := iAddK 1 rfl (by omega) (by omega)
            exact ih5 (mU (i9 + 1)) ls _ locs _ (by rw [hk5]; exact mU_lt (by omega)) ⟨(en9 + 1), (i9 + 1), rfl, (lv_sub hl [2, 3, 4, 1, 0] rfl), hH, hz, hLo, hT, hkf, (by omega), ⟨by omega, by omega⟩⟩
          · skip
            refine lv_aload_n hx hb d_Ns_listChildren_65 rfl (lv_at hl 0 rfl) ?_
            refine hm_get (ci := 2) (v := .ref v81) (C := R_Ns) (T := F_Ns) (N := 4) hx hb hts ig_Ns hown hK hH F_P9 rfl 1 (by decide) (hts _ mw_152) (fun _ h9 => h9) rfl d_Ns_listChildren_66 ?_
            refine lv_iload hx hb d_Ns_listChildren_69 (lv_at hl 5 rfl) ?_
            refine lv_aload_n hx hb d_Ns_listChildren_71 rfl (lv_at hl 0 rfl) ?_
            refine hm_get (ci := 2) (v := .ref v81) (C := R_Ns) (T := F_Ns) (N := 4) hx hb hts ig_Ns hown hK hH F_P9 rfl 1 (by decide) (hts _ mw_152) (fun _ h9 => h9) rfl d_Ns_listChildren_72 ?_
            refine lv_iload hx hb d_Ns_listChildren_75 (lv_at hl 5 rfl) ?_
            refine lv_iconst (v := 1) hx hb d_Ns_listChildren_77 (by decide) ?_
            refine lv_isub hx hb d_Ns_listChildren_78 ?_
            refine hm_aald (v := .ref a95) hx hb hK hH 4 F_v81 (C := R_No) rfl (iIn (by omega) (by omega)) (by rw [e96]; rfl) d_Ns_listChildren_79 ?_
            obtain ⟨v133, v134, v136, v138, v139, v141, v142, v143, v145, v146, v147, F_a95, c135, c137, c140, c144⟩ := TI_node hT T97
            refine hm_aast hx hb hK hH hLo 4 1 F_v81 rfl F_a95 rfl (iIn (by omega) (by omega)) d_Ns_listChildren_80 (fun H131 locs hH z132 hLo => ?_)
            have hz : s.heap.size ≤ H131.size := by rw [z132]; exact hz
            obtain ⟨h148, e149⟩ : ∃ z, z = hu hh37 v81 (.inl ((t 4), 30, .inr (.inr (.inr (.inr (va_up g92 at9.toNatClampNeg (some a95))))))) := ⟨_, rfl⟩
            have hH : hm D vwCl G h148 H131 := by rw [e149]; exact hH
            have F_P9 : h148 P9 = some (.inr (2, [.ref v79, .ref v81, .int v83, .int v85])) := by rw [e149, hu_n (tne T_P9 c82 (by decide))]; exact F_P9
            have F_v79 : h148 v79 = some (.inl ((t 4), 30, .inr (.inr (.inr (.inr g86))))) := by rw [e149, hu_n (tne c80 c82 (by decide))]; exact F_v79
            have F_a89 : h148 a89 = some (.inr (1, [.int v98, va_rf v99, .int v101, .long v103, .int v104, .int v106, .int v107, .int v108, .int v110, .int v111, .int v112])) := by rw [e149, hu_n (tne T91 c82 (by decide))]; exact F_a89
            have F_a95 : h148 a95 = some (.inr (1, [.int v133, va_rf v134, .int v136, .long v138, .int v139, .int v141, .int v142, .int v143, .int v145, .int v146, .int v147])) := by rw [e149, hu_n (tne T97 c82 (by decide))]; exact F_a95
            have F_v81 : h148 v81 = some (.inl ((t 4), 30, .inr (.inr (.inr (.inr (va_up g92 at9.toNatClampNeg (some a95))))))) := by rw [e149]; exact hu_s _ _ _
            have hT : TI τ t n h148 := by rw [e149]; exact TI_put hT c82 (by decide) ⟨_, rfl, (nodA_up c93 T97)⟩
            have hkf : kf τ [(9, f)] [] h h148 := by rw [e149]; exact kf_put hkf c82 List.mem_cons_self
            obtain ⟨g150, e151⟩ : ∃ z, z = va_up g92 at9.toNatClampNeg (some a95) := ⟨_, rfl⟩
            rw [← e151] at F_v81
            have c152 := (nodA_up c93 T97)
            rw [← e151] at c152
            refine lv_iinc (v := at9 + (-1)) (lv' := [(5, .int (at9 + (-1))), (0, .ref P9), (1, .ref d9), (2, .int ls), (3, .int en9), (4, .int i9)]) hx hb d_Ns_listChildren_81 hl (k := 5) rfl (by rfl) (by decide) rfl (fun ls hl => ?_)
            refine lv_goto (tgt := 37) hx hb d_Ns_listChildren_84 (by decide) ?_
            have is153 : (at9 + (-1)).toInt = at9.toInt + (-1) := iAddK (-1) rfl (by omega) (by omega)
            exact ih37 ((at9 + (-1)).toInt.toNat) ls _ locs _ (by rw [hk37]; omega) ⟨(at9 + (-1)), rfl, (lv_sub hl [1, 2, 3, 4, 5, 0] rfl), hH, hz, hLo, hT, hkf, ⟨by omega, by omega⟩⟩

set_option maxHeartbeats 4000000 in
set_option maxRecDepth 100000 in
theorem t_inOrder (l : Launch) (D : va_G) (t : Nat → ClassId) (G : hG) (ak av : Nat → Nat) (h : hM) (τ : tM) (n f : Nat) (P9 : Nat) (hn : n ≤ 200) (hT : TI τ t n h) (T_P9 : τ P9 = (7, f)) : Met l y_Ns_putInOrder (.code y_Ns_putInOrder b_Ns_putInOrder 3 none :: lw_g) { frames := 7, cells := 0, slots := 0, locals := 157 } (hP (kE D t G ak av) D vwCl G h [.ref P9]) (hQv D vwCl G (fun h' => TI τ t n h' ∧ kf τ [(9, f)] [] h h')) 0 0 G.P := by
  refine Met.ofW (cc := b_Ns_putInOrder) (maxL := 3) (ret := none) (by decide) rfl ?_
  intro p e s m args below meth c s₁ Bd hml hv
  obtain ⟨ha, hE, hH⟩ := hv
  have hx := Bd.exec
  have hb := Bd.bytes
  have hr := Bd.returns
  have hts : ∀ w ∈ lw_g, w.before args s = true := fun w hw => atoms_spec (ws := (.code y_Ns_putInOrder b_Ns_putInOrder 3 none :: lw_g)) Bd.pre w (List.mem_cons_of_mem _ hw)
  have hown : s.vm.findClass R_Ns = some m.cls := findClass_of_methodNamed Bd.named
  have hlocks := Bd.notSynchronized
  have hK := hE.1
  have hH0 := hH
  have hLo : hLc G.P [] := hLc_nil
  have hz : s.heap.size ≤ s.heap.size := Nat.le_refl _
  have hl := lv_entry [.ref P9] (n := 3) (Nat.le_of_ble_eq_true rfl)
  rw [show entryFrame m args 3 = F0 m 0 ((lg_sl [.ref P9] ++ List.replicate (3 - (lg_sl [.ref P9]).length) Slot.unset).toArray) [] from (by rw [ha]; exact lg_entry_eq m [.ref P9] 3)]
  generalize (lg_sl [.ref P9] ++ List.replicate (3 - (lg_sl [.ref P9]).length) Slot.unset).toArray = ls at hl ⊢
  have hl : lv_has ls 3 [(0, .ref P9)] := hl
  have hkf : kf τ [(9, f)] [] h h := kf_rf
  refine lv_aload_n hx hb d_Ns_putInOrder_0 rfl (lv_at hl 0 rfl) ?_
  obtain ⟨v1, v3, v5, v7, F_P9, c2, c4, c6⟩ := TI_nds hT T_P9
  refine hm_get (ci := 2) (v := .ref v3) (C := R_Ns) (T := F_Ns) (N := 4) hx hb hts ig_Ns hown hK hH F_P9 rfl 1 (by decide) (hts _ mw_152) (fun _ h9 => h9) rfl d_Ns_putInOrder_1 ?_
  refine lv_iconst (v := 0) hx hb d_Ns_putInOrder_4 (by decide) ?_
  refine lv_aload_n hx hb d_Ns_putInOrder_5 rfl (lv_at hl 0 rfl) ?_
  refine hm_get (ci := 2) (v := .ref v1) (C := R_Ns) (T := F_Ns) (N := 4) hx hb hts ig_Ns hown hK hH F_P9 rfl 0 (by decide) (hts _ mw_129) (fun _ h9 => h9) rfl d_Ns_putInOrder_6 ?_
  refine lv_iconst (v := 0) hx hb d_Ns_putInOrder_9 (by decide) ?_
  obtain ⟨g8, F_v1, c9, c10⟩ := TI_slo hT c2
  obtain ⟨a11, e12, T13⟩ := c9 ((0 : Int32).toNatClampNeg) (by decide)
  refine hm_aald (v := .ref a11) hx hb hK hH 4 F_v1 (C := R_No) rfl (iIn (by decide) (by decide)) (by rw [e12]; rfl) d_Ns_putInOrder_10 ?_
  obtain ⟨g14, F_v3, c15⟩ := TI_ord hT c4
  obtain ⟨v18, v19, v21, v23, v24, v26, v27, v28, v30, v31, v32, F_a11, c20, c22, c25, c29⟩ := TI_node hT T13
  refine hm_aast hx hb hK hH hLo 4 1 F_v3 rfl F_a11 rfl (iIn (by decide) (by decide)) d_Ns_putInOrder_11 (fun H16 locs hH z17 hLo => ?_)
  have hz : s.heap.size ≤ H16.size := by rw [z17]; exact hz
  obtain ⟨h33, e34⟩ : ∃ z, z = hu h v3 (.inl ((t 4), 30, .inr (.inr (.inr (.inr (va_up g14 ((0 : Int32).toNatClampNeg) (some a11))))))) := ⟨_, rfl⟩
  have hH : hm D vwCl G h33 H16 := by rw [e34]; exact hH
  have F_P9 : h33 P9 = some (.inr (2, [.ref v1, .ref v3, .int v5, .int v7])) := by rw [e34, hu_n (tne T_P9 c4 (by decide))]; exact F_P9
  have F_v1 : h33 v1 = some (.inl ((t 4), 30, .inr (.inr (.inr (.inr g8))))) := by rw [e34, hu_n (tne c2 c4 (by decide))]; exact F_v1
  have F_a11 : h33 a11 = some (.inr (1, [.int v18, va_rf v19, .int v21, .long v23, .int v24, .int v26, .int v27, .int v28, .int v30, .int v31, .int v32])) := by rw [e34, hu_n (tne T13 c4 (by decide))]; exact F_a11
  have F_v3 : h33 v3 = some (.inl ((t 4), 30, .inr (.inr (.inr (.inr (va_up g14 ((0 : Int32).toNatClampNeg) (some a11))))))) := by rw [e34]; exact hu_s _ _ _
  have hT : TI τ t n h33 := by rw [e34]; exact TI_put hT c4 (by decide) ⟨_, rfl, (nodA_up c15 T13)⟩
  have hkf : kf τ [(9, f)] [] h h33 := by rw [e34]; exact kf_put hkf c4 List.mem_cons_self
  obtain ⟨g35, e36⟩ : ∃ z, z = va_up g14 ((0 : Int32).toNatClampNeg) (some a11) := ⟨_, rfl⟩
  rw [← e36] at F_v3
  have c37 := (nodA_up c15 T13)
  rw [← e36] at c37
  refine lv_iconst (v := 1) hx hb d_Ns_putInOrder_12 (by decide) ?_
  refine lv_istore_n (lv' := [(1, .int 1), (0, .ref P9)]) hx hb d_Ns_putInOrder_13 rfl hl (by decide) rfl (fun ls hl => ?_)
  refine lv_iconst (v := 0) hx hb d_Ns_putInOrder_14 (by decide) ?_
  refine lv_istore_n (lv' := [(2, .int 0), (1, .int 1), (0, .ref P9)]) hx hb d_Ns_putInOrder_15 rfl hl (by decide) rfl (fun ls hl => ?_)
  refine hm_loop (fun k16 ls H locs hh16 => ∃ (ls9 : Int32) (i9 : Int32), k16 = mU i9 ∧ lv_has ls 3 [(0, .ref P9), (1, .int ls9), (2, .int i9)] ∧ hm D vwCl G hh16 H ∧ s.heap.size ≤ H.size ∧ hLc G.P locs ∧ (TI τ t n hh16) ∧ (kf τ [(9, f)] [] h hh16) ∧ (0 ≤ i9.toInt) ∧ (0 ≤ ls9.toInt ∧ ls9.toInt ≤ 30)) ?_ (hh := h33) ⟨1, 0, rfl, (lv_sub hl [2, 1, 0] rfl), hH, hz, hLo, hT, hkf, (by decide), (by decide)⟩
  rintro k16 ls H locs hh16 ⟨ls9, i9, hk16, hl, hH, hz, hLo, hT, hkf, I_i9, I_ls⟩ ih16
  refine lv_iload_n hx hb d_Ns_putInOrder_16 rfl (lv_at hl 2 rfl) ?_
  refine lv_iload_n hx hb d_Ns_putInOrder_17 rfl (lv_at hl 1 rfl) ?_
  refine lv_icmp_ge (tgt := 57) hx hb d_Ns_putInOrder_18 (by decide) (fun hc38 => ?_) (fun hc38 => ?_)
  · skip
    have ic39 : ls9.toInt ≤ i9.toInt := iLe hc38
    exact W.vret hx hb hr (fun t9 ht hW => ⟨hh16, rfl, ⟨hT, hkf⟩, by rw [ht]; exact hH, by rw [ht]; exact hz⟩) hLo d_Ns_putInOrder_57
  · skip
    have ic40 : i9.toInt < ls9.toInt := iNe hc38
    refine lv_iload_n hx hb d_Ns_putInOrder_21 rfl (lv_at hl 2 rfl) ?_
    refine lv_bipush (v := 30) hx hb d_Ns_putInOrder_22 (by decide) ?_
    refine lv_icmp_ge (tgt := 57) hx hb d_Ns_putInOrder_24 (by decide) (fun hc41 => ?_) (fun hc41 => ?_)
    · skip
      have ic42 : 30 ≤ i9.toInt := iLe hc41
      exact W.vret hx hb hr (fun t9 ht hW => ⟨hh16, rfl, ⟨hT, hkf⟩, by rw [ht]; exact hH, by rw [ht]; exact hz⟩) hLo d_Ns_putInOrder_57
    · skip
      have ic43 : i9.toInt < 30 := iNe hc41
      refine lv_aload_n hx hb d_Ns_putInOrder_27 rfl (lv_at hl 0 rfl) ?_
      obtain ⟨v44, v46, v48, v50, F_P9, c45, c47, c49⟩ := TI_nds hT T_P9
      refine hm_get (ci := 2) (v := .ref v46) (C := R_Ns) (T := F_Ns) (N := 4) hx hb hts ig_Ns hown hK hH F_P9 rfl 1 (by decide) (hts _ mw_152) (fun _ h9 => h9) rfl d_Ns_putInOrder_28 ?_
      refine lv_iload_n hx hb d_Ns_putInOrder_31 rfl (lv_at hl 2 rfl) ?_
      obtain ⟨g51, F_v46, c52⟩ := TI_ord hT c47
      obtain ⟨a53, e54, T55⟩ := c52 i9.toNatClampNeg (iCl (by omega) (by omega))
      refine hm_aald (v := .ref a53) hx hb hK hH 4 F_v46 (C := R_No) rfl (iIn (by omega) (by omega)) (by rw [e54]; rfl) d_Ns_putInOrder_32 ?_
      obtain ⟨v56, v57, v59, v61, v62, v64, v65, v66, v68, v69, v70, F_a53, c58, c60, c63, c67⟩ := TI_node hT T55
      refine hm_get (ci := 1) (v := .int v59) (C := R_No) (T := F_No) (N := 11) hx hb hts ig_No hown hK hH F_a53 rfl 2 (by decide) (hts _ mw_136) (fun _ h9 => h9) rfl d_Ns_putInOrder_33 ?_
      refine lv_if_eq (tgt := 51) hx hb d_Ns_putInOrder_36 (by decide) (fun hc71 => ?_) (fun hc71 => ?_)
      · skip
        have ic72 : v59.toInt = 0 := congrArg Int32.toInt hc71
        refine lv_iinc (v := i9 + 1) (lv' := [(2, .int (i9 + 1)), (0, .ref P9), (1, .int ls9)]) hx hb d_Ns_putInOrder_51 hl (k := 2) rfl (by rfl) (by decide) rfl (fun ls hl => ?_)
        refine lv_goto (tgt := 16) hx hb d_Ns_putInOrder_54 (by decide) ?_
        have is73 : (i9 + 1).toInt = i9.toInt + 1 := iAddK 1 rfl (by omega) (by omega)
        exact ih16 (mU (i9 + 1)) ls _ locs _ (by rw [hk16]; exact mU_lt (by omega)) ⟨ls9, (i9 + 1), rfl, (lv_sub hl [1, 2, 0] rfl), hH, hz, hLo, hT, hkf, (by omega), ⟨by omega, by omega⟩⟩
      · skip
        refine lv_aload_n hx hb d_Ns_putInOrder_39 rfl (lv_at hl 0 rfl) ?_
        refine lv_aload_n hx hb d_Ns_putInOrder_40 rfl (lv_at hl 0 rfl) ?_
        refine hm_get (ci := 2) (v := .ref v46) (C := R_Ns) (T := F_Ns) (N := 4) hx hb hts ig_Ns hown hK hH F_P9 rfl 1 (by decide) (hts _ mw_152) (fun _ h9 => h9) rfl d_Ns_putInOrder_41 ?_
        refine lv_iload_n hx hb d_Ns_putInOrder_44 rfl (lv_at hl 2 rfl) ?_
        refine hm_aald (v := .ref a53) hx hb hK hH 4 F_v46 (C := R_No) rfl (iIn (by omega) (by omega)) (by rw [e54]; rfl) d_Ns_putInOrder_45 ?_
        refine lv_iload_n hx hb d_Ns_putInOrder_46 rfl (lv_at hl 1 rfl) ?_
        refine hm_calli (va_runV (As := [.ref a53, .int ls9]) (b := P9) (rest := []) ⟨hx, hb, hml, hown, hts⟩ (t_lchild l D t G ak av hh16 τ n f P9 a53 ls9 hn hT T_P9 T55 ⟨by omega, by omega⟩) ⟨cw9B 2 hts mw_157 mw_158 mw_132 rfl rfl (by decide +kernel) ⟨Nat.le_of_ble_eq_true rfl, Nat.le_of_ble_eq_true rfl⟩, hts _ mw_159, hts _ mw_160⟩ (hP_V (q := (R_Ns, F_Ns, 4)) kE_ok hE hK hH F_P9 rfl) rfl rfl hl.1 rfl (lv_room (Nat.le_of_ble_eq_true rfl)) d_Ns_putInOrder_47 ⟨Nat.le_of_ble_eq_true rfl, Nat.le_of_ble_eq_true rfl⟩) hLo (fun r74 h75 H76 locs hp78 hH z77 hLo => ?_)
        have hz : s.heap.size ≤ H76.size := Nat.le_trans hz z77
        have hT0 := hT
        obtain ⟨hT, kf80, xp79⟩ := hp78
        have F_P9 : h75 P9 = some (.inr (2, [.ref v44, .ref v46, .int v48, .int v50])) := kf_at kf80 T_P9 (by decide) (tnc (by decide) tn0) nm0 F_P9
        have F_a53 : h75 a53 = some (.inr (1, [.int v56, va_rf v57, .int v59, .long v61, .int v62, .int v64, .int v65, .int v66, .int v68, .int v69, .int v70])) := kf_at kf80 T55 (by decide) (tnc (by decide) tn0) nm0 F_a53
        have hkf : kf τ [(9, f)] [] h h75 := kf_tr hkf kf80 (List.forall_mem_cons.mpr ⟨List.mem_cons_self, List.forall_mem_nil _⟩) (List.forall_mem_nil _)
        refine lv_istore_n (lv' := [(1, .int r74), (0, .ref P9), (2, .int i9)]) hx hb d_Ns_putInOrder_50 rfl hl (by decide) rfl (fun ls hl => ?_)
        refine lv_iinc (v := i9 + 1) (lv' := [(2, .int (i9 + 1)), (1, .int r74), (0, .ref P9)]) hx hb d_Ns_putInOrder_51 hl (k := 2) rfl (by rfl) (by decide) rfl (fun ls hl => ?_)
        refine lv_goto (tgt := 16) hx hb d_Ns_putInOrder_54 (by decide) ?_
        have is81 : (i9 + 1).toInt = i9.toInt + 1 := iAddK 1 rfl (by omega) (by omega)
        exact ih16 (mU (i9 + 1)) ls _ locs _ (by rw [hk16]; exact mU_lt (by omega)) ⟨r74, (i9 + 1), rfl, (lv_sub hl [2, 1, 0] rfl), hH, hz, hLo, hT, hkf, (by omega), ⟨by omega, by omega⟩⟩

set_option maxHeartbeats 4000000 in
set_option maxRecDepth 100000 in
theorem t_nssettle (l : Launch) (D : va_G) (t : Nat → ClassId) (G : hG) (ak av : Nat → Nat) (h : hM) (τ : tM) (n f : Nat) (P9 : Nat) (hn : n ≤ 200) (hT : TI τ t n h) (T_P9 : τ P9 = (7, f)) : Met l y_Ns_settle (.code y_Ns_settle b_Ns_settle 2 none :: lw_g) { frames := 1, cells := 0, slots := 0, locals := 21 } (hP (kE D t G ak av) D vwCl G h [.ref P9]) (hQv D vwCl G (fun h' => TI τ t n h' ∧ kf τ [(10, f)] [] h h' ∧ knp τ f h h')) 0 0 G.P := by
  refine Met.ofW (cc := b_Ns_settle) (maxL := 2) (ret := none) (by decide) rfl ?_
  intro p e s m args below meth c s₁ Bd hml hv
  obtain ⟨ha, hE, hH⟩ := hv
  have hx := Bd.exec
  have hb := Bd.bytes
  have hr := Bd.returns
  have hts : ∀ w ∈ lw_g, w.before args s = true := fun w hw => atoms_spec (ws := (.code y_Ns_settle b_Ns_settle 2 none :: lw_g)) Bd.pre w (List.mem_cons_of_mem _ hw)
  have hown : s.vm.findClass R_Ns = some m.cls := findClass_of_methodNamed Bd.named
  have hlocks := Bd.notSynchronized
  have hK := hE.1
  have hH0 := hH
  have hLo : hLc G.P [] := hLc_nil
  have hz : s.heap.size ≤ s.heap.size := Nat.le_refl _
  have hl := lv_entry [.ref P9] (n := 2) (Nat.le_of_ble_eq_true rfl)
  rw [show entryFrame m args 2 = F0 m 0 ((lg_sl [.ref P9] ++ List.replicate (2 - (lg_sl [.ref P9]).length) Slot.unset).toArray) [] from (by rw [ha]; exact lg_entry_eq m [.ref P9] 2)]
  generalize (lg_sl [.ref P9] ++ List.replicate (2 - (lg_sl [.ref P9]).length) Slot.unset).toArray = ls at hl ⊢
  have hl : lv_has ls 2 [(0, .ref P9)] := hl
  have hkf : kf τ [(10, f)] [] h h := kf_rf
  have hnp_f : knp τ f h h := knp_rf
  refine lv_iconst (v := 0) hx hb d_Ns_settle_0 (by decide) ?_
  refine lv_istore_n (lv' := [(1, .int 0), (0, .ref P9)]) hx hb d_Ns_settle_1 rfl hl (by decide) rfl (fun ls hl => ?_)
  refine hm_loop (fun k2 ls H locs hh2 => ∃ (i9 : Int32), k2 = mU i9 ∧ lv_has ls 2 [(0, .ref P9), (1, .int i9)] ∧ hm D vwCl G hh2 H ∧ s.heap.size ≤ H.size ∧ hLc G.P locs ∧ (TI τ t n hh2) ∧ (kf τ [(10, f)] [] h hh2) ∧ (knp τ f h hh2) ∧ (0 ≤ i9.toInt)) ?_ (hh := h) ⟨0, rfl, (lv_sub hl [1, 0] rfl), hH, hz, hLo, hT, hkf, hnp_f, (by decide)⟩
  rintro k2 ls H locs hh2 ⟨i9, hk2, hl, hH, hz, hLo, hT, hkf, hnp_f, I_i9⟩ ih2
  refine lv_iload_n hx hb d_Ns_settle_2 rfl (lv_at hl 1 rfl) ?_
  refine lv_aload_n hx hb d_Ns_settle_3 rfl (lv_at hl 0 rfl) ?_
  obtain ⟨v1, v3, v5, v7, F_P9, c2, c4, c6⟩ := TI_nds hT T_P9
  refine hm_get (ci := 2) (v := .int v5) (C := R_Ns) (T := F_Ns) (N := 4) hx hb hts ig_Ns hown hK hH F_P9 rfl 2 (by decide) (hts _ mw_128) (fun _ h9 => h9) rfl d_Ns_settle_4 ?_
  refine lv_icmp_ge (tgt := 46) hx hb d_Ns_settle_7 (by decide) (fun hc8 => ?_) (fun hc8 => ?_)
  · skip
    have ic9 : v5.toInt ≤ i9.toInt := iLe hc8
    exact W.vret hx hb hr (fun t9 ht hW => ⟨hh2, rfl, ⟨hT, hkf, hnp_f⟩, by rw [ht]; exact hH, by rw [ht]; exact hz⟩) hLo d_Ns_settle_46
  · skip
    have ic10 : i9.toInt < v5.toInt := iNe hc8
    refine lv_aload_n hx hb d_Ns_settle_10 rfl (lv_at hl 0 rfl) ?_
    refine hm_get (ci := 2) (v := .ref v1) (C := R_Ns) (T := F_Ns) (N := 4) hx hb hts ig_Ns hown hK hH F_P9 rfl 0 (by decide) (hts _ mw_129) (fun _ h9 => h9) rfl d_Ns_settle_11 ?_
    refine lv_iload_n hx hb d_Ns_settle_14 rfl (lv_at hl 1 rfl) ?_
    obtain ⟨g11, F_v1, c12, c13⟩ := TI_slo hT c2
    obtain ⟨a14, e15, T16⟩ := c12 i9.toNatClampNeg (iCl (by omega) (by omega))
    refine hm_aald (v := .ref a14) hx hb hK hH 4 F_v1 (C := R_No) rfl (iIn (by omega) (by omega)) (by rw [e15]; rfl) d_Ns_settle_15 ?_
    obtain ⟨v17, v18, v20, v22, v23, v25, v26, v27, v29, v30, v31, F_a14, c19, c21, c24, c28⟩ := TI_node hT T16
    refine hm_get (ci := 1) (v := .int v20) (C := R_No) (T := F_No) (N := 11) hx hb hts ig_No hown hK hH F_a14 rfl 2 (by decide) (hts _ mw_136) (fun _ h9 => h9) rfl d_Ns_settle_16 ?_
    refine lv_if_ne (tgt := 40) hx hb d_Ns_settle_19 (by decide) (fun hc32 => ?_) (fun hc32 => ?_)
    · skip
      refine lv_iinc (v := i9 + 1) (lv' := [(1, .int (i9 + 1)), (0, .ref P9)]) hx hb d_Ns_settle_40 hl (k := 1) rfl (by rfl) (by decide) rfl (fun ls hl => ?_)
      refine lv_goto (tgt := 2) hx hb d_Ns_settle_43 (by decide) ?_
      have is33 : (i9 + 1).toInt = i9.toInt + 1 := iAddK 1 rfl (by omega) (by omega)
      exact ih2 (mU (i9 + 1)) ls _ locs _ (by rw [hk2]; exact mU_lt (by omega)) ⟨(i9 + 1), rfl, (lv_sub hl [1, 0] rfl), hH, hz, hLo, hT, hkf, hnp_f, (by omega)⟩
    · skip
      have ic34 : v20.toInt = 0 := congrArg Int32.toInt hc32
      refine lv_aload_n hx hb d_Ns_settle_22 rfl (lv_at hl 0 rfl) ?_
      refine hm_get (ci := 2) (v := .ref v1) (C := R_Ns) (T := F_Ns) (N := 4) hx hb hts ig_Ns hown hK hH F_P9 rfl 0 (by decide) (hts _ mw_129) (fun _ h9 => h9) rfl d_Ns_settle_23 ?_
      refine lv_iload_n hx hb d_Ns_settle_26 rfl (lv_at hl 1 rfl) ?_
      refine hm_aald (v := .ref a14) hx hb hK hH 4 F_v1 (C := R_No) rfl (iIn (by omega) (by omega)) (by rw [e15]; rfl) d_Ns_settle_27 ?_
      refine lv_aload_n hx hb d_Ns_settle_28 rfl (lv_at hl 0 rfl) ?_
      refine hm_get (ci := 2) (v := .ref v1) (C := R_Ns) (T := F_Ns) (N := 4) hx hb hts ig_Ns hown hK hH F_P9 rfl 0 (by decide) (hts _ mw_129) (fun _ h9 => h9) rfl d_Ns_settle_29 ?_
      refine lv_iload_n hx hb d_Ns_settle_32 rfl (lv_at hl 1 rfl) ?_
      refine hm_aald (v := .ref a14) hx hb hK hH 4 F_v1 (C := R_No) rfl (iIn (by omega) (by omega)) (by rw [e15]; rfl) d_Ns_settle_33 ?_
      refine hm_get (ci := 1) (v := .int v30) (C := R_No) (T := F_No) (N := 11) hx hb hts ig_No hown hK hH F_a14 rfl 9 (by decide) (hts _ mw_161) (fun _ h9 => h9) rfl d_Ns_settle_34 ?_
      refine hm_callv (va_runV (As := [.int v30]) (b := a14) (rest := []) ⟨hx, hb, hml, hown, hts⟩ (t_nsettle l D t G ak av hh2 τ n f a14 v30 hn hT T16) ⟨cw9B 1 hts mw_124 mw_162 mw_106 rfl rfl (by decide +kernel) ⟨Nat.le_of_ble_eq_true rfl, Nat.le_of_ble_eq_true rfl⟩, hts _ mw_126, hts _ mw_127⟩ (hP_V (q := (R_No, F_No, 11)) kE_ok hE hK hH F_a14 rfl) rfl rfl hl.1 rfl (lv_room (Nat.le_of_ble_eq_true rfl)) d_Ns_settle_37 ⟨Nat.le_of_ble_eq_true rfl, Nat.le_of_ble_eq_true rfl⟩) hLo (fun h35 H36 locs hp38 hH z37 hLo => ?_)
      have hz : s.heap.size ≤ H36.size := Nat.le_trans hz z37
      have hT0 := hT
      obtain ⟨hT, kf40, xk41⟩ := hp38
      have F_P9 : h35 P9 = some (.inr (2, [.ref v1, .ref v3, .int v5, .int v7])) := kf_at kf40 T_P9 (by decide) tn0 (nmc (tne T_P9 T16 (by decide)) nm0) F_P9
      have F_v1 : h35 v1 = some (.inl ((t 4), 30, .inr (.inr (.inr (.inr g11))))) := kf_at kf40 c2 (by decide) tn0 (nmc (tne c2 T16 (by decide)) nm0) F_v1
      have hnp_f : knp τ f h h35 := knp_tr hnp_f xk41
      have hkf : kf τ [(10, f)] [] h h35 := kf_tr hkf kf40 (List.forall_mem_nil _) (List.forall_mem_cons.mpr ⟨Or.inr (by rw [T16]; exact List.mem_cons_self), List.forall_mem_nil _⟩)
      refine lv_iinc (v := i9 + 1) (lv' := [(1, .int (i9 + 1)), (0, .ref P9)]) hx hb d_Ns_settle_40 hl (k := 1) rfl (by rfl) (by decide) rfl (fun ls hl => ?_)
      refine lv_goto (tgt := 2) hx hb d_Ns_settle_43 (by decide) ?_
      have is42 : (i9 + 1).toInt = i9.toInt + 1 := iAddK 1 rfl (by omega) (by omega)
      exact ih2 (mU (i9 + 1)) ls _ locs _ (by rw [hk2]; exact mU_lt (by omega)) ⟨(i9 + 1), rfl, (lv_sub hl [1, 0] rfl), hH, hz, hLo, hT, hkf, hnp_f, (by omega)⟩

set_option maxHeartbeats 4000000 in
set_option maxRecDepth 100000 in
theorem t_rootAlone (l : Launch) (D : va_G) (t : Nat → ClassId) (G : hG) (ak av : Nat → Nat) (h : hM) (τ : tM) (n f : Nat) (P9 : Nat) (hn : n ≤ 200) (hT : TI τ t n h) (T_P9 : τ P9 = (7, f)) : Met l y_Ns_becomeRootAlone (.code y_Ns_becomeRootAlone b_Ns_becomeRootAlone 2 none :: lw_g) { frames := 2, cells := 0, slots := 0, locals := 47 } (hP (kE D t G ak av) D vwCl G h [.ref P9]) (hQv D vwCl G (fun h' => TI τ t n h' ∧ kf τ [(10, f)] [P9] h h' ∧ rtP t h h' P9)) 0 0 G.P := by
  refine Met.ofW (cc := b_Ns_becomeRootAlone) (maxL := 2) (ret := none) (by decide) rfl ?_
  intro p e s m args below meth c s₁ Bd hml hv
  obtain ⟨ha, hE, hH⟩ := hv
  have hx := Bd.exec
  have hb := Bd.bytes
  have hr := Bd.returns
  have hts : ∀ w ∈ lw_g, w.before args s = true := fun w hw => atoms_spec (ws := (.code y_Ns_becomeRootAlone b_Ns_becomeRootAlone 2 none :: lw_g)) Bd.pre w (List.mem_cons_of_mem _ hw)
  have hown : s.vm.findClass R_Ns = some m.cls := findClass_of_methodNamed Bd.named
  have hlocks := Bd.notSynchronized
  have hK := hE.1
  have hH0 := hH
  have hLo : hLc G.P [] := hLc_nil
  have hz : s.heap.size ≤ s.heap.size := Nat.le_refl _
  have hl := lv_entry [.ref P9] (n := 2) (Nat.le_of_ble_eq_true rfl)
  rw [show entryFrame m args 2 = F0 m 0 ((lg_sl [.ref P9] ++ List.replicate (2 - (lg_sl [.ref P9]).length) Slot.unset).toArray) [] from (by rw [ha]; exact lg_entry_eq m [.ref P9] 2)]
  generalize (lg_sl [.ref P9] ++ List.replicate (2 - (lg_sl [.ref P9]).length) Slot.unset).toArray = ls at hl ⊢
  have hl : lv_has ls 2 [(0, .ref P9)] := hl
  have hkf : kf τ [(10, f)] [P9] h h := kf_rf
  obtain ⟨v1, v3, v5, v7, F_P9, c2, c4, c6⟩ := TI_nds hT T_P9
  obtain ⟨g8, F_v1, c9, c10⟩ := TI_slo hT c2
  have O_0 : Nds t h P9 v1 v3 v5 v7 g8 := ⟨F_P9, F_v1⟩
  refine lv_aload_n hx hb d_Ns_becomeRootAlone_0 rfl (lv_at hl 0 rfl) ?_
  refine lv_iconst (v := 0) hx hb d_Ns_becomeRootAlone_1 (by decide) ?_
  refine hm_put (ci := 2) (v := .int 0) (ty := .int) (C := R_Ns) (T := F_Ns) (N := 4) hx hb hts ig_Ns t_Ns tk_Ns nm_Ns hown hK hH hLo F_P9 rfl 2 (by decide) (hts _ mw_128) (fun _ h9 => h9) rfl (by decide +kernel) rfl rfl (Nat.le_of_ble_eq_true rfl) d_Ns_becomeRootAlone_2 (fun H11 locs hH z12 hLo => ?_)
  have hz : s.heap.size ≤ H11.size := by rw [z12]; exact hz
  obtain ⟨h13, e14⟩ : ∃ z, z = hu h P9 (.inr (2, [.ref v1, .ref v3, .int 0, .int v7])) := ⟨_, rfl⟩
  have hH : hm D vwCl G h13 H11 := by rw [e14]; exact hH
  have F_v1 : h13 v1 = some (.inl ((t 4), 30, .inr (.inr (.inr (.inr g8))))) := by rw [e14, hu_n (tne c2 T_P9 (by decide))]; exact F_v1
  have F_P9 : h13 P9 = some (.inr (2, [.ref v1, .ref v3, .int 0, .int v7])) := by rw [e14]; exact hu_s _ _ _
  have hT : TI τ t n h13 := by rw [e14]; exact TI_put hT T_P9 (by decide) ⟨v1, v3, 0, v7, rfl, c2, c4, ⟨by omega, by omega⟩⟩
  have hkf : kf τ [(10, f)] [P9] h h13 := by rw [e14]; exact kf_putM hkf (by simp)
  refine lv_aload_n hx hb d_Ns_becomeRootAlone_5 rfl (lv_at hl 0 rfl) ?_
  refine lv_iconst (v := 0) hx hb d_Ns_becomeRootAlone_6 (by decide) ?_
  refine hm_put (ci := 2) (v := .int 0) (ty := .int) (C := R_Ns) (T := F_Ns) (N := 4) hx hb hts ig_Ns t_Ns tk_Ns nm_Ns hown hK hH hLo F_P9 rfl 3 (by decide) (hts _ mw_151) (fun _ h9 => h9) rfl (by decide +kernel) rfl rfl (Nat.le_of_ble_eq_true rfl) d_Ns_becomeRootAlone_7 (fun H15 locs hH z16 hLo => ?_)
  have hz : s.heap.size ≤ H15.size := by rw [z16]; exact hz
  obtain ⟨h17, e18⟩ : ∃ z, z = hu h13 P9 (.inr (2, [.ref v1, .ref v3, .int 0, .int 0])) := ⟨_, rfl⟩
  have hH : hm D vwCl G h17 H15 := by rw [e18]; exact hH
  have F_v1 : h17 v1 = some (.inl ((t 4), 30, .inr (.inr (.inr (.inr g8))))) := by rw [e18, hu_n (tne c2 T_P9 (by decide))]; exact F_v1
  have F_P9 : h17 P9 = some (.inr (2, [.ref v1, .ref v3, .int 0, .int 0])) := by rw [e18]; exact hu_s _ _ _
  have hT : TI τ t n h17 := by rw [e18]; exact TI_put hT T_P9 (by decide) ⟨v1, v3, 0, 0, rfl, c2, c4, ⟨by omega, by omega⟩⟩
  have hkf : kf τ [(10, f)] [P9] h h17 := by rw [e18]; exact kf_putM hkf (by simp)
  refine lv_aload_n hx hb d_Ns_becomeRootAlone_10 rfl (lv_at hl 0 rfl) ?_
  have O_N : Nds t h17 P9 v1 v3 0 0 g8 := ⟨F_P9, F_v1⟩
  refine hm_callr (va_runV (As := []) (b := P9) (rest := []) ⟨hx, hb, hml, hown, hts⟩ (t_append l D t G ak av h17 τ n f P9 hn hT T_P9) ⟨cw9B 0 hts mw_163 mw_164 mw_132 rfl rfl (by decide +kernel) ⟨Nat.le_of_ble_eq_true rfl, Nat.le_of_ble_eq_true rfl⟩, hts _ mw_165, hts _ mw_166⟩ (hP_V (q := (R_Ns, F_Ns, 4)) kE_ok hE hK hH F_P9 rfl) rfl rfl hl.1 rfl (lv_room (Nat.le_of_ble_eq_true rfl)) d_Ns_becomeRootAlone_11 ⟨Nat.le_of_ble_eq_true rfl, Nat.le_of_ble_eq_true rfl⟩) hLo (fun r19 h20 H21 locs hp23 hH z22 hLo => ?_)
  have hz : s.heap.size ≤ H21.size := Nat.le_trans hz z22
  have hT0 := hT
  obtain ⟨c24, hT, kf26, xp25⟩ := hp23
  have F_v1 : h20 v1 = some (.inl ((t 4), 30, .inr (.inr (.inr (.inr g8))))) := kf_at kf26 c2 (by decide) (tnc (by decide) tn0) (nmc (tne c2 T_P9 (by decide)) nm0) F_v1
  have hkf : kf τ [(10, f)] [P9] h h20 := kf_tr hkf kf26 (List.forall_mem_cons.mpr ⟨List.mem_cons_self, List.forall_mem_nil _⟩) (List.forall_mem_cons.mpr ⟨Or.inl (by simp), List.forall_mem_nil _⟩)
  rcases xp25 _ _ _ _ _ O_N with ⟨-, -, hbad⟩ | ⟨a8, h81, hlt8, hsl8, hP8, ⟨x8, y8, h83, h84⟩, hfr8⟩
  · exact absurd hbad (by decide)
  subst h81
  have T_a8 := c24 a8 rfl
  have F_P9 : h20 P9 = some (.inr (2, [.ref v1, .ref v3, .int 1, .int 1])) := hP8
  refine lv_astore_n (lv' := [(1, .ref a8), (0, .ref P9)]) hx hb d_Ns_becomeRootAlone_14 rfl hl (by decide) rfl (fun ls hl => ?_)
  refine lv_aload_n hx hb d_Ns_becomeRootAlone_15 rfl (lv_at hl 0 rfl) ?_
  refine lv_ifnull hx hb d_Ns_becomeRootAlone_16 ?_
  refine lv_aload_n hx hb d_Ns_becomeRootAlone_19 rfl (lv_at hl 0 rfl) ?_
  refine lv_null hx hb d_Ns_becomeRootAlone_20 ?_
  refine lv_iconst (v := 1) hx hb d_Ns_becomeRootAlone_21 (by decide) ?_
  refine lv_lconst (v := 0) hx hb d_Ns_becomeRootAlone_22 (by decide) ?_
  obtain ⟨v27, v28, v30, v32, v33, v35, v36, v37, v39, v40, v41, F_a8, c29, c31, c34, c38⟩ := TI_node hT T_a8
  refine hm_callv (va_runV (As := [.null, .int 1, .long 0]) (b := a8) (rest := []) ⟨hx, hb, hml, hown, hts⟩ (t_become l D t G ak av h20 τ n f a8 none (1 : Int32) 0 hn hT T_a8 (fun _ h9 => by cases h9) zb1) ⟨cw9B 3 hts mw_167 mw_168 mw_106 rfl rfl (by decide +kernel) ⟨Nat.le_of_ble_eq_true rfl, Nat.le_of_ble_eq_true rfl⟩, hts _ mw_169, hts _ mw_170⟩ (hP_V (q := (R_No, F_No, 11)) kE_ok hE hK hH F_a8 rfl) rfl rfl hl.1 rfl (lv_room (Nat.le_of_ble_eq_true rfl)) d_Ns_becomeRootAlone_23 ⟨Nat.le_of_ble_eq_true rfl, Nat.le_of_ble_eq_true rfl⟩) hLo (fun h42 H43 locs hp45 hH z44 hLo => ?_)
  have hz : s.heap.size ≤ H43.size := Nat.le_trans hz z44
  have hT0 := hT
  obtain ⟨hT, kf47, xp46⟩ := hp45
  have F_v1 : h42 v1 = some (.inl ((t 4), 30, .inr (.inr (.inr (.inr g8))))) := kf_at kf47 c2 (by decide) tn0 (nmc (tne c2 T_a8 (by decide)) nm0) F_v1
  have F_P9 : h42 P9 = some (.inr (2, [.ref v1, .ref v3, .int 1, .int 1])) := kf_at kf47 T_P9 (by decide) tn0 (nmc (tne T_P9 T_a8 (by decide)) nm0) F_P9
  have hkf : kf τ [(10, f)] [P9] h h42 := kf_tr hkf kf47 (List.forall_mem_nil _) (List.forall_mem_cons.mpr ⟨Or.inr (by rw [T_a8]; exact List.mem_cons_self), List.forall_mem_nil _⟩)
  have hbn8 : nod h42 a8 = some (.int 0, .null) := xp46 _ _ h84
  exact W.vret hx hb hr (fun t9 ht hW => ⟨h42, rfl, ⟨hT, hkf, (fun s o c nn sl hq => by
    obtain ⟨rfl, rfl, rfl, rfl, rfl⟩ := Nds_eq hq O_0
    exact ⟨a8, hsl8, ⟨F_P9, F_v1⟩, hbn8⟩)⟩, by rw [ht]; exact hH, by rw [ht]; exact hz⟩) hLo d_Ns_becomeRootAlone_26
