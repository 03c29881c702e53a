set_option maxRecDepth 100000 in
theorem mw_507 : Cond.code y_Mo_next b_Mo_next 5 (some .int) ∈ lw_g := lw_gin (List.mem_append_right _ (List.mem_of_getElem? (i := 1155) rfl)) (by decide +kernel)
set_option maxRecDepth 100000 in
theorem mw_508 : Cond.methodLink R_Mo 202 y_Mo_next ∈ lw_g := lw_gin (List.mem_append_right _ (List.mem_of_getElem? (i := 1152) rfl)) (by decide +kernel)
set_option maxRecDepth 100000 in
theorem mw_509 : Cond.instanceMethod y_Mo_next ∈ lw_g := lw_gin (List.mem_append_right _ (List.mem_of_getElem? (i := 1154) rfl)) (by decide +kernel)
set_option maxRecDepth 100000 in
theorem mw_510 : Cond.selects R_Mo y_Mo_next y_Mo_next ∈ lw_g := lw_gin (List.mem_append_left _ (List.mem_of_getElem? (i := 42) rfl)) (by decide +kernel)
set_option maxRecDepth 100000 in
theorem mw_511 : Cond.code y_Mo_record b_Mo_record 6 none ∈ lw_g := lw_gin (List.mem_append_right _ (List.mem_of_getElem? (i := 1185) rfl)) (by decide +kernel)
set_option maxRecDepth 100000 in
theorem mw_512 : Cond.methodLink R_Mo 205 y_Mo_record ∈ lw_g := lw_gin (List.mem_append_right _ (List.mem_of_getElem? (i := 1182) rfl)) (by decide +kernel)
set_option maxRecDepth 100000 in
theorem mw_513 : Cond.instanceMethod y_Mo_record ∈ lw_g := lw_gin (List.mem_append_right _ (List.mem_of_getElem? (i := 1184) rfl)) (by decide +kernel)
set_option maxRecDepth 100000 in
theorem mw_514 : Cond.selects R_Mo y_Mo_record y_Mo_record ∈ lw_g := lw_gin (List.mem_append_left _ (List.mem_of_getElem? (i := 45) rfl)) (by decide +kernel)
set_option maxRecDepth 100000 in
theorem mw_515 : Cond.fieldLink R_Mo 208 "WriteOnceDiscModel" "directories" "I" ∈ lw_g := lw_gin (List.mem_append_right _ (List.mem_of_getElem? (i := 939) rfl)) (by decide +kernel)
set_option maxRecDepth 100000 in
theorem mw_516 : Cond.code y_Mo_tables b_Mo_tables 3 none ∈ lw_g := lw_gin (List.mem_append_right _ (List.mem_of_getElem? (i := 1151) rfl)) (by decide +kernel)
set_option maxRecDepth 100000 in
theorem mw_517 : Cond.methodLink R_Mo 211 y_Mo_tables ∈ lw_g := lw_gin (List.mem_append_right _ (List.mem_of_getElem? (i := 1148) rfl)) (by decide +kernel)
set_option maxRecDepth 100000 in
theorem mw_518 : Cond.instanceMethod y_Mo_tables ∈ lw_g := lw_gin (List.mem_append_right _ (List.mem_of_getElem? (i := 1150) rfl)) (by decide +kernel)
set_option maxRecDepth 100000 in
theorem mw_519 : Cond.selects R_Mo y_Mo_tables y_Mo_tables ∈ lw_g := lw_gin (List.mem_append_left _ (List.mem_of_getElem? (i := 41) rfl)) (by decide +kernel)
set_option maxRecDepth 100000 in
theorem mw_520 : Cond.code y_Mo_along b_Mo_along 9 (some .int) ∈ lw_g := lw_gin (List.mem_append_right _ (List.mem_of_getElem? (i := 1171) rfl)) (by decide +kernel)
set_option maxRecDepth 100000 in
theorem mw_521 : Cond.methodLink R_Mo 214 y_Mo_along ∈ lw_g := lw_gin (List.mem_append_right _ (List.mem_of_getElem? (i := 1168) rfl)) (by decide +kernel)
set_option maxRecDepth 100000 in
theorem mw_522 : Cond.instanceMethod y_Mo_along ∈ lw_g := lw_gin (List.mem_append_right _ (List.mem_of_getElem? (i := 1170) rfl)) (by decide +kernel)
set_option maxRecDepth 100000 in
theorem mw_523 : Cond.selects R_Mo y_Mo_along y_Mo_along ∈ lw_g := lw_gin (List.mem_append_left _ (List.mem_of_getElem? (i := 43) rfl)) (by decide +kernel)
theorem d_Mo_next_0 : decode b_Mo_next 0 = .ok (.iconst (-1), 1) := by decide +kernel
theorem d_Mo_next_1 : decode b_Mo_next 1 = .ok (.istore_n 3, 1) := by decide +kernel
theorem d_Mo_next_2 : decode b_Mo_next 2 = .ok (.iconst 1, 1) := by decide +kernel
theorem d_Mo_next_3 : decode b_Mo_next 3 = .ok (.istore 4, 2) := by decide +kernel
theorem d_Mo_next_5 : decode b_Mo_next 5 = .ok (.iload 4, 2) := by decide +kernel
theorem d_Mo_next_7 : decode b_Mo_next 7 = .ok (.aload_n 0, 1) := by decide +kernel
theorem d_Mo_next_8 : decode b_Mo_next 8 = .ok (.getfield 112, 3) := by decide +kernel
theorem d_Mo_next_11 : decode b_Mo_next 11 = .ok (.if_icmp .ge 108, 3) := by decide +kernel
theorem d_Mo_next_119 : decode b_Mo_next 119 = .ok (.iload_n 3, 1) := by decide +kernel
theorem d_Mo_next_120 : decode b_Mo_next 120 = .ok (.ireturn, 1) := by decide +kernel
theorem d_Mo_along_0 : decode b_Mo_along 0 = .ok (.iconst 0, 1) := by decide +kernel
theorem d_Mo_along_1 : decode b_Mo_along 1 = .ok (.istore 4, 2) := by decide +kernel
theorem d_Mo_along_3 : decode b_Mo_along 3 = .ok (.iconst 0, 1) := by decide +kernel
theorem d_Mo_along_4 : decode b_Mo_along 4 = .ok (.istore 5, 2) := by decide +kernel
theorem d_Mo_along_6 : decode b_Mo_along 6 = .ok (.iconst (-1), 1) := by decide +kernel
theorem d_Mo_along_7 : decode b_Mo_along 7 = .ok (.istore 6, 2) := by decide +kernel
theorem d_Mo_along_9 : decode b_Mo_along 9 = .ok (.iload 5, 2) := by decide +kernel
theorem d_Mo_along_11 : decode b_Mo_along 11 = .ok (.iconst 2, 1) := by decide +kernel
theorem d_Mo_along_12 : decode b_Mo_along 12 = .ok (.if_icmp .ne 20, 3) := by decide +kernel
theorem d_Mo_along_32 : decode b_Mo_along 32 = .ok (.iload 5, 2) := by decide +kernel
theorem d_Mo_along_34 : decode b_Mo_along 34 = .ok (.ifCond .eq 13, 3) := by decide +kernel
theorem d_Mo_along_47 : decode b_Mo_along 47 = .ok (.iload_n 1, 1) := by decide +kernel
theorem d_Mo_along_48 : decode b_Mo_along 48 = .ok (.goto 20, 3) := by decide +kernel
theorem d_Mo_along_68 : decode b_Mo_along 68 = .ok (.istore 7, 2) := by decide +kernel
theorem d_Mo_along_70 : decode b_Mo_along 70 = .ok (.bipush 33, 2) := by decide +kernel
theorem d_Mo_along_72 : decode b_Mo_along 72 = .ok (.aload_n 0, 1) := by decide +kernel
theorem d_Mo_along_73 : decode b_Mo_along 73 = .ok (.iload 5, 2) := by decide +kernel
theorem d_Mo_along_75 : decode b_Mo_along 75 = .ok (.iload 7, 2) := by decide +kernel
theorem d_Mo_along_77 : decode b_Mo_along 77 = .ok (.invokevirtual 192, 3) := by decide +kernel
theorem d_Mo_along_80 : decode b_Mo_along 80 = .ok (.iadd, 1) := by decide +kernel
theorem d_Mo_along_81 : decode b_Mo_along 81 = .ok (.invokestatic 196, 3) := by decide +kernel
theorem d_Mo_along_84 : decode b_Mo_along 84 = .ok (.istore 8, 2) := by decide +kernel
theorem d_Mo_along_86 : decode b_Mo_along 86 = .ok (.iload 4, 2) := by decide +kernel
theorem d_Mo_along_88 : decode b_Mo_along 88 = .ok (.sipush 2048, 3) := by decide +kernel
theorem d_Mo_along_91 : decode b_Mo_along 91 = .ok (.irem, 1) := by decide +kernel
theorem d_Mo_along_92 : decode b_Mo_along 92 = .ok (.iload 8, 2) := by decide +kernel
theorem d_Mo_along_94 : decode b_Mo_along 94 = .ok (.iadd, 1) := by decide +kernel
theorem d_Mo_along_95 : decode b_Mo_along 95 = .ok (.sipush 2048, 3) := by decide +kernel
theorem d_Mo_along_98 : decode b_Mo_along 98 = .ok (.if_icmp .le 18, 3) := by decide +kernel
theorem d_Mo_along_116 : decode b_Mo_along 116 = .ok (.iload_n 3, 1) := by decide +kernel
theorem d_Mo_along_117 : decode b_Mo_along 117 = .ok (.ifCond .eq 15, 3) := by decide +kernel
theorem d_Mo_along_132 : decode b_Mo_along 132 = .ok (.iload 4, 2) := by decide +kernel
theorem d_Mo_along_134 : decode b_Mo_along 134 = .ok (.iload 8, 2) := by decide +kernel
theorem d_Mo_along_136 : decode b_Mo_along 136 = .ok (.iadd, 1) := by decide +kernel
theorem d_Mo_along_137 : decode b_Mo_along 137 = .ok (.istore 4, 2) := by decide +kernel
theorem d_Mo_along_139 : decode b_Mo_along 139 = .ok (.iload 5, 2) := by decide +kernel
theorem d_Mo_along_141 : decode b_Mo_along 141 = .ok (.iconst 2, 1) := by decide +kernel
theorem d_Mo_along_142 : decode b_Mo_along 142 = .ok (.if_icmp .ge 10, 3) := by decide +kernel
theorem d_Mo_along_145 : decode b_Mo_along 145 = .ok (.iload 5, 2) := by decide +kernel
theorem d_Mo_along_147 : decode b_Mo_along 147 = .ok (.iconst 1, 1) := by decide +kernel
theorem d_Mo_along_148 : decode b_Mo_along 148 = .ok (.iadd, 1) := by decide +kernel
theorem d_Mo_along_149 : decode b_Mo_along 149 = .ok (.goto 4, 3) := by decide +kernel
theorem d_Mo_along_153 : decode b_Mo_along 153 = .ok (.istore 5, 2) := by decide +kernel
theorem d_Mo_along_155 : decode b_Mo_along 155 = .ok (.goto (-146), 3) := by decide +kernel
theorem d_Mo_along_37 : decode b_Mo_along 37 = .ok (.iload 5, 2) := by decide +kernel
theorem d_Mo_along_39 : decode b_Mo_along 39 = .ok (.iconst 1, 1) := by decide +kernel
theorem d_Mo_along_40 : decode b_Mo_along 40 = .ok (.if_icmp .ne 11, 3) := by decide +kernel
theorem d_Mo_along_43 : decode b_Mo_along 43 = .ok (.iload_n 1, 1) := by decide +kernel
theorem d_Mo_along_44 : decode b_Mo_along 44 = .ok (.ifCond .ne 7, 3) := by decide +kernel
theorem d_Mo_along_15 : decode b_Mo_along 15 = .ok (.aload_n 0, 1) := by decide +kernel
theorem d_Mo_along_16 : decode b_Mo_along 16 = .ok (.iload_n 1, 1) := by decide +kernel
theorem d_Mo_along_17 : decode b_Mo_along 17 = .ok (.iload 6, 2) := by decide +kernel
theorem d_Mo_along_19 : decode b_Mo_along 19 = .ok (.invokevirtual 202, 3) := by decide +kernel
theorem d_Mo_along_22 : decode b_Mo_along 22 = .ok (.istore 6, 2) := by decide +kernel
theorem d_Mo_along_24 : decode b_Mo_along 24 = .ok (.iload 6, 2) := by decide +kernel
theorem d_Mo_along_26 : decode b_Mo_along 26 = .ok (.ifCond .ge 6, 3) := by decide +kernel
theorem d_Mo_along_29 : decode b_Mo_along 29 = .ok (.iload 4, 2) := by decide +kernel
theorem d_Mo_along_31 : decode b_Mo_along 31 = .ok (.ireturn, 1) := by decide +kernel
theorem d_Mo_along_120 : decode b_Mo_along 120 = .ok (.aload_n 0, 1) := by decide +kernel
theorem d_Mo_along_121 : decode b_Mo_along 121 = .ok (.iload_n 2, 1) := by decide +kernel
theorem d_Mo_along_122 : decode b_Mo_along 122 = .ok (.iload 4, 2) := by decide +kernel
theorem d_Mo_along_124 : decode b_Mo_along 124 = .ok (.iadd, 1) := by decide +kernel
theorem d_Mo_along_125 : decode b_Mo_along 125 = .ok (.iload 5, 2) := by decide +kernel
theorem d_Mo_along_127 : decode b_Mo_along 127 = .ok (.iload 7, 2) := by decide +kernel
theorem d_Mo_along_129 : decode b_Mo_along 129 = .ok (.invokevirtual 205, 3) := by decide +kernel
theorem d_Mo_tables_0 : decode b_Mo_tables 0 = .ok (.aload_n 0, 1) := by decide +kernel
theorem d_Mo_tables_1 : decode b_Mo_tables 1 = .ok (.iconst 1, 1) := by decide +kernel
theorem d_Mo_tables_2 : decode b_Mo_tables 2 = .ok (.putfield 208, 3) := by decide +kernel
theorem d_Mo_tables_5 : decode b_Mo_tables 5 = .ok (.aload_n 0, 1) := by decide +kernel
theorem d_Mo_tables_6 : decode b_Mo_tables 6 = .ok (.getfield 57, 3) := by decide +kernel
theorem d_Mo_tables_9 : decode b_Mo_tables 9 = .ok (.iconst 0, 1) := by decide +kernel
theorem d_Mo_tables_10 : decode b_Mo_tables 10 = .ok (.iconst 0, 1) := by decide +kernel
theorem d_Mo_tables_11 : decode b_Mo_tables 11 = .ok (.iastore, 1) := by decide +kernel
theorem d_Mo_tables_12 : decode b_Mo_tables 12 = .ok (.iconst 0, 1) := by decide +kernel
theorem d_Mo_tables_13 : decode b_Mo_tables 13 = .ok (.istore_n 1, 1) := by decide +kernel
theorem d_Mo_tables_14 : decode b_Mo_tables 14 = .ok (.iload_n 1, 1) := by decide +kernel
theorem d_Mo_tables_15 : decode b_Mo_tables 15 = .ok (.aload_n 0, 1) := by decide +kernel
theorem d_Mo_tables_16 : decode b_Mo_tables 16 = .ok (.getfield 208, 3) := by decide +kernel
theorem d_Mo_tables_19 : decode b_Mo_tables 19 = .ok (.if_icmp .ge 72, 3) := by decide +kernel
theorem d_Mo_tables_22 : decode b_Mo_tables 22 = .ok (.aload_n 0, 1) := by decide +kernel
theorem d_Mo_tables_23 : decode b_Mo_tables 23 = .ok (.aload_n 0, 1) := by decide +kernel
theorem d_Mo_tables_24 : decode b_Mo_tables 24 = .ok (.getfield 57, 3) := by decide +kernel
theorem d_Mo_tables_27 : decode b_Mo_tables 27 = .ok (.iload_n 1, 1) := by decide +kernel
theorem d_Mo_tables_28 : decode b_Mo_tables 28 = .ok (.iaload, 1) := by decide +kernel
theorem d_Mo_tables_29 : decode b_Mo_tables 29 = .ok (.iconst (-1), 1) := by decide +kernel
theorem d_Mo_tables_30 : decode b_Mo_tables 30 = .ok (.invokevirtual 202, 3) := by decide +kernel
theorem d_Mo_tables_33 : decode b_Mo_tables 33 = .ok (.istore_n 2, 1) := by decide +kernel
theorem d_Mo_tables_34 : decode b_Mo_tables 34 = .ok (.iload_n 2, 1) := by decide +kernel
theorem d_Mo_tables_35 : decode b_Mo_tables 35 = .ok (.ifCond .lt 50, 3) := by decide +kernel
theorem d_Mo_tables_85 : decode b_Mo_tables 85 = .ok (.iinc 1 1, 3) := by decide +kernel
theorem d_Mo_tables_88 : decode b_Mo_tables 88 = .ok (.goto (-74), 3) := by decide +kernel
theorem d_Mo_tables_91 : decode b_Mo_tables 91 = .ok (.return_, 1) := by decide +kernel
theorem d_Mo_measure_0 : decode b_Mo_measure 0 = .ok (.aload_n 0, 1) := by decide +kernel
theorem d_Mo_measure_1 : decode b_Mo_measure 1 = .ok (.invokevirtual 211, 3) := by decide +kernel
theorem d_Mo_measure_4 : decode b_Mo_measure 4 = .ok (.iload_n 1, 1) := by decide +kernel
theorem d_Mo_measure_5 : decode b_Mo_measure 5 = .ok (.bipush 20, 2) := by decide +kernel
theorem d_Mo_measure_7 : decode b_Mo_measure 7 = .ok (.iadd, 1) := by decide +kernel
theorem d_Mo_measure_8 : decode b_Mo_measure 8 = .ok (.istore_n 2, 1) := by decide +kernel
theorem d_Mo_measure_9 : decode b_Mo_measure 9 = .ok (.iconst 0, 1) := by decide +kernel
theorem d_Mo_measure_10 : decode b_Mo_measure 10 = .ok (.istore_n 3, 1) := by decide +kernel
theorem d_Mo_measure_11 : decode b_Mo_measure 11 = .ok (.iload_n 3, 1) := by decide +kernel
theorem d_Mo_measure_12 : decode b_Mo_measure 12 = .ok (.aload_n 0, 1) := by decide +kernel
theorem d_Mo_measure_13 : decode b_Mo_measure 13 = .ok (.getfield 208, 3) := by decide +kernel
theorem d_Mo_measure_16 : decode b_Mo_measure 16 = .ok (.if_icmp .ge 58, 3) := by decide +kernel
theorem d_Mo_measure_19 : decode b_Mo_measure 19 = .ok (.aload_n 0, 1) := by decide +kernel
theorem d_Mo_measure_20 : decode b_Mo_measure 20 = .ok (.getfield 57, 3) := by decide +kernel
theorem d_Mo_measure_23 : decode b_Mo_measure 23 = .ok (.iload_n 3, 1) := by decide +kernel
theorem d_Mo_measure_24 : decode b_Mo_measure 24 = .ok (.iaload, 1) := by decide +kernel
theorem d_Mo_measure_25 : decode b_Mo_measure 25 = .ok (.istore 4, 2) := by decide +kernel
theorem d_Mo_measure_27 : decode b_Mo_measure 27 = .ok (.aload_n 0, 1) := by decide +kernel
theorem d_Mo_measure_28 : decode b_Mo_measure 28 = .ok (.getfield 60, 3) := by decide +kernel
theorem d_Mo_measure_31 : decode b_Mo_measure 31 = .ok (.iload 4, 2) := by decide +kernel
theorem d_Mo_measure_33 : decode b_Mo_measure 33 = .ok (.iload_n 2, 1) := by decide +kernel
theorem d_Mo_measure_34 : decode b_Mo_measure 34 = .ok (.iastore, 1) := by decide +kernel
theorem d_Mo_measure_35 : decode b_Mo_measure 35 = .ok (.aload_n 0, 1) := by decide +kernel
theorem d_Mo_measure_36 : decode b_Mo_measure 36 = .ok (.getfield 63, 3) := by decide +kernel
theorem d_Mo_measure_39 : decode b_Mo_measure 39 = .ok (.iload 4, 2) := by decide +kernel
theorem d_Mo_measure_41 : decode b_Mo_measure 41 = .ok (.aload_n 0, 1) := by decide +kernel
theorem d_Mo_measure_42 : decode b_Mo_measure 42 = .ok (.iload 4, 2) := by decide +kernel
theorem d_Mo_measure_44 : decode b_Mo_measure 44 = .ok (.iconst 0, 1) := by decide +kernel
theorem d_Mo_measure_45 : decode b_Mo_measure 45 = .ok (.iconst 0, 1) := by decide +kernel
theorem d_Mo_measure_46 : decode b_Mo_measure 46 = .ok (.invokevirtual 214, 3) := by decide +kernel
theorem d_Mo_measure_49 : decode b_Mo_measure 49 = .ok (.sipush 2047, 3) := by decide +kernel
theorem d_Mo_measure_52 : decode b_Mo_measure 52 = .ok (.iadd, 1) := by decide +kernel
theorem d_Mo_measure_53 : decode b_Mo_measure 53 = .ok (.sipush 2048, 3) := by decide +kernel
theorem d_Mo_measure_56 : decode b_Mo_measure 56 = .ok (.idiv, 1) := by decide +kernel
theorem d_Mo_measure_57 : decode b_Mo_measure 57 = .ok (.iastore, 1) := by decide +kernel
theorem d_Mo_measure_58 : decode b_Mo_measure 58 = .ok (.iload_n 2, 1) := by decide +kernel
theorem d_Mo_measure_59 : decode b_Mo_measure 59 = .ok (.aload_n 0, 1) := by decide +kernel
theorem d_Mo_measure_60 : decode b_Mo_measure 60 = .ok (.getfield 63, 3) := by decide +kernel
theorem d_Mo_measure_63 : decode b_Mo_measure 63 = .ok (.iload 4, 2) := by decide +kernel
theorem d_Mo_measure_65 : decode b_Mo_measure 65 = .ok (.iaload, 1) := by decide +kernel
theorem d_Mo_measure_66 : decode b_Mo_measure 66 = .ok (.iadd, 1) := by decide +kernel
theorem d_Mo_measure_67 : decode b_Mo_measure 67 = .ok (.istore_n 2, 1) := by decide +kernel
theorem d_Mo_measure_68 : decode b_Mo_measure 68 = .ok (.iinc 3 1, 3) := by decide +kernel
theorem d_Mo_measure_71 : decode b_Mo_measure 71 = .ok (.goto (-60), 3) := by decide +kernel
theorem d_Mo_measure_74 : decode b_Mo_measure 74 = .ok (.iload_n 2, 1) := by decide +kernel
theorem d_Mo_measure_75 : decode b_Mo_measure 75 = .ok (.iconst 1, 1) := by decide +kernel
theorem d_Mo_measure_76 : decode b_Mo_measure 76 = .ok (.iadd, 1) := by decide +kernel
theorem d_Mo_measure_77 : decode b_Mo_measure 77 = .ok (.iload_n 1, 1) := by decide +kernel
theorem d_Mo_measure_78 : decode b_Mo_measure 78 = .ok (.isub, 1) := by decide +kernel
theorem d_Mo_measure_79 : decode b_Mo_measure 79 = .ok (.ireturn, 1) := by decide +kernel
set_option maxHeartbeats 4000000 in
set_option maxRecDepth 100000 in
theorem c_m_next (l : Launch) (D : va_G) (t : Nat → ClassId) (G : hG) (ak av : Nat → Nat) (h : hM) (mo n aBy aSt aDe aPa aIt aId aPr aNa aSi aSe aIw aEx aOl aPl aTa aAt aLo aS1 aS2 aS3 aS4 aS5 aS6 aO1 aO2 aO3 aO4 aO5 : Nat) (dr wt : Int32) (d9 b9 : Int32) (f_m : h mo = some (.inr (9, [.int 0, .int (nI n), .int 0, .ref aBy, .ref aSt, .ref aDe, .int 0, .int (-1), .int wt, .ref aPa, .int 1, .ref aIt, .ref aId, .ref aPr, .ref aNa, .ref aSi, .ref aSe, .ref aIw, .ref aEx, .ref aOl, .int 0, .ref aPl, .int dr, .int 0, .ref aTa, .ref aAt, .ref aLo, .int 0, .int 0, .ref aS1, .ref aS2, .ref aS3, .ref aS4, .ref aS5, .ref aS6, .int 0, .ref aO1, .ref aO2, .ref aO3, .ref aO4, .ref aO5]))) : Met l y_Mo_next (.code y_Mo_next b_Mo_next 5 (some .int) :: lw_g) { frames := 0, cells := 0, slots := 0, locals := 0 } (hP (kE D t G ak av) D vwCl G h [.ref mo, .int d9, .int b9]) (hQi D vwCl G (fun r h' => r = -1 ∧ h = h')) 0 0 G.P := by
  refine Met.ofW (cc := b_Mo_next) (maxL := 5) (ret := (some .int)) (by decide) rfl ?_
  intro p e s m args below meth c s₁ Bd hml hv
  obtain ⟨ha, hE, hH⟩ := hv
  have hx := Bd.exec
  have hb := Bd.bytes
  have hr := Bd.returns
  have hts : ∀ w ∈ lw_g, w.before args s = true := fun w hw => atoms_spec (ws := (.code y_Mo_next b_Mo_next 5 (some .int) :: lw_g)) Bd.pre w (List.mem_cons_of_mem _ hw)
  have hown : s.vm.findClass R_Mo = some m.cls := findClass_of_methodNamed Bd.named
  have hlocks := Bd.notSynchronized
  have hK := hE.1
  have hH0 := hH
  have hLo : hLc G.P [] := hLc_nil
  have hz : s.heap.size ≤ s.heap.size := Nat.le_refl _
  have hkp : kp [] h h := kp_rf
  have hl := lv_entry [.ref mo, .int d9, .int b9] (n := 5) (Nat.le_of_ble_eq_true rfl)
  rw [show entryFrame m args 5 = F0 m 0 ((lg_sl [.ref mo, .int d9, .int b9] ++ List.replicate (5 - (lg_sl [.ref mo, .int d9, .int b9]).length) Slot.unset).toArray) [] from (by rw [ha]; exact lg_entry_eq m [.ref mo, .int d9, .int b9] 5)]
  generalize (lg_sl [.ref mo, .int d9, .int b9] ++ List.replicate (5 - (lg_sl [.ref mo, .int d9, .int b9]).length) Slot.unset).toArray = ls at hl ⊢
  have hl : lv_has ls 5 [(0, .ref mo), (1, .int d9), (2, .int b9)] := hl
  refine lv_iconst (v := -1) hx hb d_Mo_next_0 (by decide) ?_
  refine lv_istore_n (lv' := [(3, .int (-1)), (0, .ref mo), (1, .int d9), (2, .int b9)]) hx hb d_Mo_next_1 rfl hl (by decide) rfl (fun ls hl => ?_)
  refine lv_iconst (v := 1) hx hb d_Mo_next_2 (by decide) ?_
  refine lv_istore (lv' := [(4, .int 1), (3, .int (-1)), (0, .ref mo), (1, .int d9), (2, .int b9)]) hx hb d_Mo_next_3 hl (by decide) rfl (fun ls hl => ?_)
  refine lv_iload hx hb d_Mo_next_5 (lv_at hl 0 rfl) ?_
  refine lv_aload_n hx hb d_Mo_next_7 rfl (lv_at hl 2 rfl) ?_
  refine hm_get (ci := 9) (v := .int 1) (C := R_Mo) (T := F_Mo) (N := 41) hx hb hts ig_Mo hown hK hH f_m rfl 10 (by decide) (hts _ mw_390) (fun _ h9 => h9) rfl d_Mo_next_8 ?_
  refine lv_icmp_ge (tgt := 119) hx hb d_Mo_next_11 (by decide) (fun hc1 => ?_) (fun hc1 => absurd (by decide) hc1)
  refine lv_iload_n hx hb d_Mo_next_119 rfl (lv_at hl 1 rfl) ?_
  exact W.iret (v := (-1)) hx hb hr (fun t9 ht hW => ⟨(-1), h, rfl, ⟨rfl, rfl⟩, by rw [ht]; exact hH, by rw [ht]; exact hz⟩) hLo d_Mo_next_120

set_option maxHeartbeats 4000000 in
set_option maxRecDepth 100000 in
theorem c_m_along0 (l : Launch) (D : va_G) (t : Nat → ClassId) (G : hG) (ak av : Nat → Nat) (h : hM) (mo n aBy aSt aDe aPa aIt aId aPr aNa aSi aSe aIw aEx aOl aPl aTa aAt aLo aS1 aS2 aS3 aS4 aS5 aS6 aO1 aO2 aO3 aO4 aO5 : Nat) (dr wt : Int32) (f_m : h mo = some (.inr (9, [.int 0, .int (nI n), .int 0, .ref aBy, .ref aSt, .ref aDe, .int 0, .int (-1), .int wt, .ref aPa, .int 1, .ref aIt, .ref aId, .ref aPr, .ref aNa, .ref aSi, .ref aSe, .ref aIw, .ref aEx, .ref aOl, .int 0, .ref aPl, .int dr, .int 0, .ref aTa, .ref aAt, .ref aLo, .int 0, .int 0, .ref aS1, .ref aS2, .ref aS3, .ref aS4, .ref aS5, .ref aS6, .int 0, .ref aO1, .ref aO2, .ref aO3, .ref aO4, .ref aO5]))) : Met l y_Mo_along (.code y_Mo_along b_Mo_along 9 (some .int) :: lw_g) { frames := 1, cells := 0, slots := 0, locals := 24 } (hP (kE D t G ak av) D vwCl G h [.ref mo, .int 0, .int 0, .int 0]) (hQi D vwCl G (fun r h' => r = 68 ∧ h = h')) 0 0 G.P := by
  refine Met.ofW (cc := b_Mo_along) (maxL := 9) (ret := (some .int)) (by decide) rfl ?_
  intro p e s m args below meth c s₁ Bd hml hv
  obtain ⟨ha, hE, hH⟩ := hv
  have hx := Bd.exec
  have hb := Bd.bytes
  have hr := Bd.returns
  have hts : ∀ w ∈ lw_g, w.before args s = true := fun w hw => atoms_spec (ws := (.code y_Mo_along b_Mo_along 9 (some .int) :: lw_g)) Bd.pre w (List.mem_cons_of_mem _ hw)
  have hown : s.vm.findClass R_Mo = some m.cls := findClass_of_methodNamed Bd.named
  have hlocks := Bd.notSynchronized
  have hK := hE.1
  have hH0 := hH
  have hLo : hLc G.P [] := hLc_nil
  have hz : s.heap.size ≤ s.heap.size := Nat.le_refl _
  have hkp : kp [] h h := kp_rf
  have hl := lv_entry [.ref mo, .int 0, .int 0, .int 0] (n := 9) (Nat.le_of_ble_eq_true rfl)
  rw [show entryFrame m args 9 = F0 m 0 ((lg_sl [.ref mo, .int 0, .int 0, .int 0] ++ List.replicate (9 - (lg_sl [.ref mo, .int 0, .int 0, .int 0]).length) Slot.unset).toArray) [] from (by rw [ha]; exact lg_entry_eq m [.ref mo, .int 0, .int 0, .int 0] 9)]
  generalize (lg_sl [.ref mo, .int 0, .int 0, .int 0] ++ List.replicate (9 - (lg_sl [.ref mo, .int 0, .int 0, .int 0]).length) Slot.unset).toArray = ls at hl ⊢
  have hl : lv_has ls 9 [(0, .ref mo), (1, .int 0), (2, .int 0), (3, .int 0)] := hl
  refine lv_iconst (v := 0) hx hb d_Mo_along_0 (by decide) ?_
  refine lv_istore (lv' := [(4, .int 0), (0, .ref mo), (1, .int 0), (2, .int 0), (3, .int 0)]) hx hb d_Mo_along_1 hl (by decide) rfl (fun ls hl => ?_)
  refine lv_iconst (v := 0) hx hb d_Mo_along_3 (by decide) ?_
  refine lv_istore (lv' := [(5, .int 0), (4, .int 0), (0, .ref mo), (1, .int 0), (2, .int 0), (3, .int 0)]) hx hb d_Mo_along_4 hl (by decide) rfl (fun ls hl => ?_)
  refine lv_iconst (v := -1) hx hb d_Mo_along_6 (by decide) ?_
  refine lv_istore (lv' := [(6, .int (-1)), (5, .int 0), (4, .int 0), (0, .ref mo), (1, .int 0), (2, .int 0), (3, .int 0)]) hx hb d_Mo_along_7 hl (by decide) rfl (fun ls hl => ?_)
  refine lv_iload hx hb d_Mo_along_9 (lv_at hl 1 rfl) ?_
  refine lv_iconst (v := 2) hx hb d_Mo_along_11 (by decide) ?_
  refine lv_icmp_ne (tgt := 32) hx hb d_Mo_along_12 (by decide) (fun hc1 => ?_) (fun hc1 => absurd hc1 (by decide))
  refine lv_iload hx hb d_Mo_along_32 (lv_at hl 1 rfl) ?_
  refine lv_if_eq (tgt := 47) hx hb d_Mo_along_34 (by decide) (fun hc2 => ?_) (fun hc2 => absurd rfl hc2)
  refine lv_iload_n hx hb d_Mo_along_47 rfl (lv_at hl 4 rfl) ?_
  refine lv_goto (tgt := 68) hx hb d_Mo_along_48 (by decide) ?_
  refine lv_istore (lv' := [(7, .int 0), (6, .int (-1)), (5, .int 0), (4, .int 0), (0, .ref mo), (1, .int 0), (2, .int 0), (3, .int 0)]) hx hb d_Mo_along_68 hl (by decide) rfl (fun ls hl => ?_)
  refine lv_bipush (v := 33) hx hb d_Mo_along_70 (by decide) ?_
  refine lv_aload_n hx hb d_Mo_along_72 rfl (lv_at hl 4 rfl) ?_
  refine lv_iload hx hb d_Mo_along_73 (lv_at hl 2 rfl) ?_
  refine lv_iload hx hb d_Mo_along_75 (lv_at hl 0 rfl) ?_
  refine hm_calli (va_runV (As := [.int 0, .int 0]) (b := mo) (rest := [.int 33]) ⟨hx, hb, hml, hown, hts⟩ (c_m_recordId l D t G ak av h mo 0 0 (by decide)) ⟨cw9B 2 hts mw_496 mw_497 mw_428 rfl rfl (by decide +kernel) ⟨Nat.le_of_ble_eq_true rfl, Nat.le_of_ble_eq_true rfl⟩, hts _ mw_498, hts _ mw_499⟩ (hP_V (q := (R_Mo, F_Mo, 41)) kE_ok hE hK hH f_m rfl) rfl rfl hl.1 rfl (lv_room (Nat.le_of_ble_eq_true rfl)) d_Mo_along_77 ⟨Nat.le_of_ble_eq_true rfl, Nat.le_of_ble_eq_true rfl⟩) hLo (fun r3 h4 H5 locs hp7 hH z6 hLo => ?_)
  have hz : s.heap.size ≤ H5.size := Nat.le_trans hz z6
  obtain ⟨rfl, rfl⟩ := hp7
  refine lv_iadd hx hb d_Mo_along_80 ?_
  refine hm_calli (va_runS (As := [.int (33 + 1)]) (rest := []) ⟨hx, hb, hml, hown, hts⟩ (c_m_even l D t G ak av h (33 + 1)) ⟨cw9B 1 hts mw_500 mw_501 mw_428 rfl rfl (by decide +kernel) ⟨Nat.le_of_ble_eq_true rfl, Nat.le_of_ble_eq_true rfl⟩, hts _ mw_502⟩ (hP_S kE_ok hE hH) rfl rfl hl.1 rfl (lv_room (Nat.le_of_ble_eq_true rfl)) d_Mo_along_81 ⟨Nat.le_of_ble_eq_true rfl, Nat.le_of_ble_eq_true rfl⟩) hLo (fun r8 h9 H10 locs hp12 hH z11 hLo => ?_)
  have hz : s.heap.size ≤ H10.size := Nat.le_trans hz z11
  obtain ⟨rfl, rfl⟩ := hp12
  refine lv_topi (fun v13 e14 => ?_)
  obtain rfl : v13 = 34 := e14.trans (by decide)
  refine lv_istore (lv' := [(8, .int 34), (7, .int 0), (6, .int (-1)), (5, .int 0), (4, .int 0), (0, .ref mo), (1, .int 0), (2, .int 0), (3, .int 0)]) hx hb d_Mo_along_84 hl (by decide) rfl (fun ls hl => ?_)
  refine lv_iload hx hb d_Mo_along_86 (lv_at hl 4 rfl) ?_
  refine lv_sipush (v := 2048) hx hb d_Mo_along_88 (by decide) ?_
  refine lv_irem hx hb d_Mo_along_91 (by decide) ?_
  refine lv_iload hx hb d_Mo_along_92 (lv_at hl 0 rfl) ?_
  refine lv_iadd hx hb d_Mo_along_94 ?_
  refine lv_sipush (v := 2048) hx hb d_Mo_along_95 (by decide) ?_
  refine lv_icmp_le (tgt := 116) hx hb d_Mo_along_98 (by decide) (fun hc15 => ?_) (fun hc15 => absurd (by decide) hc15)
  refine lv_iload_n hx hb d_Mo_along_116 rfl (lv_at hl 8 rfl) ?_
  refine lv_if_eq (tgt := 132) hx hb d_Mo_along_117 (by decide) (fun hc16 => ?_) (fun hc16 => absurd rfl hc16)
  refine lv_iload hx hb d_Mo_along_132 (lv_at hl 4 rfl) ?_
  refine lv_iload hx hb d_Mo_along_134 (lv_at hl 0 rfl) ?_
  refine lv_iadd hx hb d_Mo_along_136 ?_
  refine lv_topi (fun v17 e18 => ?_)
  obtain rfl : v17 = 34 := e18.trans (by decide)
  refine lv_istore (lv' := [(4, .int 34), (8, .int 34), (7, .int 0), (6, .int (-1)), (5, .int 0), (0, .ref mo), (1, .int 0), (2, .int 0), (3, .int 0)]) hx hb d_Mo_along_137 hl (by decide) rfl (fun ls hl => ?_)
  refine lv_iload hx hb d_Mo_along_139 (lv_at hl 4 rfl) ?_
  refine lv_iconst (v := 2) hx hb d_Mo_along_141 (by decide) ?_
  refine lv_icmp_ge (tgt := 152) hx hb d_Mo_along_142 (by decide) (fun hc19 => absurd hc19 (by decide)) (fun hc19 => ?_)
  refine lv_iload hx hb d_Mo_along_145 (lv_at hl 4 rfl) ?_
  refine lv_iconst (v := 1) hx hb d_Mo_along_147 (by decide) ?_
  refine lv_iadd hx hb d_Mo_along_148 ?_
  refine lv_goto (tgt := 153) hx hb d_Mo_along_149 (by decide) ?_
  refine lv_topi (fun v20 e21 => ?_)
  obtain rfl : v20 = 1 := e21.trans (by decide)
  refine lv_istore (lv' := [(5, .int 1), (4, .int 34), (8, .int 34), (7, .int 0), (6, .int (-1)), (0, .ref mo), (1, .int 0), (2, .int 0), (3, .int 0)]) hx hb d_Mo_along_153 hl (by decide) rfl (fun ls hl => ?_)
  refine lv_goto (tgt := 9) hx hb d_Mo_along_155 (by decide) ?_
  refine lv_iload hx hb d_Mo_along_9 (lv_at hl 0 rfl) ?_
  refine lv_iconst (v := 2) hx hb d_Mo_along_11 (by decide) ?_
  refine lv_icmp_ne (tgt := 32) hx hb d_Mo_along_12 (by decide) (fun hc22 => ?_) (fun hc22 => absurd hc22 (by decide))
  refine lv_iload hx hb d_Mo_along_32 (lv_at hl 0 rfl) ?_
  refine lv_if_eq (tgt := 47) hx hb d_Mo_along_34 (by decide) (fun hc23 => absurd hc23 (by decide)) (fun hc23 => ?_)
  refine lv_iload hx hb d_Mo_along_37 (lv_at hl 0 rfl) ?_
  refine lv_iconst (v := 1) hx hb d_Mo_along_39 (by decide) ?_
  refine lv_icmp_ne (tgt := 51) hx hb d_Mo_along_40 (by decide) (fun hc24 => absurd rfl hc24) (fun hc24 => ?_)
  refine lv_iload_n hx hb d_Mo_along_43 rfl (lv_at hl 6 rfl) ?_
  refine lv_if_ne (tgt := 51) hx hb d_Mo_along_44 (by decide) (fun hc25 => absurd rfl hc25) (fun hc25 => ?_)
  refine lv_iload_n hx hb d_Mo_along_47 rfl (lv_at hl 6 rfl) ?_
  refine lv_goto (tgt := 68) hx hb d_Mo_along_48 (by decide) ?_
  refine lv_istore (lv' := [(7, .int 0), (5, .int 1), (4, .int 34), (8, .int 34), (6, .int (-1)), (0, .ref mo), (1, .int 0), (2, .int 0), (3, .int 0)]) hx hb d_Mo_along_68 hl (by decide) rfl (fun ls hl => ?_)
  refine lv_bipush (v := 33) hx hb d_Mo_along_70 (by decide) ?_
  refine lv_aload_n hx hb d_Mo_along_72 rfl (lv_at hl 5 rfl) ?_
  refine lv_iload hx hb d_Mo_along_73 (lv_at hl 1 rfl) ?_
  refine lv_iload hx hb d_Mo_along_75 (lv_at hl 0 rfl) ?_
  refine hm_calli (va_runV (As := [.int 1, .int 0]) (b := mo) (rest := [.int 33]) ⟨hx, hb, hml, hown, hts⟩ (c_m_recordId l D t G ak av h mo 1 0 (by decide)) ⟨cw9B 2 hts mw_496 mw_497 mw_428 rfl rfl (by decide +kernel) ⟨Nat.le_of_ble_eq_true rfl, Nat.le_of_ble_eq_true rfl⟩, hts _ mw_498, hts _ mw_499⟩ (hP_V (q := (R_Mo, F_Mo, 41)) kE_ok hE hK hH f_m rfl) rfl rfl hl.1 rfl (lv_room (Nat.le_of_ble_eq_true rfl)) d_Mo_along_77 ⟨Nat.le_of_ble_eq_true rfl, Nat.le_of_ble_eq_true rfl⟩) hLo (fun r26 h27 H28 locs hp30 hH z29 hLo => ?_)
  have hz : s.heap.size ≤ H28.size := Nat.le_trans hz z29
  obtain ⟨rfl, rfl⟩ := hp30
  refine lv_iadd hx hb d_Mo_along_80 ?_
  refine hm_calli (va_runS (As := [.int (33 + 1)]) (rest := []) ⟨hx, hb, hml, hown, hts⟩ (c_m_even l D t G ak av h (33 + 1)) ⟨cw9B 1 hts mw_500 mw_501 mw_428 rfl rfl (by decide +kernel) ⟨Nat.le_of_ble_eq_true rfl, Nat.le_of_ble_eq_true rfl⟩, hts _ mw_502⟩ (hP_S kE_ok hE hH) rfl rfl hl.1 rfl (lv_room (Nat.le_of_ble_eq_true rfl)) d_Mo_along_81 ⟨Nat.le_of_ble_eq_true rfl, Nat.le_of_ble_eq_true rfl⟩) hLo (fun r31 h32 H33 locs hp35 hH z34 hLo => ?_)
  have hz : s.heap.size ≤ H33.size := Nat.le_trans hz z34
  obtain ⟨rfl, rfl⟩ := hp35
  refine lv_topi (fun v36 e37 => ?_)
  obtain rfl : v36 = 34 := e37.trans (by decide)
  refine lv_istore (lv' := [(8, .int 34), (7, .int 0), (5, .int 1), (4, .int 34), (6, .int (-1)), (0, .ref mo), (1, .int 0), (2, .int 0), (3, .int 0)]) hx hb d_Mo_along_84 hl (by decide) rfl (fun ls hl => ?_)
  refine lv_iload hx hb d_Mo_along_86 (lv_at hl 3 rfl) ?_
  refine lv_sipush (v := 2048) hx hb d_Mo_along_88 (by decide) ?_
  refine lv_irem hx hb d_Mo_along_91 (by decide) ?_
  refine lv_iload hx hb d_Mo_along_92 (lv_at hl 0 rfl) ?_
  refine lv_iadd hx hb d_Mo_along_94 ?_
  refine lv_sipush (v := 2048) hx hb d_Mo_along_95 (by decide) ?_
  refine lv_icmp_le (tgt := 116) hx hb d_Mo_along_98 (by decide) (fun hc38 => ?_) (fun hc38 => absurd (by decide) hc38)
  refine lv_iload_n hx hb d_Mo_along_116 rfl (lv_at hl 8 rfl) ?_
  refine lv_if_eq (tgt := 132) hx hb d_Mo_along_117 (by decide) (fun hc39 => ?_) (fun hc39 => absurd rfl hc39)
  refine lv_iload hx hb d_Mo_along_132 (lv_at hl 3 rfl) ?_
  refine lv_iload hx hb d_Mo_along_134 (lv_at hl 0 rfl) ?_
  refine lv_iadd hx hb d_Mo_along_136 ?_
  refine lv_topi (fun v40 e41 => ?_)
  obtain rfl : v40 = 68 := e41.trans (by decide)
  refine lv_istore (lv' := [(4, .int 68), (8, .int 34), (7, .int 0), (5, .int 1), (6, .int (-1)), (0, .ref mo), (1, .int 0), (2, .int 0), (3, .int 0)]) hx hb d_Mo_along_137 hl (by decide) rfl (fun ls hl => ?_)
  refine lv_iload hx hb d_Mo_along_139 (lv_at hl 3 rfl) ?_
  refine lv_iconst (v := 2) hx hb d_Mo_along_141 (by decide) ?_
  refine lv_icmp_ge (tgt := 152) hx hb d_Mo_along_142 (by decide) (fun hc42 => absurd hc42 (by decide)) (fun hc42 => ?_)
  refine lv_iload hx hb d_Mo_along_145 (lv_at hl 3 rfl) ?_
  refine lv_iconst (v := 1) hx hb d_Mo_along_147 (by decide) ?_
  refine lv_iadd hx hb d_Mo_along_148 ?_
  refine lv_goto (tgt := 153) hx hb d_Mo_along_149 (by decide) ?_
  refine lv_topi (fun v43 e44 => ?_)
  obtain rfl : v43 = 2 := e44.trans (by decide)
  refine lv_istore (lv' := [(5, .int 2), (4, .int 68), (8, .int 34), (7, .int 0), (6, .int (-1)), (0, .ref mo), (1, .int 0), (2, .int 0), (3, .int 0)]) hx hb d_Mo_along_153 hl (by decide) rfl (fun ls hl => ?_)
  refine lv_goto (tgt := 9) hx hb d_Mo_along_155 (by decide) ?_
  refine lv_iload hx hb d_Mo_along_9 (lv_at hl 0 rfl) ?_
  refine lv_iconst (v := 2) hx hb d_Mo_along_11 (by decide) ?_
  refine lv_icmp_ne (tgt := 32) hx hb d_Mo_along_12 (by decide) (fun hc45 => absurd rfl hc45) (fun hc45 => ?_)
  refine lv_aload_n hx hb d_Mo_along_15 rfl (lv_at hl 5 rfl) ?_
  refine lv_iload_n hx hb d_Mo_along_16 rfl (lv_at hl 6 rfl) ?_
  refine lv_iload hx hb d_Mo_along_17 (lv_at hl 4 rfl) ?_
  refine hm_calli (va_runV (As := [.int 0, .int (-1)]) (b := mo) (rest := []) ⟨hx, hb, hml, hown, hts⟩ (c_m_next l D t G ak av h mo n aBy aSt aDe aPa aIt aId aPr aNa aSi aSe aIw aEx aOl aPl aTa aAt aLo aS1 aS2 aS3 aS4 aS5 aS6 aO1 aO2 aO3 aO4 aO5 dr wt 0 (-1) f_m) ⟨cw9B 2 hts mw_507 mw_508 mw_428 rfl rfl (by decide +kernel) ⟨Nat.le_of_ble_eq_true rfl, Nat.le_of_ble_eq_true rfl⟩, hts _ mw_509, hts _ mw_510⟩ (hP_V (q := (R_Mo, F_Mo, 41)) kE_ok hE hK hH f_m rfl) rfl rfl hl.1 rfl (lv_room (Nat.le_of_ble_eq_true rfl)) d_Mo_along_19 ⟨Nat.le_of_ble_eq_true rfl, Nat.le_of_ble_eq_true rfl⟩) hLo (fun r46 h47 H48 locs hp50 hH z49 hLo => ?_)
  have hz : s.heap.size ≤ H48.size := Nat.le_trans hz z49
  obtain ⟨rfl, rfl⟩ := hp50
  refine lv_istore (lv' := [(6, .int (-1)), (5, .int 2), (4, .int 68), (8, .int 34), (7, .int 0), (0, .ref mo), (1, .int 0), (2, .int 0), (3, .int 0)]) hx hb d_Mo_along_22 hl (by decide) rfl (fun ls hl => ?_)
  refine lv_iload hx hb d_Mo_along_24 (lv_at hl 0 rfl) ?_
  refine lv_if_ge (tgt := 32) hx hb d_Mo_along_26 (by decide) (fun hc51 => absurd hc51 (by decide)) (fun hc51 => ?_)
  refine lv_iload hx hb d_Mo_along_29 (lv_at hl 2 rfl) ?_
  exact W.iret (v := 68) hx hb hr (fun t9 ht hW => ⟨68, h, rfl, ⟨rfl, rfl⟩, by rw [ht]; exact hH, by rw [ht]; exact hz⟩) hLo d_Mo_along_31

set_option maxHeartbeats 4000000 in
set_option maxRecDepth 100000 in
theorem c_m_along1 (l : Launch) (D : va_G) (t : Nat → ClassId) (G : hG) (ak av : Nat → Nat) (h : hM) (mo n aBy aSt aDe aPa aIt aId aPr aNa aSi aSe aIw aEx aOl aPl aTa aAt aLo aS1 aS2 aS3 aS4 aS5 aS6 aO1 aO2 aO3 aO4 aO5 : Nat) (dr wt : Int32) (gPl gId gAt gLo : Nat → Int32) (P9 : Nat) (p9 : Int32) (f_m : h mo = some (.inr (9, [.int 0, .int (nI n), .int 0, .ref aBy, .ref aSt, .ref aDe, .int 0, .int (-1), .int wt, .ref aPa, .int 1, .ref aIt, .ref aId, .ref aPr, .ref aNa, .ref aSi, .ref aSe, .ref aIw, .ref aEx, .ref aOl, .int 0, .ref aPl, .int dr, .int 0, .ref aTa, .ref aAt, .ref aLo, .int 0, .int 0, .ref aS1, .ref aS2, .ref aS3, .ref aS4, .ref aS5, .ref aS6, .int 0, .ref aO1, .ref aO2, .ref aO3, .ref aO4, .ref aO5]))) (f_aPl : h aPl = some (.inl ((t 0), 163840, .inl gPl))) (f_aId : h aId = some (.inl ((t 1), 700, .inl gId))) (f_aAt : h aAt = some (.inl ((t 2), 700, .inl gAt))) (f_aLo : h aLo = some (.inl ((t 2), 700, .inl gLo))) (zId : gId 0 = 1) (hp9 : p9 = nI P9) (hle : P9 + 68 ≤ 163840) (ne_aId_aAt : aId ≠ aAt) (ne_aId_aLo : aId ≠ aLo) (ne_aAt_aLo : aAt ≠ aLo) : Met l y_Mo_along (.code y_Mo_along b_Mo_along 9 (some .int) :: lw_g) { frames := 3, cells := 0, slots := 0, locals := 72 } (hP (kE D t G ak av) D vwCl G h [.ref mo, .int 0, .int p9, .int 1]) (hQi D vwCl G (fun r h' => kp [aPl] h h' ∧ ∃ g : Nat → Int32, h' aPl = some (.inl ((t 0), 163840, .inl g)))) 0 0 G.P := by
  refine Met.ofW (cc := b_Mo_along) (maxL := 9) (ret := (some .int)) (by decide) rfl ?_
  intro p e s m args below meth c s₁ Bd hml hv
  obtain ⟨ha, hE, hH⟩ := hv
  have hx := Bd.exec
  have hb := Bd.bytes
  have hr := Bd.returns
  have hts : ∀ w ∈ lw_g, w.before args s = true := fun w hw => atoms_spec (ws := (.code y_Mo_along b_Mo_along 9 (some .int) :: lw_g)) Bd.pre w (List.mem_cons_of_mem _ hw)
  have hown : s.vm.findClass R_Mo = some m.cls := findClass_of_methodNamed Bd.named
  have hlocks := Bd.notSynchronized
  have hK := hE.1
  have hH0 := hH
  have hLo : hLc G.P [] := hLc_nil
  have hz : s.heap.size ≤ s.heap.size := Nat.le_refl _
  have hkp : kp [aPl] h h := kp_rf
  have hl := lv_entry [.ref mo, .int 0, .int p9, .int 1] (n := 9) (Nat.le_of_ble_eq_true rfl)
  rw [show entryFrame m args 9 = F0 m 0 ((lg_sl [.ref mo, .int 0, .int p9, .int 1] ++ List.replicate (9 - (lg_sl [.ref mo, .int 0, .int p9, .int 1]).length) Slot.unset).toArray) [] from (by rw [ha]; exact lg_entry_eq m [.ref mo, .int 0, .int p9, .int 1] 9)]
  generalize (lg_sl [.ref mo, .int 0, .int p9, .int 1] ++ List.replicate (9 - (lg_sl [.ref mo, .int 0, .int p9, .int 1]).length) Slot.unset).toArray = ls at hl ⊢
  have hl : lv_has ls 9 [(0, .ref mo), (1, .int 0), (2, .int p9), (3, .int 1)] := hl
  subst hp9
  refine lv_iconst (v := 0) hx hb d_Mo_along_0 (by decide) ?_
  refine lv_istore (lv' := [(4, .int 0), (0, .ref mo), (1, .int 0), (2, .int (nI P9)), (3, .int 1)]) hx hb d_Mo_along_1 hl (by decide) rfl (fun ls hl => ?_)
  refine lv_iconst (v := 0) hx hb d_Mo_along_3 (by decide) ?_
  refine lv_istore (lv' := [(5, .int 0), (4, .int 0), (0, .ref mo), (1, .int 0), (2, .int (nI P9)), (3, .int 1)]) hx hb d_Mo_along_4 hl (by decide) rfl (fun ls hl => ?_)
  refine lv_iconst (v := -1) hx hb d_Mo_along_6 (by decide) ?_
  refine lv_istore (lv' := [(6, .int (-1)), (5, .int 0), (4, .int 0), (0, .ref mo), (1, .int 0), (2, .int (nI P9)), (3, .int 1)]) hx hb d_Mo_along_7 hl (by decide) rfl (fun ls hl => ?_)
  refine lv_iload hx hb d_Mo_along_9 (lv_at hl 1 rfl) ?_
  refine lv_iconst (v := 2) hx hb d_Mo_along_11 (by decide) ?_
  refine lv_icmp_ne (tgt := 32) hx hb d_Mo_along_12 (by decide) (fun hc1 => ?_) (fun hc1 => absurd hc1 (by decide))
  refine lv_iload hx hb d_Mo_along_32 (lv_at hl 1 rfl) ?_
  refine lv_if_eq (tgt := 47) hx hb d_Mo_along_34 (by decide) (fun hc2 => ?_) (fun hc2 => absurd rfl hc2)
  refine lv_iload_n hx hb d_Mo_along_47 rfl (lv_at hl 4 rfl) ?_
  refine lv_goto (tgt := 68) hx hb d_Mo_along_48 (by decide) ?_
  refine lv_istore (lv' := [(7, .int 0), (6, .int (-1)), (5, .int 0), (4, .int 0), (0, .ref mo), (1, .int 0), (2, .int (nI P9)), (3, .int 1)]) hx hb d_Mo_along_68 hl (by decide) rfl (fun ls hl => ?_)
  refine lv_bipush (v := 33) hx hb d_Mo_along_70 (by decide) ?_
  refine lv_aload_n hx hb d_Mo_along_72 rfl (lv_at hl 4 rfl) ?_
  refine lv_iload hx hb d_Mo_along_73 (lv_at hl 2 rfl) ?_
  refine lv_iload hx hb d_Mo_along_75 (lv_at hl 0 rfl) ?_
  refine hm_calli (va_runV (As := [.int 0, .int 0]) (b := mo) (rest := [.int 33]) ⟨hx, hb, hml, hown, hts⟩ (c_m_recordId l D t G ak av h mo 0 0 (by decide)) ⟨cw9B 2 hts mw_496 mw_497 mw_428 rfl rfl (by decide +kernel) ⟨Nat.le_of_ble_eq_true rfl, Nat.le_of_ble_eq_true rfl⟩, hts _ mw_498, hts _ mw_499⟩ (hP_V (q := (R_Mo, F_Mo, 41)) kE_ok hE hK hH f_m rfl) rfl rfl hl.1 rfl (lv_room (Nat.le_of_ble_eq_true rfl)) d_Mo_along_77 ⟨Nat.le_of_ble_eq_true rfl, Nat.le_of_ble_eq_true rfl⟩) hLo (fun r3 h4 H5 locs hp7 hH z6 hLo => ?_)
  have hz : s.heap.size ≤ H5.size := Nat.le_trans hz z6
  obtain ⟨rfl, rfl⟩ := hp7
  refine lv_iadd hx hb d_Mo_along_80 ?_
  refine hm_calli (va_runS (As := [.int (33 + 1)]) (rest := []) ⟨hx, hb, hml, hown, hts⟩ (c_m_even l D t G ak av h (33 + 1)) ⟨cw9B 1 hts mw_500 mw_501 mw_428 rfl rfl (by decide +kernel) ⟨Nat.le_of_ble_eq_true rfl, Nat.le_of_ble_eq_true rfl⟩, hts _ mw_502⟩ (hP_S kE_ok hE hH) rfl rfl hl.1 rfl (lv_room (Nat.le_of_ble_eq_true rfl)) d_Mo_along_81 ⟨Nat.le_of_ble_eq_true rfl, Nat.le_of_ble_eq_true rfl⟩) hLo (fun r8 h9 H10 locs hp12 hH z11 hLo => ?_)
  have hz : s.heap.size ≤ H10.size := Nat.le_trans hz z11
  obtain ⟨rfl, rfl⟩ := hp12
  refine lv_topi (fun v13 e14 => ?_)
  obtain rfl : v13 = 34 := e14.trans (by decide)
  refine lv_istore (lv' := [(8, .int 34), (7, .int 0), (6, .int (-1)), (5, .int 0), (4, .int 0), (0, .ref mo), (1, .int 0), (2, .int (nI P9)), (3, .int 1)]) hx hb d_Mo_along_84 hl (by decide) rfl (fun ls hl => ?_)
  refine lv_iload hx hb d_Mo_along_86 (lv_at hl 4 rfl) ?_
  refine lv_sipush (v := 2048) hx hb d_Mo_along_88 (by decide) ?_
  refine lv_irem hx hb d_Mo_along_91 (by decide) ?_
  refine lv_iload hx hb d_Mo_along_92 (lv_at hl 0 rfl) ?_
  refine lv_iadd hx hb d_Mo_along_94 ?_
  refine lv_sipush (v := 2048) hx hb d_Mo_along_95 (by decide) ?_
  refine lv_icmp_le (tgt := 116) hx hb d_Mo_along_98 (by decide) (fun hc15 => ?_) (fun hc15 => absurd (by decide) hc15)
  refine lv_iload_n hx hb d_Mo_along_116 rfl (lv_at hl 8 rfl) ?_
  refine lv_if_eq (tgt := 132) hx hb d_Mo_along_117 (by decide) (fun hc16 => absurd hc16 (by decide)) (fun hc16 => ?_)
  refine lv_aload_n hx hb d_Mo_along_120 rfl (lv_at hl 5 rfl) ?_
  refine lv_iload_n hx hb d_Mo_along_121 rfl (lv_at hl 7 rfl) ?_
  refine lv_iload hx hb d_Mo_along_122 (lv_at hl 4 rfl) ?_
  refine lv_iadd hx hb d_Mo_along_124 ?_
  refine lv_iload hx hb d_Mo_along_125 (lv_at hl 3 rfl) ?_
  refine lv_iload hx hb d_Mo_along_127 (lv_at hl 1 rfl) ?_
  refine hm_callv (va_runV (As := [.int ((nI P9) + 0), .int 0, .int 0]) (b := mo) (rest := []) ⟨hx, hb, hml, hown, hts⟩ (c_m_record l D t G ak av h mo n aBy aSt aDe aPa aIt aId aPr aNa aSi aSe aIw aEx aOl aPl aTa aAt aLo aS1 aS2 aS3 aS4 aS5 aS6 aO1 aO2 aO3 aO4 aO5 dr wt gPl gId gAt gLo P9 (nI P9 + 0) 0 f_m f_aPl f_aId f_aAt f_aLo zId (by decide) (Int32.add_zero _) (by omega) ne_aId_aAt ne_aId_aLo ne_aAt_aLo) ⟨cw9B 3 hts mw_511 mw_512 mw_428 rfl rfl (by decide +kernel) ⟨Nat.le_of_ble_eq_true rfl, Nat.le_of_ble_eq_true rfl⟩, hts _ mw_513, hts _ mw_514⟩ (hP_V (q := (R_Mo, F_Mo, 41)) kE_ok hE hK hH f_m rfl) rfl rfl hl.1 rfl (lv_room (Nat.le_of_ble_eq_true rfl)) d_Mo_along_129 ⟨Nat.le_of_ble_eq_true rfl, Nat.le_of_ble_eq_true rfl⟩) hLo (fun h17 H18 locs hp20 hH z19 hLo => ?_)
  have hz : s.heap.size ≤ H18.size := Nat.le_trans hz z19
  obtain ⟨hk9, g21, hg9⟩ := hp20
  have f_m : h17 mo = some (.inr (9, [.int 0, .int (nI n), .int 0, .ref aBy, .ref aSt, .ref aDe, .int 0, .int (-1), .int wt, .ref aPa, .int 1, .ref aIt, .ref aId, .ref aPr, .ref aNa, .ref aSi, .ref aSe, .ref aIw, .ref aEx, .ref aOl, .int 0, .ref aPl, .int dr, .int 0, .ref aTa, .ref aAt, .ref aLo, .int 0, .int 0, .ref aS1, .ref aS2, .ref aS3, .ref aS4, .ref aS5, .ref aS6, .int 0, .ref aO1, .ref aO2, .ref aO3, .ref aO4, .ref aO5])) := kp_at hk9 f_m (nmc (Ne.symm (h_neA f_aPl f_m)) nm0)
  have f_aId : h17 aId = some (.inl ((t 1), 700, .inl gId)) := kp_at hk9 f_aId (nmc (h_neL (k1 := 700) (k2 := 163840) f_aId f_aPl rfl rfl (by omega)) nm0)
  have f_aAt : h17 aAt = some (.inl ((t 2), 700, .inl gAt)) := kp_at hk9 f_aAt (nmc (h_neL (k1 := 700) (k2 := 163840) f_aAt f_aPl rfl rfl (by omega)) nm0)
  have f_aLo : h17 aLo = some (.inl ((t 2), 700, .inl gLo)) := kp_at hk9 f_aLo (nmc (h_neL (k1 := 700) (k2 := 163840) f_aLo f_aPl rfl rfl (by omega)) nm0)
  have hkp : kp [aPl] h h17 := kp_tr2 hkp hk9 (List.forall_mem_cons.mpr ⟨Or.inl (by simp), List.forall_mem_nil _⟩)
  have f_aPl : h17 aPl = some (.inl ((t 0), 163840, .inl g21)) := hg9
  refine lv_iload hx hb d_Mo_along_132 (lv_at hl 4 rfl) ?_
  refine lv_iload hx hb d_Mo_along_134 (lv_at hl 0 rfl) ?_
  refine lv_iadd hx hb d_Mo_along_136 ?_
  refine lv_topi (fun v22 e23 => ?_)
  obtain rfl : v22 = 34 := e23.trans (by decide)
  refine lv_istore (lv' := [(4, .int 34), (8, .int 34), (7, .int 0), (6, .int (-1)), (5, .int 0), (0, .ref mo), (1, .int 0), (2, .int (nI P9)), (3, .int 1)]) hx hb d_Mo_along_137 hl (by decide) rfl (fun ls hl => ?_)
  refine lv_iload hx hb d_Mo_along_139 (lv_at hl 4 rfl) ?_
  refine lv_iconst (v := 2) hx hb d_Mo_along_141 (by decide) ?_
  refine lv_icmp_ge (tgt := 152) hx hb d_Mo_along_142 (by decide) (fun hc24 => absurd hc24 (by decide)) (fun hc24 => ?_)
  refine lv_iload hx hb d_Mo_along_145 (lv_at hl 4 rfl) ?_
  refine lv_iconst (v := 1) hx hb d_Mo_along_147 (by decide) ?_
  refine lv_iadd hx hb d_Mo_along_148 ?_
  refine lv_goto (tgt := 153) hx hb d_Mo_along_149 (by decide) ?_
  refine lv_topi (fun v25 e26 => ?_)
  obtain rfl : v25 = 1 := e26.trans (by decide)
  refine lv_istore (lv' := [(5, .int 1), (4, .int 34), (8, .int 34), (7, .int 0), (6, .int (-1)), (0, .ref mo), (1, .int 0), (2, .int (nI P9)), (3, .int 1)]) hx hb d_Mo_along_153 hl (by decide) rfl (fun ls hl => ?_)
  refine lv_goto (tgt := 9) hx hb d_Mo_along_155 (by decide) ?_
  refine lv_iload hx hb d_Mo_along_9 (lv_at hl 0 rfl) ?_
  refine lv_iconst (v := 2) hx hb d_Mo_along_11 (by decide) ?_
  refine lv_icmp_ne (tgt := 32) hx hb d_Mo_along_12 (by decide) (fun hc27 => ?_) (fun hc27 => absurd hc27 (by decide))
  refine lv_iload hx hb d_Mo_along_32 (lv_at hl 0 rfl) ?_
  refine lv_if_eq (tgt := 47) hx hb d_Mo_along_34 (by decide) (fun hc28 => absurd hc28 (by decide)) (fun hc28 => ?_)
  refine lv_iload hx hb d_Mo_along_37 (lv_at hl 0 rfl) ?_
  refine lv_iconst (v := 1) hx hb d_Mo_along_39 (by decide) ?_
  refine lv_icmp_ne (tgt := 51) hx hb d_Mo_along_40 (by decide) (fun hc29 => absurd rfl hc29) (fun hc29 => ?_)
  refine lv_iload_n hx hb d_Mo_along_43 rfl (lv_at hl 6 rfl) ?_
  refine lv_if_ne (tgt := 51) hx hb d_Mo_along_44 (by decide) (fun hc30 => absurd rfl hc30) (fun hc30 => ?_)
  refine lv_iload_n hx hb d_Mo_along_47 rfl (lv_at hl 6 rfl) ?_
  refine lv_goto (tgt := 68) hx hb d_Mo_along_48 (by decide) ?_
  refine lv_istore (lv' := [(7, .int 0), (5, .int 1), (4, .int 34), (8, .int 34), (6, .int (-1)), (0, .ref mo), (1, .int 0), (2, .int (nI P9)), (3, .int 1)]) hx hb d_Mo_along_68 hl (by decide) rfl (fun ls hl => ?_)
  refine lv_bipush (v := 33) hx hb d_Mo_along_70 (by decide) ?_
  refine lv_aload_n hx hb d_Mo_along_72 rfl (lv_at hl 5 rfl) ?_
  refine lv_iload hx hb d_Mo_along_73 (lv_at hl 1 rfl) ?_
  refine lv_iload hx hb d_Mo_along_75 (lv_at hl 0 rfl) ?_
  refine hm_calli (va_runV (As := [.int 1, .int 0]) (b := mo) (rest := [.int 33]) ⟨hx, hb, hml, hown, hts⟩ (c_m_recordId l D t G ak av h17 mo 1 0 (by decide)) ⟨cw9B 2 hts mw_496 mw_497 mw_428 rfl rfl (by decide +kernel) ⟨Nat.le_of_ble_eq_true rfl, Nat.le_of_ble_eq_true rfl⟩, hts _ mw_498, hts _ mw_499⟩ (hP_V (q := (R_Mo, F_Mo, 41)) kE_ok hE hK hH f_m rfl) rfl rfl hl.1 rfl (lv_room (Nat.le_of_ble_eq_true rfl)) d_Mo_along_77 ⟨Nat.le_of_ble_eq_true rfl, Nat.le_of_ble_eq_true rfl⟩) hLo (fun r31 h32 H33 locs hp35 hH z34 hLo => ?_)
  have hz : s.heap.size ≤ H33.size := Nat.le_trans hz z34
  obtain ⟨rfl, rfl⟩ := hp35
  refine lv_iadd hx hb d_Mo_along_80 ?_
  refine hm_calli (va_runS (As := [.int (33 + 1)]) (rest := []) ⟨hx, hb, hml, hown, hts⟩ (c_m_even l D t G ak av h17 (33 + 1)) ⟨cw9B 1 hts mw_500 mw_501 mw_428 rfl rfl (by decide +kernel) ⟨Nat.le_of_ble_eq_true rfl, Nat.le_of_ble_eq_true rfl⟩, hts _ mw_502⟩ (hP_S kE_ok hE hH) rfl rfl hl.1 rfl (lv_room (Nat.le_of_ble_eq_true rfl)) d_Mo_along_81 ⟨Nat.le_of_ble_eq_true rfl, Nat.le_of_ble_eq_true rfl⟩) hLo (fun r36 h37 H38 locs hp40 hH z39 hLo => ?_)
  have hz : s.heap.size ≤ H38.size := Nat.le_trans hz z39
  obtain ⟨rfl, rfl⟩ := hp40
  refine lv_topi (fun v41 e42 => ?_)
  obtain rfl : v41 = 34 := e42.trans (by decide)
  refine lv_istore (lv' := [(8, .int 34), (7, .int 0), (5, .int 1), (4, .int 34), (6, .int (-1)), (0, .ref mo), (1, .int 0), (2, .int (nI P9)), (3, .int 1)]) hx hb d_Mo_along_84 hl (by decide) rfl (fun ls hl => ?_)
  refine lv_iload hx hb d_Mo_along_86 (lv_at hl 3 rfl) ?_
  refine lv_sipush (v := 2048) hx hb d_Mo_along_88 (by decide) ?_
  refine lv_irem hx hb d_Mo_along_91 (by decide) ?_
  refine lv_iload hx hb d_Mo_along_92 (lv_at hl 0 rfl) ?_
  refine lv_iadd hx hb d_Mo_along_94 ?_
  refine lv_sipush (v := 2048) hx hb d_Mo_along_95 (by decide) ?_
  refine lv_icmp_le (tgt := 116) hx hb d_Mo_along_98 (by decide) (fun hc43 => ?_) (fun hc43 => absurd (by decide) hc43)
  refine lv_iload_n hx hb d_Mo_along_116 rfl (lv_at hl 8 rfl) ?_
  refine lv_if_eq (tgt := 132) hx hb d_Mo_along_117 (by decide) (fun hc44 => absurd hc44 (by decide)) (fun hc44 => ?_)
  refine lv_aload_n hx hb d_Mo_along_120 rfl (lv_at hl 5 rfl) ?_
  refine lv_iload_n hx hb d_Mo_along_121 rfl (lv_at hl 7 rfl) ?_
  refine lv_iload hx hb d_Mo_along_122 (lv_at hl 3 rfl) ?_
  refine lv_iadd hx hb d_Mo_along_124 ?_
  refine lv_iload hx hb d_Mo_along_125 (lv_at hl 2 rfl) ?_
  refine lv_iload hx hb d_Mo_along_127 (lv_at hl 1 rfl) ?_
  refine hm_callv (va_runV (As := [.int ((nI P9) + 34), .int 1, .int 0]) (b := mo) (rest := []) ⟨hx, hb, hml, hown, hts⟩ (c_m_record l D t G ak av h17 mo n aBy aSt aDe aPa aIt aId aPr aNa aSi aSe aIw aEx aOl aPl aTa aAt aLo aS1 aS2 aS3 aS4 aS5 aS6 aO1 aO2 aO3 aO4 aO5 dr wt g21 gId gAt gLo (P9 + 34) (nI P9 + 34) 1 f_m f_aPl f_aId f_aAt f_aLo zId (by decide) (nI_add _ _) (by omega) ne_aId_aAt ne_aId_aLo ne_aAt_aLo) ⟨cw9B 3 hts mw_511 mw_512 mw_428 rfl rfl (by decide +kernel) ⟨Nat.le_of_ble_eq_true rfl, Nat.le_of_ble_eq_true rfl⟩, hts _ mw_513, hts _ mw_514⟩ (hP_V (q := (R_Mo, F_Mo, 41)) kE_ok hE hK hH f_m rfl) rfl rfl hl.1 rfl (lv_room (Nat.le_of_ble_eq_true rfl)) d_Mo_along_129 ⟨Nat.le_of_ble_eq_true rfl, Nat.le_of_ble_eq_true rfl⟩) hLo (fun h45 H46 locs hp48 hH z47 hLo => ?_)
  have hz : s.heap.size ≤ H46.size := Nat.le_trans hz z47
  obtain ⟨hk9, g49, hg9⟩ := hp48
  have f_m : h45 mo = some (.inr (9, [.int 0, .int (nI n), .int 0, .ref aBy, .ref aSt, .ref aDe, .int 0, .int (-1), .int wt, .ref aPa, .int 1, .ref aIt, .ref aId, .ref aPr, .ref aNa, .ref aSi, .ref aSe, .ref aIw, .ref aEx, .ref aOl, .int 0, .ref aPl, .int dr, .int 0, .ref aTa, .ref aAt, .ref aLo, .int 0, .int 0, .ref aS1, .ref aS2, .ref aS3, .ref aS4, .ref aS5, .ref aS6, .int 0, .ref aO1, .ref aO2, .ref aO3, .ref aO4, .ref aO5])) := kp_at hk9 f_m (nmc (Ne.symm (h_neA f_aPl f_m)) nm0)
  have f_aId : h45 aId = some (.inl ((t 1), 700, .inl gId)) := kp_at hk9 f_aId (nmc (h_neL (k1 := 700) (k2 := 163840) f_aId f_aPl rfl rfl (by omega)) nm0)
  have f_aAt : h45 aAt = some (.inl ((t 2), 700, .inl gAt)) := kp_at hk9 f_aAt (nmc (h_neL (k1 := 700) (k2 := 163840) f_aAt f_aPl rfl rfl (by omega)) nm0)
  have f_aLo : h45 aLo = some (.inl ((t 2), 700, .inl gLo)) := kp_at hk9 f_aLo (nmc (h_neL (k1 := 700) (k2 := 163840) f_aLo f_aPl rfl rfl (by omega)) nm0)
  have hkp : kp [aPl] h h45 := kp_tr2 hkp hk9 (List.forall_mem_cons.mpr ⟨Or.inl (by simp), List.forall_mem_nil _⟩)
  have f_aPl : h45 aPl = some (.inl ((t 0), 163840, .inl g49)) := hg9
  refine lv_iload hx hb d_Mo_along_132 (lv_at hl 3 rfl) ?_
  refine lv_iload hx hb d_Mo_along_134 (lv_at hl 0 rfl) ?_
  refine lv_iadd hx hb d_Mo_along_136 ?_
  refine lv_topi (fun v50 e51 => ?_)
  obtain rfl : v50 = 68 := e51.trans (by decide)
  refine lv_istore (lv' := [(4, .int 68), (8, .int 34), (7, .int 0), (5, .int 1), (6, .int (-1)), (0, .ref mo), (1, .int 0), (2, .int (nI P9)), (3, .int 1)]) hx hb d_Mo_along_137 hl (by decide) rfl (fun ls hl => ?_)
  refine lv_iload hx hb d_Mo_along_139 (lv_at hl 3 rfl) ?_
  refine lv_iconst (v := 2) hx hb d_Mo_along_141 (by decide) ?_
  refine lv_icmp_ge (tgt := 152) hx hb d_Mo_along_142 (by decide) (fun hc52 => absurd hc52 (by decide)) (fun hc52 => ?_)
  refine lv_iload hx hb d_Mo_along_145 (lv_at hl 3 rfl) ?_
  refine lv_iconst (v := 1) hx hb d_Mo_along_147 (by decide) ?_
  refine lv_iadd hx hb d_Mo_along_148 ?_
  refine lv_goto (tgt := 153) hx hb d_Mo_along_149 (by decide) ?_
  refine lv_topi (fun v53 e54 => ?_)
  obtain rfl : v53 = 2 := e54.trans (by decide)
  refine lv_istore (lv' := [(5, .int 2), (4, .int 68), (8, .int 34), (7, .int 0), (6, .int (-1)), (0, .ref mo), (1, .int 0), (2, .int (nI P9)), (3, .int 1)]) hx hb d_Mo_along_153 hl (by decide) rfl (fun ls hl => ?_)
  refine lv_goto (tgt := 9) hx hb d_Mo_along_155 (by decide) ?_
  refine lv_iload hx hb d_Mo_along_9 (lv_at hl 0 rfl) ?_
  refine lv_iconst (v := 2) hx hb d_Mo_along_11 (by decide) ?_
  refine lv_icmp_ne (tgt := 32) hx hb d_Mo_along_12 (by decide) (fun hc55 => absurd rfl hc55) (fun hc55 => ?_)
  refine lv_aload_n hx hb d_Mo_along_15 rfl (lv_at hl 5 rfl) ?_
  refine lv_iload_n hx hb d_Mo_along_16 rfl (lv_at hl 6 rfl) ?_
  refine lv_iload hx hb d_Mo_along_17 (lv_at hl 4 rfl) ?_
  refine hm_calli (va_runV (As := [.int 0, .int (-1)]) (b := mo) (rest := []) ⟨hx, hb, hml, hown, hts⟩ (c_m_next l D t G ak av h45 mo n aBy aSt aDe aPa aIt aId aPr aNa aSi aSe aIw aEx aOl aPl aTa aAt aLo aS1 aS2 aS3 aS4 aS5 aS6 aO1 aO2 aO3 aO4 aO5 dr wt 0 (-1) f_m) ⟨cw9B 2 hts mw_507 mw_508 mw_428 rfl rfl (by decide +kernel) ⟨Nat.le_of_ble_eq_true rfl, Nat.le_of_ble_eq_true rfl⟩, hts _ mw_509, hts _ mw_510⟩ (hP_V (q := (R_Mo, F_Mo, 41)) kE_ok hE hK hH f_m rfl) rfl rfl hl.1 rfl (lv_room (Nat.le_of_ble_eq_true rfl)) d_Mo_along_19 ⟨Nat.le_of_ble_eq_true rfl, Nat.le_of_ble_eq_true rfl⟩) hLo (fun r56 h57 H58 locs hp60 hH z59 hLo => ?_)
  have hz : s.heap.size ≤ H58.size := Nat.le_trans hz z59
  obtain ⟨rfl, rfl⟩ := hp60
  refine lv_istore (lv' := [(6, .int (-1)), (5, .int 2), (4, .int 68), (8, .int 34), (7, .int 0), (0, .ref mo), (1, .int 0), (2, .int (nI P9)), (3, .int 1)]) hx hb d_Mo_along_22 hl (by decide) rfl (fun ls hl => ?_)
  refine lv_iload hx hb d_Mo_along_24 (lv_at hl 0 rfl) ?_
  refine lv_if_ge (tgt := 32) hx hb d_Mo_along_26 (by decide) (fun hc61 => absurd hc61 (by decide)) (fun hc61 => ?_)
  refine lv_iload hx hb d_Mo_along_29 (lv_at hl 2 rfl) ?_
  exact W.iret (v := 68) hx hb hr (fun t9 ht hW => ⟨68, h45, rfl, ⟨hkp, _, f_aPl⟩, by rw [ht]; exact hH, by rw [ht]; exact hz⟩) hLo d_Mo_along_31

set_option maxHeartbeats 4000000 in
set_option maxRecDepth 100000 in
theorem c_m_tables (l : Launch) (D : va_G) (t : Nat → ClassId) (G : hG) (ak av : Nat → Nat) (h : hM) (mo n aBy aSt aDe aPa aIt aId aPr aNa aSi aSe aIw aEx aOl aPl aTa aAt aLo aS1 aS2 aS3 aS4 aS5 aS6 aO1 aO2 aO3 aO4 aO5 : Nat) (dr wt : Int32) (gTa : Nat → Int32) (f_m : h mo = some (.inr (9, [.int 0, .int (nI n), .int 0, .ref aBy, .ref aSt, .ref aDe, .int 0, .int (-1), .int wt, .ref aPa, .int 1, .ref aIt, .ref aId, .ref aPr, .ref aNa, .ref aSi, .ref aSe, .ref aIw, .ref aEx, .ref aOl, .int 0, .ref aPl, .int dr, .int 0, .ref aTa, .ref aAt, .ref aLo, .int 0, .int 0, .ref aS1, .ref aS2, .ref aS3, .ref aS4, .ref aS5, .ref aS6, .int 0, .ref aO1, .ref aO2, .ref aO3, .ref aO4, .ref aO5]))) (f_aTa : h aTa = some (.inl ((t 2), 30, .inl gTa))) : Met l y_Mo_tables (.code y_Mo_tables b_Mo_tables 3 none :: lw_g) { frames := 1, cells := 0, slots := 0, locals := 24 } (hP (kE D t G ak av) D vwCl G h [.ref mo]) (hQv D vwCl G (fun h' => kp [mo, aTa] h h' ∧ h' mo = some (.inr (9, [.int 0, .int (nI n), .int 0, .ref aBy, .ref aSt, .ref aDe, .int 0, .int (-1), .int wt, .ref aPa, .int 1, .ref aIt, .ref aId, .ref aPr, .ref aNa, .ref aSi, .ref aSe, .ref aIw, .ref aEx, .ref aOl, .int 0, .ref aPl, .int 1, .int 0, .ref aTa, .ref aAt, .ref aLo, .int 0, .int 0, .ref aS1, .ref aS2, .ref aS3, .ref aS4, .ref aS5, .ref aS6, .int 0, .ref aO1, .ref aO2, .ref aO3, .ref aO4, .ref aO5])) ∧ ∃ g : Nat → Int32, h' aTa = some (.inl ((t 2), 30, .inl g)) ∧ g 0 = 0)) 0 0 G.P := by
  refine Met.ofW (cc := b_Mo_tables) (maxL := 3) (ret := none) (by decide) rfl ?_
  intro p e s m args below meth c s₁ Bd hml hv
  obtain ⟨ha, hE, hH⟩ := hv
  have hx := Bd.exec
  have hb := Bd.bytes
  have hr := Bd.returns
  have hts : ∀ w ∈ lw_g, w.before args s = true := fun w hw => atoms_spec (ws := (.code y_Mo_tables b_Mo_tables 3 none :: lw_g)) Bd.pre w (List.mem_cons_of_mem _ hw)
  have hown : s.vm.findClass R_Mo = some m.cls := findClass_of_methodNamed Bd.named
  have hlocks := Bd.notSynchronized
  have hK := hE.1
  have hH0 := hH
  have hLo : hLc G.P [] := hLc_nil
  have hz : s.heap.size ≤ s.heap.size := Nat.le_refl _
  have hkp : kp [mo, aTa] h h := kp_rf
  have hl := lv_entry [.ref mo] (n := 3) (Nat.le_of_ble_eq_true rfl)
  rw [show entryFrame m args 3 = F0 m 0 ((lg_sl [.ref mo] ++ List.replicate (3 - (lg_sl [.ref mo]).length) Slot.unset).toArray) [] from (by rw [ha]; exact lg_entry_eq m [.ref mo] 3)]
  generalize (lg_sl [.ref mo] ++ List.replicate (3 - (lg_sl [.ref mo]).length) Slot.unset).toArray = ls at hl ⊢
  have hl : lv_has ls 3 [(0, .ref mo)] := hl
  refine lv_aload_n hx hb d_Mo_tables_0 rfl (lv_at hl 0 rfl) ?_
  refine lv_iconst (v := 1) hx hb d_Mo_tables_1 (by decide) ?_
  refine hm_put (ci := 9) (v := .int 1) (ty := .int) (C := R_Mo) (T := F_Mo) (N := 41) hx hb hts ig_Mo t_Mo tk_Mo nm_Mo hown hK hH hLo f_m rfl 22 (by decide) (hts _ mw_515) (fun _ h9 => h9) rfl (by decide +kernel) rfl rfl (Nat.le_of_ble_eq_true rfl) d_Mo_tables_2 (fun H1 locs hH z2 hLo => ?_)
  have hz : s.heap.size ≤ H1.size := by rw [z2]; exact hz
  obtain ⟨h3, e4⟩ : ∃ z, z = hu h mo (.inr (9, [.int 0, .int (nI n), .int 0, .ref aBy, .ref aSt, .ref aDe, .int 0, .int (-1), .int wt, .ref aPa, .int 1, .ref aIt, .ref aId, .ref aPr, .ref aNa, .ref aSi, .ref aSe, .ref aIw, .ref aEx, .ref aOl, .int 0, .ref aPl, .int 1, .int 0, .ref aTa, .ref aAt, .ref aLo, .int 0, .int 0, .ref aS1, .ref aS2, .ref aS3, .ref aS4, .ref aS5, .ref aS6, .int 0, .ref aO1, .ref aO2, .ref aO3, .ref aO4, .ref aO5])) := ⟨_, rfl⟩
  have hH : hm D vwCl G h3 H1 := by rw [e4]; exact hH
  have f_aTa : h3 aTa = some (.inl ((t 2), 30, .inl gTa)) := by rw [e4, hu_n (h_neA f_aTa f_m)]; exact f_aTa
  have f_m : h3 mo = some (.inr (9, [.int 0, .int (nI n), .int 0, .ref aBy, .ref aSt, .ref aDe, .int 0, .int (-1), .int wt, .ref aPa, .int 1, .ref aIt, .ref aId, .ref aPr, .ref aNa, .ref aSi, .ref aSe, .ref aIw, .ref aEx, .ref aOl, .int 0, .ref aPl, .int 1, .int 0, .ref aTa, .ref aAt, .ref aLo, .int 0, .int 0, .ref aS1, .ref aS2, .ref aS3, .ref aS4, .ref aS5, .ref aS6, .int 0, .ref aO1, .ref aO2, .ref aO3, .ref aO4, .ref aO5])) := by rw [e4]; exact hu_s _ _ _
  have hkp : kp [mo, aTa] h h3 := by rw [e4]; exact kp_put hkp (by simp)
  refine lv_aload_n hx hb d_Mo_tables_5 rfl (lv_at hl 0 rfl) ?_
  refine hm_get (ci := 9) (v := .ref aTa) (C := R_Mo) (T := F_Mo) (N := 41) hx hb hts ig_Mo hown hK hH f_m rfl 24 (by decide) (hts _ mw_411) (fun _ h9 => h9) rfl d_Mo_tables_6 ?_
  refine lv_iconst (v := 0) hx hb d_Mo_tables_9 (by decide) ?_
  refine lv_iconst (v := 0) hx hb d_Mo_tables_10 (by decide) ?_
  refine hj_iast hx hb hK hH hLo 2 f_aTa rfl 0 (by decide) (by decide) (by decide) d_Mo_tables_11 (fun H5 locs hH z6 hLo => ?_)
  have hz : s.heap.size ≤ H5.size := by rw [z6]; exact hz
  obtain ⟨h7, e8⟩ : ∃ z, z = hu h3 aTa (.inl ((t 2), 30, .inl (upd gTa 0 0))) := ⟨_, rfl⟩
  have hH : hm D vwCl G h7 H5 := by rw [e8]; exact hH
  have f_m : h7 mo = some (.inr (9, [.int 0, .int (nI n), .int 0, .ref aBy, .ref aSt, .ref aDe, .int 0, .int (-1), .int wt, .ref aPa, .int 1, .ref aIt, .ref aId, .ref aPr, .ref aNa, .ref aSi, .ref aSe, .ref aIw, .ref aEx, .ref aOl, .int 0, .ref aPl, .int 1, .int 0, .ref aTa, .ref aAt, .ref aLo, .int 0, .int 0, .ref aS1, .ref aS2, .ref aS3, .ref aS4, .ref aS5, .ref aS6, .int 0, .ref aO1, .ref aO2, .ref aO3, .ref aO4, .ref aO5])) := by rw [e8, hu_n (Ne.symm (h_neA f_aTa f_m))]; exact f_m
  have f_aTa : h7 aTa = some (.inl ((t 2), 30, .inl (upd gTa 0 0))) := by rw [e8]; exact hu_s _ _ _
  have hkp : kp [mo, aTa] h h7 := by rw [e8]; exact kp_put hkp (by simp)
  refine lv_iconst (v := 0) hx hb d_Mo_tables_12 (by decide) ?_
  refine lv_istore_n (lv' := [(1, .int 0), (0, .ref mo)]) hx hb d_Mo_tables_13 rfl hl (by decide) rfl (fun ls hl => ?_)
  refine lv_iload_n hx hb d_Mo_tables_14 rfl (lv_at hl 0 rfl) ?_
  refine lv_aload_n hx hb d_Mo_tables_15 rfl (lv_at hl 1 rfl) ?_
  refine hm_get (ci := 9) (v := .int 1) (C := R_Mo) (T := F_Mo) (N := 41) hx hb hts ig_Mo hown hK hH f_m rfl 22 (by decide) (hts _ mw_515) (fun _ h9 => h9) rfl d_Mo_tables_16 ?_
  refine lv_icmp_ge (tgt := 91) hx hb d_Mo_tables_19 (by decide) (fun hc9 => absurd hc9 (by decide)) (fun hc9 => ?_)
  refine lv_aload_n hx hb d_Mo_tables_22 rfl (lv_at hl 1 rfl) ?_
  refine lv_aload_n hx hb d_Mo_tables_23 rfl (lv_at hl 1 rfl) ?_
  refine hm_get (ci := 9) (v := .ref aTa) (C := R_Mo) (T := F_Mo) (N := 41) hx hb hts ig_Mo hown hK hH f_m rfl 24 (by decide) (hts _ mw_411) (fun _ h9 => h9) rfl d_Mo_tables_24 ?_
  refine lv_iload_n hx hb d_Mo_tables_27 rfl (lv_at hl 0 rfl) ?_
  refine hj_iald hx hb hK hH 2 f_aTa rfl 0 (by decide) (by decide) (by decide) d_Mo_tables_28 ?_
  refine lv_iconst (v := -1) hx hb d_Mo_tables_29 (by decide) ?_
  refine hm_calli (va_runV (As := [.int ((upd gTa 0 0) 0), .int (-1)]) (b := mo) (rest := []) ⟨hx, hb, hml, hown, hts⟩ (c_m_next l D t G ak av h7 mo n aBy aSt aDe aPa aIt aId aPr aNa aSi aSe aIw aEx aOl aPl aTa aAt aLo aS1 aS2 aS3 aS4 aS5 aS6 aO1 aO2 aO3 aO4 aO5 1 wt ((upd gTa 0 0) 0) (-1) f_m) ⟨cw9B 2 hts mw_507 mw_508 mw_428 rfl rfl (by decide +kernel) ⟨Nat.le_of_ble_eq_true rfl, Nat.le_of_ble_eq_true rfl⟩, hts _ mw_509, hts _ mw_510⟩ (hP_V (q := (R_Mo, F_Mo, 41)) kE_ok hE hK hH f_m rfl) rfl rfl hl.1 rfl (lv_room (Nat.le_of_ble_eq_true rfl)) d_Mo_tables_30 ⟨Nat.le_of_ble_eq_true rfl, Nat.le_of_ble_eq_true rfl⟩) hLo (fun r10 h11 H12 locs hp14 hH z13 hLo => ?_)
  have hz : s.heap.size ≤ H12.size := Nat.le_trans hz z13
  obtain ⟨rfl, rfl⟩ := hp14
  refine lv_istore_n (lv' := [(2, .int (-1)), (1, .int 0), (0, .ref mo)]) hx hb d_Mo_tables_33 rfl hl (by decide) rfl (fun ls hl => ?_)
  refine lv_iload_n hx hb d_Mo_tables_34 rfl (lv_at hl 0 rfl) ?_
  refine lv_if_lt (tgt := 85) hx hb d_Mo_tables_35 (by decide) (fun hc15 => ?_) (fun hc15 => absurd (by decide) hc15)
  refine lv_iinc (v := 0 + 1) (lv' := [(1, .int (0 + 1)), (2, .int (-1)), (0, .ref mo)]) hx hb d_Mo_tables_85 hl (k := 1) rfl (by rfl) (by decide) rfl (fun ls hl => ?_)
  refine lv_goto (tgt := 14) hx hb d_Mo_tables_88 (by decide) ?_
  refine lv_iload_n hx hb d_Mo_tables_14 rfl (lv_at hl 0 rfl) ?_
  refine lv_aload_n hx hb d_Mo_tables_15 rfl (lv_at hl 2 rfl) ?_
  refine hm_get (ci := 9) (v := .int 1) (C := R_Mo) (T := F_Mo) (N := 41) hx hb hts ig_Mo hown hK hH f_m rfl 22 (by decide) (hts _ mw_515) (fun _ h9 => h9) rfl d_Mo_tables_16 ?_
  refine lv_icmp_ge (tgt := 91) hx hb d_Mo_tables_19 (by decide) (fun hc16 => ?_) (fun hc16 => absurd (by decide) hc16)
  exact W.vret hx hb hr (fun t9 ht hW => ⟨h7, rfl, ⟨hkp, f_m, _, f_aTa, upd0 _ _ rfl⟩, by rw [ht]; exact hH, by rw [ht]; exact hz⟩) hLo d_Mo_tables_91

set_option maxHeartbeats 4000000 in
set_option maxRecDepth 100000 in
theorem c_m_measure (l : Launch) (D : va_G) (t : Nat → ClassId) (G : hG) (ak av : Nat → Nat) (h : hM) (mo n aBy aSt aDe aPa aIt aId aPr aNa aSi aSe aIw aEx aOl aPl aTa aAt aLo aS1 aS2 aS3 aS4 aS5 aS6 aO1 aO2 aO3 aO4 aO5 : Nat) (dr wt : Int32) (gTa gAt gLo : Nat → Int32) (f_m : h mo = some (.inr (9, [.int 0, .int (nI n), .int 0, .ref aBy, .ref aSt, .ref aDe, .int 0, .int (-1), .int wt, .ref aPa, .int 1, .ref aIt, .ref aId, .ref aPr, .ref aNa, .ref aSi, .ref aSe, .ref aIw, .ref aEx, .ref aOl, .int 0, .ref aPl, .int dr, .int 0, .ref aTa, .ref aAt, .ref aLo, .int 0, .int 0, .ref aS1, .ref aS2, .ref aS3, .ref aS4, .ref aS5, .ref aS6, .int 0, .ref aO1, .ref aO2, .ref aO3, .ref aO4, .ref aO5]))) (f_aTa : h aTa = some (.inl ((t 2), 30, .inl gTa))) (f_aAt : h aAt = some (.inl ((t 2), 700, .inl gAt))) (f_aLo : h aLo = some (.inl ((t 2), 700, .inl gLo))) (ne_aAt_aLo : aAt ≠ aLo) : Met l y_Mo_measure (.code y_Mo_measure b_Mo_measure 5 (some .int) :: lw_g) { frames := 2, cells := 0, slots := 0, locals := 52 } (hP (kE D t G ak av) D vwCl G h [.ref mo, .int 0]) (hQi D vwCl G (fun r h' => r = 22 ∧ kp [mo, aTa, aAt, aLo] h h' ∧ h' mo = some (.inr (9, [.int 0, .int (nI n), .int 0, .ref aBy, .ref aSt, .ref aDe, .int 0, .int (-1), .int wt, .ref aPa, .int 1, .ref aIt, .ref aId, .ref aPr, .ref aNa, .ref aSi, .ref aSe, .ref aIw, .ref aEx, .ref aOl, .int 0, .ref aPl, .int 1, .int 0, .ref aTa, .ref aAt, .ref aLo, .int 0, .int 0, .ref aS1, .ref aS2, .ref aS3, .ref aS4, .ref aS5, .ref aS6, .int 0, .ref aO1, .ref aO2, .ref aO3, .ref aO4, .ref aO5])) ∧ ∃ gTa gAt gLo : Nat → Int32, h' aTa = some (.inl ((t 2), 30, .inl gTa)) ∧ h' aAt = some (.inl ((t 2), 700, .inl gAt)) ∧ h' aLo = some (.inl ((t 2), 700, .inl gLo)) ∧ gTa 0 = 0 ∧ gAt 0 = 20)) 0 0 G.P := by
  refine Met.ofW (cc := b_Mo_measure) (maxL := 5) (ret := (some .int)) (by decide) rfl ?_
  intro p e s m args below meth c s₁ Bd hml hv
  obtain ⟨ha, hE, hH⟩ := hv
  have hx := Bd.exec
  have hb := Bd.bytes
  have hr := Bd.returns
  have hts : ∀ w ∈ lw_g, w.before args s = true := fun w hw => atoms_spec (ws := (.code y_Mo_measure b_Mo_measure 5 (some .int) :: lw_g)) Bd.pre w (List.mem_cons_of_mem _ hw)
  have hown : s.vm.findClass R_Mo = some m.cls := findClass_of_methodNamed Bd.named
  have hlocks := Bd.notSynchronized
  have hK := hE.1
  have hH0 := hH
  have hLo : hLc G.P [] := hLc_nil
  have hz : s.heap.size ≤ s.heap.size := Nat.le_refl _
  have hkp : kp [mo, aTa, aAt, aLo] h h := kp_rf
  have hl := lv_entry [.ref mo, .int 0] (n := 5) (Nat.le_of_ble_eq_true rfl)
  rw [show entryFrame m args 5 = F0 m 0 ((lg_sl [.ref mo, .int 0] ++ List.replicate (5 - (lg_sl [.ref mo, .int 0]).length) Slot.unset).toArray) [] from (by rw [ha]; exact lg_entry_eq m [.ref mo, .int 0] 5)]
  generalize (lg_sl [.ref mo, .int 0] ++ List.replicate (5 - (lg_sl [.ref mo, .int 0]).length) Slot.unset).toArray = ls at hl ⊢
  have hl : lv_has ls 5 [(0, .ref mo), (1, .int 0)] := hl
  refine lv_aload_n hx hb d_Mo_measure_0 rfl (lv_at hl 0 rfl) ?_
  refine hm_callv (va_runV (As := []) (b := mo) (rest := []) ⟨hx, hb, hml, hown, hts⟩ (c_m_tables l D t G ak av h mo n aBy aSt aDe aPa aIt aId aPr aNa aSi aSe aIw aEx aOl aPl aTa aAt aLo aS1 aS2 aS3 aS4 aS5 aS6 aO1 aO2 aO3 aO4 aO5 dr wt gTa f_m f_aTa) ⟨cw9B 0 hts mw_516 mw_517 mw_428 rfl rfl (by decide +kernel) ⟨Nat.le_of_ble_eq_true rfl, Nat.le_of_ble_eq_true rfl⟩, hts _ mw_518, hts _ mw_519⟩ (hP_V (q := (R_Mo, F_Mo, 41)) kE_ok hE hK hH f_m rfl) rfl rfl hl.1 rfl (lv_room (Nat.le_of_ble_eq_true rfl)) d_Mo_measure_1 ⟨Nat.le_of_ble_eq_true rfl, Nat.le_of_ble_eq_true rfl⟩) hLo (fun h1 H2 locs hp4 hH z3 hLo => ?_)
  have hz : s.heap.size ≤ H2.size := Nat.le_trans hz z3
  obtain ⟨hk9, hm9, gT, hg9, hta⟩ := hp4
  have f_aAt : h1 aAt = some (.inl ((t 2), 700, .inl gAt)) := kp_at hk9 f_aAt (nmc (h_neA f_aAt f_m) (nmc (h_neL (k1 := 700) (k2 := 30) f_aAt f_aTa rfl rfl (by omega)) nm0))
  have f_aLo : h1 aLo = some (.inl ((t 2), 700, .inl gLo)) := kp_at hk9 f_aLo (nmc (h_neA f_aLo f_m) (nmc (h_neL (k1 := 700) (k2 := 30) f_aLo f_aTa rfl rfl (by omega)) nm0))
  have hkp : kp [mo, aTa, aAt, aLo] h h1 := kp_tr2 hkp hk9 (List.forall_mem_cons.mpr ⟨Or.inl (by simp), List.forall_mem_cons.mpr ⟨Or.inl (by simp), List.forall_mem_nil _⟩⟩)
  have f_m : h1 mo = some (.inr (9, [.int 0, .int (nI n), .int 0, .ref aBy, .ref aSt, .ref aDe, .int 0, .int (-1), .int wt, .ref aPa, .int 1, .ref aIt, .ref aId, .ref aPr, .ref aNa, .ref aSi, .ref aSe, .ref aIw, .ref aEx, .ref aOl, .int 0, .ref aPl, .int 1, .int 0, .ref aTa, .ref aAt, .ref aLo, .int 0, .int 0, .ref aS1, .ref aS2, .ref aS3, .ref aS4, .ref aS5, .ref aS6, .int 0, .ref aO1, .ref aO2, .ref aO3, .ref aO4, .ref aO5])) := hm9
  have f_aTa : h1 aTa = some (.inl ((t 2), 30, .inl gT)) := hg9
  refine lv_iload_n hx hb d_Mo_measure_4 rfl (lv_at hl 1 rfl) ?_
  refine lv_bipush (v := 20) hx hb d_Mo_measure_5 (by decide) ?_
  refine lv_iadd hx hb d_Mo_measure_7 ?_
  refine lv_topi (fun v5 e6 => ?_)
  obtain rfl : v5 = 20 := e6.trans (by decide)
  refine lv_istore_n (lv' := [(2, .int 20), (0, .ref mo), (1, .int 0)]) hx hb d_Mo_measure_8 rfl hl (by decide) rfl (fun ls hl => ?_)
  refine lv_iconst (v := 0) hx hb d_Mo_measure_9 (by decide) ?_
  refine lv_istore_n (lv' := [(3, .int 0), (2, .int 20), (0, .ref mo), (1, .int 0)]) hx hb d_Mo_measure_10 rfl hl (by decide) rfl (fun ls hl => ?_)
  refine lv_iload_n hx hb d_Mo_measure_11 rfl (lv_at hl 0 rfl) ?_
  refine lv_aload_n hx hb d_Mo_measure_12 rfl (lv_at hl 2 rfl) ?_
  refine hm_get (ci := 9) (v := .int 1) (C := R_Mo) (T := F_Mo) (N := 41) hx hb hts ig_Mo hown hK hH f_m rfl 22 (by decide) (hts _ mw_515) (fun _ h9 => h9) rfl d_Mo_measure_13 ?_
  refine lv_icmp_ge (tgt := 74) hx hb d_Mo_measure_16 (by decide) (fun hc7 => absurd hc7 (by decide)) (fun hc7 => ?_)
  refine lv_aload_n hx hb d_Mo_measure_19 rfl (lv_at hl 2 rfl) ?_
  refine hm_get (ci := 9) (v := .ref aTa) (C := R_Mo) (T := F_Mo) (N := 41) hx hb hts ig_Mo hown hK hH f_m rfl 24 (by decide) (hts _ mw_411) (fun _ h9 => h9) rfl d_Mo_measure_20 ?_
  refine lv_iload_n hx hb d_Mo_measure_23 rfl (lv_at hl 0 rfl) ?_
  refine hj_iald hx hb hK hH 2 f_aTa rfl 0 (by decide) (by decide) (by decide) d_Mo_measure_24 ?_
  refine lv_topi (fun v8 e9 => ?_)
  obtain rfl : v8 = 0 := e9.trans (hta)
  refine lv_istore (lv' := [(4, .int 0), (3, .int 0), (2, .int 20), (0, .ref mo), (1, .int 0)]) hx hb d_Mo_measure_25 hl (by decide) rfl (fun ls hl => ?_)
  refine lv_aload_n hx hb d_Mo_measure_27 rfl (lv_at hl 3 rfl) ?_
  refine hm_get (ci := 9) (v := .ref aAt) (C := R_Mo) (T := F_Mo) (N := 41) hx hb hts ig_Mo hown hK hH f_m rfl 25 (by decide) (hts _ mw_412) (fun _ h9 => h9) rfl d_Mo_measure_28 ?_
  refine lv_iload hx hb d_Mo_measure_31 (lv_at hl 0 rfl) ?_
  refine lv_iload_n hx hb d_Mo_measure_33 rfl (lv_at hl 2 rfl) ?_
  refine hj_iast hx hb hK hH hLo 2 f_aAt rfl 0 (by decide) (by decide) (by decide) d_Mo_measure_34 (fun H10 locs hH z11 hLo => ?_)
  have hz : s.heap.size ≤ H10.size := by rw [z11]; exact hz
  obtain ⟨h12, e13⟩ : ∃ z, z = hu h1 aAt (.inl ((t 2), 700, .inl (upd gAt 0 20))) := ⟨_, rfl⟩
  have hH : hm D vwCl G h12 H10 := by rw [e13]; exact hH
  have f_m : h12 mo = some (.inr (9, [.int 0, .int (nI n), .int 0, .ref aBy, .ref aSt, .ref aDe, .int 0, .int (-1), .int wt, .ref aPa, .int 1, .ref aIt, .ref aId, .ref aPr, .ref aNa, .ref aSi, .ref aSe, .ref aIw, .ref aEx, .ref aOl, .int 0, .ref aPl, .int 1, .int 0, .ref aTa, .ref aAt, .ref aLo, .int 0, .int 0, .ref aS1, .ref aS2, .ref aS3, .ref aS4, .ref aS5, .ref aS6, .int 0, .ref aO1, .ref aO2, .ref aO3, .ref aO4, .ref aO5])) := by rw [e13, hu_n (Ne.symm (h_neA f_aAt f_m))]; exact f_m
  have f_aTa : h12 aTa = some (.inl ((t 2), 30, .inl gT)) := by rw [e13, hu_n (h_neL (k1 := 30) (k2 := 700) f_aTa f_aAt rfl rfl (by omega))]; exact f_aTa
  have f_aLo : h12 aLo = some (.inl ((t 2), 700, .inl gLo)) := by rw [e13, hu_n (Ne.symm ne_aAt_aLo)]; exact f_aLo
  have f_aAt : h12 aAt = some (.inl ((t 2), 700, .inl (upd gAt 0 20))) := by rw [e13]; exact hu_s _ _ _
  have hkp : kp [mo, aTa, aAt, aLo] h h12 := by rw [e13]; exact kp_put hkp (by simp)
  refine lv_aload_n hx hb d_Mo_measure_35 rfl (lv_at hl 3 rfl) ?_
  refine hm_get (ci := 9) (v := .ref aLo) (C := R_Mo) (T := F_Mo) (N := 41) hx hb hts ig_Mo hown hK hH f_m rfl 26 (by decide) (hts _ mw_413) (fun _ h9 => h9) rfl d_Mo_measure_36 ?_
  refine lv_iload hx hb d_Mo_measure_39 (lv_at hl 0 rfl) ?_
  refine lv_aload_n hx hb d_Mo_measure_41 rfl (lv_at hl 3 rfl) ?_
  refine lv_iload hx hb d_Mo_measure_42 (lv_at hl 0 rfl) ?_
  refine lv_iconst (v := 0) hx hb d_Mo_measure_44 (by decide) ?_
  refine lv_iconst (v := 0) hx hb d_Mo_measure_45 (by decide) ?_
  refine hm_calli (va_runV (As := [.int 0, .int 0, .int 0]) (b := mo) (rest := [.int 0, .ref aLo]) ⟨hx, hb, hml, hown, hts⟩ (c_m_along0 l D t G ak av h12 mo n aBy aSt aDe aPa aIt aId aPr aNa aSi aSe aIw aEx aOl aPl aTa aAt aLo aS1 aS2 aS3 aS4 aS5 aS6 aO1 aO2 aO3 aO4 aO5 1 wt f_m) ⟨cw9B 3 hts mw_520 mw_521 mw_428 rfl rfl (by decide +kernel) ⟨Nat.le_of_ble_eq_true rfl, Nat.le_of_ble_eq_true rfl⟩, hts _ mw_522, hts _ mw_523⟩ (hP_V (q := (R_Mo, F_Mo, 41)) kE_ok hE hK hH f_m rfl) rfl rfl hl.1 rfl (lv_room (Nat.le_of_ble_eq_true rfl)) d_Mo_measure_46 ⟨Nat.le_of_ble_eq_true rfl, Nat.le_of_ble_eq_true rfl⟩) hLo (fun r14 h15 H16 locs hp18 hH z17 hLo => ?_)
  have hz : s.heap.size ≤ H16.size := Nat.le_trans hz z17
  obtain ⟨rfl, rfl⟩ := hp18
  refine lv_sipush (v := 2047) hx hb d_Mo_measure_49 (by decide) ?_
  refine lv_iadd hx hb d_Mo_measure_52 ?_
  refine lv_sipush (v := 2048) hx hb d_Mo_measure_53 (by decide) ?_
  refine lv_idiv hx hb d_Mo_measure_56 (by decide) ?_
  refine lv_topi (fun v19 e20 => ?_)
  obtain rfl : v19 = 1 := e20.trans (by decide)
  refine hj_iast hx hb hK hH hLo 2 f_aLo rfl 0 (by decide) (by decide) (by decide) d_Mo_measure_57 (fun H21 locs hH z22 hLo => ?_)
  have hz : s.heap.size ≤ H21.size := by rw [z22]; exact hz
  obtain ⟨h23, e24⟩ : ∃ z, z = hu h12 aLo (.inl ((t 2), 700, .inl (upd gLo 0 1))) := ⟨_, rfl⟩
  have hH : hm D vwCl G h23 H21 := by rw [e24]; exact hH
  have f_m : h23 mo = some (.inr (9, [.int 0, .int (nI n), .int 0, .ref aBy, .ref aSt, .ref aDe, .int 0, .int (-1), .int wt, .ref aPa, .int 1, .ref aIt, .ref aId, .ref aPr, .ref aNa, .ref aSi, .ref aSe, .ref aIw, .ref aEx, .ref aOl, .int 0, .ref aPl, .int 1, .int 0, .ref aTa, .ref aAt, .ref aLo, .int 0, .int 0, .ref aS1, .ref aS2, .ref aS3, .ref aS4, .ref aS5, .ref aS6, .int 0, .ref aO1, .ref aO2, .ref aO3, .ref aO4, .ref aO5])) := by rw [e24, hu_n (Ne.symm (h_neA f_aLo f_m))]; exact f_m
  have f_aTa : h23 aTa = some (.inl ((t 2), 30, .inl gT)) := by rw [e24, hu_n (h_neL (k1 := 30) (k2 := 700) f_aTa f_aLo rfl rfl (by omega))]; exact f_aTa
  have f_aAt : h23 aAt = some (.inl ((t 2), 700, .inl (upd gAt 0 20))) := by rw [e24, hu_n ne_aAt_aLo]; exact f_aAt
  have f_aLo : h23 aLo = some (.inl ((t 2), 700, .inl (upd gLo 0 1))) := by rw [e24]; exact hu_s _ _ _
  have hkp : kp [mo, aTa, aAt, aLo] h h23 := by rw [e24]; exact kp_put hkp (by simp)
  refine lv_iload_n hx hb d_Mo_measure_58 rfl (lv_at hl 2 rfl) ?_
  refine lv_aload_n hx hb d_Mo_measure_59 rfl (lv_at hl 3 rfl) ?_
  refine hm_get (ci := 9) (v := .ref aLo) (C := R_Mo) (T := F_Mo) (N := 41) hx hb hts ig_Mo hown hK hH f_m rfl 26 (by decide) (hts _ mw_413) (fun _ h9 => h9) rfl d_Mo_measure_60 ?_
  refine lv_iload hx hb d_Mo_measure_63 (lv_at hl 0 rfl) ?_
  refine hj_iald hx hb hK hH 2 f_aLo rfl 0 (by decide) (by decide) (by decide) d_Mo_measure_65 ?_
  refine lv_topi (fun v25 e26 => ?_)
  obtain rfl : v25 = 1 := e26.trans (upd0 _ _ rfl)
  refine lv_iadd hx hb d_Mo_measure_66 ?_
  refine lv_topi (fun v27 e28 => ?_)
  obtain rfl : v27 = 21 := e28.trans (by decide)
  refine lv_istore_n (lv' := [(2, .int 21), (4, .int 0), (3, .int 0), (0, .ref mo), (1, .int 0)]) hx hb d_Mo_measure_67 rfl hl (by decide) rfl (fun ls hl => ?_)
  refine lv_iinc (v := 0 + 1) (lv' := [(3, .int (0 + 1)), (2, .int 21), (4, .int 0), (0, .ref mo), (1, .int 0)]) hx hb d_Mo_measure_68 hl (k := 2) rfl (by rfl) (by decide) rfl (fun ls hl => ?_)
  refine lv_goto (tgt := 11) hx hb d_Mo_measure_71 (by decide) ?_
  refine lv_iload_n hx hb d_Mo_measure_11 rfl (lv_at hl 0 rfl) ?_
  refine lv_aload_n hx hb d_Mo_measure_12 rfl (lv_at hl 3 rfl) ?_
  refine hm_get (ci := 9) (v := .int 1) (C := R_Mo) (T := F_Mo) (N := 41) hx hb hts ig_Mo hown hK hH f_m rfl 22 (by decide) (hts _ mw_515) (fun _ h9 => h9) rfl d_Mo_measure_13 ?_
  refine lv_icmp_ge (tgt := 74) hx hb d_Mo_measure_16 (by decide) (fun hc29 => ?_) (fun hc29 => absurd (by decide) hc29)
  refine lv_iload_n hx hb d_Mo_measure_74 rfl (lv_at hl 1 rfl) ?_
  refine lv_iconst (v := 1) hx hb d_Mo_measure_75 (by decide) ?_
  refine lv_iadd hx hb d_Mo_measure_76 ?_
  refine lv_iload_n hx hb d_Mo_measure_77 rfl (lv_at hl 4 rfl) ?_
  refine lv_isub hx hb d_Mo_measure_78 ?_
  exact W.iret (v := (21 + 1) - 0) hx hb hr (fun t9 ht hW => ⟨(21 + 1) - 0, h23, rfl, ⟨by decide, hkp, f_m, _, _, _, f_aTa, f_aAt, f_aLo, hta, upd0 _ _ rfl⟩, by rw [ht]; exact hH, by rw [ht]; exact hz⟩) hLo d_Mo_measure_79
