set_option maxRecDepth 100000 in
theorem mw_608 : Cond.code y_Di_mark b_Di_mark 4 (some .int) ∈ lw_g := lw_gin (List.mem_append_right _ (List.mem_of_getElem? (i := 806) rfl)) (by decide +kernel)
set_option maxRecDepth 100000 in
theorem mw_609 : Cond.methodLink R_La 7 y_Di_mark ∈ lw_g := lw_gin (List.mem_append_right _ (List.mem_of_getElem? (i := 803) rfl)) (by decide +kernel)
set_option maxRecDepth 100000 in
theorem mw_610 : Cond.instanceMethod y_Di_mark ∈ lw_g := lw_gin (List.mem_append_right _ (List.mem_of_getElem? (i := 804) rfl)) (by decide +kernel)
set_option maxRecDepth 100000 in
theorem mw_611 : Cond.selects R_Di y_Di_mark y_Di_mark ∈ lw_g := lw_gin (List.mem_append_right _ (List.mem_of_getElem? (i := 805) rfl)) (by decide +kernel)
set_option maxRecDepth 100000 in
theorem mw_612 : Cond.classLink R_La 13 "java/util/NoSuchElementException" ∈ lw_g := lw_gin (List.mem_append_right _ (List.mem_of_getElem? (i := 802) rfl)) (by decide +kernel)
set_option maxRecDepth 100000 in
theorem mw_613 : Cond.code y_Di_node b_Di_node 4 (some .int) ∈ lw_g := lw_gin (List.mem_append_right _ (List.mem_of_getElem? (i := 874) rfl)) (by decide +kernel)
set_option maxRecDepth 100000 in
theorem mw_614 : Cond.methodLink R_La 15 y_Di_node ∈ lw_g := lw_gin (List.mem_append_right _ (List.mem_of_getElem? (i := 871) rfl)) (by decide +kernel)
set_option maxRecDepth 100000 in
theorem mw_615 : Cond.instanceMethod y_Di_node ∈ lw_g := lw_gin (List.mem_append_right _ (List.mem_of_getElem? (i := 872) rfl)) (by decide +kernel)
set_option maxRecDepth 100000 in
theorem mw_616 : Cond.selects R_Di y_Di_node y_Di_node ∈ lw_g := lw_gin (List.mem_append_right _ (List.mem_of_getElem? (i := 873) rfl)) (by decide +kernel)
set_option maxRecDepth 100000 in
theorem mw_617 : Cond.code y_Di_name b_Di_name 3 (some .long) ∈ lw_g := lw_gin (List.mem_append_right _ (List.mem_of_getElem? (i := 890) rfl)) (by decide +kernel)
set_option maxRecDepth 100000 in
theorem mw_618 : Cond.methodLink R_La 18 y_Di_name ∈ lw_g := lw_gin (List.mem_append_right _ (List.mem_of_getElem? (i := 887) rfl)) (by decide +kernel)
set_option maxRecDepth 100000 in
theorem mw_619 : Cond.instanceMethod y_Di_name ∈ lw_g := lw_gin (List.mem_append_right _ (List.mem_of_getElem? (i := 888) rfl)) (by decide +kernel)
set_option maxRecDepth 100000 in
theorem mw_620 : Cond.selects R_Di y_Di_name y_Di_name ∈ lw_g := lw_gin (List.mem_append_right _ (List.mem_of_getElem? (i := 889) rfl)) (by decide +kernel)
set_option maxRecDepth 100000 in
theorem mw_621 : Cond.code y_Di_read b_Di_read 4 (some .int) ∈ lw_g := lw_gin (List.mem_append_right _ (List.mem_of_getElem? (i := 897) rfl)) (by decide +kernel)
set_option maxRecDepth 100000 in
theorem mw_622 : Cond.methodLink R_La 22 y_Di_read ∈ lw_g := lw_gin (List.mem_append_right _ (List.mem_of_getElem? (i := 894) rfl)) (by decide +kernel)
set_option maxRecDepth 100000 in
theorem mw_623 : Cond.instanceMethod y_Di_read ∈ lw_g := lw_gin (List.mem_append_right _ (List.mem_of_getElem? (i := 895) rfl)) (by decide +kernel)
set_option maxRecDepth 100000 in
theorem mw_624 : Cond.selects R_Di y_Di_read y_Di_read ∈ lw_g := lw_gin (List.mem_append_right _ (List.mem_of_getElem? (i := 896) rfl)) (by decide +kernel)
set_option maxRecDepth 100000 in
theorem mw_625 : Cond.code y_Di_tree b_Di_tree 4 (some .int) ∈ lw_g := lw_gin (List.mem_append_right _ (List.mem_of_getElem? (i := 904) rfl)) (by decide +kernel)
set_option maxRecDepth 100000 in
theorem mw_626 : Cond.methodLink R_La 25 y_Di_tree ∈ lw_g := lw_gin (List.mem_append_right _ (List.mem_of_getElem? (i := 901) rfl)) (by decide +kernel)
set_option maxRecDepth 100000 in
theorem mw_627 : Cond.instanceMethod y_Di_tree ∈ lw_g := lw_gin (List.mem_append_right _ (List.mem_of_getElem? (i := 902) rfl)) (by decide +kernel)
set_option maxRecDepth 100000 in
theorem mw_628 : Cond.selects R_Di y_Di_tree y_Di_tree ∈ lw_g := lw_gin (List.mem_append_right _ (List.mem_of_getElem? (i := 903) rfl)) (by decide +kernel)
theorem d_La_mark_0 : decode b_La_mark 0 = .ok (.aload_n 3, 1) := by decide +kernel
theorem d_La_mark_1 : decode b_La_mark 1 = .ok (.iconst 0, 1) := by decide +kernel
theorem d_La_mark_2 : decode b_La_mark 2 = .ok (.aload_n 0, 1) := by decide +kernel
theorem d_La_mark_3 : decode b_La_mark 3 = .ok (.iload_n 1, 1) := by decide +kernel
theorem d_La_mark_4 : decode b_La_mark 4 = .ok (.iload_n 2, 1) := by decide +kernel
theorem d_La_mark_5 : decode b_La_mark 5 = .ok (.invokevirtual 7, 3) := by decide +kernel
theorem d_La_mark_13 : decode b_La_mark 13 = .ok (.astore 4, 2) := by decide +kernel
theorem d_La_mark_15 : decode b_La_mark 15 = .ok (.iconst 1, 1) := by decide +kernel
theorem d_La_mark_16 : decode b_La_mark 16 = .ok (.ireturn, 1) := by decide +kernel
theorem d_La_node_0 : decode b_La_node 0 = .ok (.aload_n 3, 1) := by decide +kernel
theorem d_La_node_1 : decode b_La_node 1 = .ok (.iconst 0, 1) := by decide +kernel
theorem d_La_node_2 : decode b_La_node 2 = .ok (.aload_n 0, 1) := by decide +kernel
theorem d_La_node_3 : decode b_La_node 3 = .ok (.iload_n 1, 1) := by decide +kernel
theorem d_La_node_4 : decode b_La_node 4 = .ok (.iload_n 2, 1) := by decide +kernel
theorem d_La_node_5 : decode b_La_node 5 = .ok (.invokevirtual 15, 3) := by decide +kernel
theorem d_La_node_13 : decode b_La_node 13 = .ok (.astore 4, 2) := by decide +kernel
theorem d_La_node_15 : decode b_La_node 15 = .ok (.iconst 1, 1) := by decide +kernel
theorem d_La_node_16 : decode b_La_node 16 = .ok (.ireturn, 1) := by decide +kernel
theorem d_La_name_0 : decode b_La_name 0 = .ok (.aload_n 2, 1) := by decide +kernel
theorem d_La_name_1 : decode b_La_name 1 = .ok (.iconst 0, 1) := by decide +kernel
theorem d_La_name_2 : decode b_La_name 2 = .ok (.aload_n 0, 1) := by decide +kernel
theorem d_La_name_3 : decode b_La_name 3 = .ok (.iload_n 1, 1) := by decide +kernel
theorem d_La_name_4 : decode b_La_name 4 = .ok (.invokevirtual 18, 3) := by decide +kernel
theorem d_La_name_11 : decode b_La_name 11 = .ok (.astore_n 3, 1) := by decide +kernel
theorem d_La_name_12 : decode b_La_name 12 = .ok (.iconst 1, 1) := by decide +kernel
theorem d_La_name_13 : decode b_La_name 13 = .ok (.ireturn, 1) := by decide +kernel
theorem d_La_read_0 : decode b_La_read 0 = .ok (.aload_n 3, 1) := by decide +kernel
theorem d_La_read_1 : decode b_La_read 1 = .ok (.iconst 0, 1) := by decide +kernel
theorem d_La_read_2 : decode b_La_read 2 = .ok (.aload_n 0, 1) := by decide +kernel
theorem d_La_read_3 : decode b_La_read 3 = .ok (.iload_n 1, 1) := by decide +kernel
theorem d_La_read_4 : decode b_La_read 4 = .ok (.iload_n 2, 1) := by decide +kernel
theorem d_La_read_5 : decode b_La_read 5 = .ok (.invokevirtual 22, 3) := by decide +kernel
theorem d_La_read_13 : decode b_La_read 13 = .ok (.astore 4, 2) := by decide +kernel
theorem d_La_read_15 : decode b_La_read 15 = .ok (.iconst 1, 1) := by decide +kernel
theorem d_La_read_16 : decode b_La_read 16 = .ok (.ireturn, 1) := by decide +kernel
theorem d_La_tree_0 : decode b_La_tree 0 = .ok (.aload_n 3, 1) := by decide +kernel
theorem d_La_tree_1 : decode b_La_tree 1 = .ok (.iconst 0, 1) := by decide +kernel
theorem d_La_tree_2 : decode b_La_tree 2 = .ok (.aload_n 0, 1) := by decide +kernel
theorem d_La_tree_3 : decode b_La_tree 3 = .ok (.iload_n 1, 1) := by decide +kernel
theorem d_La_tree_4 : decode b_La_tree 4 = .ok (.iload_n 2, 1) := by decide +kernel
theorem d_La_tree_5 : decode b_La_tree 5 = .ok (.invokevirtual 25, 3) := by decide +kernel
theorem d_La_tree_13 : decode b_La_tree 13 = .ok (.astore 4, 2) := by decide +kernel
theorem d_La_tree_15 : decode b_La_tree 15 = .ok (.iconst 1, 1) := by decide +kernel
theorem d_La_tree_16 : decode b_La_tree 16 = .ok (.ireturn, 1) := by decide +kernel
theorem d_La_tree_8 : decode b_La_tree 8 = .ok (.i2l, 1) := by decide +kernel
theorem d_La_tree_9 : decode b_La_tree 9 = .ok (.lastore, 1) := by decide +kernel
theorem d_La_tree_10 : decode b_La_tree 10 = .ok (.goto 7, 3) := by decide +kernel
theorem d_La_tree_17 : decode b_La_tree 17 = .ok (.iconst 0, 1) := by decide +kernel
theorem d_La_tree_18 : decode b_La_tree 18 = .ok (.ireturn, 1) := by decide +kernel
set_option maxHeartbeats 4000000 in
set_option maxRecDepth 100000 in
theorem c_l_mark (l : Launch) (D : va_G) (t : Nat → ClassId) (G : hG) (ak av : Nat → Nat) (h : hM) (hfl : l.flags = flags0) (x n ou : Nat) (i9 w9 : Int32) (hX : FrX t h x n) : Met l y_La_mark (Cond.codeWith y_La_mark b_La_mark 5 (some .int) [(0, 10, 13, 13)] :: lw_g) { frames := 7, cells := 1, slots := 6, locals := 113 } (hP (kF D t G ak av) D vwCl G h [.ref x, .int i9, .int w9, .ref ou]) (hQi D vwCl G (fun r h' => r = 1 ∧ h = h')) 1 6 G.P := by
  refine va_MetW (cc := b_La_mark) (maxL := 5) (ret := (some .int)) (by decide) rfl ?_
  intro p e s m args below meth c s₁ Bd hml hv
  obtain ⟨m9, meth9, c9, n1, n2, n3, -, -, n4, -⟩ := Cond.codeWith_spec (atoms_spec (ws := (Cond.codeWith y_La_mark b_La_mark 5 (some .int) [(0, 10, 13, 13)] :: lw_g)) Bd.pre _ List.mem_cons_self)
  cases Bd.named.symm.trans n1
  cases Bd.method.symm.trans n2
  cases (Stand.of_body Bd).code.symm.trans n3
  obtain ⟨tx, htab, tx1, tx2, tx3, tx4⟩ := tab1 n4
  obtain ⟨ha, ⟨hE, hE1⟩, hH⟩ := hv
  have hx := Bd.exec
  have hb := Bd.bytes
  have hr := Bd.returns
  have hts : ∀ w ∈ lw_g, w.before args s = true := fun w hw => atoms_spec (ws := (Cond.codeWith y_La_mark b_La_mark 5 (some .int) [(0, 10, 13, 13)] :: lw_g)) Bd.pre w (List.mem_cons_of_mem _ hw)
  have hown : s.vm.findClass R_La = some m.cls := findClass_of_methodNamed Bd.named
  have hlocks := Bd.notSynchronized
  have hK := hE.1
  have hH0 := hH
  have hLo : hLc G.P [] := hLc_nil
  have hz : s.heap.size ≤ s.heap.size := Nat.le_refl _
  have hkp : kp [] h h := kp_rf
  have hl := lv_entry [.ref x, .int i9, .int w9, .ref ou] (n := 5) (Nat.le_of_ble_eq_true rfl)
  rw [show entryFrame m args 5 = F0 m 0 ((lg_sl [.ref x, .int i9, .int w9, .ref ou] ++ List.replicate (5 - (lg_sl [.ref x, .int i9, .int w9, .ref ou]).length) Slot.unset).toArray) [] from (by rw [ha]; exact lg_entry_eq m [.ref x, .int i9, .int w9, .ref ou] 5)]
  generalize (lg_sl [.ref x, .int i9, .int w9, .ref ou] ++ List.replicate (5 - (lg_sl [.ref x, .int i9, .int w9, .ref ou]).length) Slot.unset).toArray = ls at hl ⊢
  have hl : lv_has ls 5 [(0, .ref x), (1, .int i9), (2, .int w9), (3, .ref ou)] := hl
  have hX0 := hX
  obtain ⟨wr, rd, ns, op, sr, md, su, pg, pb, sl, od, sa, fs, g, fa, f_x, f_wr, f_su, f_pg, f_pb, f_ns, f_sl, f_od, hgf, hnd, f_md, f_sa, hrow, ne_sl_od, hn40, hn⟩ := hX
  refine lv_aload_n hx hb d_La_mark_0 rfl (lv_at hl 3 rfl) ?_
  refine lv_iconst (v := 0) hx hb d_La_mark_1 (by decide) ?_
  refine lv_aload_n hx hb d_La_mark_2 rfl (lv_at hl 0 rfl) ?_
  refine lv_iload_n hx hb d_La_mark_3 rfl (lv_at hl 1 rfl) ?_
  refine lv_iload_n hx hb d_La_mark_4 rfl (lv_at hl 2 rfl) ?_
  refine hm_callT (As := [.int i9, .int w9]) (b := x) (rest := [.int 0, .ref ou]) ⟨hx, hb, hml, hown, hts⟩ (c_x_markT l D t G ak av h hfl x n i9 w9 hX0) ⟨cw9B 2 hts mw_608 mw_609 mw_121 rfl rfl (by decide +kernel) ⟨Nat.le_of_ble_eq_true rfl, Nat.le_of_ble_eq_true rfl⟩, hts _ mw_610, hts _ mw_611⟩ (hP_V (q := (R_Di, F_Di, 9)) kF_ok ⟨hE, hE1⟩ hK hH f_x rfl) rfl hl.1 (Nat.le_of_ble_eq_true rfl) d_La_mark_5 ⟨Nat.le_of_ble_eq_true rfl, Nat.le_of_ble_eq_true rfl⟩ htab (by simp [covers, tx1, tx2]) (by rw [tx4]; decide) (by rw [tx4]; exact hts _ mw_612) (va_Nw.use rfl hE1.2.2.2.1) (fun q1 H2 z3 o4 => ?_)
  rw [tx3]
  have hH := hH.ext z3 o4
  have hz : s.heap.size ≤ H2.size := Nat.le_trans hz z3
  refine lv_astore (lv' := [(4, .ref q1), (0, .ref x), (1, .int i9), (2, .int w9), (3, .ref ou)]) hx hb d_La_mark_13 hl (by decide) rfl (fun ls hl => ?_)
  refine lv_iconst (v := 1) hx hb d_La_mark_15 (by decide) ?_
  exact W.iret (v := 1) hx hb hr (fun t9 ht hW => ⟨1, h, rfl, ⟨rfl, rfl⟩, by rw [ht]; exact hH, by rw [ht]; exact hz⟩) hLo d_La_mark_16

set_option maxHeartbeats 4000000 in
set_option maxRecDepth 100000 in
theorem c_l_node (l : Launch) (D : va_G) (t : Nat → ClassId) (G : hG) (ak av : Nat → Nat) (h : hM) (hfl : l.flags = flags0) (x n ou : Nat) (k9 w9 : Int32) (hX : FrX t h x n) : Met l y_La_node (Cond.codeWith y_La_node b_La_node 5 (some .int) [(0, 10, 13, 13)] :: lw_g) { frames := 7, cells := 1, slots := 6, locals := 113 } (hP (kF D t G ak av) D vwCl G h [.ref x, .int k9, .int w9, .ref ou]) (hQi D vwCl G (fun r h' => r = 1 ∧ h = h')) 1 6 G.P := by
  refine va_MetW (cc := b_La_node) (maxL := 5) (ret := (some .int)) (by decide) rfl ?_
  intro p e s m args below meth c s₁ Bd hml hv
  obtain ⟨m9, meth9, c9, n1, n2, n3, -, -, n4, -⟩ := Cond.codeWith_spec (atoms_spec (ws := (Cond.codeWith y_La_node b_La_node 5 (some .int) [(0, 10, 13, 13)] :: lw_g)) Bd.pre _ List.mem_cons_self)
  cases Bd.named.symm.trans n1
  cases Bd.method.symm.trans n2
  cases (Stand.of_body Bd).code.symm.trans n3
  obtain ⟨tx, htab, tx1, tx2, tx3, tx4⟩ := tab1 n4
  obtain ⟨ha, ⟨hE, hE1⟩, hH⟩ := hv
  have hx := Bd.exec
  have hb := Bd.bytes
  have hr := Bd.returns
  have hts : ∀ w ∈ lw_g, w.before args s = true := fun w hw => atoms_spec (ws := (Cond.codeWith y_La_node b_La_node 5 (some .int) [(0, 10, 13, 13)] :: lw_g)) Bd.pre w (List.mem_cons_of_mem _ hw)
  have hown : s.vm.findClass R_La = some m.cls := findClass_of_methodNamed Bd.named
  have hlocks := Bd.notSynchronized
  have hK := hE.1
  have hH0 := hH
  have hLo : hLc G.P [] := hLc_nil
  have hz : s.heap.size ≤ s.heap.size := Nat.le_refl _
  have hkp : kp [] h h := kp_rf
  have hl := lv_entry [.ref x, .int k9, .int w9, .ref ou] (n := 5) (Nat.le_of_ble_eq_true rfl)
  rw [show entryFrame m args 5 = F0 m 0 ((lg_sl [.ref x, .int k9, .int w9, .ref ou] ++ List.replicate (5 - (lg_sl [.ref x, .int k9, .int w9, .ref ou]).length) Slot.unset).toArray) [] from (by rw [ha]; exact lg_entry_eq m [.ref x, .int k9, .int w9, .ref ou] 5)]
  generalize (lg_sl [.ref x, .int k9, .int w9, .ref ou] ++ List.replicate (5 - (lg_sl [.ref x, .int k9, .int w9, .ref ou]).length) Slot.unset).toArray = ls at hl ⊢
  have hl : lv_has ls 5 [(0, .ref x), (1, .int k9), (2, .int w9), (3, .ref ou)] := hl
  have hX0 := hX
  obtain ⟨wr, rd, ns, op, sr, md, su, pg, pb, sl, od, sa, fs, g, fa, f_x, f_wr, f_su, f_pg, f_pb, f_ns, f_sl, f_od, hgf, hnd, f_md, f_sa, hrow, ne_sl_od, hn40, hn⟩ := hX
  refine lv_aload_n hx hb d_La_node_0 rfl (lv_at hl 3 rfl) ?_
  refine lv_iconst (v := 0) hx hb d_La_node_1 (by decide) ?_
  refine lv_aload_n hx hb d_La_node_2 rfl (lv_at hl 0 rfl) ?_
  refine lv_iload_n hx hb d_La_node_3 rfl (lv_at hl 1 rfl) ?_
  refine lv_iload_n hx hb d_La_node_4 rfl (lv_at hl 2 rfl) ?_
  refine hm_callT (As := [.int k9, .int w9]) (b := x) (rest := [.int 0, .ref ou]) ⟨hx, hb, hml, hown, hts⟩ (c_x_nodeT l D t G ak av h hfl x n k9 w9 hX0) ⟨cw9B 2 hts mw_613 mw_614 mw_121 rfl rfl (by decide +kernel) ⟨Nat.le_of_ble_eq_true rfl, Nat.le_of_ble_eq_true rfl⟩, hts _ mw_615, hts _ mw_616⟩ (hP_V (q := (R_Di, F_Di, 9)) kF_ok ⟨hE, hE1⟩ hK hH f_x rfl) rfl hl.1 (Nat.le_of_ble_eq_true rfl) d_La_node_5 ⟨Nat.le_of_ble_eq_true rfl, Nat.le_of_ble_eq_true rfl⟩ htab (by simp [covers, tx1, tx2]) (by rw [tx4]; decide) (by rw [tx4]; exact hts _ mw_612) (va_Nw.use rfl hE1.2.2.2.1) (fun q1 H2 z3 o4 => ?_)
  rw [tx3]
  have hH := hH.ext z3 o4
  have hz : s.heap.size ≤ H2.size := Nat.le_trans hz z3
  refine lv_astore (lv' := [(4, .ref q1), (0, .ref x), (1, .int k9), (2, .int w9), (3, .ref ou)]) hx hb d_La_node_13 hl (by decide) rfl (fun ls hl => ?_)
  refine lv_iconst (v := 1) hx hb d_La_node_15 (by decide) ?_
  exact W.iret (v := 1) hx hb hr (fun t9 ht hW => ⟨1, h, rfl, ⟨rfl, rfl⟩, by rw [ht]; exact hH, by rw [ht]; exact hz⟩) hLo d_La_node_16

set_option maxHeartbeats 4000000 in
set_option maxRecDepth 100000 in
theorem c_l_name (l : Launch) (D : va_G) (t : Nat → ClassId) (G : hG) (ak av : Nat → Nat) (h : hM) (hfl : l.flags = flags0) (x n ou : Nat) (k9 : Int32) (hX : FrX t h x n) : Met l y_La_name (Cond.codeWith y_La_name b_La_name 4 (some .int) [(0, 8, 11, 13)] :: lw_g) { frames := 7, cells := 1, slots := 6, locals := 112 } (hP (kF D t G ak av) D vwCl G h [.ref x, .int k9, .ref ou]) (hQi D vwCl G (fun r h' => r = 1 ∧ h = h')) 1 6 G.P := by
  refine va_MetW (cc := b_La_name) (maxL := 4) (ret := (some .int)) (by decide) rfl ?_
  intro p e s m args below meth c s₁ Bd hml hv
  obtain ⟨m9, meth9, c9, n1, n2, n3, -, -, n4, -⟩ := Cond.codeWith_spec (atoms_spec (ws := (Cond.codeWith y_La_name b_La_name 4 (some .int) [(0, 8, 11, 13)] :: lw_g)) Bd.pre _ List.mem_cons_self)
  cases Bd.named.symm.trans n1
  cases Bd.method.symm.trans n2
  cases (Stand.of_body Bd).code.symm.trans n3
  obtain ⟨tx, htab, tx1, tx2, tx3, tx4⟩ := tab1 n4
  obtain ⟨ha, ⟨hE, hE1⟩, hH⟩ := hv
  have hx := Bd.exec
  have hb := Bd.bytes
  have hr := Bd.returns
  have hts : ∀ w ∈ lw_g, w.before args s = true := fun w hw => atoms_spec (ws := (Cond.codeWith y_La_name b_La_name 4 (some .int) [(0, 8, 11, 13)] :: lw_g)) Bd.pre w (List.mem_cons_of_mem _ hw)
  have hown : s.vm.findClass R_La = some m.cls := findClass_of_methodNamed Bd.named
  have hlocks := Bd.notSynchronized
  have hK := hE.1
  have hH0 := hH
  have hLo : hLc G.P [] := hLc_nil
  have hz : s.heap.size ≤ s.heap.size := Nat.le_refl _
  have hkp : kp [] h h := kp_rf
  have hl := lv_entry [.ref x, .int k9, .ref ou] (n := 4) (Nat.le_of_ble_eq_true rfl)
  rw [show entryFrame m args 4 = F0 m 0 ((lg_sl [.ref x, .int k9, .ref ou] ++ List.replicate (4 - (lg_sl [.ref x, .int k9, .ref ou]).length) Slot.unset).toArray) [] from (by rw [ha]; exact lg_entry_eq m [.ref x, .int k9, .ref ou] 4)]
  generalize (lg_sl [.ref x, .int k9, .ref ou] ++ List.replicate (4 - (lg_sl [.ref x, .int k9, .ref ou]).length) Slot.unset).toArray = ls at hl ⊢
  have hl : lv_has ls 4 [(0, .ref x), (1, .int k9), (2, .ref ou)] := hl
  have hX0 := hX
  obtain ⟨wr, rd, ns, op, sr, md, su, pg, pb, sl, od, sa, fs, g, fa, f_x, f_wr, f_su, f_pg, f_pb, f_ns, f_sl, f_od, hgf, hnd, f_md, f_sa, hrow, ne_sl_od, hn40, hn⟩ := hX
  refine lv_aload_n hx hb d_La_name_0 rfl (lv_at hl 2 rfl) ?_
  refine lv_iconst (v := 0) hx hb d_La_name_1 (by decide) ?_
  refine lv_aload_n hx hb d_La_name_2 rfl (lv_at hl 0 rfl) ?_
  refine lv_iload_n hx hb d_La_name_3 rfl (lv_at hl 1 rfl) ?_
  refine hm_callT (As := [.int k9]) (b := x) (rest := [.int 0, .ref ou]) ⟨hx, hb, hml, hown, hts⟩ (c_x_nameT l D t G ak av h hfl x n k9 hX0) ⟨cw9B 1 hts mw_617 mw_618 mw_121 rfl rfl (by decide +kernel) ⟨Nat.le_of_ble_eq_true rfl, Nat.le_of_ble_eq_true rfl⟩, hts _ mw_619, hts _ mw_620⟩ (hP_V (q := (R_Di, F_Di, 9)) kF_ok ⟨hE, hE1⟩ hK hH f_x rfl) rfl hl.1 (Nat.le_of_ble_eq_true rfl) d_La_name_4 ⟨Nat.le_of_ble_eq_true rfl, Nat.le_of_ble_eq_true rfl⟩ htab (by simp [covers, tx1, tx2]) (by rw [tx4]; decide) (by rw [tx4]; exact hts _ mw_612) (va_Nw.use rfl hE1.2.2.2.1) (fun q1 H2 z3 o4 => ?_)
  rw [tx3]
  have hH := hH.ext z3 o4
  have hz : s.heap.size ≤ H2.size := Nat.le_trans hz z3
  refine lv_astore_n (lv' := [(3, .ref q1), (0, .ref x), (1, .int k9), (2, .ref ou)]) hx hb d_La_name_11 rfl hl (by decide) rfl (fun ls hl => ?_)
  refine lv_iconst (v := 1) hx hb d_La_name_12 (by decide) ?_
  exact W.iret (v := 1) hx hb hr (fun t9 ht hW => ⟨1, h, rfl, ⟨rfl, rfl⟩, by rw [ht]; exact hH, by rw [ht]; exact hz⟩) hLo d_La_name_13

set_option maxHeartbeats 4000000 in
set_option maxRecDepth 100000 in
theorem c_l_read (l : Launch) (D : va_G) (t : Nat → ClassId) (G : hG) (ak av : Nat → Nat) (h : hM) (hfl : l.flags = flags0) (x n ou : Nat) (k9 w9 : Int32) (hX : FrX t h x n) : Met l y_La_read (Cond.codeWith y_La_read b_La_read 5 (some .int) [(0, 10, 13, 13)] :: lw_g) { frames := 7, cells := 1, slots := 6, locals := 113 } (hP (kF D t G ak av) D vwCl G h [.ref x, .int k9, .int w9, .ref ou]) (hQi D vwCl G (fun r h' => r = 1 ∧ h = h')) 1 6 G.P := by
  refine va_MetW (cc := b_La_read) (maxL := 5) (ret := (some .int)) (by decide) rfl ?_
  intro p e s m args below meth c s₁ Bd hml hv
  obtain ⟨m9, meth9, c9, n1, n2, n3, -, -, n4, -⟩ := Cond.codeWith_spec (atoms_spec (ws := (Cond.codeWith y_La_read b_La_read 5 (some .int) [(0, 10, 13, 13)] :: lw_g)) Bd.pre _ List.mem_cons_self)
  cases Bd.named.symm.trans n1
  cases Bd.method.symm.trans n2
  cases (Stand.of_body Bd).code.symm.trans n3
  obtain ⟨tx, htab, tx1, tx2, tx3, tx4⟩ := tab1 n4
  obtain ⟨ha, ⟨hE, hE1⟩, hH⟩ := hv
  have hx := Bd.exec
  have hb := Bd.bytes
  have hr := Bd.returns
  have hts : ∀ w ∈ lw_g, w.before args s = true := fun w hw => atoms_spec (ws := (Cond.codeWith y_La_read b_La_read 5 (some .int) [(0, 10, 13, 13)] :: lw_g)) Bd.pre w (List.mem_cons_of_mem _ hw)
  have hown : s.vm.findClass R_La = some m.cls := findClass_of_methodNamed Bd.named
  have hlocks := Bd.notSynchronized
  have hK := hE.1
  have hH0 := hH
  have hLo : hLc G.P [] := hLc_nil
  have hz : s.heap.size ≤ s.heap.size := Nat.le_refl _
  have hkp : kp [] h h := kp_rf
  have hl := lv_entry [.ref x, .int k9, .int w9, .ref ou] (n := 5) (Nat.le_of_ble_eq_true rfl)
  rw [show entryFrame m args 5 = F0 m 0 ((lg_sl [.ref x, .int k9, .int w9, .ref ou] ++ List.replicate (5 - (lg_sl [.ref x, .int k9, .int w9, .ref ou]).length) Slot.unset).toArray) [] from (by rw [ha]; exact lg_entry_eq m [.ref x, .int k9, .int w9, .ref ou] 5)]
  generalize (lg_sl [.ref x, .int k9, .int w9, .ref ou] ++ List.replicate (5 - (lg_sl [.ref x, .int k9, .int w9, .ref ou]).length) Slot.unset).toArray = ls at hl ⊢
  have hl : lv_has ls 5 [(0, .ref x), (1, .int k9), (2, .int w9), (3, .ref ou)] := hl
  have hX0 := hX
  obtain ⟨wr, rd, ns, op, sr, md, su, pg, pb, sl, od, sa, fs, g, fa, f_x, f_wr, f_su, f_pg, f_pb, f_ns, f_sl, f_od, hgf, hnd, f_md, f_sa, hrow, ne_sl_od, hn40, hn⟩ := hX
  refine lv_aload_n hx hb d_La_read_0 rfl (lv_at hl 3 rfl) ?_
  refine lv_iconst (v := 0) hx hb d_La_read_1 (by decide) ?_
  refine lv_aload_n hx hb d_La_read_2 rfl (lv_at hl 0 rfl) ?_
  refine lv_iload_n hx hb d_La_read_3 rfl (lv_at hl 1 rfl) ?_
  refine lv_iload_n hx hb d_La_read_4 rfl (lv_at hl 2 rfl) ?_
  refine hm_callT (As := [.int k9, .int w9]) (b := x) (rest := [.int 0, .ref ou]) ⟨hx, hb, hml, hown, hts⟩ (c_x_readT l D t G ak av h hfl x n k9 w9 hX0) ⟨cw9B 2 hts mw_621 mw_622 mw_121 rfl rfl (by decide +kernel) ⟨Nat.le_of_ble_eq_true rfl, Nat.le_of_ble_eq_true rfl⟩, hts _ mw_623, hts _ mw_624⟩ (hP_V (q := (R_Di, F_Di, 9)) kF_ok ⟨hE, hE1⟩ hK hH f_x rfl) rfl hl.1 (Nat.le_of_ble_eq_true rfl) d_La_read_5 ⟨Nat.le_of_ble_eq_true rfl, Nat.le_of_ble_eq_true rfl⟩ htab (by simp [covers, tx1, tx2]) (by rw [tx4]; decide) (by rw [tx4]; exact hts _ mw_612) (va_Nw.use rfl hE1.2.2.2.1) (fun q1 H2 z3 o4 => ?_)
  rw [tx3]
  have hH := hH.ext z3 o4
  have hz : s.heap.size ≤ H2.size := Nat.le_trans hz z3
  refine lv_astore (lv' := [(4, .ref q1), (0, .ref x), (1, .int k9), (2, .int w9), (3, .ref ou)]) hx hb d_La_read_13 hl (by decide) rfl (fun ls hl => ?_)
  refine lv_iconst (v := 1) hx hb d_La_read_15 (by decide) ?_
  exact W.iret (v := 1) hx hb hr (fun t9 ht hW => ⟨1, h, rfl, ⟨rfl, rfl⟩, by rw [ht]; exact hH, by rw [ht]; exact hz⟩) hLo d_La_read_16

set_option maxHeartbeats 4000000 in
set_option maxRecDepth 100000 in
theorem c_l_treeT (l : Launch) (D : va_G) (t : Nat → ClassId) (G : hG) (ak av : Nat → Nat) (h : hM) (hfl : l.flags = flags0) (x n ou : Nat) (k9 w9 : Int32) (hX : FrX t h x n) (hT : treeT k9 w9 = 1) : Met l y_La_tree (Cond.codeWith y_La_tree b_La_tree 5 (some .int) [(0, 10, 13, 13)] :: lw_g) { frames := 7, cells := 1, slots := 6, locals := 113 } (hP (kF D t G ak av) D vwCl G h [.ref x, .int k9, .int w9, .ref ou]) (hQi D vwCl G (fun r h' => r = 1 ∧ h = h')) 1 6 G.P := by
  refine va_MetW (cc := b_La_tree) (maxL := 5) (ret := (some .int)) (by decide) rfl ?_
  intro p e s m args below meth c s₁ Bd hml hv
  obtain ⟨m9, meth9, c9, n1, n2, n3, -, -, n4, -⟩ := Cond.codeWith_spec (atoms_spec (ws := (Cond.codeWith y_La_tree b_La_tree 5 (some .int) [(0, 10, 13, 13)] :: lw_g)) Bd.pre _ List.mem_cons_self)
  cases Bd.named.symm.trans n1
  cases Bd.method.symm.trans n2
  cases (Stand.of_body Bd).code.symm.trans n3
  obtain ⟨tx, htab, tx1, tx2, tx3, tx4⟩ := tab1 n4
  obtain ⟨ha, ⟨hE, hE1⟩, hH⟩ := hv
  have hx := Bd.exec
  have hb := Bd.bytes
  have hr := Bd.returns
  have hts : ∀ w ∈ lw_g, w.before args s = true := fun w hw => atoms_spec (ws := (Cond.codeWith y_La_tree b_La_tree 5 (some .int) [(0, 10, 13, 13)] :: lw_g)) Bd.pre w (List.mem_cons_of_mem _ hw)
  have hown : s.vm.findClass R_La = some m.cls := findClass_of_methodNamed Bd.named
  have hlocks := Bd.notSynchronized
  have hK := hE.1
  have hH0 := hH
  have hLo : hLc G.P [] := hLc_nil
  have hz : s.heap.size ≤ s.heap.size := Nat.le_refl _
  have hkp : kp [] h h := kp_rf
  have hl := lv_entry [.ref x, .int k9, .int w9, .ref ou] (n := 5) (Nat.le_of_ble_eq_true rfl)
  rw [show entryFrame m args 5 = F0 m 0 ((lg_sl [.ref x, .int k9, .int w9, .ref ou] ++ List.replicate (5 - (lg_sl [.ref x, .int k9, .int w9, .ref ou]).length) Slot.unset).toArray) [] from (by rw [ha]; exact lg_entry_eq m [.ref x, .int k9, .int w9, .ref ou] 5)]
  generalize (lg_sl [.ref x, .int k9, .int w9, .ref ou] ++ List.replicate (5 - (lg_sl [.ref x, .int k9, .int w9, .ref ou]).length) Slot.unset).toArray = ls at hl ⊢
  have hl : lv_has ls 5 [(0, .ref x), (1, .int k9), (2, .int w9), (3, .ref ou)] := hl
  have hX0 := hX
  obtain ⟨wr, rd, ns, op, sr, md, su, pg, pb, sl, od, sa, fs, g, fa, f_x, f_wr, f_su, f_pg, f_pb, f_ns, f_sl, f_od, hgf, hnd, f_md, f_sa, hrow, ne_sl_od, hn40, hn⟩ := hX
  refine lv_aload_n hx hb d_La_tree_0 rfl (lv_at hl 3 rfl) ?_
  refine lv_iconst (v := 0) hx hb d_La_tree_1 (by decide) ?_
  refine lv_aload_n hx hb d_La_tree_2 rfl (lv_at hl 0 rfl) ?_
  refine lv_iload_n hx hb d_La_tree_3 rfl (lv_at hl 1 rfl) ?_
  refine lv_iload_n hx hb d_La_tree_4 rfl (lv_at hl 2 rfl) ?_
  refine hm_callT (As := [.int k9, .int w9]) (b := x) (rest := [.int 0, .ref ou]) ⟨hx, hb, hml, hown, hts⟩ (c_x_treeT l D t G ak av h hfl x n k9 w9 hX0 hT) ⟨cw9B 2 hts mw_625 mw_626 mw_121 rfl rfl (by decide +kernel) ⟨Nat.le_of_ble_eq_true rfl, Nat.le_of_ble_eq_true rfl⟩, hts _ mw_627, hts _ mw_628⟩ (hP_V (q := (R_Di, F_Di, 9)) kF_ok ⟨hE, hE1⟩ hK hH f_x rfl) rfl hl.1 (Nat.le_of_ble_eq_true rfl) d_La_tree_5 ⟨Nat.le_of_ble_eq_true rfl, Nat.le_of_ble_eq_true rfl⟩ htab (by simp [covers, tx1, tx2]) (by rw [tx4]; decide) (by rw [tx4]; exact hts _ mw_612) (va_Nw.use rfl hE1.2.2.2.1) (fun q1 H2 z3 o4 => ?_)
  rw [tx3]
  have hH := hH.ext z3 o4
  have hz : s.heap.size ≤ H2.size := Nat.le_trans hz z3
  refine lv_astore (lv' := [(4, .ref q1), (0, .ref x), (1, .int k9), (2, .int w9), (3, .ref ou)]) hx hb d_La_tree_13 hl (by decide) rfl (fun ls hl => ?_)
  refine lv_iconst (v := 1) hx hb d_La_tree_15 (by decide) ?_
  exact W.iret (v := 1) hx hb hr (fun t9 ht hW => ⟨1, h, rfl, ⟨rfl, rfl⟩, by rw [ht]; exact hH, by rw [ht]; exact hz⟩) hLo d_La_tree_16

set_option maxHeartbeats 4000000 in
set_option maxRecDepth 100000 in
theorem c_l_treeR (l : Launch) (D : va_G) (t : Nat → ClassId) (G : hG) (ak av : Nat → Nat) (h : hM) (hfl : l.flags = flags0) (x n ou : Nat) (g9 : Nat → Int64) (k9 w9 : Int32) (hX : FrX t h x n) (f_ou : h ou = some (.inl ((t 3), 1, .inr (.inl g9)))) (hT : treeT k9 w9 = 0) : Met l y_La_tree (Cond.codeWith y_La_tree b_La_tree 5 (some .int) [(0, 10, 13, 13)] :: lw_g) { frames := 2, cells := 0, slots := 0, locals := 45 } (hP (kF D t G ak av) D vwCl G h [.ref x, .int k9, .int w9, .ref ou]) (hQi D vwCl G (fun r h' => r = 0 ∧ ∃ g : Nat → Int64, h' ou = some (.inl ((t 3), 1, .inr (.inl g))) ∧ g 0 = (treeC k9 w9).toInt64)) 0 0 G.P := by
  refine va_MetW (cc := b_La_tree) (maxL := 5) (ret := (some .int)) (by decide) rfl ?_
  intro p e s m args below meth c s₁ Bd hml hv
  obtain ⟨m9, meth9, c9, n1, n2, n3, -, -, n4, -⟩ := Cond.codeWith_spec (atoms_spec (ws := (Cond.codeWith y_La_tree b_La_tree 5 (some .int) [(0, 10, 13, 13)] :: lw_g)) Bd.pre _ List.mem_cons_self)
  cases Bd.named.symm.trans n1
  cases Bd.method.symm.trans n2
  cases (Stand.of_body Bd).code.symm.trans n3
  obtain ⟨tx, htab, tx1, tx2, tx3, tx4⟩ := tab1 n4
  obtain ⟨ha, ⟨hE, hE1⟩, hH⟩ := hv
  have hx := Bd.exec
  have hb := Bd.bytes
  have hr := Bd.returns
  have hts : ∀ w ∈ lw_g, w.before args s = true := fun w hw => atoms_spec (ws := (Cond.codeWith y_La_tree b_La_tree 5 (some .int) [(0, 10, 13, 13)] :: lw_g)) Bd.pre w (List.mem_cons_of_mem _ hw)
  have hown : s.vm.findClass R_La = some m.cls := findClass_of_methodNamed Bd.named
  have hlocks := Bd.notSynchronized
  have hK := hE.1
  have hH0 := hH
  have hLo : hLc G.P [] := hLc_nil
  have hz : s.heap.size ≤ s.heap.size := Nat.le_refl _
  have hkp : kp [] h h := kp_rf
  have hl := lv_entry [.ref x, .int k9, .int w9, .ref ou] (n := 5) (Nat.le_of_ble_eq_true rfl)
  rw [show entryFrame m args 5 = F0 m 0 ((lg_sl [.ref x, .int k9, .int w9, .ref ou] ++ List.replicate (5 - (lg_sl [.ref x, .int k9, .int w9, .ref ou]).length) Slot.unset).toArray) [] from (by rw [ha]; exact lg_entry_eq m [.ref x, .int k9, .int w9, .ref ou] 5)]
  generalize (lg_sl [.ref x, .int k9, .int w9, .ref ou] ++ List.replicate (5 - (lg_sl [.ref x, .int k9, .int w9, .ref ou]).length) Slot.unset).toArray = ls at hl ⊢
  have hl : lv_has ls 5 [(0, .ref x), (1, .int k9), (2, .int w9), (3, .ref ou)] := hl
  have hX0 := hX
  obtain ⟨wr, rd, ns, op, sr, md, su, pg, pb, sl, od, sa, fs, g, fa, f_x, f_wr, f_su, f_pg, f_pb, f_ns, f_sl, f_od, hgf, hnd, f_md, f_sa, hrow, ne_sl_od, hn40, hn⟩ := hX
  refine lv_aload_n hx hb d_La_tree_0 rfl (lv_at hl 3 rfl) ?_
  refine lv_iconst (v := 0) hx hb d_La_tree_1 (by decide) ?_
  refine lv_aload_n hx hb d_La_tree_2 rfl (lv_at hl 0 rfl) ?_
  refine lv_iload_n hx hb d_La_tree_3 rfl (lv_at hl 1 rfl) ?_
  refine lv_iload_n hx hb d_La_tree_4 rfl (lv_at hl 2 rfl) ?_
  refine hm_calli (va_runV (As := [.int k9, .int w9]) (b := x) (rest := [.int 0, .ref ou]) ⟨hx, hb, hml, hown, hts⟩ (c_x_treeR l D t G ak av h x n k9 w9 hX0 hT) ⟨cw9B 2 hts mw_625 mw_626 mw_121 rfl rfl (by decide +kernel) ⟨Nat.le_of_ble_eq_true rfl, Nat.le_of_ble_eq_true rfl⟩, hts _ mw_627, hts _ mw_628⟩ (hP_V (q := (R_Di, F_Di, 9)) kE_ok hE hK hH f_x rfl) rfl rfl hl.1 rfl (lv_room (Nat.le_of_ble_eq_true rfl)) d_La_tree_5 ⟨Nat.le_of_ble_eq_true rfl, Nat.le_of_ble_eq_true rfl⟩) hLo (fun r1 h2 H3 locs hp5 hH z4 hLo => ?_)
  have hz : s.heap.size ≤ H3.size := Nat.le_trans hz z4
  obtain ⟨rfl, rfl⟩ := hp5
  refine lv_i2l (v := (treeC k9 w9).toInt64) hx hb d_La_tree_8 rfl ?_
  refine hj_last hx hb hK hH hLo 3 f_ou rfl 0 (by decide) (by decide) (by decide) d_La_tree_9 (fun H6 locs hH z7 hLo => ?_)
  have hz : s.heap.size ≤ H6.size := by rw [z7]; exact hz
  obtain ⟨h8, e9⟩ : ∃ z, z = hu h ou (.inl ((t 3), 1, .inr (.inl (vp_updL g9 0 ((treeC k9 w9).toInt64))))) := ⟨_, rfl⟩
  have hH : hm D vwCl G h8 H6 := by rw [e9]; exact hH
  have f_x : h8 x = some (.inr (8, [.ref wr, .ref rd, .ref ns, .ref md, .null, .int 0, .int 0, .ref op, .ref sr])) := by rw [e9, hu_n (Ne.symm (h_neA f_ou f_x))]; exact f_x
  have f_ou : h8 ou = some (.inl ((t 3), 1, .inr (.inl (vp_updL g9 0 ((treeC k9 w9).toInt64))))) := by rw [e9]; exact hu_s _ _ _
  refine lv_goto (tgt := 17) hx hb d_La_tree_10 (by decide) ?_
  refine lv_iconst (v := 0) hx hb d_La_tree_17 (by decide) ?_
  exact W.iret (v := 0) hx hb hr (fun t9 ht hW => ⟨0, h8, rfl, ⟨rfl, _, f_ou, if_pos rfl⟩, by rw [ht]; exact hH, by rw [ht]; exact hz⟩) hLo d_La_tree_18
