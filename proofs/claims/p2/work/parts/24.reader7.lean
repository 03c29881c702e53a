set_option maxRecDepth 100000 in
theorem mw_405 : Cond.code y_Ns_becomeRootAlone b_Ns_becomeRootAlone 2 none ∈ lw_g := lw_gin (List.mem_append_right _ (List.mem_of_getElem? (i := 602) rfl)) (by decide +kernel)
set_option maxRecDepth 100000 in
theorem mw_406 : Cond.methodLink R_Re 39 y_Ns_becomeRootAlone ∈ lw_g := lw_gin (List.mem_append_right _ (List.mem_of_getElem? (i := 637) rfl)) (by decide +kernel)
set_option maxRecDepth 100000 in
theorem mw_407 : Cond.instanceMethod y_Ns_becomeRootAlone ∈ lw_g := lw_gin (List.mem_append_right _ (List.mem_of_getElem? (i := 600) rfl)) (by decide +kernel)
set_option maxRecDepth 100000 in
theorem mw_408 : Cond.selects R_Ns y_Ns_becomeRootAlone y_Ns_becomeRootAlone ∈ lw_g := lw_gin (List.mem_append_right _ (List.mem_of_getElem? (i := 601) rfl)) (by decide +kernel)
set_option maxRecDepth 100000 in
theorem mw_409 : Cond.code y_Re_hasPathTables b_Re_hasPathTables 4 (some .boolean) ∈ lw_g := lw_gin (List.mem_append_right _ (List.mem_of_getElem? (i := 718) rfl)) (by decide +kernel)
set_option maxRecDepth 100000 in
theorem mw_410 : Cond.methodLink R_Re 66 y_Re_hasPathTables ∈ lw_g := lw_gin (List.mem_append_right _ (List.mem_of_getElem? (i := 715) rfl)) (by decide +kernel)
set_option maxRecDepth 100000 in
theorem mw_411 : Cond.instanceMethod y_Re_hasPathTables ∈ lw_g := lw_gin (List.mem_append_right _ (List.mem_of_getElem? (i := 717) rfl)) (by decide +kernel)
set_option maxRecDepth 100000 in
theorem mw_412 : Cond.selects R_Re y_Re_hasPathTables y_Re_hasPathTables ∈ lw_g := lw_gin (List.mem_append_left _ (List.mem_of_getElem? (i := 23) rfl)) (by decide +kernel)
set_option maxRecDepth 100000 in
theorem mw_413 : Cond.code y_Re_hasDirectory b_Re_hasDirectory 9 (some .boolean) ∈ lw_g := lw_gin (List.mem_append_right _ (List.mem_of_getElem? (i := 685) rfl)) (by decide +kernel)
set_option maxRecDepth 100000 in
theorem mw_414 : Cond.methodLink R_Re 62 y_Re_hasDirectory ∈ lw_g := lw_gin (List.mem_append_right _ (List.mem_of_getElem? (i := 682) rfl)) (by decide +kernel)
set_option maxRecDepth 100000 in
theorem mw_415 : Cond.instanceMethod y_Re_hasDirectory ∈ lw_g := lw_gin (List.mem_append_right _ (List.mem_of_getElem? (i := 684) rfl)) (by decide +kernel)
set_option maxRecDepth 100000 in
theorem mw_416 : Cond.selects R_Re y_Re_hasDirectory y_Re_hasDirectory ∈ lw_g := lw_gin (List.mem_append_left _ (List.mem_of_getElem? (i := 18) rfl)) (by decide +kernel)
set_option maxRecDepth 100000 in
theorem mw_417 : Cond.code y_Re_hasHead b_Re_hasHead 3 (some .boolean) ∈ lw_g := lw_gin (List.mem_append_right _ (List.mem_of_getElem? (i := 641) rfl)) (by decide +kernel)
set_option maxRecDepth 100000 in
theorem mw_418 : Cond.methodLink R_Re 44 y_Re_hasHead ∈ lw_g := lw_gin (List.mem_append_right _ (List.mem_of_getElem? (i := 638) rfl)) (by decide +kernel)
set_option maxRecDepth 100000 in
theorem mw_419 : Cond.instanceMethod y_Re_hasHead ∈ lw_g := lw_gin (List.mem_append_right _ (List.mem_of_getElem? (i := 640) rfl)) (by decide +kernel)
set_option maxRecDepth 100000 in
theorem mw_420 : Cond.selects R_Re y_Re_hasHead y_Re_hasHead ∈ lw_g := lw_gin (List.mem_append_left _ (List.mem_of_getElem? (i := 11) rfl)) (by decide +kernel)
set_option maxRecDepth 100000 in
theorem mw_421 : Cond.code y_Re_hasDescriptor b_Re_hasDescriptor 4 (some .boolean) ∈ lw_g := lw_gin (List.mem_append_right _ (List.mem_of_getElem? (i := 657) rfl)) (by decide +kernel)
set_option maxRecDepth 100000 in
theorem mw_422 : Cond.methodLink R_Re 48 y_Re_hasDescriptor ∈ lw_g := lw_gin (List.mem_append_right _ (List.mem_of_getElem? (i := 654) rfl)) (by decide +kernel)
set_option maxRecDepth 100000 in
theorem mw_423 : Cond.instanceMethod y_Re_hasDescriptor ∈ lw_g := lw_gin (List.mem_append_right _ (List.mem_of_getElem? (i := 656) rfl)) (by decide +kernel)
set_option maxRecDepth 100000 in
theorem mw_424 : Cond.selects R_Re y_Re_hasDescriptor y_Re_hasDescriptor ∈ lw_g := lw_gin (List.mem_append_left _ (List.mem_of_getElem? (i := 14) rfl)) (by decide +kernel)
theorem d_Re_countNodes_0 : decode b_Re_countNodes 0 = .ok (.aload_n 0, 1) := by decide +kernel
theorem d_Re_countNodes_1 : decode b_Re_countNodes 1 = .ok (.aload_n 1, 1) := by decide +kernel
theorem d_Re_countNodes_2 : decode b_Re_countNodes 2 = .ok (.putfield 27, 3) := by decide +kernel
theorem d_Re_countNodes_5 : decode b_Re_countNodes 5 = .ok (.aload_n 0, 1) := by decide +kernel
theorem d_Re_countNodes_6 : decode b_Re_countNodes 6 = .ok (.aload_n 3, 1) := by decide +kernel
theorem d_Re_countNodes_7 : decode b_Re_countNodes 7 = .ok (.putfield 31, 3) := by decide +kernel
theorem d_Re_countNodes_10 : decode b_Re_countNodes 10 = .ok (.aload_n 3, 1) := by decide +kernel
theorem d_Re_countNodes_11 : decode b_Re_countNodes 11 = .ok (.invokevirtual 39, 3) := by decide +kernel
theorem d_Re_countNodes_35 : decode b_Re_countNodes 35 = .ok (.istore 4, 2) := by decide +kernel
theorem d_Re_countNodes_37 : decode b_Re_countNodes 37 = .ok (.iconst 0, 1) := by decide +kernel
theorem d_Re_countNodes_38 : decode b_Re_countNodes 38 = .ok (.istore 5, 2) := by decide +kernel
theorem d_Re_countNodes_40 : decode b_Re_countNodes 40 = .ok (.iload 5, 2) := by decide +kernel
theorem d_Re_countNodes_42 : decode b_Re_countNodes 42 = .ok (.aload_n 3, 1) := by decide +kernel
theorem d_Re_countNodes_43 : decode b_Re_countNodes 43 = .ok (.getfield 51, 3) := by decide +kernel
theorem d_Re_countNodes_46 : decode b_Re_countNodes 46 = .ok (.if_icmp .ge 40, 3) := by decide +kernel
theorem d_Re_countNodes_86 : decode b_Re_countNodes 86 = .ok (.iload 4, 2) := by decide +kernel
theorem d_Re_countNodes_88 : decode b_Re_countNodes 88 = .ok (.ifCond .eq 15, 3) := by decide +kernel
theorem d_Re_countNodes_103 : decode b_Re_countNodes 103 = .ok (.iconst 0, 1) := by decide +kernel
theorem d_Re_countNodes_104 : decode b_Re_countNodes 104 = .ok (.istore 4, 2) := by decide +kernel
theorem d_Re_countNodes_106 : decode b_Re_countNodes 106 = .ok (.iload 4, 2) := by decide +kernel
theorem d_Re_countNodes_108 : decode b_Re_countNodes 108 = .ok (.ifCond .eq 10, 3) := by decide +kernel
theorem d_Re_countNodes_118 : decode b_Re_countNodes 118 = .ok (.iconst (-1), 1) := by decide +kernel
theorem d_Re_countNodes_119 : decode b_Re_countNodes 119 = .ok (.aload_n 0, 1) := by decide +kernel
theorem d_Re_countNodes_120 : decode b_Re_countNodes 120 = .ok (.getfield 35, 3) := by decide +kernel
theorem d_Re_countNodes_123 : decode b_Re_countNodes 123 = .ok (.isub, 1) := by decide +kernel
theorem d_Re_countNodes_124 : decode b_Re_countNodes 124 = .ok (.ireturn, 1) := by decide +kernel
theorem d_Re_countNodes_91 : decode b_Re_countNodes 91 = .ok (.aload_n 0, 1) := by decide +kernel
theorem d_Re_countNodes_92 : decode b_Re_countNodes 92 = .ok (.iload_n 2, 1) := by decide +kernel
theorem d_Re_countNodes_93 : decode b_Re_countNodes 93 = .ok (.invokevirtual 66, 3) := by decide +kernel
theorem d_Re_countNodes_96 : decode b_Re_countNodes 96 = .ok (.ifCond .eq 7, 3) := by decide +kernel
theorem d_Re_countNodes_99 : decode b_Re_countNodes 99 = .ok (.iconst 1, 1) := by decide +kernel
theorem d_Re_countNodes_100 : decode b_Re_countNodes 100 = .ok (.goto 4, 3) := by decide +kernel
theorem d_Re_countNodes_111 : decode b_Re_countNodes 111 = .ok (.aload_n 3, 1) := by decide +kernel
theorem d_Re_countNodes_112 : decode b_Re_countNodes 112 = .ok (.getfield 51, 3) := by decide +kernel
theorem d_Re_countNodes_115 : decode b_Re_countNodes 115 = .ok (.goto 9, 3) := by decide +kernel
theorem d_Re_countNodes_49 : decode b_Re_countNodes 49 = .ok (.iload 4, 2) := by decide +kernel
theorem d_Re_countNodes_51 : decode b_Re_countNodes 51 = .ok (.ifCond .eq 35, 3) := by decide +kernel
theorem d_Re_countNodes_54 : decode b_Re_countNodes 54 = .ok (.aload_n 3, 1) := by decide +kernel
theorem d_Re_countNodes_55 : decode b_Re_countNodes 55 = .ok (.getfield 54, 3) := by decide +kernel
theorem d_Re_countNodes_58 : decode b_Re_countNodes 58 = .ok (.iload 5, 2) := by decide +kernel
theorem d_Re_countNodes_60 : decode b_Re_countNodes 60 = .ok (.aaload, 1) := by decide +kernel
theorem d_Re_countNodes_61 : decode b_Re_countNodes 61 = .ok (.getfield 58, 3) := by decide +kernel
theorem d_Re_countNodes_64 : decode b_Re_countNodes 64 = .ok (.ifCond .eq 16, 3) := by decide +kernel
theorem d_Re_countNodes_80 : decode b_Re_countNodes 80 = .ok (.iinc 5 1, 3) := by decide +kernel
theorem d_Re_countNodes_83 : decode b_Re_countNodes 83 = .ok (.goto (-43), 3) := by decide +kernel
theorem d_Re_countNodes_67 : decode b_Re_countNodes 67 = .ok (.aload_n 0, 1) := by decide +kernel
theorem d_Re_countNodes_68 : decode b_Re_countNodes 68 = .ok (.aload_n 3, 1) := by decide +kernel
theorem d_Re_countNodes_69 : decode b_Re_countNodes 69 = .ok (.getfield 54, 3) := by decide +kernel
theorem d_Re_countNodes_72 : decode b_Re_countNodes 72 = .ok (.iload 5, 2) := by decide +kernel
theorem d_Re_countNodes_74 : decode b_Re_countNodes 74 = .ok (.aaload, 1) := by decide +kernel
theorem d_Re_countNodes_75 : decode b_Re_countNodes 75 = .ok (.invokevirtual 62, 3) := by decide +kernel
theorem d_Re_countNodes_78 : decode b_Re_countNodes 78 = .ok (.istore 4, 2) := by decide +kernel
theorem d_Re_countNodes_14 : decode b_Re_countNodes 14 = .ok (.aload_n 0, 1) := by decide +kernel
theorem d_Re_countNodes_15 : decode b_Re_countNodes 15 = .ok (.iload_n 2, 1) := by decide +kernel
theorem d_Re_countNodes_16 : decode b_Re_countNodes 16 = .ok (.invokevirtual 44, 3) := by decide +kernel
theorem d_Re_countNodes_19 : decode b_Re_countNodes 19 = .ok (.ifCond .eq 15, 3) := by decide +kernel
theorem d_Re_countNodes_34 : decode b_Re_countNodes 34 = .ok (.iconst 0, 1) := by decide +kernel
theorem d_Re_countNodes_22 : decode b_Re_countNodes 22 = .ok (.aload_n 0, 1) := by decide +kernel
theorem d_Re_countNodes_23 : decode b_Re_countNodes 23 = .ok (.iload_n 2, 1) := by decide +kernel
theorem d_Re_countNodes_24 : decode b_Re_countNodes 24 = .ok (.invokevirtual 48, 3) := by decide +kernel
theorem d_Re_countNodes_27 : decode b_Re_countNodes 27 = .ok (.ifCond .eq 7, 3) := by decide +kernel
theorem d_Re_countNodes_30 : decode b_Re_countNodes 30 = .ok (.iconst 1, 1) := by decide +kernel
theorem d_Re_countNodes_31 : decode b_Re_countNodes 31 = .ok (.goto 4, 3) := by decide +kernel
set_option maxHeartbeats 4000000 in
set_option maxRecDepth 100000 in
theorem t_count (l : Launch) (D : va_G) (t : Nat → ClassId) (G : hG) (ak av : Nat → Nat) (h : hM) (τ : tM) (n : Nat) (r9 : Nat) (md : Nat) (b8 : Int32) (nd : Nat) (hn : n ≤ 200) (hT : TI τ t n h) (T_r9 : τ r9 = (6, 0)) (T_md : τ md = (11, 0)) (T_nd : τ nd = (7, 1)) : Met l y_Re_countNodes (.code y_Re_countNodes b_Re_countNodes 6 (some .int) :: lw_g) { frames := 9, cells := 0, slots := 0, locals := 204 } (hP (kE D t G ak av) D vwCl G h [.ref r9, .ref md, .int b8, .ref nd]) (hQi D vwCl G (fun r h' => TI τ t n h' ∧ kf τ [(10, 1), (10, 2), (5, 1), (7, 1)] [r9] h h' ∧ RNP t h' nd)) 0 0 G.P := by
  refine Met.ofW (cc := b_Re_countNodes) (maxL := 6) (ret := (some .int)) (by decide) rfl ?_
  intro p e s m args below meth c s₁ Bd hml hv
  obtain ⟨ha, hE, hH⟩ := hv
  have hx := Bd.exec
  have hb := Bd.bytes
  have hr := Bd.returns
  have hts : ∀ w ∈ lw_g, w.before args s = true := fun w hw => atoms_spec (ws := (.code y_Re_countNodes b_Re_countNodes 6 (some .int) :: lw_g)) Bd.pre w (List.mem_cons_of_mem _ hw)
  have hown : s.vm.findClass R_Re = some m.cls := findClass_of_methodNamed Bd.named
  have hlocks := Bd.notSynchronized
  have hK := hE.1
  have hH0 := hH
  have hLo : hLc G.P [] := hLc_nil
  have hz : s.heap.size ≤ s.heap.size := Nat.le_refl _
  have hl := lv_entry [.ref r9, .ref md, .int b8, .ref nd] (n := 6) (Nat.le_of_ble_eq_true rfl)
  rw [show entryFrame m args 6 = F0 m 0 ((lg_sl [.ref r9, .ref md, .int b8, .ref nd] ++ List.replicate (6 - (lg_sl [.ref r9, .ref md, .int b8, .ref nd]).length) Slot.unset).toArray) [] from (by rw [ha]; exact lg_entry_eq m [.ref r9, .ref md, .int b8, .ref nd] 6)]
  generalize (lg_sl [.ref r9, .ref md, .int b8, .ref nd] ++ List.replicate (6 - (lg_sl [.ref r9, .ref md, .int b8, .ref nd]).length) Slot.unset).toArray = ls at hl ⊢
  have hl : lv_has ls 6 [(0, .ref r9), (1, .ref md), (2, .int b8), (3, .ref nd)] := hl
  have hkf : kf τ [(10, 1), (10, 2), (5, 1), (7, 1)] [r9] h h := kf_rf
  obtain ⟨v_1, v_3, v_5, v_7, v_9, F_r9, c_2, c_4, c_6, c_8⟩ := TI_rdr hT T_r9
  have Tr0 := c_2
  have Tr1 := c_4
  have Tr2 : ∀ q, some md = some q → τ q = (11, 0) := fun _ h9 => by cases h9; exact T_md
  have Tr3 : ∀ q, some nd = some q → τ q = (7, 1) := fun _ h9 => by cases h9; exact T_nd
  obtain ⟨v_10, v_12, v_14, v_16, F_nd, c_11, c_13, c_15⟩ := TI_nds hT T_nd
  obtain ⟨g_17, F_v_10, c_18, c_19⟩ := TI_slo hT c_11
  refine lv_aload_n hx hb d_Re_countNodes_0 rfl (lv_at hl 0 rfl) ?_
  refine lv_aload_n hx hb d_Re_countNodes_1 rfl (lv_at hl 1 rfl) ?_
  refine hm_put (ci := 5) (v := .ref md) (ty := (.object "WriteOnceDisc$Medium")) (C := R_Re) (T := F_Re) (N := 5) hx hb hts ig_Re t_Re tk_Re nm_Re hown hK hH hLo F_r9 rfl 2 (by decide) (hts _ mw_329) (fun _ h9 => h9) rfl (by decide +kernel) rfl rfl (Nat.le_of_ble_eq_true rfl) d_Re_countNodes_2 (fun H_20 locs hH z_21 hLo => ?_)
  have hz : s.heap.size ≤ H_20.size := by rw [z_21]; exact hz
  obtain ⟨h_22, e_23⟩ : ∃ z, z = hu h r9 (.inr (5, [.ref v_1, .ref v_3, .ref md, va_rf v_7, .int v_9])) := ⟨_, rfl⟩
  have hH : hm D vwCl G h_22 H_20 := by rw [e_23]; exact hH
  have F_nd : h_22 nd = some (.inr (2, [.ref v_10, .ref v_12, .int v_14, .int v_16])) := by rw [e_23, hu_n (tne T_nd T_r9 (by decide))]; exact F_nd
  have F_v_10 : h_22 v_10 = some (.inl ((t 4), 30, .inr (.inr (.inr (.inr g_17))))) := by rw [e_23, hu_n (tne c_11 T_r9 (by decide))]; exact F_v_10
  have F_r9 : h_22 r9 = some (.inr (5, [.ref v_1, .ref v_3, .ref md, va_rf v_7, .int v_9])) := by rw [e_23]; exact hu_s _ _ _
  have hT : TI τ t n h_22 := by rw [e_23]; exact TI_put hT T_r9 (by decide) ⟨v_1, v_3, some md, v_7, v_9, rfl, c_2, c_4, (fun _ h9 => by cases h9; exact T_md), c_8⟩
  have hkf : kf τ [(10, 1), (10, 2), (5, 1), (7, 1)] [r9] h h_22 := by rw [e_23]; exact kf_putM hkf (by simp)
  refine lv_aload_n hx hb d_Re_countNodes_5 rfl (lv_at hl 0 rfl) ?_
  refine lv_aload_n hx hb d_Re_countNodes_6 rfl (lv_at hl 3 rfl) ?_
  refine hm_put (ci := 5) (v := .ref nd) (ty := (.object "WriteOnceDisc$Nodes")) (C := R_Re) (T := F_Re) (N := 5) hx hb hts ig_Re t_Re tk_Re nm_Re hown hK hH hLo F_r9 rfl 3 (by decide) (hts _ mw_342) (fun _ h9 => h9) rfl (by decide +kernel) rfl rfl (Nat.le_of_ble_eq_true rfl) d_Re_countNodes_7 (fun H_24 locs hH z_25 hLo => ?_)
  have hz : s.heap.size ≤ H_24.size := by rw [z_25]; exact hz
  obtain ⟨h_26, e_27⟩ : ∃ z, z = hu h_22 r9 (.inr (5, [.ref v_1, .ref v_3, .ref md, .ref nd, .int v_9])) := ⟨_, rfl⟩
  have hH : hm D vwCl G h_26 H_24 := by rw [e_27]; exact hH
  have F_nd : h_26 nd = some (.inr (2, [.ref v_10, .ref v_12, .int v_14, .int v_16])) := by rw [e_27, hu_n (tne T_nd T_r9 (by decide))]; exact F_nd
  have F_v_10 : h_26 v_10 = some (.inl ((t 4), 30, .inr (.inr (.inr (.inr g_17))))) := by rw [e_27, hu_n (tne c_11 T_r9 (by decide))]; exact F_v_10
  have F_r9 : h_26 r9 = some (.inr (5, [.ref v_1, .ref v_3, .ref md, .ref nd, .int v_9])) := by rw [e_27]; exact hu_s _ _ _
  have hT : TI τ t n h_26 := by rw [e_27]; exact TI_put hT T_r9 (by decide) ⟨v_1, v_3, some md, some nd, v_9, rfl, c_2, c_4, (fun _ h9 => by cases h9; exact T_md), (fun _ h9 => by cases h9; exact T_nd)⟩
  have hkf : kf τ [(10, 1), (10, 2), (5, 1), (7, 1)] [r9] h h_26 := by rw [e_27]; exact kf_putM hkf (by simp)
  refine lv_aload_n hx hb d_Re_countNodes_10 rfl (lv_at hl 3 rfl) ?_
  have O_N : Nds t h_26 nd v_10 v_12 v_14 v_16 g_17 := ⟨F_nd, F_v_10⟩
  refine hm_callv (va_runV (As := []) (b := nd) (rest := []) ⟨hx, hb, hml, hown, hts⟩ (t_rootAlone l D t G ak av h_26 τ n 1 nd  hn hT T_nd) ⟨cw9B 0 hts mw_405 mw_406 mw_132 rfl rfl (by decide +kernel) ⟨Nat.le_of_ble_eq_true rfl, Nat.le_of_ble_eq_true rfl⟩, hts _ mw_407, hts _ mw_408⟩ (hP_V (q := (R_Ns, F_Ns, 4)) kE_ok hE hK hH F_nd rfl) rfl rfl hl.1 rfl (lv_room (Nat.le_of_ble_eq_true rfl)) d_Re_countNodes_11 ⟨Nat.le_of_ble_eq_true rfl, Nat.le_of_ble_eq_true rfl⟩) hLo (fun h_28 H_29 locs hp_31 hH z_30 hLo => ?_)
  have hz : s.heap.size ≤ H_29.size := Nat.le_trans hz z_30
  have hT0 := hT
  obtain ⟨hT, kf_33, xp_32⟩ := hp_31
  have F_r9 : h_28 r9 = some (.inr (5, [.ref v_1, .ref v_3, .ref md, .ref nd, .int v_9])) := kf_at kf_33 T_r9 (by decide) (tnc (by decide) tn0) (nmc (tne T_r9 T_nd (by decide)) nm0) F_r9
  have F_v_10 : h_28 v_10 = some (.inl ((t 4), 30, .inr (.inr (.inr (.inr g_17))))) := kf_at kf_33 c_11 (by decide) (tnc (by decide) tn0) (nmc (tne c_11 T_nd (by decide)) nm0) F_v_10
  have hkf : kf τ [(10, 1), (10, 2), (5, 1), (7, 1)] [r9] h h_28 := kf_tr hkf kf_33 (List.forall_mem_cons.mpr ⟨List.mem_cons_self, List.forall_mem_nil _⟩) (List.forall_mem_cons.mpr ⟨Or.inr (by rw [T_nd]; exact (List.mem_cons_of_mem _ (List.mem_cons_of_mem _ (List.mem_cons_of_mem _ List.mem_cons_self)))), List.forall_mem_nil _⟩)
  obtain ⟨a7, ha7, hN7, hz7⟩ := xp_32 _ _ _ _ _ O_N
  have hRN : RN t h_28 nd v_10 v_12 g_17 1 := ⟨hN7, by decide, by decide, rtP_rd (t := t) (P := nd) (s := v_10) (o := v_12) ha7 hz7⟩
  refine hm_cut (α := Int32) (fun z9 ls H locs HH => ∃ (wq9 : Int32), (lv_has ls 6 [(0, .ref r9), (1, .ref md), (2, .int b8), (3, .ref nd)]) ∧ (hm D vwCl G HH H) ∧ (s.heap.size ≤ H.size) ∧ (hLc G.P locs) ∧ (TI τ t n HH) ∧ (kf τ [(10, 1), (10, 2), (5, 1), (7, 1)] [r9] h HH) ∧ (zb z9) ∧ (HH r9 = some (.inr (5, [.ref v_1, .ref v_3, .ref md, .ref nd, .int wq9]))) ∧ (RN t HH nd v_10 v_12 g_17 1) ∧ (z9 = 1 → RD t n HH nd v_10 v_12 g_17 1)) 35 (fun z9 => [.int z9]) ?_ (fun J35 => ?_)
  · skip
    rintro z9 ls H locs HH ⟨wq9, hl, hH, hz, hLo, hT, hkf, P_z9, F_r9, hRN, hJ9⟩
    refine lv_istore (lv' := [(4, .int z9), (0, .ref r9), (1, .ref md), (2, .int b8), (3, .ref nd)]) hx hb d_Re_countNodes_35 hl (by decide) rfl (fun ls hl => ?_)
    refine lv_iconst (v := 0) hx hb d_Re_countNodes_37 (by decide) ?_
    refine lv_istore (lv' := [(5, .int 0), (4, .int z9), (0, .ref r9), (1, .ref md), (2, .int b8), (3, .ref nd)]) hx hb d_Re_countNodes_38 hl (by decide) rfl (fun ls hl => ?_)
    refine hm_loop (fun k40 ls H locs hh40 => ∃ (ir9 : Int32) (i9 : Int32) (c9 : Nat) (wp9 : Int32), k40 = mU i9 ∧ lv_has ls 6 [(0, .ref r9), (1, .ref md), (2, .int b8), (3, .ref nd), (4, .int ir9), (5, .int i9)] ∧ hm D vwCl G hh40 H ∧ s.heap.size ≤ H.size ∧ hLc G.P locs ∧ (TI τ t n hh40) ∧ (kf τ [(10, 1), (10, 2), (5, 1), (7, 1)] [r9] h hh40) ∧ (hh40 r9 = some (.inr (5, [.ref v_1, .ref v_3, .ref md, .ref nd, .int wp9]))) ∧ (zb ir9) ∧ (RN t hh40 nd v_10 v_12 g_17 c9) ∧ (ir9 = 1 → RD t n hh40 nd v_10 v_12 g_17 c9) ∧ (0 ≤ i9.toInt)) ?_ (hh := HH) ⟨z9, 0, 1, wq9, rfl, (lv_sub hl [2, 3, 4, 5, 1, 0] rfl), hH, hz, hLo, hT, hkf, F_r9, P_z9, hRN, hJ9, (by decide)⟩
    rintro k40 ls H locs hh40 ⟨ir9, i9, c9, wp9, hk40, hl, hH, hz, hLo, hT, hkf, F_r9, Z_ir9, hRN, hJ9, I_i9⟩ ih40
    obtain ⟨⟨F_nd, F_v_10⟩, hc1, hc30, hrd⟩ := id hRN
    obtain ⟨Tn0, Tn1, -⟩ := TJ_nds hT T_nd F_nd
    obtain ⟨Tn2, Tn3⟩ := TJ_slo hT Tn0 F_v_10
    have hcI : (nI c9).toInt = c9 := nI_toInt (by omega)
    refine lv_iload hx hb d_Re_countNodes_40 (lv_at hl 5 rfl) ?_
    refine lv_aload_n hx hb d_Re_countNodes_42 rfl (lv_at hl 3 rfl) ?_
    refine hm_get (ci := 2) (v := .int (nI c9)) (C := R_Ns) (T := F_Ns) (N := 4) hx hb hts ig_Ns hown hK hH F_nd rfl 2 (by decide) (hts _ mw_343) (fun _ h9 => h9) rfl d_Re_countNodes_43 ?_
    refine lv_icmp_ge (tgt := 86) hx hb d_Re_countNodes_46 (by decide) (fun hc_34 => ?_) (fun hc_34 => ?_)
    · skip
      have ic_35 : (nI c9).toInt ≤ i9.toInt := iLe hc_34
      refine lv_iload hx hb d_Re_countNodes_86 (lv_at hl 4 rfl) ?_
      refine lv_if_eq (tgt := 103) hx hb d_Re_countNodes_88 (by decide) (fun hc_36 => ?_) (fun hc_36 => ?_)
      · skip
        have ic_37 : ir9.toInt = 0 := congrArg Int32.toInt hc_36
        refine lv_iconst (v := 0) hx hb d_Re_countNodes_103 (by decide) ?_
        refine lv_istore (lv' := [(4, .int 0), (0, .ref r9), (1, .ref md), (2, .int b8), (3, .ref nd), (5, .int i9)]) hx hb d_Re_countNodes_104 hl (by decide) rfl (fun ls hl => ?_)
        refine lv_iload hx hb d_Re_countNodes_106 (lv_at hl 0 rfl) ?_
        refine lv_if_eq (tgt := 118) hx hb d_Re_countNodes_108 (by decide) (fun hc_38 => ?_) (fun hc_38 => absurd hc_38 (by decide))
        refine lv_iconst (v := -1) hx hb d_Re_countNodes_118 (by decide) ?_
        refine lv_aload_n hx hb d_Re_countNodes_119 rfl (lv_at hl 1 rfl) ?_
        refine hm_get (ci := 5) (v := .int wp9) (C := R_Re) (T := F_Re) (N := 5) hx hb hts ig_Re hown hK hH F_r9 rfl 4 (by decide) (hts _ mw_328) (fun _ h9 => h9) rfl d_Re_countNodes_120 ?_
        refine lv_isub hx hb d_Re_countNodes_123 ?_
        exact W.iret (v := (-1) - wp9) hx hb hr (fun t9 ht hW => ⟨(-1) - wp9, hh40, rfl, ⟨hT, hkf, ⟨_, _, _, _, hRN⟩⟩, by rw [ht]; exact hH, by rw [ht]; exact hz⟩) hLo d_Re_countNodes_124
      · skip
        refine lv_aload_n hx hb d_Re_countNodes_91 rfl (lv_at hl 0 rfl) ?_
        refine lv_iload_n hx hb d_Re_countNodes_92 rfl (lv_at hl 2 rfl) ?_
        refine hm_calli (va_runV (As := [.int b8]) (b := r9) (rest := []) ⟨hx, hb, hml, hown, hts⟩ (t_hasPT l D t G ak av hh40 τ n r9 b8 v_1 v_3 md nd wp9  hn hT T_r9  F_r9) ⟨cw9B 1 hts mw_409 mw_410 mw_332 rfl rfl (by decide +kernel) ⟨Nat.le_of_ble_eq_true rfl, Nat.le_of_ble_eq_true rfl⟩, hts _ mw_411, hts _ mw_412⟩ (hP_V (q := (R_Re, F_Re, 5)) kE_ok hE hK hH F_r9 rfl) rfl rfl hl.1 rfl (lv_room (Nat.le_of_ble_eq_true rfl)) d_Re_countNodes_93 ⟨Nat.le_of_ble_eq_true rfl, Nat.le_of_ble_eq_true rfl⟩) hLo (fun r_39 h_40 H_41 locs hp_43 hH z_42 hLo => ?_)
        have hz : s.heap.size ≤ H_41.size := Nat.le_trans hz z_42
        have hT0 := hT
        obtain ⟨c_44, hT, kf_46, xk_47, xp_45⟩ := hp_43
        have F_nd : h_40 nd = some (.inr (2, [.ref v_10, .ref v_12, .int (nI c9), .int (nI c9)])) := kf_at kf_46 T_nd (by decide) (tnc (by decide) (tnc (by decide) tn0)) (nmc (tne T_nd T_r9 (by decide)) nm0) F_nd
        have F_v_10 : h_40 v_10 = some (.inl ((t 4), 30, .inr (.inr (.inr (.inr g_17))))) := kf_at kf_46 c_11 (by decide) (tnc (by decide) (tnc (by decide) tn0)) (nmc (tne c_11 T_r9 (by decide)) nm0) F_v_10
        have hkf : kf τ [(10, 1), (10, 2), (5, 1), (7, 1)] [r9] h h_40 := kf_tr hkf kf_46 (List.forall_mem_cons.mpr ⟨(List.mem_cons_of_mem _ (List.mem_cons_of_mem _ List.mem_cons_self)), List.forall_mem_cons.mpr ⟨List.mem_cons_self, List.forall_mem_nil _⟩⟩) (List.forall_mem_cons.mpr ⟨Or.inl (by simp), List.forall_mem_nil _⟩)
        obtain ⟨wp_48, F_r9⟩ := xp_45
        have hRN : RN t h_40 nd v_10 v_12 g_17 c9 := RN_kf hT0 T_nd hRN kf_46 (by simp) (by simp) (List.forall_mem_cons.mpr ⟨⟨(fun z => by have := z.symm.trans T_r9; simp at this), (fun z => by have := z.symm.trans T_r9; simp at this)⟩, List.forall_mem_nil _⟩) xk_47
        refine lv_if_eq (tgt := 103) hx hb d_Re_countNodes_96 (by decide) (fun hc_49 => ?_) (fun hc_49 => ?_)
        · skip
          have ic_50 : r_39.toInt = 0 := congrArg Int32.toInt hc_49
          refine lv_iconst (v := 0) hx hb d_Re_countNodes_103 (by decide) ?_
          refine lv_istore (lv' := [(4, .int 0), (0, .ref r9), (1, .ref md), (2, .int b8), (3, .ref nd), (5, .int i9)]) hx hb d_Re_countNodes_104 hl (by decide) rfl (fun ls hl => ?_)
          refine lv_iload hx hb d_Re_countNodes_106 (lv_at hl 0 rfl) ?_
          refine lv_if_eq (tgt := 118) hx hb d_Re_countNodes_108 (by decide) (fun hc_51 => ?_) (fun hc_51 => absurd hc_51 (by decide))
          refine lv_iconst (v := -1) hx hb d_Re_countNodes_118 (by decide) ?_
          refine lv_aload_n hx hb d_Re_countNodes_119 rfl (lv_at hl 1 rfl) ?_
          refine hm_get (ci := 5) (v := .int wp_48) (C := R_Re) (T := F_Re) (N := 5) hx hb hts ig_Re hown hK hH F_r9 rfl 4 (by decide) (hts _ mw_328) (fun _ h9 => h9) rfl d_Re_countNodes_120 ?_
          refine lv_isub hx hb d_Re_countNodes_123 ?_
          exact W.iret (v := (-1) - wp_48) hx hb hr (fun t9 ht hW => ⟨(-1) - wp_48, h_40, rfl, ⟨hT, hkf, ⟨_, _, _, _, hRN⟩⟩, by rw [ht]; exact hH, by rw [ht]; exact hz⟩) hLo d_Re_countNodes_124
        · skip
          refine lv_iconst (v := 1) hx hb d_Re_countNodes_99 (by decide) ?_
          refine lv_goto (tgt := 104) hx hb d_Re_countNodes_100 (by decide) ?_
          refine lv_istore (lv' := [(4, .int 1), (0, .ref r9), (1, .ref md), (2, .int b8), (3, .ref nd), (5, .int i9)]) hx hb d_Re_countNodes_104 hl (by decide) rfl (fun ls hl => ?_)
          refine lv_iload hx hb d_Re_countNodes_106 (lv_at hl 0 rfl) ?_
          refine lv_if_eq (tgt := 118) hx hb d_Re_countNodes_108 (by decide) (fun hc_52 => absurd hc_52 (by decide)) (fun hc_52 => ?_)
          refine lv_aload_n hx hb d_Re_countNodes_111 rfl (lv_at hl 4 rfl) ?_
          refine hm_get (ci := 2) (v := .int (nI c9)) (C := R_Ns) (T := F_Ns) (N := 4) hx hb hts ig_Ns hown hK hH F_nd rfl 2 (by decide) (hts _ mw_343) (fun _ h9 => h9) rfl d_Re_countNodes_112 ?_
          refine lv_goto (tgt := 124) hx hb d_Re_countNodes_115 (by decide) ?_
          exact W.iret (v := nI c9) hx hb hr (fun t9 ht hW => ⟨nI c9, h_40, rfl, ⟨hT, hkf, ⟨_, _, _, _, hRN⟩⟩, by rw [ht]; exact hH, by rw [ht]; exact hz⟩) hLo d_Re_countNodes_124
    · skip
      have ic_53 : i9.toInt < (nI c9).toInt := iNe hc_34
      have iu_54 : (nI c9).toInt < 2147483648 := iUp _
      refine lv_iload hx hb d_Re_countNodes_49 (lv_at hl 4 rfl) ?_
      refine lv_if_eq (tgt := 86) hx hb d_Re_countNodes_51 (by decide) (fun hc_55 => ?_) (fun hc_55 => ?_)
      · skip
        have ic_56 : ir9.toInt = 0 := congrArg Int32.toInt hc_55
        refine lv_iload hx hb d_Re_countNodes_86 (lv_at hl 4 rfl) ?_
        refine lv_if_eq (tgt := 103) hx hb d_Re_countNodes_88 (by decide) (fun hc_57 => ?_) (fun hc_57 => ?_)
        · skip
          have ic_58 : ir9.toInt = 0 := congrArg Int32.toInt hc_57
          refine lv_iconst (v := 0) hx hb d_Re_countNodes_103 (by decide) ?_
          refine lv_istore (lv' := [(4, .int 0), (0, .ref r9), (1, .ref md), (2, .int b8), (3, .ref nd), (5, .int i9)]) hx hb d_Re_countNodes_104 hl (by decide) rfl (fun ls hl => ?_)
          refine lv_iload hx hb d_Re_countNodes_106 (lv_at hl 0 rfl) ?_
          refine lv_if_eq (tgt := 118) hx hb d_Re_countNodes_108 (by decide) (fun hc_59 => ?_) (fun hc_59 => absurd hc_59 (by decide))
          refine lv_iconst (v := -1) hx hb d_Re_countNodes_118 (by decide) ?_
          refine lv_aload_n hx hb d_Re_countNodes_119 rfl (lv_at hl 1 rfl) ?_
          refine hm_get (ci := 5) (v := .int wp9) (C := R_Re) (T := F_Re) (N := 5) hx hb hts ig_Re hown hK hH F_r9 rfl 4 (by decide) (hts _ mw_328) (fun _ h9 => h9) rfl d_Re_countNodes_120 ?_
          refine lv_isub hx hb d_Re_countNodes_123 ?_
          exact W.iret (v := (-1) - wp9) hx hb hr (fun t9 ht hW => ⟨(-1) - wp9, hh40, rfl, ⟨hT, hkf, ⟨_, _, _, _, hRN⟩⟩, by rw [ht]; exact hH, by rw [ht]; exact hz⟩) hLo d_Re_countNodes_124
        · skip
          refine lv_aload_n hx hb d_Re_countNodes_91 rfl (lv_at hl 0 rfl) ?_
          refine lv_iload_n hx hb d_Re_countNodes_92 rfl (lv_at hl 2 rfl) ?_
          refine hm_calli (va_runV (As := [.int b8]) (b := r9) (rest := []) ⟨hx, hb, hml, hown, hts⟩ (t_hasPT l D t G ak av hh40 τ n r9 b8 v_1 v_3 md nd wp9  hn hT T_r9  F_r9) ⟨cw9B 1 hts mw_409 mw_410 mw_332 rfl rfl (by decide +kernel) ⟨Nat.le_of_ble_eq_true rfl, Nat.le_of_ble_eq_true rfl⟩, hts _ mw_411, hts _ mw_412⟩ (hP_V (q := (R_Re, F_Re, 5)) kE_ok hE hK hH F_r9 rfl) rfl rfl hl.1 rfl (lv_room (Nat.le_of_ble_eq_true rfl)) d_Re_countNodes_93 ⟨Nat.le_of_ble_eq_true rfl, Nat.le_of_ble_eq_true rfl⟩) hLo (fun r_60 h_61 H_62 locs hp_64 hH z_63 hLo => ?_)
          have hz : s.heap.size ≤ H_62.size := Nat.le_trans hz z_63
          have hT0 := hT
          obtain ⟨c_65, hT, kf_67, xk_68, xp_66⟩ := hp_64
          have F_nd : h_61 nd = some (.inr (2, [.ref v_10, .ref v_12, .int (nI c9), .int (nI c9)])) := kf_at kf_67 T_nd (by decide) (tnc (by decide) (tnc (by decide) tn0)) (nmc (tne T_nd T_r9 (by decide)) nm0) F_nd
          have F_v_10 : h_61 v_10 = some (.inl ((t 4), 30, .inr (.inr (.inr (.inr g_17))))) := kf_at kf_67 c_11 (by decide) (tnc (by decide) (tnc (by decide) tn0)) (nmc (tne c_11 T_r9 (by decide)) nm0) F_v_10
          have hkf : kf τ [(10, 1), (10, 2), (5, 1), (7, 1)] [r9] h h_61 := kf_tr hkf kf_67 (List.forall_mem_cons.mpr ⟨(List.mem_cons_of_mem _ (List.mem_cons_of_mem _ List.mem_cons_self)), List.forall_mem_cons.mpr ⟨List.mem_cons_self, List.forall_mem_nil _⟩⟩) (List.forall_mem_cons.mpr ⟨Or.inl (by simp), List.forall_mem_nil _⟩)
          obtain ⟨wp_69, F_r9⟩ := xp_66
          have hRN : RN t h_61 nd v_10 v_12 g_17 c9 := RN_kf hT0 T_nd hRN kf_67 (by simp) (by simp) (List.forall_mem_cons.mpr ⟨⟨(fun z => by have := z.symm.trans T_r9; simp at this), (fun z => by have := z.symm.trans T_r9; simp at this)⟩, List.forall_mem_nil _⟩) xk_68
          refine lv_if_eq (tgt := 103) hx hb d_Re_countNodes_96 (by decide) (fun hc_70 => ?_) (fun hc_70 => ?_)
          · skip
            have ic_71 : r_60.toInt = 0 := congrArg Int32.toInt hc_70
            refine lv_iconst (v := 0) hx hb d_Re_countNodes_103 (by decide) ?_
            refine lv_istore (lv' := [(4, .int 0), (0, .ref r9), (1, .ref md), (2, .int b8), (3, .ref nd), (5, .int i9)]) hx hb d_Re_countNodes_104 hl (by decide) rfl (fun ls hl => ?_)
            refine lv_iload hx hb d_Re_countNodes_106 (lv_at hl 0 rfl) ?_
            refine lv_if_eq (tgt := 118) hx hb d_Re_countNodes_108 (by decide) (fun hc_72 => ?_) (fun hc_72 => absurd hc_72 (by decide))
            refine lv_iconst (v := -1) hx hb d_Re_countNodes_118 (by decide) ?_
            refine lv_aload_n hx hb d_Re_countNodes_119 rfl (lv_at hl 1 rfl) ?_
            refine hm_get (ci := 5) (v := .int wp_69) (C := R_Re) (T := F_Re) (N := 5) hx hb hts ig_Re hown hK hH F_r9 rfl 4 (by decide) (hts _ mw_328) (fun _ h9 => h9) rfl d_Re_countNodes_120 ?_
            refine lv_isub hx hb d_Re_countNodes_123 ?_
            exact W.iret (v := (-1) - wp_69) hx hb hr (fun t9 ht hW => ⟨(-1) - wp_69, h_61, rfl, ⟨hT, hkf, ⟨_, _, _, _, hRN⟩⟩, by rw [ht]; exact hH, by rw [ht]; exact hz⟩) hLo d_Re_countNodes_124
          · skip
            refine lv_iconst (v := 1) hx hb d_Re_countNodes_99 (by decide) ?_
            refine lv_goto (tgt := 104) hx hb d_Re_countNodes_100 (by decide) ?_
            refine lv_istore (lv' := [(4, .int 1), (0, .ref r9), (1, .ref md), (2, .int b8), (3, .ref nd), (5, .int i9)]) hx hb d_Re_countNodes_104 hl (by decide) rfl (fun ls hl => ?_)
            refine lv_iload hx hb d_Re_countNodes_106 (lv_at hl 0 rfl) ?_
            refine lv_if_eq (tgt := 118) hx hb d_Re_countNodes_108 (by decide) (fun hc_73 => absurd hc_73 (by decide)) (fun hc_73 => ?_)
            refine lv_aload_n hx hb d_Re_countNodes_111 rfl (lv_at hl 4 rfl) ?_
            refine hm_get (ci := 2) (v := .int (nI c9)) (C := R_Ns) (T := F_Ns) (N := 4) hx hb hts ig_Ns hown hK hH F_nd rfl 2 (by decide) (hts _ mw_343) (fun _ h9 => h9) rfl d_Re_countNodes_112 ?_
            refine lv_goto (tgt := 124) hx hb d_Re_countNodes_115 (by decide) ?_
            exact W.iret (v := nI c9) hx hb hr (fun t9 ht hW => ⟨nI c9, h_61, rfl, ⟨hT, hkf, ⟨_, _, _, _, hRN⟩⟩, by rw [ht]; exact hH, by rw [ht]; exact hz⟩) hLo d_Re_countNodes_124
      · skip
        refine lv_aload_n hx hb d_Re_countNodes_54 rfl (lv_at hl 3 rfl) ?_
        refine hm_get (ci := 2) (v := .ref v_10) (C := R_Ns) (T := F_Ns) (N := 4) hx hb hts ig_Ns hown hK hH F_nd rfl 0 (by decide) (hts _ mw_344) (fun _ h9 => h9) rfl d_Re_countNodes_55 ?_
        refine lv_iload hx hb d_Re_countNodes_58 (lv_at hl 5 rfl) ?_
        obtain ⟨a_74, e_75, T_76⟩ := Tn2 i9.toNatClampNeg (iCl (by omega) (by omega))
        refine hm_aald (v := .ref a_74) hx hb hK hH 4 F_v_10 (C := R_No) rfl (iIn (by omega) (by omega)) (by rw [e_75]; rfl) d_Re_countNodes_60 ?_
        obtain ⟨v_77, v_78, v_80, v_82, v_83, v_85, v_86, v_87, v_89, v_90, v_91, F_a_74, c_79, c_81, c_84, c_88⟩ := TI_node hT T_76
        refine hm_get (ci := 1) (v := .int v_80) (C := R_No) (T := F_No) (N := 11) hx hb hts ig_No hown hK hH F_a_74 rfl 2 (by decide) (hts _ mw_345) (fun _ h9 => h9) rfl d_Re_countNodes_61 ?_
        refine lv_if_eq (tgt := 80) hx hb d_Re_countNodes_64 (by decide) (fun hc_92 => ?_) (fun hc_92 => ?_)
        · skip
          have ic_93 : v_80.toInt = 0 := congrArg Int32.toInt hc_92
          obtain ⟨j_94, e_95⟩ : ∃ z : Int32, z = i9 + 1 := ⟨_, rfl⟩
          refine lv_iinc (v := j_94) (lv' := [(5, .int j_94), (0, .ref r9), (1, .ref md), (2, .int b8), (3, .ref nd), (4, .int ir9)]) hx hb d_Re_countNodes_80 hl (k := 5) rfl e_95.symm (by decide) rfl (fun ls hl => ?_)
          refine lv_goto (tgt := 40) hx hb d_Re_countNodes_83 (by decide) ?_
          have is_96 : j_94.toInt = i9.toInt + 1 := by rw [e_95]; exact iAddK 1 rfl (by omega) (by omega)
          exact ih40 (mU j_94) ls _ locs _ (by rw [hk40]; exact mU_lt (by omega)) ⟨ir9, j_94, c9, wp9, rfl, (lv_sub hl [1, 2, 3, 4, 5, 0] rfl), hH, hz, hLo, hT, hkf, F_r9, Z_ir9, hRN, hJ9, (by omega)⟩
        · skip
          refine lv_aload_n hx hb d_Re_countNodes_67 rfl (lv_at hl 0 rfl) ?_
          refine lv_aload_n hx hb d_Re_countNodes_68 rfl (lv_at hl 3 rfl) ?_
          refine hm_get (ci := 2) (v := .ref v_10) (C := R_Ns) (T := F_Ns) (N := 4) hx hb hts ig_Ns hown hK hH F_nd rfl 0 (by decide) (hts _ mw_344) (fun _ h9 => h9) rfl d_Re_countNodes_69 ?_
          refine lv_iload hx hb d_Re_countNodes_72 (lv_at hl 5 rfl) ?_
          refine hm_aald (v := .ref a_74) hx hb hK hH 4 F_v_10 (C := R_No) rfl (iIn (by omega) (by omega)) (by rw [e_75]; rfl) d_Re_countNodes_74 ?_
          have hd1 : v_80 = 1 := by
            rcases c_81 with hq7 | hq7
            · exact absurd hq7 hc_92
            · exact hq7
          have hi1 : ir9 = 1 := by
            rcases Z_ir9 with hq7 | hq7
            · exact absurd hq7 hc_55
            · exact hq7
          refine hm_calli (va_runV (As := [.ref a_74]) (b := r9) (rest := []) ⟨hx, hb, hml, hown, hts⟩ (t_hasDir l D t G ak av hh40 τ n r9 a_74 v_1 v_3 md nd wp9 v_10 v_12 c9 g_17  hn hT T_r9 T_76  F_r9 (hJ9 hi1) ⟨i9.toNatClampNeg, (by have := iClt (x := i9) (c := nI c9) (by omega) (by omega); omega), e_75⟩ ⟨_, _, _, _, _, _, _, _, _, _, by rw [← hd1]; exact F_a_74⟩) ⟨cw9B 1 hts mw_413 mw_414 mw_332 rfl rfl (by decide +kernel) ⟨Nat.le_of_ble_eq_true rfl, Nat.le_of_ble_eq_true rfl⟩, hts _ mw_415, hts _ mw_416⟩ (hP_V (q := (R_Re, F_Re, 5)) kE_ok hE hK hH F_r9 rfl) rfl rfl hl.1 rfl (lv_room (Nat.le_of_ble_eq_true rfl)) d_Re_countNodes_75 ⟨Nat.le_of_ble_eq_true rfl, Nat.le_of_ble_eq_true rfl⟩) hLo (fun r_97 h_98 H_99 locs hp_101 hH z_100 hLo => ?_)
          have hz : s.heap.size ≤ H_99.size := Nat.le_trans hz z_100
          have hT0 := hT
          obtain ⟨c_102, hT, kf_104, xp_103⟩ := hp_101
          have F_v_10 : h_98 v_10 = some (.inl ((t 4), 30, .inr (.inr (.inr (.inr g_17))))) := kf_at kf_104 c_11 (by decide) (tnc (by decide) (tnc (by decide) (tnc (by decide) tn0))) (nmc (tne c_11 T_r9 (by decide)) nm0) F_v_10
          have hkf : kf τ [(10, 1), (10, 2), (5, 1), (7, 1)] [r9] h h_98 := kf_tr hkf kf_104 (List.forall_mem_cons.mpr ⟨List.mem_cons_self, List.forall_mem_cons.mpr ⟨(List.mem_cons_of_mem _ (List.mem_cons_of_mem _ (List.mem_cons_of_mem _ List.mem_cons_self))), List.forall_mem_cons.mpr ⟨(List.mem_cons_of_mem _ List.mem_cons_self), List.forall_mem_nil _⟩⟩⟩) (List.forall_mem_cons.mpr ⟨Or.inl (by simp), List.forall_mem_nil _⟩)
          obtain ⟨⟨wp_105, F_r9⟩, c7, hc7, hRN, hJ7⟩ := xp_103
          refine lv_istore (lv' := [(4, .int r_97), (0, .ref r9), (1, .ref md), (2, .int b8), (3, .ref nd), (5, .int i9)]) hx hb d_Re_countNodes_78 hl (by decide) rfl (fun ls hl => ?_)
          obtain ⟨j_106, e_107⟩ : ∃ z : Int32, z = i9 + 1 := ⟨_, rfl⟩
          refine lv_iinc (v := j_106) (lv' := [(5, .int j_106), (4, .int r_97), (0, .ref r9), (1, .ref md), (2, .int b8), (3, .ref nd)]) hx hb d_Re_countNodes_80 hl (k := 5) rfl e_107.symm (by decide) rfl (fun ls hl => ?_)
          refine lv_goto (tgt := 40) hx hb d_Re_countNodes_83 (by decide) ?_
          have is_108 : j_106.toInt = i9.toInt + 1 := by rw [e_107]; exact iAddK 1 rfl (by omega) (by omega)
          exact ih40 (mU j_106) ls _ locs _ (by rw [hk40]; exact mU_lt (by omega)) ⟨r_97, j_106, c7, wp_105, rfl, (lv_sub hl [2, 3, 4, 5, 1, 0] rfl), hH, hz, hLo, hT, hkf, F_r9, c_102, hRN, hJ7, (by omega)⟩
  · skip
    refine lv_aload_n hx hb d_Re_countNodes_14 rfl (lv_at hl 0 rfl) ?_
    refine lv_iload_n hx hb d_Re_countNodes_15 rfl (lv_at hl 2 rfl) ?_
    refine hm_calli (va_runV (As := [.int b8]) (b := r9) (rest := []) ⟨hx, hb, hml, hown, hts⟩ (t_hasHead l D t G ak av h_28 τ n r9 b8 v_1 v_3 md nd v_9  hn hT T_r9  F_r9) ⟨cw9B 1 hts mw_417 mw_418 mw_332 rfl rfl (by decide +kernel) ⟨Nat.le_of_ble_eq_true rfl, Nat.le_of_ble_eq_true rfl⟩, hts _ mw_419, hts _ mw_420⟩ (hP_V (q := (R_Re, F_Re, 5)) kE_ok hE hK hH F_r9 rfl) rfl rfl hl.1 rfl (lv_room (Nat.le_of_ble_eq_true rfl)) d_Re_countNodes_16 ⟨Nat.le_of_ble_eq_true rfl, Nat.le_of_ble_eq_true rfl⟩) hLo (fun r_109 h_110 H_111 locs hp_113 hH z_112 hLo => ?_)
    have hz : s.heap.size ≤ H_111.size := Nat.le_trans hz z_112
    have hT0 := hT
    obtain ⟨c_114, hT, kf_116, xp_115⟩ := hp_113
    have F_v_10 : h_110 v_10 = some (.inl ((t 4), 30, .inr (.inr (.inr (.inr g_17))))) := kf_at kf_116 c_11 (by decide) tn0 (nmc (tne c_11 T_r9 (by decide)) nm0) F_v_10
    have hkf : kf τ [(10, 1), (10, 2), (5, 1), (7, 1)] [r9] h h_110 := kf_tr hkf kf_116 (List.forall_mem_nil _) (List.forall_mem_cons.mpr ⟨Or.inl (by simp), List.forall_mem_nil _⟩)
    obtain ⟨wp_117, F_r9⟩ := xp_115
    have hRN : RN t h_110 nd v_10 v_12 g_17 1 := RN_kf hT0 T_nd hRN kf_116 (by simp) (by simp) (List.forall_mem_cons.mpr ⟨⟨(fun z => by have := z.symm.trans T_r9; simp at this), (fun z => by have := z.symm.trans T_r9; simp at this)⟩, List.forall_mem_nil _⟩) (knp_kf knp_rf kf_116 (by simp) (List.forall_mem_cons.mpr ⟨(fun z => by have := z.symm.trans T_r9; simp at this), List.forall_mem_nil _⟩))
    refine lv_if_eq (tgt := 34) hx hb d_Re_countNodes_19 (by decide) (fun hc_118 => ?_) (fun hc_118 => ?_)
    · skip
      have ic_119 : r_109.toInt = 0 := congrArg Int32.toInt hc_118
      refine lv_iconst (v := 0) hx hb d_Re_countNodes_34 (by decide) ?_
      exact J35 0 _ _ _ _ ⟨wp_117, (lv_sub hl [0, 1, 2, 3] rfl), hH, hz, hLo, hT, hkf, zb0, F_r9, hRN, (fun z => absurd z (by decide))⟩
    · skip
      refine lv_aload_n hx hb d_Re_countNodes_22 rfl (lv_at hl 0 rfl) ?_
      refine lv_iload_n hx hb d_Re_countNodes_23 rfl (lv_at hl 2 rfl) ?_
      refine hm_calli (va_runV (As := [.int b8]) (b := r9) (rest := []) ⟨hx, hb, hml, hown, hts⟩ (t_hasDesc l D t G ak av h_110 τ n r9 b8 v_1 v_3 md nd wp_117 v_10 v_12 g_17  hn hT T_r9  F_r9 hRN) ⟨cw9B 1 hts mw_421 mw_422 mw_332 rfl rfl (by decide +kernel) ⟨Nat.le_of_ble_eq_true rfl, Nat.le_of_ble_eq_true rfl⟩, hts _ mw_423, hts _ mw_424⟩ (hP_V (q := (R_Re, F_Re, 5)) kE_ok hE hK hH F_r9 rfl) rfl rfl hl.1 rfl (lv_room (Nat.le_of_ble_eq_true rfl)) d_Re_countNodes_24 ⟨Nat.le_of_ble_eq_true rfl, Nat.le_of_ble_eq_true rfl⟩) hLo (fun r_120 h_121 H_122 locs hp_124 hH z_123 hLo => ?_)
      have hz : s.heap.size ≤ H_122.size := Nat.le_trans hz z_123
      have hT0 := hT
      obtain ⟨c_125, hT, kf_127, xp_126⟩ := hp_124
      have F_v_10 : h_121 v_10 = some (.inl ((t 4), 30, .inr (.inr (.inr (.inr g_17))))) := kf_at kf_127 c_11 (by decide) (tnc (by decide) tn0) (nmc (tne c_11 T_r9 (by decide)) nm0) F_v_10
      have hkf : kf τ [(10, 1), (10, 2), (5, 1), (7, 1)] [r9] h h_121 := kf_tr hkf kf_127 (List.forall_mem_cons.mpr ⟨List.mem_cons_self, List.forall_mem_nil _⟩) (List.forall_mem_cons.mpr ⟨Or.inl (by simp), List.forall_mem_nil _⟩)
      obtain ⟨⟨wp_128, F_r9⟩, hRN, hq7⟩ := xp_126
      rcases c_125 with rfl | rfl
      · skip
        refine lv_if_eq (tgt := 34) hx hb d_Re_countNodes_27 (by decide) (fun hc_129 => ?_) (fun hc_129 => absurd hc_129 (by decide))
        refine lv_iconst (v := 0) hx hb d_Re_countNodes_34 (by decide) ?_
        exact J35 0 _ _ _ _ ⟨wp_128, (lv_sub hl [0, 1, 2, 3] rfl), hH, hz, hLo, hT, hkf, zb0, F_r9, hRN, (fun z => absurd z (by decide))⟩
      · skip
        refine lv_if_eq (tgt := 34) hx hb d_Re_countNodes_27 (by decide) (fun hc_130 => absurd hc_130 (by decide)) (fun hc_130 => ?_)
        refine lv_iconst (v := 1) hx hb d_Re_countNodes_30 (by decide) ?_
        refine lv_goto (tgt := 35) hx hb d_Re_countNodes_31 (by decide) ?_
        exact J35 1 _ _ _ _ ⟨wp_128, (lv_sub hl [0, 1, 2, 3] rfl), hH, hz, hLo, hT, hkf, zb1, F_r9, hRN, hq7⟩
