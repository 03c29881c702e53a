set_option maxRecDepth 100000 in
theorem mw_425 : Cond.fieldLink R_Di 53 "WriteOnceDisc" "medium" "LWriteOnceDisc$Medium;" ∈ lw_g := lw_gin (List.mem_append_right _ (List.mem_of_getElem? (i := 239) rfl)) (by decide +kernel)
set_option maxRecDepth 100000 in
theorem mw_426 : Cond.code y_Me_takesDefect b_Me_takesDefect 2 (some .boolean) ∈ lw_g := lw_gin (List.mem_append_right _ (List.mem_of_getElem? (i := 271) rfl)) (by decide +kernel)
set_option maxRecDepth 100000 in
theorem mw_427 : Cond.methodLink R_Di 56 y_Me_takesDefect ∈ lw_g := lw_gin (List.mem_append_right _ (List.mem_of_getElem? (i := 268) rfl)) (by decide +kernel)
set_option maxRecDepth 100000 in
theorem mw_428 : Cond.instanceMethod y_Me_takesDefect ∈ lw_g := lw_gin (List.mem_append_right _ (List.mem_of_getElem? (i := 269) rfl)) (by decide +kernel)
set_option maxRecDepth 100000 in
theorem mw_429 : Cond.selects R_Me y_Me_takesDefect y_Me_takesDefect ∈ lw_g := lw_gin (List.mem_append_right _ (List.mem_of_getElem? (i := 270) rfl)) (by decide +kernel)
set_option maxRecDepth 100000 in
theorem mw_430 : Cond.fieldLink R_Di 10 "WriteOnceDisc" "writer" "LWriteOnceDisc$Writer;" ∈ lw_g := lw_gin (List.mem_append_right _ (List.mem_of_getElem? (i := 236) rfl)) (by decide +kernel)
set_option maxRecDepth 100000 in
theorem mw_431 : Cond.fieldLink R_Di 60 "WriteOnceDisc$Writer" "supply" "LWriteOnceDisc$Power;" ∈ lw_g := lw_gin (List.mem_append_right _ (List.mem_of_getElem? (i := 69) rfl)) (by decide +kernel)
set_option maxRecDepth 100000 in
theorem mw_432 : Cond.fieldLink R_Di 64 "WriteOnceDisc$Power" "left" "I" ∈ lw_g := lw_gin (List.mem_append_right _ (List.mem_of_getElem? (i := 43) rfl)) (by decide +kernel)
set_option maxRecDepth 100000 in
theorem mw_433 : Cond.methodLink R_Di 180 y_Me_has ∈ lw_g := lw_gin (List.mem_append_right _ (List.mem_of_getElem? (i := 768) rfl)) (by decide +kernel)
set_option maxRecDepth 100000 in
theorem mw_434 : Cond.fieldLink R_Di 166 "WriteOnceDisc$Medium" "sectors" "[LWriteOnceDisc$Sector;" ∈ lw_g := lw_gin (List.mem_append_right _ (List.mem_of_getElem? (i := 227) rfl)) (by decide +kernel)
set_option maxRecDepth 100000 in
theorem mw_435 : Cond.fieldLink R_Di 183 "WriteOnceDisc$Sector" "condition" "I" ∈ lw_g := lw_gin (List.mem_append_right _ (List.mem_of_getElem? (i := 212) rfl)) (by decide +kernel)
set_option maxRecDepth 100000 in
theorem mw_436 : Cond.methodLink R_Di 188 y_Me_fetch ∈ lw_g := lw_gin (List.mem_append_right _ (List.mem_of_getElem? (i := 773) rfl)) (by decide +kernel)
set_option maxRecDepth 100000 in
theorem mw_437 : Cond.fieldLink R_Di 195 "WriteOnceDisc$Power" "spent" "I" ∈ lw_g := lw_gin (List.mem_append_right _ (List.mem_of_getElem? (i := 47) rfl)) (by decide +kernel)
set_option maxRecDepth 100000 in
theorem mw_438 : Cond.code y_Me_change b_Me_change 5 (some .int) ∈ lw_g := lw_gin (List.mem_append_right _ (List.mem_of_getElem? (i := 781) rfl)) (by decide +kernel)
set_option maxRecDepth 100000 in
theorem mw_439 : Cond.methodLink R_Di 191 y_Me_change ∈ lw_g := lw_gin (List.mem_append_right _ (List.mem_of_getElem? (i := 778) rfl)) (by decide +kernel)
set_option maxRecDepth 100000 in
theorem mw_440 : Cond.instanceMethod y_Me_change ∈ lw_g := lw_gin (List.mem_append_right _ (List.mem_of_getElem? (i := 779) rfl)) (by decide +kernel)
set_option maxRecDepth 100000 in
theorem mw_441 : Cond.selects R_Me y_Me_change y_Me_change ∈ lw_g := lw_gin (List.mem_append_right _ (List.mem_of_getElem? (i := 780) rfl)) (by decide +kernel)
set_option maxRecDepth 100000 in
theorem mw_442 : Cond.fieldLink R_Di 69 "WriteOnceDisc$Power" "isLost" "Z" ∈ lw_g := lw_gin (List.mem_append_right _ (List.mem_of_getElem? (i := 45) rfl)) (by decide +kernel)
set_option maxRecDepth 100000 in
theorem mw_443 : Cond.fieldLink R_Di 26 "WriteOnceDisc" "planned" "LWriteOnceDisc$Nodes;" ∈ lw_g := lw_gin (List.mem_append_right _ (List.mem_of_getElem? (i := 238) rfl)) (by decide +kernel)
set_option maxRecDepth 100000 in
theorem mw_444 : Cond.methodLink R_Di 90 y_Ns_nodeOf ∈ lw_g := lw_gin (List.mem_append_right _ (List.mem_of_getElem? (i := 333) rfl)) (by decide +kernel)
set_option maxRecDepth 100000 in
theorem mw_445 : Cond.fieldLink R_Di 97 "WriteOnceDisc$Node" "isDirectory" "Z" ∈ lw_g := lw_gin (List.mem_append_right _ (List.mem_of_getElem? (i := 101) rfl)) (by decide +kernel)
set_option maxRecDepth 100000 in
theorem mw_446 : Cond.code y_Di_isContent b_Di_isContent 2 (some .boolean) ∈ lw_g := lw_gin (List.mem_append_right _ (List.mem_of_getElem? (i := 332) rfl)) (by decide +kernel)
set_option maxRecDepth 100000 in
theorem mw_447 : Cond.methodLink R_Di 86 y_Di_isContent ∈ lw_g := lw_gin (List.mem_append_right _ (List.mem_of_getElem? (i := 330) rfl)) (by decide +kernel)
set_option maxRecDepth 100000 in
theorem mw_448 : Cond.static y_Di_isContent ∈ lw_g := lw_gin (List.mem_append_right _ (List.mem_of_getElem? (i := 331) rfl)) (by decide +kernel)
set_option maxRecDepth 100000 in
theorem mw_449 : Cond.methodLink R_Di 93 y_No_takeContent ∈ lw_g := lw_gin (List.mem_append_right _ (List.mem_of_getElem? (i := 334) rfl)) (by decide +kernel)
set_option maxRecDepth 100000 in
theorem mw_450 : Cond.fieldLink R_Di 38 "WriteOnceDisc" "isOpen" "Z" ∈ lw_g := lw_gin (List.mem_append_right _ (List.mem_of_getElem? (i := 242) rfl)) (by decide +kernel)
set_option maxRecDepth 100000 in
theorem mw_451 : Cond.fieldLink R_Di 42 "WriteOnceDisc" "opened" "LWriteOnceDisc$Nodes;" ∈ lw_g := lw_gin (List.mem_append_right _ (List.mem_of_getElem? (i := 243) rfl)) (by decide +kernel)
theorem d_Di_defect_0 : decode b_Di_defect 0 = .ok (.aload_n 0, 1) := by decide +kernel
theorem d_Di_defect_1 : decode b_Di_defect 1 = .ok (.getfield 53, 3) := by decide +kernel
theorem d_Di_defect_4 : decode b_Di_defect 4 = .ok (.iload_n 1, 1) := by decide +kernel
theorem d_Di_defect_5 : decode b_Di_defect 5 = .ok (.invokevirtual 56, 3) := by decide +kernel
theorem d_Di_defect_8 : decode b_Di_defect 8 = .ok (.ireturn, 1) := by decide +kernel
theorem d_Di_power_0 : decode b_Di_power 0 = .ok (.aload_n 0, 1) := by decide +kernel
theorem d_Di_power_1 : decode b_Di_power 1 = .ok (.getfield 10, 3) := by decide +kernel
theorem d_Di_power_4 : decode b_Di_power 4 = .ok (.getfield 60, 3) := by decide +kernel
theorem d_Di_power_7 : decode b_Di_power 7 = .ok (.iload_n 1, 1) := by decide +kernel
theorem d_Di_power_8 : decode b_Di_power 8 = .ok (.ifCond .ge 7, 3) := by decide +kernel
theorem d_Di_power_15 : decode b_Di_power 15 = .ok (.iload_n 1, 1) := by decide +kernel
theorem d_Di_power_16 : decode b_Di_power 16 = .ok (.putfield 64, 3) := by decide +kernel
theorem d_Di_power_19 : decode b_Di_power 19 = .ok (.return_, 1) := by decide +kernel
theorem d_Di_power_11 : decode b_Di_power 11 = .ok (.iconst (-1), 1) := by decide +kernel
theorem d_Di_power_12 : decode b_Di_power 12 = .ok (.goto 4, 3) := by decide +kernel
theorem d_Di_state_0 : decode b_Di_state 0 = .ok (.aload_n 0, 1) := by decide +kernel
theorem d_Di_state_1 : decode b_Di_state 1 = .ok (.getfield 53, 3) := by decide +kernel
theorem d_Di_state_4 : decode b_Di_state 4 = .ok (.iload_n 1, 1) := by decide +kernel
theorem d_Di_state_5 : decode b_Di_state 5 = .ok (.invokevirtual 180, 3) := by decide +kernel
theorem d_Di_state_8 : decode b_Di_state 8 = .ok (.ifCond .eq 18, 3) := by decide +kernel
theorem d_Di_state_26 : decode b_Di_state 26 = .ok (.iconst (-1), 1) := by decide +kernel
theorem d_Di_state_27 : decode b_Di_state 27 = .ok (.ireturn, 1) := by decide +kernel
theorem d_Di_state_11 : decode b_Di_state 11 = .ok (.aload_n 0, 1) := by decide +kernel
theorem d_Di_state_12 : decode b_Di_state 12 = .ok (.getfield 53, 3) := by decide +kernel
theorem d_Di_state_15 : decode b_Di_state 15 = .ok (.getfield 166, 3) := by decide +kernel
theorem d_Di_state_18 : decode b_Di_state 18 = .ok (.iload_n 1, 1) := by decide +kernel
theorem d_Di_state_19 : decode b_Di_state 19 = .ok (.aaload, 1) := by decide +kernel
theorem d_Di_state_20 : decode b_Di_state 20 = .ok (.getfield 183, 3) := by decide +kernel
theorem d_Di_state_23 : decode b_Di_state 23 = .ok (.goto 4, 3) := by decide +kernel
theorem d_Di_byteAt_0 : decode b_Di_byteAt 0 = .ok (.aload_n 0, 1) := by decide +kernel
theorem d_Di_byteAt_1 : decode b_Di_byteAt 1 = .ok (.getfield 53, 3) := by decide +kernel
theorem d_Di_byteAt_4 : decode b_Di_byteAt 4 = .ok (.iload_n 1, 1) := by decide +kernel
theorem d_Di_byteAt_5 : decode b_Di_byteAt 5 = .ok (.invokevirtual 188, 3) := by decide +kernel
theorem d_Di_byteAt_8 : decode b_Di_byteAt 8 = .ok (.ireturn, 1) := by decide +kernel
theorem d_Di_writes_0 : decode b_Di_writes 0 = .ok (.aload_n 0, 1) := by decide +kernel
theorem d_Di_writes_1 : decode b_Di_writes 1 = .ok (.getfield 10, 3) := by decide +kernel
theorem d_Di_writes_4 : decode b_Di_writes 4 = .ok (.getfield 60, 3) := by decide +kernel
theorem d_Di_writes_7 : decode b_Di_writes 7 = .ok (.getfield 195, 3) := by decide +kernel
theorem d_Di_writes_10 : decode b_Di_writes 10 = .ok (.ireturn, 1) := by decide +kernel
theorem d_Di_spoil_0 : decode b_Di_spoil 0 = .ok (.aload_n 0, 1) := by decide +kernel
theorem d_Di_spoil_1 : decode b_Di_spoil 1 = .ok (.getfield 53, 3) := by decide +kernel
theorem d_Di_spoil_4 : decode b_Di_spoil 4 = .ok (.iload_n 1, 1) := by decide +kernel
theorem d_Di_spoil_5 : decode b_Di_spoil 5 = .ok (.iload_n 2, 1) := by decide +kernel
theorem d_Di_spoil_6 : decode b_Di_spoil 6 = .ok (.invokevirtual 191, 3) := by decide +kernel
theorem d_Di_spoil_9 : decode b_Di_spoil 9 = .ok (.ireturn, 1) := by decide +kernel
theorem d_Di_replace_0 : decode b_Di_replace 0 = .ok (.aload_n 0, 1) := by decide +kernel
theorem d_Di_replace_1 : decode b_Di_replace 1 = .ok (.getfield 10, 3) := by decide +kernel
theorem d_Di_replace_4 : decode b_Di_replace 4 = .ok (.getfield 60, 3) := by decide +kernel
theorem d_Di_replace_7 : decode b_Di_replace 7 = .ok (.getfield 69, 3) := by decide +kernel
theorem d_Di_replace_10 : decode b_Di_replace 10 = .ok (.ifCond .eq 6, 3) := by decide +kernel
theorem d_Di_replace_16 : decode b_Di_replace 16 = .ok (.aload_n 0, 1) := by decide +kernel
theorem d_Di_replace_17 : decode b_Di_replace 17 = .ok (.getfield 26, 3) := by decide +kernel
theorem d_Di_replace_20 : decode b_Di_replace 20 = .ok (.iload_n 1, 1) := by decide +kernel
theorem d_Di_replace_21 : decode b_Di_replace 21 = .ok (.invokevirtual 90, 3) := by decide +kernel
theorem d_Di_replace_24 : decode b_Di_replace 24 = .ok (.astore 4, 2) := by decide +kernel
theorem d_Di_replace_26 : decode b_Di_replace 26 = .ok (.aload 4, 2) := by decide +kernel
theorem d_Di_replace_28 : decode b_Di_replace 28 = .ok (.ifnull 19, 3) := by decide +kernel
theorem d_Di_replace_47 : decode b_Di_replace 47 = .ok (.bipush (-2), 2) := by decide +kernel
theorem d_Di_replace_49 : decode b_Di_replace 49 = .ok (.ireturn, 1) := by decide +kernel
theorem d_Di_replace_31 : decode b_Di_replace 31 = .ok (.aload 4, 2) := by decide +kernel
theorem d_Di_replace_33 : decode b_Di_replace 33 = .ok (.getfield 97, 3) := by decide +kernel
theorem d_Di_replace_36 : decode b_Di_replace 36 = .ok (.ifCond .ne 11, 3) := by decide +kernel
theorem d_Di_replace_39 : decode b_Di_replace 39 = .ok (.iload_n 2, 1) := by decide +kernel
theorem d_Di_replace_40 : decode b_Di_replace 40 = .ok (.iload_n 3, 1) := by decide +kernel
theorem d_Di_replace_41 : decode b_Di_replace 41 = .ok (.invokestatic 86, 3) := by decide +kernel
theorem d_Di_replace_44 : decode b_Di_replace 44 = .ok (.ifCond .ne 6, 3) := by decide +kernel
theorem d_Di_replace_50 : decode b_Di_replace 50 = .ok (.aload 4, 2) := by decide +kernel
theorem d_Di_replace_52 : decode b_Di_replace 52 = .ok (.iload_n 2, 1) := by decide +kernel
theorem d_Di_replace_53 : decode b_Di_replace 53 = .ok (.iload_n 3, 1) := by decide +kernel
theorem d_Di_replace_54 : decode b_Di_replace 54 = .ok (.invokevirtual 93, 3) := by decide +kernel
theorem d_Di_replace_57 : decode b_Di_replace 57 = .ok (.iconst 0, 1) := by decide +kernel
theorem d_Di_replace_58 : decode b_Di_replace 58 = .ok (.ireturn, 1) := by decide +kernel
theorem d_Di_replace_13 : decode b_Di_replace 13 = .ok (.bipush (-4), 2) := by decide +kernel
theorem d_Di_replace_15 : decode b_Di_replace 15 = .ok (.ireturn, 1) := by decide +kernel
theorem d_Di_openedNode_0 : decode b_Di_openedNode 0 = .ok (.aload_n 0, 1) := by decide +kernel
theorem d_Di_openedNode_1 : decode b_Di_openedNode 1 = .ok (.getfield 38, 3) := by decide +kernel
theorem d_Di_openedNode_4 : decode b_Di_openedNode 4 = .ok (.ifCond .eq 14, 3) := by decide +kernel
theorem d_Di_openedNode_18 : decode b_Di_openedNode 18 = .ok (.aconst_null, 1) := by decide +kernel
theorem d_Di_openedNode_19 : decode b_Di_openedNode 19 = .ok (.areturn, 1) := by decide +kernel
theorem d_Di_openedNode_7 : decode b_Di_openedNode 7 = .ok (.aload_n 0, 1) := by decide +kernel
theorem d_Di_openedNode_8 : decode b_Di_openedNode 8 = .ok (.getfield 42, 3) := by decide +kernel
theorem d_Di_openedNode_11 : decode b_Di_openedNode 11 = .ok (.iload_n 1, 1) := by decide +kernel
theorem d_Di_openedNode_12 : decode b_Di_openedNode 12 = .ok (.invokevirtual 90, 3) := by decide +kernel
theorem d_Di_openedNode_15 : decode b_Di_openedNode 15 = .ok (.goto 4, 3) := by decide +kernel
set_option maxHeartbeats 4000000 in
set_option maxRecDepth 100000 in
theorem x_defect (l : Launch) (D : va_G) (t : Nat → ClassId) (G : hG) (ak av : Nat → Nat) (h : hM) (τ : tM) (n : Nat) (x9 : Nat) (s9 : Int32) (hn : n ≤ 200) (hT : TI τ t n h) (T_x9 : τ x9 = (1, 0)) : Met l y_Di_defect (.code y_Di_defect b_Di_defect 2 (some .boolean) :: lw_g) { frames := 2, cells := 0, slots := 0, locals := 42 } (hP (kE D t G ak av) D vwCl G h [.ref x9, .int s9]) (hQi D vwCl G (fun r h' => zb r ∧ TI τ t n h' ∧ kf τ [(13, 0)] [] h h' ∧ nlp τ h h' ∧ ((r = 0 ∧ (s9.toInt < 0 ∨ (n : Int) ≤ s9.toInt)) ∨ (r = 1 ∧ 0 ≤ s9.toInt ∧ s9.toInt < n)))) 0 0 G.P := by
  refine Met.ofW (cc := b_Di_defect) (maxL := 2) (ret := (some .boolean)) (by decide) rfl ?_
  intro p e s m args below meth c s₁ Bd hml hv
  obtain ⟨ha, hE, hH⟩ := hv
  have hx := Bd.exec
  have hb := Bd.bytes
  have hr := Bd.returns
  have hts : ∀ w ∈ lw_g, w.before args s = true := fun w hw => atoms_spec (ws := (.code y_Di_defect b_Di_defect 2 (some .boolean) :: lw_g)) Bd.pre w (List.mem_cons_of_mem _ hw)
  have hown : s.vm.findClass R_Di = some m.cls := findClass_of_methodNamed Bd.named
  have hlocks := Bd.notSynchronized
  have hK := hE.1
  have hH0 := hH
  have hLo : hLc G.P [] := hLc_nil
  have hz : s.heap.size ≤ s.heap.size := Nat.le_refl _
  have hl := lv_entry [.ref x9, .int s9] (n := 2) (Nat.le_of_ble_eq_true rfl)
  rw [show entryFrame m args 2 = F0 m 0 ((lg_sl [.ref x9, .int s9] ++ List.replicate (2 - (lg_sl [.ref x9, .int s9]).length) Slot.unset).toArray) [] from (by rw [ha]; exact lg_entry_eq m [.ref x9, .int s9] 2)]
  generalize (lg_sl [.ref x9, .int s9] ++ List.replicate (2 - (lg_sl [.ref x9, .int s9]).length) Slot.unset).toArray = ls at hl ⊢
  have hl : lv_has ls 2 [(0, .ref x9), (1, .int s9)] := hl
  have hkf : kf τ [(13, 0)] [] h h := kf_rf
  have hnl : nlp τ h h := nlp_rf
  refine lv_aload_n hx hb d_Di_defect_0 rfl (lv_at hl 0 rfl) ?_
  obtain ⟨v_1, v_3, v_5, v_7, v_9, v_11, v_12, v_14, v_16, F_x9, c_2, c_4, c_6, c_8, c_10, c_13, c_15, c_17⟩ := TI_disc hT T_x9
  refine hm_get (ci := 8) (v := .ref v_7) (C := R_Di) (T := F_Di) (N := 9) hx hb hts ig_Di hown hK hH F_x9 rfl 3 (by decide) (hts _ mw_425) (fun _ h9 => h9) rfl d_Di_defect_1 ?_
  refine lv_iload_n hx hb d_Di_defect_4 rfl (lv_at hl 1 rfl) ?_
  obtain ⟨v_18, v_20, F_v_7, c_19⟩ := TI_med hT c_8
  refine hm_calli (va_runV (As := [.int s9]) (b := v_7) (rest := []) ⟨hx, hb, hml, hown, hts⟩ (t_takesDef l D t G ak av h τ n v_7 s9  hn hT c_8) ⟨cw9B 1 hts mw_426 mw_427 mw_32 rfl rfl (by decide +kernel) ⟨Nat.le_of_ble_eq_true rfl, Nat.le_of_ble_eq_true rfl⟩, hts _ mw_428, hts _ mw_429⟩ (hP_V (q := (R_Me, F_Me, 2)) kE_ok hE hK hH F_v_7 rfl) rfl rfl hl.1 rfl (lv_room (Nat.le_of_ble_eq_true rfl)) d_Di_defect_5 ⟨Nat.le_of_ble_eq_true rfl, Nat.le_of_ble_eq_true rfl⟩) hLo (fun r_21 h_22 H_23 locs hp_25 hH z_24 hLo => ?_)
  have hz : s.heap.size ≤ H_23.size := Nat.le_trans hz z_24
  have hT0 := hT
  obtain ⟨c_26, hT, kf_28, xk_29, xp_27⟩ := hp_25
  have F_x9 : h_22 x9 = some (.inr (8, [.ref v_1, .ref v_3, .ref v_5, .ref v_7, va_rf v_9, .int v_11, .int v_12, .ref v_14, .ref v_16])) := kf_at kf_28 T_x9 (by decide) (tnc (by decide) tn0) nm0 F_x9
  have F_v_7 : h_22 v_7 = some (.inr (0, [.ref v_18, .int v_20])) := kf_at kf_28 c_8 (by decide) (tnc (by decide) tn0) nm0 F_v_7
  have hnl : nlp τ h h_22 := nlp_tr hnl xk_29
  have hkf : kf τ [(13, 0)] [] h h_22 := kf_tr hkf kf_28 (List.forall_mem_cons.mpr ⟨List.mem_cons_self, List.forall_mem_nil _⟩) (List.forall_mem_nil _)
  exact W.zret (v := r_21) hx hb hr (zb_n c_26) (fun t9 ht hW => ⟨r_21, h_22, rfl, ⟨c_26, hT, hkf, hnl, xp_27⟩, by rw [ht]; exact hH, by rw [ht]; exact hz⟩) hLo d_Di_defect_8

set_option maxHeartbeats 4000000 in
set_option maxRecDepth 100000 in
theorem x_power (l : Launch) (D : va_G) (t : Nat → ClassId) (G : hG) (ak av : Nat → Nat) (h : hM) (τ : tM) (n : Nat) (x9 : Nat) (a9 : Int32) (hn : n ≤ 200) (hT : TI τ t n h) (T_x9 : τ x9 = (1, 0)) : Met l y_Di_power (.code y_Di_power b_Di_power 2 none :: lw_g) { frames := 0, cells := 0, slots := 0, locals := 0 } (hP (kE D t G ak av) D vwCl G h [.ref x9, .int a9]) (hQv D vwCl G (fun h' => TI τ t n h' ∧ kf τ [(3, 0)] [] h h')) 0 0 G.P := by
  refine Met.ofW (cc := b_Di_power) (maxL := 2) (ret := none) (by decide) rfl ?_
  intro p e s m args below meth c s₁ Bd hml hv
  obtain ⟨ha, hE, hH⟩ := hv
  have hx := Bd.exec
  have hb := Bd.bytes
  have hr := Bd.returns
  have hts : ∀ w ∈ lw_g, w.before args s = true := fun w hw => atoms_spec (ws := (.code y_Di_power b_Di_power 2 none :: lw_g)) Bd.pre w (List.mem_cons_of_mem _ hw)
  have hown : s.vm.findClass R_Di = some m.cls := findClass_of_methodNamed Bd.named
  have hlocks := Bd.notSynchronized
  have hK := hE.1
  have hH0 := hH
  have hLo : hLc G.P [] := hLc_nil
  have hz : s.heap.size ≤ s.heap.size := Nat.le_refl _
  have hl := lv_entry [.ref x9, .int a9] (n := 2) (Nat.le_of_ble_eq_true rfl)
  rw [show entryFrame m args 2 = F0 m 0 ((lg_sl [.ref x9, .int a9] ++ List.replicate (2 - (lg_sl [.ref x9, .int a9]).length) Slot.unset).toArray) [] from (by rw [ha]; exact lg_entry_eq m [.ref x9, .int a9] 2)]
  generalize (lg_sl [.ref x9, .int a9] ++ List.replicate (2 - (lg_sl [.ref x9, .int a9]).length) Slot.unset).toArray = ls at hl ⊢
  have hl : lv_has ls 2 [(0, .ref x9), (1, .int a9)] := hl
  have hkf : kf τ [(3, 0)] [] h h := kf_rf
  refine lv_aload_n hx hb d_Di_power_0 rfl (lv_at hl 0 rfl) ?_
  obtain ⟨v_1, v_3, v_5, v_7, v_9, v_11, v_12, v_14, v_16, F_x9, c_2, c_4, c_6, c_8, c_10, c_13, c_15, c_17⟩ := TI_disc hT T_x9
  refine hm_get (ci := 8) (v := .ref v_1) (C := R_Di) (T := F_Di) (N := 9) hx hb hts ig_Di hown hK hH F_x9 rfl 0 (by decide) (hts _ mw_430) (fun _ h9 => h9) rfl d_Di_power_1 ?_
  obtain ⟨v_18, v_20, F_v_1, c_19, c_21⟩ := TI_wri hT c_2
  refine hm_get (ci := 7) (v := .ref v_18) (C := R_Wr) (T := F_Wr) (N := 2) hx hb hts ig_Wr hown hK hH F_v_1 rfl 0 (by decide) (hts _ mw_431) (fun _ h9 => h9) rfl d_Di_power_4 ?_
  refine lv_iload_n hx hb d_Di_power_7 rfl (lv_at hl 1 rfl) ?_
  refine lv_if_ge (tgt := 15) hx hb d_Di_power_8 (by decide) (fun hc_22 => ?_) (fun hc_22 => ?_)
  · skip
    have ic_23 : 0 ≤ a9.toInt := iLe hc_22
    refine lv_iload_n hx hb d_Di_power_15 rfl (lv_at hl 1 rfl) ?_
    obtain ⟨v_24, v_25, v_27, F_v_18, c_26⟩ := TI_pow hT c_19
    refine hm_put (ci := 4) (v := .int a9) (ty := .int) (C := R_Po) (T := F_Po) (N := 3) hx hb hts ig_Po t_Po tk_Po nm_Po hown hK hH hLo F_v_18 rfl 0 (by decide) (hts _ mw_432) (fun _ h9 => h9) rfl (by decide +kernel) rfl rfl (Nat.le_of_ble_eq_true rfl) d_Di_power_16 (fun H_28 locs hH z_29 hLo => ?_)
    have hz : s.heap.size ≤ H_28.size := by rw [z_29]; exact hz
    obtain ⟨h_30, e_31⟩ : ∃ z, z = hu h v_18 (.inr (4, [.int a9, .int v_25, .int v_27])) := ⟨_, rfl⟩
    have hH : hm D vwCl G h_30 H_28 := by rw [e_31]; exact hH
    have F_x9 : h_30 x9 = some (.inr (8, [.ref v_1, .ref v_3, .ref v_5, .ref v_7, va_rf v_9, .int v_11, .int v_12, .ref v_14, .ref v_16])) := by rw [e_31, hu_n (tne T_x9 c_19 (by decide))]; exact F_x9
    have F_v_1 : h_30 v_1 = some (.inr (7, [.ref v_18, .ref v_20])) := by rw [e_31, hu_n (tne c_2 c_19 (by decide))]; exact F_v_1
    have F_v_18 : h_30 v_18 = some (.inr (4, [.int a9, .int v_25, .int v_27])) := by rw [e_31]; exact hu_s _ _ _
    have hT : TI τ t n h_30 := by rw [e_31]; exact TI_put hT c_19 (by decide) ⟨a9, v_25, v_27, rfl, c_26⟩
    have hkf : kf τ [(3, 0)] [] h h_30 := by rw [e_31]; exact kf_put hkf c_19 List.mem_cons_self
    exact W.vret hx hb hr (fun t9 ht hW => ⟨h_30, rfl, ⟨hT, hkf⟩, by rw [ht]; exact hH, by rw [ht]; exact hz⟩) hLo d_Di_power_19
  · skip
    have ic_32 : a9.toInt < 0 := iNe hc_22
    refine lv_iconst (v := -1) hx hb d_Di_power_11 (by decide) ?_
    refine lv_goto (tgt := 16) hx hb d_Di_power_12 (by decide) ?_
    obtain ⟨v_33, v_34, v_36, F_v_18, c_35⟩ := TI_pow hT c_19
    refine hm_put (ci := 4) (v := .int (-1)) (ty := .int) (C := R_Po) (T := F_Po) (N := 3) hx hb hts ig_Po t_Po tk_Po nm_Po hown hK hH hLo F_v_18 rfl 0 (by decide) (hts _ mw_432) (fun _ h9 => h9) rfl (by decide +kernel) rfl rfl (Nat.le_of_ble_eq_true rfl) d_Di_power_16 (fun H_37 locs hH z_38 hLo => ?_)
    have hz : s.heap.size ≤ H_37.size := by rw [z_38]; exact hz
    obtain ⟨h_39, e_40⟩ : ∃ z, z = hu h v_18 (.inr (4, [.int (-1), .int v_34, .int v_36])) := ⟨_, rfl⟩
    have hH : hm D vwCl G h_39 H_37 := by rw [e_40]; exact hH
    have F_x9 : h_39 x9 = some (.inr (8, [.ref v_1, .ref v_3, .ref v_5, .ref v_7, va_rf v_9, .int v_11, .int v_12, .ref v_14, .ref v_16])) := by rw [e_40, hu_n (tne T_x9 c_19 (by decide))]; exact F_x9
    have F_v_1 : h_39 v_1 = some (.inr (7, [.ref v_18, .ref v_20])) := by rw [e_40, hu_n (tne c_2 c_19 (by decide))]; exact F_v_1
    have F_v_18 : h_39 v_18 = some (.inr (4, [.int (-1), .int v_34, .int v_36])) := by rw [e_40]; exact hu_s _ _ _
    have hT : TI τ t n h_39 := by rw [e_40]; exact TI_put hT c_19 (by decide) ⟨(-1), v_34, v_36, rfl, c_35⟩
    have hkf : kf τ [(3, 0)] [] h h_39 := by rw [e_40]; exact kf_put hkf c_19 List.mem_cons_self
    exact W.vret hx hb hr (fun t9 ht hW => ⟨h_39, rfl, ⟨hT, hkf⟩, by rw [ht]; exact hH, by rw [ht]; exact hz⟩) hLo d_Di_power_19

set_option maxHeartbeats 4000000 in
set_option maxRecDepth 100000 in
theorem x_state (l : Launch) (D : va_G) (t : Nat → ClassId) (G : hG) (ak av : Nat → Nat) (h : hM) (τ : tM) (n : Nat) (x9 : Nat) (s9 : Int32) (hn : n ≤ 200) (hT : TI τ t n h) (T_x9 : τ x9 = (1, 0)) : Met l y_Di_state (.code y_Di_state b_Di_state 2 (some .int) :: lw_g) { frames := 1, cells := 0, slots := 0, locals := 21 } (hP (kE D t G ak av) D vwCl G h [.ref x9, .int s9]) (hQi D vwCl G (fun r h' => h = h')) 0 0 nof := by
  refine Met.ofW (cc := b_Di_state) (maxL := 2) (ret := (some .int)) (by decide) rfl ?_
  intro p e s m args below meth c s₁ Bd hml hv
  obtain ⟨ha, hE, hH⟩ := hv
  have hx := Bd.exec
  have hb := Bd.bytes
  have hr := Bd.returns
  have hts : ∀ w ∈ lw_g, w.before args s = true := fun w hw => atoms_spec (ws := (.code y_Di_state b_Di_state 2 (some .int) :: lw_g)) Bd.pre w (List.mem_cons_of_mem _ hw)
  have hown : s.vm.findClass R_Di = some m.cls := findClass_of_methodNamed Bd.named
  have hlocks := Bd.notSynchronized
  have hK := hE.1
  have hH0 := hH
  have hLo : hLc nof [] := hLc_nil
  have hz : s.heap.size ≤ s.heap.size := Nat.le_refl _
  have hl := lv_entry [.ref x9, .int s9] (n := 2) (Nat.le_of_ble_eq_true rfl)
  rw [show entryFrame m args 2 = F0 m 0 ((lg_sl [.ref x9, .int s9] ++ List.replicate (2 - (lg_sl [.ref x9, .int s9]).length) Slot.unset).toArray) [] from (by rw [ha]; exact lg_entry_eq m [.ref x9, .int s9] 2)]
  generalize (lg_sl [.ref x9, .int s9] ++ List.replicate (2 - (lg_sl [.ref x9, .int s9]).length) Slot.unset).toArray = ls at hl ⊢
  have hl : lv_has ls 2 [(0, .ref x9), (1, .int s9)] := hl
  refine lv_aload_n hx hb d_Di_state_0 rfl (lv_at hl 0 rfl) ?_
  obtain ⟨v_1, v_3, v_5, v_7, v_9, v_11, v_12, v_14, v_16, F_x9, c_2, c_4, c_6, c_8, c_10, c_13, c_15, c_17⟩ := TI_disc hT T_x9
  refine hm_get (ci := 8) (v := .ref v_7) (C := R_Di) (T := F_Di) (N := 9) hx hb hts ig_Di hown hK hH F_x9 rfl 3 (by decide) (hts _ mw_425) (fun _ h9 => h9) rfl d_Di_state_1 ?_
  refine lv_iload_n hx hb d_Di_state_4 rfl (lv_at hl 1 rfl) ?_
  obtain ⟨v_18, v_20, F_v_7, c_19⟩ := TI_med hT c_8
  refine hm_callPi (va_runV (As := [.int s9]) (b := v_7) (rest := []) ⟨hx, hb, hml, hown, hts⟩ (t_has l D t G ak av h τ n v_7 s9  hn hT c_8) ⟨cw9B 1 hts mw_230 mw_433 mw_32 rfl rfl (by decide +kernel) ⟨Nat.le_of_ble_eq_true rfl, Nat.le_of_ble_eq_true rfl⟩, hts _ mw_232, hts _ mw_233⟩ (hP_V (q := (R_Me, F_Me, 2)) kE_ok hE hK hH F_v_7 rfl) rfl rfl hl.1 rfl (lv_room (Nat.le_of_ble_eq_true rfl)) d_Di_state_5 ⟨Nat.le_of_ble_eq_true rfl, Nat.le_of_ble_eq_true rfl⟩) (fun r_21 h_22 H_23 hp_25  hH z_24 => ?_)
  have hz : s.heap.size ≤ H_23.size := Nat.le_trans hz z_24
  obtain ⟨c_26, xp_27, rfl⟩ := hp_25
  rcases xp_27 with ⟨rfl, ix9⟩ | ⟨rfl, ix9, iy9⟩
  · skip
    refine lv_if_eq (tgt := 26) hx hb d_Di_state_8 (by decide) (fun hc_28 => ?_) (fun hc_28 => absurd hc_28 (by decide))
    refine lv_iconst (v := -1) hx hb d_Di_state_26 (by decide) ?_
    exact W.iret (v := (-1)) hx hb hr (fun t9 ht hW => ⟨(-1), h, rfl, rfl, by rw [ht]; exact hH, by rw [ht]; exact hz⟩) hLo d_Di_state_27
  · skip
    refine lv_if_eq (tgt := 26) hx hb d_Di_state_8 (by decide) (fun hc_29 => absurd hc_29 (by decide)) (fun hc_29 => ?_)
    refine lv_aload_n hx hb d_Di_state_11 rfl (lv_at hl 0 rfl) ?_
    refine hm_get (ci := 8) (v := .ref v_7) (C := R_Di) (T := F_Di) (N := 9) hx hb hts ig_Di hown hK hH F_x9 rfl 3 (by decide) (hts _ mw_425) (fun _ h9 => h9) rfl d_Di_state_12 ?_
    refine hm_get (ci := 0) (v := .ref v_18) (C := R_Me) (T := F_Me) (N := 2) hx hb hts ig_Me hown hK hH F_v_7 rfl 0 (by decide) (hts _ mw_434) (fun _ h9 => h9) rfl d_Di_state_15 ?_
    refine lv_iload_n hx hb d_Di_state_18 rfl (lv_at hl 1 rfl) ?_
    obtain ⟨g_30, F_v_18, c_31⟩ := TI_secs hT c_19
    obtain ⟨a_32, e_33, T_34⟩ := c_31 s9.toNatClampNeg (iCl (by omega) (by omega))
    refine hm_aald (v := .ref a_32) hx hb hK hH 5 F_v_18 (C := R_Se) rfl (iIn (by omega) (by omega)) (by rw [e_33]; rfl) d_Di_state_19 ?_
    obtain ⟨v_35, v_36, v_38, F_a_32, c_37, c_39⟩ := TI_sec hT T_34
    refine hm_get (ci := 6) (v := .int v_35) (C := R_Se) (T := F_Se) (N := 3) hx hb hts ig_Se hown hK hH F_a_32 rfl 0 (by decide) (hts _ mw_435) (fun _ h9 => h9) rfl d_Di_state_20 ?_
    refine lv_goto (tgt := 27) hx hb d_Di_state_23 (by decide) ?_
    exact W.iret (v := v_35) hx hb hr (fun t9 ht hW => ⟨v_35, h, rfl, rfl, by rw [ht]; exact hH, by rw [ht]; exact hz⟩) hLo d_Di_state_27

set_option maxHeartbeats 4000000 in
set_option maxRecDepth 100000 in
theorem x_byteAt (l : Launch) (D : va_G) (t : Nat → ClassId) (G : hG) (ak av : Nat → Nat) (h : hM) (τ : tM) (n : Nat) (x9 : Nat) (a9 : Int32) (hn : n ≤ 200) (hT : TI τ t n h) (T_x9 : τ x9 = (1, 0)) : Met l y_Di_byteAt (.code y_Di_byteAt b_Di_byteAt 2 (some .int) :: lw_g) { frames := 1, cells := 0, slots := 0, locals := 23 } (hP (kE D t G ak av) D vwCl G h [.ref x9, .int a9]) (hQi D vwCl G (fun r h' => h = h')) 0 0 nof := by
  refine Met.ofW (cc := b_Di_byteAt) (maxL := 2) (ret := (some .int)) (by decide) rfl ?_
  intro p e s m args below meth c s₁ Bd hml hv
  obtain ⟨ha, hE, hH⟩ := hv
  have hx := Bd.exec
  have hb := Bd.bytes
  have hr := Bd.returns
  have hts : ∀ w ∈ lw_g, w.before args s = true := fun w hw => atoms_spec (ws := (.code y_Di_byteAt b_Di_byteAt 2 (some .int) :: lw_g)) Bd.pre w (List.mem_cons_of_mem _ hw)
  have hown : s.vm.findClass R_Di = some m.cls := findClass_of_methodNamed Bd.named
  have hlocks := Bd.notSynchronized
  have hK := hE.1
  have hH0 := hH
  have hLo : hLc nof [] := hLc_nil
  have hz : s.heap.size ≤ s.heap.size := Nat.le_refl _
  have hl := lv_entry [.ref x9, .int a9] (n := 2) (Nat.le_of_ble_eq_true rfl)
  rw [show entryFrame m args 2 = F0 m 0 ((lg_sl [.ref x9, .int a9] ++ List.replicate (2 - (lg_sl [.ref x9, .int a9]).length) Slot.unset).toArray) [] from (by rw [ha]; exact lg_entry_eq m [.ref x9, .int a9] 2)]
  generalize (lg_sl [.ref x9, .int a9] ++ List.replicate (2 - (lg_sl [.ref x9, .int a9]).length) Slot.unset).toArray = ls at hl ⊢
  have hl : lv_has ls 2 [(0, .ref x9), (1, .int a9)] := hl
  refine lv_aload_n hx hb d_Di_byteAt_0 rfl (lv_at hl 0 rfl) ?_
  obtain ⟨v_1, v_3, v_5, v_7, v_9, v_11, v_12, v_14, v_16, F_x9, c_2, c_4, c_6, c_8, c_10, c_13, c_15, c_17⟩ := TI_disc hT T_x9
  refine hm_get (ci := 8) (v := .ref v_7) (C := R_Di) (T := F_Di) (N := 9) hx hb hts ig_Di hown hK hH F_x9 rfl 3 (by decide) (hts _ mw_425) (fun _ h9 => h9) rfl d_Di_byteAt_1 ?_
  refine lv_iload_n hx hb d_Di_byteAt_4 rfl (lv_at hl 1 rfl) ?_
  obtain ⟨v_18, v_20, F_v_7, c_19⟩ := TI_med hT c_8
  refine hm_callPi (va_runV (As := [.int a9]) (b := v_7) (rest := []) ⟨hx, hb, hml, hown, hts⟩ (t_fetch l D t G ak av h τ n v_7 a9  hn hT c_8) ⟨cw9B 1 hts mw_31 mw_436 mw_32 rfl rfl (by decide +kernel) ⟨Nat.le_of_ble_eq_true rfl, Nat.le_of_ble_eq_true rfl⟩, hts _ mw_34, hts _ mw_35⟩ (hP_V (q := (R_Me, F_Me, 2)) kE_ok hE hK hH F_v_7 rfl) rfl rfl hl.1 rfl (lv_room (Nat.le_of_ble_eq_true rfl)) d_Di_byteAt_5 ⟨Nat.le_of_ble_eq_true rfl, Nat.le_of_ble_eq_true rfl⟩) (fun r_21 h_22 H_23 hp_25  hH z_24 => ?_)
  have hz : s.heap.size ≤ H_23.size := Nat.le_trans hz z_24
  obtain ⟨xp_26, rfl⟩ := hp_25
  exact W.iret (v := r_21) hx hb hr (fun t9 ht hW => ⟨r_21, h, rfl, rfl, by rw [ht]; exact hH, by rw [ht]; exact hz⟩) hLo d_Di_byteAt_8

set_option maxHeartbeats 4000000 in
set_option maxRecDepth 100000 in
theorem x_writes (l : Launch) (D : va_G) (t : Nat → ClassId) (G : hG) (ak av : Nat → Nat) (h : hM) (τ : tM) (n : Nat) (x9 : Nat) (hn : n ≤ 200) (hT : TI τ t n h) (T_x9 : τ x9 = (1, 0)) : Met l y_Di_writes (.code y_Di_writes b_Di_writes 1 (some .int) :: lw_g) { frames := 0, cells := 0, slots := 0, locals := 0 } (hP (kE D t G ak av) D vwCl G h [.ref x9]) (hQi D vwCl G (fun r h' => h = h')) 0 0 nof := by
  refine Met.ofW (cc := b_Di_writes) (maxL := 1) (ret := (some .int)) (by decide) rfl ?_
  intro p e s m args below meth c s₁ Bd hml hv
  obtain ⟨ha, hE, hH⟩ := hv
  have hx := Bd.exec
  have hb := Bd.bytes
  have hr := Bd.returns
  have hts : ∀ w ∈ lw_g, w.before args s = true := fun w hw => atoms_spec (ws := (.code y_Di_writes b_Di_writes 1 (some .int) :: lw_g)) Bd.pre w (List.mem_cons_of_mem _ hw)
  have hown : s.vm.findClass R_Di = some m.cls := findClass_of_methodNamed Bd.named
  have hlocks := Bd.notSynchronized
  have hK := hE.1
  have hH0 := hH
  have hLo : hLc nof [] := hLc_nil
  have hz : s.heap.size ≤ s.heap.size := Nat.le_refl _
  have hl := lv_entry [.ref x9] (n := 1) (Nat.le_of_ble_eq_true rfl)
  rw [show entryFrame m args 1 = F0 m 0 ((lg_sl [.ref x9] ++ List.replicate (1 - (lg_sl [.ref x9]).length) Slot.unset).toArray) [] from (by rw [ha]; exact lg_entry_eq m [.ref x9] 1)]
  generalize (lg_sl [.ref x9] ++ List.replicate (1 - (lg_sl [.ref x9]).length) Slot.unset).toArray = ls at hl ⊢
  have hl : lv_has ls 1 [(0, .ref x9)] := hl
  refine lv_aload_n hx hb d_Di_writes_0 rfl (lv_at hl 0 rfl) ?_
  obtain ⟨v_1, v_3, v_5, v_7, v_9, v_11, v_12, v_14, v_16, F_x9, c_2, c_4, c_6, c_8, c_10, c_13, c_15, c_17⟩ := TI_disc hT T_x9
  refine hm_get (ci := 8) (v := .ref v_1) (C := R_Di) (T := F_Di) (N := 9) hx hb hts ig_Di hown hK hH F_x9 rfl 0 (by decide) (hts _ mw_430) (fun _ h9 => h9) rfl d_Di_writes_1 ?_
  obtain ⟨v_18, v_20, F_v_1, c_19, c_21⟩ := TI_wri hT c_2
  refine hm_get (ci := 7) (v := .ref v_18) (C := R_Wr) (T := F_Wr) (N := 2) hx hb hts ig_Wr hown hK hH F_v_1 rfl 0 (by decide) (hts _ mw_431) (fun _ h9 => h9) rfl d_Di_writes_4 ?_
  obtain ⟨v_22, v_23, v_25, F_v_18, c_24⟩ := TI_pow hT c_19
  refine hm_get (ci := 4) (v := .int v_25) (C := R_Po) (T := F_Po) (N := 3) hx hb hts ig_Po hown hK hH F_v_18 rfl 2 (by decide) (hts _ mw_437) (fun _ h9 => h9) rfl d_Di_writes_7 ?_
  exact W.iret (v := v_25) hx hb hr (fun t9 ht hW => ⟨v_25, h, rfl, rfl, by rw [ht]; exact hH, by rw [ht]; exact hz⟩) hLo d_Di_writes_10

set_option maxHeartbeats 4000000 in
set_option maxRecDepth 100000 in
theorem x_spoil (l : Launch) (D : va_G) (t : Nat → ClassId) (G : hG) (ak av : Nat → Nat) (h : hM) (τ : tM) (n : Nat) (x9 : Nat) (a9 : Int32) (v9 : Int32) (hn : n ≤ 200) (hT : TI τ t n h) (T_x9 : τ x9 = (1, 0)) : Met l y_Di_spoil (.code y_Di_spoil b_Di_spoil 3 (some .int) :: lw_g) { frames := 2, cells := 0, slots := 0, locals := 47 } (hP (kE D t G ak av) D vwCl G h [.ref x9, .int a9, .int v9]) (hQi D vwCl G (fun r h' => TI τ t n h' ∧ kf τ [] [] h h')) 0 0 G.P := by
  refine Met.ofW (cc := b_Di_spoil) (maxL := 3) (ret := (some .int)) (by decide) rfl ?_
  intro p e s m args below meth c s₁ Bd hml hv
  obtain ⟨ha, hE, hH⟩ := hv
  have hx := Bd.exec
  have hb := Bd.bytes
  have hr := Bd.returns
  have hts : ∀ w ∈ lw_g, w.before args s = true := fun w hw => atoms_spec (ws := (.code y_Di_spoil b_Di_spoil 3 (some .int) :: lw_g)) Bd.pre w (List.mem_cons_of_mem _ hw)
  have hown : s.vm.findClass R_Di = some m.cls := findClass_of_methodNamed Bd.named
  have hlocks := Bd.notSynchronized
  have hK := hE.1
  have hH0 := hH
  have hLo : hLc G.P [] := hLc_nil
  have hz : s.heap.size ≤ s.heap.size := Nat.le_refl _
  have hl := lv_entry [.ref x9, .int a9, .int v9] (n := 3) (Nat.le_of_ble_eq_true rfl)
  rw [show entryFrame m args 3 = F0 m 0 ((lg_sl [.ref x9, .int a9, .int v9] ++ List.replicate (3 - (lg_sl [.ref x9, .int a9, .int v9]).length) Slot.unset).toArray) [] from (by rw [ha]; exact lg_entry_eq m [.ref x9, .int a9, .int v9] 3)]
  generalize (lg_sl [.ref x9, .int a9, .int v9] ++ List.replicate (3 - (lg_sl [.ref x9, .int a9, .int v9]).length) Slot.unset).toArray = ls at hl ⊢
  have hl : lv_has ls 3 [(0, .ref x9), (1, .int a9), (2, .int v9)] := hl
  have hkf : kf τ [] [] h h := kf_rf
  refine lv_aload_n hx hb d_Di_spoil_0 rfl (lv_at hl 0 rfl) ?_
  obtain ⟨v_1, v_3, v_5, v_7, v_9, v_11, v_12, v_14, v_16, F_x9, c_2, c_4, c_6, c_8, c_10, c_13, c_15, c_17⟩ := TI_disc hT T_x9
  refine hm_get (ci := 8) (v := .ref v_7) (C := R_Di) (T := F_Di) (N := 9) hx hb hts ig_Di hown hK hH F_x9 rfl 3 (by decide) (hts _ mw_425) (fun _ h9 => h9) rfl d_Di_spoil_1 ?_
  refine lv_iload_n hx hb d_Di_spoil_4 rfl (lv_at hl 1 rfl) ?_
  refine lv_iload_n hx hb d_Di_spoil_5 rfl (lv_at hl 2 rfl) ?_
  obtain ⟨v_18, v_20, F_v_7, c_19⟩ := TI_med hT c_8
  refine hm_calli (va_runV (As := [.int a9, .int v9]) (b := v_7) (rest := []) ⟨hx, hb, hml, hown, hts⟩ (t_change l D t G ak av h τ n v_7 a9 v9  hn hT c_8) ⟨cw9B 2 hts mw_438 mw_439 mw_32 rfl rfl (by decide +kernel) ⟨Nat.le_of_ble_eq_true rfl, Nat.le_of_ble_eq_true rfl⟩, hts _ mw_440, hts _ mw_441⟩ (hP_V (q := (R_Me, F_Me, 2)) kE_ok hE hK hH F_v_7 rfl) rfl rfl hl.1 rfl (lv_room (Nat.le_of_ble_eq_true rfl)) d_Di_spoil_6 ⟨Nat.le_of_ble_eq_true rfl, Nat.le_of_ble_eq_true rfl⟩) hLo (fun r_21 h_22 H_23 locs hp_25 hH z_24 hLo => ?_)
  have hz : s.heap.size ≤ H_23.size := Nat.le_trans hz z_24
  have hT0 := hT
  obtain ⟨hT, kf_27⟩ := hp_25
  have F_x9 : h_22 x9 = some (.inr (8, [.ref v_1, .ref v_3, .ref v_5, .ref v_7, va_rf v_9, .int v_11, .int v_12, .ref v_14, .ref v_16])) := kf_at kf_27 T_x9 (by decide) tn0 nm0 F_x9
  have F_v_7 : h_22 v_7 = some (.inr (0, [.ref v_18, .int v_20])) := kf_at kf_27 c_8 (by decide) tn0 nm0 F_v_7
  have hkf : kf τ [] [] h h_22 := kf_tr hkf kf_27 (List.forall_mem_nil _) (List.forall_mem_nil _)
  exact W.iret (v := r_21) hx hb hr (fun t9 ht hW => ⟨r_21, h_22, rfl, ⟨hT, hkf⟩, by rw [ht]; exact hH, by rw [ht]; exact hz⟩) hLo d_Di_spoil_9

set_option maxHeartbeats 4000000 in
set_option maxRecDepth 100000 in
theorem x_replace (l : Launch) (D : va_G) (t : Nat → ClassId) (G : hG) (ak av : Nat → Nat) (h : hM) (τ : tM) (n : Nat) (x9 : Nat) (a9 : Int32) (b9 : Int32) (c9 : Int32) (hn : n ≤ 200) (hT : TI τ t n h) (T_x9 : τ x9 = (1, 0)) : Met l y_Di_replace (.code y_Di_replace b_Di_replace 5 (some .int) :: lw_g) { frames := 1, cells := 0, slots := 0, locals := 22 } (hP (kE D t G ak av) D vwCl G h [.ref x9, .int a9, .int b9, .int c9]) (hQi D vwCl G (fun r h' => TI τ t n h' ∧ kf τ [(10, 0)] [] h h' ∧ knp τ 0 h h')) 0 0 G.P := by
  refine Met.ofW (cc := b_Di_replace) (maxL := 5) (ret := (some .int)) (by decide) rfl ?_
  intro p e s m args below meth c s₁ Bd hml hv
  obtain ⟨ha, hE, hH⟩ := hv
  have hx := Bd.exec
  have hb := Bd.bytes
  have hr := Bd.returns
  have hts : ∀ w ∈ lw_g, w.before args s = true := fun w hw => atoms_spec (ws := (.code y_Di_replace b_Di_replace 5 (some .int) :: lw_g)) Bd.pre w (List.mem_cons_of_mem _ hw)
  have hown : s.vm.findClass R_Di = some m.cls := findClass_of_methodNamed Bd.named
  have hlocks := Bd.notSynchronized
  have hK := hE.1
  have hH0 := hH
  have hLo : hLc G.P [] := hLc_nil
  have hz : s.heap.size ≤ s.heap.size := Nat.le_refl _
  have hl := lv_entry [.ref x9, .int a9, .int b9, .int c9] (n := 5) (Nat.le_of_ble_eq_true rfl)
  rw [show entryFrame m args 5 = F0 m 0 ((lg_sl [.ref x9, .int a9, .int b9, .int c9] ++ List.replicate (5 - (lg_sl [.ref x9, .int a9, .int b9, .int c9]).length) Slot.unset).toArray) [] from (by rw [ha]; exact lg_entry_eq m [.ref x9, .int a9, .int b9, .int c9] 5)]
  generalize (lg_sl [.ref x9, .int a9, .int b9, .int c9] ++ List.replicate (5 - (lg_sl [.ref x9, .int a9, .int b9, .int c9]).length) Slot.unset).toArray = ls at hl ⊢
  have hl : lv_has ls 5 [(0, .ref x9), (1, .int a9), (2, .int b9), (3, .int c9)] := hl
  have hkf : kf τ [(10, 0)] [] h h := kf_rf
  have hnp_0 : knp τ 0 h h := knp_rf
  refine lv_aload_n hx hb d_Di_replace_0 rfl (lv_at hl 0 rfl) ?_
  obtain ⟨v_1, v_3, v_5, v_7, v_9, v_11, v_12, v_14, v_16, F_x9, c_2, c_4, c_6, c_8, c_10, c_13, c_15, c_17⟩ := TI_disc hT T_x9
  refine hm_get (ci := 8) (v := .ref v_1) (C := R_Di) (T := F_Di) (N := 9) hx hb hts ig_Di hown hK hH F_x9 rfl 0 (by decide) (hts _ mw_430) (fun _ h9 => h9) rfl d_Di_replace_1 ?_
  obtain ⟨v_18, v_20, F_v_1, c_19, c_21⟩ := TI_wri hT c_2
  refine hm_get (ci := 7) (v := .ref v_18) (C := R_Wr) (T := F_Wr) (N := 2) hx hb hts ig_Wr hown hK hH F_v_1 rfl 0 (by decide) (hts _ mw_431) (fun _ h9 => h9) rfl d_Di_replace_4 ?_
  obtain ⟨v_22, v_23, v_25, F_v_18, c_24⟩ := TI_pow hT c_19
  refine hm_get (ci := 4) (v := .int v_23) (C := R_Po) (T := F_Po) (N := 3) hx hb hts ig_Po hown hK hH F_v_18 rfl 1 (by decide) (hts _ mw_442) (fun _ h9 => h9) rfl d_Di_replace_7 ?_
  refine lv_if_eq (tgt := 16) hx hb d_Di_replace_10 (by decide) (fun hc_26 => ?_) (fun hc_26 => ?_)
  · skip
    have ic_27 : v_23.toInt = 0 := congrArg Int32.toInt hc_26
    refine lv_aload_n hx hb d_Di_replace_16 rfl (lv_at hl 0 rfl) ?_
    refine hm_get (ci := 8) (v := .ref v_5) (C := R_Di) (T := F_Di) (N := 9) hx hb hts ig_Di hown hK hH F_x9 rfl 2 (by decide) (hts _ mw_443) (fun _ h9 => h9) rfl d_Di_replace_17 ?_
    refine lv_iload_n hx hb d_Di_replace_20 rfl (lv_at hl 1 rfl) ?_
    obtain ⟨v_28, v_30, v_32, v_34, F_v_5, c_29, c_31, c_33⟩ := TI_nds hT c_6
    refine hm_callPr (va_runV (As := [.int a9]) (b := v_5) (rest := []) ⟨hx, hb, hml, hown, hts⟩ (t_nodeOf l D t G ak av h τ n 0 v_5 a9  hn hT c_6) ⟨cw9B 1 hts mw_131 mw_444 mw_132 rfl rfl (by decide +kernel) ⟨Nat.le_of_ble_eq_true rfl, Nat.le_of_ble_eq_true rfl⟩, hts _ mw_134, hts _ mw_135⟩ (hP_V (q := (R_Ns, F_Ns, 4)) kE_ok hE hK hH F_v_5 rfl) rfl rfl hl.1 rfl (lv_room (Nat.le_of_ble_eq_true rfl)) d_Di_replace_21 ⟨Nat.le_of_ble_eq_true rfl, Nat.le_of_ble_eq_true rfl⟩) (fun r_35 h_36 H_37 hp_39  hH z_38 => ?_)
    have hz : s.heap.size ≤ H_37.size := Nat.le_trans hz z_38
    obtain ⟨c_40, xp_41, rfl⟩ := hp_39
    rcases r_35 with _ | q_42
    · skip
      refine lv_astoreN (lv' := [(4, .null), (0, .ref x9), (1, .int a9), (2, .int b9), (3, .int c9)]) hx hb d_Di_replace_24 hl (by decide) rfl (fun ls hl => ?_)
      refine lv_aloadN hx hb d_Di_replace_26 (lv_at hl 0 rfl) ?_
      refine lv_ifnullN (tgt := 47) hx hb d_Di_replace_28 (by decide) ?_
      refine lv_bipush (v := -2) hx hb d_Di_replace_47 (by decide) ?_
      exact W.iret (v := (-2)) hx hb hr (fun t9 ht hW => ⟨(-2), h, rfl, ⟨hT, hkf, hnp_0⟩, by rw [ht]; exact hH, by rw [ht]; exact hz⟩) hLo d_Di_replace_49
    · skip
      have T_43 := c_40 q_42 rfl
      refine lv_astore (lv' := [(4, .ref q_42), (0, .ref x9), (1, .int a9), (2, .int b9), (3, .int c9)]) hx hb d_Di_replace_24 hl (by decide) rfl (fun ls hl => ?_)
      refine lv_aload hx hb d_Di_replace_26 (lv_at hl 0 rfl) ?_
      refine lv_ifnull hx hb d_Di_replace_28 ?_
      refine lv_aload hx hb d_Di_replace_31 (lv_at hl 0 rfl) ?_
      obtain ⟨v_44, v_45, v_47, v_49, v_50, v_52, v_53, v_54, v_56, v_57, v_58, F_q_42, c_46, c_48, c_51, c_55⟩ := TI_node hT T_43
      refine hm_get (ci := 1) (v := .int v_47) (C := R_No) (T := F_No) (N := 11) hx hb hts ig_No hown hK hH F_q_42 rfl 2 (by decide) (hts _ mw_445) (fun _ h9 => h9) rfl d_Di_replace_33 ?_
      refine lv_if_ne (tgt := 47) hx hb d_Di_replace_36 (by decide) (fun hc_59 => ?_) (fun hc_59 => ?_)
      · skip
        refine lv_bipush (v := -2) hx hb d_Di_replace_47 (by decide) ?_
        exact W.iret (v := (-2)) hx hb hr (fun t9 ht hW => ⟨(-2), h, rfl, ⟨hT, hkf, hnp_0⟩, by rw [ht]; exact hH, by rw [ht]; exact hz⟩) hLo d_Di_replace_49
      · skip
        have ic_60 : v_47.toInt = 0 := congrArg Int32.toInt hc_59
        refine lv_iload_n hx hb d_Di_replace_39 rfl (lv_at hl 3 rfl) ?_
        refine lv_iload_n hx hb d_Di_replace_40 rfl (lv_at hl 4 rfl) ?_
        refine hm_callPi (va_runS (As := [.int b9, .int c9]) (rest := []) ⟨hx, hb, hml, hown, hts⟩ (t_isContent l D t G ak av h τ n b9 c9  hn hT ) ⟨cw9B 2 hts mw_446 mw_447 mw_25 rfl rfl (by decide +kernel) ⟨Nat.le_of_ble_eq_true rfl, Nat.le_of_ble_eq_true rfl⟩, hts _ mw_448⟩ (hP_S kE_ok hE hH) rfl rfl hl.1 rfl (lv_room (Nat.le_of_ble_eq_true rfl)) d_Di_replace_41 ⟨Nat.le_of_ble_eq_true rfl, Nat.le_of_ble_eq_true rfl⟩) (fun r_61 h_62 H_63 hp_65  hH z_64 => ?_)
        have hz : s.heap.size ≤ H_63.size := Nat.le_trans hz z_64
        obtain ⟨c_66, rfl⟩ := hp_65
        refine lv_if_ne (tgt := 50) hx hb d_Di_replace_44 (by decide) (fun hc_68 => ?_) (fun hc_68 => ?_)
        · skip
          refine lv_aload hx hb d_Di_replace_50 (lv_at hl 0 rfl) ?_
          refine lv_iload_n hx hb d_Di_replace_52 rfl (lv_at hl 3 rfl) ?_
          refine lv_iload_n hx hb d_Di_replace_53 rfl (lv_at hl 4 rfl) ?_
          refine hm_callv (va_runV (As := [.int b9, .int c9]) (b := q_42) (rest := []) ⟨hx, hb, hml, hown, hts⟩ (t_takeContent l D t G ak av h τ n 0 q_42 b9 c9  hn hT T_43) ⟨cw9B 2 hts mw_120 mw_449 mw_106 rfl rfl (by decide +kernel) ⟨Nat.le_of_ble_eq_true rfl, Nat.le_of_ble_eq_true rfl⟩, hts _ mw_122, hts _ mw_123⟩ (hP_V (q := (R_No, F_No, 11)) kE_ok hE hK hH F_q_42 rfl) rfl rfl hl.1 rfl (lv_room (Nat.le_of_ble_eq_true rfl)) d_Di_replace_54 ⟨Nat.le_of_ble_eq_true rfl, Nat.le_of_ble_eq_true rfl⟩) hLo (fun h_69 H_70 locs hp_72 hH z_71 hLo => ?_)
          have hz : s.heap.size ≤ H_70.size := Nat.le_trans hz z_71
          have hT0 := hT
          obtain ⟨hT, kf_74, xk_75⟩ := hp_72
          have F_x9 : h_69 x9 = some (.inr (8, [.ref v_1, .ref v_3, .ref v_5, .ref v_7, va_rf v_9, .int v_11, .int v_12, .ref v_14, .ref v_16])) := kf_at kf_74 T_x9 (by decide) tn0 (nmc (tne T_x9 T_43 (by decide)) nm0) F_x9
          have F_v_1 : h_69 v_1 = some (.inr (7, [.ref v_18, .ref v_20])) := kf_at kf_74 c_2 (by decide) tn0 (nmc (tne c_2 T_43 (by decide)) nm0) F_v_1
          have F_v_18 : h_69 v_18 = some (.inr (4, [.int v_22, .int v_23, .int v_25])) := kf_at kf_74 c_19 (by decide) tn0 (nmc (tne c_19 T_43 (by decide)) nm0) F_v_18
          have F_v_5 : h_69 v_5 = some (.inr (2, [.ref v_28, .ref v_30, .int v_32, .int v_34])) := kf_at kf_74 c_6 (by decide) tn0 (nmc (tne c_6 T_43 (by decide)) nm0) F_v_5
          have hnp_0 : knp τ 0 h h_69 := knp_tr hnp_0 xk_75
          have hkf : kf τ [(10, 0)] [] h h_69 := kf_tr hkf kf_74 (List.forall_mem_nil _) (List.forall_mem_cons.mpr ⟨Or.inr (by rw [T_43]; exact List.mem_cons_self), List.forall_mem_nil _⟩)
          refine lv_iconst (v := 0) hx hb d_Di_replace_57 (by decide) ?_
          exact W.iret (v := 0) hx hb hr (fun t9 ht hW => ⟨0, h_69, rfl, ⟨hT, hkf, hnp_0⟩, by rw [ht]; exact hH, by rw [ht]; exact hz⟩) hLo d_Di_replace_58
        · skip
          have ic_76 : r_61.toInt = 0 := congrArg Int32.toInt hc_68
          refine lv_bipush (v := -2) hx hb d_Di_replace_47 (by decide) ?_
          exact W.iret (v := (-2)) hx hb hr (fun t9 ht hW => ⟨(-2), h, rfl, ⟨hT, hkf, hnp_0⟩, by rw [ht]; exact hH, by rw [ht]; exact hz⟩) hLo d_Di_replace_49
  · skip
    refine lv_bipush (v := -4) hx hb d_Di_replace_13 (by decide) ?_
    exact W.iret (v := (-4)) hx hb hr (fun t9 ht hW => ⟨(-4), h, rfl, ⟨hT, hkf, hnp_0⟩, by rw [ht]; exact hH, by rw [ht]; exact hz⟩) hLo d_Di_replace_15

set_option maxHeartbeats 4000000 in
set_option maxRecDepth 100000 in
theorem x_openedNode (l : Launch) (D : va_G) (t : Nat → ClassId) (G : hG) (ak av : Nat → Nat) (h : hM) (τ : tM) (n : Nat) (x9 : Nat) (a9 : Int32) (hn : n ≤ 200) (hT : TI τ t n h) (T_x9 : τ x9 = (1, 0)) : Met l y_Di_openedNode (.code y_Di_openedNode b_Di_openedNode 2 (some (.object "WriteOnceDisc$Node")) :: lw_g) { frames := 1, cells := 0, slots := 0, locals := 22 } (hP (kE D t G ak av) D vwCl G h [.ref x9, .int a9]) (hQr D vwCl G (fun r h' => (∀ q, r = some q → τ q = (10, 1)) ∧ h = h')) 0 0 nof := by
  refine Met.ofW (cc := b_Di_openedNode) (maxL := 2) (ret := (some (.object "WriteOnceDisc$Node"))) (by decide) rfl ?_
  intro p e s m args below meth c s₁ Bd hml hv
  obtain ⟨ha, hE, hH⟩ := hv
  have hx := Bd.exec
  have hb := Bd.bytes
  have hr := Bd.returns
  have hts : ∀ w ∈ lw_g, w.before args s = true := fun w hw => atoms_spec (ws := (.code y_Di_openedNode b_Di_openedNode 2 (some (.object "WriteOnceDisc$Node")) :: lw_g)) Bd.pre w (List.mem_cons_of_mem _ hw)
  have hown : s.vm.findClass R_Di = some m.cls := findClass_of_methodNamed Bd.named
  have hlocks := Bd.notSynchronized
  have hK := hE.1
  have hH0 := hH
  have hLo : hLc nof [] := hLc_nil
  have hz : s.heap.size ≤ s.heap.size := Nat.le_refl _
  have hl := lv_entry [.ref x9, .int a9] (n := 2) (Nat.le_of_ble_eq_true rfl)
  rw [show entryFrame m args 2 = F0 m 0 ((lg_sl [.ref x9, .int a9] ++ List.replicate (2 - (lg_sl [.ref x9, .int a9]).length) Slot.unset).toArray) [] from (by rw [ha]; exact lg_entry_eq m [.ref x9, .int a9] 2)]
  generalize (lg_sl [.ref x9, .int a9] ++ List.replicate (2 - (lg_sl [.ref x9, .int a9]).length) Slot.unset).toArray = ls at hl ⊢
  have hl : lv_has ls 2 [(0, .ref x9), (1, .int a9)] := hl
  refine lv_aload_n hx hb d_Di_openedNode_0 rfl (lv_at hl 0 rfl) ?_
  obtain ⟨v_1, v_3, v_5, v_7, v_9, v_11, v_12, v_14, v_16, F_x9, c_2, c_4, c_6, c_8, c_10, c_13, c_15, c_17⟩ := TI_disc hT T_x9
  refine hm_get (ci := 8) (v := .int v_12) (C := R_Di) (T := F_Di) (N := 9) hx hb hts ig_Di hown hK hH F_x9 rfl 6 (by decide) (hts _ mw_450) (fun _ h9 => h9) rfl d_Di_openedNode_1 ?_
  refine lv_if_eq (tgt := 18) hx hb d_Di_openedNode_4 (by decide) (fun hc_18 => ?_) (fun hc_18 => ?_)
  · skip
    have ic_19 : v_12.toInt = 0 := congrArg Int32.toInt hc_18
    refine lv_null hx hb d_Di_openedNode_18 ?_
    exact W.aret (v := va_rf (none)) hx hb hr (Or.inl ⟨_, rfl⟩) (va_rf_or _) (fun t9 ht hW => ⟨none, h, rfl, ⟨(fun _ h9 => by cases h9), rfl⟩, by rw [ht]; exact hH, by rw [ht]; exact hz⟩) hLo d_Di_openedNode_19
  · skip
    refine lv_aload_n hx hb d_Di_openedNode_7 rfl (lv_at hl 0 rfl) ?_
    refine hm_get (ci := 8) (v := .ref v_14) (C := R_Di) (T := F_Di) (N := 9) hx hb hts ig_Di hown hK hH F_x9 rfl 7 (by decide) (hts _ mw_451) (fun _ h9 => h9) rfl d_Di_openedNode_8 ?_
    refine lv_iload_n hx hb d_Di_openedNode_11 rfl (lv_at hl 1 rfl) ?_
    obtain ⟨v_20, v_22, v_24, v_26, F_v_14, c_21, c_23, c_25⟩ := TI_nds hT c_15
    refine hm_callPr (va_runV (As := [.int a9]) (b := v_14) (rest := []) ⟨hx, hb, hml, hown, hts⟩ (t_nodeOf l D t G ak av h τ n 1 v_14 a9  hn hT c_15) ⟨cw9B 1 hts mw_131 mw_444 mw_132 rfl rfl (by decide +kernel) ⟨Nat.le_of_ble_eq_true rfl, Nat.le_of_ble_eq_true rfl⟩, hts _ mw_134, hts _ mw_135⟩ (hP_V (q := (R_Ns, F_Ns, 4)) kE_ok hE hK hH F_v_14 rfl) rfl rfl hl.1 rfl (lv_room (Nat.le_of_ble_eq_true rfl)) d_Di_openedNode_12 ⟨Nat.le_of_ble_eq_true rfl, Nat.le_of_ble_eq_true rfl⟩) (fun r_27 h_28 H_29 hp_31  hH z_30 => ?_)
    have hz : s.heap.size ≤ H_29.size := Nat.le_trans hz z_30
    obtain ⟨c_32, xp_33, rfl⟩ := hp_31
    refine lv_goto (tgt := 19) hx hb d_Di_openedNode_15 (by decide) ?_
    exact W.aret (v := va_rf (r_27)) hx hb hr (Or.inl ⟨_, rfl⟩) (va_rf_or _) (fun t9 ht hW => ⟨r_27, h, rfl, ⟨c_32, rfl⟩, by rw [ht]; exact hH, by rw [ht]; exact hz⟩) hLo d_Di_openedNode_19
