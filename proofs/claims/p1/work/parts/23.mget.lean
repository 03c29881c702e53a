set_option maxRecDepth 100000 in
theorem mw_469 : Cond.code y_Mo_get b_Mo_get 2 (some .int) ∈ lw_g := lw_gin (List.mem_append_right _ (List.mem_of_getElem? (i := 1135) rfl)) (by decide +kernel)
set_option maxRecDepth 100000 in
theorem mw_470 : Cond.methodLink R_Mo 225 y_Mo_get ∈ lw_g := lw_gin (List.mem_append_right _ (List.mem_of_getElem? (i := 1132) rfl)) (by decide +kernel)
set_option maxRecDepth 100000 in
theorem mw_471 : Cond.instanceMethod y_Mo_get ∈ lw_g := lw_gin (List.mem_append_right _ (List.mem_of_getElem? (i := 1134) rfl)) (by decide +kernel)
set_option maxRecDepth 100000 in
theorem mw_472 : Cond.selects R_Mo y_Mo_get y_Mo_get ∈ lw_g := lw_gin (List.mem_append_left _ (List.mem_of_getElem? (i := 37) rfl)) (by decide +kernel)
set_option maxRecDepth 100000 in
theorem mw_473 : Cond.code y_Mo_isWrittenSector b_Mo_isWrittenSector 2 (some .boolean) ∈ lw_g := lw_gin (List.mem_append_right _ (List.mem_of_getElem? (i := 1230) rfl)) (by decide +kernel)
set_option maxRecDepth 100000 in
theorem mw_474 : Cond.methodLink R_Mo 260 y_Mo_isWrittenSector ∈ lw_g := lw_gin (List.mem_append_right _ (List.mem_of_getElem? (i := 1227) rfl)) (by decide +kernel)
set_option maxRecDepth 100000 in
theorem mw_475 : Cond.instanceMethod y_Mo_isWrittenSector ∈ lw_g := lw_gin (List.mem_append_right _ (List.mem_of_getElem? (i := 1229) rfl)) (by decide +kernel)
set_option maxRecDepth 100000 in
theorem mw_476 : Cond.selects R_Mo y_Mo_isWrittenSector y_Mo_isWrittenSector ∈ lw_g := lw_gin (List.mem_append_left _ (List.mem_of_getElem? (i := 54) rfl)) (by decide +kernel)
set_option maxRecDepth 100000 in
theorem mw_477 : Cond.code y_Mo_isMark b_Mo_isMark 4 (some .boolean) ∈ lw_g := lw_gin (List.mem_append_right _ (List.mem_of_getElem? (i := 1226) rfl)) (by decide +kernel)
set_option maxRecDepth 100000 in
theorem mw_478 : Cond.methodLink R_Mo 311 y_Mo_isMark ∈ lw_g := lw_gin (List.mem_append_right _ (List.mem_of_getElem? (i := 1223) rfl)) (by decide +kernel)
set_option maxRecDepth 100000 in
theorem mw_479 : Cond.instanceMethod y_Mo_isMark ∈ lw_g := lw_gin (List.mem_append_right _ (List.mem_of_getElem? (i := 1225) rfl)) (by decide +kernel)
set_option maxRecDepth 100000 in
theorem mw_480 : Cond.selects R_Mo y_Mo_isMark y_Mo_isMark ∈ lw_g := lw_gin (List.mem_append_left _ (List.mem_of_getElem? (i := 53) rfl)) (by decide +kernel)
set_option maxRecDepth 100000 in
theorem mw_481 : Cond.code y_Mo_markAt b_Mo_markAt 4 (some .int) ∈ lw_g := lw_gin (List.mem_append_right _ (List.mem_of_getElem? (i := 1222) rfl)) (by decide +kernel)
set_option maxRecDepth 100000 in
theorem mw_482 : Cond.methodLink R_Mo 314 y_Mo_markAt ∈ lw_g := lw_gin (List.mem_append_right _ (List.mem_of_getElem? (i := 1219) rfl)) (by decide +kernel)
set_option maxRecDepth 100000 in
theorem mw_483 : Cond.instanceMethod y_Mo_markAt ∈ lw_g := lw_gin (List.mem_append_right _ (List.mem_of_getElem? (i := 1221) rfl)) (by decide +kernel)
set_option maxRecDepth 100000 in
theorem mw_484 : Cond.selects R_Mo y_Mo_markAt y_Mo_markAt ∈ lw_g := lw_gin (List.mem_append_left _ (List.mem_of_getElem? (i := 52) rfl)) (by decide +kernel)
set_option maxRecDepth 100000 in
theorem mw_485 : Cond.constant R_Mo 320 (-1000000) ∈ lw_g := lw_gin (List.mem_append_right _ (List.mem_of_getElem? (i := 1297) rfl)) (by decide +kernel)
theorem d_Mo_get_0 : decode b_Mo_get 0 = .ok (.aload_n 0, 1) := by decide +kernel
theorem d_Mo_get_1 : decode b_Mo_get 1 = .ok (.getfield 8, 3) := by decide +kernel
theorem d_Mo_get_4 : decode b_Mo_get 4 = .ok (.sipush 2048, 3) := by decide +kernel
theorem d_Mo_get_7 : decode b_Mo_get 7 = .ok (.aload_n 0, 1) := by decide +kernel
theorem d_Mo_get_8 : decode b_Mo_get 8 = .ok (.getfield 115, 3) := by decide +kernel
theorem d_Mo_get_11 : decode b_Mo_get 11 = .ok (.imul, 1) := by decide +kernel
theorem d_Mo_get_12 : decode b_Mo_get 12 = .ok (.iload_n 1, 1) := by decide +kernel
theorem d_Mo_get_13 : decode b_Mo_get 13 = .ok (.iadd, 1) := by decide +kernel
theorem d_Mo_get_14 : decode b_Mo_get 14 = .ok (.baload, 1) := by decide +kernel
theorem d_Mo_get_15 : decode b_Mo_get 15 = .ok (.sipush 255, 3) := by decide +kernel
theorem d_Mo_get_18 : decode b_Mo_get 18 = .ok (.iand, 1) := by decide +kernel
theorem d_Mo_get_19 : decode b_Mo_get 19 = .ok (.ireturn, 1) := by decide +kernel
theorem d_Mo_byteAt_0 : decode b_Mo_byteAt 0 = .ok (.aload_n 0, 1) := by decide +kernel
theorem d_Mo_byteAt_1 : decode b_Mo_byteAt 1 = .ok (.iconst 0, 1) := by decide +kernel
theorem d_Mo_byteAt_2 : decode b_Mo_byteAt 2 = .ok (.putfield 109, 3) := by decide +kernel
theorem d_Mo_byteAt_5 : decode b_Mo_byteAt 5 = .ok (.iload_n 1, 1) := by decide +kernel
theorem d_Mo_byteAt_6 : decode b_Mo_byteAt 6 = .ok (.iconst 0, 1) := by decide +kernel
theorem d_Mo_byteAt_7 : decode b_Mo_byteAt 7 = .ok (.sipush 2048, 3) := by decide +kernel
theorem d_Mo_byteAt_10 : decode b_Mo_byteAt 10 = .ok (.aload_n 0, 1) := by decide +kernel
theorem d_Mo_byteAt_11 : decode b_Mo_byteAt 11 = .ok (.getfield 99, 3) := by decide +kernel
theorem d_Mo_byteAt_14 : decode b_Mo_byteAt 14 = .ok (.imul, 1) := by decide +kernel
theorem d_Mo_byteAt_15 : decode b_Mo_byteAt 15 = .ok (.iconst 1, 1) := by decide +kernel
theorem d_Mo_byteAt_16 : decode b_Mo_byteAt 16 = .ok (.isub, 1) := by decide +kernel
theorem d_Mo_byteAt_17 : decode b_Mo_byteAt 17 = .ok (.invokestatic 118, 3) := by decide +kernel
theorem d_Mo_byteAt_20 : decode b_Mo_byteAt 20 = .ok (.ifCond .eq 11, 3) := by decide +kernel
theorem d_Mo_byteAt_31 : decode b_Mo_byteAt 31 = .ok (.iconst (-1), 1) := by decide +kernel
theorem d_Mo_byteAt_32 : decode b_Mo_byteAt 32 = .ok (.ireturn, 1) := by decide +kernel
theorem d_Mo_byteAt_23 : decode b_Mo_byteAt 23 = .ok (.aload_n 0, 1) := by decide +kernel
theorem d_Mo_byteAt_24 : decode b_Mo_byteAt 24 = .ok (.iload_n 1, 1) := by decide +kernel
theorem d_Mo_byteAt_25 : decode b_Mo_byteAt 25 = .ok (.invokevirtual 225, 3) := by decide +kernel
theorem d_Mo_byteAt_28 : decode b_Mo_byteAt 28 = .ok (.goto 4, 3) := by decide +kernel
theorem d_Mo_spoil_0 : decode b_Mo_spoil 0 = .ok (.aload_n 0, 1) := by decide +kernel
theorem d_Mo_spoil_1 : decode b_Mo_spoil 1 = .ok (.iconst 0, 1) := by decide +kernel
theorem d_Mo_spoil_2 : decode b_Mo_spoil 2 = .ok (.putfield 109, 3) := by decide +kernel
theorem d_Mo_spoil_5 : decode b_Mo_spoil 5 = .ok (.iload_n 1, 1) := by decide +kernel
theorem d_Mo_spoil_6 : decode b_Mo_spoil 6 = .ok (.iconst 0, 1) := by decide +kernel
theorem d_Mo_spoil_7 : decode b_Mo_spoil 7 = .ok (.sipush 2048, 3) := by decide +kernel
theorem d_Mo_spoil_10 : decode b_Mo_spoil 10 = .ok (.aload_n 0, 1) := by decide +kernel
theorem d_Mo_spoil_11 : decode b_Mo_spoil 11 = .ok (.getfield 99, 3) := by decide +kernel
theorem d_Mo_spoil_14 : decode b_Mo_spoil 14 = .ok (.imul, 1) := by decide +kernel
theorem d_Mo_spoil_15 : decode b_Mo_spoil 15 = .ok (.iconst 1, 1) := by decide +kernel
theorem d_Mo_spoil_16 : decode b_Mo_spoil 16 = .ok (.isub, 1) := by decide +kernel
theorem d_Mo_spoil_17 : decode b_Mo_spoil 17 = .ok (.invokestatic 118, 3) := by decide +kernel
theorem d_Mo_spoil_20 : decode b_Mo_spoil 20 = .ok (.ifCond .eq 22, 3) := by decide +kernel
theorem d_Mo_spoil_42 : decode b_Mo_spoil 42 = .ok (.iconst (-1), 1) := by decide +kernel
theorem d_Mo_spoil_43 : decode b_Mo_spoil 43 = .ok (.ireturn, 1) := by decide +kernel
theorem d_Mo_spoil_23 : decode b_Mo_spoil 23 = .ok (.aload_n 0, 1) := by decide +kernel
theorem d_Mo_spoil_24 : decode b_Mo_spoil 24 = .ok (.getfield 14, 3) := by decide +kernel
theorem d_Mo_spoil_27 : decode b_Mo_spoil 27 = .ok (.aload_n 0, 1) := by decide +kernel
theorem d_Mo_spoil_28 : decode b_Mo_spoil 28 = .ok (.getfield 115, 3) := by decide +kernel
theorem d_Mo_spoil_31 : decode b_Mo_spoil 31 = .ok (.iload_n 1, 1) := by decide +kernel
theorem d_Mo_spoil_32 : decode b_Mo_spoil 32 = .ok (.sipush 2048, 3) := by decide +kernel
theorem d_Mo_spoil_35 : decode b_Mo_spoil 35 = .ok (.idiv, 1) := by decide +kernel
theorem d_Mo_spoil_36 : decode b_Mo_spoil 36 = .ok (.iadd, 1) := by decide +kernel
theorem d_Mo_spoil_37 : decode b_Mo_spoil 37 = .ok (.baload, 1) := by decide +kernel
theorem d_Mo_spoil_38 : decode b_Mo_spoil 38 = .ok (.iconst 1, 1) := by decide +kernel
theorem d_Mo_spoil_39 : decode b_Mo_spoil 39 = .ok (.if_icmp .eq 5, 3) := by decide +kernel
theorem d_Mo_isWrittenSector_0 : decode b_Mo_isWrittenSector 0 = .ok (.iload_n 1, 1) := by decide +kernel
theorem d_Mo_isWrittenSector_1 : decode b_Mo_isWrittenSector 1 = .ok (.iconst 0, 1) := by decide +kernel
theorem d_Mo_isWrittenSector_2 : decode b_Mo_isWrittenSector 2 = .ok (.aload_n 0, 1) := by decide +kernel
theorem d_Mo_isWrittenSector_3 : decode b_Mo_isWrittenSector 3 = .ok (.getfield 99, 3) := by decide +kernel
theorem d_Mo_isWrittenSector_6 : decode b_Mo_isWrittenSector 6 = .ok (.iconst 1, 1) := by decide +kernel
theorem d_Mo_isWrittenSector_7 : decode b_Mo_isWrittenSector 7 = .ok (.isub, 1) := by decide +kernel
theorem d_Mo_isWrittenSector_8 : decode b_Mo_isWrittenSector 8 = .ok (.invokestatic 118, 3) := by decide +kernel
theorem d_Mo_isWrittenSector_11 : decode b_Mo_isWrittenSector 11 = .ok (.ifCond .eq 22, 3) := by decide +kernel
theorem d_Mo_isWrittenSector_14 : decode b_Mo_isWrittenSector 14 = .ok (.aload_n 0, 1) := by decide +kernel
theorem d_Mo_isWrittenSector_15 : decode b_Mo_isWrittenSector 15 = .ok (.getfield 14, 3) := by decide +kernel
theorem d_Mo_isWrittenSector_18 : decode b_Mo_isWrittenSector 18 = .ok (.aload_n 0, 1) := by decide +kernel
theorem d_Mo_isWrittenSector_19 : decode b_Mo_isWrittenSector 19 = .ok (.getfield 115, 3) := by decide +kernel
theorem d_Mo_isWrittenSector_22 : decode b_Mo_isWrittenSector 22 = .ok (.iload_n 1, 1) := by decide +kernel
theorem d_Mo_isWrittenSector_23 : decode b_Mo_isWrittenSector 23 = .ok (.iadd, 1) := by decide +kernel
theorem d_Mo_isWrittenSector_24 : decode b_Mo_isWrittenSector 24 = .ok (.baload, 1) := by decide +kernel
theorem d_Mo_isWrittenSector_25 : decode b_Mo_isWrittenSector 25 = .ok (.iconst 1, 1) := by decide +kernel
theorem d_Mo_isWrittenSector_26 : decode b_Mo_isWrittenSector 26 = .ok (.if_icmp .ne 7, 3) := by decide +kernel
theorem d_Mo_isWrittenSector_33 : decode b_Mo_isWrittenSector 33 = .ok (.iconst 0, 1) := by decide +kernel
theorem d_Mo_isWrittenSector_34 : decode b_Mo_isWrittenSector 34 = .ok (.ireturn, 1) := by decide +kernel
theorem d_Mo_isMark_0 : decode b_Mo_isMark 0 = .ok (.sipush 2048, 3) := by decide +kernel
theorem d_Mo_isMark_3 : decode b_Mo_isMark 3 = .ok (.iload_n 1, 1) := by decide +kernel
theorem d_Mo_isMark_4 : decode b_Mo_isMark 4 = .ok (.imul, 1) := by decide +kernel
theorem d_Mo_isMark_5 : decode b_Mo_isMark 5 = .ok (.istore_n 2, 1) := by decide +kernel
theorem d_Mo_isMark_6 : decode b_Mo_isMark 6 = .ok (.aload_n 0, 1) := by decide +kernel
theorem d_Mo_isMark_7 : decode b_Mo_isMark 7 = .ok (.iload_n 1, 1) := by decide +kernel
theorem d_Mo_isMark_8 : decode b_Mo_isMark 8 = .ok (.invokevirtual 260, 3) := by decide +kernel
theorem d_Mo_isMark_11 : decode b_Mo_isMark 11 = .ok (.ifCond .eq 49, 3) := by decide +kernel
theorem d_Mo_isMark_60 : decode b_Mo_isMark 60 = .ok (.iconst 0, 1) := by decide +kernel
theorem d_Mo_isMark_61 : decode b_Mo_isMark 61 = .ok (.ireturn, 1) := by decide +kernel
theorem d_Mo_markAt_0 : decode b_Mo_markAt 0 = .ok (.iload_n 1, 1) := by decide +kernel
theorem d_Mo_markAt_1 : decode b_Mo_markAt 1 = .ok (.istore_n 2, 1) := by decide +kernel
theorem d_Mo_markAt_2 : decode b_Mo_markAt 2 = .ok (.iconst 0, 1) := by decide +kernel
theorem d_Mo_markAt_3 : decode b_Mo_markAt 3 = .ok (.istore_n 3, 1) := by decide +kernel
theorem d_Mo_markAt_4 : decode b_Mo_markAt 4 = .ok (.iload_n 3, 1) := by decide +kernel
theorem d_Mo_markAt_5 : decode b_Mo_markAt 5 = .ok (.aload_n 0, 1) := by decide +kernel
theorem d_Mo_markAt_6 : decode b_Mo_markAt 6 = .ok (.getfield 99, 3) := by decide +kernel
theorem d_Mo_markAt_9 : decode b_Mo_markAt 9 = .ok (.if_icmp .ge 33, 3) := by decide +kernel
theorem d_Mo_markAt_42 : decode b_Mo_markAt 42 = .ok (.iconst (-1), 1) := by decide +kernel
theorem d_Mo_markAt_43 : decode b_Mo_markAt 43 = .ok (.ireturn, 1) := by decide +kernel
theorem d_Mo_markAt_12 : decode b_Mo_markAt 12 = .ok (.iload_n 1, 1) := by decide +kernel
theorem d_Mo_markAt_13 : decode b_Mo_markAt 13 = .ok (.ifCond .lt 29, 3) := by decide +kernel
theorem d_Mo_markAt_16 : decode b_Mo_markAt 16 = .ok (.aload_n 0, 1) := by decide +kernel
theorem d_Mo_markAt_17 : decode b_Mo_markAt 17 = .ok (.iload_n 3, 1) := by decide +kernel
theorem d_Mo_markAt_18 : decode b_Mo_markAt 18 = .ok (.invokevirtual 311, 3) := by decide +kernel
theorem d_Mo_markAt_21 : decode b_Mo_markAt 21 = .ok (.ifCond .ne 6, 3) := by decide +kernel
theorem d_Mo_markAt_24 : decode b_Mo_markAt 24 = .ok (.goto 12, 3) := by decide +kernel
theorem d_Mo_markAt_36 : decode b_Mo_markAt 36 = .ok (.iinc 3 1, 3) := by decide +kernel
theorem d_Mo_markAt_39 : decode b_Mo_markAt 39 = .ok (.goto (-35), 3) := by decide +kernel
theorem d_Mo_mark_0 : decode b_Mo_mark 0 = .ok (.aload_n 0, 1) := by decide +kernel
theorem d_Mo_mark_1 : decode b_Mo_mark 1 = .ok (.iload_n 1, 1) := by decide +kernel
theorem d_Mo_mark_2 : decode b_Mo_mark 2 = .ok (.invokevirtual 314, 3) := by decide +kernel
theorem d_Mo_mark_5 : decode b_Mo_mark 5 = .ok (.istore_n 3, 1) := by decide +kernel
theorem d_Mo_mark_6 : decode b_Mo_mark 6 = .ok (.aload_n 0, 1) := by decide +kernel
theorem d_Mo_mark_7 : decode b_Mo_mark 7 = .ok (.iload_n 3, 1) := by decide +kernel
theorem d_Mo_mark_8 : decode b_Mo_mark 8 = .ok (.ifCond .lt 16, 3) := by decide +kernel
theorem d_Mo_mark_24 : decode b_Mo_mark 24 = .ok (.iconst 1, 1) := by decide +kernel
theorem d_Mo_mark_25 : decode b_Mo_mark 25 = .ok (.putfield 109, 3) := by decide +kernel
theorem d_Mo_mark_28 : decode b_Mo_mark 28 = .ok (.aload_n 0, 1) := by decide +kernel
theorem d_Mo_mark_29 : decode b_Mo_mark 29 = .ok (.getfield 109, 3) := by decide +kernel
theorem d_Mo_mark_32 : decode b_Mo_mark 32 = .ok (.iconst 1, 1) := by decide +kernel
theorem d_Mo_mark_33 : decode b_Mo_mark 33 = .ok (.if_icmp .ne 5, 3) := by decide +kernel
theorem d_Mo_mark_36 : decode b_Mo_mark 36 = .ok (.iconst 0, 1) := by decide +kernel
theorem d_Mo_mark_37 : decode b_Mo_mark 37 = .ok (.ireturn, 1) := by decide +kernel
theorem d_Mo_open_0 : decode b_Mo_open 0 = .ok (.aload_n 0, 1) := by decide +kernel
theorem d_Mo_open_1 : decode b_Mo_open 1 = .ok (.iconst 0, 1) := by decide +kernel
theorem d_Mo_open_2 : decode b_Mo_open 2 = .ok (.putfield 109, 3) := by decide +kernel
theorem d_Mo_open_5 : decode b_Mo_open 5 = .ok (.aload_n 0, 1) := by decide +kernel
theorem d_Mo_open_6 : decode b_Mo_open 6 = .ok (.iload_n 1, 1) := by decide +kernel
theorem d_Mo_open_7 : decode b_Mo_open 7 = .ok (.invokevirtual 314, 3) := by decide +kernel
theorem d_Mo_open_10 : decode b_Mo_open 10 = .ok (.istore_n 2, 1) := by decide +kernel
theorem d_Mo_open_11 : decode b_Mo_open 11 = .ok (.iload_n 2, 1) := by decide +kernel
theorem d_Mo_open_12 : decode b_Mo_open 12 = .ok (.ifCond .ge 7, 3) := by decide +kernel
theorem d_Mo_open_15 : decode b_Mo_open 15 = .ok (.ldc_w 320, 3) := by decide +kernel
theorem d_Mo_open_18 : decode b_Mo_open 18 = .ok (.ireturn, 1) := by decide +kernel
set_option maxHeartbeats 4000000 in
set_option maxRecDepth 100000 in
theorem c_m_get0 (l : Launch) (D : va_G) (t : Nat → ClassId) (G : hG) (ak av : Nat → Nat) (h : hM) (mo n aBy aSt aDe aPa aIt aId aPr aNa aSi aSe aIw aEx aOl aPl aTa aAt aLo aS1 aS2 aS3 aS4 aS5 aS6 aO1 aO2 aO3 aO4 aO5 q9 : Nat) (gBy : Nat → Int32) (f_m : h mo = some (.inr (9, [.int 0, .int (nI n), .int 0, .ref aBy, .ref aSt, .ref aDe, .int 0, .int (-1), .int 0, .ref aPa, .int 1, .ref aIt, .ref aId, .ref aPr, .ref aNa, .ref aSi, .ref aSe, .ref aIw, .ref aEx, .ref aOl, .int 0, .ref aPl, .int 0, .int 0, .ref aTa, .ref aAt, .ref aLo, .int 0, .int 0, .ref aS1, .ref aS2, .ref aS3, .ref aS4, .ref aS5, .ref aS6, .int 0, .ref aO1, .ref aO2, .ref aO3, .ref aO4, .ref aO5]))) (f_aBy : h aBy = some (.inl ((t 0), 819200, .inl gBy))) (zBy : ∀ j, gBy j = 0) (hq9 : q9 < 409600) : Met l y_Mo_get (.code y_Mo_get b_Mo_get 2 (some .int) :: lw_g) { frames := 0, cells := 0, slots := 0, locals := 0 } (hP (kE D t G ak av) D vwCl G h [.ref mo, .int (nI q9)]) (hQi D vwCl G (fun r h' => r = 0 ∧ h = h')) 0 0 G.P := by
  refine Met.ofW (cc := b_Mo_get) (maxL := 2) (ret := (some .int)) (by decide) rfl ?_
  intro p e s m args below meth c s₁ Bd hml hv
  obtain ⟨ha, hE, hH⟩ := hv
  have hx := Bd.exec
  have hb := Bd.bytes
  have hr := Bd.returns
  have hts : ∀ w ∈ lw_g, w.before args s = true := fun w hw => atoms_spec (ws := (.code y_Mo_get b_Mo_get 2 (some .int) :: lw_g)) Bd.pre w (List.mem_cons_of_mem _ hw)
  have hown : s.vm.findClass R_Mo = some m.cls := findClass_of_methodNamed Bd.named
  have hlocks := Bd.notSynchronized
  have hK := hE.1
  have hH0 := hH
  have hLo : hLc G.P [] := hLc_nil
  have hz : s.heap.size ≤ s.heap.size := Nat.le_refl _
  have hkp : kp [] h h := kp_rf
  have hl := lv_entry [.ref mo, .int (nI q9)] (n := 2) (Nat.le_of_ble_eq_true rfl)
  rw [show entryFrame m args 2 = F0 m 0 ((lg_sl [.ref mo, .int (nI q9)] ++ List.replicate (2 - (lg_sl [.ref mo, .int (nI q9)]).length) Slot.unset).toArray) [] from (by rw [ha]; exact lg_entry_eq m [.ref mo, .int (nI q9)] 2)]
  generalize (lg_sl [.ref mo, .int (nI q9)] ++ List.replicate (2 - (lg_sl [.ref mo, .int (nI q9)]).length) Slot.unset).toArray = ls at hl ⊢
  have hl : lv_has ls 2 [(0, .ref mo), (1, .int (nI q9))] := hl
  refine lv_aload_n hx hb d_Mo_get_0 rfl (lv_at hl 0 rfl) ?_
  refine hm_get (ci := 9) (v := .ref aBy) (C := R_Mo) (T := F_Mo) (N := 41) hx hb hts ig_Mo hown hK hH f_m rfl 3 (by decide) (hts _ mw_400) (fun _ h9 => h9) rfl d_Mo_get_1 ?_
  refine lv_sipush (v := 2048) hx hb d_Mo_get_4 (by decide) ?_
  refine lv_aload_n hx hb d_Mo_get_7 rfl (lv_at hl 0 rfl) ?_
  refine hm_get (ci := 9) (v := .int 0) (C := R_Mo) (T := F_Mo) (N := 41) hx hb hts ig_Mo hown hK hH f_m rfl 2 (by decide) (hts _ mw_467) (fun _ h9 => h9) rfl d_Mo_get_8 ?_
  refine lv_imul hx hb d_Mo_get_11 ?_
  refine lv_iload_n hx hb d_Mo_get_12 rfl (lv_at hl 1 rfl) ?_
  refine lv_iadd hx hb d_Mo_get_13 ?_
  refine hj_bald hx hb hK hH 0 f_aBy rfl q9 (by rw [show (2048 : Int32) * 0 = 0 from rfl]; exact Int32.zero_add _) (by omega) (by decide) d_Mo_get_14 ?_
  refine lv_sipush (v := 255) hx hb d_Mo_get_15 (by decide) ?_
  refine lv_iand hx hb d_Mo_get_18 ?_
  exact W.iret (v := (gBy q9) &&& 255) hx hb hr (fun t9 ht hW => ⟨(gBy q9) &&& 255, h, rfl, ⟨by rw [zBy q9]; rfl, rfl⟩, by rw [ht]; exact hH, by rw [ht]; exact hz⟩) hLo d_Mo_get_19

set_option maxHeartbeats 4000000 in
set_option maxRecDepth 100000 in
theorem c_m_byteAt (l : Launch) (D : va_G) (t : Nat → ClassId) (G : hG) (ak av : Nat → Nat) (h : hM) (mo n : Nat) (a9 : Int32) (hM : FrM t h mo n) : Met l y_Mo_byteAt (.code y_Mo_byteAt b_Mo_byteAt 2 (some .int) :: lw_g) { frames := 1, cells := 0, slots := 0, locals := 22 } (hP (kE D t G ak av) D vwCl G h [.ref mo, .int a9]) (hQi D vwCl G (fun r h' => r = bytV n a9)) 0 0 G.P := by
  refine Met.ofW (cc := b_Mo_byteAt) (maxL := 2) (ret := (some .int)) (by decide) rfl ?_
  intro p e s m args below meth c s₁ Bd hml hv
  obtain ⟨ha, hE, hH⟩ := hv
  have hx := Bd.exec
  have hb := Bd.bytes
  have hr := Bd.returns
  have hts : ∀ w ∈ lw_g, w.before args s = true := fun w hw => atoms_spec (ws := (.code y_Mo_byteAt b_Mo_byteAt 2 (some .int) :: lw_g)) Bd.pre w (List.mem_cons_of_mem _ hw)
  have hown : s.vm.findClass R_Mo = some m.cls := findClass_of_methodNamed Bd.named
  have hlocks := Bd.notSynchronized
  have hK := hE.1
  have hH0 := hH
  have hLo : hLc G.P [] := hLc_nil
  have hz : s.heap.size ≤ s.heap.size := Nat.le_refl _
  have hkp : kp [] h h := kp_rf
  have hl := lv_entry [.ref mo, .int a9] (n := 2) (Nat.le_of_ble_eq_true rfl)
  rw [show entryFrame m args 2 = F0 m 0 ((lg_sl [.ref mo, .int a9] ++ List.replicate (2 - (lg_sl [.ref mo, .int a9]).length) Slot.unset).toArray) [] from (by rw [ha]; exact lg_entry_eq m [.ref mo, .int a9] 2)]
  generalize (lg_sl [.ref mo, .int a9] ++ List.replicate (2 - (lg_sl [.ref mo, .int a9]).length) Slot.unset).toArray = ls at hl ⊢
  have hl : lv_has ls 2 [(0, .ref mo), (1, .int a9)] := hl
  refine FrM_elim hM ?_
  intro aBy aSt aDe aPa aIt aId aPr aNa aSi aSe aIw aEx aOl aPl aTa aAt aLo aS1 aS2 aS3 aS4 aS5 aS6 aO1 aO2 aO3 aO4 aO5 gBy gSt gDe gPa gIt gId gPr gSi gSe gIw gEx gOl gPl gTa gAt gLo gNa f_m f_aBy f_aSt f_aDe f_aPa f_aIt f_aId f_aPr f_aNa f_aSi f_aSe f_aIw f_aEx f_aOl f_aPl f_aTa f_aAt f_aLo zBy zSt zDe zIt zId zPr zSi zSe zEx ne_aIt_aId ne_aIt_aPr ne_aIt_aSi ne_aIt_aSe ne_aIt_aEx ne_aId_aPr ne_aId_aSi ne_aId_aSe ne_aId_aEx ne_aPr_aSi ne_aPr_aSe ne_aPr_aEx ne_aSi_aSe ne_aSi_aEx ne_aSe_aEx ne_aId_aAt ne_aId_aLo ne_aAt_aLo ne_aId_aOl ne_aIt_aIw ne_aId_aIw ne_aPr_aIw ne_aSi_aIw ne_aSe_aIw ne_aIw_aEx ne_aEx_aOl ne_aOl_aAt ne_aOl_aLo hn40 hn
  refine lv_aload_n hx hb d_Mo_byteAt_0 rfl (lv_at hl 0 rfl) ?_
  refine lv_iconst (v := 0) hx hb d_Mo_byteAt_1 (by decide) ?_
  refine hm_put (ci := 9) (v := .int 0) (ty := .int) (C := R_Mo) (T := F_Mo) (N := 41) hx hb hts ig_Mo t_Mo tk_Mo nm_Mo hown hK hH hLo f_m rfl 0 (by decide) (hts _ mw_432) (fun _ h9 => h9) rfl (by decide +kernel) rfl rfl (Nat.le_of_ble_eq_true rfl) d_Mo_byteAt_2 (fun H1 locs hH z2 hLo => ?_)
  have hz : s.heap.size ≤ H1.size := by rw [z2]; exact hz
  obtain ⟨h3, e4⟩ : ∃ z, z = hu h mo (.inr (9, [.int 0, .int (nI n), .int 0, .ref aBy, .ref aSt, .ref aDe, .int 0, .int (-1), .int 0, .ref aPa, .int 1, .ref aIt, .ref aId, .ref aPr, .ref aNa, .ref aSi, .ref aSe, .ref aIw, .ref aEx, .ref aOl, .int 0, .ref aPl, .int 0, .int 0, .ref aTa, .ref aAt, .ref aLo, .int 0, .int 0, .ref aS1, .ref aS2, .ref aS3, .ref aS4, .ref aS5, .ref aS6, .int 0, .ref aO1, .ref aO2, .ref aO3, .ref aO4, .ref aO5])) := ⟨_, rfl⟩
  have hH : hm D vwCl G h3 H1 := by rw [e4]; exact hH
  have f_aBy : h3 aBy = some (.inl ((t 0), 819200, .inl gBy)) := by rw [e4, hu_n (h_neA f_aBy f_m)]; exact f_aBy
  have f_m : h3 mo = some (.inr (9, [.int 0, .int (nI n), .int 0, .ref aBy, .ref aSt, .ref aDe, .int 0, .int (-1), .int 0, .ref aPa, .int 1, .ref aIt, .ref aId, .ref aPr, .ref aNa, .ref aSi, .ref aSe, .ref aIw, .ref aEx, .ref aOl, .int 0, .ref aPl, .int 0, .int 0, .ref aTa, .ref aAt, .ref aLo, .int 0, .int 0, .ref aS1, .ref aS2, .ref aS3, .ref aS4, .ref aS5, .ref aS6, .int 0, .ref aO1, .ref aO2, .ref aO3, .ref aO4, .ref aO5])) := by rw [e4]; exact hu_s _ _ _
  refine lv_iload_n hx hb d_Mo_byteAt_5 rfl (lv_at hl 1 rfl) ?_
  refine lv_iconst (v := 0) hx hb d_Mo_byteAt_6 (by decide) ?_
  refine lv_sipush (v := 2048) hx hb d_Mo_byteAt_7 (by decide) ?_
  refine lv_aload_n hx hb d_Mo_byteAt_10 rfl (lv_at hl 0 rfl) ?_
  refine hm_get (ci := 9) (v := .int (nI n)) (C := R_Mo) (T := F_Mo) (N := 41) hx hb hts ig_Mo hown hK hH f_m rfl 1 (by decide) (hts _ mw_425) (fun _ h9 => h9) rfl d_Mo_byteAt_11 ?_
  refine lv_imul hx hb d_Mo_byteAt_14 ?_
  refine lv_iconst (v := 1) hx hb d_Mo_byteAt_15 (by decide) ?_
  refine lv_isub hx hb d_Mo_byteAt_16 ?_
  refine hm_calli (va_runS (As := [.int a9, .int 0, .int ((2048 * (nI n)) - 1)]) (rest := []) ⟨hx, hb, hml, hown, hts⟩ (c_m_in l D t G ak av h3 a9 0 (2048 * nI n - 1)) ⟨cw9B 3 hts mw_437 mw_438 mw_428 rfl rfl (by decide +kernel) ⟨Nat.le_of_ble_eq_true rfl, Nat.le_of_ble_eq_true rfl⟩, hts _ mw_439⟩ (hP_S kE_ok hE hH) rfl rfl hl.1 rfl (lv_room (Nat.le_of_ble_eq_true rfl)) d_Mo_byteAt_17 ⟨Nat.le_of_ble_eq_true rfl, Nat.le_of_ble_eq_true rfl⟩) hLo (fun r5 h6 H7 locs hp9 hH z8 hLo => ?_)
  have hz : s.heap.size ≤ H7.size := Nat.le_trans hz z8
  obtain ⟨rfl, rfl⟩ := hp9
  refine lv_if_eq (tgt := 31) hx hb d_Mo_byteAt_20 (by decide) (fun hc10 => ?_) (fun hc10 => ?_)
  · skip
    refine lv_iconst (v := -1) hx hb d_Mo_byteAt_31 (by decide) ?_
    exact W.iret (v := (-1)) hx hb hr (fun t9 ht hW => ⟨(-1), h3, rfl, (by_0 hn hn40 hc10).symm, by rw [ht]; exact hH, by rw [ht]; exact hz⟩) hLo d_Mo_byteAt_32
  · skip
    obtain ⟨hb9, q9, hq9, rfl⟩ := by_1 hn hn40 hc10
    refine lv_aload_n hx hb d_Mo_byteAt_23 rfl (lv_at hl 0 rfl) ?_
    refine lv_iload_n hx hb d_Mo_byteAt_24 rfl (lv_at hl 1 rfl) ?_
    refine hm_calli (va_runV (As := [.int (nI q9)]) (b := mo) (rest := []) ⟨hx, hb, hml, hown, hts⟩ (c_m_get0 l D t G ak av h3 mo n aBy aSt aDe aPa aIt aId aPr aNa aSi aSe aIw aEx aOl aPl aTa aAt aLo aS1 aS2 aS3 aS4 aS5 aS6 aO1 aO2 aO3 aO4 aO5 q9 gBy f_m f_aBy zBy (by omega)) ⟨cw9B 1 hts mw_469 mw_470 mw_428 rfl rfl (by decide +kernel) ⟨Nat.le_of_ble_eq_true rfl, Nat.le_of_ble_eq_true rfl⟩, hts _ mw_471, hts _ mw_472⟩ (hP_V (q := (R_Mo, F_Mo, 41)) kE_ok hE hK hH f_m rfl) rfl rfl hl.1 rfl (lv_room (Nat.le_of_ble_eq_true rfl)) d_Mo_byteAt_25 ⟨Nat.le_of_ble_eq_true rfl, Nat.le_of_ble_eq_true rfl⟩) hLo (fun r11 h12 H13 locs hp15 hH z14 hLo => ?_)
    have hz : s.heap.size ≤ H13.size := Nat.le_trans hz z14
    obtain ⟨rfl, rfl⟩ := hp15
    refine lv_goto (tgt := 32) hx hb d_Mo_byteAt_28 (by decide) ?_
    exact W.iret (v := 0) hx hb hr (fun t9 ht hW => ⟨0, h3, rfl, hb9.symm, by rw [ht]; exact hH, by rw [ht]; exact hz⟩) hLo d_Mo_byteAt_32

set_option maxHeartbeats 4000000 in
set_option maxRecDepth 100000 in
theorem c_m_spoil (l : Launch) (D : va_G) (t : Nat → ClassId) (G : hG) (ak av : Nat → Nat) (h : hM) (mo n : Nat) (a9 vv : Int32) (hM : FrM t h mo n) : Met l y_Mo_spoil (.code y_Mo_spoil b_Mo_spoil 4 (some .int) :: lw_g) { frames := 1, cells := 0, slots := 0, locals := 22 } (hP (kE D t G ak av) D vwCl G h [.ref mo, .int a9, .int vv]) (hQi D vwCl G (fun r h' => r = -1)) 0 0 G.P := by
  refine Met.ofW (cc := b_Mo_spoil) (maxL := 4) (ret := (some .int)) (by decide) rfl ?_
  intro p e s m args below meth c s₁ Bd hml hv
  obtain ⟨ha, hE, hH⟩ := hv
  have hx := Bd.exec
  have hb := Bd.bytes
  have hr := Bd.returns
  have hts : ∀ w ∈ lw_g, w.before args s = true := fun w hw => atoms_spec (ws := (.code y_Mo_spoil b_Mo_spoil 4 (some .int) :: lw_g)) Bd.pre w (List.mem_cons_of_mem _ hw)
  have hown : s.vm.findClass R_Mo = some m.cls := findClass_of_methodNamed Bd.named
  have hlocks := Bd.notSynchronized
  have hK := hE.1
  have hH0 := hH
  have hLo : hLc G.P [] := hLc_nil
  have hz : s.heap.size ≤ s.heap.size := Nat.le_refl _
  have hkp : kp [] h h := kp_rf
  have hl := lv_entry [.ref mo, .int a9, .int vv] (n := 4) (Nat.le_of_ble_eq_true rfl)
  rw [show entryFrame m args 4 = F0 m 0 ((lg_sl [.ref mo, .int a9, .int vv] ++ List.replicate (4 - (lg_sl [.ref mo, .int a9, .int vv]).length) Slot.unset).toArray) [] from (by rw [ha]; exact lg_entry_eq m [.ref mo, .int a9, .int vv] 4)]
  generalize (lg_sl [.ref mo, .int a9, .int vv] ++ List.replicate (4 - (lg_sl [.ref mo, .int a9, .int vv]).length) Slot.unset).toArray = ls at hl ⊢
  have hl : lv_has ls 4 [(0, .ref mo), (1, .int a9), (2, .int vv)] := hl
  refine FrM_elim hM ?_
  intro aBy aSt aDe aPa aIt aId aPr aNa aSi aSe aIw aEx aOl aPl aTa aAt aLo aS1 aS2 aS3 aS4 aS5 aS6 aO1 aO2 aO3 aO4 aO5 gBy gSt gDe gPa gIt gId gPr gSi gSe gIw gEx gOl gPl gTa gAt gLo gNa f_m f_aBy f_aSt f_aDe f_aPa f_aIt f_aId f_aPr f_aNa f_aSi f_aSe f_aIw f_aEx f_aOl f_aPl f_aTa f_aAt f_aLo zBy zSt zDe zIt zId zPr zSi zSe zEx ne_aIt_aId ne_aIt_aPr ne_aIt_aSi ne_aIt_aSe ne_aIt_aEx ne_aId_aPr ne_aId_aSi ne_aId_aSe ne_aId_aEx ne_aPr_aSi ne_aPr_aSe ne_aPr_aEx ne_aSi_aSe ne_aSi_aEx ne_aSe_aEx ne_aId_aAt ne_aId_aLo ne_aAt_aLo ne_aId_aOl ne_aIt_aIw ne_aId_aIw ne_aPr_aIw ne_aSi_aIw ne_aSe_aIw ne_aIw_aEx ne_aEx_aOl ne_aOl_aAt ne_aOl_aLo hn40 hn
  refine lv_aload_n hx hb d_Mo_spoil_0 rfl (lv_at hl 0 rfl) ?_
  refine lv_iconst (v := 0) hx hb d_Mo_spoil_1 (by decide) ?_
  refine hm_put (ci := 9) (v := .int 0) (ty := .int) (C := R_Mo) (T := F_Mo) (N := 41) hx hb hts ig_Mo t_Mo tk_Mo nm_Mo hown hK hH hLo f_m rfl 0 (by decide) (hts _ mw_432) (fun _ h9 => h9) rfl (by decide +kernel) rfl rfl (Nat.le_of_ble_eq_true rfl) d_Mo_spoil_2 (fun H1 locs hH z2 hLo => ?_)
  have hz : s.heap.size ≤ H1.size := by rw [z2]; exact hz
  obtain ⟨h3, e4⟩ : ∃ z, z = hu h mo (.inr (9, [.int 0, .int (nI n), .int 0, .ref aBy, .ref aSt, .ref aDe, .int 0, .int (-1), .int 0, .ref aPa, .int 1, .ref aIt, .ref aId, .ref aPr, .ref aNa, .ref aSi, .ref aSe, .ref aIw, .ref aEx, .ref aOl, .int 0, .ref aPl, .int 0, .int 0, .ref aTa, .ref aAt, .ref aLo, .int 0, .int 0, .ref aS1, .ref aS2, .ref aS3, .ref aS4, .ref aS5, .ref aS6, .int 0, .ref aO1, .ref aO2, .ref aO3, .ref aO4, .ref aO5])) := ⟨_, rfl⟩
  have hH : hm D vwCl G h3 H1 := by rw [e4]; exact hH
  have f_aSt : h3 aSt = some (.inl ((t 0), 400, .inl gSt)) := by rw [e4, hu_n (h_neA f_aSt f_m)]; exact f_aSt
  have f_m : h3 mo = some (.inr (9, [.int 0, .int (nI n), .int 0, .ref aBy, .ref aSt, .ref aDe, .int 0, .int (-1), .int 0, .ref aPa, .int 1, .ref aIt, .ref aId, .ref aPr, .ref aNa, .ref aSi, .ref aSe, .ref aIw, .ref aEx, .ref aOl, .int 0, .ref aPl, .int 0, .int 0, .ref aTa, .ref aAt, .ref aLo, .int 0, .int 0, .ref aS1, .ref aS2, .ref aS3, .ref aS4, .ref aS5, .ref aS6, .int 0, .ref aO1, .ref aO2, .ref aO3, .ref aO4, .ref aO5])) := by rw [e4]; exact hu_s _ _ _
  refine lv_iload_n hx hb d_Mo_spoil_5 rfl (lv_at hl 1 rfl) ?_
  refine lv_iconst (v := 0) hx hb d_Mo_spoil_6 (by decide) ?_
  refine lv_sipush (v := 2048) hx hb d_Mo_spoil_7 (by decide) ?_
  refine lv_aload_n hx hb d_Mo_spoil_10 rfl (lv_at hl 0 rfl) ?_
  refine hm_get (ci := 9) (v := .int (nI n)) (C := R_Mo) (T := F_Mo) (N := 41) hx hb hts ig_Mo hown hK hH f_m rfl 1 (by decide) (hts _ mw_425) (fun _ h9 => h9) rfl d_Mo_spoil_11 ?_
  refine lv_imul hx hb d_Mo_spoil_14 ?_
  refine lv_iconst (v := 1) hx hb d_Mo_spoil_15 (by decide) ?_
  refine lv_isub hx hb d_Mo_spoil_16 ?_
  refine hm_calli (va_runS (As := [.int a9, .int 0, .int ((2048 * (nI n)) - 1)]) (rest := []) ⟨hx, hb, hml, hown, hts⟩ (c_m_in l D t G ak av h3 a9 0 (2048 * nI n - 1)) ⟨cw9B 3 hts mw_437 mw_438 mw_428 rfl rfl (by decide +kernel) ⟨Nat.le_of_ble_eq_true rfl, Nat.le_of_ble_eq_true rfl⟩, hts _ mw_439⟩ (hP_S kE_ok hE hH) rfl rfl hl.1 rfl (lv_room (Nat.le_of_ble_eq_true rfl)) d_Mo_spoil_17 ⟨Nat.le_of_ble_eq_true rfl, Nat.le_of_ble_eq_true rfl⟩) hLo (fun r5 h6 H7 locs hp9 hH z8 hLo => ?_)
  have hz : s.heap.size ≤ H7.size := Nat.le_trans hz z8
  obtain ⟨rfl, rfl⟩ := hp9
  refine lv_if_eq (tgt := 42) hx hb d_Mo_spoil_20 (by decide) (fun hc10 => ?_) (fun hc10 => ?_)
  · skip
    refine lv_iconst (v := -1) hx hb d_Mo_spoil_42 (by decide) ?_
    exact W.iret (v := (-1)) hx hb hr (fun t9 ht hW => ⟨(-1), h3, rfl, rfl, by rw [ht]; exact hH, by rw [ht]; exact hz⟩) hLo d_Mo_spoil_43
  · skip
    obtain ⟨hb9, q9, hq9, rfl⟩ := by_1 hn hn40 hc10
    refine lv_aload_n hx hb d_Mo_spoil_23 rfl (lv_at hl 0 rfl) ?_
    refine hm_get (ci := 9) (v := .ref aSt) (C := R_Mo) (T := F_Mo) (N := 41) hx hb hts ig_Mo hown hK hH f_m rfl 4 (by decide) (hts _ mw_401) (fun _ h9 => h9) rfl d_Mo_spoil_24 ?_
    refine lv_aload_n hx hb d_Mo_spoil_27 rfl (lv_at hl 0 rfl) ?_
    refine hm_get (ci := 9) (v := .int 0) (C := R_Mo) (T := F_Mo) (N := 41) hx hb hts ig_Mo hown hK hH f_m rfl 2 (by decide) (hts _ mw_467) (fun _ h9 => h9) rfl d_Mo_spoil_28 ?_
    refine lv_iload_n hx hb d_Mo_spoil_31 rfl (lv_at hl 1 rfl) ?_
    refine lv_sipush (v := 2048) hx hb d_Mo_spoil_32 (by decide) ?_
    refine lv_idiv hx hb d_Mo_spoil_35 (by decide) ?_
    refine lv_iadd hx hb d_Mo_spoil_36 ?_
    refine hj_bald hx hb hK hH 0 f_aSt rfl (q9 / 2048) (by rw [Int32.zero_add]; exact pk_div (by omega) (by decide) (by decide)) (by omega) (by decide) d_Mo_spoil_37 ?_
    refine lv_iconst (v := 1) hx hb d_Mo_spoil_38 (by decide) ?_
    refine lv_icmp_eq (tgt := 44) hx hb d_Mo_spoil_39 (by decide) (fun hc11 => absurd hc11 (by rw [zSt]; decide)) (fun hc11 => ?_)
    refine lv_iconst (v := -1) hx hb d_Mo_spoil_42 (by decide) ?_
    exact W.iret (v := (-1)) hx hb hr (fun t9 ht hW => ⟨(-1), h3, rfl, rfl, by rw [ht]; exact hH, by rw [ht]; exact hz⟩) hLo d_Mo_spoil_43

set_option maxHeartbeats 4000000 in
set_option maxRecDepth 100000 in
theorem c_m_isWr (l : Launch) (D : va_G) (t : Nat → ClassId) (G : hG) (ak av : Nat → Nat) (h : hM) (mo n aBy aSt aDe aPa aIt aId aPr aNa aSi aSe aIw aEx aOl aPl aTa aAt aLo aS1 aS2 aS3 aS4 aS5 aS6 aO1 aO2 aO3 aO4 aO5 : Nat) (gSt : Nat → Int32) (sx : Int32) (f_m : h mo = some (.inr (9, [.int 0, .int (nI n), .int 0, .ref aBy, .ref aSt, .ref aDe, .int 0, .int (-1), .int 0, .ref aPa, .int 1, .ref aIt, .ref aId, .ref aPr, .ref aNa, .ref aSi, .ref aSe, .ref aIw, .ref aEx, .ref aOl, .int 0, .ref aPl, .int 0, .int 0, .ref aTa, .ref aAt, .ref aLo, .int 0, .int 0, .ref aS1, .ref aS2, .ref aS3, .ref aS4, .ref aS5, .ref aS6, .int 0, .ref aO1, .ref aO2, .ref aO3, .ref aO4, .ref aO5]))) (f_aSt : h aSt = some (.inl ((t 0), 400, .inl gSt))) (zSt : ∀ j, gSt j = 0) (hn40 : 40 ≤ n) (hn : n ≤ 200) : Met l y_Mo_isWrittenSector (.code y_Mo_isWrittenSector b_Mo_isWrittenSector 2 (some .boolean) :: lw_g) { frames := 1, cells := 0, slots := 0, locals := 22 } (hP (kE D t G ak av) D vwCl G h [.ref mo, .int sx]) (hQi D vwCl G (fun r h' => r = 0 ∧ h = h')) 0 0 G.P := by
  refine Met.ofW (cc := b_Mo_isWrittenSector) (maxL := 2) (ret := (some .boolean)) (by decide) rfl ?_
  intro p e s m args below meth c s₁ Bd hml hv
  obtain ⟨ha, hE, hH⟩ := hv
  have hx := Bd.exec
  have hb := Bd.bytes
  have hr := Bd.returns
  have hts : ∀ w ∈ lw_g, w.before args s = true := fun w hw => atoms_spec (ws := (.code y_Mo_isWrittenSector b_Mo_isWrittenSector 2 (some .boolean) :: lw_g)) Bd.pre w (List.mem_cons_of_mem _ hw)
  have hown : s.vm.findClass R_Mo = some m.cls := findClass_of_methodNamed Bd.named
  have hlocks := Bd.notSynchronized
  have hK := hE.1
  have hH0 := hH
  have hLo : hLc G.P [] := hLc_nil
  have hz : s.heap.size ≤ s.heap.size := Nat.le_refl _
  have hkp : kp [] h h := kp_rf
  have hl := lv_entry [.ref mo, .int sx] (n := 2) (Nat.le_of_ble_eq_true rfl)
  rw [show entryFrame m args 2 = F0 m 0 ((lg_sl [.ref mo, .int sx] ++ List.replicate (2 - (lg_sl [.ref mo, .int sx]).length) Slot.unset).toArray) [] from (by rw [ha]; exact lg_entry_eq m [.ref mo, .int sx] 2)]
  generalize (lg_sl [.ref mo, .int sx] ++ List.replicate (2 - (lg_sl [.ref mo, .int sx]).length) Slot.unset).toArray = ls at hl ⊢
  have hl : lv_has ls 2 [(0, .ref mo), (1, .int sx)] := hl
  refine lv_iload_n hx hb d_Mo_isWrittenSector_0 rfl (lv_at hl 1 rfl) ?_
  refine lv_iconst (v := 0) hx hb d_Mo_isWrittenSector_1 (by decide) ?_
  refine lv_aload_n hx hb d_Mo_isWrittenSector_2 rfl (lv_at hl 0 rfl) ?_
  refine hm_get (ci := 9) (v := .int (nI n)) (C := R_Mo) (T := F_Mo) (N := 41) hx hb hts ig_Mo hown hK hH f_m rfl 1 (by decide) (hts _ mw_425) (fun _ h9 => h9) rfl d_Mo_isWrittenSector_3 ?_
  refine lv_iconst (v := 1) hx hb d_Mo_isWrittenSector_6 (by decide) ?_
  refine lv_isub hx hb d_Mo_isWrittenSector_7 ?_
  refine hm_calli (va_runS (As := [.int sx, .int 0, .int ((nI n) - 1)]) (rest := []) ⟨hx, hb, hml, hown, hts⟩ (c_m_in l D t G ak av h sx 0 (nI n - 1)) ⟨cw9B 3 hts mw_437 mw_438 mw_428 rfl rfl (by decide +kernel) ⟨Nat.le_of_ble_eq_true rfl, Nat.le_of_ble_eq_true rfl⟩, hts _ mw_439⟩ (hP_S kE_ok hE hH) rfl rfl hl.1 rfl (lv_room (Nat.le_of_ble_eq_true rfl)) d_Mo_isWrittenSector_8 ⟨Nat.le_of_ble_eq_true rfl, Nat.le_of_ble_eq_true rfl⟩) hLo (fun r1 h2 H3 locs hp5 hH z4 hLo => ?_)
  have hz : s.heap.size ≤ H3.size := Nat.le_trans hz z4
  obtain ⟨hr9, rfl⟩ := hp5
  rcases in9 (sx := sx) hn (by omega) with ⟨hi9, j, hj, hsx⟩ | ⟨hi9, ho⟩
  · skip
    rw [hi9] at hr9
    subst hr9
    subst hsx
    refine lv_if_eq (tgt := 33) hx hb d_Mo_isWrittenSector_11 (by decide) (fun hc6 => absurd hc6 (by decide)) (fun hc6 => ?_)
    refine lv_aload_n hx hb d_Mo_isWrittenSector_14 rfl (lv_at hl 0 rfl) ?_
    refine hm_get (ci := 9) (v := .ref aSt) (C := R_Mo) (T := F_Mo) (N := 41) hx hb hts ig_Mo hown hK hH f_m rfl 4 (by decide) (hts _ mw_401) (fun _ h9 => h9) rfl d_Mo_isWrittenSector_15 ?_
    refine lv_aload_n hx hb d_Mo_isWrittenSector_18 rfl (lv_at hl 0 rfl) ?_
    refine hm_get (ci := 9) (v := .int 0) (C := R_Mo) (T := F_Mo) (N := 41) hx hb hts ig_Mo hown hK hH f_m rfl 2 (by decide) (hts _ mw_467) (fun _ h9 => h9) rfl d_Mo_isWrittenSector_19 ?_
    refine lv_iload_n hx hb d_Mo_isWrittenSector_22 rfl (lv_at hl 1 rfl) ?_
    refine lv_iadd hx hb d_Mo_isWrittenSector_23 ?_
    refine hj_bald hx hb hK hH 0 f_aSt rfl j (Int32.zero_add _) (by omega) (by decide) d_Mo_isWrittenSector_24 ?_
    refine lv_iconst (v := 1) hx hb d_Mo_isWrittenSector_25 (by decide) ?_
    refine lv_icmp_ne (tgt := 33) hx hb d_Mo_isWrittenSector_26 (by decide) (fun hc7 => ?_) (fun hc7 => absurd hc7 (by rw [zSt]; decide))
    refine lv_iconst (v := 0) hx hb d_Mo_isWrittenSector_33 (by decide) ?_
    exact W.zret (v := 0) hx hb hr (by decide) (fun t9 ht hW => ⟨0, h, rfl, ⟨rfl, rfl⟩, by rw [ht]; exact hH, by rw [ht]; exact hz⟩) hLo d_Mo_isWrittenSector_34
  · skip
    rw [hi9] at hr9
    subst hr9
    refine lv_if_eq (tgt := 33) hx hb d_Mo_isWrittenSector_11 (by decide) (fun hc8 => ?_) (fun hc8 => absurd rfl hc8)
    refine lv_iconst (v := 0) hx hb d_Mo_isWrittenSector_33 (by decide) ?_
    exact W.zret (v := 0) hx hb hr (by decide) (fun t9 ht hW => ⟨0, h, rfl, ⟨rfl, rfl⟩, by rw [ht]; exact hH, by rw [ht]; exact hz⟩) hLo d_Mo_isWrittenSector_34

set_option maxHeartbeats 4000000 in
set_option maxRecDepth 100000 in
theorem c_m_isMark (l : Launch) (D : va_G) (t : Nat → ClassId) (G : hG) (ak av : Nat → Nat) (h : hM) (mo n aBy aSt aDe aPa aIt aId aPr aNa aSi aSe aIw aEx aOl aPl aTa aAt aLo aS1 aS2 aS3 aS4 aS5 aS6 aO1 aO2 aO3 aO4 aO5 : Nat) (gSt : Nat → Int32) (sx : Int32) (f_m : h mo = some (.inr (9, [.int 0, .int (nI n), .int 0, .ref aBy, .ref aSt, .ref aDe, .int 0, .int (-1), .int 0, .ref aPa, .int 1, .ref aIt, .ref aId, .ref aPr, .ref aNa, .ref aSi, .ref aSe, .ref aIw, .ref aEx, .ref aOl, .int 0, .ref aPl, .int 0, .int 0, .ref aTa, .ref aAt, .ref aLo, .int 0, .int 0, .ref aS1, .ref aS2, .ref aS3, .ref aS4, .ref aS5, .ref aS6, .int 0, .ref aO1, .ref aO2, .ref aO3, .ref aO4, .ref aO5]))) (f_aSt : h aSt = some (.inl ((t 0), 400, .inl gSt))) (zSt : ∀ j, gSt j = 0) (hn40 : 40 ≤ n) (hn : n ≤ 200) : Met l y_Mo_isMark (.code y_Mo_isMark b_Mo_isMark 4 (some .boolean) :: lw_g) { frames := 2, cells := 0, slots := 0, locals := 43 } (hP (kE D t G ak av) D vwCl G h [.ref mo, .int sx]) (hQi D vwCl G (fun r h' => r = 0 ∧ h = h')) 0 0 G.P := by
  refine Met.ofW (cc := b_Mo_isMark) (maxL := 4) (ret := (some .boolean)) (by decide) rfl ?_
  intro p e s m args below meth c s₁ Bd hml hv
  obtain ⟨ha, hE, hH⟩ := hv
  have hx := Bd.exec
  have hb := Bd.bytes
  have hr := Bd.returns
  have hts : ∀ w ∈ lw_g, w.before args s = true := fun w hw => atoms_spec (ws := (.code y_Mo_isMark b_Mo_isMark 4 (some .boolean) :: lw_g)) Bd.pre w (List.mem_cons_of_mem _ hw)
  have hown : s.vm.findClass R_Mo = some m.cls := findClass_of_methodNamed Bd.named
  have hlocks := Bd.notSynchronized
  have hK := hE.1
  have hH0 := hH
  have hLo : hLc G.P [] := hLc_nil
  have hz : s.heap.size ≤ s.heap.size := Nat.le_refl _
  have hkp : kp [] h h := kp_rf
  have hl := lv_entry [.ref mo, .int sx] (n := 4) (Nat.le_of_ble_eq_true rfl)
  rw [show entryFrame m args 4 = F0 m 0 ((lg_sl [.ref mo, .int sx] ++ List.replicate (4 - (lg_sl [.ref mo, .int sx]).length) Slot.unset).toArray) [] from (by rw [ha]; exact lg_entry_eq m [.ref mo, .int sx] 4)]
  generalize (lg_sl [.ref mo, .int sx] ++ List.replicate (4 - (lg_sl [.ref mo, .int sx]).length) Slot.unset).toArray = ls at hl ⊢
  have hl : lv_has ls 4 [(0, .ref mo), (1, .int sx)] := hl
  refine lv_sipush (v := 2048) hx hb d_Mo_isMark_0 (by decide) ?_
  refine lv_iload_n hx hb d_Mo_isMark_3 rfl (lv_at hl 1 rfl) ?_
  refine lv_imul hx hb d_Mo_isMark_4 ?_
  refine lv_istore_n (lv' := [(2, .int (2048 * sx)), (0, .ref mo), (1, .int sx)]) hx hb d_Mo_isMark_5 rfl hl (by decide) rfl (fun ls hl => ?_)
  refine lv_aload_n hx hb d_Mo_isMark_6 rfl (lv_at hl 1 rfl) ?_
  refine lv_iload_n hx hb d_Mo_isMark_7 rfl (lv_at hl 2 rfl) ?_
  refine hm_calli (va_runV (As := [.int sx]) (b := mo) (rest := []) ⟨hx, hb, hml, hown, hts⟩ (c_m_isWr l D t G ak av h mo n aBy aSt aDe aPa aIt aId aPr aNa aSi aSe aIw aEx aOl aPl aTa aAt aLo aS1 aS2 aS3 aS4 aS5 aS6 aO1 aO2 aO3 aO4 aO5 gSt sx f_m f_aSt zSt hn40 hn) ⟨cw9B 1 hts mw_473 mw_474 mw_428 rfl rfl (by decide +kernel) ⟨Nat.le_of_ble_eq_true rfl, Nat.le_of_ble_eq_true rfl⟩, hts _ mw_475, hts _ mw_476⟩ (hP_V (q := (R_Mo, F_Mo, 41)) kE_ok hE hK hH f_m rfl) rfl rfl hl.1 rfl (lv_room (Nat.le_of_ble_eq_true rfl)) d_Mo_isMark_8 ⟨Nat.le_of_ble_eq_true rfl, Nat.le_of_ble_eq_true rfl⟩) hLo (fun r1 h2 H3 locs hp5 hH z4 hLo => ?_)
  have hz : s.heap.size ≤ H3.size := Nat.le_trans hz z4
  obtain ⟨rfl, rfl⟩ := hp5
  refine lv_if_eq (tgt := 60) hx hb d_Mo_isMark_11 (by decide) (fun hc6 => ?_) (fun hc6 => absurd rfl hc6)
  refine lv_iconst (v := 0) hx hb d_Mo_isMark_60 (by decide) ?_
  exact W.zret (v := 0) hx hb hr (by decide) (fun t9 ht hW => ⟨0, h, rfl, ⟨rfl, rfl⟩, by rw [ht]; exact hH, by rw [ht]; exact hz⟩) hLo d_Mo_isMark_61

set_option maxHeartbeats 4000000 in
set_option maxRecDepth 100000 in
theorem c_m_markAt (l : Launch) (D : va_G) (t : Nat → ClassId) (G : hG) (ak av : Nat → Nat) (h : hM) (mo n aBy aSt aDe aPa aIt aId aPr aNa aSi aSe aIw aEx aOl aPl aTa aAt aLo aS1 aS2 aS3 aS4 aS5 aS6 aO1 aO2 aO3 aO4 aO5 : Nat) (gSt : Nat → Int32) (i9 : Int32) (f_m : h mo = some (.inr (9, [.int 0, .int (nI n), .int 0, .ref aBy, .ref aSt, .ref aDe, .int 0, .int (-1), .int 0, .ref aPa, .int 1, .ref aIt, .ref aId, .ref aPr, .ref aNa, .ref aSi, .ref aSe, .ref aIw, .ref aEx, .ref aOl, .int 0, .ref aPl, .int 0, .int 0, .ref aTa, .ref aAt, .ref aLo, .int 0, .int 0, .ref aS1, .ref aS2, .ref aS3, .ref aS4, .ref aS5, .ref aS6, .int 0, .ref aO1, .ref aO2, .ref aO3, .ref aO4, .ref aO5]))) (f_aSt : h aSt = some (.inl ((t 0), 400, .inl gSt))) (zSt : ∀ j, gSt j = 0) (hn40 : 40 ≤ n) (hn : n ≤ 200) : Met l y_Mo_markAt (.code y_Mo_markAt b_Mo_markAt 4 (some .int) :: lw_g) { frames := 3, cells := 0, slots := 0, locals := 66 } (hP (kE D t G ak av) D vwCl G h [.ref mo, .int i9]) (hQi D vwCl G (fun r h' => r = -1 ∧ h = h')) 0 0 G.P := by
  refine Met.ofW (cc := b_Mo_markAt) (maxL := 4) (ret := (some .int)) (by decide) rfl ?_
  intro p e s m args below meth c s₁ Bd hml hv
  obtain ⟨ha, hE, hH⟩ := hv
  have hx := Bd.exec
  have hb := Bd.bytes
  have hr := Bd.returns
  have hts : ∀ w ∈ lw_g, w.before args s = true := fun w hw => atoms_spec (ws := (.code y_Mo_markAt b_Mo_markAt 4 (some .int) :: lw_g)) Bd.pre w (List.mem_cons_of_mem _ hw)
  have hown : s.vm.findClass R_Mo = some m.cls := findClass_of_methodNamed Bd.named
  have hlocks := Bd.notSynchronized
  have hK := hE.1
  have hH0 := hH
  have hLo : hLc G.P [] := hLc_nil
  have hz : s.heap.size ≤ s.heap.size := Nat.le_refl _
  have hkp : kp [] h h := kp_rf
  have hl := lv_entry [.ref mo, .int i9] (n := 4) (Nat.le_of_ble_eq_true rfl)
  rw [show entryFrame m args 4 = F0 m 0 ((lg_sl [.ref mo, .int i9] ++ List.replicate (4 - (lg_sl [.ref mo, .int i9]).length) Slot.unset).toArray) [] from (by rw [ha]; exact lg_entry_eq m [.ref mo, .int i9] 4)]
  generalize (lg_sl [.ref mo, .int i9] ++ List.replicate (4 - (lg_sl [.ref mo, .int i9]).length) Slot.unset).toArray = ls at hl ⊢
  have hl : lv_has ls 4 [(0, .ref mo), (1, .int i9)] := hl
  refine lv_iload_n hx hb d_Mo_markAt_0 rfl (lv_at hl 1 rfl) ?_
  refine lv_istore_n (lv' := [(2, .int i9), (0, .ref mo), (1, .int i9)]) hx hb d_Mo_markAt_1 rfl hl (by decide) rfl (fun ls hl => ?_)
  refine lv_iconst (v := 0) hx hb d_Mo_markAt_2 (by decide) ?_
  refine lv_topi (fun v1 e2 => ?_)
  obtain rfl : v1 = nI 0 := e2.trans (by decide)
  refine lv_istore_n (lv' := [(3, .int (nI 0)), (2, .int i9), (0, .ref mo), (1, .int i9)]) hx hb d_Mo_markAt_3 rfl hl (by decide) rfl (fun ls hl => ?_)
  refine hm_loop (fun k ls H locs hh => ∃ (k9 : Nat), k = n - k9 ∧ lv_has ls 4 [(3, .int (nI k9)), (0, .ref mo), (1, .int i9), (2, .int i9)] ∧ hm D vwCl G hh H ∧ s.heap.size ≤ H.size ∧ hLc G.P locs ∧ hh mo = some (.inr (9, [.int 0, .int (nI n), .int 0, .ref aBy, .ref aSt, .ref aDe, .int 0, .int (-1), .int 0, .ref aPa, .int 1, .ref aIt, .ref aId, .ref aPr, .ref aNa, .ref aSi, .ref aSe, .ref aIw, .ref aEx, .ref aOl, .int 0, .ref aPl, .int 0, .int 0, .ref aTa, .ref aAt, .ref aLo, .int 0, .int 0, .ref aS1, .ref aS2, .ref aS3, .ref aS4, .ref aS5, .ref aS6, .int 0, .ref aO1, .ref aO2, .ref aO3, .ref aO4, .ref aO5])) ∧ hh aSt = some (.inl ((t 0), 400, .inl gSt)) ∧ (k9 ≤ n) ∧ (h = hh)) ?_ (hh := h) ⟨0, rfl, (lv_sub hl [0, 2, 3, 1] rfl), hH, hz, hLo, f_m, f_aSt, by omega, rfl⟩
  rintro k ls H locs hh ⟨k9, hk, hl, hH, hz, hLo, f_m, f_aSt, hk9, hhh⟩ ih
  refine lv_iload_n hx hb d_Mo_markAt_4 rfl (lv_at hl 0 rfl) ?_
  refine lv_aload_n hx hb d_Mo_markAt_5 rfl (lv_at hl 1 rfl) ?_
  refine hm_get (ci := 9) (v := .int (nI n)) (C := R_Mo) (T := F_Mo) (N := 41) hx hb hts ig_Mo hown hK hH f_m rfl 1 (by decide) (hts _ mw_425) (fun _ h9 => h9) rfl d_Mo_markAt_6 ?_
  refine lv_icmp_ge (tgt := 42) hx hb d_Mo_markAt_9 (by decide) (fun hc3 => ?_) (fun hc3 => ?_)
  · skip
    refine lv_iconst (v := -1) hx hb d_Mo_markAt_42 (by decide) ?_
    exact W.iret (v := (-1)) hx hb hr (fun t9 ht hW => ⟨(-1), hh, rfl, ⟨rfl, hhh⟩, by rw [ht]; exact hH, by rw [ht]; exact hz⟩) hLo d_Mo_markAt_43
  · skip
    have hk1 : k9 < n := (nI_ltI (by omega) (by omega)).mp (Int32.not_le.mp hc3)
    refine lv_iload_n hx hb d_Mo_markAt_12 rfl (lv_at hl 2 rfl) ?_
    refine lv_if_lt (tgt := 42) hx hb d_Mo_markAt_13 (by decide) (fun hc4 => ?_) (fun hc4 => ?_)
    · skip
      refine lv_iconst (v := -1) hx hb d_Mo_markAt_42 (by decide) ?_
      exact W.iret (v := (-1)) hx hb hr (fun t9 ht hW => ⟨(-1), hh, rfl, ⟨rfl, hhh⟩, by rw [ht]; exact hH, by rw [ht]; exact hz⟩) hLo d_Mo_markAt_43
    · skip
      refine lv_aload_n hx hb d_Mo_markAt_16 rfl (lv_at hl 1 rfl) ?_
      refine lv_iload_n hx hb d_Mo_markAt_17 rfl (lv_at hl 0 rfl) ?_
      refine hm_calli (va_runV (As := [.int (nI k9)]) (b := mo) (rest := []) ⟨hx, hb, hml, hown, hts⟩ (c_m_isMark l D t G ak av hh mo n aBy aSt aDe aPa aIt aId aPr aNa aSi aSe aIw aEx aOl aPl aTa aAt aLo aS1 aS2 aS3 aS4 aS5 aS6 aO1 aO2 aO3 aO4 aO5 gSt (nI k9) f_m f_aSt zSt hn40 hn) ⟨cw9B 1 hts mw_477 mw_478 mw_428 rfl rfl (by decide +kernel) ⟨Nat.le_of_ble_eq_true rfl, Nat.le_of_ble_eq_true rfl⟩, hts _ mw_479, hts _ mw_480⟩ (hP_V (q := (R_Mo, F_Mo, 41)) kE_ok hE hK hH f_m rfl) rfl rfl hl.1 rfl (lv_room (Nat.le_of_ble_eq_true rfl)) d_Mo_markAt_18 ⟨Nat.le_of_ble_eq_true rfl, Nat.le_of_ble_eq_true rfl⟩) hLo (fun r5 h6 H7 locs hp9 hH z8 hLo => ?_)
      have hz : s.heap.size ≤ H7.size := Nat.le_trans hz z8
      obtain ⟨rfl, rfl⟩ := hp9
      refine lv_if_ne (tgt := 27) hx hb d_Mo_markAt_21 (by decide) (fun hc10 => absurd rfl hc10) (fun hc10 => ?_)
      refine lv_goto (tgt := 36) hx hb d_Mo_markAt_24 (by decide) ?_
      refine lv_iinc (v := nI (k9 + 1)) (lv' := [(3, .int (nI (k9 + 1))), (0, .ref mo), (1, .int i9), (2, .int i9)]) hx hb d_Mo_markAt_36 hl (k := 0) rfl (nI_1 k9) (by decide) rfl (fun ls hl => ?_)
      refine lv_goto (tgt := 4) hx hb d_Mo_markAt_39 (by decide) ?_
      exact ih (n - (k9 + 1)) ls _ locs _ (by rw [hk]; omega) ⟨(k9 + 1), rfl, (lv_sub hl [0, 1, 2, 3] rfl), hH, hz, hLo, f_m, f_aSt, by omega, hhh⟩

set_option maxHeartbeats 4000000 in
set_option maxRecDepth 100000 in
theorem c_m_mark (l : Launch) (D : va_G) (t : Nat → ClassId) (G : hG) (ak av : Nat → Nat) (h : hM) (mo n : Nat) (i9 w9 : Int32) (hM : FrM t h mo n) : Met l y_Mo_mark (.code y_Mo_mark b_Mo_mark 4 (some .int) :: lw_g) { frames := 4, cells := 0, slots := 0, locals := 89 } (hP (kE D t G ak av) D vwCl G h [.ref mo, .int i9, .int w9]) (hQi D vwCl G (fun r h' => r = 0 ∧ ThM h' mo n 1)) 0 0 G.P := by
  refine Met.ofW (cc := b_Mo_mark) (maxL := 4) (ret := (some .int)) (by decide) rfl ?_
  intro p e s m args below meth c s₁ Bd hml hv
  obtain ⟨ha, hE, hH⟩ := hv
  have hx := Bd.exec
  have hb := Bd.bytes
  have hr := Bd.returns
  have hts : ∀ w ∈ lw_g, w.before args s = true := fun w hw => atoms_spec (ws := (.code y_Mo_mark b_Mo_mark 4 (some .int) :: lw_g)) Bd.pre w (List.mem_cons_of_mem _ hw)
  have hown : s.vm.findClass R_Mo = some m.cls := findClass_of_methodNamed Bd.named
  have hlocks := Bd.notSynchronized
  have hK := hE.1
  have hH0 := hH
  have hLo : hLc G.P [] := hLc_nil
  have hz : s.heap.size ≤ s.heap.size := Nat.le_refl _
  have hkp : kp [] h h := kp_rf
  have hl := lv_entry [.ref mo, .int i9, .int w9] (n := 4) (Nat.le_of_ble_eq_true rfl)
  rw [show entryFrame m args 4 = F0 m 0 ((lg_sl [.ref mo, .int i9, .int w9] ++ List.replicate (4 - (lg_sl [.ref mo, .int i9, .int w9]).length) Slot.unset).toArray) [] from (by rw [ha]; exact lg_entry_eq m [.ref mo, .int i9, .int w9] 4)]
  generalize (lg_sl [.ref mo, .int i9, .int w9] ++ List.replicate (4 - (lg_sl [.ref mo, .int i9, .int w9]).length) Slot.unset).toArray = ls at hl ⊢
  have hl : lv_has ls 4 [(0, .ref mo), (1, .int i9), (2, .int w9)] := hl
  refine FrM_elim hM ?_
  intro aBy aSt aDe aPa aIt aId aPr aNa aSi aSe aIw aEx aOl aPl aTa aAt aLo aS1 aS2 aS3 aS4 aS5 aS6 aO1 aO2 aO3 aO4 aO5 gBy gSt gDe gPa gIt gId gPr gSi gSe gIw gEx gOl gPl gTa gAt gLo gNa f_m f_aBy f_aSt f_aDe f_aPa f_aIt f_aId f_aPr f_aNa f_aSi f_aSe f_aIw f_aEx f_aOl f_aPl f_aTa f_aAt f_aLo zBy zSt zDe zIt zId zPr zSi zSe zEx ne_aIt_aId ne_aIt_aPr ne_aIt_aSi ne_aIt_aSe ne_aIt_aEx ne_aId_aPr ne_aId_aSi ne_aId_aSe ne_aId_aEx ne_aPr_aSi ne_aPr_aSe ne_aPr_aEx ne_aSi_aSe ne_aSi_aEx ne_aSe_aEx ne_aId_aAt ne_aId_aLo ne_aAt_aLo ne_aId_aOl ne_aIt_aIw ne_aId_aIw ne_aPr_aIw ne_aSi_aIw ne_aSe_aIw ne_aIw_aEx ne_aEx_aOl ne_aOl_aAt ne_aOl_aLo hn40 hn
  refine lv_aload_n hx hb d_Mo_mark_0 rfl (lv_at hl 0 rfl) ?_
  refine lv_iload_n hx hb d_Mo_mark_1 rfl (lv_at hl 1 rfl) ?_
  refine hm_calli (va_runV (As := [.int i9]) (b := mo) (rest := []) ⟨hx, hb, hml, hown, hts⟩ (c_m_markAt l D t G ak av h mo n aBy aSt aDe aPa aIt aId aPr aNa aSi aSe aIw aEx aOl aPl aTa aAt aLo aS1 aS2 aS3 aS4 aS5 aS6 aO1 aO2 aO3 aO4 aO5 gSt i9 f_m f_aSt zSt hn40 hn) ⟨cw9B 1 hts mw_481 mw_482 mw_428 rfl rfl (by decide +kernel) ⟨Nat.le_of_ble_eq_true rfl, Nat.le_of_ble_eq_true rfl⟩, hts _ mw_483, hts _ mw_484⟩ (hP_V (q := (R_Mo, F_Mo, 41)) kE_ok hE hK hH f_m rfl) rfl rfl hl.1 rfl (lv_room (Nat.le_of_ble_eq_true rfl)) d_Mo_mark_2 ⟨Nat.le_of_ble_eq_true rfl, Nat.le_of_ble_eq_true rfl⟩) hLo (fun r1 h2 H3 locs hp5 hH z4 hLo => ?_)
  have hz : s.heap.size ≤ H3.size := Nat.le_trans hz z4
  obtain ⟨rfl, rfl⟩ := hp5
  refine lv_istore_n (lv' := [(3, .int (-1)), (0, .ref mo), (1, .int i9), (2, .int w9)]) hx hb d_Mo_mark_5 rfl hl (by decide) rfl (fun ls hl => ?_)
  refine lv_aload_n hx hb d_Mo_mark_6 rfl (lv_at hl 1 rfl) ?_
  refine lv_iload_n hx hb d_Mo_mark_7 rfl (lv_at hl 0 rfl) ?_
  refine lv_if_lt (tgt := 24) hx hb d_Mo_mark_8 (by decide) (fun hc6 => ?_) (fun hc6 => absurd (by decide) hc6)
  refine lv_iconst (v := 1) hx hb d_Mo_mark_24 (by decide) ?_
  refine hm_put (ci := 9) (v := .int 1) (ty := .int) (C := R_Mo) (T := F_Mo) (N := 41) hx hb hts ig_Mo t_Mo tk_Mo nm_Mo hown hK hH hLo f_m rfl 0 (by decide) (hts _ mw_432) (fun _ h9 => h9) rfl (by decide +kernel) rfl rfl (Nat.le_of_ble_eq_true rfl) d_Mo_mark_25 (fun H7 locs hH z8 hLo => ?_)
  have hz : s.heap.size ≤ H7.size := by rw [z8]; exact hz
  obtain ⟨h9, e10⟩ : ∃ z, z = hu h mo (.inr (9, [.int 1, .int (nI n), .int 0, .ref aBy, .ref aSt, .ref aDe, .int 0, .int (-1), .int 0, .ref aPa, .int 1, .ref aIt, .ref aId, .ref aPr, .ref aNa, .ref aSi, .ref aSe, .ref aIw, .ref aEx, .ref aOl, .int 0, .ref aPl, .int 0, .int 0, .ref aTa, .ref aAt, .ref aLo, .int 0, .int 0, .ref aS1, .ref aS2, .ref aS3, .ref aS4, .ref aS5, .ref aS6, .int 0, .ref aO1, .ref aO2, .ref aO3, .ref aO4, .ref aO5])) := ⟨_, rfl⟩
  have hH : hm D vwCl G h9 H7 := by rw [e10]; exact hH
  have f_aSt : h9 aSt = some (.inl ((t 0), 400, .inl gSt)) := by rw [e10, hu_n (h_neA f_aSt f_m)]; exact f_aSt
  have f_m : h9 mo = some (.inr (9, [.int 1, .int (nI n), .int 0, .ref aBy, .ref aSt, .ref aDe, .int 0, .int (-1), .int 0, .ref aPa, .int 1, .ref aIt, .ref aId, .ref aPr, .ref aNa, .ref aSi, .ref aSe, .ref aIw, .ref aEx, .ref aOl, .int 0, .ref aPl, .int 0, .int 0, .ref aTa, .ref aAt, .ref aLo, .int 0, .int 0, .ref aS1, .ref aS2, .ref aS3, .ref aS4, .ref aS5, .ref aS6, .int 0, .ref aO1, .ref aO2, .ref aO3, .ref aO4, .ref aO5])) := by rw [e10]; exact hu_s _ _ _
  refine lv_aload_n hx hb d_Mo_mark_28 rfl (lv_at hl 1 rfl) ?_
  refine hm_get (ci := 9) (v := .int 1) (C := R_Mo) (T := F_Mo) (N := 41) hx hb hts ig_Mo hown hK hH f_m rfl 0 (by decide) (hts _ mw_432) (fun _ h9 => h9) rfl d_Mo_mark_29 ?_
  refine lv_iconst (v := 1) hx hb d_Mo_mark_32 (by decide) ?_
  refine lv_icmp_ne (tgt := 38) hx hb d_Mo_mark_33 (by decide) (fun hc11 => absurd rfl hc11) (fun hc11 => ?_)
  refine lv_iconst (v := 0) hx hb d_Mo_mark_36 (by decide) ?_
  exact W.iret (v := 0) hx hb hr (fun t9 ht hW => ⟨0, h9, rfl, ⟨rfl, aBy, aSt, aDe, aPa, aIt, aId, aPr, aNa, aSi, aSe, aIw, aEx, aOl, aPl, aTa, aAt, aLo, aS1, aS2, aS3, aS4, aS5, aS6, aO1, aO2, aO3, aO4, aO5, f_m⟩, by rw [ht]; exact hH, by rw [ht]; exact hz⟩) hLo d_Mo_mark_37

set_option maxHeartbeats 4000000 in
set_option maxRecDepth 100000 in
theorem c_m_open (l : Launch) (D : va_G) (t : Nat → ClassId) (G : hG) (ak av : Nat → Nat) (h : hM) (mo n : Nat) (i9 : Int32) (hM : FrM t h mo n) : Met l y_Mo_open (.code y_Mo_open b_Mo_open 5 (some .int) :: lw_g) { frames := 4, cells := 0, slots := 0, locals := 89 } (hP (kE D t G ak av) D vwCl G h [.ref mo, .int i9]) (hQi D vwCl G (fun r h' => r = -1000000)) 0 0 G.P := by
  refine Met.ofW (cc := b_Mo_open) (maxL := 5) (ret := (some .int)) (by decide) rfl ?_
  intro p e s m args below meth c s₁ Bd hml hv
  obtain ⟨ha, hE, hH⟩ := hv
  have hx := Bd.exec
  have hb := Bd.bytes
  have hr := Bd.returns
  have hts : ∀ w ∈ lw_g, w.before args s = true := fun w hw => atoms_spec (ws := (.code y_Mo_open b_Mo_open 5 (some .int) :: lw_g)) Bd.pre w (List.mem_cons_of_mem _ hw)
  have hown : s.vm.findClass R_Mo = some m.cls := findClass_of_methodNamed Bd.named
  have hlocks := Bd.notSynchronized
  have hK := hE.1
  have hH0 := hH
  have hLo : hLc G.P [] := hLc_nil
  have hz : s.heap.size ≤ s.heap.size := Nat.le_refl _
  have hkp : kp [] h h := kp_rf
  have hl := lv_entry [.ref mo, .int i9] (n := 5) (Nat.le_of_ble_eq_true rfl)
  rw [show entryFrame m args 5 = F0 m 0 ((lg_sl [.ref mo, .int i9] ++ List.replicate (5 - (lg_sl [.ref mo, .int i9]).length) Slot.unset).toArray) [] from (by rw [ha]; exact lg_entry_eq m [.ref mo, .int i9] 5)]
  generalize (lg_sl [.ref mo, .int i9] ++ List.replicate (5 - (lg_sl [.ref mo, .int i9]).length) Slot.unset).toArray = ls at hl ⊢
  have hl : lv_has ls 5 [(0, .ref mo), (1, .int i9)] := hl
  refine FrM_elim hM ?_
  intro aBy aSt aDe aPa aIt aId aPr aNa aSi aSe aIw aEx aOl aPl aTa aAt aLo aS1 aS2 aS3 aS4 aS5 aS6 aO1 aO2 aO3 aO4 aO5 gBy gSt gDe gPa gIt gId gPr gSi gSe gIw gEx gOl gPl gTa gAt gLo gNa f_m f_aBy f_aSt f_aDe f_aPa f_aIt f_aId f_aPr f_aNa f_aSi f_aSe f_aIw f_aEx f_aOl f_aPl f_aTa f_aAt f_aLo zBy zSt zDe zIt zId zPr zSi zSe zEx ne_aIt_aId ne_aIt_aPr ne_aIt_aSi ne_aIt_aSe ne_aIt_aEx ne_aId_aPr ne_aId_aSi ne_aId_aSe ne_aId_aEx ne_aPr_aSi ne_aPr_aSe ne_aPr_aEx ne_aSi_aSe ne_aSi_aEx ne_aSe_aEx ne_aId_aAt ne_aId_aLo ne_aAt_aLo ne_aId_aOl ne_aIt_aIw ne_aId_aIw ne_aPr_aIw ne_aSi_aIw ne_aSe_aIw ne_aIw_aEx ne_aEx_aOl ne_aOl_aAt ne_aOl_aLo hn40 hn
  refine lv_aload_n hx hb d_Mo_open_0 rfl (lv_at hl 0 rfl) ?_
  refine lv_iconst (v := 0) hx hb d_Mo_open_1 (by decide) ?_
  refine hm_put (ci := 9) (v := .int 0) (ty := .int) (C := R_Mo) (T := F_Mo) (N := 41) hx hb hts ig_Mo t_Mo tk_Mo nm_Mo hown hK hH hLo f_m rfl 0 (by decide) (hts _ mw_432) (fun _ h9 => h9) rfl (by decide +kernel) rfl rfl (Nat.le_of_ble_eq_true rfl) d_Mo_open_2 (fun H1 locs hH z2 hLo => ?_)
  have hz : s.heap.size ≤ H1.size := by rw [z2]; exact hz
  obtain ⟨h3, e4⟩ : ∃ z, z = hu h mo (.inr (9, [.int 0, .int (nI n), .int 0, .ref aBy, .ref aSt, .ref aDe, .int 0, .int (-1), .int 0, .ref aPa, .int 1, .ref aIt, .ref aId, .ref aPr, .ref aNa, .ref aSi, .ref aSe, .ref aIw, .ref aEx, .ref aOl, .int 0, .ref aPl, .int 0, .int 0, .ref aTa, .ref aAt, .ref aLo, .int 0, .int 0, .ref aS1, .ref aS2, .ref aS3, .ref aS4, .ref aS5, .ref aS6, .int 0, .ref aO1, .ref aO2, .ref aO3, .ref aO4, .ref aO5])) := ⟨_, rfl⟩
  have hH : hm D vwCl G h3 H1 := by rw [e4]; exact hH
  have f_aSt : h3 aSt = some (.inl ((t 0), 400, .inl gSt)) := by rw [e4, hu_n (h_neA f_aSt f_m)]; exact f_aSt
  have f_m : h3 mo = some (.inr (9, [.int 0, .int (nI n), .int 0, .ref aBy, .ref aSt, .ref aDe, .int 0, .int (-1), .int 0, .ref aPa, .int 1, .ref aIt, .ref aId, .ref aPr, .ref aNa, .ref aSi, .ref aSe, .ref aIw, .ref aEx, .ref aOl, .int 0, .ref aPl, .int 0, .int 0, .ref aTa, .ref aAt, .ref aLo, .int 0, .int 0, .ref aS1, .ref aS2, .ref aS3, .ref aS4, .ref aS5, .ref aS6, .int 0, .ref aO1, .ref aO2, .ref aO3, .ref aO4, .ref aO5])) := by rw [e4]; exact hu_s _ _ _
  refine lv_aload_n hx hb d_Mo_open_5 rfl (lv_at hl 0 rfl) ?_
  refine lv_iload_n hx hb d_Mo_open_6 rfl (lv_at hl 1 rfl) ?_
  refine hm_calli (va_runV (As := [.int i9]) (b := mo) (rest := []) ⟨hx, hb, hml, hown, hts⟩ (c_m_markAt l D t G ak av h3 mo n aBy aSt aDe aPa aIt aId aPr aNa aSi aSe aIw aEx aOl aPl aTa aAt aLo aS1 aS2 aS3 aS4 aS5 aS6 aO1 aO2 aO3 aO4 aO5 gSt i9 f_m f_aSt zSt hn40 hn) ⟨cw9B 1 hts mw_481 mw_482 mw_428 rfl rfl (by decide +kernel) ⟨Nat.le_of_ble_eq_true rfl, Nat.le_of_ble_eq_true rfl⟩, hts _ mw_483, hts _ mw_484⟩ (hP_V (q := (R_Mo, F_Mo, 41)) kE_ok hE hK hH f_m rfl) rfl rfl hl.1 rfl (lv_room (Nat.le_of_ble_eq_true rfl)) d_Mo_open_7 ⟨Nat.le_of_ble_eq_true rfl, Nat.le_of_ble_eq_true rfl⟩) hLo (fun r5 h6 H7 locs hp9 hH z8 hLo => ?_)
  have hz : s.heap.size ≤ H7.size := Nat.le_trans hz z8
  obtain ⟨rfl, rfl⟩ := hp9
  refine lv_istore_n (lv' := [(2, .int (-1)), (0, .ref mo), (1, .int i9)]) hx hb d_Mo_open_10 rfl hl (by decide) rfl (fun ls hl => ?_)
  refine lv_iload_n hx hb d_Mo_open_11 rfl (lv_at hl 0 rfl) ?_
  refine lv_if_ge (tgt := 19) hx hb d_Mo_open_12 (by decide) (fun hc10 => absurd hc10 (by decide)) (fun hc10 => ?_)
  refine lv_ldcw (v := -1000000) hx hb hown (hts _ mw_485) d_Mo_open_15 ?_
  exact W.iret (v := (-1000000)) hx hb hr (fun t9 ht hW => ⟨(-1000000), h3, rfl, rfl, by rw [ht]; exact hH, by rw [ht]; exact hz⟩) hLo d_Mo_open_18
