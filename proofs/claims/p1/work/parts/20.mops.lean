set_option maxRecDepth 100000 in
theorem mw_432 : Cond.fieldLink R_Mo 109 "WriteOnceDiscModel" "thrown" "I" ∈ lw_g := lw_gin (List.mem_append_right _ (List.mem_of_getElem? (i := 917) rfl)) (by decide +kernel)
set_option maxRecDepth 100000 in
theorem mw_433 : Cond.constantLong R_Mo 129 (255) ∈ lw_g := lw_gin (List.mem_append_right _ (List.mem_of_getElem? (i := 1069) rfl)) (by decide +kernel)
set_option maxRecDepth 100000 in
theorem mw_434 : Cond.code y_Mo_isLetter b_Mo_isLetter 1 (some .boolean) ∈ lw_g := lw_gin (List.mem_append_right _ (List.mem_of_getElem? (i := 1072) rfl)) (by decide +kernel)
set_option maxRecDepth 100000 in
theorem mw_435 : Cond.methodLink R_Mo 131 y_Mo_isLetter ∈ lw_g := lw_gin (List.mem_append_right _ (List.mem_of_getElem? (i := 1070) rfl)) (by decide +kernel)
set_option maxRecDepth 100000 in
theorem mw_436 : Cond.static y_Mo_isLetter ∈ lw_g := lw_gin (List.mem_append_right _ (List.mem_of_getElem? (i := 1071) rfl)) (by decide +kernel)
set_option maxRecDepth 100000 in
theorem mw_437 : Cond.code y_Mo_in b_Mo_in 3 (some .boolean) ∈ lw_g := lw_gin (List.mem_append_right _ (List.mem_of_getElem? (i := 1053) rfl)) (by decide +kernel)
set_option maxRecDepth 100000 in
theorem mw_438 : Cond.methodLink R_Mo 118 y_Mo_in ∈ lw_g := lw_gin (List.mem_append_right _ (List.mem_of_getElem? (i := 1051) rfl)) (by decide +kernel)
set_option maxRecDepth 100000 in
theorem mw_439 : Cond.static y_Mo_in ∈ lw_g := lw_gin (List.mem_append_right _ (List.mem_of_getElem? (i := 1052) rfl)) (by decide +kernel)
theorem d_Mo_in_0 : decode b_Mo_in 0 = .ok (.iload_n 0, 1) := by decide +kernel
theorem d_Mo_in_1 : decode b_Mo_in 1 = .ok (.iload_n 1, 1) := by decide +kernel
theorem d_Mo_in_2 : decode b_Mo_in 2 = .ok (.if_icmp .lt 12, 3) := by decide +kernel
theorem d_Mo_in_14 : decode b_Mo_in 14 = .ok (.iconst 0, 1) := by decide +kernel
theorem d_Mo_in_15 : decode b_Mo_in 15 = .ok (.ireturn, 1) := by decide +kernel
theorem d_Mo_in_5 : decode b_Mo_in 5 = .ok (.iload_n 0, 1) := by decide +kernel
theorem d_Mo_in_6 : decode b_Mo_in 6 = .ok (.iload_n 2, 1) := by decide +kernel
theorem d_Mo_in_7 : decode b_Mo_in 7 = .ok (.if_icmp .gt 7, 3) := by decide +kernel
theorem d_Mo_in_10 : decode b_Mo_in 10 = .ok (.iconst 1, 1) := by decide +kernel
theorem d_Mo_in_11 : decode b_Mo_in 11 = .ok (.goto 4, 3) := by decide +kernel
theorem d_Mo_thrown_0 : decode b_Mo_thrown 0 = .ok (.aload_n 0, 1) := by decide +kernel
theorem d_Mo_thrown_1 : decode b_Mo_thrown 1 = .ok (.getfield 109, 3) := by decide +kernel
theorem d_Mo_thrown_4 : decode b_Mo_thrown 4 = .ok (.ireturn, 1) := by decide +kernel
theorem d_Mo_isNode_0 : decode b_Mo_isNode 0 = .ok (.iload_n 1, 1) := by decide +kernel
theorem d_Mo_isNode_1 : decode b_Mo_isNode 1 = .ok (.ifCond .lt 24, 3) := by decide +kernel
theorem d_Mo_isNode_25 : decode b_Mo_isNode 25 = .ok (.iconst 0, 1) := by decide +kernel
theorem d_Mo_isNode_26 : decode b_Mo_isNode 26 = .ok (.ireturn, 1) := by decide +kernel
theorem d_Mo_isNode_4 : decode b_Mo_isNode 4 = .ok (.iload_n 1, 1) := by decide +kernel
theorem d_Mo_isNode_5 : decode b_Mo_isNode 5 = .ok (.aload_n 0, 1) := by decide +kernel
theorem d_Mo_isNode_6 : decode b_Mo_isNode 6 = .ok (.getfield 112, 3) := by decide +kernel
theorem d_Mo_isNode_9 : decode b_Mo_isNode 9 = .ok (.if_icmp .ge 16, 3) := by decide +kernel
theorem d_Mo_isNode_12 : decode b_Mo_isNode 12 = .ok (.aload_n 0, 1) := by decide +kernel
theorem d_Mo_isNode_13 : decode b_Mo_isNode 13 = .ok (.getfield 24, 3) := by decide +kernel
theorem d_Mo_isNode_16 : decode b_Mo_isNode 16 = .ok (.iload_n 1, 1) := by decide +kernel
theorem d_Mo_isNode_17 : decode b_Mo_isNode 17 = .ok (.baload, 1) := by decide +kernel
theorem d_Mo_isNode_18 : decode b_Mo_isNode 18 = .ok (.ifCond .eq 7, 3) := by decide +kernel
theorem d_Mo_isNode_21 : decode b_Mo_isNode 21 = .ok (.iconst 1, 1) := by decide +kernel
theorem d_Mo_isNode_22 : decode b_Mo_isNode 22 = .ok (.goto 4, 3) := by decide +kernel
theorem d_Mo_isLetter_0 : decode b_Mo_isLetter 0 = .ok (.iload_n 0, 1) := by decide +kernel
theorem d_Mo_isLetter_1 : decode b_Mo_isLetter 1 = .ok (.bipush 65, 2) := by decide +kernel
theorem d_Mo_isLetter_3 : decode b_Mo_isLetter 3 = .ok (.if_icmp .lt 9, 3) := by decide +kernel
theorem d_Mo_isLetter_12 : decode b_Mo_isLetter 12 = .ok (.iload_n 0, 1) := by decide +kernel
theorem d_Mo_isLetter_13 : decode b_Mo_isLetter 13 = .ok (.bipush 48, 2) := by decide +kernel
theorem d_Mo_isLetter_15 : decode b_Mo_isLetter 15 = .ok (.if_icmp .lt 9, 3) := by decide +kernel
theorem d_Mo_isLetter_24 : decode b_Mo_isLetter 24 = .ok (.iload_n 0, 1) := by decide +kernel
theorem d_Mo_isLetter_25 : decode b_Mo_isLetter 25 = .ok (.bipush 95, 2) := by decide +kernel
theorem d_Mo_isLetter_27 : decode b_Mo_isLetter 27 = .ok (.if_icmp .ne 7, 3) := by decide +kernel
theorem d_Mo_isLetter_34 : decode b_Mo_isLetter 34 = .ok (.iconst 0, 1) := by decide +kernel
theorem d_Mo_isLetter_35 : decode b_Mo_isLetter 35 = .ok (.ireturn, 1) := by decide +kernel
theorem d_Mo_isLetter_30 : decode b_Mo_isLetter 30 = .ok (.iconst 1, 1) := by decide +kernel
theorem d_Mo_isLetter_31 : decode b_Mo_isLetter 31 = .ok (.goto 4, 3) := by decide +kernel
theorem d_Mo_isLetter_18 : decode b_Mo_isLetter 18 = .ok (.iload_n 0, 1) := by decide +kernel
theorem d_Mo_isLetter_19 : decode b_Mo_isLetter 19 = .ok (.bipush 57, 2) := by decide +kernel
theorem d_Mo_isLetter_21 : decode b_Mo_isLetter 21 = .ok (.if_icmp .le 9, 3) := by decide +kernel
theorem d_Mo_isLetter_6 : decode b_Mo_isLetter 6 = .ok (.iload_n 0, 1) := by decide +kernel
theorem d_Mo_isLetter_7 : decode b_Mo_isLetter 7 = .ok (.bipush 90, 2) := by decide +kernel
theorem d_Mo_isLetter_9 : decode b_Mo_isLetter 9 = .ok (.if_icmp .le 21, 3) := by decide +kernel
theorem d_Mo_told_0 : decode b_Mo_told 0 = .ok (.lconst 0, 1) := by decide +kernel
theorem d_Mo_told_1 : decode b_Mo_told 1 = .ok (.lstore_n 2, 1) := by decide +kernel
theorem d_Mo_told_2 : decode b_Mo_told 2 = .ok (.bipush 7, 2) := by decide +kernel
theorem d_Mo_told_4 : decode b_Mo_told 4 = .ok (.istore 4, 2) := by decide +kernel
theorem d_Mo_told_6 : decode b_Mo_told 6 = .ok (.iload 4, 2) := by decide +kernel
theorem d_Mo_told_8 : decode b_Mo_told 8 = .ok (.ifCond .lt 50, 3) := by decide +kernel
theorem d_Mo_told_58 : decode b_Mo_told 58 = .ok (.lload_n 2, 1) := by decide +kernel
theorem d_Mo_told_59 : decode b_Mo_told 59 = .ok (.lreturn, 1) := by decide +kernel
theorem d_Mo_told_11 : decode b_Mo_told 11 = .ok (.lload_n 0, 1) := by decide +kernel
theorem d_Mo_told_12 : decode b_Mo_told 12 = .ok (.bipush 8, 2) := by decide +kernel
theorem d_Mo_told_14 : decode b_Mo_told 14 = .ok (.iload 4, 2) := by decide +kernel
theorem d_Mo_told_16 : decode b_Mo_told 16 = .ok (.imul, 1) := by decide +kernel
theorem d_Mo_told_17 : decode b_Mo_told 17 = .ok (.lushr, 1) := by decide +kernel
theorem d_Mo_told_18 : decode b_Mo_told 18 = .ok (.ldc2_w 129, 3) := by decide +kernel
theorem d_Mo_told_21 : decode b_Mo_told 21 = .ok (.land, 1) := by decide +kernel
theorem d_Mo_told_22 : decode b_Mo_told 22 = .ok (.l2i, 1) := by decide +kernel
theorem d_Mo_told_23 : decode b_Mo_told 23 = .ok (.istore 5, 2) := by decide +kernel
theorem d_Mo_told_25 : decode b_Mo_told 25 = .ok (.iload 5, 2) := by decide +kernel
theorem d_Mo_told_27 : decode b_Mo_told 27 = .ok (.ifCond .ne 6, 3) := by decide +kernel
theorem d_Mo_told_33 : decode b_Mo_told 33 = .ok (.iload 5, 2) := by decide +kernel
theorem d_Mo_told_35 : decode b_Mo_told 35 = .ok (.invokestatic 131, 3) := by decide +kernel
theorem d_Mo_told_38 : decode b_Mo_told 38 = .ok (.ifCond .ne 5, 3) := by decide +kernel
theorem d_Mo_told_43 : decode b_Mo_told 43 = .ok (.lload_n 2, 1) := by decide +kernel
theorem d_Mo_told_44 : decode b_Mo_told 44 = .ok (.bipush 8, 2) := by decide +kernel
theorem d_Mo_told_46 : decode b_Mo_told 46 = .ok (.lshl, 1) := by decide +kernel
theorem d_Mo_told_47 : decode b_Mo_told 47 = .ok (.iload 5, 2) := by decide +kernel
theorem d_Mo_told_49 : decode b_Mo_told 49 = .ok (.i2l, 1) := by decide +kernel
theorem d_Mo_told_50 : decode b_Mo_told 50 = .ok (.lor, 1) := by decide +kernel
theorem d_Mo_told_51 : decode b_Mo_told 51 = .ok (.lstore_n 2, 1) := by decide +kernel
theorem d_Mo_told_52 : decode b_Mo_told 52 = .ok (.iinc 4 (-1), 3) := by decide +kernel
theorem d_Mo_told_55 : decode b_Mo_told 55 = .ok (.goto (-49), 3) := by decide +kernel
theorem d_Mo_told_41 : decode b_Mo_told 41 = .ok (.lconst 0, 1) := by decide +kernel
theorem d_Mo_told_42 : decode b_Mo_told 42 = .ok (.lreturn, 1) := by decide +kernel
theorem d_Mo_told_30 : decode b_Mo_told 30 = .ok (.goto 22, 3) := by decide +kernel
theorem d_Mo_namedIn_0 : decode b_Mo_namedIn 0 = .ok (.iconst 1, 1) := by decide +kernel
theorem d_Mo_namedIn_1 : decode b_Mo_namedIn 1 = .ok (.istore 4, 2) := by decide +kernel
theorem d_Mo_namedIn_3 : decode b_Mo_namedIn 3 = .ok (.iload 4, 2) := by decide +kernel
theorem d_Mo_namedIn_5 : decode b_Mo_namedIn 5 = .ok (.aload_n 0, 1) := by decide +kernel
theorem d_Mo_namedIn_6 : decode b_Mo_namedIn 6 = .ok (.getfield 112, 3) := by decide +kernel
theorem d_Mo_namedIn_9 : decode b_Mo_namedIn 9 = .ok (.if_icmp .ge 45, 3) := by decide +kernel
theorem d_Mo_namedIn_54 : decode b_Mo_namedIn 54 = .ok (.iconst (-1), 1) := by decide +kernel
theorem d_Mo_namedIn_55 : decode b_Mo_namedIn 55 = .ok (.ireturn, 1) := by decide +kernel
theorem d_Mo_depthOf_0 : decode b_Mo_depthOf 0 = .ok (.iconst 0, 1) := by decide +kernel
theorem d_Mo_depthOf_1 : decode b_Mo_depthOf 1 = .ok (.istore_n 2, 1) := by decide +kernel
theorem d_Mo_depthOf_2 : decode b_Mo_depthOf 2 = .ok (.iload_n 1, 1) := by decide +kernel
theorem d_Mo_depthOf_3 : decode b_Mo_depthOf 3 = .ok (.istore_n 3, 1) := by decide +kernel
theorem d_Mo_depthOf_4 : decode b_Mo_depthOf 4 = .ok (.iload_n 3, 1) := by decide +kernel
theorem d_Mo_depthOf_5 : decode b_Mo_depthOf 5 = .ok (.ifCond .le 16, 3) := by decide +kernel
theorem d_Mo_depthOf_21 : decode b_Mo_depthOf 21 = .ok (.iload_n 2, 1) := by decide +kernel
theorem d_Mo_depthOf_22 : decode b_Mo_depthOf 22 = .ok (.ireturn, 1) := by decide +kernel
theorem d_Mo_alive_0 : decode b_Mo_alive 0 = .ok (.iconst 0, 1) := by decide +kernel
theorem d_Mo_alive_1 : decode b_Mo_alive 1 = .ok (.istore_n 1, 1) := by decide +kernel
theorem d_Mo_alive_2 : decode b_Mo_alive 2 = .ok (.iconst 0, 1) := by decide +kernel
theorem d_Mo_alive_3 : decode b_Mo_alive 3 = .ok (.istore_n 2, 1) := by decide +kernel
theorem d_Mo_alive_4 : decode b_Mo_alive 4 = .ok (.iload_n 2, 1) := by decide +kernel
theorem d_Mo_alive_5 : decode b_Mo_alive 5 = .ok (.aload_n 0, 1) := by decide +kernel
theorem d_Mo_alive_6 : decode b_Mo_alive 6 = .ok (.getfield 112, 3) := by decide +kernel
theorem d_Mo_alive_9 : decode b_Mo_alive 9 = .ok (.if_icmp .ge 26, 3) := by decide +kernel
theorem d_Mo_alive_12 : decode b_Mo_alive 12 = .ok (.iload_n 1, 1) := by decide +kernel
theorem d_Mo_alive_13 : decode b_Mo_alive 13 = .ok (.aload_n 0, 1) := by decide +kernel
theorem d_Mo_alive_14 : decode b_Mo_alive 14 = .ok (.getfield 24, 3) := by decide +kernel
theorem d_Mo_alive_17 : decode b_Mo_alive 17 = .ok (.iload_n 2, 1) := by decide +kernel
theorem d_Mo_alive_18 : decode b_Mo_alive 18 = .ok (.baload, 1) := by decide +kernel
theorem d_Mo_alive_19 : decode b_Mo_alive 19 = .ok (.ifCond .eq 7, 3) := by decide +kernel
theorem d_Mo_alive_22 : decode b_Mo_alive 22 = .ok (.iconst 1, 1) := by decide +kernel
theorem d_Mo_alive_23 : decode b_Mo_alive 23 = .ok (.goto 4, 3) := by decide +kernel
theorem d_Mo_alive_27 : decode b_Mo_alive 27 = .ok (.iadd, 1) := by decide +kernel
theorem d_Mo_alive_28 : decode b_Mo_alive 28 = .ok (.istore_n 1, 1) := by decide +kernel
theorem d_Mo_alive_29 : decode b_Mo_alive 29 = .ok (.iinc 2 1, 3) := by decide +kernel
theorem d_Mo_alive_32 : decode b_Mo_alive 32 = .ok (.goto (-28), 3) := by decide +kernel
theorem d_Mo_alive_35 : decode b_Mo_alive 35 = .ok (.iload_n 1, 1) := by decide +kernel
theorem d_Mo_alive_36 : decode b_Mo_alive 36 = .ok (.ireturn, 1) := by decide +kernel
theorem d_Mo_isContent_0 : decode b_Mo_isContent 0 = .ok (.iload_n 0, 1) := by decide +kernel
theorem d_Mo_isContent_1 : decode b_Mo_isContent 1 = .ok (.iconst 0, 1) := by decide +kernel
theorem d_Mo_isContent_2 : decode b_Mo_isContent 2 = .ok (.sipush 6000, 3) := by decide +kernel
theorem d_Mo_isContent_5 : decode b_Mo_isContent 5 = .ok (.invokestatic 118, 3) := by decide +kernel
theorem d_Mo_isContent_8 : decode b_Mo_isContent 8 = .ok (.ifCond .eq 18, 3) := by decide +kernel
theorem d_Mo_isContent_26 : decode b_Mo_isContent 26 = .ok (.iconst 0, 1) := by decide +kernel
theorem d_Mo_isContent_27 : decode b_Mo_isContent 27 = .ok (.ireturn, 1) := by decide +kernel
theorem d_Mo_isContent_11 : decode b_Mo_isContent 11 = .ok (.iload_n 1, 1) := by decide +kernel
theorem d_Mo_isContent_12 : decode b_Mo_isContent 12 = .ok (.iconst 0, 1) := by decide +kernel
theorem d_Mo_isContent_13 : decode b_Mo_isContent 13 = .ok (.sipush 255, 3) := by decide +kernel
theorem d_Mo_isContent_16 : decode b_Mo_isContent 16 = .ok (.invokestatic 118, 3) := by decide +kernel
theorem d_Mo_isContent_19 : decode b_Mo_isContent 19 = .ok (.ifCond .eq 7, 3) := by decide +kernel
theorem d_Mo_isContent_22 : decode b_Mo_isContent 22 = .ok (.iconst 1, 1) := by decide +kernel
theorem d_Mo_isContent_23 : decode b_Mo_isContent 23 = .ok (.goto 4, 3) := by decide +kernel
set_option maxHeartbeats 4000000 in
set_option maxRecDepth 100000 in
theorem c_m_in (l : Launch) (D : va_G) (t : Nat → ClassId) (G : hG) (ak av : Nat → Nat) (h : hM) (v9 a9 b9 : Int32) : Met l y_Mo_in (.code y_Mo_in b_Mo_in 3 (some .boolean) :: lw_g) { frames := 0, cells := 0, slots := 0, locals := 0 } (hP (kE D t G ak av) D vwCl G h [.int v9, .int a9, .int b9]) (hQi D vwCl G (fun r h' => r = inC v9 a9 b9 ∧ h = h')) 0 0 G.P := by
  refine Met.ofW (cc := b_Mo_in) (maxL := 3) (ret := (some .boolean)) (by decide) rfl ?_
  intro p e s m args below meth c s₁ Bd hml hv
  obtain ⟨ha, hE, hH⟩ := hv
  have hx := Bd.exec
  have hb := Bd.bytes
  have hr := Bd.returns
  have hts : ∀ w ∈ lw_g, w.before args s = true := fun w hw => atoms_spec (ws := (.code y_Mo_in b_Mo_in 3 (some .boolean) :: lw_g)) Bd.pre w (List.mem_cons_of_mem _ hw)
  have hown : s.vm.findClass R_Mo = some m.cls := findClass_of_methodNamed Bd.named
  have hlocks := Bd.notSynchronized
  have hK := hE.1
  have hH0 := hH
  have hLo : hLc G.P [] := hLc_nil
  have hz : s.heap.size ≤ s.heap.size := Nat.le_refl _
  have hkp : kp [] h h := kp_rf
  have hl := lv_entry [.int v9, .int a9, .int b9] (n := 3) (Nat.le_of_ble_eq_true rfl)
  rw [show entryFrame m args 3 = F0 m 0 ((lg_sl [.int v9, .int a9, .int b9] ++ List.replicate (3 - (lg_sl [.int v9, .int a9, .int b9]).length) Slot.unset).toArray) [] from (by rw [ha]; exact lg_entry_eq m [.int v9, .int a9, .int b9] 3)]
  generalize (lg_sl [.int v9, .int a9, .int b9] ++ List.replicate (3 - (lg_sl [.int v9, .int a9, .int b9]).length) Slot.unset).toArray = ls at hl ⊢
  have hl : lv_has ls 3 [(0, .int v9), (1, .int a9), (2, .int b9)] := hl
  refine lv_iload_n hx hb d_Mo_in_0 rfl (lv_at hl 0 rfl) ?_
  refine lv_iload_n hx hb d_Mo_in_1 rfl (lv_at hl 1 rfl) ?_
  refine lv_icmp_lt (tgt := 14) hx hb d_Mo_in_2 (by decide) (fun hc1 => ?_) (fun hc1 => ?_)
  · skip
    refine lv_iconst (v := 0) hx hb d_Mo_in_14 (by decide) ?_
    exact W.zret (v := 0) hx hb hr (by decide) (fun t9 ht hW => ⟨0, h, rfl, ⟨(if_pos hc1).symm, rfl⟩, by rw [ht]; exact hH, by rw [ht]; exact hz⟩) hLo d_Mo_in_15
  · skip
    refine lv_iload_n hx hb d_Mo_in_5 rfl (lv_at hl 0 rfl) ?_
    refine lv_iload_n hx hb d_Mo_in_6 rfl (lv_at hl 2 rfl) ?_
    refine lv_icmp_gt (tgt := 14) hx hb d_Mo_in_7 (by decide) (fun hc2 => ?_) (fun hc2 => ?_)
    · skip
      refine lv_iconst (v := 0) hx hb d_Mo_in_14 (by decide) ?_
      exact W.zret (v := 0) hx hb hr (by decide) (fun t9 ht hW => ⟨0, h, rfl, ⟨by rw [inC, if_neg hc1, if_pos hc2], rfl⟩, by rw [ht]; exact hH, by rw [ht]; exact hz⟩) hLo d_Mo_in_15
    · skip
      refine lv_iconst (v := 1) hx hb d_Mo_in_10 (by decide) ?_
      refine lv_goto (tgt := 15) hx hb d_Mo_in_11 (by decide) ?_
      exact W.zret (v := 1) hx hb hr (by decide) (fun t9 ht hW => ⟨1, h, rfl, ⟨by rw [inC, if_neg hc1, if_neg hc2], rfl⟩, by rw [ht]; exact hH, by rw [ht]; exact hz⟩) hLo d_Mo_in_15

set_option maxHeartbeats 4000000 in
set_option maxRecDepth 100000 in
theorem c_m_thrown (l : Launch) (D : va_G) (t : Nat → ClassId) (G : hG) (ak av : Nat → Nat) (h : hM) (mo n : Nat) (th : Int32) (hT : ThM h mo n th) : Met l y_Mo_thrown (.code y_Mo_thrown b_Mo_thrown 1 (some .int) :: lw_g) { frames := 0, cells := 0, slots := 0, locals := 0 } (hP (kE D t G ak av) D vwCl G h [.ref mo]) (hQi D vwCl G (fun r h' => r = th ∧ h = h')) 0 0 G.P := by
  refine Met.ofW (cc := b_Mo_thrown) (maxL := 1) (ret := (some .int)) (by decide) rfl ?_
  intro p e s m args below meth c s₁ Bd hml hv
  obtain ⟨ha, hE, hH⟩ := hv
  have hx := Bd.exec
  have hb := Bd.bytes
  have hr := Bd.returns
  have hts : ∀ w ∈ lw_g, w.before args s = true := fun w hw => atoms_spec (ws := (.code y_Mo_thrown b_Mo_thrown 1 (some .int) :: lw_g)) Bd.pre w (List.mem_cons_of_mem _ hw)
  have hown : s.vm.findClass R_Mo = some m.cls := findClass_of_methodNamed Bd.named
  have hlocks := Bd.notSynchronized
  have hK := hE.1
  have hH0 := hH
  have hLo : hLc G.P [] := hLc_nil
  have hz : s.heap.size ≤ s.heap.size := Nat.le_refl _
  have hkp : kp [] h h := kp_rf
  have hl := lv_entry [.ref mo] (n := 1) (Nat.le_of_ble_eq_true rfl)
  rw [show entryFrame m args 1 = F0 m 0 ((lg_sl [.ref mo] ++ List.replicate (1 - (lg_sl [.ref mo]).length) Slot.unset).toArray) [] from (by rw [ha]; exact lg_entry_eq m [.ref mo] 1)]
  generalize (lg_sl [.ref mo] ++ List.replicate (1 - (lg_sl [.ref mo]).length) Slot.unset).toArray = ls at hl ⊢
  have hl : lv_has ls 1 [(0, .ref mo)] := hl
  obtain ⟨aBy, aSt, aDe, aPa, aIt, aId, aPr, aNa, aSi, aSe, aIw, aEx, aOl, aPl, aTa, aAt, aLo, aS1, aS2, aS3, aS4, aS5, aS6, aO1, aO2, aO3, aO4, aO5, f_m⟩ := hT
  refine lv_aload_n hx hb d_Mo_thrown_0 rfl (lv_at hl 0 rfl) ?_
  refine hm_get (ci := 9) (v := .int th) (C := R_Mo) (T := F_Mo) (N := 41) hx hb hts ig_Mo hown hK hH f_m rfl 0 (by decide) (hts _ mw_432) (fun _ h9 => h9) rfl d_Mo_thrown_1 ?_
  exact W.iret (v := th) hx hb hr (fun t9 ht hW => ⟨th, h, rfl, ⟨rfl, rfl⟩, by rw [ht]; exact hH, by rw [ht]; exact hz⟩) hLo d_Mo_thrown_4

set_option maxHeartbeats 4000000 in
set_option maxRecDepth 100000 in
theorem c_m_isNode (l : Launch) (D : va_G) (t : Nat → ClassId) (G : hG) (ak av : Nat → Nat) (h : hM) (mo n aBy aSt aDe aPa aIt aId aPr aNa aSi aSe aIw aEx aOl aPl aTa aAt aLo aS1 aS2 aS3 aS4 aS5 aS6 aO1 aO2 aO3 aO4 aO5 : Nat) (gIt : Nat → Int32) (k9 : Int32) (f_m : h mo = some (.inr (9, [.int 0, .int (nI n), .int 0, .ref aBy, .ref aSt, .ref aDe, .int 0, .int (-1), .int 0, .ref aPa, .int 1, .ref aIt, .ref aId, .ref aPr, .ref aNa, .ref aSi, .ref aSe, .ref aIw, .ref aEx, .ref aOl, .int 0, .ref aPl, .int 0, .int 0, .ref aTa, .ref aAt, .ref aLo, .int 0, .int 0, .ref aS1, .ref aS2, .ref aS3, .ref aS4, .ref aS5, .ref aS6, .int 0, .ref aO1, .ref aO2, .ref aO3, .ref aO4, .ref aO5]))) (f_aIt : h aIt = some (.inl ((t 1), 700, .inl gIt))) (zIt : gIt 0 = 1) : Met l y_Mo_isNode (.code y_Mo_isNode b_Mo_isNode 2 (some .boolean) :: lw_g) { frames := 0, cells := 0, slots := 0, locals := 0 } (hP (kE D t G ak av) D vwCl G h [.ref mo, .int k9]) (hQi D vwCl G (fun r h' => r = (if k9 = 0 then 1 else 0) ∧ h = h')) 0 0 G.P := by
  refine Met.ofW (cc := b_Mo_isNode) (maxL := 2) (ret := (some .boolean)) (by decide) rfl ?_
  intro p e s m args below meth c s₁ Bd hml hv
  obtain ⟨ha, hE, hH⟩ := hv
  have hx := Bd.exec
  have hb := Bd.bytes
  have hr := Bd.returns
  have hts : ∀ w ∈ lw_g, w.before args s = true := fun w hw => atoms_spec (ws := (.code y_Mo_isNode b_Mo_isNode 2 (some .boolean) :: lw_g)) Bd.pre w (List.mem_cons_of_mem _ hw)
  have hown : s.vm.findClass R_Mo = some m.cls := findClass_of_methodNamed Bd.named
  have hlocks := Bd.notSynchronized
  have hK := hE.1
  have hH0 := hH
  have hLo : hLc G.P [] := hLc_nil
  have hz : s.heap.size ≤ s.heap.size := Nat.le_refl _
  have hkp : kp [] h h := kp_rf
  have hl := lv_entry [.ref mo, .int k9] (n := 2) (Nat.le_of_ble_eq_true rfl)
  rw [show entryFrame m args 2 = F0 m 0 ((lg_sl [.ref mo, .int k9] ++ List.replicate (2 - (lg_sl [.ref mo, .int k9]).length) Slot.unset).toArray) [] from (by rw [ha]; exact lg_entry_eq m [.ref mo, .int k9] 2)]
  generalize (lg_sl [.ref mo, .int k9] ++ List.replicate (2 - (lg_sl [.ref mo, .int k9]).length) Slot.unset).toArray = ls at hl ⊢
  have hl : lv_has ls 2 [(0, .ref mo), (1, .int k9)] := hl
  refine lv_iload_n hx hb d_Mo_isNode_0 rfl (lv_at hl 1 rfl) ?_
  refine lv_if_lt (tgt := 25) hx hb d_Mo_isNode_1 (by decide) (fun hc1 => ?_) (fun hc1 => ?_)
  · skip
    refine lv_iconst (v := 0) hx hb d_Mo_isNode_25 (by decide) ?_
    exact W.zret (v := 0) hx hb hr (by decide) (fun t9 ht hW => ⟨0, h, rfl, ⟨(if_neg (n9 hc1)).symm, rfl⟩, by rw [ht]; exact hH, by rw [ht]; exact hz⟩) hLo d_Mo_isNode_26
  · skip
    refine lv_iload_n hx hb d_Mo_isNode_4 rfl (lv_at hl 1 rfl) ?_
    refine lv_aload_n hx hb d_Mo_isNode_5 rfl (lv_at hl 0 rfl) ?_
    refine hm_get (ci := 9) (v := .int 1) (C := R_Mo) (T := F_Mo) (N := 41) hx hb hts ig_Mo hown hK hH f_m rfl 10 (by decide) (hts _ mw_390) (fun _ h9 => h9) rfl d_Mo_isNode_6 ?_
    refine lv_icmp_ge (tgt := 25) hx hb d_Mo_isNode_9 (by decide) (fun hc2 => ?_) (fun hc2 => ?_)
    · skip
      refine lv_iconst (v := 0) hx hb d_Mo_isNode_25 (by decide) ?_
      exact W.zret (v := 0) hx hb hr (by decide) (fun t9 ht hW => ⟨0, h, rfl, ⟨(if_neg (o9 hc2)).symm, rfl⟩, by rw [ht]; exact hH, by rw [ht]; exact hz⟩) hLo d_Mo_isNode_26
    · skip
      obtain rfl : k9 = 0 := z9 hc1 hc2
      refine lv_aload_n hx hb d_Mo_isNode_12 rfl (lv_at hl 0 rfl) ?_
      refine hm_get (ci := 9) (v := .ref aIt) (C := R_Mo) (T := F_Mo) (N := 41) hx hb hts ig_Mo hown hK hH f_m rfl 11 (by decide) (hts _ mw_391) (fun _ h9 => h9) rfl d_Mo_isNode_13 ?_
      refine lv_iload_n hx hb d_Mo_isNode_16 rfl (lv_at hl 1 rfl) ?_
      refine hj_zald hx hb hK hH 1 f_aIt rfl 0 (by decide) (by decide) (by decide) d_Mo_isNode_17 ?_
      refine lv_if_eq (tgt := 25) hx hb d_Mo_isNode_18 (by decide) (fun hc3 => absurd hc3 (by rw [zIt]; decide)) (fun hc3 => ?_)
      refine lv_iconst (v := 1) hx hb d_Mo_isNode_21 (by decide) ?_
      refine lv_goto (tgt := 26) hx hb d_Mo_isNode_22 (by decide) ?_
      exact W.zret (v := 1) hx hb hr (by decide) (fun t9 ht hW => ⟨1, h, rfl, ⟨(if_pos rfl).symm, rfl⟩, by rw [ht]; exact hH, by rw [ht]; exact hz⟩) hLo d_Mo_isNode_26

set_option maxHeartbeats 4000000 in
set_option maxRecDepth 100000 in
theorem c_m_isLetter (l : Launch) (D : va_G) (t : Nat → ClassId) (G : hG) (ak av : Nat → Nat) (h : hM) (c9 : Int32) : Met l y_Mo_isLetter (.code y_Mo_isLetter b_Mo_isLetter 1 (some .boolean) :: lw_g) { frames := 0, cells := 0, slots := 0, locals := 0 } (hP (kE D t G ak av) D vwCl G h [.int c9]) (hQi D vwCl G (fun r h' => r = letC c9 ∧ h = h')) 0 0 G.P := by
  refine Met.ofW (cc := b_Mo_isLetter) (maxL := 1) (ret := (some .boolean)) (by decide) rfl ?_
  intro p e s m args below meth c s₁ Bd hml hv
  obtain ⟨ha, hE, hH⟩ := hv
  have hx := Bd.exec
  have hb := Bd.bytes
  have hr := Bd.returns
  have hts : ∀ w ∈ lw_g, w.before args s = true := fun w hw => atoms_spec (ws := (.code y_Mo_isLetter b_Mo_isLetter 1 (some .boolean) :: lw_g)) Bd.pre w (List.mem_cons_of_mem _ hw)
  have hown : s.vm.findClass R_Mo = some m.cls := findClass_of_methodNamed Bd.named
  have hlocks := Bd.notSynchronized
  have hK := hE.1
  have hH0 := hH
  have hLo : hLc G.P [] := hLc_nil
  have hz : s.heap.size ≤ s.heap.size := Nat.le_refl _
  have hkp : kp [] h h := kp_rf
  have hl := lv_entry [.int c9] (n := 1) (Nat.le_of_ble_eq_true rfl)
  rw [show entryFrame m args 1 = F0 m 0 ((lg_sl [.int c9] ++ List.replicate (1 - (lg_sl [.int c9]).length) Slot.unset).toArray) [] from (by rw [ha]; exact lg_entry_eq m [.int c9] 1)]
  generalize (lg_sl [.int c9] ++ List.replicate (1 - (lg_sl [.int c9]).length) Slot.unset).toArray = ls at hl ⊢
  have hl : lv_has ls 1 [(0, .int c9)] := hl
  refine lv_iload_n hx hb d_Mo_isLetter_0 rfl (lv_at hl 0 rfl) ?_
  refine lv_bipush (v := 65) hx hb d_Mo_isLetter_1 (by decide) ?_
  refine lv_icmp_lt (tgt := 12) hx hb d_Mo_isLetter_3 (by decide) (fun hc1 => ?_) (fun hc1 => ?_)
  · skip
    refine lv_iload_n hx hb d_Mo_isLetter_12 rfl (lv_at hl 0 rfl) ?_
    refine lv_bipush (v := 48) hx hb d_Mo_isLetter_13 (by decide) ?_
    refine lv_icmp_lt (tgt := 24) hx hb d_Mo_isLetter_15 (by decide) (fun hc2 => ?_) (fun hc2 => ?_)
    · skip
      refine lv_iload_n hx hb d_Mo_isLetter_24 rfl (lv_at hl 0 rfl) ?_
      refine lv_bipush (v := 95) hx hb d_Mo_isLetter_25 (by decide) ?_
      refine lv_icmp_ne (tgt := 34) hx hb d_Mo_isLetter_27 (by decide) (fun hc3 => ?_) (fun hc3 => ?_)
      · skip
        refine lv_iconst (v := 0) hx hb d_Mo_isLetter_34 (by decide) ?_
        exact W.zret (v := 0) hx hb hr (by decide) (fun t9 ht hW => ⟨0, h, rfl, ⟨by simp [letC, lt2, lt3, hc1, hc2, hc3], rfl⟩, by rw [ht]; exact hH, by rw [ht]; exact hz⟩) hLo d_Mo_isLetter_35
      · skip
        refine lv_iconst (v := 1) hx hb d_Mo_isLetter_30 (by decide) ?_
        refine lv_goto (tgt := 35) hx hb d_Mo_isLetter_31 (by decide) ?_
        exact W.zret (v := 1) hx hb hr (by decide) (fun t9 ht hW => ⟨1, h, rfl, ⟨by simp [letC, lt2, lt3, hc1, hc2, hc3], rfl⟩, by rw [ht]; exact hH, by rw [ht]; exact hz⟩) hLo d_Mo_isLetter_35
    · skip
      refine lv_iload_n hx hb d_Mo_isLetter_18 rfl (lv_at hl 0 rfl) ?_
      refine lv_bipush (v := 57) hx hb d_Mo_isLetter_19 (by decide) ?_
      refine lv_icmp_le (tgt := 30) hx hb d_Mo_isLetter_21 (by decide) (fun hc4 => ?_) (fun hc4 => ?_)
      · skip
        refine lv_iconst (v := 1) hx hb d_Mo_isLetter_30 (by decide) ?_
        refine lv_goto (tgt := 35) hx hb d_Mo_isLetter_31 (by decide) ?_
        exact W.zret (v := 1) hx hb hr (by decide) (fun t9 ht hW => ⟨1, h, rfl, ⟨by simp [letC, lt2, lt3, hc1, hc2, hc4], rfl⟩, by rw [ht]; exact hH, by rw [ht]; exact hz⟩) hLo d_Mo_isLetter_35
      · skip
        refine lv_iload_n hx hb d_Mo_isLetter_24 rfl (lv_at hl 0 rfl) ?_
        refine lv_bipush (v := 95) hx hb d_Mo_isLetter_25 (by decide) ?_
        refine lv_icmp_ne (tgt := 34) hx hb d_Mo_isLetter_27 (by decide) (fun hc5 => ?_) (fun hc5 => ?_)
        · skip
          refine lv_iconst (v := 0) hx hb d_Mo_isLetter_34 (by decide) ?_
          exact W.zret (v := 0) hx hb hr (by decide) (fun t9 ht hW => ⟨0, h, rfl, ⟨by simp [letC, lt2, lt3, hc1, hc2, hc4, hc5], rfl⟩, by rw [ht]; exact hH, by rw [ht]; exact hz⟩) hLo d_Mo_isLetter_35
        · skip
          refine lv_iconst (v := 1) hx hb d_Mo_isLetter_30 (by decide) ?_
          refine lv_goto (tgt := 35) hx hb d_Mo_isLetter_31 (by decide) ?_
          exact W.zret (v := 1) hx hb hr (by decide) (fun t9 ht hW => ⟨1, h, rfl, ⟨by simp [letC, lt2, lt3, hc1, hc2, hc4, hc5], rfl⟩, by rw [ht]; exact hH, by rw [ht]; exact hz⟩) hLo d_Mo_isLetter_35
  · skip
    refine lv_iload_n hx hb d_Mo_isLetter_6 rfl (lv_at hl 0 rfl) ?_
    refine lv_bipush (v := 90) hx hb d_Mo_isLetter_7 (by decide) ?_
    refine lv_icmp_le (tgt := 30) hx hb d_Mo_isLetter_9 (by decide) (fun hc6 => ?_) (fun hc6 => ?_)
    · skip
      refine lv_iconst (v := 1) hx hb d_Mo_isLetter_30 (by decide) ?_
      refine lv_goto (tgt := 35) hx hb d_Mo_isLetter_31 (by decide) ?_
      exact W.zret (v := 1) hx hb hr (by decide) (fun t9 ht hW => ⟨1, h, rfl, ⟨by simp [letC, lt2, lt3, hc1, hc6], rfl⟩, by rw [ht]; exact hH, by rw [ht]; exact hz⟩) hLo d_Mo_isLetter_35
    · skip
      refine lv_iload_n hx hb d_Mo_isLetter_12 rfl (lv_at hl 0 rfl) ?_
      refine lv_bipush (v := 48) hx hb d_Mo_isLetter_13 (by decide) ?_
      refine lv_icmp_lt (tgt := 24) hx hb d_Mo_isLetter_15 (by decide) (fun hc7 => ?_) (fun hc7 => ?_)
      · skip
        refine lv_iload_n hx hb d_Mo_isLetter_24 rfl (lv_at hl 0 rfl) ?_
        refine lv_bipush (v := 95) hx hb d_Mo_isLetter_25 (by decide) ?_
        refine lv_icmp_ne (tgt := 34) hx hb d_Mo_isLetter_27 (by decide) (fun hc8 => ?_) (fun hc8 => ?_)
        · skip
          refine lv_iconst (v := 0) hx hb d_Mo_isLetter_34 (by decide) ?_
          exact W.zret (v := 0) hx hb hr (by decide) (fun t9 ht hW => ⟨0, h, rfl, ⟨by simp [letC, lt2, lt3, hc1, hc6, hc7, hc8], rfl⟩, by rw [ht]; exact hH, by rw [ht]; exact hz⟩) hLo d_Mo_isLetter_35
        · skip
          refine lv_iconst (v := 1) hx hb d_Mo_isLetter_30 (by decide) ?_
          refine lv_goto (tgt := 35) hx hb d_Mo_isLetter_31 (by decide) ?_
          exact W.zret (v := 1) hx hb hr (by decide) (fun t9 ht hW => ⟨1, h, rfl, ⟨by simp [letC, lt2, lt3, hc1, hc6, hc7, hc8], rfl⟩, by rw [ht]; exact hH, by rw [ht]; exact hz⟩) hLo d_Mo_isLetter_35
      · skip
        refine lv_iload_n hx hb d_Mo_isLetter_18 rfl (lv_at hl 0 rfl) ?_
        refine lv_bipush (v := 57) hx hb d_Mo_isLetter_19 (by decide) ?_
        refine lv_icmp_le (tgt := 30) hx hb d_Mo_isLetter_21 (by decide) (fun hc9 => ?_) (fun hc9 => ?_)
        · skip
          refine lv_iconst (v := 1) hx hb d_Mo_isLetter_30 (by decide) ?_
          refine lv_goto (tgt := 35) hx hb d_Mo_isLetter_31 (by decide) ?_
          exact W.zret (v := 1) hx hb hr (by decide) (fun t9 ht hW => ⟨1, h, rfl, ⟨by simp [letC, lt2, lt3, hc1, hc6, hc7, hc9], rfl⟩, by rw [ht]; exact hH, by rw [ht]; exact hz⟩) hLo d_Mo_isLetter_35
        · skip
          refine lv_iload_n hx hb d_Mo_isLetter_24 rfl (lv_at hl 0 rfl) ?_
          refine lv_bipush (v := 95) hx hb d_Mo_isLetter_25 (by decide) ?_
          refine lv_icmp_ne (tgt := 34) hx hb d_Mo_isLetter_27 (by decide) (fun hc10 => ?_) (fun hc10 => ?_)
          · skip
            refine lv_iconst (v := 0) hx hb d_Mo_isLetter_34 (by decide) ?_
            exact W.zret (v := 0) hx hb hr (by decide) (fun t9 ht hW => ⟨0, h, rfl, ⟨by simp [letC, lt2, lt3, hc1, hc6, hc7, hc9, hc10], rfl⟩, by rw [ht]; exact hH, by rw [ht]; exact hz⟩) hLo d_Mo_isLetter_35
          · skip
            refine lv_iconst (v := 1) hx hb d_Mo_isLetter_30 (by decide) ?_
            refine lv_goto (tgt := 35) hx hb d_Mo_isLetter_31 (by decide) ?_
            exact W.zret (v := 1) hx hb hr (by decide) (fun t9 ht hW => ⟨1, h, rfl, ⟨by simp [letC, lt2, lt3, hc1, hc6, hc7, hc9, hc10], rfl⟩, by rw [ht]; exact hH, by rw [ht]; exact hz⟩) hLo d_Mo_isLetter_35

set_option maxHeartbeats 4000000 in
set_option maxRecDepth 100000 in
theorem c_m_told (l : Launch) (D : va_G) (t : Nat → ClassId) (G : hG) (ak av : Nat → Nat) (h : hM) (w : Int64) : Met l y_Mo_told (.code y_Mo_told b_Mo_told 6 (some .long) :: lw_g) { frames := 1, cells := 0, slots := 0, locals := 20 } (hP (kE D t G ak av) D vwCl G h [.long w]) (hQl D vwCl G (fun r h' => r = tlV w ∧ h = h')) 0 0 G.P := by
  refine Met.ofW (cc := b_Mo_told) (maxL := 6) (ret := (some .long)) (by decide) rfl ?_
  intro p e s m args below meth c s₁ Bd hml hv
  obtain ⟨ha, hE, hH⟩ := hv
  have hx := Bd.exec
  have hb := Bd.bytes
  have hr := Bd.returns
  have hts : ∀ w ∈ lw_g, w.before args s = true := fun w hw => atoms_spec (ws := (.code y_Mo_told b_Mo_told 6 (some .long) :: lw_g)) Bd.pre w (List.mem_cons_of_mem _ hw)
  have hown : s.vm.findClass R_Mo = some m.cls := findClass_of_methodNamed Bd.named
  have hlocks := Bd.notSynchronized
  have hK := hE.1
  have hH0 := hH
  have hLo : hLc G.P [] := hLc_nil
  have hz : s.heap.size ≤ s.heap.size := Nat.le_refl _
  have hkp : kp [] h h := kp_rf
  have hl := lv_entry [.long w] (n := 6) (Nat.le_of_ble_eq_true rfl)
  rw [show entryFrame m args 6 = F0 m 0 ((lg_sl [.long w] ++ List.replicate (6 - (lg_sl [.long w]).length) Slot.unset).toArray) [] from (by rw [ha]; exact lg_entry_eq m [.long w] 6)]
  generalize (lg_sl [.long w] ++ List.replicate (6 - (lg_sl [.long w]).length) Slot.unset).toArray = ls at hl ⊢
  have hl : lv_has ls 6 [(0, .long w)] := hl
  refine lv_lconst (v := 0) hx hb d_Mo_told_0 (by decide) ?_
  refine lv_lstore_n (lv' := [(2, .long 0), (0, .long w)]) hx hb d_Mo_told_1 rfl hl (by decide) rfl (fun ls hl => ?_)
  refine lv_bipush (v := 7) hx hb d_Mo_told_2 (by decide) ?_
  refine lv_topi (fun v1 e2 => ?_)
  obtain rfl : v1 = nI 8 - 1 := e2.trans (td_0)
  refine lv_istore (lv' := [(4, .int (nI 8 - 1)), (2, .long 0), (0, .long w)]) hx hb d_Mo_told_4 hl (by decide) rfl (fun ls hl => ?_)
  refine hm_loop (fun k ls H locs hh => ∃ (k9 : Nat) (acc : Int64), k = k9 ∧ lv_has ls 6 [(4, .int (nI k9 - 1)), (0, .long w), (2, .long acc)] ∧ hm D vwCl G hh H ∧ s.heap.size ≤ H.size ∧ hLc G.P locs ∧ kp [] h hh ∧ (tl w k9 acc = tlV w) ∧ (k9 ≤ 8) ∧ (h = hh)) ?_ (hh := h) ⟨8, 0, rfl, (lv_sub hl [0, 2, 1] rfl), hH, hz, hLo, hkp, rfl, by omega, rfl⟩
  rintro k ls H locs hh ⟨k9, acc, hk, hl, hH, hz, hLo, hkp, htl, hk9, hhh⟩ ih
  rcases Nat.eq_zero_or_pos k9 with rfl | hpos
  · skip
    refine lv_iload hx hb d_Mo_told_6 (lv_at hl 0 rfl) ?_
    refine lv_if_lt (tgt := 58) hx hb d_Mo_told_8 (by decide) (fun hc3 => ?_) (fun hc3 => absurd ((td_neg 0 (by decide)).mpr rfl) hc3)
    refine lv_lload_n hx hb d_Mo_told_58 rfl (lv_at hl 2 rfl) ?_
    exact W.lret (v := acc) hx hb hr (fun t9 ht hW => ⟨acc, hh, rfl, ⟨htl, hhh⟩, by rw [ht]; exact hH, by rw [ht]; exact hz⟩) hLo d_Mo_told_59
  · skip
    obtain ⟨j, rfl⟩ : ∃ j, k9 = j + 1 := ⟨k9 - 1, by omega⟩
    refine lv_iload hx hb d_Mo_told_6 (lv_at hl 0 rfl) ?_
    refine lv_if_lt (tgt := 58) hx hb d_Mo_told_8 (by decide) (fun hc4 => absurd hc4 (mt (td_neg (j + 1) (by omega)).mp (by omega))) (fun hc4 => ?_)
    refine lv_lload_n hx hb d_Mo_told_11 rfl (lv_at hl 1 rfl) ?_
    refine lv_bipush (v := 8) hx hb d_Mo_told_12 (by decide) ?_
    refine lv_iload hx hb d_Mo_told_14 (lv_at hl 0 rfl) ?_
    refine lv_imul hx hb d_Mo_told_16 ?_
    refine lv_lushr (v := (w.toUInt64 >>> ((8 * (nI (j + 1) - 1)).toInt64.toUInt64 &&& Int64.toUInt64 63)).toInt64) hx hb d_Mo_told_17 rfl ?_
    refine lv_ldc2 (v := 255) hx hb hown (hts _ mw_433) d_Mo_told_18 ?_
    refine lv_land hx hb d_Mo_told_21 ?_
    refine lv_l2i (v := (((w.toUInt64 >>> ((8 * (nI (j + 1) - 1)).toInt64.toUInt64 &&& Int64.toUInt64 63)).toInt64) &&& 255).toInt32) hx hb d_Mo_told_22 rfl ?_
    refine lv_topi (fun v5 e6 => ?_)
    obtain rfl : v5 = tb w j := e6.trans (td_b w (by omega))
    refine lv_istore (lv' := [(5, .int (tb w j)), (4, .int (nI (j + 1) - 1)), (0, .long w), (2, .long acc)]) hx hb d_Mo_told_23 hl (by decide) rfl (fun ls hl => ?_)
    refine lv_iload hx hb d_Mo_told_25 (lv_at hl 0 rfl) ?_
    refine lv_if_ne (tgt := 33) hx hb d_Mo_told_27 (by decide) (fun hc7 => ?_) (fun hc7 => ?_)
    · skip
      refine lv_iload hx hb d_Mo_told_33 (lv_at hl 0 rfl) ?_
      refine hm_calli (va_runS (As := [.int (tb w j)]) (rest := []) ⟨hx, hb, hml, hown, hts⟩ (c_m_isLetter l D t G ak av hh (tb w j)) ⟨cw9B 1 hts mw_434 mw_435 mw_428 rfl rfl (by decide +kernel) ⟨Nat.le_of_ble_eq_true rfl, Nat.le_of_ble_eq_true rfl⟩, hts _ mw_436⟩ (hP_S kE_ok hE hH) rfl rfl hl.1 rfl (lv_room (Nat.le_of_ble_eq_true rfl)) d_Mo_told_35 ⟨Nat.le_of_ble_eq_true rfl, Nat.le_of_ble_eq_true rfl⟩) hLo (fun r8 h9 H10 locs hp12 hH z11 hLo => ?_)
      have hz : s.heap.size ≤ H10.size := Nat.le_trans hz z11
      obtain ⟨rfl, rfl⟩ := hp12
      refine lv_if_ne (tgt := 43) hx hb d_Mo_told_38 (by decide) (fun hc13 => ?_) (fun hc13 => ?_)
      · skip
        refine lv_lload_n hx hb d_Mo_told_43 rfl (lv_at hl 3 rfl) ?_
        refine lv_bipush (v := 8) hx hb d_Mo_told_44 (by decide) ?_
        refine lv_lshl (v := acc <<< ((8 : Int32).toInt64 &&& 63)) hx hb d_Mo_told_46 rfl ?_
        refine lv_iload hx hb d_Mo_told_47 (lv_at hl 0 rfl) ?_
        refine lv_i2l (v := (tb w j).toInt64) hx hb d_Mo_told_49 rfl ?_
        refine lv_lor hx hb d_Mo_told_50 ?_
        refine lv_lstore_n (lv' := [(2, .long ((acc <<< ((8 : Int32).toInt64 &&& 63)) ||| ((tb w j).toInt64))), (5, .int (tb w j)), (4, .int (nI (j + 1) - 1)), (0, .long w)]) hx hb d_Mo_told_51 rfl hl (by decide) rfl (fun ls hl => ?_)
        refine lv_iinc (v := nI j - 1) (lv' := [(4, .int (nI j - 1)), (2, .long ((acc <<< ((8 : Int32).toInt64 &&& 63)) ||| ((tb w j).toInt64))), (5, .int (tb w j)), (0, .long w)]) hx hb d_Mo_told_52 hl (k := 2) rfl (td_dec j (by omega)) (by decide) rfl (fun ls hl => ?_)
        refine lv_goto (tgt := 6) hx hb d_Mo_told_55 (by decide) ?_
        exact ih (j) ls _ locs _ (by rw [hk]; omega) ⟨j, ((acc <<< ((8 : Int32).toInt64 &&& 63)) ||| ((tb w j).toInt64)), rfl, (lv_sub hl [0, 3, 1] rfl), hH, hz, hLo, hkp, by rw [← htl, tl, if_neg hc7, if_neg hc13], by omega, hhh⟩
      · skip
        refine lv_lconst (v := 0) hx hb d_Mo_told_41 (by decide) ?_
        exact W.lret (v := 0) hx hb hr (fun t9 ht hW => ⟨0, hh, rfl, ⟨by rw [← htl, tl, if_neg hc7, if_pos hc13], hhh⟩, by rw [ht]; exact hH, by rw [ht]; exact hz⟩) hLo d_Mo_told_42
    · skip
      refine lv_goto (tgt := 52) hx hb d_Mo_told_30 (by decide) ?_
      refine lv_iinc (v := nI j - 1) (lv' := [(4, .int (nI j - 1)), (5, .int (tb w j)), (0, .long w), (2, .long acc)]) hx hb d_Mo_told_52 hl (k := 1) rfl (td_dec j (by omega)) (by decide) rfl (fun ls hl => ?_)
      refine lv_goto (tgt := 6) hx hb d_Mo_told_55 (by decide) ?_
      exact ih (j) ls _ locs _ (by rw [hk]; omega) ⟨j, acc, rfl, (lv_sub hl [0, 2, 3] rfl), hH, hz, hLo, hkp, by rw [← htl, tl, if_pos hc7], by omega, hhh⟩

set_option maxHeartbeats 4000000 in
set_option maxRecDepth 100000 in
theorem c_m_namedIn (l : Launch) (D : va_G) (t : Nat → ClassId) (G : hG) (ak av : Nat → Nat) (h : hM) (mo n aBy aSt aDe aPa aIt aId aPr aNa aSi aSe aIw aEx aOl aPl aTa aAt aLo aS1 aS2 aS3 aS4 aS5 aS6 aO1 aO2 aO3 aO4 aO5 : Nat) (d9 : Int32) (wo : Int64) (f_m : h mo = some (.inr (9, [.int 0, .int (nI n), .int 0, .ref aBy, .ref aSt, .ref aDe, .int 0, .int (-1), .int 0, .ref aPa, .int 1, .ref aIt, .ref aId, .ref aPr, .ref aNa, .ref aSi, .ref aSe, .ref aIw, .ref aEx, .ref aOl, .int 0, .ref aPl, .int 0, .int 0, .ref aTa, .ref aAt, .ref aLo, .int 0, .int 0, .ref aS1, .ref aS2, .ref aS3, .ref aS4, .ref aS5, .ref aS6, .int 0, .ref aO1, .ref aO2, .ref aO3, .ref aO4, .ref aO5]))) : Met l y_Mo_namedIn (.code y_Mo_namedIn b_Mo_namedIn 5 (some .int) :: lw_g) { frames := 0, cells := 0, slots := 0, locals := 0 } (hP (kE D t G ak av) D vwCl G h [.ref mo, .int d9, .long wo]) (hQi D vwCl G (fun r h' => r = -1 ∧ h = h')) 0 0 G.P := by
  refine Met.ofW (cc := b_Mo_namedIn) (maxL := 5) (ret := (some .int)) (by decide) rfl ?_
  intro p e s m args below meth c s₁ Bd hml hv
  obtain ⟨ha, hE, hH⟩ := hv
  have hx := Bd.exec
  have hb := Bd.bytes
  have hr := Bd.returns
  have hts : ∀ w ∈ lw_g, w.before args s = true := fun w hw => atoms_spec (ws := (.code y_Mo_namedIn b_Mo_namedIn 5 (some .int) :: lw_g)) Bd.pre w (List.mem_cons_of_mem _ hw)
  have hown : s.vm.findClass R_Mo = some m.cls := findClass_of_methodNamed Bd.named
  have hlocks := Bd.notSynchronized
  have hK := hE.1
  have hH0 := hH
  have hLo : hLc G.P [] := hLc_nil
  have hz : s.heap.size ≤ s.heap.size := Nat.le_refl _
  have hkp : kp [] h h := kp_rf
  have hl := lv_entry [.ref mo, .int d9, .long wo] (n := 5) (Nat.le_of_ble_eq_true rfl)
  rw [show entryFrame m args 5 = F0 m 0 ((lg_sl [.ref mo, .int d9, .long wo] ++ List.replicate (5 - (lg_sl [.ref mo, .int d9, .long wo]).length) Slot.unset).toArray) [] from (by rw [ha]; exact lg_entry_eq m [.ref mo, .int d9, .long wo] 5)]
  generalize (lg_sl [.ref mo, .int d9, .long wo] ++ List.replicate (5 - (lg_sl [.ref mo, .int d9, .long wo]).length) Slot.unset).toArray = ls at hl ⊢
  have hl : lv_has ls 5 [(0, .ref mo), (1, .int d9), (2, .long wo)] := hl
  refine lv_iconst (v := 1) hx hb d_Mo_namedIn_0 (by decide) ?_
  refine lv_istore (lv' := [(4, .int 1), (0, .ref mo), (1, .int d9), (2, .long wo)]) hx hb d_Mo_namedIn_1 hl (by decide) rfl (fun ls hl => ?_)
  refine lv_iload hx hb d_Mo_namedIn_3 (lv_at hl 0 rfl) ?_
  refine lv_aload_n hx hb d_Mo_namedIn_5 rfl (lv_at hl 1 rfl) ?_
  refine hm_get (ci := 9) (v := .int 1) (C := R_Mo) (T := F_Mo) (N := 41) hx hb hts ig_Mo hown hK hH f_m rfl 10 (by decide) (hts _ mw_390) (fun _ h9 => h9) rfl d_Mo_namedIn_6 ?_
  refine lv_icmp_ge (tgt := 54) hx hb d_Mo_namedIn_9 (by decide) (fun hc1 => ?_) (fun hc1 => absurd (by decide) hc1)
  refine lv_iconst (v := -1) hx hb d_Mo_namedIn_54 (by decide) ?_
  exact W.iret (v := (-1)) hx hb hr (fun t9 ht hW => ⟨(-1), h, rfl, ⟨rfl, rfl⟩, by rw [ht]; exact hH, by rw [ht]; exact hz⟩) hLo d_Mo_namedIn_55

set_option maxHeartbeats 4000000 in
set_option maxRecDepth 100000 in
theorem c_m_depthOf (l : Launch) (D : va_G) (t : Nat → ClassId) (G : hG) (ak av : Nat → Nat) (h : hM) (mo : Nat) : Met l y_Mo_depthOf (.code y_Mo_depthOf b_Mo_depthOf 4 (some .int) :: lw_g) { frames := 0, cells := 0, slots := 0, locals := 0 } (hP (kE D t G ak av) D vwCl G h [.ref mo, .int 0]) (hQi D vwCl G (fun r h' => r = 0 ∧ h = h')) 0 0 G.P := by
  refine Met.ofW (cc := b_Mo_depthOf) (maxL := 4) (ret := (some .int)) (by decide) rfl ?_
  intro p e s m args below meth c s₁ Bd hml hv
  obtain ⟨ha, hE, hH⟩ := hv
  have hx := Bd.exec
  have hb := Bd.bytes
  have hr := Bd.returns
  have hts : ∀ w ∈ lw_g, w.before args s = true := fun w hw => atoms_spec (ws := (.code y_Mo_depthOf b_Mo_depthOf 4 (some .int) :: lw_g)) Bd.pre w (List.mem_cons_of_mem _ hw)
  have hown : s.vm.findClass R_Mo = some m.cls := findClass_of_methodNamed Bd.named
  have hlocks := Bd.notSynchronized
  have hK := hE.1
  have hH0 := hH
  have hLo : hLc G.P [] := hLc_nil
  have hz : s.heap.size ≤ s.heap.size := Nat.le_refl _
  have hkp : kp [] h h := kp_rf
  have hl := lv_entry [.ref mo, .int 0] (n := 4) (Nat.le_of_ble_eq_true rfl)
  rw [show entryFrame m args 4 = F0 m 0 ((lg_sl [.ref mo, .int 0] ++ List.replicate (4 - (lg_sl [.ref mo, .int 0]).length) Slot.unset).toArray) [] from (by rw [ha]; exact lg_entry_eq m [.ref mo, .int 0] 4)]
  generalize (lg_sl [.ref mo, .int 0] ++ List.replicate (4 - (lg_sl [.ref mo, .int 0]).length) Slot.unset).toArray = ls at hl ⊢
  have hl : lv_has ls 4 [(0, .ref mo), (1, .int 0)] := hl
  refine lv_iconst (v := 0) hx hb d_Mo_depthOf_0 (by decide) ?_
  refine lv_istore_n (lv' := [(2, .int 0), (0, .ref mo), (1, .int 0)]) hx hb d_Mo_depthOf_1 rfl hl (by decide) rfl (fun ls hl => ?_)
  refine lv_iload_n hx hb d_Mo_depthOf_2 rfl (lv_at hl 2 rfl) ?_
  refine lv_istore_n (lv' := [(3, .int 0), (2, .int 0), (0, .ref mo), (1, .int 0)]) hx hb d_Mo_depthOf_3 rfl hl (by decide) rfl (fun ls hl => ?_)
  refine lv_iload_n hx hb d_Mo_depthOf_4 rfl (lv_at hl 0 rfl) ?_
  refine lv_if_le (tgt := 21) hx hb d_Mo_depthOf_5 (by decide) (fun hc1 => ?_) (fun hc1 => absurd (by decide) hc1)
  refine lv_iload_n hx hb d_Mo_depthOf_21 rfl (lv_at hl 1 rfl) ?_
  exact W.iret (v := 0) hx hb hr (fun t9 ht hW => ⟨0, h, rfl, ⟨rfl, rfl⟩, by rw [ht]; exact hH, by rw [ht]; exact hz⟩) hLo d_Mo_depthOf_22

set_option maxHeartbeats 4000000 in
set_option maxRecDepth 100000 in
theorem c_m_alive (l : Launch) (D : va_G) (t : Nat → ClassId) (G : hG) (ak av : Nat → Nat) (h : hM) (mo n aBy aSt aDe aPa aIt aId aPr aNa aSi aSe aIw aEx aOl aPl aTa aAt aLo aS1 aS2 aS3 aS4 aS5 aS6 aO1 aO2 aO3 aO4 aO5 : Nat) (gIt : Nat → Int32) (f_m : h mo = some (.inr (9, [.int 0, .int (nI n), .int 0, .ref aBy, .ref aSt, .ref aDe, .int 0, .int (-1), .int 0, .ref aPa, .int 1, .ref aIt, .ref aId, .ref aPr, .ref aNa, .ref aSi, .ref aSe, .ref aIw, .ref aEx, .ref aOl, .int 0, .ref aPl, .int 0, .int 0, .ref aTa, .ref aAt, .ref aLo, .int 0, .int 0, .ref aS1, .ref aS2, .ref aS3, .ref aS4, .ref aS5, .ref aS6, .int 0, .ref aO1, .ref aO2, .ref aO3, .ref aO4, .ref aO5]))) (f_aIt : h aIt = some (.inl ((t 1), 700, .inl gIt))) (zIt : gIt 0 = 1) : Met l y_Mo_alive (.code y_Mo_alive b_Mo_alive 3 (some .int) :: lw_g) { frames := 0, cells := 0, slots := 0, locals := 0 } (hP (kE D t G ak av) D vwCl G h [.ref mo]) (hQi D vwCl G (fun r h' => r = 1 ∧ h = h')) 0 0 G.P := by
  refine Met.ofW (cc := b_Mo_alive) (maxL := 3) (ret := (some .int)) (by decide) rfl ?_
  intro p e s m args below meth c s₁ Bd hml hv
  obtain ⟨ha, hE, hH⟩ := hv
  have hx := Bd.exec
  have hb := Bd.bytes
  have hr := Bd.returns
  have hts : ∀ w ∈ lw_g, w.before args s = true := fun w hw => atoms_spec (ws := (.code y_Mo_alive b_Mo_alive 3 (some .int) :: lw_g)) Bd.pre w (List.mem_cons_of_mem _ hw)
  have hown : s.vm.findClass R_Mo = some m.cls := findClass_of_methodNamed Bd.named
  have hlocks := Bd.notSynchronized
  have hK := hE.1
  have hH0 := hH
  have hLo : hLc G.P [] := hLc_nil
  have hz : s.heap.size ≤ s.heap.size := Nat.le_refl _
  have hkp : kp [] h h := kp_rf
  have hl := lv_entry [.ref mo] (n := 3) (Nat.le_of_ble_eq_true rfl)
  rw [show entryFrame m args 3 = F0 m 0 ((lg_sl [.ref mo] ++ List.replicate (3 - (lg_sl [.ref mo]).length) Slot.unset).toArray) [] from (by rw [ha]; exact lg_entry_eq m [.ref mo] 3)]
  generalize (lg_sl [.ref mo] ++ List.replicate (3 - (lg_sl [.ref mo]).length) Slot.unset).toArray = ls at hl ⊢
  have hl : lv_has ls 3 [(0, .ref mo)] := hl
  refine lv_iconst (v := 0) hx hb d_Mo_alive_0 (by decide) ?_
  refine lv_istore_n (lv' := [(1, .int 0), (0, .ref mo)]) hx hb d_Mo_alive_1 rfl hl (by decide) rfl (fun ls hl => ?_)
  refine lv_iconst (v := 0) hx hb d_Mo_alive_2 (by decide) ?_
  refine lv_istore_n (lv' := [(2, .int 0), (1, .int 0), (0, .ref mo)]) hx hb d_Mo_alive_3 rfl hl (by decide) rfl (fun ls hl => ?_)
  refine lv_iload_n hx hb d_Mo_alive_4 rfl (lv_at hl 0 rfl) ?_
  refine lv_aload_n hx hb d_Mo_alive_5 rfl (lv_at hl 2 rfl) ?_
  refine hm_get (ci := 9) (v := .int 1) (C := R_Mo) (T := F_Mo) (N := 41) hx hb hts ig_Mo hown hK hH f_m rfl 10 (by decide) (hts _ mw_390) (fun _ h9 => h9) rfl d_Mo_alive_6 ?_
  refine lv_icmp_ge (tgt := 35) hx hb d_Mo_alive_9 (by decide) (fun hc1 => absurd hc1 (by decide)) (fun hc1 => ?_)
  refine lv_iload_n hx hb d_Mo_alive_12 rfl (lv_at hl 1 rfl) ?_
  refine lv_aload_n hx hb d_Mo_alive_13 rfl (lv_at hl 2 rfl) ?_
  refine hm_get (ci := 9) (v := .ref aIt) (C := R_Mo) (T := F_Mo) (N := 41) hx hb hts ig_Mo hown hK hH f_m rfl 11 (by decide) (hts _ mw_391) (fun _ h9 => h9) rfl d_Mo_alive_14 ?_
  refine lv_iload_n hx hb d_Mo_alive_17 rfl (lv_at hl 0 rfl) ?_
  refine hj_zald hx hb hK hH 1 f_aIt rfl 0 (by decide) (by decide) (by decide) d_Mo_alive_18 ?_
  refine lv_if_eq (tgt := 26) hx hb d_Mo_alive_19 (by decide) (fun hc2 => absurd hc2 (by rw [zIt]; decide)) (fun hc2 => ?_)
  refine lv_iconst (v := 1) hx hb d_Mo_alive_22 (by decide) ?_
  refine lv_goto (tgt := 27) hx hb d_Mo_alive_23 (by decide) ?_
  refine lv_iadd hx hb d_Mo_alive_27 ?_
  refine lv_istore_n (lv' := [(1, .int (0 + 1)), (2, .int 0), (0, .ref mo)]) hx hb d_Mo_alive_28 rfl hl (by decide) rfl (fun ls hl => ?_)
  refine lv_iinc (v := 0 + 1) (lv' := [(2, .int (0 + 1)), (1, .int (0 + 1)), (0, .ref mo)]) hx hb d_Mo_alive_29 hl (k := 1) rfl (by rfl) (by decide) rfl (fun ls hl => ?_)
  refine lv_goto (tgt := 4) hx hb d_Mo_alive_32 (by decide) ?_
  refine lv_iload_n hx hb d_Mo_alive_4 rfl (lv_at hl 0 rfl) ?_
  refine lv_aload_n hx hb d_Mo_alive_5 rfl (lv_at hl 2 rfl) ?_
  refine hm_get (ci := 9) (v := .int 1) (C := R_Mo) (T := F_Mo) (N := 41) hx hb hts ig_Mo hown hK hH f_m rfl 10 (by decide) (hts _ mw_390) (fun _ h9 => h9) rfl d_Mo_alive_6 ?_
  refine lv_icmp_ge (tgt := 35) hx hb d_Mo_alive_9 (by decide) (fun hc3 => ?_) (fun hc3 => absurd (by decide) hc3)
  refine lv_iload_n hx hb d_Mo_alive_35 rfl (lv_at hl 1 rfl) ?_
  exact W.iret (v := 0 + 1) hx hb hr (fun t9 ht hW => ⟨0 + 1, h, rfl, ⟨by decide, rfl⟩, by rw [ht]; exact hH, by rw [ht]; exact hz⟩) hLo d_Mo_alive_36

set_option maxHeartbeats 4000000 in
set_option maxRecDepth 100000 in
theorem c_m_isContent (l : Launch) (D : va_G) (t : Nat → ClassId) (G : hG) (ak av : Nat → Nat) (h : hM) (sz sd : Int32) : Met l y_Mo_isContent (.code y_Mo_isContent b_Mo_isContent 2 (some .boolean) :: lw_g) { frames := 1, cells := 0, slots := 0, locals := 22 } (hP (kE D t G ak av) D vwCl G h [.int sz, .int sd]) (hQi D vwCl G (fun r h' => r = cntC sz sd ∧ h = h')) 0 0 G.P := by
  refine Met.ofW (cc := b_Mo_isContent) (maxL := 2) (ret := (some .boolean)) (by decide) rfl ?_
  intro p e s m args below meth c s₁ Bd hml hv
  obtain ⟨ha, hE, hH⟩ := hv
  have hx := Bd.exec
  have hb := Bd.bytes
  have hr := Bd.returns
  have hts : ∀ w ∈ lw_g, w.before args s = true := fun w hw => atoms_spec (ws := (.code y_Mo_isContent b_Mo_isContent 2 (some .boolean) :: lw_g)) Bd.pre w (List.mem_cons_of_mem _ hw)
  have hown : s.vm.findClass R_Mo = some m.cls := findClass_of_methodNamed Bd.named
  have hlocks := Bd.notSynchronized
  have hK := hE.1
  have hH0 := hH
  have hLo : hLc G.P [] := hLc_nil
  have hz : s.heap.size ≤ s.heap.size := Nat.le_refl _
  have hkp : kp [] h h := kp_rf
  have hl := lv_entry [.int sz, .int sd] (n := 2) (Nat.le_of_ble_eq_true rfl)
  rw [show entryFrame m args 2 = F0 m 0 ((lg_sl [.int sz, .int sd] ++ List.replicate (2 - (lg_sl [.int sz, .int sd]).length) Slot.unset).toArray) [] from (by rw [ha]; exact lg_entry_eq m [.int sz, .int sd] 2)]
  generalize (lg_sl [.int sz, .int sd] ++ List.replicate (2 - (lg_sl [.int sz, .int sd]).length) Slot.unset).toArray = ls at hl ⊢
  have hl : lv_has ls 2 [(0, .int sz), (1, .int sd)] := hl
  refine lv_iload_n hx hb d_Mo_isContent_0 rfl (lv_at hl 0 rfl) ?_
  refine lv_iconst (v := 0) hx hb d_Mo_isContent_1 (by decide) ?_
  refine lv_sipush (v := 6000) hx hb d_Mo_isContent_2 (by decide) ?_
  refine hm_calli (va_runS (As := [.int sz, .int 0, .int 6000]) (rest := []) ⟨hx, hb, hml, hown, hts⟩ (c_m_in l D t G ak av h sz 0 6000) ⟨cw9B 3 hts mw_437 mw_438 mw_428 rfl rfl (by decide +kernel) ⟨Nat.le_of_ble_eq_true rfl, Nat.le_of_ble_eq_true rfl⟩, hts _ mw_439⟩ (hP_S kE_ok hE hH) rfl rfl hl.1 rfl (lv_room (Nat.le_of_ble_eq_true rfl)) d_Mo_isContent_5 ⟨Nat.le_of_ble_eq_true rfl, Nat.le_of_ble_eq_true rfl⟩) hLo (fun r1 h2 H3 locs hp5 hH z4 hLo => ?_)
  have hz : s.heap.size ≤ H3.size := Nat.le_trans hz z4
  obtain ⟨rfl, rfl⟩ := hp5
  refine lv_if_eq (tgt := 26) hx hb d_Mo_isContent_8 (by decide) (fun hc6 => ?_) (fun hc6 => ?_)
  · skip
    refine lv_iconst (v := 0) hx hb d_Mo_isContent_26 (by decide) ?_
    exact W.zret (v := 0) hx hb hr (by decide) (fun t9 ht hW => ⟨0, h, rfl, ⟨by rw [cntI, if_pos hc6], rfl⟩, by rw [ht]; exact hH, by rw [ht]; exact hz⟩) hLo d_Mo_isContent_27
  · skip
    refine lv_iload_n hx hb d_Mo_isContent_11 rfl (lv_at hl 1 rfl) ?_
    refine lv_iconst (v := 0) hx hb d_Mo_isContent_12 (by decide) ?_
    refine lv_sipush (v := 255) hx hb d_Mo_isContent_13 (by decide) ?_
    refine hm_calli (va_runS (As := [.int sd, .int 0, .int 255]) (rest := []) ⟨hx, hb, hml, hown, hts⟩ (c_m_in l D t G ak av h sd 0 255) ⟨cw9B 3 hts mw_437 mw_438 mw_428 rfl rfl (by decide +kernel) ⟨Nat.le_of_ble_eq_true rfl, Nat.le_of_ble_eq_true rfl⟩, hts _ mw_439⟩ (hP_S kE_ok hE hH) rfl rfl hl.1 rfl (lv_room (Nat.le_of_ble_eq_true rfl)) d_Mo_isContent_16 ⟨Nat.le_of_ble_eq_true rfl, Nat.le_of_ble_eq_true rfl⟩) hLo (fun r7 h8 H9 locs hp11 hH z10 hLo => ?_)
    have hz : s.heap.size ≤ H9.size := Nat.le_trans hz z10
    obtain ⟨rfl, rfl⟩ := hp11
    refine lv_if_eq (tgt := 26) hx hb d_Mo_isContent_19 (by decide) (fun hc12 => ?_) (fun hc12 => ?_)
    · skip
      refine lv_iconst (v := 0) hx hb d_Mo_isContent_26 (by decide) ?_
      exact W.zret (v := 0) hx hb hr (by decide) (fun t9 ht hW => ⟨0, h, rfl, ⟨by rw [cntI, if_neg hc6, if_pos hc12], rfl⟩, by rw [ht]; exact hH, by rw [ht]; exact hz⟩) hLo d_Mo_isContent_27
    · skip
      refine lv_iconst (v := 1) hx hb d_Mo_isContent_22 (by decide) ?_
      refine lv_goto (tgt := 27) hx hb d_Mo_isContent_23 (by decide) ?_
      exact W.zret (v := 1) hx hb hr (by decide) (fun t9 ht hW => ⟨1, h, rfl, ⟨by rw [cntI, if_neg hc6, if_neg hc12], rfl⟩, by rw [ht]; exact hH, by rw [ht]; exact hz⟩) hLo d_Mo_isContent_27
