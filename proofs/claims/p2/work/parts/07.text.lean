set_option maxRecDepth 100000 in
theorem mw_0 : Cond.fieldLink R_St 38 "java/lang/String" "COMPACT_STRINGS" "Z" ∈ lw_g := lw_gin (List.mem_append_right _ (List.mem_of_getElem? (i := 477) rfl)) (by decide +kernel)
set_option maxRecDepth 100000 in
theorem mw_1 : Cond.fieldLink R_St 15 "java/lang/String" "coder" "B" ∈ lw_g := lw_gin (List.mem_append_right _ (List.mem_of_getElem? (i := 1325) rfl)) (by decide +kernel)
set_option maxRecDepth 100000 in
theorem mw_2 : Cond.fieldLink R_St 9 "java/lang/String" "value" "[B" ∈ lw_g := lw_gin (List.mem_append_right _ (List.mem_of_getElem? (i := 1324) rfl)) (by decide +kernel)
set_option maxRecDepth 100000 in
theorem mw_3 : Cond.code y_St_coder b_St_coder 1 (some .byte) ∈ lw_g := lw_gin (List.mem_append_right _ (List.mem_of_getElem? (i := 476) rfl)) (by decide +kernel)
set_option maxRecDepth 100000 in
theorem mw_4 : Cond.initialized R_St ∈ lw_g := lw_gin (List.mem_append_right _ (List.mem_of_getElem? (i := 14) rfl)) (by decide +kernel)
set_option maxRecDepth 100000 in
theorem mw_5 : Cond.methodLink R_St 335 y_St_coder ∈ lw_g := lw_gin (List.mem_append_right _ (List.mem_of_getElem? (i := 473) rfl)) (by decide +kernel)
set_option maxRecDepth 100000 in
theorem mw_6 : Cond.instanceMethod y_St_coder ∈ lw_g := lw_gin (List.mem_append_right _ (List.mem_of_getElem? (i := 474) rfl)) (by decide +kernel)
set_option maxRecDepth 100000 in
theorem mw_7 : Cond.selects R_St y_St_coder y_St_coder ∈ lw_g := lw_gin (List.mem_append_right _ (List.mem_of_getElem? (i := 475) rfl)) (by decide +kernel)
set_option maxRecDepth 100000 in
theorem mw_8 : Cond.fieldLink R_St 1053 "jdk/internal/util/Preconditions" "SIOOBE_FORMATTER" "Ljava/util/function/BiFunction;" ∈ lw_g := lw_gin (List.mem_append_right _ (List.mem_of_getElem? (i := 497) rfl)) (by decide +kernel)
set_option maxRecDepth 100000 in
theorem mw_9 : Cond.code y_Pr_checkIndex b_Pr_checkIndex 3 (some .int) ∈ lw_g := lw_gin (List.mem_append_right _ (List.mem_of_getElem? (i := 501) rfl)) (by decide +kernel)
set_option maxRecDepth 100000 in
theorem mw_10 : Cond.initialized R_Pr ∈ lw_g := lw_gin (List.mem_append_right _ (List.mem_of_getElem? (i := 16) rfl)) (by decide +kernel)
set_option maxRecDepth 100000 in
theorem mw_11 : Cond.methodLink R_St 1059 y_Pr_checkIndex ∈ lw_g := lw_gin (List.mem_append_right _ (List.mem_of_getElem? (i := 499) rfl)) (by decide +kernel)
set_option maxRecDepth 100000 in
theorem mw_12 : Cond.static y_Pr_checkIndex ∈ lw_g := lw_gin (List.mem_append_right _ (List.mem_of_getElem? (i := 500) rfl)) (by decide +kernel)
set_option maxRecDepth 100000 in
theorem mw_13 : Cond.code y_St_checkIndex b_St_checkIndex 2 none ∈ lw_g := lw_gin (List.mem_append_right _ (List.mem_of_getElem? (i := 496) rfl)) (by decide +kernel)
set_option maxRecDepth 100000 in
theorem mw_14 : Cond.methodLink R_S1 9 y_St_checkIndex ∈ lw_g := lw_gin (List.mem_append_right _ (List.mem_of_getElem? (i := 494) rfl)) (by decide +kernel)
set_option maxRecDepth 100000 in
theorem mw_15 : Cond.static y_St_checkIndex ∈ lw_g := lw_gin (List.mem_append_right _ (List.mem_of_getElem? (i := 495) rfl)) (by decide +kernel)
set_option maxRecDepth 100000 in
theorem mw_16 : Cond.code y_St_isLatin1 b_St_isLatin1 1 (some .boolean) ∈ lw_g := lw_gin (List.mem_append_right _ (List.mem_of_getElem? (i := 490) rfl)) (by decide +kernel)
set_option maxRecDepth 100000 in
theorem mw_17 : Cond.methodLink R_St 492 y_St_isLatin1 ∈ lw_g := lw_gin (List.mem_append_right _ (List.mem_of_getElem? (i := 487) rfl)) (by decide +kernel)
set_option maxRecDepth 100000 in
theorem mw_18 : Cond.instanceMethod y_St_isLatin1 ∈ lw_g := lw_gin (List.mem_append_right _ (List.mem_of_getElem? (i := 488) rfl)) (by decide +kernel)
set_option maxRecDepth 100000 in
theorem mw_19 : Cond.selects R_St y_St_isLatin1 y_St_isLatin1 ∈ lw_g := lw_gin (List.mem_append_right _ (List.mem_of_getElem? (i := 489) rfl)) (by decide +kernel)
set_option maxRecDepth 100000 in
theorem mw_20 : Cond.code y_S1_charAt b_S1_charAt 2 (some .char) ∈ lw_g := lw_gin (List.mem_append_right _ (List.mem_of_getElem? (i := 493) rfl)) (by decide +kernel)
set_option maxRecDepth 100000 in
theorem mw_21 : Cond.initialized R_S1 ∈ lw_g := lw_gin (List.mem_append_right _ (List.mem_of_getElem? (i := 15) rfl)) (by decide +kernel)
set_option maxRecDepth 100000 in
theorem mw_22 : Cond.methodLink R_St 495 y_S1_charAt ∈ lw_g := lw_gin (List.mem_append_right _ (List.mem_of_getElem? (i := 491) rfl)) (by decide +kernel)
set_option maxRecDepth 100000 in
theorem mw_23 : Cond.static y_S1_charAt ∈ lw_g := lw_gin (List.mem_append_right _ (List.mem_of_getElem? (i := 492) rfl)) (by decide +kernel)
theorem d_St_coder_0 : decode b_St_coder 0 = .ok (.getstatic 38, 3) := by decide +kernel
theorem d_St_coder_3 : decode b_St_coder 3 = .ok (.ifCond .eq 10, 3) := by decide +kernel
theorem d_St_coder_6 : decode b_St_coder 6 = .ok (.aload_n 0, 1) := by decide +kernel
theorem d_St_coder_7 : decode b_St_coder 7 = .ok (.getfield 15, 3) := by decide +kernel
theorem d_St_coder_10 : decode b_St_coder 10 = .ok (.goto 4, 3) := by decide +kernel
theorem d_St_coder_14 : decode b_St_coder 14 = .ok (.ireturn, 1) := by decide +kernel
theorem d_St_isLatin1_0 : decode b_St_isLatin1 0 = .ok (.getstatic 38, 3) := by decide +kernel
theorem d_St_isLatin1_3 : decode b_St_isLatin1 3 = .ok (.ifCond .eq 14, 3) := by decide +kernel
theorem d_St_isLatin1_6 : decode b_St_isLatin1 6 = .ok (.aload_n 0, 1) := by decide +kernel
theorem d_St_isLatin1_7 : decode b_St_isLatin1 7 = .ok (.getfield 15, 3) := by decide +kernel
theorem d_St_isLatin1_10 : decode b_St_isLatin1 10 = .ok (.ifCond .ne 7, 3) := by decide +kernel
theorem d_St_isLatin1_13 : decode b_St_isLatin1 13 = .ok (.iconst 1, 1) := by decide +kernel
theorem d_St_isLatin1_14 : decode b_St_isLatin1 14 = .ok (.goto 4, 3) := by decide +kernel
theorem d_St_isLatin1_18 : decode b_St_isLatin1 18 = .ok (.ireturn, 1) := by decide +kernel
theorem d_St_length_0 : decode b_St_length 0 = .ok (.aload_n 0, 1) := by decide +kernel
theorem d_St_length_1 : decode b_St_length 1 = .ok (.getfield 9, 3) := by decide +kernel
theorem d_St_length_4 : decode b_St_length 4 = .ok (.arraylength, 1) := by decide +kernel
theorem d_St_length_5 : decode b_St_length 5 = .ok (.aload_n 0, 1) := by decide +kernel
theorem d_St_length_6 : decode b_St_length 6 = .ok (.invokevirtual 335, 3) := by decide +kernel
theorem d_St_length_9 : decode b_St_length 9 = .ok (.ishr, 1) := by decide +kernel
theorem d_St_length_10 : decode b_St_length 10 = .ok (.ireturn, 1) := by decide +kernel
theorem d_Pr_checkIndex_0 : decode b_Pr_checkIndex 0 = .ok (.iload_n 0, 1) := by decide +kernel
theorem d_Pr_checkIndex_1 : decode b_Pr_checkIndex 1 = .ok (.ifCond .lt 8, 3) := by decide +kernel
theorem d_Pr_checkIndex_4 : decode b_Pr_checkIndex 4 = .ok (.iload_n 0, 1) := by decide +kernel
theorem d_Pr_checkIndex_5 : decode b_Pr_checkIndex 5 = .ok (.iload_n 1, 1) := by decide +kernel
theorem d_Pr_checkIndex_6 : decode b_Pr_checkIndex 6 = .ok (.if_icmp .lt 10, 3) := by decide +kernel
theorem d_Pr_checkIndex_16 : decode b_Pr_checkIndex 16 = .ok (.iload_n 0, 1) := by decide +kernel
theorem d_Pr_checkIndex_17 : decode b_Pr_checkIndex 17 = .ok (.ireturn, 1) := by decide +kernel
theorem d_St_checkIndex_0 : decode b_St_checkIndex 0 = .ok (.iload_n 0, 1) := by decide +kernel
theorem d_St_checkIndex_1 : decode b_St_checkIndex 1 = .ok (.iload_n 1, 1) := by decide +kernel
theorem d_St_checkIndex_2 : decode b_St_checkIndex 2 = .ok (.getstatic 1053, 3) := by decide +kernel
theorem d_St_checkIndex_5 : decode b_St_checkIndex 5 = .ok (.invokestatic 1059, 3) := by decide +kernel
theorem d_St_checkIndex_8 : decode b_St_checkIndex 8 = .ok (.pop, 1) := by decide +kernel
theorem d_St_checkIndex_9 : decode b_St_checkIndex 9 = .ok (.return_, 1) := by decide +kernel
theorem d_S1_charAt_0 : decode b_S1_charAt 0 = .ok (.iload_n 1, 1) := by decide +kernel
theorem d_S1_charAt_1 : decode b_S1_charAt 1 = .ok (.aload_n 0, 1) := by decide +kernel
theorem d_S1_charAt_2 : decode b_S1_charAt 2 = .ok (.arraylength, 1) := by decide +kernel
theorem d_S1_charAt_3 : decode b_S1_charAt 3 = .ok (.invokestatic 9, 3) := by decide +kernel
theorem d_S1_charAt_6 : decode b_S1_charAt 6 = .ok (.aload_n 0, 1) := by decide +kernel
theorem d_S1_charAt_7 : decode b_S1_charAt 7 = .ok (.iload_n 1, 1) := by decide +kernel
theorem d_S1_charAt_8 : decode b_S1_charAt 8 = .ok (.baload, 1) := by decide +kernel
theorem d_S1_charAt_9 : decode b_S1_charAt 9 = .ok (.sipush 255, 3) := by decide +kernel
theorem d_S1_charAt_12 : decode b_S1_charAt 12 = .ok (.iand, 1) := by decide +kernel
theorem d_S1_charAt_13 : decode b_S1_charAt 13 = .ok (.i2c, 1) := by decide +kernel
theorem d_S1_charAt_14 : decode b_S1_charAt 14 = .ok (.ireturn, 1) := by decide +kernel
theorem d_St_charAt_0 : decode b_St_charAt 0 = .ok (.aload_n 0, 1) := by decide +kernel
theorem d_St_charAt_1 : decode b_St_charAt 1 = .ok (.invokevirtual 492, 3) := by decide +kernel
theorem d_St_charAt_4 : decode b_St_charAt 4 = .ok (.ifCond .eq 12, 3) := by decide +kernel
theorem d_St_charAt_7 : decode b_St_charAt 7 = .ok (.aload_n 0, 1) := by decide +kernel
theorem d_St_charAt_8 : decode b_St_charAt 8 = .ok (.getfield 9, 3) := by decide +kernel
theorem d_St_charAt_11 : decode b_St_charAt 11 = .ok (.iload_n 1, 1) := by decide +kernel
theorem d_St_charAt_12 : decode b_St_charAt 12 = .ok (.invokestatic 495, 3) := by decide +kernel
theorem d_St_charAt_15 : decode b_St_charAt 15 = .ok (.ireturn, 1) := by decide +kernel
theorem d_Ar_fill_0 : decode b_Ar_fill 0 = .ok (.iconst 0, 1) := by decide +kernel
theorem d_Ar_fill_1 : decode b_Ar_fill 1 = .ok (.istore_n 2, 1) := by decide +kernel
theorem d_Ar_fill_2 : decode b_Ar_fill 2 = .ok (.aload_n 0, 1) := by decide +kernel
theorem d_Ar_fill_3 : decode b_Ar_fill 3 = .ok (.arraylength, 1) := by decide +kernel
theorem d_Ar_fill_4 : decode b_Ar_fill 4 = .ok (.istore_n 3, 1) := by decide +kernel
theorem d_Ar_fill_5 : decode b_Ar_fill 5 = .ok (.iload_n 2, 1) := by decide +kernel
theorem d_Ar_fill_6 : decode b_Ar_fill 6 = .ok (.iload_n 3, 1) := by decide +kernel
theorem d_Ar_fill_7 : decode b_Ar_fill 7 = .ok (.if_icmp .ge 13, 3) := by decide +kernel
theorem d_Ar_fill_20 : decode b_Ar_fill 20 = .ok (.return_, 1) := by decide +kernel
theorem d_Ar_fill_10 : decode b_Ar_fill 10 = .ok (.aload_n 0, 1) := by decide +kernel
theorem d_Ar_fill_11 : decode b_Ar_fill 11 = .ok (.iload_n 2, 1) := by decide +kernel
theorem d_Ar_fill_12 : decode b_Ar_fill 12 = .ok (.iload_n 1, 1) := by decide +kernel
theorem d_Ar_fill_13 : decode b_Ar_fill 13 = .ok (.bastore, 1) := by decide +kernel
theorem d_Ar_fill_14 : decode b_Ar_fill 14 = .ok (.iinc 2 1, 3) := by decide +kernel
theorem d_Ar_fill_17 : decode b_Ar_fill 17 = .ok (.goto (-12), 3) := by decide +kernel
set_option maxHeartbeats 4000000 in
set_option maxRecDepth 100000 in
theorem c_St_coder (l : Launch) (D : va_G) (t : Nat → ClassId) (G : hG) (ak av : Nat → Nat) (h : hM) (i : Nat) (hi : i < 3) : Met l y_St_coder (.code y_St_coder b_St_coder 1 (some .byte) :: lw_g) { frames := 0, cells := 0, slots := 0, locals := 0 } (hP (kE D t G ak av) D vwCl G h [.ref (ak i)]) (hQi D vwCl G (fun r h' => r = 0 ∧ h = h')) 0 0 nof := by
  refine Met.ofW (cc := b_St_coder) (maxL := 1) (ret := (some .byte)) (by decide) rfl ?_
  intro p e s m args below meth c s₁ Bd hml hv
  obtain ⟨ha, hE, hH⟩ := hv
  have hx := Bd.exec
  have hb := Bd.bytes
  have hr := Bd.returns
  have hts : ∀ w ∈ lw_g, w.before args s = true := fun w hw => atoms_spec (ws := (.code y_St_coder b_St_coder 1 (some .byte) :: lw_g)) Bd.pre w (List.mem_cons_of_mem _ hw)
  have hown : s.vm.findClass R_St = some m.cls := findClass_of_methodNamed Bd.named
  have hlocks := Bd.notSynchronized
  have hK := hE.1
  have hH0 := hH
  have hLo : hLc nof [] := hLc_nil
  have hz : s.heap.size ≤ s.heap.size := Nat.le_refl _
  have hkp : kp [] h h := kp_rf
  have hl := lv_entry [.ref (ak i)] (n := 1) (Nat.le_of_ble_eq_true rfl)
  rw [show entryFrame m args 1 = F0 m 0 ((lg_sl [.ref (ak i)] ++ List.replicate (1 - (lg_sl [.ref (ak i)]).length) Slot.unset).toArray) [] from (by rw [ha]; exact lg_entry_eq m [.ref (ak i)] 1)]
  generalize (lg_sl [.ref (ak i)] ++ List.replicate (1 - (lg_sl [.ref (ak i)]).length) Slot.unset).toArray = ls at hl ⊢
  have hl : lv_has ls 1 [(0, .ref (ak i))] := hl
  have hZ := K9 hE.2.2.2.2 hH0
  have hS := S9 hH0 hH hz (hLc_nof hLo)
  have hC := C9 hE.2.2.2.2 hH0
  have hS := S9 hH0 hH hz (hLc_nof hLo)
  refine va_gets (v := .int 1) hx hb hC hS hown (hts _ mw_0) (fun _ h9 => h9) d_St_coder_0 ?_
  refine lv_if_eq (tgt := 13) hx hb d_St_coder_3 (by decide) (fun hc1 => absurd hc1 (by decide)) (fun hc1 => ?_)
  refine lv_aload_n hx hb d_St_coder_6 rfl (lv_at hl 0 rfl) ?_
  have hS := S9 hH0 hH hz (hLc_nof hLo)
  refine vk_getf (v := .int 0) hx hb (hZ.1 i hi).2.1 hS hown (hts _ mw_1) (fun _ h9 => h9) d_St_coder_7 ?_
  refine lv_goto (tgt := 14) hx hb d_St_coder_10 (by decide) ?_
  exact W.zret (v := 0) hx hb hr (by decide) (fun t9 ht hW => ⟨0, h, rfl, ⟨rfl, rfl⟩, by rw [ht]; exact hH, by rw [ht]; exact hz⟩) hLo d_St_coder_14

set_option maxHeartbeats 4000000 in
set_option maxRecDepth 100000 in
theorem c_St_isLatin1 (l : Launch) (D : va_G) (t : Nat → ClassId) (G : hG) (ak av : Nat → Nat) (h : hM) (i : Nat) (hi : i < 3) : Met l y_St_isLatin1 (.code y_St_isLatin1 b_St_isLatin1 1 (some .boolean) :: lw_g) { frames := 0, cells := 0, slots := 0, locals := 0 } (hP (kE D t G ak av) D vwCl G h [.ref (ak i)]) (hQi D vwCl G (fun r h' => r = 1 ∧ h = h')) 0 0 nof := by
  refine Met.ofW (cc := b_St_isLatin1) (maxL := 1) (ret := (some .boolean)) (by decide) rfl ?_
  intro p e s m args below meth c s₁ Bd hml hv
  obtain ⟨ha, hE, hH⟩ := hv
  have hx := Bd.exec
  have hb := Bd.bytes
  have hr := Bd.returns
  have hts : ∀ w ∈ lw_g, w.before args s = true := fun w hw => atoms_spec (ws := (.code y_St_isLatin1 b_St_isLatin1 1 (some .boolean) :: lw_g)) Bd.pre w (List.mem_cons_of_mem _ hw)
  have hown : s.vm.findClass R_St = some m.cls := findClass_of_methodNamed Bd.named
  have hlocks := Bd.notSynchronized
  have hK := hE.1
  have hH0 := hH
  have hLo : hLc nof [] := hLc_nil
  have hz : s.heap.size ≤ s.heap.size := Nat.le_refl _
  have hkp : kp [] h h := kp_rf
  have hl := lv_entry [.ref (ak i)] (n := 1) (Nat.le_of_ble_eq_true rfl)
  rw [show entryFrame m args 1 = F0 m 0 ((lg_sl [.ref (ak i)] ++ List.replicate (1 - (lg_sl [.ref (ak i)]).length) Slot.unset).toArray) [] from (by rw [ha]; exact lg_entry_eq m [.ref (ak i)] 1)]
  generalize (lg_sl [.ref (ak i)] ++ List.replicate (1 - (lg_sl [.ref (ak i)]).length) Slot.unset).toArray = ls at hl ⊢
  have hl : lv_has ls 1 [(0, .ref (ak i))] := hl
  have hZ := K9 hE.2.2.2.2 hH0
  have hS := S9 hH0 hH hz (hLc_nof hLo)
  have hC := C9 hE.2.2.2.2 hH0
  have hS := S9 hH0 hH hz (hLc_nof hLo)
  refine va_gets (v := .int 1) hx hb hC hS hown (hts _ mw_0) (fun _ h9 => h9) d_St_isLatin1_0 ?_
  refine lv_if_eq (tgt := 17) hx hb d_St_isLatin1_3 (by decide) (fun hc1 => absurd hc1 (by decide)) (fun hc1 => ?_)
  refine lv_aload_n hx hb d_St_isLatin1_6 rfl (lv_at hl 0 rfl) ?_
  have hS := S9 hH0 hH hz (hLc_nof hLo)
  refine vk_getf (v := .int 0) hx hb (hZ.1 i hi).2.1 hS hown (hts _ mw_1) (fun _ h9 => h9) d_St_isLatin1_7 ?_
  refine lv_if_ne (tgt := 17) hx hb d_St_isLatin1_10 (by decide) (fun hc2 => absurd hc2 (by decide)) (fun hc2 => ?_)
  refine lv_iconst (v := 1) hx hb d_St_isLatin1_13 (by decide) ?_
  refine lv_goto (tgt := 18) hx hb d_St_isLatin1_14 (by decide) ?_
  exact W.zret (v := 1) hx hb hr (by decide) (fun t9 ht hW => ⟨1, h, rfl, ⟨rfl, rfl⟩, by rw [ht]; exact hH, by rw [ht]; exact hz⟩) hLo d_St_isLatin1_18

set_option maxHeartbeats 4000000 in
set_option maxRecDepth 100000 in
theorem c_St_length (l : Launch) (D : va_G) (t : Nat → ClassId) (G : hG) (ak av : Nat → Nat) (h : hM) (i : Nat) (hi : i < 3) : Met l y_St_length (.code y_St_length b_St_length 1 (some .int) :: lw_g) { frames := 1, cells := 0, slots := 0, locals := 20 } (hP (kE D t G ak av) D vwCl G h [.ref (ak i)]) (hQi D vwCl G (fun r h' => r = nI (sLen.getD i 0) ∧ h = h')) 0 0 nof := by
  refine Met.ofW (cc := b_St_length) (maxL := 1) (ret := (some .int)) (by decide) rfl ?_
  intro p e s m args below meth c s₁ Bd hml hv
  obtain ⟨ha, hE, hH⟩ := hv
  have hx := Bd.exec
  have hb := Bd.bytes
  have hr := Bd.returns
  have hts : ∀ w ∈ lw_g, w.before args s = true := fun w hw => atoms_spec (ws := (.code y_St_length b_St_length 1 (some .int) :: lw_g)) Bd.pre w (List.mem_cons_of_mem _ hw)
  have hown : s.vm.findClass R_St = some m.cls := findClass_of_methodNamed Bd.named
  have hlocks := Bd.notSynchronized
  have hK := hE.1
  have hH0 := hH
  have hLo : hLc nof [] := hLc_nil
  have hz : s.heap.size ≤ s.heap.size := Nat.le_refl _
  have hkp : kp [] h h := kp_rf
  have hl := lv_entry [.ref (ak i)] (n := 1) (Nat.le_of_ble_eq_true rfl)
  rw [show entryFrame m args 1 = F0 m 0 ((lg_sl [.ref (ak i)] ++ List.replicate (1 - (lg_sl [.ref (ak i)]).length) Slot.unset).toArray) [] from (by rw [ha]; exact lg_entry_eq m [.ref (ak i)] 1)]
  generalize (lg_sl [.ref (ak i)] ++ List.replicate (1 - (lg_sl [.ref (ak i)]).length) Slot.unset).toArray = ls at hl ⊢
  have hl : lv_has ls 1 [(0, .ref (ak i))] := hl
  have hZ := K9 hE.2.2.2.2 hH0
  have hS := S9 hH0 hH hz (hLc_nof hLo)
  refine lv_aload_n hx hb d_St_length_0 rfl (lv_at hl 0 rfl) ?_
  have hS := S9 hH0 hH hz (hLc_nof hLo)
  refine vk_getf (v := .ref (av i)) hx hb (hZ.1 i hi).2.2.1 hS hown (hts _ mw_2) (fun _ h9 => h9) d_St_length_1 ?_
  have hS := S9 hH0 hH hz (hLc_nof hLo)
  refine va_tlen (v := nI (sLen.getD i 0)) hx hb (hZ.1 i hi).2.2.2 hS rfl d_St_length_4 ?_
  refine lv_aload_n hx hb d_St_length_5 rfl (lv_at hl 0 rfl) ?_
  have hS := S9 hH0 hH hz (hLc_nof hLo)
  refine hm_callPi (va_runV (As := []) (b := ak i) (rest := [.int (nI (sLen.getD i 0))]) ⟨hx, hb, hml, hown, hts⟩ (c_St_coder l D t G ak av h i hi) ⟨cw9B 0 hts mw_3 mw_5 mw_4 rfl rfl (by decide +kernel) ⟨Nat.le_of_ble_eq_true rfl, Nat.le_of_ble_eq_true rfl⟩, hts _ mw_6, hts _ mw_7⟩ (hP_W kE_ok hE hH (vk_recv hZ hi hS)) rfl rfl hl.1 rfl (lv_room (Nat.le_of_ble_eq_true rfl)) d_St_length_6 ⟨Nat.le_of_ble_eq_true rfl, Nat.le_of_ble_eq_true rfl⟩) (fun r1 h2 H3 hp5  hH z4 => ?_)
  have hz : s.heap.size ≤ H3.size := Nat.le_trans hz z4
  obtain ⟨rfl, rfl⟩ := hp5
  refine lv_ishr hx hb d_St_length_9 ?_
  refine lv_topi (fun v6 e7 => ?_)
  obtain rfl : v6 = nI (sLen.getD i 0) := e7.trans (sb_shr0 _)
  exact W.iret (v := nI (sLen.getD i 0)) hx hb hr (fun t9 ht hW => ⟨nI (sLen.getD i 0), h, rfl, ⟨rfl, rfl⟩, by rw [ht]; exact hH, by rw [ht]; exact hz⟩) hLo d_St_length_10

set_option maxHeartbeats 4000000 in
set_option maxRecDepth 100000 in
theorem c_Pr_check_n (l : Launch) (D : va_G) (t : Nat → ClassId) (G : hG) (ak av : Nat → Nat) (h : hM) (a b2 : Nat) (hab : a < b2) (hb2 : b2 < 2 ^ 31) : Met l y_Pr_checkIndex (.code y_Pr_checkIndex b_Pr_checkIndex 3 (some .int) :: lw_g) { frames := 0, cells := 0, slots := 0, locals := 0 } (hP (kE D t G ak av) D vwCl G h [.int (nI a), .int (nI b2), .null]) (hQi D vwCl G (fun r h' => r = nI a ∧ h = h')) 0 0 nof := by
  refine Met.ofW (cc := b_Pr_checkIndex) (maxL := 3) (ret := (some .int)) (by decide) rfl ?_
  intro p e s m args below meth c s₁ Bd hml hv
  obtain ⟨ha, hE, hH⟩ := hv
  have hx := Bd.exec
  have hb := Bd.bytes
  have hr := Bd.returns
  have hts : ∀ w ∈ lw_g, w.before args s = true := fun w hw => atoms_spec (ws := (.code y_Pr_checkIndex b_Pr_checkIndex 3 (some .int) :: lw_g)) Bd.pre w (List.mem_cons_of_mem _ hw)
  have hown : s.vm.findClass R_Pr = some m.cls := findClass_of_methodNamed Bd.named
  have hlocks := Bd.notSynchronized
  have hK := hE.1
  have hH0 := hH
  have hLo : hLc nof [] := hLc_nil
  have hz : s.heap.size ≤ s.heap.size := Nat.le_refl _
  have hkp : kp [] h h := kp_rf
  have hl := lv_entry [.int (nI a), .int (nI b2), .null] (n := 3) (Nat.le_of_ble_eq_true rfl)
  rw [show entryFrame m args 3 = F0 m 0 ((lg_sl [.int (nI a), .int (nI b2), .null] ++ List.replicate (3 - (lg_sl [.int (nI a), .int (nI b2), .null]).length) Slot.unset).toArray) [] from (by rw [ha]; exact lg_entry_eq m [.int (nI a), .int (nI b2), .null] 3)]
  generalize (lg_sl [.int (nI a), .int (nI b2), .null] ++ List.replicate (3 - (lg_sl [.int (nI a), .int (nI b2), .null]).length) Slot.unset).toArray = ls at hl ⊢
  have hl : lv_has ls 3 [(0, .int (nI a)), (1, .int (nI b2)), (2, .null)] := hl
  refine lv_iload_n hx hb d_Pr_checkIndex_0 rfl (lv_at hl 0 rfl) ?_
  refine lv_if_lt (tgt := 9) hx hb d_Pr_checkIndex_1 (by decide) (fun hc1 => absurd hc1 (nI_pos (by omega))) (fun hc1 => ?_)
  refine lv_iload_n hx hb d_Pr_checkIndex_4 rfl (lv_at hl 0 rfl) ?_
  refine lv_iload_n hx hb d_Pr_checkIndex_5 rfl (lv_at hl 1 rfl) ?_
  refine lv_icmp_lt (tgt := 16) hx hb d_Pr_checkIndex_6 (by decide) (fun hc2 => ?_) (fun hc2 => absurd (nI_lt hab hb2) hc2)
  refine lv_iload_n hx hb d_Pr_checkIndex_16 rfl (lv_at hl 0 rfl) ?_
  exact W.iret (v := nI a) hx hb hr (fun t9 ht hW => ⟨nI a, h, rfl, ⟨rfl, rfl⟩, by rw [ht]; exact hH, by rw [ht]; exact hz⟩) hLo d_Pr_checkIndex_17

set_option maxHeartbeats 4000000 in
set_option maxRecDepth 100000 in
theorem c_Pr_check_r (l : Launch) (D : va_G) (t : Nat → ClassId) (G : hG) (ak av : Nat → Nat) (h : hM) (a b2 x : Nat) (hab : a < b2) (hb2 : b2 < 2 ^ 31) : Met l y_Pr_checkIndex (.code y_Pr_checkIndex b_Pr_checkIndex 3 (some .int) :: lw_g) { frames := 0, cells := 0, slots := 0, locals := 0 } (hP (kE D t G ak av) D vwCl G h [.int (nI a), .int (nI b2), .ref x]) (hQi D vwCl G (fun r h' => r = nI a ∧ h = h')) 0 0 nof := by
  refine Met.ofW (cc := b_Pr_checkIndex) (maxL := 3) (ret := (some .int)) (by decide) rfl ?_
  intro p e s m args below meth c s₁ Bd hml hv
  obtain ⟨ha, hE, hH⟩ := hv
  have hx := Bd.exec
  have hb := Bd.bytes
  have hr := Bd.returns
  have hts : ∀ w ∈ lw_g, w.before args s = true := fun w hw => atoms_spec (ws := (.code y_Pr_checkIndex b_Pr_checkIndex 3 (some .int) :: lw_g)) Bd.pre w (List.mem_cons_of_mem _ hw)
  have hown : s.vm.findClass R_Pr = some m.cls := findClass_of_methodNamed Bd.named
  have hlocks := Bd.notSynchronized
  have hK := hE.1
  have hH0 := hH
  have hLo : hLc nof [] := hLc_nil
  have hz : s.heap.size ≤ s.heap.size := Nat.le_refl _
  have hkp : kp [] h h := kp_rf
  have hl := lv_entry [.int (nI a), .int (nI b2), .ref x] (n := 3) (Nat.le_of_ble_eq_true rfl)
  rw [show entryFrame m args 3 = F0 m 0 ((lg_sl [.int (nI a), .int (nI b2), .ref x] ++ List.replicate (3 - (lg_sl [.int (nI a), .int (nI b2), .ref x]).length) Slot.unset).toArray) [] from (by rw [ha]; exact lg_entry_eq m [.int (nI a), .int (nI b2), .ref x] 3)]
  generalize (lg_sl [.int (nI a), .int (nI b2), .ref x] ++ List.replicate (3 - (lg_sl [.int (nI a), .int (nI b2), .ref x]).length) Slot.unset).toArray = ls at hl ⊢
  have hl : lv_has ls 3 [(0, .int (nI a)), (1, .int (nI b2)), (2, .ref x)] := hl
  refine lv_iload_n hx hb d_Pr_checkIndex_0 rfl (lv_at hl 0 rfl) ?_
  refine lv_if_lt (tgt := 9) hx hb d_Pr_checkIndex_1 (by decide) (fun hc1 => absurd hc1 (nI_pos (by omega))) (fun hc1 => ?_)
  refine lv_iload_n hx hb d_Pr_checkIndex_4 rfl (lv_at hl 0 rfl) ?_
  refine lv_iload_n hx hb d_Pr_checkIndex_5 rfl (lv_at hl 1 rfl) ?_
  refine lv_icmp_lt (tgt := 16) hx hb d_Pr_checkIndex_6 (by decide) (fun hc2 => ?_) (fun hc2 => absurd (nI_lt hab hb2) hc2)
  refine lv_iload_n hx hb d_Pr_checkIndex_16 rfl (lv_at hl 0 rfl) ?_
  exact W.iret (v := nI a) hx hb hr (fun t9 ht hW => ⟨nI a, h, rfl, ⟨rfl, rfl⟩, by rw [ht]; exact hH, by rw [ht]; exact hz⟩) hLo d_Pr_checkIndex_17

set_option maxHeartbeats 4000000 in
set_option maxRecDepth 100000 in
theorem c_St_checkIndex (l : Launch) (D : va_G) (t : Nat → ClassId) (G : hG) (ak av : Nat → Nat) (h : hM) (a b2 : Nat) (hab : a < b2) (hb2 : b2 < 2 ^ 31) : Met l y_St_checkIndex (.code y_St_checkIndex b_St_checkIndex 2 none :: lw_g) { frames := 1, cells := 0, slots := 0, locals := 22 } (hP (kE D t G ak av) D vwCl G h [.int (nI a), .int (nI b2)]) (hQv D vwCl G (fun h' => h = h')) 0 0 nof := by
  refine Met.ofW (cc := b_St_checkIndex) (maxL := 2) (ret := none) (by decide) rfl ?_
  intro p e s m args below meth c s₁ Bd hml hv
  obtain ⟨ha, hE, hH⟩ := hv
  have hx := Bd.exec
  have hb := Bd.bytes
  have hr := Bd.returns
  have hts : ∀ w ∈ lw_g, w.before args s = true := fun w hw => atoms_spec (ws := (.code y_St_checkIndex b_St_checkIndex 2 none :: lw_g)) Bd.pre w (List.mem_cons_of_mem _ hw)
  have hown : s.vm.findClass R_St = some m.cls := findClass_of_methodNamed Bd.named
  have hlocks := Bd.notSynchronized
  have hK := hE.1
  have hH0 := hH
  have hLo : hLc nof [] := hLc_nil
  have hz : s.heap.size ≤ s.heap.size := Nat.le_refl _
  have hkp : kp [] h h := kp_rf
  have hl := lv_entry [.int (nI a), .int (nI b2)] (n := 2) (Nat.le_of_ble_eq_true rfl)
  rw [show entryFrame m args 2 = F0 m 0 ((lg_sl [.int (nI a), .int (nI b2)] ++ List.replicate (2 - (lg_sl [.int (nI a), .int (nI b2)]).length) Slot.unset).toArray) [] from (by rw [ha]; exact lg_entry_eq m [.int (nI a), .int (nI b2)] 2)]
  generalize (lg_sl [.int (nI a), .int (nI b2)] ++ List.replicate (2 - (lg_sl [.int (nI a), .int (nI b2)]).length) Slot.unset).toArray = ls at hl ⊢
  have hl : lv_has ls 2 [(0, .int (nI a)), (1, .int (nI b2))] := hl
  have hS := S9 hH0 hH hz (hLc_nof hLo)
  refine lv_iload_n hx hb d_St_checkIndex_0 rfl (lv_at hl 0 rfl) ?_
  refine lv_iload_n hx hb d_St_checkIndex_1 rfl (lv_at hl 1 rfl) ?_
  rcases Q9 hE.2.2.2.2 hH0 with hC | ⟨x, hC⟩
  · skip
    have hS := S9 hH0 hH hz (hLc_nof hLo)
    refine va_gets (v := .null) hx hb hC hS hown (hts _ mw_8) (fun _ h9 => h9) d_St_checkIndex_2 ?_
    refine hm_callPi (va_runS (As := [.int (nI a), .int (nI b2), .null]) (rest := []) ⟨hx, hb, hml, hown, hts⟩ (c_Pr_check_n l D t G ak av h a b2 hab hb2) ⟨cw9B 3 hts mw_9 mw_11 mw_10 rfl rfl (by decide +kernel) ⟨Nat.le_of_ble_eq_true rfl, Nat.le_of_ble_eq_true rfl⟩, hts _ mw_12⟩ (hP_S kE_ok hE hH) rfl rfl hl.1 rfl (lv_room (Nat.le_of_ble_eq_true rfl)) d_St_checkIndex_5 ⟨Nat.le_of_ble_eq_true rfl, Nat.le_of_ble_eq_true rfl⟩) (fun r1 h2 H3 hp5  hH z4 => ?_)
    have hz : s.heap.size ≤ H3.size := Nat.le_trans hz z4
    obtain ⟨rfl, rfl⟩ := hp5
    refine lv_pop hx hb d_St_checkIndex_8 rfl ?_
    exact W.vret hx hb hr (fun t9 ht hW => ⟨h, rfl, rfl, by rw [ht]; exact hH, by rw [ht]; exact hz⟩) hLo d_St_checkIndex_9
  · skip
    have hS := S9 hH0 hH hz (hLc_nof hLo)
    refine va_gets (v := .ref x) hx hb hC hS hown (hts _ mw_8) (fun _ h9 => h9) d_St_checkIndex_2 ?_
    refine hm_callPi (va_runS (As := [.int (nI a), .int (nI b2), .ref x]) (rest := []) ⟨hx, hb, hml, hown, hts⟩ (c_Pr_check_r l D t G ak av h a b2 x hab hb2) ⟨cw9B 3 hts mw_9 mw_11 mw_10 rfl rfl (by decide +kernel) ⟨Nat.le_of_ble_eq_true rfl, Nat.le_of_ble_eq_true rfl⟩, hts _ mw_12⟩ (hP_S kE_ok hE hH) rfl rfl hl.1 rfl (lv_room (Nat.le_of_ble_eq_true rfl)) d_St_checkIndex_5 ⟨Nat.le_of_ble_eq_true rfl, Nat.le_of_ble_eq_true rfl⟩) (fun r6 h7 H8 hp10  hH z9 => ?_)
    have hz : s.heap.size ≤ H8.size := Nat.le_trans hz z9
    obtain ⟨rfl, rfl⟩ := hp10
    refine lv_pop hx hb d_St_checkIndex_8 rfl ?_
    exact W.vret hx hb hr (fun t9 ht hW => ⟨h, rfl, rfl, by rw [ht]; exact hH, by rw [ht]; exact hz⟩) hLo d_St_checkIndex_9

set_option maxHeartbeats 4000000 in
set_option maxRecDepth 100000 in
theorem c_S1_charAt (l : Launch) (D : va_G) (t : Nat → ClassId) (G : hG) (ak av : Nat → Nat) (h : hM) (i k : Nat) (hi : i < 3) (hk : k < sLen.getD i 0) : Met l y_S1_charAt (.code y_S1_charAt b_S1_charAt 2 (some .char) :: lw_g) { frames := 2, cells := 0, slots := 0, locals := 43 } (hP (kE D t G ak av) D vwCl G h [.ref (av i), .int (nI k)]) (hQi D vwCl G (fun r h' => narrow .char (.int r) = .int r ∧ h = h')) 0 0 nof := by
  refine Met.ofW (cc := b_S1_charAt) (maxL := 2) (ret := (some .char)) (by decide) rfl ?_
  intro p e s m args below meth c s₁ Bd hml hv
  obtain ⟨ha, hE, hH⟩ := hv
  have hx := Bd.exec
  have hb := Bd.bytes
  have hr := Bd.returns
  have hts : ∀ w ∈ lw_g, w.before args s = true := fun w hw => atoms_spec (ws := (.code y_S1_charAt b_S1_charAt 2 (some .char) :: lw_g)) Bd.pre w (List.mem_cons_of_mem _ hw)
  have hown : s.vm.findClass R_S1 = some m.cls := findClass_of_methodNamed Bd.named
  have hlocks := Bd.notSynchronized
  have hK := hE.1
  have hH0 := hH
  have hLo : hLc nof [] := hLc_nil
  have hz : s.heap.size ≤ s.heap.size := Nat.le_refl _
  have hkp : kp [] h h := kp_rf
  have hl := lv_entry [.ref (av i), .int (nI k)] (n := 2) (Nat.le_of_ble_eq_true rfl)
  rw [show entryFrame m args 2 = F0 m 0 ((lg_sl [.ref (av i), .int (nI k)] ++ List.replicate (2 - (lg_sl [.ref (av i), .int (nI k)]).length) Slot.unset).toArray) [] from (by rw [ha]; exact lg_entry_eq m [.ref (av i), .int (nI k)] 2)]
  generalize (lg_sl [.ref (av i), .int (nI k)] ++ List.replicate (2 - (lg_sl [.ref (av i), .int (nI k)]).length) Slot.unset).toArray = ls at hl ⊢
  have hl : lv_has ls 2 [(0, .ref (av i)), (1, .int (nI k))] := hl
  have hZ := K9 hE.2.2.2.2 hH0
  have hS := S9 hH0 hH hz (hLc_nof hLo)
  refine lv_iload_n hx hb d_S1_charAt_0 rfl (lv_at hl 1 rfl) ?_
  refine lv_aload_n hx hb d_S1_charAt_1 rfl (lv_at hl 0 rfl) ?_
  have hS := S9 hH0 hH hz (hLc_nof hLo)
  refine va_tlen (v := nI (sLen.getD i 0)) hx hb (hZ.1 i hi).2.2.2 hS rfl d_S1_charAt_2 ?_
  refine hm_callPv (va_runS (As := [.int (nI k), .int (nI (sLen.getD i 0))]) (rest := []) ⟨hx, hb, hml, hown, hts⟩ (c_St_checkIndex l D t G ak av h k (sLen.getD i 0) hk (sl_lt hi)) ⟨cw9B 2 hts mw_13 mw_14 mw_4 rfl rfl (by decide +kernel) ⟨Nat.le_of_ble_eq_true rfl, Nat.le_of_ble_eq_true rfl⟩, hts _ mw_15⟩ (hP_S kE_ok hE hH) rfl rfl hl.1 rfl (lv_room (Nat.le_of_ble_eq_true rfl)) d_S1_charAt_3 ⟨Nat.le_of_ble_eq_true rfl, Nat.le_of_ble_eq_true rfl⟩) (fun h1 H2 hp4  hH z3 => ?_)
  have hz : s.heap.size ≤ H2.size := Nat.le_trans hz z3
  obtain rfl := hp4
  refine lv_aload_n hx hb d_S1_charAt_6 rfl (lv_at hl 0 rfl) ?_
  refine lv_iload_n hx hb d_S1_charAt_7 rfl (lv_at hl 1 rfl) ?_
  have hS := S9 hH0 hH hz (hLc_nof hLo)
  refine va_tb (v := .int ((sByt.getD i []).getD k 0)) hx hb (hZ.1 i hi).2.2.2 hS (vp_in_nI hk (sl_lt hi)) (by rw [nI_clamp (Nat.lt_trans hk (sl_lt hi))]) d_S1_charAt_8 ?_
  refine lv_sipush (v := 255) hx hb d_S1_charAt_9 (by decide) ?_
  refine lv_iand hx hb d_S1_charAt_12 ?_
  refine lv_i2c (v := ((((sByt.getD i []).getD k 0) &&& 255).toUInt32 % 65536).toInt32) hx hb d_S1_charAt_13 rfl ?_
  exact W.zret (v := ((((sByt.getD i []).getD k 0) &&& 255).toUInt32 % 65536).toInt32) hx hb hr (pk_nc _) (fun t9 ht hW => ⟨((((sByt.getD i []).getD k 0) &&& 255).toUInt32 % 65536).toInt32, h, rfl, ⟨pk_nc _, rfl⟩, by rw [ht]; exact hH, by rw [ht]; exact hz⟩) hLo d_S1_charAt_14

set_option maxHeartbeats 4000000 in
set_option maxRecDepth 100000 in
theorem c_St_charAt (l : Launch) (D : va_G) (t : Nat → ClassId) (G : hG) (ak av : Nat → Nat) (h : hM) (i k : Nat) (hi : i < 3) (hk : k < sLen.getD i 0) : Met l y_St_charAt (.code y_St_charAt b_St_charAt 2 (some .char) :: lw_g) { frames := 3, cells := 0, slots := 0, locals := 64 } (hP (kE D t G ak av) D vwCl G h [.ref (ak i), .int (nI k)]) (hQi D vwCl G (fun r h' => narrow .char (.int r) = .int r ∧ h = h')) 0 0 nof := by
  refine Met.ofW (cc := b_St_charAt) (maxL := 2) (ret := (some .char)) (by decide) rfl ?_
  intro p e s m args below meth c s₁ Bd hml hv
  obtain ⟨ha, hE, hH⟩ := hv
  have hx := Bd.exec
  have hb := Bd.bytes
  have hr := Bd.returns
  have hts : ∀ w ∈ lw_g, w.before args s = true := fun w hw => atoms_spec (ws := (.code y_St_charAt b_St_charAt 2 (some .char) :: lw_g)) Bd.pre w (List.mem_cons_of_mem _ hw)
  have hown : s.vm.findClass R_St = some m.cls := findClass_of_methodNamed Bd.named
  have hlocks := Bd.notSynchronized
  have hK := hE.1
  have hH0 := hH
  have hLo : hLc nof [] := hLc_nil
  have hz : s.heap.size ≤ s.heap.size := Nat.le_refl _
  have hkp : kp [] h h := kp_rf
  have hl := lv_entry [.ref (ak i), .int (nI k)] (n := 2) (Nat.le_of_ble_eq_true rfl)
  rw [show entryFrame m args 2 = F0 m 0 ((lg_sl [.ref (ak i), .int (nI k)] ++ List.replicate (2 - (lg_sl [.ref (ak i), .int (nI k)]).length) Slot.unset).toArray) [] from (by rw [ha]; exact lg_entry_eq m [.ref (ak i), .int (nI k)] 2)]
  generalize (lg_sl [.ref (ak i), .int (nI k)] ++ List.replicate (2 - (lg_sl [.ref (ak i), .int (nI k)]).length) Slot.unset).toArray = ls at hl ⊢
  have hl : lv_has ls 2 [(0, .ref (ak i)), (1, .int (nI k))] := hl
  have hZ := K9 hE.2.2.2.2 hH0
  have hS := S9 hH0 hH hz (hLc_nof hLo)
  refine lv_aload_n hx hb d_St_charAt_0 rfl (lv_at hl 0 rfl) ?_
  have hS := S9 hH0 hH hz (hLc_nof hLo)
  refine hm_callPi (va_runV (As := []) (b := ak i) (rest := []) ⟨hx, hb, hml, hown, hts⟩ (c_St_isLatin1 l D t G ak av h i hi) ⟨cw9B 0 hts mw_16 mw_17 mw_4 rfl rfl (by decide +kernel) ⟨Nat.le_of_ble_eq_true rfl, Nat.le_of_ble_eq_true rfl⟩, hts _ mw_18, hts _ mw_19⟩ (hP_W kE_ok hE hH (vk_recv hZ hi hS)) rfl rfl hl.1 rfl (lv_room (Nat.le_of_ble_eq_true rfl)) d_St_charAt_1 ⟨Nat.le_of_ble_eq_true rfl, Nat.le_of_ble_eq_true rfl⟩) (fun r1 h2 H3 hp5  hH z4 => ?_)
  have hz : s.heap.size ≤ H3.size := Nat.le_trans hz z4
  obtain ⟨rfl, rfl⟩ := hp5
  refine lv_if_eq (tgt := 16) hx hb d_St_charAt_4 (by decide) (fun hc6 => absurd hc6 (by decide)) (fun hc6 => ?_)
  refine lv_aload_n hx hb d_St_charAt_7 rfl (lv_at hl 0 rfl) ?_
  have hS := S9 hH0 hH hz (hLc_nof hLo)
  refine vk_getf (v := .ref (av i)) hx hb (hZ.1 i hi).2.2.1 hS hown (hts _ mw_2) (fun _ h9 => h9) d_St_charAt_8 ?_
  refine lv_iload_n hx hb d_St_charAt_11 rfl (lv_at hl 1 rfl) ?_
  refine hm_callPi (va_runS (As := [.ref (av i), .int (nI k)]) (rest := []) ⟨hx, hb, hml, hown, hts⟩ (c_S1_charAt l D t G ak av h i k hi hk) ⟨cw9B 2 hts mw_20 mw_22 mw_21 rfl rfl (by decide +kernel) ⟨Nat.le_of_ble_eq_true rfl, Nat.le_of_ble_eq_true rfl⟩, hts _ mw_23⟩ (hP_S kE_ok hE hH) rfl rfl hl.1 rfl (lv_room (Nat.le_of_ble_eq_true rfl)) d_St_charAt_12 ⟨Nat.le_of_ble_eq_true rfl, Nat.le_of_ble_eq_true rfl⟩) (fun r7 h8 H9 hp11  hH z10 => ?_)
  have hz : s.heap.size ≤ H9.size := Nat.le_trans hz z10
  obtain ⟨hn9, rfl⟩ := hp11
  exact W.zret (v := r7) hx hb hr hn9 (fun t9 ht hW => ⟨r7, h, rfl, ⟨hn9, rfl⟩, by rw [ht]; exact hH, by rw [ht]; exact hz⟩) hLo d_St_charAt_15

set_option maxHeartbeats 4000000 in
set_option maxRecDepth 100000 in
theorem c_Ar_fill (l : Launch) (D : va_G) (t : Nat → ClassId) (G : hG) (ak av : Nat → Nat) (h : hM) (pb n : Nat) (hpb : pgF t h pb n) (hn : n < 2 ^ 31) : Met l y_Ar_fill (.code y_Ar_fill b_Ar_fill 4 none :: lw_g) { frames := 0, cells := 0, slots := 0, locals := 0 } (hP (kE D t G ak av) D vwCl G h [.ref pb, .int 0]) (hQv D vwCl G (fun h' => kp [pb] h h' ∧ pgF t h' pb n)) 0 0 G.P := by
  refine Met.ofW (cc := b_Ar_fill) (maxL := 4) (ret := none) (by decide) rfl ?_
  intro p e s m args below meth c s₁ Bd hml hv
  obtain ⟨ha, hE, hH⟩ := hv
  have hx := Bd.exec
  have hb := Bd.bytes
  have hr := Bd.returns
  have hts : ∀ w ∈ lw_g, w.before args s = true := fun w hw => atoms_spec (ws := (.code y_Ar_fill b_Ar_fill 4 none :: lw_g)) Bd.pre w (List.mem_cons_of_mem _ hw)
  have hown : s.vm.findClass R_Ar = some m.cls := findClass_of_methodNamed Bd.named
  have hlocks := Bd.notSynchronized
  have hK := hE.1
  have hH0 := hH
  have hLo : hLc G.P [] := hLc_nil
  have hz : s.heap.size ≤ s.heap.size := Nat.le_refl _
  have hkp : kp [pb] h h := kp_rf
  have hl := lv_entry [.ref pb, .int 0] (n := 4) (Nat.le_of_ble_eq_true rfl)
  rw [show entryFrame m args 4 = F0 m 0 ((lg_sl [.ref pb, .int 0] ++ List.replicate (4 - (lg_sl [.ref pb, .int 0]).length) Slot.unset).toArray) [] from (by rw [ha]; exact lg_entry_eq m [.ref pb, .int 0] 4)]
  generalize (lg_sl [.ref pb, .int 0] ++ List.replicate (4 - (lg_sl [.ref pb, .int 0]).length) Slot.unset).toArray = ls at hl ⊢
  have hl : lv_has ls 4 [(0, .ref pb), (1, .int 0)] := hl
  obtain ⟨f, hfit, f_pb⟩ := hpb
  refine lv_iconst (v := 0) hx hb d_Ar_fill_0 (by decide) ?_
  refine lv_topi (fun v1 e2 => ?_)
  obtain rfl : v1 = nI 0 := e2.trans (nI_0.symm)
  refine lv_istore_n (lv' := [(2, .int (nI 0)), (0, .ref pb), (1, .int 0)]) hx hb d_Ar_fill_1 rfl hl (by decide) rfl (fun ls hl => ?_)
  refine lv_aload_n hx hb d_Ar_fill_2 rfl (lv_at hl 1 rfl) ?_
  refine hm_alen (v := nI n) hx hb hK hH 0 f_pb (ty := .byte) rfl rfl d_Ar_fill_3 ?_
  refine lv_istore_n (lv' := [(3, .int (nI n)), (2, .int (nI 0)), (0, .ref pb), (1, .int 0)]) hx hb d_Ar_fill_4 rfl hl (by decide) rfl (fun ls hl => ?_)
  refine hm_loop (fun k ls H locs hh => ∃ (j : Nat), k = n - j ∧ lv_has ls 4 [(2, .int (nI j)), (0, .ref pb), (1, .int 0), (3, .int (nI n))] ∧ hm D vwCl G hh H ∧ s.heap.size ≤ H.size ∧ hLc G.P locs ∧ kp [pb] h hh ∧ (pgF t hh pb n) ∧ (j ≤ n)) ?_ (hh := h) ⟨0, rfl, (lv_sub hl [1, 2, 3, 0] rfl), hH, hz, hLo, hkp, ⟨f, hfit, f_pb⟩, by omega⟩
  rintro k ls H locs hh ⟨j, hk, hl, hH, hz, hLo, hkp, hpb, hj⟩ ih
  obtain ⟨f, hfit, f_pb⟩ := hpb
  refine lv_iload_n hx hb d_Ar_fill_5 rfl (lv_at hl 0 rfl) ?_
  refine lv_iload_n hx hb d_Ar_fill_6 rfl (lv_at hl 3 rfl) ?_
  refine lv_icmp_ge (tgt := 20) hx hb d_Ar_fill_7 (by decide) (fun hc3 => ?_) (fun hc3 => ?_)
  · skip
    exact W.vret hx hb hr (fun t9 ht hW => ⟨hh, rfl, ⟨hkp, f, hfit, f_pb⟩, by rw [ht]; exact hH, by rw [ht]; exact hz⟩) hLo d_Ar_fill_20
  · skip
    have hin : j < n := by
      have h8 := mt (nI_leI hn (by omega)).mpr hc3
      omega
    refine lv_aload_n hx hb d_Ar_fill_10 rfl (lv_at hl 1 rfl) ?_
    refine lv_iload_n hx hb d_Ar_fill_11 rfl (lv_at hl 0 rfl) ?_
    refine lv_iload_n hx hb d_Ar_fill_12 rfl (lv_at hl 2 rfl) ?_
    refine hj_bast hx hb hK hH hLo 0 f_pb rfl j rfl hin hn d_Ar_fill_13 (fun H4 locs hH z5 hLo => ?_)
    have hz : s.heap.size ≤ H4.size := by rw [z5]; exact hz
    obtain ⟨h6, e7⟩ : ∃ z, z = hu hh pb (.inl ((t 0), n, .inl (upd f j (vp_nar .byte 0)))) := ⟨_, rfl⟩
    have hH : hm D vwCl G h6 H4 := by rw [e7]; exact hH
    have f_pb : h6 pb = some (.inl ((t 0), n, .inl (upd f j (vp_nar .byte 0)))) := by rw [e7]; exact hu_s _ _ _
    have hkp : kp [pb] h h6 := by rw [e7]; exact kp_put hkp (by simp)
    refine lv_iinc (v := nI (j + 1)) (lv' := [(2, .int (nI (j + 1))), (0, .ref pb), (1, .int 0), (3, .int (nI n))]) hx hb d_Ar_fill_14 hl (k := 0) rfl (nI_1 j) (by decide) rfl (fun ls hl => ?_)
    refine lv_goto (tgt := 5) hx hb d_Ar_fill_17 (by decide) ?_
    exact ih (n - (j + 1)) ls _ locs _ (by rw [hk]; omega) ⟨(j + 1), rfl, (lv_sub hl [0, 1, 2, 3] rfl), hH, hz, hLo, hkp, ⟨_, sb_fitU hfit (fitNar _), f_pb⟩, by omega⟩
