set_option maxRecDepth 100000 in
theorem mw_70 : Cond.fieldLink R_St 38 "java/lang/String" "COMPACT_STRINGS" "Z" ∈ lw_g := lw_gin (List.mem_append_right _ (List.mem_of_getElem? (i := 477) rfl)) (by decide +kernel)
set_option maxRecDepth 100000 in
theorem mw_71 : Cond.fieldLink R_St 15 "java/lang/String" "coder" "B" ∈ lw_g := lw_gin (List.mem_append_right _ (List.mem_of_getElem? (i := 1329) rfl)) (by decide +kernel)
set_option maxRecDepth 100000 in
theorem mw_72 : Cond.fieldLink R_St 9 "java/lang/String" "value" "[B" ∈ lw_g := lw_gin (List.mem_append_right _ (List.mem_of_getElem? (i := 1328) rfl)) (by decide +kernel)
set_option maxRecDepth 100000 in
theorem mw_73 : Cond.code y_St_coder b_St_coder 1 (some .byte) ∈ lw_g := lw_gin (List.mem_append_right _ (List.mem_of_getElem? (i := 476) rfl)) (by decide +kernel)
set_option maxRecDepth 100000 in
theorem mw_74 : Cond.initialized R_St ∈ lw_g := lw_gin (List.mem_append_right _ (List.mem_of_getElem? (i := 14) rfl)) (by decide +kernel)
set_option maxRecDepth 100000 in
theorem mw_75 : Cond.methodLink R_St 335 y_St_coder ∈ lw_g := lw_gin (List.mem_append_right _ (List.mem_of_getElem? (i := 473) rfl)) (by decide +kernel)
set_option maxRecDepth 100000 in
theorem mw_76 : Cond.instanceMethod y_St_coder ∈ lw_g := lw_gin (List.mem_append_right _ (List.mem_of_getElem? (i := 474) rfl)) (by decide +kernel)
set_option maxRecDepth 100000 in
theorem mw_77 : Cond.selects R_St y_St_coder y_St_coder ∈ lw_g := lw_gin (List.mem_append_right _ (List.mem_of_getElem? (i := 475) rfl)) (by decide +kernel)
set_option maxRecDepth 100000 in
theorem mw_78 : Cond.fieldLink R_St 1053 "jdk/internal/util/Preconditions" "SIOOBE_FORMATTER" "Ljava/util/function/BiFunction;" ∈ lw_g := lw_gin (List.mem_append_right _ (List.mem_of_getElem? (i := 497) rfl)) (by decide +kernel)
set_option maxRecDepth 100000 in
theorem mw_79 : Cond.code y_Pr_checkIndex b_Pr_checkIndex 3 (some .int) ∈ lw_g := lw_gin (List.mem_append_right _ (List.mem_of_getElem? (i := 501) rfl)) (by decide +kernel)
set_option maxRecDepth 100000 in
theorem mw_80 : Cond.initialized R_Pr ∈ lw_g := lw_gin (List.mem_append_right _ (List.mem_of_getElem? (i := 16) rfl)) (by decide +kernel)
set_option maxRecDepth 100000 in
theorem mw_81 : Cond.methodLink R_St 1059 y_Pr_checkIndex ∈ lw_g := lw_gin (List.mem_append_right _ (List.mem_of_getElem? (i := 499) rfl)) (by decide +kernel)
set_option maxRecDepth 100000 in
theorem mw_82 : Cond.static y_Pr_checkIndex ∈ lw_g := lw_gin (List.mem_append_right _ (List.mem_of_getElem? (i := 500) rfl)) (by decide +kernel)
set_option maxRecDepth 100000 in
theorem mw_83 : Cond.code y_St_checkIndex b_St_checkIndex 2 none ∈ lw_g := lw_gin (List.mem_append_right _ (List.mem_of_getElem? (i := 496) rfl)) (by decide +kernel)
set_option maxRecDepth 100000 in
theorem mw_84 : Cond.methodLink R_S1 9 y_St_checkIndex ∈ lw_g := lw_gin (List.mem_append_right _ (List.mem_of_getElem? (i := 494) rfl)) (by decide +kernel)
set_option maxRecDepth 100000 in
theorem mw_85 : Cond.static y_St_checkIndex ∈ lw_g := lw_gin (List.mem_append_right _ (List.mem_of_getElem? (i := 495) rfl)) (by decide +kernel)
set_option maxRecDepth 100000 in
theorem mw_86 : Cond.code y_St_isLatin1 b_St_isLatin1 1 (some .boolean) ∈ lw_g := lw_gin (List.mem_append_right _ (List.mem_of_getElem? (i := 490) rfl)) (by decide +kernel)
set_option maxRecDepth 100000 in
theorem mw_87 : Cond.methodLink R_St 492 y_St_isLatin1 ∈ lw_g := lw_gin (List.mem_append_right _ (List.mem_of_getElem? (i := 487) rfl)) (by decide +kernel)
set_option maxRecDepth 100000 in
theorem mw_88 : Cond.instanceMethod y_St_isLatin1 ∈ lw_g := lw_gin (List.mem_append_right _ (List.mem_of_getElem? (i := 488) rfl)) (by decide +kernel)
set_option maxRecDepth 100000 in
theorem mw_89 : Cond.selects R_St y_St_isLatin1 y_St_isLatin1 ∈ lw_g := lw_gin (List.mem_append_right _ (List.mem_of_getElem? (i := 489) rfl)) (by decide +kernel)
set_option maxRecDepth 100000 in
theorem mw_90 : Cond.code y_S1_charAt b_S1_charAt 2 (some .char) ∈ lw_g := lw_gin (List.mem_append_right _ (List.mem_of_getElem? (i := 493) rfl)) (by decide +kernel)
set_option maxRecDepth 100000 in
theorem mw_91 : Cond.initialized R_S1 ∈ lw_g := lw_gin (List.mem_append_right _ (List.mem_of_getElem? (i := 15) rfl)) (by decide +kernel)
set_option maxRecDepth 100000 in
theorem mw_92 : Cond.methodLink R_St 495 y_S1_charAt ∈ lw_g := lw_gin (List.mem_append_right _ (List.mem_of_getElem? (i := 491) rfl)) (by decide +kernel)
set_option maxRecDepth 100000 in
theorem mw_93 : Cond.static y_S1_charAt ∈ lw_g := lw_gin (List.mem_append_right _ (List.mem_of_getElem? (i := 492) rfl)) (by decide +kernel)
set_option maxRecDepth 100000 in
theorem mw_94 : Cond.code y_Ar_fill b_Ar_fill 4 none ∈ lw_g := lw_gin (List.mem_append_right _ (List.mem_of_getElem? (i := 406) rfl)) (by decide +kernel)
set_option maxRecDepth 100000 in
theorem mw_95 : Cond.initialized R_Ar ∈ lw_g := lw_gin (List.mem_append_right _ (List.mem_of_getElem? (i := 12) rfl)) (by decide +kernel)
set_option maxRecDepth 100000 in
theorem mw_96 : Cond.methodLink R_Pg 15 y_Ar_fill ∈ lw_g := lw_gin (List.mem_append_right _ (List.mem_of_getElem? (i := 404) rfl)) (by decide +kernel)
set_option maxRecDepth 100000 in
theorem mw_97 : Cond.static y_Ar_fill ∈ lw_g := lw_gin (List.mem_append_right _ (List.mem_of_getElem? (i := 405) rfl)) (by decide +kernel)
set_option maxRecDepth 100000 in
theorem mw_98 : Cond.code y_St_length b_St_length 1 (some .int) ∈ lw_g := lw_gin (List.mem_append_right _ (List.mem_of_getElem? (i := 472) rfl)) (by decide +kernel)
set_option maxRecDepth 100000 in
theorem mw_99 : Cond.methodLink R_Pg 21 y_St_length ∈ lw_g := lw_gin (List.mem_append_right _ (List.mem_of_getElem? (i := 567) rfl)) (by decide +kernel)
set_option maxRecDepth 100000 in
theorem mw_100 : Cond.instanceMethod y_St_length ∈ lw_g := lw_gin (List.mem_append_right _ (List.mem_of_getElem? (i := 470) rfl)) (by decide +kernel)
set_option maxRecDepth 100000 in
theorem mw_101 : Cond.selects R_St y_St_length y_St_length ∈ lw_g := lw_gin (List.mem_append_right _ (List.mem_of_getElem? (i := 471) rfl)) (by decide +kernel)
set_option maxRecDepth 100000 in
theorem mw_102 : Cond.code y_St_charAt b_St_charAt 2 (some .char) ∈ lw_g := lw_gin (List.mem_append_right _ (List.mem_of_getElem? (i := 486) rfl)) (by decide +kernel)
set_option maxRecDepth 100000 in
theorem mw_103 : Cond.methodLink R_Pg 27 y_St_charAt ∈ lw_g := lw_gin (List.mem_append_right _ (List.mem_of_getElem? (i := 568) rfl)) (by decide +kernel)
set_option maxRecDepth 100000 in
theorem mw_104 : Cond.instanceMethod y_St_charAt ∈ lw_g := lw_gin (List.mem_append_right _ (List.mem_of_getElem? (i := 484) rfl)) (by decide +kernel)
set_option maxRecDepth 100000 in
theorem mw_105 : Cond.selects R_St y_St_charAt y_St_charAt ∈ lw_g := lw_gin (List.mem_append_right _ (List.mem_of_getElem? (i := 485) rfl)) (by decide +kernel)
theorem d_St_coder_0 : decode b_St_coder 0 = .ok (.getstatic 38, 3) := by decide +kernel
theorem d_St_coder_3 : decode b_St_coder 3 = .ok (.ifCond .eq 10, 3) := by decide +kernel
theorem d_St_coder_6 : decode b_St_coder 6 = .ok (.aload_n 0, 1) := by decide +kernel
theorem d_St_coder_7 : decode b_St_coder 7 = .ok (.getfield 15, 3) := by decide +kernel
theorem d_St_coder_10 : decode b_St_coder 10 = .ok (.goto 4, 3) := by decide +kernel
theorem d_St_coder_14 : decode b_St_coder 14 = .ok (.ireturn, 1) := by decide +kernel
theorem d_St_isLatin1_0 : decode b_St_isLatin1 0 = .ok (.getstatic 38, 3) := by decide +kernel
theorem d_St_isLatin1_3 : decode b_St_isLatin1 3 = .ok (.ifCond .eq 14, 3) := by decide +kernel
theorem d_St_isLatin1_6 : decode b_St_isLatin1 6 = .ok (.aload_n 0, 1) := by decide +kernel
theorem d_St_isLatin1_7 : decode b_St_isLatin1 7 = .ok (.getfield 15, 3) := by decide +kernel
theorem d_St_isLatin1_10 : decode b_St_isLatin1 10 = .ok (.ifCond .ne 7, 3) := by decide +kernel
theorem d_St_isLatin1_13 : decode b_St_isLatin1 13 = .ok (.iconst 1, 1) := by decide +kernel
theorem d_St_isLatin1_14 : decode b_St_isLatin1 14 = .ok (.goto 4, 3) := by decide +kernel
theorem d_St_isLatin1_18 : decode b_St_isLatin1 18 = .ok (.ireturn, 1) := by decide +kernel
theorem d_St_length_0 : decode b_St_length 0 = .ok (.aload_n 0, 1) := by decide +kernel
theorem d_St_length_1 : decode b_St_length 1 = .ok (.getfield 9, 3) := by decide +kernel
theorem d_St_length_4 : decode b_St_length 4 = .ok (.arraylength, 1) := by decide +kernel
theorem d_St_length_5 : decode b_St_length 5 = .ok (.aload_n 0, 1) := by decide +kernel
theorem d_St_length_6 : decode b_St_length 6 = .ok (.invokevirtual 335, 3) := by decide +kernel
theorem d_St_length_9 : decode b_St_length 9 = .ok (.ishr, 1) := by decide +kernel
theorem d_St_length_10 : decode b_St_length 10 = .ok (.ireturn, 1) := by decide +kernel
theorem d_Pr_checkIndex_0 : decode b_Pr_checkIndex 0 = .ok (.iload_n 0, 1) := by decide +kernel
theorem d_Pr_checkIndex_1 : decode b_Pr_checkIndex 1 = .ok (.ifCond .lt 8, 3) := by decide +kernel
theorem d_Pr_checkIndex_4 : decode b_Pr_checkIndex 4 = .ok (.iload_n 0, 1) := by decide +kernel
theorem d_Pr_checkIndex_5 : decode b_Pr_checkIndex 5 = .ok (.iload_n 1, 1) := by decide +kernel
theorem d_Pr_checkIndex_6 : decode b_Pr_checkIndex 6 = .ok (.if_icmp .lt 10, 3) := by decide +kernel
theorem d_Pr_checkIndex_16 : decode b_Pr_checkIndex 16 = .ok (.iload_n 0, 1) := by decide +kernel
theorem d_Pr_checkIndex_17 : decode b_Pr_checkIndex 17 = .ok (.ireturn, 1) := by decide +kernel
theorem d_St_checkIndex_0 : decode b_St_checkIndex 0 = .ok (.iload_n 0, 1) := by decide +kernel
theorem d_St_checkIndex_1 : decode b_St_checkIndex 1 = .ok (.iload_n 1, 1) := by decide +kernel
theorem d_St_checkIndex_2 : decode b_St_checkIndex 2 = .ok (.getstatic 1053, 3) := by decide +kernel
theorem d_St_checkIndex_5 : decode b_St_checkIndex 5 = .ok (.invokestatic 1059, 3) := by decide +kernel
theorem d_St_checkIndex_8 : decode b_St_checkIndex 8 = .ok (.pop, 1) := by decide +kernel
theorem d_St_checkIndex_9 : decode b_St_checkIndex 9 = .ok (.return_, 1) := by decide +kernel
theorem d_S1_charAt_0 : decode b_S1_charAt 0 = .ok (.iload_n 1, 1) := by decide +kernel
theorem d_S1_charAt_1 : decode b_S1_charAt 1 = .ok (.aload_n 0, 1) := by decide +kernel
theorem d_S1_charAt_2 : decode b_S1_charAt 2 = .ok (.arraylength, 1) := by decide +kernel
theorem d_S1_charAt_3 : decode b_S1_charAt 3 = .ok (.invokestatic 9, 3) := by decide +kernel
theorem d_S1_charAt_6 : decode b_S1_charAt 6 = .ok (.aload_n 0, 1) := by decide +kernel
theorem d_S1_charAt_7 : decode b_S1_charAt 7 = .ok (.iload_n 1, 1) := by decide +kernel
theorem d_S1_charAt_8 : decode b_S1_charAt 8 = .ok (.baload, 1) := by decide +kernel
theorem d_S1_charAt_9 : decode b_S1_charAt 9 = .ok (.sipush 255, 3) := by decide +kernel
theorem d_S1_charAt_12 : decode b_S1_charAt 12 = .ok (.iand, 1) := by decide +kernel
theorem d_S1_charAt_13 : decode b_S1_charAt 13 = .ok (.i2c, 1) := by decide +kernel
theorem d_S1_charAt_14 : decode b_S1_charAt 14 = .ok (.ireturn, 1) := by decide +kernel
theorem d_St_charAt_0 : decode b_St_charAt 0 = .ok (.aload_n 0, 1) := by decide +kernel
theorem d_St_charAt_1 : decode b_St_charAt 1 = .ok (.invokevirtual 492, 3) := by decide +kernel
theorem d_St_charAt_4 : decode b_St_charAt 4 = .ok (.ifCond .eq 12, 3) := by decide +kernel
theorem d_St_charAt_7 : decode b_St_charAt 7 = .ok (.aload_n 0, 1) := by decide +kernel
theorem d_St_charAt_8 : decode b_St_charAt 8 = .ok (.getfield 9, 3) := by decide +kernel
theorem d_St_charAt_11 : decode b_St_charAt 11 = .ok (.iload_n 1, 1) := by decide +kernel
theorem d_St_charAt_12 : decode b_St_charAt 12 = .ok (.invokestatic 495, 3) := by decide +kernel
theorem d_St_charAt_15 : decode b_St_charAt 15 = .ok (.ireturn, 1) := by decide +kernel
theorem d_Ar_fill_0 : decode b_Ar_fill 0 = .ok (.iconst 0, 1) := by decide +kernel
theorem d_Ar_fill_1 : decode b_Ar_fill 1 = .ok (.istore_n 2, 1) := by decide +kernel
theorem d_Ar_fill_2 : decode b_Ar_fill 2 = .ok (.aload_n 0, 1) := by decide +kernel
theorem d_Ar_fill_3 : decode b_Ar_fill 3 = .ok (.arraylength, 1) := by decide +kernel
theorem d_Ar_fill_4 : decode b_Ar_fill 4 = .ok (.istore_n 3, 1) := by decide +kernel
theorem d_Ar_fill_5 : decode b_Ar_fill 5 = .ok (.iload_n 2, 1) := by decide +kernel
theorem d_Ar_fill_6 : decode b_Ar_fill 6 = .ok (.iload_n 3, 1) := by decide +kernel
theorem d_Ar_fill_7 : decode b_Ar_fill 7 = .ok (.if_icmp .ge 13, 3) := by decide +kernel
theorem d_Ar_fill_20 : decode b_Ar_fill 20 = .ok (.return_, 1) := by decide +kernel
theorem d_Ar_fill_10 : decode b_Ar_fill 10 = .ok (.aload_n 0, 1) := by decide +kernel
theorem d_Ar_fill_11 : decode b_Ar_fill 11 = .ok (.iload_n 2, 1) := by decide +kernel
theorem d_Ar_fill_12 : decode b_Ar_fill 12 = .ok (.iload_n 1, 1) := by decide +kernel
theorem d_Ar_fill_13 : decode b_Ar_fill 13 = .ok (.bastore, 1) := by decide +kernel
theorem d_Ar_fill_14 : decode b_Ar_fill 14 = .ok (.iinc 2 1, 3) := by decide +kernel
theorem d_Ar_fill_17 : decode b_Ar_fill 17 = .ok (.goto (-12), 3) := by decide +kernel
theorem d_Pg_clear_0 : decode b_Pg_clear 0 = .ok (.aload_n 0, 1) := by decide +kernel
theorem d_Pg_clear_1 : decode b_Pg_clear 1 = .ok (.getfield 9, 3) := by decide +kernel
theorem d_Pg_clear_4 : decode b_Pg_clear 4 = .ok (.iconst 0, 1) := by decide +kernel
theorem d_Pg_clear_5 : decode b_Pg_clear 5 = .ok (.invokestatic 15, 3) := by decide +kernel
theorem d_Pg_clear_8 : decode b_Pg_clear 8 = .ok (.return_, 1) := by decide +kernel
theorem d_Pg_putText_0 : decode b_Pg_putText 0 = .ok (.iconst 0, 1) := by decide +kernel
theorem d_Pg_putText_1 : decode b_Pg_putText 1 = .ok (.istore_n 3, 1) := by decide +kernel
theorem d_Pg_putText_2 : decode b_Pg_putText 2 = .ok (.iload_n 3, 1) := by decide +kernel
theorem d_Pg_putText_3 : decode b_Pg_putText 3 = .ok (.aload_n 2, 1) := by decide +kernel
theorem d_Pg_putText_4 : decode b_Pg_putText 4 = .ok (.invokevirtual 21, 3) := by decide +kernel
theorem d_Pg_putText_7 : decode b_Pg_putText 7 = .ok (.if_icmp .ge 21, 3) := by decide +kernel
theorem d_Pg_putText_28 : decode b_Pg_putText 28 = .ok (.return_, 1) := by decide +kernel
theorem d_Pg_putText_10 : decode b_Pg_putText 10 = .ok (.aload_n 0, 1) := by decide +kernel
theorem d_Pg_putText_11 : decode b_Pg_putText 11 = .ok (.iload_n 1, 1) := by decide +kernel
theorem d_Pg_putText_12 : decode b_Pg_putText 12 = .ok (.iload_n 3, 1) := by decide +kernel
theorem d_Pg_putText_13 : decode b_Pg_putText 13 = .ok (.iadd, 1) := by decide +kernel
theorem d_Pg_putText_14 : decode b_Pg_putText 14 = .ok (.aload_n 2, 1) := by decide +kernel
theorem d_Pg_putText_15 : decode b_Pg_putText 15 = .ok (.iload_n 3, 1) := by decide +kernel
theorem d_Pg_putText_16 : decode b_Pg_putText 16 = .ok (.invokevirtual 27, 3) := by decide +kernel
theorem d_Pg_putText_19 : decode b_Pg_putText 19 = .ok (.invokevirtual 31, 3) := by decide +kernel
theorem d_Pg_putText_22 : decode b_Pg_putText 22 = .ok (.iinc 3 1, 3) := by decide +kernel
theorem d_Pg_putText_25 : decode b_Pg_putText 25 = .ok (.goto (-23), 3) := by decide +kernel
/-- the literals are short -/
theorem sl_lt {i : Nat} (h : i < 2) : sLen.getD i 0 < 2 ^ 31 := by
  rcases (show i = 0 ∨ i = 1 by omega) with rfl | rfl <;> decide

set_option maxHeartbeats 4000000 in
set_option maxRecDepth 100000 in
theorem c_St_coder (l : Launch) (D : va_G) (t : Nat → ClassId) (G : hG) (ak av : Nat → Nat) (h : hM) (i : Nat) (hi : i < 2) : Met l y_St_coder (.code y_St_coder b_St_coder 1 (some .byte) :: lw_g) { frames := 0, cells := 0, slots := 0, locals := 0 } (hP (kE D t G ak av) D vwCl G h [.ref (ak i)]) (hQi D vwCl G (fun r h' => r = 0 ∧ h = h')) 0 0 G.P := by
  refine Met.ofW (cc := b_St_coder) (maxL := 1) (ret := (some .byte)) (by decide) rfl ?_
  intro p e s m args below meth c s₁ Bd hml hv
  obtain ⟨ha, hE, hH⟩ := hv
  have hx := Bd.exec
  have hb := Bd.bytes
  have hr := Bd.returns
  have hts : ∀ w ∈ lw_g, w.before args s = true := fun w hw => atoms_spec (ws := (.code y_St_coder b_St_coder 1 (some .byte) :: lw_g)) Bd.pre w (List.mem_cons_of_mem _ hw)
  have hown : s.vm.findClass R_St = some m.cls := findClass_of_methodNamed Bd.named
  have hlocks := Bd.notSynchronized
  have hK := hE.1
  have hH0 := hH
  have hLo : hLc G.P [] := hLc_nil
  have hz : s.heap.size ≤ s.heap.size := Nat.le_refl _
  have hkp : kp [] h h := kp_rf
  have hl := lv_entry [.ref (ak i)] (n := 1) (Nat.le_of_ble_eq_true rfl)
  rw [show entryFrame m args 1 = F0 m 0 ((lg_sl [.ref (ak i)] ++ List.replicate (1 - (lg_sl [.ref (ak i)]).length) Slot.unset).toArray) [] from (by rw [ha]; exact lg_entry_eq m [.ref (ak i)] 1)]
  generalize (lg_sl [.ref (ak i)] ++ List.replicate (1 - (lg_sl [.ref (ak i)]).length) Slot.unset).toArray = ls at hl ⊢
  have hl : lv_has ls 1 [(0, .ref (ak i))] := hl
  have hZ := K9 hE.2.2.2.2 hH0
  have hS := S9 hH0 hH hz hLo
  have hC := C9 hE.2.2.2.2 hH0
  have hS := S9 hH0 hH hz hLo
  refine va_gets (v := .int 1) hx hb hC hS hown (hts _ mw_70) (fun _ h9 => h9) d_St_coder_0 ?_
  refine lv_if_eq (tgt := 13) hx hb d_St_coder_3 (by decide) (fun hc1 => absurd hc1 (by decide)) (fun hc1 => ?_)
  refine lv_aload_n hx hb d_St_coder_6 rfl (lv_at hl 0 rfl) ?_
  have hS := S9 hH0 hH hz hLo
  refine vk_getf (v := .int 0) hx hb (hZ.1 i hi).2.1 hS hown (hts _ mw_71) (fun _ h9 => h9) d_St_coder_7 ?_
  refine lv_goto (tgt := 14) hx hb d_St_coder_10 (by decide) ?_
  exact W.zret (v := 0) hx hb hr (by decide) (fun t9 ht hW => ⟨0, h, rfl, ⟨rfl, rfl⟩, by rw [ht]; exact hH, by rw [ht]; exact hz⟩) hLo d_St_coder_14

set_option maxHeartbeats 4000000 in
set_option maxRecDepth 100000 in
theorem c_St_isLatin1 (l : Launch) (D : va_G) (t : Nat → ClassId) (G : hG) (ak av : Nat → Nat) (h : hM) (i : Nat) (hi : i < 2) : Met l y_St_isLatin1 (.code y_St_isLatin1 b_St_isLatin1 1 (some .boolean) :: lw_g) { frames := 0, cells := 0, slots := 0, locals := 0 } (hP (kE D t G ak av) D vwCl G h [.ref (ak i)]) (hQi D vwCl G (fun r h' => r = 1 ∧ h = h')) 0 0 G.P := by
  refine Met.ofW (cc := b_St_isLatin1) (maxL := 1) (ret := (some .boolean)) (by decide) rfl ?_
  intro p e s m args below meth c s₁ Bd hml hv
  obtain ⟨ha, hE, hH⟩ := hv
  have hx := Bd.exec
  have hb := Bd.bytes
  have hr := Bd.returns
  have hts : ∀ w ∈ lw_g, w.before args s = true := fun w hw => atoms_spec (ws := (.code y_St_isLatin1 b_St_isLatin1 1 (some .boolean) :: lw_g)) Bd.pre w (List.mem_cons_of_mem _ hw)
  have hown : s.vm.findClass R_St = some m.cls := findClass_of_methodNamed Bd.named
  have hlocks := Bd.notSynchronized
  have hK := hE.1
  have hH0 := hH
  have hLo : hLc G.P [] := hLc_nil
  have hz : s.heap.size ≤ s.heap.size := Nat.le_refl _
  have hkp : kp [] h h := kp_rf
  have hl := lv_entry [.ref (ak i)] (n := 1) (Nat.le_of_ble_eq_true rfl)
  rw [show entryFrame m args 1 = F0 m 0 ((lg_sl [.ref (ak i)] ++ List.replicate (1 - (lg_sl [.ref (ak i)]).length) Slot.unset).toArray) [] from (by rw [ha]; exact lg_entry_eq m [.ref (ak i)] 1)]
  generalize (lg_sl [.ref (ak i)] ++ List.replicate (1 - (lg_sl [.ref (ak i)]).length) Slot.unset).toArray = ls at hl ⊢
  have hl : lv_has ls 1 [(0, .ref (ak i))] := hl
  have hZ := K9 hE.2.2.2.2 hH0
  have hS := S9 hH0 hH hz hLo
  have hC := C9 hE.2.2.2.2 hH0
  have hS := S9 hH0 hH hz hLo
  refine va_gets (v := .int 1) hx hb hC hS hown (hts _ mw_70) (fun _ h9 => h9) d_St_isLatin1_0 ?_
  refine lv_if_eq (tgt := 17) hx hb d_St_isLatin1_3 (by decide) (fun hc1 => absurd hc1 (by decide)) (fun hc1 => ?_)
  refine lv_aload_n hx hb d_St_isLatin1_6 rfl (lv_at hl 0 rfl) ?_
  have hS := S9 hH0 hH hz hLo
  refine vk_getf (v := .int 0) hx hb (hZ.1 i hi).2.1 hS hown (hts _ mw_71) (fun _ h9 => h9) d_St_isLatin1_7 ?_
  refine lv_if_ne (tgt := 17) hx hb d_St_isLatin1_10 (by decide) (fun hc2 => absurd hc2 (by decide)) (fun hc2 => ?_)
  refine lv_iconst (v := 1) hx hb d_St_isLatin1_13 (by decide) ?_
  refine lv_goto (tgt := 18) hx hb d_St_isLatin1_14 (by decide) ?_
  exact W.zret (v := 1) hx hb hr (by decide) (fun t9 ht hW => ⟨1, h, rfl, ⟨rfl, rfl⟩, by rw [ht]; exact hH, by rw [ht]; exact hz⟩) hLo d_St_isLatin1_18

set_option maxHeartbeats 4000000 in
set_option maxRecDepth 100000 in
theorem c_St_length (l : Launch) (D : va_G) (t : Nat → ClassId) (G : hG) (ak av : Nat → Nat) (h : hM) (i : Nat) (hi : i < 2) : Met l y_St_length (.code y_St_length b_St_length 1 (some .int) :: lw_g) { frames := 1, cells := 0, slots := 0, locals := 20 } (hP (kE D t G ak av) D vwCl G h [.ref (ak i)]) (hQi D vwCl G (fun r h' => r = nI (sLen.getD i 0) ∧ h = h')) 0 0 G.P := by
  refine Met.ofW (cc := b_St_length) (maxL := 1) (ret := (some .int)) (by decide) rfl ?_
  intro p e s m args below meth c s₁ Bd hml hv
  obtain ⟨ha, hE, hH⟩ := hv
  have hx := Bd.exec
  have hb := Bd.bytes
  have hr := Bd.returns
  have hts : ∀ w ∈ lw_g, w.before args s = true := fun w hw => atoms_spec (ws := (.code y_St_length b_St_length 1 (some .int) :: lw_g)) Bd.pre w (List.mem_cons_of_mem _ hw)
  have hown : s.vm.findClass R_St = some m.cls := findClass_of_methodNamed Bd.named
  have hlocks := Bd.notSynchronized
  have hK := hE.1
  have hH0 := hH
  have hLo : hLc G.P [] := hLc_nil
  have hz : s.heap.size ≤ s.heap.size := Nat.le_refl _
  have hkp : kp [] h h := kp_rf
  have hl := lv_entry [.ref (ak i)] (n := 1) (Nat.le_of_ble_eq_true rfl)
  rw [show entryFrame m args 1 = F0 m 0 ((lg_sl [.ref (ak i)] ++ List.replicate (1 - (lg_sl [.ref (ak i)]).length) Slot.unset).toArray) [] from (by rw [ha]; exact lg_entry_eq m [.ref (ak i)] 1)]
  generalize (lg_sl [.ref (ak i)] ++ List.replicate (1 - (lg_sl [.ref (ak i)]).length) Slot.unset).toArray = ls at hl ⊢
  have hl : lv_has ls 1 [(0, .ref (ak i))] := hl
  have hZ := K9 hE.2.2.2.2 hH0
  have hS := S9 hH0 hH hz hLo
  refine lv_aload_n hx hb d_St_length_0 rfl (lv_at hl 0 rfl) ?_
  have hS := S9 hH0 hH hz hLo
  refine vk_getf (v := .ref (av i)) hx hb (hZ.1 i hi).2.2.1 hS hown (hts _ mw_72) (fun _ h9 => h9) d_St_length_1 ?_
  have hS := S9 hH0 hH hz hLo
  refine va_tlen (v := nI (sLen.getD i 0)) hx hb (hZ.1 i hi).2.2.2 hS rfl d_St_length_4 ?_
  refine lv_aload_n hx hb d_St_length_5 rfl (lv_at hl 0 rfl) ?_
  have hS := S9 hH0 hH hz hLo
  refine hm_calli (va_runV (As := []) (b := ak i) (rest := [.int (nI (sLen.getD i 0))]) ⟨hx, hb, hml, hown, hts⟩ (c_St_coder l D t G ak av h i hi) ⟨cw9B 0 hts mw_73 mw_75 mw_74 rfl rfl (by decide +kernel) ⟨Nat.le_of_ble_eq_true rfl, Nat.le_of_ble_eq_true rfl⟩, hts _ mw_76, hts _ mw_77⟩ (hP_W kE_ok hE hH (vk_recv hZ hi hS)) rfl rfl hl.1 rfl (lv_room (Nat.le_of_ble_eq_true rfl)) d_St_length_6 ⟨Nat.le_of_ble_eq_true rfl, Nat.le_of_ble_eq_true rfl⟩) hLo (fun r1 h2 H3 locs hp5 hH z4 hLo => ?_)
  have hz : s.heap.size ≤ H3.size := Nat.le_trans hz z4
  obtain ⟨rfl, rfl⟩ := hp5
  refine lv_ishr hx hb d_St_length_9 ?_
  refine lv_topi (fun v6 e7 => ?_)
  obtain rfl : v6 = nI (sLen.getD i 0) := e7.trans (sb_shr0 _)
  exact W.iret (v := nI (sLen.getD i 0)) hx hb hr (fun t9 ht hW => ⟨nI (sLen.getD i 0), h, rfl, ⟨rfl, rfl⟩, by rw [ht]; exact hH, by rw [ht]; exact hz⟩) hLo d_St_length_10

set_option maxHeartbeats 4000000 in
set_option maxRecDepth 100000 in
theorem c_Pr_check_n (l : Launch) (D : va_G) (t : Nat → ClassId) (G : hG) (ak av : Nat → Nat) (h : hM) (a b2 : Nat) (hab : a < b2) (hb2 : b2 < 2 ^ 31) : Met l y_Pr_checkIndex (.code y_Pr_checkIndex b_Pr_checkIndex 3 (some .int) :: lw_g) { frames := 0, cells := 0, slots := 0, locals := 0 } (hP (kE D t G ak av) D vwCl G h [.int (nI a), .int (nI b2), .null]) (hQi D vwCl G (fun r h' => r = nI a ∧ h = h')) 0 0 G.P := by
  refine Met.ofW (cc := b_Pr_checkIndex) (maxL := 3) (ret := (some .int)) (by decide) rfl ?_
  intro p e s m args below meth c s₁ Bd hml hv
  obtain ⟨ha, hE, hH⟩ := hv
  have hx := Bd.exec
  have hb := Bd.bytes
  have hr := Bd.returns
  have hts : ∀ w ∈ lw_g, w.before args s = true := fun w hw => atoms_spec (ws := (.code y_Pr_checkIndex b_Pr_checkIndex 3 (some .int) :: lw_g)) Bd.pre w (List.mem_cons_of_mem _ hw)
  have hown : s.vm.findClass R_Pr = some m.cls := findClass_of_methodNamed Bd.named
  have hlocks := Bd.notSynchronized
  have hK := hE.1
  have hH0 := hH
  have hLo : hLc G.P [] := hLc_nil
  have hz : s.heap.size ≤ s.heap.size := Nat.le_refl _
  have hkp : kp [] h h := kp_rf
  have hl := lv_entry [.int (nI a), .int (nI b2), .null] (n := 3) (Nat.le_of_ble_eq_true rfl)
  rw [show entryFrame m args 3 = F0 m 0 ((lg_sl [.int (nI a), .int (nI b2), .null] ++ List.replicate (3 - (lg_sl [.int (nI a), .int (nI b2), .null]).length) Slot.unset).toArray) [] from (by rw [ha]; exact lg_entry_eq m [.int (nI a), .int (nI b2), .null] 3)]
  generalize (lg_sl [.int (nI a), .int (nI b2), .null] ++ List.replicate (3 - (lg_sl [.int (nI a), .int (nI b2), .null]).length) Slot.unset).toArray = ls at hl ⊢
  have hl : lv_has ls 3 [(0, .int (nI a)), (1, .int (nI b2)), (2, .null)] := hl
  refine lv_iload_n hx hb d_Pr_checkIndex_0 rfl (lv_at hl 0 rfl) ?_
  refine lv_if_lt (tgt := 9) hx hb d_Pr_checkIndex_1 (by decide) (fun hc1 => absurd hc1 (nI_pos (by omega))) (fun hc1 => ?_)
  refine lv_iload_n hx hb d_Pr_checkIndex_4 rfl (lv_at hl 0 rfl) ?_
  refine lv_iload_n hx hb d_Pr_checkIndex_5 rfl (lv_at hl 1 rfl) ?_
  refine lv_icmp_lt (tgt := 16) hx hb d_Pr_checkIndex_6 (by decide) (fun hc2 => ?_) (fun hc2 => absurd (nI_lt hab hb2) hc2)
  refine lv_iload_n hx hb d_Pr_checkIndex_16 rfl (lv_at hl 0 rfl) ?_
  exact W.iret (v := nI a) hx hb hr (fun t9 ht hW => ⟨nI a, h, rfl, ⟨rfl, rfl⟩, by rw [ht]; exact hH, by rw [ht]; exact hz⟩) hLo d_Pr_checkIndex_17

set_option maxHeartbeats 4000000 in
set_option maxRecDepth 100000 in
theorem c_Pr_check_r (l : Launch) (D : va_G) (t : Nat → ClassId) (G : hG) (ak av : Nat → Nat) (h : hM) (a b2 x : Nat) (hab : a < b2) (hb2 : b2 < 2 ^ 31) : Met l y_Pr_checkIndex (.code y_Pr_checkIndex b_Pr_checkIndex 3 (some .int) :: lw_g) { frames := 0, cells := 0, slots := 0, locals := 0 } (hP (kE D t G ak av) D vwCl G h [.int (nI a), .int (nI b2), .ref x]) (hQi D vwCl G (fun r h' => r = nI a ∧ h = h')) 0 0 G.P := by
  refine Met.ofW (cc := b_Pr_checkIndex) (maxL := 3) (ret := (some .int)) (by decide) rfl ?_
  intro p e s m args below meth c s₁ Bd hml hv
  obtain ⟨ha, hE, hH⟩ := hv
  have hx := Bd.exec
  have hb := Bd.bytes
  have hr := Bd.returns
  have hts : ∀ w ∈ lw_g, w.before args s = true := fun w hw => atoms_spec (ws := (.code y_Pr_checkIndex b_Pr_checkIndex 3 (some .int) :: lw_g)) Bd.pre w (List.mem_cons_of_mem _ hw)
  have hown : s.vm.findClass R_Pr = some m.cls := findClass_of_methodNamed Bd.named
  have hlocks := Bd.notSynchronized
  have hK := hE.1
  have hH0 := hH
  have hLo : hLc G.P [] := hLc_nil
  have hz : s.heap.size ≤ s.heap.size := Nat.le_refl _
  have hkp : kp [] h h := kp_rf
  have hl := lv_entry [.int (nI a), .int (nI b2), .ref x] (n := 3) (Nat.le_of_ble_eq_true rfl)
  rw [show entryFrame m args 3 = F0 m 0 ((lg_sl [.int (nI a), .int (nI b2), .ref x] ++ List.replicate (3 - (lg_sl [.int (nI a), .int (nI b2), .ref x]).length) Slot.unset).toArray) [] from (by rw [ha]; exact lg_entry_eq m [.int (nI a), .int (nI b2), .ref x] 3)]
  generalize (lg_sl [.int (nI a), .int (nI b2), .ref x] ++ List.replicate (3 - (lg_sl [.int (nI a), .int (nI b2), .ref x]).length) Slot.unset).toArray = ls at hl ⊢
  have hl : lv_has ls 3 [(0, .int (nI a)), (1, .int (nI b2)), (2, .ref x)] := hl
  refine lv_iload_n hx hb d_Pr_checkIndex_0 rfl (lv_at hl 0 rfl) ?_
  refine lv_if_lt (tgt := 9) hx hb d_Pr_checkIndex_1 (by decide) (fun hc1 => absurd hc1 (nI_pos (by omega))) (fun hc1 => ?_)
  refine lv_iload_n hx hb d_Pr_checkIndex_4 rfl (lv_at hl 0 rfl) ?_
  refine lv_iload_n hx hb d_Pr_checkIndex_5 rfl (lv_at hl 1 rfl) ?_
  refine lv_icmp_lt (tgt := 16) hx hb d_Pr_checkIndex_6 (by decide) (fun hc2 => ?_) (fun hc2 => absurd (nI_lt hab hb2) hc2)
  refine lv_iload_n hx hb d_Pr_checkIndex_16 rfl (lv_at hl 0 rfl) ?_
  exact W.iret (v := nI a) hx hb hr (fun t9 ht hW => ⟨nI a, h, rfl, ⟨rfl, rfl⟩, by rw [ht]; exact hH, by rw [ht]; exact hz⟩) hLo d_Pr_checkIndex_17

set_option maxHeartbeats 4000000 in
set_option maxRecDepth 100000 in
theorem c_St_checkIndex (l : Launch) (D : va_G) (t : Nat → ClassId) (G : hG) (ak av : Nat → Nat) (h : hM) (a b2 : Nat) (hab : a < b2) (hb2 : b2 < 2 ^ 31) : Met l y_St_checkIndex (.code y_St_checkIndex b_St_checkIndex 2 none :: lw_g) { frames := 1, cells := 0, slots := 0, locals := 22 } (hP (kE D t G ak av) D vwCl G h [.int (nI a), .int (nI b2)]) (hQv D vwCl G (fun h' => h = h')) 0 0 G.P := by
  refine Met.ofW (cc := b_St_checkIndex) (maxL := 2) (ret := none) (by decide) rfl ?_
  intro p e s m args below meth c s₁ Bd hml hv
  obtain ⟨ha, hE, hH⟩ := hv
  have hx := Bd.exec
  have hb := Bd.bytes
  have hr := Bd.returns
  have hts : ∀ w ∈ lw_g, w.before args s = true := fun w hw => atoms_spec (ws := (.code y_St_checkIndex b_St_checkIndex 2 none :: lw_g)) Bd.pre w (List.mem_cons_of_mem _ hw)
  have hown : s.vm.findClass R_St = some m.cls := findClass_of_methodNamed Bd.named
  have hlocks := Bd.notSynchronized
  have hK := hE.1
  have hH0 := hH
  have hLo : hLc G.P [] := hLc_nil
  have hz : s.heap.size ≤ s.heap.size := Nat.le_refl _
  have hkp : kp [] h h := kp_rf
  have hl := lv_entry [.int (nI a), .int (nI b2)] (n := 2) (Nat.le_of_ble_eq_true rfl)
  rw [show entryFrame m args 2 = F0 m 0 ((lg_sl [.int (nI a), .int (nI b2)] ++ List.replicate (2 - (lg_sl [.int (nI a), .int (nI b2)]).length) Slot.unset).toArray) [] from (by rw [ha]; exact lg_entry_eq m [.int (nI a), .int (nI b2)] 2)]
  generalize (lg_sl [.int (nI a), .int (nI b2)] ++ List.replicate (2 - (lg_sl [.int (nI a), .int (nI b2)]).length) Slot.unset).toArray = ls at hl ⊢
  have hl : lv_has ls 2 [(0, .int (nI a)), (1, .int (nI b2))] := hl
  have hS := S9 hH0 hH hz hLo
  refine lv_iload_n hx hb d_St_checkIndex_0 rfl (lv_at hl 0 rfl) ?_
  refine lv_iload_n hx hb d_St_checkIndex_1 rfl (lv_at hl 1 rfl) ?_
  rcases Q9 hE.2.2.2.2 hH0 with hC | ⟨x, hC⟩
  · skip
    have hS := S9 hH0 hH hz hLo
    refine va_gets (v := .null) hx hb hC hS hown (hts _ mw_78) (fun _ h9 => h9) d_St_checkIndex_2 ?_
    refine hm_calli (va_runS (As := [.int (nI a), .int (nI b2), .null]) (rest := []) ⟨hx, hb, hml, hown, hts⟩ (c_Pr_check_n l D t G ak av h a b2 hab hb2) ⟨cw9B 3 hts mw_79 mw_81 mw_80 rfl rfl (by decide +kernel) ⟨Nat.le_of_ble_eq_true rfl, Nat.le_of_ble_eq_true rfl⟩, hts _ mw_82⟩ (hP_S kE_ok hE hH) rfl rfl hl.1 rfl (lv_room (Nat.le_of_ble_eq_true rfl)) d_St_checkIndex_5 ⟨Nat.le_of_ble_eq_true rfl, Nat.le_of_ble_eq_true rfl⟩) hLo (fun r1 h2 H3 locs hp5 hH z4 hLo => ?_)
    have hz : s.heap.size ≤ H3.size := Nat.le_trans hz z4
    obtain ⟨rfl, rfl⟩ := hp5
    refine lv_pop hx hb d_St_checkIndex_8 rfl ?_
    exact W.vret hx hb hr (fun t9 ht hW => ⟨h, rfl, rfl, by rw [ht]; exact hH, by rw [ht]; exact hz⟩) hLo d_St_checkIndex_9
  · skip
    have hS := S9 hH0 hH hz hLo
    refine va_gets (v := .ref x) hx hb hC hS hown (hts _ mw_78) (fun _ h9 => h9) d_St_checkIndex_2 ?_
    refine hm_calli (va_runS (As := [.int (nI a), .int (nI b2), .ref x]) (rest := []) ⟨hx, hb, hml, hown, hts⟩ (c_Pr_check_r l D t G ak av h a b2 x hab hb2) ⟨cw9B 3 hts mw_79 mw_81 mw_80 rfl rfl (by decide +kernel) ⟨Nat.le_of_ble_eq_true rfl, Nat.le_of_ble_eq_true rfl⟩, hts _ mw_82⟩ (hP_S kE_ok hE hH) rfl rfl hl.1 rfl (lv_room (Nat.le_of_ble_eq_true rfl)) d_St_checkIndex_5 ⟨Nat.le_of_ble_eq_true rfl, Nat.le_of_ble_eq_true rfl⟩) hLo (fun r6 h7 H8 locs hp10 hH z9 hLo => ?_)
    have hz : s.heap.size ≤ H8.size := Nat.le_trans hz z9
    obtain ⟨rfl, rfl⟩ := hp10
    refine lv_pop hx hb d_St_checkIndex_8 rfl ?_
    exact W.vret hx hb hr (fun t9 ht hW => ⟨h, rfl, rfl, by rw [ht]; exact hH, by rw [ht]; exact hz⟩) hLo d_St_checkIndex_9

set_option maxHeartbeats 4000000 in
set_option maxRecDepth 100000 in
theorem c_S1_charAt (l : Launch) (D : va_G) (t : Nat → ClassId) (G : hG) (ak av : Nat → Nat) (h : hM) (i k : Nat) (hi : i < 2) (hk : k < sLen.getD i 0) : Met l y_S1_charAt (.code y_S1_charAt b_S1_charAt 2 (some .char) :: lw_g) { frames := 2, cells := 0, slots := 0, locals := 43 } (hP (kE D t G ak av) D vwCl G h [.ref (av i), .int (nI k)]) (hQi D vwCl G (fun r h' => narrow .char (.int r) = .int r ∧ h = h')) 0 0 G.P := by
  refine Met.ofW (cc := b_S1_charAt) (maxL := 2) (ret := (some .char)) (by decide) rfl ?_
  intro p e s m args below meth c s₁ Bd hml hv
  obtain ⟨ha, hE, hH⟩ := hv
  have hx := Bd.exec
  have hb := Bd.bytes
  have hr := Bd.returns
  have hts : ∀ w ∈ lw_g, w.before args s = true := fun w hw => atoms_spec (ws := (.code y_S1_charAt b_S1_charAt 2 (some .char) :: lw_g)) Bd.pre w (List.mem_cons_of_mem _ hw)
  have hown : s.vm.findClass R_S1 = some m.cls := findClass_of_methodNamed Bd.named
  have hlocks := Bd.notSynchronized
  have hK := hE.1
  have hH0 := hH
  have hLo : hLc G.P [] := hLc_nil
  have hz : s.heap.size ≤ s.heap.size := Nat.le_refl _
  have hkp : kp [] h h := kp_rf
  have hl := lv_entry [.ref (av i), .int (nI k)] (n := 2) (Nat.le_of_ble_eq_true rfl)
  rw [show entryFrame m args 2 = F0 m 0 ((lg_sl [.ref (av i), .int (nI k)] ++ List.replicate (2 - (lg_sl [.ref (av i), .int (nI k)]).length) Slot.unset).toArray) [] from (by rw [ha]; exact lg_entry_eq m [.ref (av i), .int (nI k)] 2)]
  generalize (lg_sl [.ref (av i), .int (nI k)] ++ List.replicate (2 - (lg_sl [.ref (av i), .int (nI k)]).length) Slot.unset).toArray = ls at hl ⊢
  have hl : lv_has ls 2 [(0, .ref (av i)), (1, .int (nI k))] := hl
  have hZ := K9 hE.2.2.2.2 hH0
  have hS := S9 hH0 hH hz hLo
  refine lv_iload_n hx hb d_S1_charAt_0 rfl (lv_at hl 1 rfl) ?_
  refine lv_aload_n hx hb d_S1_charAt_1 rfl (lv_at hl 0 rfl) ?_
  have hS := S9 hH0 hH hz hLo
  refine va_tlen (v := nI (sLen.getD i 0)) hx hb (hZ.1 i hi).2.2.2 hS rfl d_S1_charAt_2 ?_
  refine hm_callv (va_runS (As := [.int (nI k), .int (nI (sLen.getD i 0))]) (rest := []) ⟨hx, hb, hml, hown, hts⟩ (c_St_checkIndex l D t G ak av h k (sLen.getD i 0) hk (sl_lt hi)) ⟨cw9B 2 hts mw_83 mw_84 mw_74 rfl rfl (by decide +kernel) ⟨Nat.le_of_ble_eq_true rfl, Nat.le_of_ble_eq_true rfl⟩, hts _ mw_85⟩ (hP_S kE_ok hE hH) rfl rfl hl.1 rfl (lv_room (Nat.le_of_ble_eq_true rfl)) d_S1_charAt_3 ⟨Nat.le_of_ble_eq_true rfl, Nat.le_of_ble_eq_true rfl⟩) hLo (fun h1 H2 locs hp4 hH z3 hLo => ?_)
  have hz : s.heap.size ≤ H2.size := Nat.le_trans hz z3
  obtain rfl := hp4
  refine lv_aload_n hx hb d_S1_charAt_6 rfl (lv_at hl 0 rfl) ?_
  refine lv_iload_n hx hb d_S1_charAt_7 rfl (lv_at hl 1 rfl) ?_
  have hS := S9 hH0 hH hz hLo
  refine va_tb (v := .int ((sByt.getD i []).getD k 0)) hx hb (hZ.1 i hi).2.2.2 hS (vp_in_nI hk (sl_lt hi)) (by rw [nI_clamp (Nat.lt_trans hk (sl_lt hi))]) d_S1_charAt_8 ?_
  refine lv_sipush (v := 255) hx hb d_S1_charAt_9 (by decide) ?_
  refine lv_iand hx hb d_S1_charAt_12 ?_
  refine lv_i2c (v := ((((sByt.getD i []).getD k 0) &&& 255).toUInt32 % 65536).toInt32) hx hb d_S1_charAt_13 rfl ?_
  exact W.zret (v := ((((sByt.getD i []).getD k 0) &&& 255).toUInt32 % 65536).toInt32) hx hb hr (pk_nc _) (fun t9 ht hW => ⟨((((sByt.getD i []).getD k 0) &&& 255).toUInt32 % 65536).toInt32, h, rfl, ⟨pk_nc _, rfl⟩, by rw [ht]; exact hH, by rw [ht]; exact hz⟩) hLo d_S1_charAt_14

set_option maxHeartbeats 4000000 in
set_option maxRecDepth 100000 in
theorem c_St_charAt (l : Launch) (D : va_G) (t : Nat → ClassId) (G : hG) (ak av : Nat → Nat) (h : hM) (i k : Nat) (hi : i < 2) (hk : k < sLen.getD i 0) : Met l y_St_charAt (.code y_St_charAt b_St_charAt 2 (some .char) :: lw_g) { frames := 3, cells := 0, slots := 0, locals := 64 } (hP (kE D t G ak av) D vwCl G h [.ref (ak i), .int (nI k)]) (hQi D vwCl G (fun r h' => narrow .char (.int r) = .int r ∧ h = h')) 0 0 G.P := by
  refine Met.ofW (cc := b_St_charAt) (maxL := 2) (ret := (some .char)) (by decide) rfl ?_
  intro p e s m args below meth c s₁ Bd hml hv
  obtain ⟨ha, hE, hH⟩ := hv
  have hx := Bd.exec
  have hb := Bd.bytes
  have hr := Bd.returns
  have hts : ∀ w ∈ lw_g, w.before args s = true := fun w hw => atoms_spec (ws := (.code y_St_charAt b_St_charAt 2 (some .char) :: lw_g)) Bd.pre w (List.mem_cons_of_mem _ hw)
  have hown : s.vm.findClass R_St = some m.cls := findClass_of_methodNamed Bd.named
  have hlocks := Bd.notSynchronized
  have hK := hE.1
  have hH0 := hH
  have hLo : hLc G.P [] := hLc_nil
  have hz : s.heap.size ≤ s.heap.size := Nat.le_refl _
  have hkp : kp [] h h := kp_rf
  have hl := lv_entry [.ref (ak i), .int (nI k)] (n := 2) (Nat.le_of_ble_eq_true rfl)
  rw [show entryFrame m args 2 = F0 m 0 ((lg_sl [.ref (ak i), .int (nI k)] ++ List.replicate (2 - (lg_sl [.ref (ak i), .int (nI k)]).length) Slot.unset).toArray) [] from (by rw [ha]; exact lg_entry_eq m [.ref (ak i), .int (nI k)] 2)]
  generalize (lg_sl [.ref (ak i), .int (nI k)] ++ List.replicate (2 - (lg_sl [.ref (ak i), .int (nI k)]).length) Slot.unset).toArray = ls at hl ⊢
  have hl : lv_has ls 2 [(0, .ref (ak i)), (1, .int (nI k))] := hl
  have hZ := K9 hE.2.2.2.2 hH0
  have hS := S9 hH0 hH hz hLo
  refine lv_aload_n hx hb d_St_charAt_0 rfl (lv_at hl 0 rfl) ?_
  have hS := S9 hH0 hH hz hLo
  refine hm_calli (va_runV (As := []) (b := ak i) (rest := []) ⟨hx, hb, hml, hown, hts⟩ (c_St_isLatin1 l D t G ak av h i hi) ⟨cw9B 0 hts mw_86 mw_87 mw_74 rfl rfl (by decide +kernel) ⟨Nat.le_of_ble_eq_true rfl, Nat.le_of_ble_eq_true rfl⟩, hts _ mw_88, hts _ mw_89⟩ (hP_W kE_ok hE hH (vk_recv hZ hi hS)) rfl rfl hl.1 rfl (lv_room (Nat.le_of_ble_eq_true rfl)) d_St_charAt_1 ⟨Nat.le_of_ble_eq_true rfl, Nat.le_of_ble_eq_true rfl⟩) hLo (fun r1 h2 H3 locs hp5 hH z4 hLo => ?_)
  have hz : s.heap.size ≤ H3.size := Nat.le_trans hz z4
  obtain ⟨rfl, rfl⟩ := hp5
  refine lv_if_eq (tgt := 16) hx hb d_St_charAt_4 (by decide) (fun hc6 => absurd hc6 (by decide)) (fun hc6 => ?_)
  refine lv_aload_n hx hb d_St_charAt_7 rfl (lv_at hl 0 rfl) ?_
  have hS := S9 hH0 hH hz hLo
  refine vk_getf (v := .ref (av i)) hx hb (hZ.1 i hi).2.2.1 hS hown (hts _ mw_72) (fun _ h9 => h9) d_St_charAt_8 ?_
  refine lv_iload_n hx hb d_St_charAt_11 rfl (lv_at hl 1 rfl) ?_
  refine hm_calli (va_runS (As := [.ref (av i), .int (nI k)]) (rest := []) ⟨hx, hb, hml, hown, hts⟩ (c_S1_charAt l D t G ak av h i k hi hk) ⟨cw9B 2 hts mw_90 mw_92 mw_91 rfl rfl (by decide +kernel) ⟨Nat.le_of_ble_eq_true rfl, Nat.le_of_ble_eq_true rfl⟩, hts _ mw_93⟩ (hP_S kE_ok hE hH) rfl rfl hl.1 rfl (lv_room (Nat.le_of_ble_eq_true rfl)) d_St_charAt_12 ⟨Nat.le_of_ble_eq_true rfl, Nat.le_of_ble_eq_true rfl⟩) hLo (fun r7 h8 H9 locs hp11 hH z10 hLo => ?_)
  have hz : s.heap.size ≤ H9.size := Nat.le_trans hz z10
  obtain ⟨hn9, rfl⟩ := hp11
  exact W.zret (v := r7) hx hb hr hn9 (fun t9 ht hW => ⟨r7, h, rfl, ⟨hn9, rfl⟩, by rw [ht]; exact hH, by rw [ht]; exact hz⟩) hLo d_St_charAt_15

set_option maxHeartbeats 4000000 in
set_option maxRecDepth 100000 in
theorem c_Ar_fill (l : Launch) (D : va_G) (t : Nat → ClassId) (G : hG) (ak av : Nat → Nat) (h : hM) (pb n : Nat) (hpb : pgF t h pb n) (hn : n < 2 ^ 31) : Met l y_Ar_fill (.code y_Ar_fill b_Ar_fill 4 none :: lw_g) { frames := 0, cells := 0, slots := 0, locals := 0 } (hP (kE D t G ak av) D vwCl G h [.ref pb, .int 0]) (hQv D vwCl G (fun h' => kp [pb] h h' ∧ pgF t h' pb n)) 0 0 G.P := by
  refine Met.ofW (cc := b_Ar_fill) (maxL := 4) (ret := none) (by decide) rfl ?_
  intro p e s m args below meth c s₁ Bd hml hv
  obtain ⟨ha, hE, hH⟩ := hv
  have hx := Bd.exec
  have hb := Bd.bytes
  have hr := Bd.returns
  have hts : ∀ w ∈ lw_g, w.before args s = true := fun w hw => atoms_spec (ws := (.code y_Ar_fill b_Ar_fill 4 none :: lw_g)) Bd.pre w (List.mem_cons_of_mem _ hw)
  have hown : s.vm.findClass R_Ar = some m.cls := findClass_of_methodNamed Bd.named
  have hlocks := Bd.notSynchronized
  have hK := hE.1
  have hH0 := hH
  have hLo : hLc G.P [] := hLc_nil
  have hz : s.heap.size ≤ s.heap.size := Nat.le_refl _
  have hkp : kp [pb] h h := kp_rf
  have hl := lv_entry [.ref pb, .int 0] (n := 4) (Nat.le_of_ble_eq_true rfl)
  rw [show entryFrame m args 4 = F0 m 0 ((lg_sl [.ref pb, .int 0] ++ List.replicate (4 - (lg_sl [.ref pb, .int 0]).length) Slot.unset).toArray) [] from (by rw [ha]; exact lg_entry_eq m [.ref pb, .int 0] 4)]
  generalize (lg_sl [.ref pb, .int 0] ++ List.replicate (4 - (lg_sl [.ref pb, .int 0]).length) Slot.unset).toArray = ls at hl ⊢
  have hl : lv_has ls 4 [(0, .ref pb), (1, .int 0)] := hl
  obtain ⟨f, hfit, f_pb⟩ := hpb
  refine lv_iconst (v := 0) hx hb d_Ar_fill_0 (by decide) ?_
  refine lv_topi (fun v1 e2 => ?_)
  obtain rfl : v1 = nI 0 := e2.trans (nI_0.symm)
  refine lv_istore_n (lv' := [(2, .int (nI 0)), (0, .ref pb), (1, .int 0)]) hx hb d_Ar_fill_1 rfl hl (by decide) rfl (fun ls hl => ?_)
  refine lv_aload_n hx hb d_Ar_fill_2 rfl (lv_at hl 1 rfl) ?_
  refine hm_alen (v := nI n) hx hb hK hH 0 f_pb (ty := .byte) rfl rfl d_Ar_fill_3 ?_
  refine lv_istore_n (lv' := [(3, .int (nI n)), (2, .int (nI 0)), (0, .ref pb), (1, .int 0)]) hx hb d_Ar_fill_4 rfl hl (by decide) rfl (fun ls hl => ?_)
  refine hm_loop (fun k ls H locs hh => ∃ (j : Nat), k = n - j ∧ lv_has ls 4 [(2, .int (nI j)), (0, .ref pb), (1, .int 0), (3, .int (nI n))] ∧ hm D vwCl G hh H ∧ s.heap.size ≤ H.size ∧ hLc G.P locs ∧ kp [pb] h hh ∧ (pgF t hh pb n) ∧ (j ≤ n)) ?_ (hh := h) ⟨0, rfl, (lv_sub hl [1, 2, 3, 0] rfl), hH, hz, hLo, hkp, ⟨f, hfit, f_pb⟩, by omega⟩
  rintro k ls H locs hh ⟨j, hk, hl, hH, hz, hLo, hkp, hpb, hj⟩ ih
  obtain ⟨f, hfit, f_pb⟩ := hpb
  refine lv_iload_n hx hb d_Ar_fill_5 rfl (lv_at hl 0 rfl) ?_
  refine lv_iload_n hx hb d_Ar_fill_6 rfl (lv_at hl 3 rfl) ?_
  refine lv_icmp_ge (tgt := 20) hx hb d_Ar_fill_7 (by decide) (fun hc3 => ?_) (fun hc3 => ?_)
  · skip
    exact W.vret hx hb hr (fun t9 ht hW => ⟨hh, rfl, ⟨hkp, f, hfit, f_pb⟩, by rw [ht]; exact hH, by rw [ht]; exact hz⟩) hLo d_Ar_fill_20
  · skip
    have hin : j < n := by
      have h8 := mt (nI_leI hn (by omega)).mpr hc3
      omega
    refine lv_aload_n hx hb d_Ar_fill_10 rfl (lv_at hl 1 rfl) ?_
    refine lv_iload_n hx hb d_Ar_fill_11 rfl (lv_at hl 0 rfl) ?_
    refine lv_iload_n hx hb d_Ar_fill_12 rfl (lv_at hl 2 rfl) ?_
    refine hj_bast hx hb hK hH hLo 0 f_pb rfl j rfl hin hn d_Ar_fill_13 (fun H4 locs hH z5 hLo => ?_)
    have hz : s.heap.size ≤ H4.size := by rw [z5]; exact hz
    obtain ⟨h6, e7⟩ : ∃ z, z = hu hh pb (.inl ((t 0), n, .inl (upd f j (vp_nar .byte 0)))) := ⟨_, rfl⟩
    have hH : hm D vwCl G h6 H4 := by rw [e7]; exact hH
    have f_pb : h6 pb = some (.inl ((t 0), n, .inl (upd f j (vp_nar .byte 0)))) := by rw [e7]; exact hu_s _ _ _
    have hkp : kp [pb] h h6 := by rw [e7]; exact kp_put hkp (by simp)
    refine lv_iinc (v := nI (j + 1)) (lv' := [(2, .int (nI (j + 1))), (0, .ref pb), (1, .int 0), (3, .int (nI n))]) hx hb d_Ar_fill_14 hl (k := 0) rfl (nI_1 j) (by decide) rfl (fun ls hl => ?_)
    refine lv_goto (tgt := 5) hx hb d_Ar_fill_17 (by decide) ?_
    exact ih (n - (j + 1)) ls _ locs _ (by rw [hk]; omega) ⟨(j + 1), rfl, (lv_sub hl [0, 1, 2, 3] rfl), hH, hz, hLo, hkp, ⟨_, sb_fitU hfit (fitNar _), f_pb⟩, by omega⟩

set_option maxHeartbeats 4000000 in
set_option maxRecDepth 100000 in
theorem c_Page_clear (l : Launch) (D : va_G) (t : Nat → ClassId) (G : hG) (ak av : Nat → Nat) (h : hM) (h0 pb n : Nat) (f_h0 : h h0 = some (.inr (3, [.ref pb]))) (hpb : pgF t h pb n) (hn : n < 2 ^ 31) : Met l y_Pg_clear (.code y_Pg_clear b_Pg_clear 1 none :: lw_g) { frames := 1, cells := 0, slots := 0, locals := 23 } (hP (kE D t G ak av) D vwCl G h [.ref h0]) (hQv D vwCl G (fun h' => kp [pb] h h' ∧ pgF t h' pb n)) 0 0 G.P := by
  refine Met.ofW (cc := b_Pg_clear) (maxL := 1) (ret := none) (by decide) rfl ?_
  intro p e s m args below meth c s₁ Bd hml hv
  obtain ⟨ha, hE, hH⟩ := hv
  have hx := Bd.exec
  have hb := Bd.bytes
  have hr := Bd.returns
  have hts : ∀ w ∈ lw_g, w.before args s = true := fun w hw => atoms_spec (ws := (.code y_Pg_clear b_Pg_clear 1 none :: lw_g)) Bd.pre w (List.mem_cons_of_mem _ hw)
  have hown : s.vm.findClass R_Pg = some m.cls := findClass_of_methodNamed Bd.named
  have hlocks := Bd.notSynchronized
  have hK := hE.1
  have hH0 := hH
  have hLo : hLc G.P [] := hLc_nil
  have hz : s.heap.size ≤ s.heap.size := Nat.le_refl _
  have hkp : kp [pb] h h := kp_rf
  have hl := lv_entry [.ref h0] (n := 1) (Nat.le_of_ble_eq_true rfl)
  rw [show entryFrame m args 1 = F0 m 0 ((lg_sl [.ref h0] ++ List.replicate (1 - (lg_sl [.ref h0]).length) Slot.unset).toArray) [] from (by rw [ha]; exact lg_entry_eq m [.ref h0] 1)]
  generalize (lg_sl [.ref h0] ++ List.replicate (1 - (lg_sl [.ref h0]).length) Slot.unset).toArray = ls at hl ⊢
  have hl : lv_has ls 1 [(0, .ref h0)] := hl
  obtain ⟨f, hfit, f_pb⟩ := hpb
  refine lv_aload_n hx hb d_Pg_clear_0 rfl (lv_at hl 0 rfl) ?_
  refine hm_get (ci := 3) (v := .ref pb) (C := R_Pg) (T := F_Pg) (N := 1) hx hb hts ig_Pg hown hK hH f_h0 rfl 0 (by decide) (hts _ mw_24) (fun _ h9 => h9) rfl d_Pg_clear_1 ?_
  refine lv_iconst (v := 0) hx hb d_Pg_clear_4 (by decide) ?_
  refine hm_callv (va_runS (As := [.ref pb, .int 0]) (rest := []) ⟨hx, hb, hml, hown, hts⟩ (c_Ar_fill l D t G ak av h pb n ⟨f, hfit, f_pb⟩ hn) ⟨cw9B 2 hts mw_94 mw_96 mw_95 rfl rfl (by decide +kernel) ⟨Nat.le_of_ble_eq_true rfl, Nat.le_of_ble_eq_true rfl⟩, hts _ mw_97⟩ (hP_S kE_ok hE hH) rfl rfl hl.1 rfl (lv_room (Nat.le_of_ble_eq_true rfl)) d_Pg_clear_5 ⟨Nat.le_of_ble_eq_true rfl, Nat.le_of_ble_eq_true rfl⟩) hLo (fun h1 H2 locs hp4 hH z3 hLo => ?_)
  have hz : s.heap.size ≤ H2.size := Nat.le_trans hz z3
  obtain ⟨hk9, f, hfit, f_pb2⟩ := hp4
  have f_h0 : h1 h0 = some (.inr (3, [.ref pb])) := kp_at hk9 f_h0 (nmc (Ne.symm (h_neA f_pb f_h0)) nm0)
  have hkp : kp [pb] h h1 := kp_tr2 hkp hk9 (List.forall_mem_cons.mpr ⟨Or.inl (by simp), List.forall_mem_nil _⟩)
  have f_pb : h1 pb = some (.inl ((t 0), n, .inl f)) := f_pb2
  exact W.vret hx hb hr (fun t9 ht hW => ⟨h1, rfl, ⟨hkp, f, hfit, f_pb⟩, by rw [ht]; exact hH, by rw [ht]; exact hz⟩) hLo d_Pg_clear_8

set_option maxHeartbeats 4000000 in
set_option maxRecDepth 100000 in
theorem c_Page_putText (l : Launch) (D : va_G) (t : Nat → ClassId) (G : hG) (ak av : Nat → Nat) (h : hM) (h0 pb n i : Nat) (at_ : Int32) (f_h0 : h h0 = some (.inr (3, [.ref pb]))) (hpb : pgF t h pb n) (hn : n < 2 ^ 31) (hi : i < 2) : Met l y_Pg_putText (.code y_Pg_putText b_Pg_putText 4 none :: lw_g) { frames := 4, cells := 0, slots := 0, locals := 85 } (hP (kE D t G ak av) D vwCl G h [.ref h0, .int at_, .ref (ak i)]) (hQv D vwCl G (fun h' => kp [pb] h h' ∧ pgF t h' pb n)) 0 0 G.P := by
  refine Met.ofW (cc := b_Pg_putText) (maxL := 4) (ret := none) (by decide) rfl ?_
  intro p e s m args below meth c s₁ Bd hml hv
  obtain ⟨ha, hE, hH⟩ := hv
  have hx := Bd.exec
  have hb := Bd.bytes
  have hr := Bd.returns
  have hts : ∀ w ∈ lw_g, w.before args s = true := fun w hw => atoms_spec (ws := (.code y_Pg_putText b_Pg_putText 4 none :: lw_g)) Bd.pre w (List.mem_cons_of_mem _ hw)
  have hown : s.vm.findClass R_Pg = some m.cls := findClass_of_methodNamed Bd.named
  have hlocks := Bd.notSynchronized
  have hK := hE.1
  have hH0 := hH
  have hLo : hLc G.P [] := hLc_nil
  have hz : s.heap.size ≤ s.heap.size := Nat.le_refl _
  have hkp : kp [pb] h h := kp_rf
  have hl := lv_entry [.ref h0, .int at_, .ref (ak i)] (n := 4) (Nat.le_of_ble_eq_true rfl)
  rw [show entryFrame m args 4 = F0 m 0 ((lg_sl [.ref h0, .int at_, .ref (ak i)] ++ List.replicate (4 - (lg_sl [.ref h0, .int at_, .ref (ak i)]).length) Slot.unset).toArray) [] from (by rw [ha]; exact lg_entry_eq m [.ref h0, .int at_, .ref (ak i)] 4)]
  generalize (lg_sl [.ref h0, .int at_, .ref (ak i)] ++ List.replicate (4 - (lg_sl [.ref h0, .int at_, .ref (ak i)]).length) Slot.unset).toArray = ls at hl ⊢
  have hl : lv_has ls 4 [(0, .ref h0), (1, .int at_), (2, .ref (ak i))] := hl
  obtain ⟨f, hfit, f_pb⟩ := hpb
  have hZ := K9 hE.2.2.2.2 hH0
  refine lv_iconst (v := 0) hx hb d_Pg_putText_0 (by decide) ?_
  refine lv_topi (fun v1 e2 => ?_)
  obtain rfl : v1 = nI 0 := e2.trans (nI_0.symm)
  refine lv_istore_n (lv' := [(3, .int (nI 0)), (0, .ref h0), (1, .int at_), (2, .ref (ak i))]) hx hb d_Pg_putText_1 rfl hl (by decide) rfl (fun ls hl => ?_)
  refine hm_loop (fun k ls H locs hh => ∃ (j : Nat), k = sLen.getD i 0 - j ∧ lv_has ls 4 [(3, .int (nI j)), (0, .ref h0), (1, .int at_), (2, .ref (ak i))] ∧ hm D vwCl G hh H ∧ s.heap.size ≤ H.size ∧ hLc G.P locs ∧ kp [pb] h hh ∧ hh h0 = some (.inr (3, [.ref pb])) ∧ (pgF t hh pb n) ∧ (j ≤ sLen.getD i 0)) ?_ (hh := h) ⟨0, rfl, (lv_sub hl [0, 1, 2, 3] rfl), hH, hz, hLo, hkp, f_h0, ⟨f, hfit, f_pb⟩, by omega⟩
  rintro k ls H locs hh ⟨j, hk, hl, hH, hz, hLo, hkp, f_h0, hpb, hj⟩ ih
  obtain ⟨f, hfit, f_pb⟩ := hpb
  have hS := S9 hH0 hH hz hLo
  refine lv_iload_n hx hb d_Pg_putText_2 rfl (lv_at hl 0 rfl) ?_
  refine lv_aload_n hx hb d_Pg_putText_3 rfl (lv_at hl 3 rfl) ?_
  have hS := S9 hH0 hH hz hLo
  refine hm_calli (va_runV (As := []) (b := ak i) (rest := [.int (nI j)]) ⟨hx, hb, hml, hown, hts⟩ (c_St_length l D t G ak av hh i hi) ⟨cw9B 0 hts mw_98 mw_99 mw_74 rfl rfl (by decide +kernel) ⟨Nat.le_of_ble_eq_true rfl, Nat.le_of_ble_eq_true rfl⟩, hts _ mw_100, hts _ mw_101⟩ (hP_W kE_ok hE hH (vk_recv hZ hi hS)) rfl rfl hl.1 rfl (lv_room (Nat.le_of_ble_eq_true rfl)) d_Pg_putText_4 ⟨Nat.le_of_ble_eq_true rfl, Nat.le_of_ble_eq_true rfl⟩) hLo (fun r3 h4 H5 locs hp7 hH z6 hLo => ?_)
  have hz : s.heap.size ≤ H5.size := Nat.le_trans hz z6
  obtain ⟨rfl, rfl⟩ := hp7
  refine lv_icmp_ge (tgt := 28) hx hb d_Pg_putText_7 (by decide) (fun hc8 => ?_) (fun hc8 => ?_)
  · skip
    exact W.vret hx hb hr (fun t9 ht hW => ⟨hh, rfl, ⟨hkp, f, hfit, f_pb⟩, by rw [ht]; exact hH, by rw [ht]; exact hz⟩) hLo d_Pg_putText_28
  · skip
    have hin : j < sLen.getD i 0 := by
      have h8 := mt (nI_leI (sl_lt hi) (Nat.lt_of_le_of_lt hj (sl_lt hi))).mpr hc8
      omega
    refine lv_aload_n hx hb d_Pg_putText_10 rfl (lv_at hl 1 rfl) ?_
    refine lv_iload_n hx hb d_Pg_putText_11 rfl (lv_at hl 2 rfl) ?_
    refine lv_iload_n hx hb d_Pg_putText_12 rfl (lv_at hl 0 rfl) ?_
    refine lv_iadd hx hb d_Pg_putText_13 ?_
    refine lv_aload_n hx hb d_Pg_putText_14 rfl (lv_at hl 3 rfl) ?_
    refine lv_iload_n hx hb d_Pg_putText_15 rfl (lv_at hl 0 rfl) ?_
    have hS := S9 hH0 hH hz hLo
    refine hm_calli (va_runV (As := [.int (nI j)]) (b := ak i) (rest := [.int (at_ + (nI j)), .ref h0]) ⟨hx, hb, hml, hown, hts⟩ (c_St_charAt l D t G ak av hh i j hi hin) ⟨cw9B 1 hts mw_102 mw_103 mw_74 rfl rfl (by decide +kernel) ⟨Nat.le_of_ble_eq_true rfl, Nat.le_of_ble_eq_true rfl⟩, hts _ mw_104, hts _ mw_105⟩ (hP_W kE_ok hE hH (vk_recv hZ hi hS)) rfl rfl hl.1 rfl (lv_room (Nat.le_of_ble_eq_true rfl)) d_Pg_putText_16 ⟨Nat.le_of_ble_eq_true rfl, Nat.le_of_ble_eq_true rfl⟩) hLo (fun r9 h10 H11 locs hp13 hH z12 hLo => ?_)
    have hz : s.heap.size ≤ H11.size := Nat.le_trans hz z12
    obtain ⟨hn9, rfl⟩ := hp13
    refine hm_callv (va_runV (As := [.int (at_ + (nI j)), .int r9]) (b := h0) (rest := []) ⟨hx, hb, hml, hown, hts⟩ (c_Page_put l D t G ak av hh h0 pb n (at_ + (nI j)) r9 f_h0 ⟨f, hfit, f_pb⟩ hn) ⟨cw9B 2 hts mw_66 mw_67 mw_52 rfl rfl (by decide +kernel) ⟨Nat.le_of_ble_eq_true rfl, Nat.le_of_ble_eq_true rfl⟩, hts _ mw_68, hts _ mw_69⟩ (hP_V (q := (R_Pg, F_Pg, 1)) kE_ok hE hK hH f_h0 rfl) rfl rfl hl.1 rfl (lv_room (Nat.le_of_ble_eq_true rfl)) d_Pg_putText_19 ⟨Nat.le_of_ble_eq_true rfl, Nat.le_of_ble_eq_true rfl⟩) hLo (fun h14 H15 locs hp17 hH z16 hLo => ?_)
    have hz : s.heap.size ≤ H15.size := Nat.le_trans hz z16
    obtain ⟨hk9, f, hfit, f_pb2⟩ := hp17
    have f_h0 : h14 h0 = some (.inr (3, [.ref pb])) := kp_at hk9 f_h0 (nmc (Ne.symm (h_neA f_pb f_h0)) nm0)
    have hkp : kp [pb] h h14 := kp_tr2 hkp hk9 (List.forall_mem_cons.mpr ⟨Or.inl (by simp), List.forall_mem_nil _⟩)
    have f_pb : h14 pb = some (.inl ((t 0), n, .inl f)) := f_pb2
    refine lv_iinc (v := nI (j + 1)) (lv' := [(3, .int (nI (j + 1))), (0, .ref h0), (1, .int at_), (2, .ref (ak i))]) hx hb d_Pg_putText_22 hl (k := 0) rfl (nI_1 j) (by decide) rfl (fun ls hl => ?_)
    refine lv_goto (tgt := 2) hx hb d_Pg_putText_25 (by decide) ?_
    exact ih (sLen.getD i 0 - (j + 1)) ls _ locs _ (by rw [hk]; omega) ⟨(j + 1), rfl, (lv_sub hl [0, 1, 2, 3] rfl), hH, hz, hLo, hkp, f_h0, ⟨f, hfit, f_pb⟩, by omega⟩
