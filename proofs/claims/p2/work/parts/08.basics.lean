set_option maxRecDepth 100000 in
theorem mw_24 : Cond.code y_Di_isNameByte b_Di_isNameByte 1 (some .boolean) ∈ lw_g := lw_gin (List.mem_append_right _ (List.mem_of_getElem? (i := 305) rfl)) (by decide +kernel)
set_option maxRecDepth 100000 in
theorem mw_25 : Cond.initialized R_Di ∈ lw_g := lw_gin (List.mem_append_right _ (List.mem_of_getElem? (i := 1) rfl)) (by decide +kernel)
set_option maxRecDepth 100000 in
theorem mw_26 : Cond.methodLink R_Di 241 y_Di_isNameByte ∈ lw_g := lw_gin (List.mem_append_right _ (List.mem_of_getElem? (i := 303) rfl)) (by decide +kernel)
set_option maxRecDepth 100000 in
theorem mw_27 : Cond.static y_Di_isNameByte ∈ lw_g := lw_gin (List.mem_append_right _ (List.mem_of_getElem? (i := 304) rfl)) (by decide +kernel)
set_option maxRecDepth 100000 in
theorem mw_28 : Cond.fieldLink R_Me 17 "WriteOnceDisc$Medium" "sectors" "[LWriteOnceDisc$Sector;" ∈ lw_g := lw_gin (List.mem_append_right _ (List.mem_of_getElem? (i := 224) rfl)) (by decide +kernel)
set_option maxRecDepth 100000 in
theorem mw_29 : Cond.fieldLink R_Me 25 "WriteOnceDisc$Sector" "condition" "I" ∈ lw_g := lw_gin (List.mem_append_right _ (List.mem_of_getElem? (i := 211) rfl)) (by decide +kernel)
theorem d_Di_isContent_0 : decode b_Di_isContent 0 = .ok (.iload_n 0, 1) := by decide +kernel
theorem d_Di_isContent_1 : decode b_Di_isContent 1 = .ok (.ifCond .lt 25, 3) := by decide +kernel
theorem d_Di_isContent_26 : decode b_Di_isContent 26 = .ok (.iconst 0, 1) := by decide +kernel
theorem d_Di_isContent_27 : decode b_Di_isContent 27 = .ok (.ireturn, 1) := by decide +kernel
theorem d_Di_isContent_4 : decode b_Di_isContent 4 = .ok (.iload_n 0, 1) := by decide +kernel
theorem d_Di_isContent_5 : decode b_Di_isContent 5 = .ok (.sipush 6000, 3) := by decide +kernel
theorem d_Di_isContent_8 : decode b_Di_isContent 8 = .ok (.if_icmp .gt 18, 3) := by decide +kernel
theorem d_Di_isContent_11 : decode b_Di_isContent 11 = .ok (.iload_n 1, 1) := by decide +kernel
theorem d_Di_isContent_12 : decode b_Di_isContent 12 = .ok (.ifCond .lt 14, 3) := by decide +kernel
theorem d_Di_isContent_15 : decode b_Di_isContent 15 = .ok (.iload_n 1, 1) := by decide +kernel
theorem d_Di_isContent_16 : decode b_Di_isContent 16 = .ok (.sipush 255, 3) := by decide +kernel
theorem d_Di_isContent_19 : decode b_Di_isContent 19 = .ok (.if_icmp .gt 7, 3) := by decide +kernel
theorem d_Di_isContent_22 : decode b_Di_isContent 22 = .ok (.iconst 1, 1) := by decide +kernel
theorem d_Di_isContent_23 : decode b_Di_isContent 23 = .ok (.goto 4, 3) := by decide +kernel
theorem d_Di_isNameByte_0 : decode b_Di_isNameByte 0 = .ok (.iload_n 0, 1) := by decide +kernel
theorem d_Di_isNameByte_1 : decode b_Di_isNameByte 1 = .ok (.bipush 65, 2) := by decide +kernel
theorem d_Di_isNameByte_3 : decode b_Di_isNameByte 3 = .ok (.if_icmp .lt 9, 3) := by decide +kernel
theorem d_Di_isNameByte_12 : decode b_Di_isNameByte 12 = .ok (.iload_n 0, 1) := by decide +kernel
theorem d_Di_isNameByte_13 : decode b_Di_isNameByte 13 = .ok (.bipush 48, 2) := by decide +kernel
theorem d_Di_isNameByte_15 : decode b_Di_isNameByte 15 = .ok (.if_icmp .lt 9, 3) := by decide +kernel
theorem d_Di_isNameByte_24 : decode b_Di_isNameByte 24 = .ok (.iload_n 0, 1) := by decide +kernel
theorem d_Di_isNameByte_25 : decode b_Di_isNameByte 25 = .ok (.bipush 95, 2) := by decide +kernel
theorem d_Di_isNameByte_27 : decode b_Di_isNameByte 27 = .ok (.if_icmp .ne 7, 3) := by decide +kernel
theorem d_Di_isNameByte_34 : decode b_Di_isNameByte 34 = .ok (.iconst 0, 1) := by decide +kernel
theorem d_Di_isNameByte_35 : decode b_Di_isNameByte 35 = .ok (.ireturn, 1) := by decide +kernel
theorem d_Di_isNameByte_30 : decode b_Di_isNameByte 30 = .ok (.iconst 1, 1) := by decide +kernel
theorem d_Di_isNameByte_31 : decode b_Di_isNameByte 31 = .ok (.goto 4, 3) := by decide +kernel
theorem d_Di_isNameByte_18 : decode b_Di_isNameByte 18 = .ok (.iload_n 0, 1) := by decide +kernel
theorem d_Di_isNameByte_19 : decode b_Di_isNameByte 19 = .ok (.bipush 57, 2) := by decide +kernel
theorem d_Di_isNameByte_21 : decode b_Di_isNameByte 21 = .ok (.if_icmp .le 9, 3) := by decide +kernel
theorem d_Di_isNameByte_6 : decode b_Di_isNameByte 6 = .ok (.iload_n 0, 1) := by decide +kernel
theorem d_Di_isNameByte_7 : decode b_Di_isNameByte 7 = .ok (.bipush 90, 2) := by decide +kernel
theorem d_Di_isNameByte_9 : decode b_Di_isNameByte 9 = .ok (.if_icmp .le 21, 3) := by decide +kernel
theorem d_Di_evened_0 : decode b_Di_evened 0 = .ok (.iload_n 0, 1) := by decide +kernel
theorem d_Di_evened_1 : decode b_Di_evened 1 = .ok (.iload_n 0, 1) := by decide +kernel
theorem d_Di_evened_2 : decode b_Di_evened 2 = .ok (.iconst 2, 1) := by decide +kernel
theorem d_Di_evened_3 : decode b_Di_evened 3 = .ok (.irem, 1) := by decide +kernel
theorem d_Di_evened_4 : decode b_Di_evened 4 = .ok (.iadd, 1) := by decide +kernel
theorem d_Di_evened_5 : decode b_Di_evened 5 = .ok (.ireturn, 1) := by decide +kernel
theorem d_Di_nameIn_0 : decode b_Di_nameIn 0 = .ok (.lconst 0, 1) := by decide +kernel
theorem d_Di_nameIn_1 : decode b_Di_nameIn 1 = .ok (.lstore_n 2, 1) := by decide +kernel
theorem d_Di_nameIn_2 : decode b_Di_nameIn 2 = .ok (.bipush 56, 2) := by decide +kernel
theorem d_Di_nameIn_4 : decode b_Di_nameIn 4 = .ok (.istore 4, 2) := by decide +kernel
theorem d_Di_nameIn_6 : decode b_Di_nameIn 6 = .ok (.iload 4, 2) := by decide +kernel
theorem d_Di_nameIn_8 : decode b_Di_nameIn 8 = .ok (.ifCond .lt 49, 3) := by decide +kernel
theorem d_Di_nameIn_57 : decode b_Di_nameIn 57 = .ok (.lload_n 2, 1) := by decide +kernel
theorem d_Di_nameIn_58 : decode b_Di_nameIn 58 = .ok (.lreturn, 1) := by decide +kernel
theorem d_Di_nameIn_11 : decode b_Di_nameIn 11 = .ok (.lload_n 0, 1) := by decide +kernel
theorem d_Di_nameIn_12 : decode b_Di_nameIn 12 = .ok (.iload 4, 2) := by decide +kernel
theorem d_Di_nameIn_14 : decode b_Di_nameIn 14 = .ok (.lushr, 1) := by decide +kernel
theorem d_Di_nameIn_15 : decode b_Di_nameIn 15 = .ok (.l2i, 1) := by decide +kernel
theorem d_Di_nameIn_16 : decode b_Di_nameIn 16 = .ok (.sipush 255, 3) := by decide +kernel
theorem d_Di_nameIn_19 : decode b_Di_nameIn 19 = .ok (.iand, 1) := by decide +kernel
theorem d_Di_nameIn_20 : decode b_Di_nameIn 20 = .ok (.istore 5, 2) := by decide +kernel
theorem d_Di_nameIn_22 : decode b_Di_nameIn 22 = .ok (.iload 5, 2) := by decide +kernel
theorem d_Di_nameIn_24 : decode b_Di_nameIn 24 = .ok (.ifCond .eq 13, 3) := by decide +kernel
theorem d_Di_nameIn_37 : decode b_Di_nameIn 37 = .ok (.iload 5, 2) := by decide +kernel
theorem d_Di_nameIn_39 : decode b_Di_nameIn 39 = .ok (.ifCond .eq 12, 3) := by decide +kernel
theorem d_Di_nameIn_51 : decode b_Di_nameIn 51 = .ok (.iinc 4 (-8), 3) := by decide +kernel
theorem d_Di_nameIn_54 : decode b_Di_nameIn 54 = .ok (.goto (-48), 3) := by decide +kernel
theorem d_Di_nameIn_42 : decode b_Di_nameIn 42 = .ok (.lload_n 2, 1) := by decide +kernel
theorem d_Di_nameIn_43 : decode b_Di_nameIn 43 = .ok (.bipush 8, 2) := by decide +kernel
theorem d_Di_nameIn_45 : decode b_Di_nameIn 45 = .ok (.lshl, 1) := by decide +kernel
theorem d_Di_nameIn_46 : decode b_Di_nameIn 46 = .ok (.iload 5, 2) := by decide +kernel
theorem d_Di_nameIn_48 : decode b_Di_nameIn 48 = .ok (.i2l, 1) := by decide +kernel
theorem d_Di_nameIn_49 : decode b_Di_nameIn 49 = .ok (.lor, 1) := by decide +kernel
theorem d_Di_nameIn_50 : decode b_Di_nameIn 50 = .ok (.lstore_n 2, 1) := by decide +kernel
theorem d_Di_nameIn_27 : decode b_Di_nameIn 27 = .ok (.iload 5, 2) := by decide +kernel
theorem d_Di_nameIn_29 : decode b_Di_nameIn 29 = .ok (.invokestatic 241, 3) := by decide +kernel
theorem d_Di_nameIn_32 : decode b_Di_nameIn 32 = .ok (.ifCond .ne 5, 3) := by decide +kernel
theorem d_Di_nameIn_35 : decode b_Di_nameIn 35 = .ok (.lconst 0, 1) := by decide +kernel
theorem d_Di_nameIn_36 : decode b_Di_nameIn 36 = .ok (.lreturn, 1) := by decide +kernel
theorem d_Me_has_0 : decode b_Me_has 0 = .ok (.iload_n 1, 1) := by decide +kernel
theorem d_Me_has_1 : decode b_Me_has 1 = .ok (.ifCond .lt 16, 3) := by decide +kernel
theorem d_Me_has_17 : decode b_Me_has 17 = .ok (.iconst 0, 1) := by decide +kernel
theorem d_Me_has_18 : decode b_Me_has 18 = .ok (.ireturn, 1) := by decide +kernel
theorem d_Me_has_4 : decode b_Me_has 4 = .ok (.iload_n 1, 1) := by decide +kernel
theorem d_Me_has_5 : decode b_Me_has 5 = .ok (.aload_n 0, 1) := by decide +kernel
theorem d_Me_has_6 : decode b_Me_has 6 = .ok (.getfield 17, 3) := by decide +kernel
theorem d_Me_has_9 : decode b_Me_has 9 = .ok (.arraylength, 1) := by decide +kernel
theorem d_Me_has_10 : decode b_Me_has 10 = .ok (.if_icmp .ge 7, 3) := by decide +kernel
theorem d_Me_has_13 : decode b_Me_has 13 = .ok (.iconst 1, 1) := by decide +kernel
theorem d_Me_has_14 : decode b_Me_has 14 = .ok (.goto 4, 3) := by decide +kernel
theorem d_Me_isWritten_0 : decode b_Me_isWritten 0 = .ok (.iload_n 1, 1) := by decide +kernel
theorem d_Me_isWritten_1 : decode b_Me_isWritten 1 = .ok (.ifCond .lt 29, 3) := by decide +kernel
theorem d_Me_isWritten_30 : decode b_Me_isWritten 30 = .ok (.iconst 0, 1) := by decide +kernel
theorem d_Me_isWritten_31 : decode b_Me_isWritten 31 = .ok (.ireturn, 1) := by decide +kernel
theorem d_Me_isWritten_4 : decode b_Me_isWritten 4 = .ok (.iload_n 1, 1) := by decide +kernel
theorem d_Me_isWritten_5 : decode b_Me_isWritten 5 = .ok (.aload_n 0, 1) := by decide +kernel
theorem d_Me_isWritten_6 : decode b_Me_isWritten 6 = .ok (.getfield 17, 3) := by decide +kernel
theorem d_Me_isWritten_9 : decode b_Me_isWritten 9 = .ok (.arraylength, 1) := by decide +kernel
theorem d_Me_isWritten_10 : decode b_Me_isWritten 10 = .ok (.if_icmp .ge 20, 3) := by decide +kernel
theorem d_Me_isWritten_13 : decode b_Me_isWritten 13 = .ok (.aload_n 0, 1) := by decide +kernel
theorem d_Me_isWritten_14 : decode b_Me_isWritten 14 = .ok (.getfield 17, 3) := by decide +kernel
theorem d_Me_isWritten_17 : decode b_Me_isWritten 17 = .ok (.iload_n 1, 1) := by decide +kernel
theorem d_Me_isWritten_18 : decode b_Me_isWritten 18 = .ok (.aaload, 1) := by decide +kernel
theorem d_Me_isWritten_19 : decode b_Me_isWritten 19 = .ok (.getfield 25, 3) := by decide +kernel
theorem d_Me_isWritten_22 : decode b_Me_isWritten 22 = .ok (.iconst 1, 1) := by decide +kernel
theorem d_Me_isWritten_23 : decode b_Me_isWritten 23 = .ok (.if_icmp .ne 7, 3) := by decide +kernel
theorem d_Me_isWritten_26 : decode b_Me_isWritten 26 = .ok (.iconst 1, 1) := by decide +kernel
theorem d_Me_isWritten_27 : decode b_Me_isWritten 27 = .ok (.goto 4, 3) := by decide +kernel
theorem d_Me_hasRoom_0 : decode b_Me_hasRoom 0 = .ok (.iload_n 1, 1) := by decide +kernel
theorem d_Me_hasRoom_1 : decode b_Me_hasRoom 1 = .ok (.aload_n 0, 1) := by decide +kernel
theorem d_Me_hasRoom_2 : decode b_Me_hasRoom 2 = .ok (.getfield 17, 3) := by decide +kernel
theorem d_Me_hasRoom_5 : decode b_Me_hasRoom 5 = .ok (.arraylength, 1) := by decide +kernel
theorem d_Me_hasRoom_6 : decode b_Me_hasRoom 6 = .ok (.iload_n 2, 1) := by decide +kernel
theorem d_Me_hasRoom_7 : decode b_Me_hasRoom 7 = .ok (.isub, 1) := by decide +kernel
theorem d_Me_hasRoom_8 : decode b_Me_hasRoom 8 = .ok (.if_icmp .gt 7, 3) := by decide +kernel
theorem d_Me_hasRoom_15 : decode b_Me_hasRoom 15 = .ok (.iconst 0, 1) := by decide +kernel
theorem d_Me_hasRoom_16 : decode b_Me_hasRoom 16 = .ok (.ireturn, 1) := by decide +kernel
theorem d_Me_hasRoom_11 : decode b_Me_hasRoom 11 = .ok (.iconst 1, 1) := by decide +kernel
theorem d_Me_hasRoom_12 : decode b_Me_hasRoom 12 = .ok (.goto 4, 3) := by decide +kernel
set_option maxHeartbeats 4000000 in
set_option maxRecDepth 100000 in
theorem t_isContent (l : Launch) (D : va_G) (t : Nat → ClassId) (G : hG) (ak av : Nat → Nat) (h : hM) (τ : tM) (n : Nat) (sz : Int32) (sd : Int32) (hn : n ≤ 200) (hT : TI τ t n h) : Met l y_Di_isContent (.code y_Di_isContent b_Di_isContent 2 (some .boolean) :: lw_g) { frames := 0, cells := 0, slots := 0, locals := 0 } (hP (kE D t G ak av) D vwCl G h [.int sz, .int sd]) (hQi D vwCl G (fun r h' => zb r ∧ h = h')) 0 0 nof := by
  refine Met.ofW (cc := b_Di_isContent) (maxL := 2) (ret := (some .boolean)) (by decide) rfl ?_
  intro p e s m args below meth c s₁ Bd hml hv
  obtain ⟨ha, hE, hH⟩ := hv
  have hx := Bd.exec
  have hb := Bd.bytes
  have hr := Bd.returns
  have hts : ∀ w ∈ lw_g, w.before args s = true := fun w hw => atoms_spec (ws := (.code y_Di_isContent b_Di_isContent 2 (some .boolean) :: lw_g)) Bd.pre w (List.mem_cons_of_mem _ hw)
  have hown : s.vm.findClass R_Di = some m.cls := findClass_of_methodNamed Bd.named
  have hlocks := Bd.notSynchronized
  have hK := hE.1
  have hH0 := hH
  have hLo : hLc nof [] := hLc_nil
  have hz : s.heap.size ≤ s.heap.size := Nat.le_refl _
  have hl := lv_entry [.int sz, .int sd] (n := 2) (Nat.le_of_ble_eq_true rfl)
  rw [show entryFrame m args 2 = F0 m 0 ((lg_sl [.int sz, .int sd] ++ List.replicate (2 - (lg_sl [.int sz, .int sd]).length) Slot.unset).toArray) [] from (by rw [ha]; exact lg_entry_eq m [.int sz, .int sd] 2)]
  generalize (lg_sl [.int sz, .int sd] ++ List.replicate (2 - (lg_sl [.int sz, .int sd]).length) Slot.unset).toArray = ls at hl ⊢
  have hl : lv_has ls 2 [(0, .int sz), (1, .int sd)] := hl
  refine lv_iload_n hx hb d_Di_isContent_0 rfl (lv_at hl 0 rfl) ?_
  refine lv_if_lt (tgt := 26) hx hb d_Di_isContent_1 (by decide) (fun hc_1 => ?_) (fun hc_1 => ?_)
  · skip
    have ic_2 : sz.toInt < 0 := iLt hc_1
    refine lv_iconst (v := 0) hx hb d_Di_isContent_26 (by decide) ?_
    exact W.zret (v := 0) hx hb hr (by decide) (fun t9 ht hW => ⟨0, h, rfl, ⟨zb0, rfl⟩, by rw [ht]; exact hH, by rw [ht]; exact hz⟩) hLo d_Di_isContent_27
  · skip
    have ic_3 : 0 ≤ sz.toInt := iNl hc_1
    refine lv_iload_n hx hb d_Di_isContent_4 rfl (lv_at hl 0 rfl) ?_
    refine lv_sipush (v := 6000) hx hb d_Di_isContent_5 (by decide) ?_
    refine lv_icmp_gt (tgt := 26) hx hb d_Di_isContent_8 (by decide) (fun hc_4 => ?_) (fun hc_4 => ?_)
    · skip
      have ic_5 : 6000 < sz.toInt := iLt hc_4
      have iu_6 : sz.toInt < 2147483648 := iUp _
      refine lv_iconst (v := 0) hx hb d_Di_isContent_26 (by decide) ?_
      exact W.zret (v := 0) hx hb hr (by decide) (fun t9 ht hW => ⟨0, h, rfl, ⟨zb0, rfl⟩, by rw [ht]; exact hH, by rw [ht]; exact hz⟩) hLo d_Di_isContent_27
    · skip
      have ic_7 : sz.toInt ≤ 6000 := iNl hc_4
      refine lv_iload_n hx hb d_Di_isContent_11 rfl (lv_at hl 1 rfl) ?_
      refine lv_if_lt (tgt := 26) hx hb d_Di_isContent_12 (by decide) (fun hc_8 => ?_) (fun hc_8 => ?_)
      · skip
        have ic_9 : sd.toInt < 0 := iLt hc_8
        refine lv_iconst (v := 0) hx hb d_Di_isContent_26 (by decide) ?_
        exact W.zret (v := 0) hx hb hr (by decide) (fun t9 ht hW => ⟨0, h, rfl, ⟨zb0, rfl⟩, by rw [ht]; exact hH, by rw [ht]; exact hz⟩) hLo d_Di_isContent_27
      · skip
        have ic_10 : 0 ≤ sd.toInt := iNl hc_8
        refine lv_iload_n hx hb d_Di_isContent_15 rfl (lv_at hl 1 rfl) ?_
        refine lv_sipush (v := 255) hx hb d_Di_isContent_16 (by decide) ?_
        refine lv_icmp_gt (tgt := 26) hx hb d_Di_isContent_19 (by decide) (fun hc_11 => ?_) (fun hc_11 => ?_)
        · skip
          have ic_12 : 255 < sd.toInt := iLt hc_11
          have iu_13 : sd.toInt < 2147483648 := iUp _
          refine lv_iconst (v := 0) hx hb d_Di_isContent_26 (by decide) ?_
          exact W.zret (v := 0) hx hb hr (by decide) (fun t9 ht hW => ⟨0, h, rfl, ⟨zb0, rfl⟩, by rw [ht]; exact hH, by rw [ht]; exact hz⟩) hLo d_Di_isContent_27
        · skip
          have ic_14 : sd.toInt ≤ 255 := iNl hc_11
          refine lv_iconst (v := 1) hx hb d_Di_isContent_22 (by decide) ?_
          refine lv_goto (tgt := 27) hx hb d_Di_isContent_23 (by decide) ?_
          exact W.zret (v := 1) hx hb hr (by decide) (fun t9 ht hW => ⟨1, h, rfl, ⟨zb1, rfl⟩, by rw [ht]; exact hH, by rw [ht]; exact hz⟩) hLo d_Di_isContent_27

set_option maxHeartbeats 4000000 in
set_option maxRecDepth 100000 in
theorem t_isNameByte (l : Launch) (D : va_G) (t : Nat → ClassId) (G : hG) (ak av : Nat → Nat) (h : hM) (τ : tM) (n : Nat) (c9 : Int32) (hn : n ≤ 200) (hT : TI τ t n h) : Met l y_Di_isNameByte (.code y_Di_isNameByte b_Di_isNameByte 1 (some .boolean) :: lw_g) { frames := 0, cells := 0, slots := 0, locals := 0 } (hP (kE D t G ak av) D vwCl G h [.int c9]) (hQi D vwCl G (fun r h' => zb r ∧ h = h')) 0 0 nof := by
  refine Met.ofW (cc := b_Di_isNameByte) (maxL := 1) (ret := (some .boolean)) (by decide) rfl ?_
  intro p e s m args below meth c s₁ Bd hml hv
  obtain ⟨ha, hE, hH⟩ := hv
  have hx := Bd.exec
  have hb := Bd.bytes
  have hr := Bd.returns
  have hts : ∀ w ∈ lw_g, w.before args s = true := fun w hw => atoms_spec (ws := (.code y_Di_isNameByte b_Di_isNameByte 1 (some .boolean) :: lw_g)) Bd.pre w (List.mem_cons_of_mem _ hw)
  have hown : s.vm.findClass R_Di = some m.cls := findClass_of_methodNamed Bd.named
  have hlocks := Bd.notSynchronized
  have hK := hE.1
  have hH0 := hH
  have hLo : hLc nof [] := hLc_nil
  have hz : s.heap.size ≤ s.heap.size := Nat.le_refl _
  have hl := lv_entry [.int c9] (n := 1) (Nat.le_of_ble_eq_true rfl)
  rw [show entryFrame m args 1 = F0 m 0 ((lg_sl [.int c9] ++ List.replicate (1 - (lg_sl [.int c9]).length) Slot.unset).toArray) [] from (by rw [ha]; exact lg_entry_eq m [.int c9] 1)]
  generalize (lg_sl [.int c9] ++ List.replicate (1 - (lg_sl [.int c9]).length) Slot.unset).toArray = ls at hl ⊢
  have hl : lv_has ls 1 [(0, .int c9)] := hl
  refine lv_iload_n hx hb d_Di_isNameByte_0 rfl (lv_at hl 0 rfl) ?_
  refine lv_bipush (v := 65) hx hb d_Di_isNameByte_1 (by decide) ?_
  refine lv_icmp_lt (tgt := 12) hx hb d_Di_isNameByte_3 (by decide) (fun hc_1 => ?_) (fun hc_1 => ?_)
  · skip
    have ic_2 : c9.toInt < 65 := iLt hc_1
    refine lv_iload_n hx hb d_Di_isNameByte_12 rfl (lv_at hl 0 rfl) ?_
    refine lv_bipush (v := 48) hx hb d_Di_isNameByte_13 (by decide) ?_
    refine lv_icmp_lt (tgt := 24) hx hb d_Di_isNameByte_15 (by decide) (fun hc_3 => ?_) (fun hc_3 => ?_)
    · skip
      have ic_4 : c9.toInt < 48 := iLt hc_3
      refine lv_iload_n hx hb d_Di_isNameByte_24 rfl (lv_at hl 0 rfl) ?_
      refine lv_bipush (v := 95) hx hb d_Di_isNameByte_25 (by decide) ?_
      refine lv_icmp_ne (tgt := 34) hx hb d_Di_isNameByte_27 (by decide) (fun hc_5 => ?_) (fun hc_5 => ?_)
      · skip
        refine lv_iconst (v := 0) hx hb d_Di_isNameByte_34 (by decide) ?_
        exact W.zret (v := 0) hx hb hr (by decide) (fun t9 ht hW => ⟨0, h, rfl, ⟨zb0, rfl⟩, by rw [ht]; exact hH, by rw [ht]; exact hz⟩) hLo d_Di_isNameByte_35
      · skip
        have ic_6 : c9.toInt = 95 := congrArg Int32.toInt hc_5
        refine lv_iconst (v := 1) hx hb d_Di_isNameByte_30 (by decide) ?_
        refine lv_goto (tgt := 35) hx hb d_Di_isNameByte_31 (by decide) ?_
        exact W.zret (v := 1) hx hb hr (by decide) (fun t9 ht hW => ⟨1, h, rfl, ⟨zb1, rfl⟩, by rw [ht]; exact hH, by rw [ht]; exact hz⟩) hLo d_Di_isNameByte_35
    · skip
      have ic_7 : 48 ≤ c9.toInt := iNl hc_3
      refine lv_iload_n hx hb d_Di_isNameByte_18 rfl (lv_at hl 0 rfl) ?_
      refine lv_bipush (v := 57) hx hb d_Di_isNameByte_19 (by decide) ?_
      refine lv_icmp_le (tgt := 30) hx hb d_Di_isNameByte_21 (by decide) (fun hc_8 => ?_) (fun hc_8 => ?_)
      · skip
        have ic_9 : c9.toInt ≤ 57 := iLe hc_8
        refine lv_iconst (v := 1) hx hb d_Di_isNameByte_30 (by decide) ?_
        refine lv_goto (tgt := 35) hx hb d_Di_isNameByte_31 (by decide) ?_
        exact W.zret (v := 1) hx hb hr (by decide) (fun t9 ht hW => ⟨1, h, rfl, ⟨zb1, rfl⟩, by rw [ht]; exact hH, by rw [ht]; exact hz⟩) hLo d_Di_isNameByte_35
      · skip
        have ic_10 : 57 < c9.toInt := iNe hc_8
        have iu_11 : c9.toInt < 2147483648 := iUp _
        refine lv_iload_n hx hb d_Di_isNameByte_24 rfl (lv_at hl 0 rfl) ?_
        refine lv_bipush (v := 95) hx hb d_Di_isNameByte_25 (by decide) ?_
        refine lv_icmp_ne (tgt := 34) hx hb d_Di_isNameByte_27 (by decide) (fun hc_12 => ?_) (fun hc_12 => ?_)
        · skip
          refine lv_iconst (v := 0) hx hb d_Di_isNameByte_34 (by decide) ?_
          exact W.zret (v := 0) hx hb hr (by decide) (fun t9 ht hW => ⟨0, h, rfl, ⟨zb0, rfl⟩, by rw [ht]; exact hH, by rw [ht]; exact hz⟩) hLo d_Di_isNameByte_35
        · skip
          have ic_13 : c9.toInt = 95 := congrArg Int32.toInt hc_12
          refine lv_iconst (v := 1) hx hb d_Di_isNameByte_30 (by decide) ?_
          refine lv_goto (tgt := 35) hx hb d_Di_isNameByte_31 (by decide) ?_
          exact W.zret (v := 1) hx hb hr (by decide) (fun t9 ht hW => ⟨1, h, rfl, ⟨zb1, rfl⟩, by rw [ht]; exact hH, by rw [ht]; exact hz⟩) hLo d_Di_isNameByte_35
  · skip
    have ic_14 : 65 ≤ c9.toInt := iNl hc_1
    refine lv_iload_n hx hb d_Di_isNameByte_6 rfl (lv_at hl 0 rfl) ?_
    refine lv_bipush (v := 90) hx hb d_Di_isNameByte_7 (by decide) ?_
    refine lv_icmp_le (tgt := 30) hx hb d_Di_isNameByte_9 (by decide) (fun hc_15 => ?_) (fun hc_15 => ?_)
    · skip
      have ic_16 : c9.toInt ≤ 90 := iLe hc_15
      refine lv_iconst (v := 1) hx hb d_Di_isNameByte_30 (by decide) ?_
      refine lv_goto (tgt := 35) hx hb d_Di_isNameByte_31 (by decide) ?_
      exact W.zret (v := 1) hx hb hr (by decide) (fun t9 ht hW => ⟨1, h, rfl, ⟨zb1, rfl⟩, by rw [ht]; exact hH, by rw [ht]; exact hz⟩) hLo d_Di_isNameByte_35
    · skip
      have ic_17 : 90 < c9.toInt := iNe hc_15
      have iu_18 : c9.toInt < 2147483648 := iUp _
      refine lv_iload_n hx hb d_Di_isNameByte_12 rfl (lv_at hl 0 rfl) ?_
      refine lv_bipush (v := 48) hx hb d_Di_isNameByte_13 (by decide) ?_
      refine lv_icmp_lt (tgt := 24) hx hb d_Di_isNameByte_15 (by decide) (fun hc_19 => ?_) (fun hc_19 => ?_)
      · skip
        have ic_20 : c9.toInt < 48 := iLt hc_19
        refine lv_iload_n hx hb d_Di_isNameByte_24 rfl (lv_at hl 0 rfl) ?_
        refine lv_bipush (v := 95) hx hb d_Di_isNameByte_25 (by decide) ?_
        refine lv_icmp_ne (tgt := 34) hx hb d_Di_isNameByte_27 (by decide) (fun hc_21 => ?_) (fun hc_21 => ?_)
        · skip
          refine lv_iconst (v := 0) hx hb d_Di_isNameByte_34 (by decide) ?_
          exact W.zret (v := 0) hx hb hr (by decide) (fun t9 ht hW => ⟨0, h, rfl, ⟨zb0, rfl⟩, by rw [ht]; exact hH, by rw [ht]; exact hz⟩) hLo d_Di_isNameByte_35
        · skip
          have ic_22 : c9.toInt = 95 := congrArg Int32.toInt hc_21
          refine lv_iconst (v := 1) hx hb d_Di_isNameByte_30 (by decide) ?_
          refine lv_goto (tgt := 35) hx hb d_Di_isNameByte_31 (by decide) ?_
          exact W.zret (v := 1) hx hb hr (by decide) (fun t9 ht hW => ⟨1, h, rfl, ⟨zb1, rfl⟩, by rw [ht]; exact hH, by rw [ht]; exact hz⟩) hLo d_Di_isNameByte_35
      · skip
        have ic_23 : 48 ≤ c9.toInt := iNl hc_19
        refine lv_iload_n hx hb d_Di_isNameByte_18 rfl (lv_at hl 0 rfl) ?_
        refine lv_bipush (v := 57) hx hb d_Di_isNameByte_19 (by decide) ?_
        refine lv_icmp_le (tgt := 30) hx hb d_Di_isNameByte_21 (by decide) (fun hc_24 => ?_) (fun hc_24 => ?_)
        · skip
          have ic_25 : c9.toInt ≤ 57 := iLe hc_24
          refine lv_iconst (v := 1) hx hb d_Di_isNameByte_30 (by decide) ?_
          refine lv_goto (tgt := 35) hx hb d_Di_isNameByte_31 (by decide) ?_
          exact W.zret (v := 1) hx hb hr (by decide) (fun t9 ht hW => ⟨1, h, rfl, ⟨zb1, rfl⟩, by rw [ht]; exact hH, by rw [ht]; exact hz⟩) hLo d_Di_isNameByte_35
        · skip
          have ic_26 : 57 < c9.toInt := iNe hc_24
          have iu_27 : c9.toInt < 2147483648 := iUp _
          refine lv_iload_n hx hb d_Di_isNameByte_24 rfl (lv_at hl 0 rfl) ?_
          refine lv_bipush (v := 95) hx hb d_Di_isNameByte_25 (by decide) ?_
          refine lv_icmp_ne (tgt := 34) hx hb d_Di_isNameByte_27 (by decide) (fun hc_28 => ?_) (fun hc_28 => ?_)
          · skip
            refine lv_iconst (v := 0) hx hb d_Di_isNameByte_34 (by decide) ?_
            exact W.zret (v := 0) hx hb hr (by decide) (fun t9 ht hW => ⟨0, h, rfl, ⟨zb0, rfl⟩, by rw [ht]; exact hH, by rw [ht]; exact hz⟩) hLo d_Di_isNameByte_35
          · skip
            have ic_29 : c9.toInt = 95 := congrArg Int32.toInt hc_28
            refine lv_iconst (v := 1) hx hb d_Di_isNameByte_30 (by decide) ?_
            refine lv_goto (tgt := 35) hx hb d_Di_isNameByte_31 (by decide) ?_
            exact W.zret (v := 1) hx hb hr (by decide) (fun t9 ht hW => ⟨1, h, rfl, ⟨zb1, rfl⟩, by rw [ht]; exact hH, by rw [ht]; exact hz⟩) hLo d_Di_isNameByte_35

set_option maxHeartbeats 4000000 in
set_option maxRecDepth 100000 in
theorem t_evened (l : Launch) (D : va_G) (t : Nat → ClassId) (G : hG) (ak av : Nat → Nat) (h : hM) (τ : tM) (n : Nat) (x9 : Int32) (hn : n ≤ 200) (hT : TI τ t n h) : Met l y_Di_evened (.code y_Di_evened b_Di_evened 1 (some .int) :: lw_g) { frames := 0, cells := 0, slots := 0, locals := 0 } (hP (kE D t G ak av) D vwCl G h [.int x9]) (hQi D vwCl G (fun r h' => h = h')) 0 0 nof := by
  refine Met.ofW (cc := b_Di_evened) (maxL := 1) (ret := (some .int)) (by decide) rfl ?_
  intro p e s m args below meth c s₁ Bd hml hv
  obtain ⟨ha, hE, hH⟩ := hv
  have hx := Bd.exec
  have hb := Bd.bytes
  have hr := Bd.returns
  have hts : ∀ w ∈ lw_g, w.before args s = true := fun w hw => atoms_spec (ws := (.code y_Di_evened b_Di_evened 1 (some .int) :: lw_g)) Bd.pre w (List.mem_cons_of_mem _ hw)
  have hown : s.vm.findClass R_Di = some m.cls := findClass_of_methodNamed Bd.named
  have hlocks := Bd.notSynchronized
  have hK := hE.1
  have hH0 := hH
  have hLo : hLc nof [] := hLc_nil
  have hz : s.heap.size ≤ s.heap.size := Nat.le_refl _
  have hl := lv_entry [.int x9] (n := 1) (Nat.le_of_ble_eq_true rfl)
  rw [show entryFrame m args 1 = F0 m 0 ((lg_sl [.int x9] ++ List.replicate (1 - (lg_sl [.int x9]).length) Slot.unset).toArray) [] from (by rw [ha]; exact lg_entry_eq m [.int x9] 1)]
  generalize (lg_sl [.int x9] ++ List.replicate (1 - (lg_sl [.int x9]).length) Slot.unset).toArray = ls at hl ⊢
  have hl : lv_has ls 1 [(0, .int x9)] := hl
  refine lv_iload_n hx hb d_Di_evened_0 rfl (lv_at hl 0 rfl) ?_
  refine lv_iload_n hx hb d_Di_evened_1 rfl (lv_at hl 0 rfl) ?_
  refine lv_iconst (v := 2) hx hb d_Di_evened_2 (by decide) ?_
  refine lv_irem hx hb d_Di_evened_3 (by decide) ?_
  refine lv_topi (fun v_1 e_2 => ?_)
  have id_3 : 0 ≤ x9.toInt → v_1.toInt = x9.toInt % 2 := fun h9 => by rw [e_2]; exact i_mod (d := 2) (by decide) h9
  refine lv_iadd hx hb d_Di_evened_4 ?_
  exact W.iret (v := x9 + v_1) hx hb hr (fun t9 ht hW => ⟨x9 + v_1, h, rfl, rfl, by rw [ht]; exact hH, by rw [ht]; exact hz⟩) hLo d_Di_evened_5

set_option maxHeartbeats 4000000 in
set_option maxRecDepth 100000 in
theorem t_nameIn (l : Launch) (D : va_G) (t : Nat → ClassId) (G : hG) (ak av : Nat → Nat) (h : hM) (τ : tM) (n : Nat) (w9 : Int64) (hn : n ≤ 200) (hT : TI τ t n h) : Met l y_Di_nameIn (.code y_Di_nameIn b_Di_nameIn 6 (some .long) :: lw_g) { frames := 1, cells := 0, slots := 0, locals := 20 } (hP (kE D t G ak av) D vwCl G h [.long w9]) (hQl D vwCl G (fun r h' => h = h')) 0 0 nof := by
  refine Met.ofW (cc := b_Di_nameIn) (maxL := 6) (ret := (some .long)) (by decide) rfl ?_
  intro p e s m args below meth c s₁ Bd hml hv
  obtain ⟨ha, hE, hH⟩ := hv
  have hx := Bd.exec
  have hb := Bd.bytes
  have hr := Bd.returns
  have hts : ∀ w ∈ lw_g, w.before args s = true := fun w hw => atoms_spec (ws := (.code y_Di_nameIn b_Di_nameIn 6 (some .long) :: lw_g)) Bd.pre w (List.mem_cons_of_mem _ hw)
  have hown : s.vm.findClass R_Di = some m.cls := findClass_of_methodNamed Bd.named
  have hlocks := Bd.notSynchronized
  have hK := hE.1
  have hH0 := hH
  have hLo : hLc nof [] := hLc_nil
  have hz : s.heap.size ≤ s.heap.size := Nat.le_refl _
  have hl := lv_entry [.long w9] (n := 6) (Nat.le_of_ble_eq_true rfl)
  rw [show entryFrame m args 6 = F0 m 0 ((lg_sl [.long w9] ++ List.replicate (6 - (lg_sl [.long w9]).length) Slot.unset).toArray) [] from (by rw [ha]; exact lg_entry_eq m [.long w9] 6)]
  generalize (lg_sl [.long w9] ++ List.replicate (6 - (lg_sl [.long w9]).length) Slot.unset).toArray = ls at hl ⊢
  have hl : lv_has ls 6 [(0, .long w9)] := hl
  refine lv_lconst (v := 0) hx hb d_Di_nameIn_0 (by decide) ?_
  refine lv_lstore_n (lv' := [(2, .long 0), (0, .long w9)]) hx hb d_Di_nameIn_1 rfl hl (by decide) rfl (fun ls hl => ?_)
  refine lv_bipush (v := 56) hx hb d_Di_nameIn_2 (by decide) ?_
  refine lv_istore (lv' := [(4, .int 56), (2, .long 0), (0, .long w9)]) hx hb d_Di_nameIn_4 hl (by decide) rfl (fun ls hl => ?_)
  refine hm_loop (fun k6 ls H locs hh6 => ∃ (nm : Int64) (sh : Int32), k6 = mD sh ∧ lv_has ls 6 [(0, .long w9), (2, .long nm), (4, .int sh)] ∧ hm D vwCl G hh6 H ∧ s.heap.size ≤ H.size ∧ hLc nof locs ∧ (h = hh6) ∧ (sh.toInt ≤ 56)) ?_ (hh := h) ⟨0, 56, rfl, (lv_sub hl [2, 1, 0] rfl), hH, hz, hLo, rfl, (by decide)⟩
  rintro k6 ls H locs hh6 ⟨nm, sh, hk6, hl, hH, hz, hLo, rfl, I_sh⟩ ih6
  refine lv_iload hx hb d_Di_nameIn_6 (lv_at hl 2 rfl) ?_
  refine lv_if_lt (tgt := 57) hx hb d_Di_nameIn_8 (by decide) (fun hc_1 => ?_) (fun hc_1 => ?_)
  · skip
    have ic_2 : sh.toInt < 0 := iLt hc_1
    refine lv_lload_n hx hb d_Di_nameIn_57 rfl (lv_at hl 1 rfl) ?_
    exact W.lret (v := nm) hx hb hr (fun t9 ht hW => ⟨nm, h, rfl, rfl, by rw [ht]; exact hH, by rw [ht]; exact hz⟩) hLo d_Di_nameIn_58
  · skip
    have ic_3 : 0 ≤ sh.toInt := iNl hc_1
    refine lv_lload_n hx hb d_Di_nameIn_11 rfl (lv_at hl 0 rfl) ?_
    refine lv_iload hx hb d_Di_nameIn_12 (lv_at hl 2 rfl) ?_
    refine lv_lushr (v := (w9.toUInt64 >>> (sh.toInt64.toUInt64 &&& Int64.toUInt64 63)).toInt64) hx hb d_Di_nameIn_14 rfl ?_
    refine lv_l2i (v := ((w9.toUInt64 >>> (sh.toInt64.toUInt64 &&& Int64.toUInt64 63)).toInt64).toInt32) hx hb d_Di_nameIn_15 rfl ?_
    refine lv_sipush (v := 255) hx hb d_Di_nameIn_16 (by decide) ?_
    refine lv_iand hx hb d_Di_nameIn_19 ?_
    refine lv_topi (fun v_4 e_5 => ?_)
    refine lv_istore (lv' := [(5, .int v_4), (0, .long w9), (2, .long nm), (4, .int sh)]) hx hb d_Di_nameIn_20 hl (by decide) rfl (fun ls hl => ?_)
    refine lv_iload hx hb d_Di_nameIn_22 (lv_at hl 0 rfl) ?_
    refine lv_if_eq (tgt := 37) hx hb d_Di_nameIn_24 (by decide) (fun hc_6 => ?_) (fun hc_6 => ?_)
    · skip
      have ic_7 : v_4.toInt = 0 := congrArg Int32.toInt hc_6
      refine lv_iload hx hb d_Di_nameIn_37 (lv_at hl 0 rfl) ?_
      refine lv_if_eq (tgt := 51) hx hb d_Di_nameIn_39 (by decide) (fun hc_8 => ?_) (fun hc_8 => ?_)
      · skip
        have ic_9 : v_4.toInt = 0 := congrArg Int32.toInt hc_8
        obtain ⟨j_10, e_11⟩ : ∃ z : Int32, z = sh + (-8) := ⟨_, rfl⟩
        refine lv_iinc (v := j_10) (lv' := [(4, .int j_10), (5, .int v_4), (0, .long w9), (2, .long nm)]) hx hb d_Di_nameIn_51 hl (k := 3) rfl e_11.symm (by decide) rfl (fun ls hl => ?_)
        refine lv_goto (tgt := 6) hx hb d_Di_nameIn_54 (by decide) ?_
        have is_12 : j_10.toInt = sh.toInt + -8 := by rw [e_11]; exact iDecK 8 rfl (by decide) (by omega)
        exact ih6 (mD j_10) ls _ locs _ (by rw [hk6]; exact mD_lt (by omega)) ⟨nm, j_10, rfl, (lv_sub hl [2, 3, 0] rfl), hH, hz, hLo, rfl, (by omega)⟩
      · skip
        refine lv_lload_n hx hb d_Di_nameIn_42 rfl (lv_at hl 2 rfl) ?_
        refine lv_bipush (v := 8) hx hb d_Di_nameIn_43 (by decide) ?_
        refine lv_lshl (v := nm <<< ((8 : Int32).toInt64 &&& 63)) hx hb d_Di_nameIn_45 rfl ?_
        refine lv_iload hx hb d_Di_nameIn_46 (lv_at hl 0 rfl) ?_
        refine lv_i2l (v := v_4.toInt64) hx hb d_Di_nameIn_48 rfl ?_
        refine lv_lor hx hb d_Di_nameIn_49 ?_
        refine lv_topl (fun v_13 e_14 => ?_)
        refine lv_lstore_n (lv' := [(2, .long v_13), (5, .int v_4), (0, .long w9), (4, .int sh)]) hx hb d_Di_nameIn_50 rfl hl (by decide) rfl (fun ls hl => ?_)
        obtain ⟨j_15, e_16⟩ : ∃ z : Int32, z = sh + (-8) := ⟨_, rfl⟩
        refine lv_iinc (v := j_15) (lv' := [(4, .int j_15), (2, .long v_13), (5, .int v_4), (0, .long w9)]) hx hb d_Di_nameIn_51 hl (k := 3) rfl e_16.symm (by decide) rfl (fun ls hl => ?_)
        refine lv_goto (tgt := 6) hx hb d_Di_nameIn_54 (by decide) ?_
        have is_17 : j_15.toInt = sh.toInt + -8 := by rw [e_16]; exact iDecK 8 rfl (by decide) (by omega)
        exact ih6 (mD j_15) ls _ locs _ (by rw [hk6]; exact mD_lt (by omega)) ⟨v_13, j_15, rfl, (lv_sub hl [3, 1, 0] rfl), hH, hz, hLo, rfl, (by omega)⟩
    · skip
      refine lv_iload hx hb d_Di_nameIn_27 (lv_at hl 0 rfl) ?_
      refine hm_callPi (va_runS (As := [.int v_4]) (rest := []) ⟨hx, hb, hml, hown, hts⟩ (t_isNameByte l D t G ak av h τ n v_4  hn hT ) ⟨cw9B 1 hts mw_24 mw_26 mw_25 rfl rfl (by decide +kernel) ⟨Nat.le_of_ble_eq_true rfl, Nat.le_of_ble_eq_true rfl⟩, hts _ mw_27⟩ (hP_S kE_ok hE hH) rfl rfl hl.1 rfl (lv_room (Nat.le_of_ble_eq_true rfl)) d_Di_nameIn_29 ⟨Nat.le_of_ble_eq_true rfl, Nat.le_of_ble_eq_true rfl⟩) (fun r_18 h_19 H_20 hp_22  hH z_21 => ?_)
      have hz : s.heap.size ≤ H_20.size := Nat.le_trans hz z_21
      obtain ⟨c_23, rfl⟩ := hp_22
      refine lv_if_ne (tgt := 37) hx hb d_Di_nameIn_32 (by decide) (fun hc_25 => ?_) (fun hc_25 => ?_)
      · skip
        refine lv_iload hx hb d_Di_nameIn_37 (lv_at hl 0 rfl) ?_
        refine lv_if_eq (tgt := 51) hx hb d_Di_nameIn_39 (by decide) (fun hc_26 => ?_) (fun hc_26 => ?_)
        · skip
          have ic_27 : v_4.toInt = 0 := congrArg Int32.toInt hc_26
          obtain ⟨j_28, e_29⟩ : ∃ z : Int32, z = sh + (-8) := ⟨_, rfl⟩
          refine lv_iinc (v := j_28) (lv' := [(4, .int j_28), (5, .int v_4), (0, .long w9), (2, .long nm)]) hx hb d_Di_nameIn_51 hl (k := 3) rfl e_29.symm (by decide) rfl (fun ls hl => ?_)
          refine lv_goto (tgt := 6) hx hb d_Di_nameIn_54 (by decide) ?_
          have is_30 : j_28.toInt = sh.toInt + -8 := by rw [e_29]; exact iDecK 8 rfl (by decide) (by omega)
          exact ih6 (mD j_28) ls _ locs _ (by rw [hk6]; exact mD_lt (by omega)) ⟨nm, j_28, rfl, (lv_sub hl [2, 3, 0] rfl), hH, hz, hLo, rfl, (by omega)⟩
        · skip
          refine lv_lload_n hx hb d_Di_nameIn_42 rfl (lv_at hl 2 rfl) ?_
          refine lv_bipush (v := 8) hx hb d_Di_nameIn_43 (by decide) ?_
          refine lv_lshl (v := nm <<< ((8 : Int32).toInt64 &&& 63)) hx hb d_Di_nameIn_45 rfl ?_
          refine lv_iload hx hb d_Di_nameIn_46 (lv_at hl 0 rfl) ?_
          refine lv_i2l (v := v_4.toInt64) hx hb d_Di_nameIn_48 rfl ?_
          refine lv_lor hx hb d_Di_nameIn_49 ?_
          refine lv_topl (fun v_31 e_32 => ?_)
          refine lv_lstore_n (lv' := [(2, .long v_31), (5, .int v_4), (0, .long w9), (4, .int sh)]) hx hb d_Di_nameIn_50 rfl hl (by decide) rfl (fun ls hl => ?_)
          obtain ⟨j_33, e_34⟩ : ∃ z : Int32, z = sh + (-8) := ⟨_, rfl⟩
          refine lv_iinc (v := j_33) (lv' := [(4, .int j_33), (2, .long v_31), (5, .int v_4), (0, .long w9)]) hx hb d_Di_nameIn_51 hl (k := 3) rfl e_34.symm (by decide) rfl (fun ls hl => ?_)
          refine lv_goto (tgt := 6) hx hb d_Di_nameIn_54 (by decide) ?_
          have is_35 : j_33.toInt = sh.toInt + -8 := by rw [e_34]; exact iDecK 8 rfl (by decide) (by omega)
          exact ih6 (mD j_33) ls _ locs _ (by rw [hk6]; exact mD_lt (by omega)) ⟨v_31, j_33, rfl, (lv_sub hl [3, 1, 0] rfl), hH, hz, hLo, rfl, (by omega)⟩
      · skip
        have ic_36 : r_18.toInt = 0 := congrArg Int32.toInt hc_25
        refine lv_lconst (v := 0) hx hb d_Di_nameIn_35 (by decide) ?_
        exact W.lret (v := 0) hx hb hr (fun t9 ht hW => ⟨0, h, rfl, rfl, by rw [ht]; exact hH, by rw [ht]; exact hz⟩) hLo d_Di_nameIn_36

set_option maxHeartbeats 4000000 in
set_option maxRecDepth 100000 in
theorem t_has (l : Launch) (D : va_G) (t : Nat → ClassId) (G : hG) (ak av : Nat → Nat) (h : hM) (τ : tM) (n : Nat) (m9 : Nat) (s9 : Int32) (hn : n ≤ 200) (hT : TI τ t n h) (T_m9 : τ m9 = (11, 0)) : Met l y_Me_has (.code y_Me_has b_Me_has 2 (some .boolean) :: lw_g) { frames := 0, cells := 0, slots := 0, locals := 0 } (hP (kE D t G ak av) D vwCl G h [.ref m9, .int s9]) (hQi D vwCl G (fun r h' => zb r ∧ ((r = 0 ∧ (s9.toInt < 0 ∨ (n : Int) ≤ s9.toInt)) ∨ (r = 1 ∧ 0 ≤ s9.toInt ∧ s9.toInt < n)) ∧ h = h')) 0 0 nof := by
  refine Met.ofW (cc := b_Me_has) (maxL := 2) (ret := (some .boolean)) (by decide) rfl ?_
  intro p e s m args below meth c s₁ Bd hml hv
  obtain ⟨ha, hE, hH⟩ := hv
  have hx := Bd.exec
  have hb := Bd.bytes
  have hr := Bd.returns
  have hts : ∀ w ∈ lw_g, w.before args s = true := fun w hw => atoms_spec (ws := (.code y_Me_has b_Me_has 2 (some .boolean) :: lw_g)) Bd.pre w (List.mem_cons_of_mem _ hw)
  have hown : s.vm.findClass R_Me = some m.cls := findClass_of_methodNamed Bd.named
  have hlocks := Bd.notSynchronized
  have hK := hE.1
  have hH0 := hH
  have hLo : hLc nof [] := hLc_nil
  have hz : s.heap.size ≤ s.heap.size := Nat.le_refl _
  have hl := lv_entry [.ref m9, .int s9] (n := 2) (Nat.le_of_ble_eq_true rfl)
  rw [show entryFrame m args 2 = F0 m 0 ((lg_sl [.ref m9, .int s9] ++ List.replicate (2 - (lg_sl [.ref m9, .int s9]).length) Slot.unset).toArray) [] from (by rw [ha]; exact lg_entry_eq m [.ref m9, .int s9] 2)]
  generalize (lg_sl [.ref m9, .int s9] ++ List.replicate (2 - (lg_sl [.ref m9, .int s9]).length) Slot.unset).toArray = ls at hl ⊢
  have hl : lv_has ls 2 [(0, .ref m9), (1, .int s9)] := hl
  refine lv_iload_n hx hb d_Me_has_0 rfl (lv_at hl 1 rfl) ?_
  refine lv_if_lt (tgt := 17) hx hb d_Me_has_1 (by decide) (fun hc_1 => ?_) (fun hc_1 => ?_)
  · skip
    have ic_2 : s9.toInt < 0 := iLt hc_1
    refine lv_iconst (v := 0) hx hb d_Me_has_17 (by decide) ?_
    exact W.zret (v := 0) hx hb hr (by decide) (fun t9 ht hW => ⟨0, h, rfl, ⟨zb0, Or.inl ⟨rfl, by omega⟩, rfl⟩, by rw [ht]; exact hH, by rw [ht]; exact hz⟩) hLo d_Me_has_18
  · skip
    have ic_3 : 0 ≤ s9.toInt := iNl hc_1
    refine lv_iload_n hx hb d_Me_has_4 rfl (lv_at hl 1 rfl) ?_
    refine lv_aload_n hx hb d_Me_has_5 rfl (lv_at hl 0 rfl) ?_
    obtain ⟨v_4, v_6, F_m9, c_5⟩ := TI_med hT T_m9
    refine hm_get (ci := 0) (v := .ref v_4) (C := R_Me) (T := F_Me) (N := 2) hx hb hts ig_Me hown hK hH F_m9 rfl 0 (by decide) (hts _ mw_28) (fun _ h9 => h9) rfl d_Me_has_6 ?_
    obtain ⟨g_7, F_v_4, c_8⟩ := TI_secs hT c_5
    have iln_9 : (nI n).toInt = (n : Nat) := nI_toInt (by omega)
    refine hm_alen (v := nI n) hx hb hK hH 5 F_v_4 (ty := (.object "WriteOnceDisc$Sector")) rfl rfl d_Me_has_9 ?_
    refine lv_icmp_ge (tgt := 17) hx hb d_Me_has_10 (by decide) (fun hc_10 => ?_) (fun hc_10 => ?_)
    · skip
      have ic_11 : (nI n).toInt ≤ s9.toInt := iLe hc_10
      refine lv_iconst (v := 0) hx hb d_Me_has_17 (by decide) ?_
      exact W.zret (v := 0) hx hb hr (by decide) (fun t9 ht hW => ⟨0, h, rfl, ⟨zb0, Or.inl ⟨rfl, by omega⟩, rfl⟩, by rw [ht]; exact hH, by rw [ht]; exact hz⟩) hLo d_Me_has_18
    · skip
      have ic_12 : s9.toInt < (nI n).toInt := iNe hc_10
      have iu_13 : (nI n).toInt < 2147483648 := iUp _
      refine lv_iconst (v := 1) hx hb d_Me_has_13 (by decide) ?_
      refine lv_goto (tgt := 18) hx hb d_Me_has_14 (by decide) ?_
      exact W.zret (v := 1) hx hb hr (by decide) (fun t9 ht hW => ⟨1, h, rfl, ⟨zb1, Or.inr ⟨rfl, by omega, by omega⟩, rfl⟩, by rw [ht]; exact hH, by rw [ht]; exact hz⟩) hLo d_Me_has_18

set_option maxHeartbeats 4000000 in
set_option maxRecDepth 100000 in
theorem t_isWritten (l : Launch) (D : va_G) (t : Nat → ClassId) (G : hG) (ak av : Nat → Nat) (h : hM) (τ : tM) (n : Nat) (m9 : Nat) (s9 : Int32) (hn : n ≤ 200) (hT : TI τ t n h) (T_m9 : τ m9 = (11, 0)) : Met l y_Me_isWritten (.code y_Me_isWritten b_Me_isWritten 2 (some .boolean) :: lw_g) { frames := 0, cells := 0, slots := 0, locals := 0 } (hP (kE D t G ak av) D vwCl G h [.ref m9, .int s9]) (hQi D vwCl G (fun r h' => zb r ∧ (r = 0 ∨ (r = 1 ∧ 0 ≤ s9.toInt ∧ s9.toInt < n)) ∧ h = h')) 0 0 nof := by
  refine Met.ofW (cc := b_Me_isWritten) (maxL := 2) (ret := (some .boolean)) (by decide) rfl ?_
  intro p e s m args below meth c s₁ Bd hml hv
  obtain ⟨ha, hE, hH⟩ := hv
  have hx := Bd.exec
  have hb := Bd.bytes
  have hr := Bd.returns
  have hts : ∀ w ∈ lw_g, w.before args s = true := fun w hw => atoms_spec (ws := (.code y_Me_isWritten b_Me_isWritten 2 (some .boolean) :: lw_g)) Bd.pre w (List.mem_cons_of_mem _ hw)
  have hown : s.vm.findClass R_Me = some m.cls := findClass_of_methodNamed Bd.named
  have hlocks := Bd.notSynchronized
  have hK := hE.1
  have hH0 := hH
  have hLo : hLc nof [] := hLc_nil
  have hz : s.heap.size ≤ s.heap.size := Nat.le_refl _
  have hl := lv_entry [.ref m9, .int s9] (n := 2) (Nat.le_of_ble_eq_true rfl)
  rw [show entryFrame m args 2 = F0 m 0 ((lg_sl [.ref m9, .int s9] ++ List.replicate (2 - (lg_sl [.ref m9, .int s9]).length) Slot.unset).toArray) [] from (by rw [ha]; exact lg_entry_eq m [.ref m9, .int s9] 2)]
  generalize (lg_sl [.ref m9, .int s9] ++ List.replicate (2 - (lg_sl [.ref m9, .int s9]).length) Slot.unset).toArray = ls at hl ⊢
  have hl : lv_has ls 2 [(0, .ref m9), (1, .int s9)] := hl
  refine lv_iload_n hx hb d_Me_isWritten_0 rfl (lv_at hl 1 rfl) ?_
  refine lv_if_lt (tgt := 30) hx hb d_Me_isWritten_1 (by decide) (fun hc_1 => ?_) (fun hc_1 => ?_)
  · skip
    have ic_2 : s9.toInt < 0 := iLt hc_1
    refine lv_iconst (v := 0) hx hb d_Me_isWritten_30 (by decide) ?_
    exact W.zret (v := 0) hx hb hr (by decide) (fun t9 ht hW => ⟨0, h, rfl, ⟨zb0, Or.inl rfl, rfl⟩, by rw [ht]; exact hH, by rw [ht]; exact hz⟩) hLo d_Me_isWritten_31
  · skip
    have ic_3 : 0 ≤ s9.toInt := iNl hc_1
    refine lv_iload_n hx hb d_Me_isWritten_4 rfl (lv_at hl 1 rfl) ?_
    refine lv_aload_n hx hb d_Me_isWritten_5 rfl (lv_at hl 0 rfl) ?_
    obtain ⟨v_4, v_6, F_m9, c_5⟩ := TI_med hT T_m9
    refine hm_get (ci := 0) (v := .ref v_4) (C := R_Me) (T := F_Me) (N := 2) hx hb hts ig_Me hown hK hH F_m9 rfl 0 (by decide) (hts _ mw_28) (fun _ h9 => h9) rfl d_Me_isWritten_6 ?_
    obtain ⟨g_7, F_v_4, c_8⟩ := TI_secs hT c_5
    have iln_9 : (nI n).toInt = (n : Nat) := nI_toInt (by omega)
    refine hm_alen (v := nI n) hx hb hK hH 5 F_v_4 (ty := (.object "WriteOnceDisc$Sector")) rfl rfl d_Me_isWritten_9 ?_
    refine lv_icmp_ge (tgt := 30) hx hb d_Me_isWritten_10 (by decide) (fun hc_10 => ?_) (fun hc_10 => ?_)
    · skip
      have ic_11 : (nI n).toInt ≤ s9.toInt := iLe hc_10
      refine lv_iconst (v := 0) hx hb d_Me_isWritten_30 (by decide) ?_
      exact W.zret (v := 0) hx hb hr (by decide) (fun t9 ht hW => ⟨0, h, rfl, ⟨zb0, Or.inl rfl, rfl⟩, by rw [ht]; exact hH, by rw [ht]; exact hz⟩) hLo d_Me_isWritten_31
    · skip
      have ic_12 : s9.toInt < (nI n).toInt := iNe hc_10
      have iu_13 : (nI n).toInt < 2147483648 := iUp _
      refine lv_aload_n hx hb d_Me_isWritten_13 rfl (lv_at hl 0 rfl) ?_
      refine hm_get (ci := 0) (v := .ref v_4) (C := R_Me) (T := F_Me) (N := 2) hx hb hts ig_Me hown hK hH F_m9 rfl 0 (by decide) (hts _ mw_28) (fun _ h9 => h9) rfl d_Me_isWritten_14 ?_
      refine lv_iload_n hx hb d_Me_isWritten_17 rfl (lv_at hl 1 rfl) ?_
      obtain ⟨a_14, e_15, T_16⟩ := c_8 s9.toNatClampNeg (iCl (by omega) (by omega))
      refine hm_aald (v := .ref a_14) hx hb hK hH 5 F_v_4 (C := R_Se) rfl (iIn (by omega) (by omega)) (by rw [e_15]; rfl) d_Me_isWritten_18 ?_
      obtain ⟨v_17, v_18, v_20, F_a_14, c_19, c_21⟩ := TI_sec hT T_16
      refine hm_get (ci := 6) (v := .int v_17) (C := R_Se) (T := F_Se) (N := 3) hx hb hts ig_Se hown hK hH F_a_14 rfl 0 (by decide) (hts _ mw_29) (fun _ h9 => h9) rfl d_Me_isWritten_19 ?_
      refine lv_iconst (v := 1) hx hb d_Me_isWritten_22 (by decide) ?_
      refine lv_icmp_ne (tgt := 30) hx hb d_Me_isWritten_23 (by decide) (fun hc_22 => ?_) (fun hc_22 => ?_)
      · skip
        refine lv_iconst (v := 0) hx hb d_Me_isWritten_30 (by decide) ?_
        exact W.zret (v := 0) hx hb hr (by decide) (fun t9 ht hW => ⟨0, h, rfl, ⟨zb0, Or.inl rfl, rfl⟩, by rw [ht]; exact hH, by rw [ht]; exact hz⟩) hLo d_Me_isWritten_31
      · skip
        have ic_23 : v_17.toInt = 1 := congrArg Int32.toInt hc_22
        refine lv_iconst (v := 1) hx hb d_Me_isWritten_26 (by decide) ?_
        refine lv_goto (tgt := 31) hx hb d_Me_isWritten_27 (by decide) ?_
        exact W.zret (v := 1) hx hb hr (by decide) (fun t9 ht hW => ⟨1, h, rfl, ⟨zb1, Or.inr ⟨rfl, by omega, by omega⟩, rfl⟩, by rw [ht]; exact hH, by rw [ht]; exact hz⟩) hLo d_Me_isWritten_31

set_option maxHeartbeats 4000000 in
set_option maxRecDepth 100000 in
theorem t_hasRoom (l : Launch) (D : va_G) (t : Nat → ClassId) (G : hG) (ak av : Nat → Nat) (h : hM) (τ : tM) (n : Nat) (m9 : Nat) (a9 : Int32) (b9 : Int32) (hn : n ≤ 200) (hT : TI τ t n h) (T_m9 : τ m9 = (11, 0)) : Met l y_Me_hasRoom (.code y_Me_hasRoom b_Me_hasRoom 3 (some .boolean) :: lw_g) { frames := 0, cells := 0, slots := 0, locals := 0 } (hP (kE D t G ak av) D vwCl G h [.ref m9, .int a9, .int b9]) (hQi D vwCl G (fun r h' => zb r ∧ (r = 1 → a9.toInt ≤ (nI n - b9).toInt) ∧ h = h')) 0 0 nof := by
  refine Met.ofW (cc := b_Me_hasRoom) (maxL := 3) (ret := (some .boolean)) (by decide) rfl ?_
  intro p e s m args below meth c s₁ Bd hml hv
  obtain ⟨ha, hE, hH⟩ := hv
  have hx := Bd.exec
  have hb := Bd.bytes
  have hr := Bd.returns
  have hts : ∀ w ∈ lw_g, w.before args s = true := fun w hw => atoms_spec (ws := (.code y_Me_hasRoom b_Me_hasRoom 3 (some .boolean) :: lw_g)) Bd.pre w (List.mem_cons_of_mem _ hw)
  have hown : s.vm.findClass R_Me = some m.cls := findClass_of_methodNamed Bd.named
  have hlocks := Bd.notSynchronized
  have hK := hE.1
  have hH0 := hH
  have hLo : hLc nof [] := hLc_nil
  have hz : s.heap.size ≤ s.heap.size := Nat.le_refl _
  have hl := lv_entry [.ref m9, .int a9, .int b9] (n := 3) (Nat.le_of_ble_eq_true rfl)
  rw [show entryFrame m args 3 = F0 m 0 ((lg_sl [.ref m9, .int a9, .int b9] ++ List.replicate (3 - (lg_sl [.ref m9, .int a9, .int b9]).length) Slot.unset).toArray) [] from (by rw [ha]; exact lg_entry_eq m [.ref m9, .int a9, .int b9] 3)]
  generalize (lg_sl [.ref m9, .int a9, .int b9] ++ List.replicate (3 - (lg_sl [.ref m9, .int a9, .int b9]).length) Slot.unset).toArray = ls at hl ⊢
  have hl : lv_has ls 3 [(0, .ref m9), (1, .int a9), (2, .int b9)] := hl
  refine lv_iload_n hx hb d_Me_hasRoom_0 rfl (lv_at hl 1 rfl) ?_
  refine lv_aload_n hx hb d_Me_hasRoom_1 rfl (lv_at hl 0 rfl) ?_
  obtain ⟨v_1, v_3, F_m9, c_2⟩ := TI_med hT T_m9
  refine hm_get (ci := 0) (v := .ref v_1) (C := R_Me) (T := F_Me) (N := 2) hx hb hts ig_Me hown hK hH F_m9 rfl 0 (by decide) (hts _ mw_28) (fun _ h9 => h9) rfl d_Me_hasRoom_2 ?_
  obtain ⟨g_4, F_v_1, c_5⟩ := TI_secs hT c_2
  have iln_6 : (nI n).toInt = (n : Nat) := nI_toInt (by omega)
  refine hm_alen (v := nI n) hx hb hK hH 5 F_v_1 (ty := (.object "WriteOnceDisc$Sector")) rfl rfl d_Me_hasRoom_5 ?_
  refine lv_iload_n hx hb d_Me_hasRoom_6 rfl (lv_at hl 2 rfl) ?_
  refine lv_isub hx hb d_Me_hasRoom_7 ?_
  refine lv_icmp_gt (tgt := 15) hx hb d_Me_hasRoom_8 (by decide) (fun hc_7 => ?_) (fun hc_7 => ?_)
  · skip
    have ic_8 : ((nI n) - b9).toInt < a9.toInt := iLt hc_7
    have iu_9 : a9.toInt < 2147483648 := iUp _
    refine lv_iconst (v := 0) hx hb d_Me_hasRoom_15 (by decide) ?_
    exact W.zret (v := 0) hx hb hr (by decide) (fun t9 ht hW => ⟨0, h, rfl, ⟨zb0, (fun z => absurd z (by decide)), rfl⟩, by rw [ht]; exact hH, by rw [ht]; exact hz⟩) hLo d_Me_hasRoom_16
  · skip
    have ic_10 : a9.toInt ≤ ((nI n) - b9).toInt := iNl hc_7
    refine lv_iconst (v := 1) hx hb d_Me_hasRoom_11 (by decide) ?_
    refine lv_goto (tgt := 16) hx hb d_Me_hasRoom_12 (by decide) ?_
    exact W.zret (v := 1) hx hb hr (by decide) (fun t9 ht hW => ⟨1, h, rfl, ⟨zb1, (fun _ => by omega), rfl⟩, by rw [ht]; exact hH, by rw [ht]; exact hz⟩) hLo d_Me_hasRoom_16
