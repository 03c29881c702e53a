set_option maxRecDepth 100000 in
theorem mw_154 : Cond.methodLink R_Se 23 Lib.Math.min.name ∈ lw_g := lw_gin (List.mem_append_right _ (List.mem_of_getElem? (i := 442) rfl)) (by decide +kernel)
set_option maxRecDepth 100000 in
theorem mw_155 : Cond.static Lib.Math.min.name ∈ lw_g := lw_gin (List.mem_append_right _ (List.mem_of_getElem? (i := 408) rfl)) (by decide +kernel)
set_option maxRecDepth 100000 in
theorem mw_156 : Cond.initialized "java/lang/Math" ∈ lw_g := lw_gin (List.mem_append_right _ (List.mem_of_getElem? (i := 11) rfl)) (by decide +kernel)
set_option maxRecDepth 100000 in
theorem mw_157 : Cond.code Lib.Math.min.name Lib.Math.min.code 2 (some .int) ∈ lw_g := lw_gin (List.mem_append_right _ (List.mem_of_getElem? (i := 409) rfl)) (by decide +kernel)
set_option maxRecDepth 100000 in
theorem mw_158 : Cond.methodLink R_Se 29 arraycopyName ∈ lw_g := lw_gin (List.mem_append_right _ (List.mem_of_getElem? (i := 443) rfl)) (by decide +kernel)
set_option maxRecDepth 100000 in
theorem mw_159 : Cond.native arraycopyName ∈ lw_g := lw_gin (List.mem_append_right _ (List.mem_of_getElem? (i := 420) rfl)) (by decide +kernel)
set_option maxRecDepth 100000 in
theorem mw_160 : Cond.static arraycopyName ∈ lw_g := lw_gin (List.mem_append_right _ (List.mem_of_getElem? (i := 419) rfl)) (by decide +kernel)
set_option maxRecDepth 100000 in
theorem mw_161 : Cond.initialized "java/lang/System" ∈ lw_g := lw_gin (List.mem_append_right _ (List.mem_of_getElem? (i := 13) rfl)) (by decide +kernel)
set_option maxRecDepth 100000 in
theorem mw_162 : Cond.code y_Me_has b_Me_has 2 (some .boolean) ∈ lw_g := lw_gin (List.mem_append_right _ (List.mem_of_getElem? (i := 275) rfl)) (by decide +kernel)
set_option maxRecDepth 100000 in
theorem mw_163 : Cond.initialized R_Me ∈ lw_g := lw_gin (List.mem_append_right _ (List.mem_of_getElem? (i := 8) rfl)) (by decide +kernel)
set_option maxRecDepth 100000 in
theorem mw_164 : Cond.methodLink R_Me 28 y_Me_has ∈ lw_g := lw_gin (List.mem_append_right _ (List.mem_of_getElem? (i := 272) rfl)) (by decide +kernel)
set_option maxRecDepth 100000 in
theorem mw_165 : Cond.instanceMethod y_Me_has ∈ lw_g := lw_gin (List.mem_append_right _ (List.mem_of_getElem? (i := 273) rfl)) (by decide +kernel)
set_option maxRecDepth 100000 in
theorem mw_166 : Cond.selects R_Me y_Me_has y_Me_has ∈ lw_g := lw_gin (List.mem_append_right _ (List.mem_of_getElem? (i := 274) rfl)) (by decide +kernel)
set_option maxRecDepth 100000 in
theorem mw_167 : Cond.code y_Po_lastsForWrite b_Po_lastsForWrite 1 (some .boolean) ∈ lw_g := lw_gin (List.mem_append_right _ (List.mem_of_getElem? (i := 436) rfl)) (by decide +kernel)
set_option maxRecDepth 100000 in
theorem mw_168 : Cond.methodLink R_Me 36 y_Po_lastsForWrite ∈ lw_g := lw_gin (List.mem_append_right _ (List.mem_of_getElem? (i := 433) rfl)) (by decide +kernel)
set_option maxRecDepth 100000 in
theorem mw_169 : Cond.instanceMethod y_Po_lastsForWrite ∈ lw_g := lw_gin (List.mem_append_right _ (List.mem_of_getElem? (i := 434) rfl)) (by decide +kernel)
set_option maxRecDepth 100000 in
theorem mw_170 : Cond.selects R_Po y_Po_lastsForWrite y_Po_lastsForWrite ∈ lw_g := lw_gin (List.mem_append_right _ (List.mem_of_getElem? (i := 435) rfl)) (by decide +kernel)
set_option maxRecDepth 100000 in
theorem mw_171 : Cond.methodLink R_Me 42 Lib.Math.max.name ∈ lw_g := lw_gin (List.mem_append_right _ (List.mem_of_getElem? (i := 437) rfl)) (by decide +kernel)
set_option maxRecDepth 100000 in
theorem mw_172 : Cond.static Lib.Math.max.name ∈ lw_g := lw_gin (List.mem_append_right _ (List.mem_of_getElem? (i := 366) rfl)) (by decide +kernel)
set_option maxRecDepth 100000 in
theorem mw_173 : Cond.code Lib.Math.max.name Lib.Math.max.code 2 (some .int) ∈ lw_g := lw_gin (List.mem_append_right _ (List.mem_of_getElem? (i := 367) rfl)) (by decide +kernel)
set_option maxRecDepth 100000 in
theorem mw_174 : Cond.fieldLink R_Me 32 "WriteOnceDisc$Sector" "isDefective" "Z" ∈ lw_g := lw_gin (List.mem_append_right _ (List.mem_of_getElem? (i := 214) rfl)) (by decide +kernel)
set_option maxRecDepth 100000 in
theorem mw_175 : Cond.code y_Se_take b_Se_take 2 none ∈ lw_g := lw_gin (List.mem_append_right _ (List.mem_of_getElem? (i := 441) rfl)) (by decide +kernel)
set_option maxRecDepth 100000 in
theorem mw_176 : Cond.methodLink R_Me 48 y_Se_take ∈ lw_g := lw_gin (List.mem_append_right _ (List.mem_of_getElem? (i := 438) rfl)) (by decide +kernel)
set_option maxRecDepth 100000 in
theorem mw_177 : Cond.instanceMethod y_Se_take ∈ lw_g := lw_gin (List.mem_append_right _ (List.mem_of_getElem? (i := 439) rfl)) (by decide +kernel)
set_option maxRecDepth 100000 in
theorem mw_178 : Cond.selects R_Se y_Se_take y_Se_take ∈ lw_g := lw_gin (List.mem_append_right _ (List.mem_of_getElem? (i := 440) rfl)) (by decide +kernel)
set_option maxRecDepth 100000 in
theorem mw_179 : Cond.fieldLink R_Me 25 "WriteOnceDisc$Sector" "condition" "I" ∈ lw_g := lw_gin (List.mem_append_right _ (List.mem_of_getElem? (i := 211) rfl)) (by decide +kernel)
theorem d_Me_has_0 : decode b_Me_has 0 = .ok (.iload_n 1, 1) := by decide +kernel
theorem d_Me_has_1 : decode b_Me_has 1 = .ok (.ifCond .lt 16, 3) := by decide +kernel
theorem d_Me_has_17 : decode b_Me_has 17 = .ok (.iconst 0, 1) := by decide +kernel
theorem d_Me_has_18 : decode b_Me_has 18 = .ok (.ireturn, 1) := by decide +kernel
theorem d_Me_has_4 : decode b_Me_has 4 = .ok (.iload_n 1, 1) := by decide +kernel
theorem d_Me_has_5 : decode b_Me_has 5 = .ok (.aload_n 0, 1) := by decide +kernel
theorem d_Me_has_6 : decode b_Me_has 6 = .ok (.getfield 17, 3) := by decide +kernel
theorem d_Me_has_9 : decode b_Me_has 9 = .ok (.arraylength, 1) := by decide +kernel
theorem d_Me_has_10 : decode b_Me_has 10 = .ok (.if_icmp .ge 7, 3) := by decide +kernel
theorem d_Me_has_13 : decode b_Me_has 13 = .ok (.iconst 1, 1) := by decide +kernel
theorem d_Me_has_14 : decode b_Me_has 14 = .ok (.goto 4, 3) := by decide +kernel
theorem d_Me_hasRoom_0 : decode b_Me_hasRoom 0 = .ok (.iload_n 1, 1) := by decide +kernel
theorem d_Me_hasRoom_1 : decode b_Me_hasRoom 1 = .ok (.aload_n 0, 1) := by decide +kernel
theorem d_Me_hasRoom_2 : decode b_Me_hasRoom 2 = .ok (.getfield 17, 3) := by decide +kernel
theorem d_Me_hasRoom_5 : decode b_Me_hasRoom 5 = .ok (.arraylength, 1) := by decide +kernel
theorem d_Me_hasRoom_6 : decode b_Me_hasRoom 6 = .ok (.iload_n 2, 1) := by decide +kernel
theorem d_Me_hasRoom_7 : decode b_Me_hasRoom 7 = .ok (.isub, 1) := by decide +kernel
theorem d_Me_hasRoom_8 : decode b_Me_hasRoom 8 = .ok (.if_icmp .gt 7, 3) := by decide +kernel
theorem d_Me_hasRoom_11 : decode b_Me_hasRoom 11 = .ok (.iconst 1, 1) := by decide +kernel
theorem d_Me_hasRoom_12 : decode b_Me_hasRoom 12 = .ok (.goto 4, 3) := by decide +kernel
theorem d_Me_hasRoom_16 : decode b_Me_hasRoom 16 = .ok (.ireturn, 1) := by decide +kernel
theorem d_Po_lastsForWrite_0 : decode b_Po_lastsForWrite 0 = .ok (.aload_n 0, 1) := by decide +kernel
theorem d_Po_lastsForWrite_1 : decode b_Po_lastsForWrite 1 = .ok (.dup, 1) := by decide +kernel
theorem d_Po_lastsForWrite_2 : decode b_Po_lastsForWrite 2 = .ok (.getfield 19, 3) := by decide +kernel
theorem d_Po_lastsForWrite_5 : decode b_Po_lastsForWrite 5 = .ok (.iconst 1, 1) := by decide +kernel
theorem d_Po_lastsForWrite_6 : decode b_Po_lastsForWrite 6 = .ok (.iadd, 1) := by decide +kernel
theorem d_Po_lastsForWrite_7 : decode b_Po_lastsForWrite 7 = .ok (.putfield 19, 3) := by decide +kernel
theorem d_Po_lastsForWrite_10 : decode b_Po_lastsForWrite 10 = .ok (.aload_n 0, 1) := by decide +kernel
theorem d_Po_lastsForWrite_11 : decode b_Po_lastsForWrite 11 = .ok (.getfield 9, 3) := by decide +kernel
theorem d_Po_lastsForWrite_14 : decode b_Po_lastsForWrite 14 = .ok (.ifCond .ne 11, 3) := by decide +kernel
theorem d_Po_lastsForWrite_25 : decode b_Po_lastsForWrite 25 = .ok (.aload_n 0, 1) := by decide +kernel
theorem d_Po_lastsForWrite_26 : decode b_Po_lastsForWrite 26 = .ok (.getfield 9, 3) := by decide +kernel
theorem d_Po_lastsForWrite_29 : decode b_Po_lastsForWrite 29 = .ok (.ifCond .le 13, 3) := by decide +kernel
theorem d_Po_lastsForWrite_42 : decode b_Po_lastsForWrite 42 = .ok (.aload_n 0, 1) := by decide +kernel
theorem d_Po_lastsForWrite_43 : decode b_Po_lastsForWrite 43 = .ok (.getfield 15, 3) := by decide +kernel
theorem d_Po_lastsForWrite_46 : decode b_Po_lastsForWrite 46 = .ok (.ifCond .ne 7, 3) := by decide +kernel
theorem d_Po_lastsForWrite_49 : decode b_Po_lastsForWrite 49 = .ok (.iconst 1, 1) := by decide +kernel
theorem d_Po_lastsForWrite_50 : decode b_Po_lastsForWrite 50 = .ok (.goto 4, 3) := by decide +kernel
theorem d_Po_lastsForWrite_54 : decode b_Po_lastsForWrite 54 = .ok (.ireturn, 1) := by decide +kernel
theorem d_Se_take_0 : decode b_Se_take 0 = .ok (.aload_n 0, 1) := by decide +kernel
theorem d_Se_take_1 : decode b_Se_take 1 = .ok (.getfield 19, 3) := by decide +kernel
theorem d_Se_take_4 : decode b_Se_take 4 = .ok (.ifnonnull 12, 3) := by decide +kernel
theorem d_Se_take_7 : decode b_Se_take 7 = .ok (.aload_n 0, 1) := by decide +kernel
theorem d_Se_take_8 : decode b_Se_take 8 = .ok (.sipush 2048, 3) := by decide +kernel
theorem d_Se_take_11 : decode b_Se_take 11 = .ok (.newarray .byte, 2) := by decide +kernel
theorem d_Se_take_13 : decode b_Se_take 13 = .ok (.putfield 19, 3) := by decide +kernel
theorem d_Se_take_16 : decode b_Se_take 16 = .ok (.aload_n 1, 1) := by decide +kernel
theorem d_Se_take_17 : decode b_Se_take 17 = .ok (.iconst 0, 1) := by decide +kernel
theorem d_Se_take_18 : decode b_Se_take 18 = .ok (.aload_n 0, 1) := by decide +kernel
theorem d_Se_take_19 : decode b_Se_take 19 = .ok (.getfield 19, 3) := by decide +kernel
theorem d_Se_take_22 : decode b_Se_take 22 = .ok (.iconst 0, 1) := by decide +kernel
theorem d_Se_take_23 : decode b_Se_take 23 = .ok (.aload_n 1, 1) := by decide +kernel
theorem d_Se_take_24 : decode b_Se_take 24 = .ok (.arraylength, 1) := by decide +kernel
theorem d_Se_take_25 : decode b_Se_take 25 = .ok (.aload_n 0, 1) := by decide +kernel
theorem d_Se_take_26 : decode b_Se_take 26 = .ok (.getfield 19, 3) := by decide +kernel
theorem d_Se_take_29 : decode b_Se_take 29 = .ok (.arraylength, 1) := by decide +kernel
theorem d_Se_take_30 : decode b_Se_take 30 = .ok (.invokestatic 23, 3) := by decide +kernel
theorem d_Se_take_33 : decode b_Se_take 33 = .ok (.invokestatic 29, 3) := by decide +kernel
theorem d_Se_take_36 : decode b_Se_take 36 = .ok (.aload_n 0, 1) := by decide +kernel
theorem d_Se_take_37 : decode b_Se_take 37 = .ok (.iconst 1, 1) := by decide +kernel
theorem d_Se_take_38 : decode b_Se_take 38 = .ok (.putfield 9, 3) := by decide +kernel
theorem d_Se_take_41 : decode b_Se_take 41 = .ok (.return_, 1) := by decide +kernel
theorem d_Me_write_0 : decode b_Me_write 0 = .ok (.aload_n 0, 1) := by decide +kernel
theorem d_Me_write_1 : decode b_Me_write 1 = .ok (.iload_n 1, 1) := by decide +kernel
theorem d_Me_write_2 : decode b_Me_write 2 = .ok (.invokevirtual 28, 3) := by decide +kernel
theorem d_Me_write_5 : decode b_Me_write 5 = .ok (.ifCond .ne 5, 3) := by decide +kernel
theorem d_Me_write_10 : decode b_Me_write 10 = .ok (.aload_n 0, 1) := by decide +kernel
theorem d_Me_write_11 : decode b_Me_write 11 = .ok (.getfield 17, 3) := by decide +kernel
theorem d_Me_write_14 : decode b_Me_write 14 = .ok (.iload_n 1, 1) := by decide +kernel
theorem d_Me_write_15 : decode b_Me_write 15 = .ok (.aaload, 1) := by decide +kernel
theorem d_Me_write_16 : decode b_Me_write 16 = .ok (.astore 4, 2) := by decide +kernel
theorem d_Me_write_18 : decode b_Me_write 18 = .ok (.aload_n 3, 1) := by decide +kernel
theorem d_Me_write_19 : decode b_Me_write 19 = .ok (.invokevirtual 36, 3) := by decide +kernel
theorem d_Me_write_22 : decode b_Me_write 22 = .ok (.istore 5, 2) := by decide +kernel
theorem d_Me_write_24 : decode b_Me_write 24 = .ok (.aload_n 0, 1) := by decide +kernel
theorem d_Me_write_25 : decode b_Me_write 25 = .ok (.aload_n 0, 1) := by decide +kernel
theorem d_Me_write_26 : decode b_Me_write 26 = .ok (.getfield 9, 3) := by decide +kernel
theorem d_Me_write_29 : decode b_Me_write 29 = .ok (.iload_n 1, 1) := by decide +kernel
theorem d_Me_write_30 : decode b_Me_write 30 = .ok (.iconst 1, 1) := by decide +kernel
theorem d_Me_write_31 : decode b_Me_write 31 = .ok (.iadd, 1) := by decide +kernel
theorem d_Me_write_32 : decode b_Me_write 32 = .ok (.invokestatic 42, 3) := by decide +kernel
theorem d_Me_write_35 : decode b_Me_write 35 = .ok (.putfield 9, 3) := by decide +kernel
theorem d_Me_write_38 : decode b_Me_write 38 = .ok (.iload 5, 2) := by decide +kernel
theorem d_Me_write_40 : decode b_Me_write 40 = .ok (.ifCond .eq 20, 3) := by decide +kernel
theorem d_Me_write_43 : decode b_Me_write 43 = .ok (.aload 4, 2) := by decide +kernel
theorem d_Me_write_45 : decode b_Me_write 45 = .ok (.getfield 32, 3) := by decide +kernel
theorem d_Me_write_48 : decode b_Me_write 48 = .ok (.ifCond .ne 12, 3) := by decide +kernel
theorem d_Me_write_51 : decode b_Me_write 51 = .ok (.aload 4, 2) := by decide +kernel
theorem d_Me_write_53 : decode b_Me_write 53 = .ok (.aload_n 2, 1) := by decide +kernel
theorem d_Me_write_54 : decode b_Me_write 54 = .ok (.invokevirtual 48, 3) := by decide +kernel
theorem d_Me_write_57 : decode b_Me_write 57 = .ok (.goto 9, 3) := by decide +kernel
theorem d_Me_write_66 : decode b_Me_write 66 = .ok (.iload 5, 2) := by decide +kernel
theorem d_Me_write_68 : decode b_Me_write 68 = .ok (.ifCond .eq 11, 3) := by decide +kernel
theorem d_Me_write_71 : decode b_Me_write 71 = .ok (.aload 4, 2) := by decide +kernel
theorem d_Me_write_73 : decode b_Me_write 73 = .ok (.getfield 25, 3) := by decide +kernel
theorem d_Me_write_76 : decode b_Me_write 76 = .ok (.goto 5, 3) := by decide +kernel
theorem d_Me_write_81 : decode b_Me_write 81 = .ok (.ireturn, 1) := by decide +kernel
set_option maxHeartbeats 4000000 in
set_option maxRecDepth 100000 in
theorem c_Medium_has (l : Launch) (D : va_G) (t : Nat → ClassId) (G : hG) (ak av : Nat → Nat) (h : hM) (md sa n : Nat) (fa : Nat → Option Nat) (x sx : Int32) (f_md : h md = some (.inr (0, [.ref sa, .int x]))) (f_sa : h sa = some (.inl ((t 5), n, .inr (.inr (.inr (.inr fa)))))) (hn : n < 2 ^ 31) : Met l y_Me_has (.code y_Me_has b_Me_has 2 (some .boolean) :: lw_g) { frames := 0, cells := 0, slots := 0, locals := 0 } (hP (kE D t G ak av) D vwCl G h [.ref md, .int sx]) (hQi D vwCl G (fun r h' => ((r = 1 ∧ ∃ j, j < n ∧ sx = nI j) ∨ (r = 0 ∧ (sx < 0 ∨ nI n ≤ sx))) ∧ h = h')) 0 0 G.P := by
  refine Met.ofW (cc := b_Me_has) (maxL := 2) (ret := (some .boolean)) (by decide) rfl ?_
  intro p e s m args below meth c s₁ Bd hml hv
  obtain ⟨ha, hE, hH⟩ := hv
  have hx := Bd.exec
  have hb := Bd.bytes
  have hr := Bd.returns
  have hts : ∀ w ∈ lw_g, w.before args s = true := fun w hw => atoms_spec (ws := (.code y_Me_has b_Me_has 2 (some .boolean) :: lw_g)) Bd.pre w (List.mem_cons_of_mem _ hw)
  have hown : s.vm.findClass R_Me = some m.cls := findClass_of_methodNamed Bd.named
  have hlocks := Bd.notSynchronized
  have hK := hE.1
  have hH0 := hH
  have hLo : hLc G.P [] := hLc_nil
  have hz : s.heap.size ≤ s.heap.size := Nat.le_refl _
  have hkp : kp [] h h := kp_rf
  have hl := lv_entry [.ref md, .int sx] (n := 2) (Nat.le_of_ble_eq_true rfl)
  rw [show entryFrame m args 2 = F0 m 0 ((lg_sl [.ref md, .int sx] ++ List.replicate (2 - (lg_sl [.ref md, .int sx]).length) Slot.unset).toArray) [] from (by rw [ha]; exact lg_entry_eq m [.ref md, .int sx] 2)]
  generalize (lg_sl [.ref md, .int sx] ++ List.replicate (2 - (lg_sl [.ref md, .int sx]).length) Slot.unset).toArray = ls at hl ⊢
  have hl : lv_has ls 2 [(0, .ref md), (1, .int sx)] := hl
  refine lv_iload_n hx hb d_Me_has_0 rfl (lv_at hl 1 rfl) ?_
  refine lv_if_lt (tgt := 17) hx hb d_Me_has_1 (by decide) (fun hc1 => ?_) (fun hc1 => ?_)
  · skip
    refine lv_iconst (v := 0) hx hb d_Me_has_17 (by decide) ?_
    exact W.zret (v := 0) hx hb hr (by decide) (fun t9 ht hW => ⟨0, h, rfl, ⟨Or.inr ⟨rfl, Or.inl hc1⟩, rfl⟩, by rw [ht]; exact hH, by rw [ht]; exact hz⟩) hLo d_Me_has_18
  · skip
    refine lv_iload_n hx hb d_Me_has_4 rfl (lv_at hl 1 rfl) ?_
    refine lv_aload_n hx hb d_Me_has_5 rfl (lv_at hl 0 rfl) ?_
    refine hm_get (ci := 0) (v := .ref sa) (C := R_Me) (T := F_Me) (N := 2) hx hb hts ig_Me hown hK hH f_md rfl 0 (by decide) (hts _ mw_28) (fun _ h9 => h9) rfl d_Me_has_6 ?_
    refine hm_alen (v := nI n) hx hb hK hH 5 f_sa (ty := (.object "WriteOnceDisc$Sector")) rfl rfl d_Me_has_9 ?_
    refine lv_icmp_ge (tgt := 17) hx hb d_Me_has_10 (by decide) (fun hc2 => ?_) (fun hc2 => ?_)
    · skip
      refine lv_iconst (v := 0) hx hb d_Me_has_17 (by decide) ?_
      exact W.zret (v := 0) hx hb hr (by decide) (fun t9 ht hW => ⟨0, h, rfl, ⟨Or.inr ⟨rfl, Or.inr hc2⟩, rfl⟩, by rw [ht]; exact hH, by rw [ht]; exact hz⟩) hLo d_Me_has_18
    · skip
      obtain ⟨j, hj, hat, -⟩ := pk_mu hc1 hc2 hn
      refine lv_iconst (v := 1) hx hb d_Me_has_13 (by decide) ?_
      refine lv_goto (tgt := 18) hx hb d_Me_has_14 (by decide) ?_
      exact W.zret (v := 1) hx hb hr (by decide) (fun t9 ht hW => ⟨1, h, rfl, ⟨Or.inl ⟨rfl, j, hj, hat⟩, rfl⟩, by rw [ht]; exact hH, by rw [ht]; exact hz⟩) hLo d_Me_has_18

set_option maxHeartbeats 4000000 in
set_option maxRecDepth 100000 in
theorem c_Medium_hasYes (l : Launch) (D : va_G) (t : Nat → ClassId) (G : hG) (ak av : Nat → Nat) (h : hM) (md sa n j : Nat) (fa : Nat → Option Nat) (x : Int32) (f_md : h md = some (.inr (0, [.ref sa, .int x]))) (f_sa : h sa = some (.inl ((t 5), n, .inr (.inr (.inr (.inr fa)))))) (hn : n < 2 ^ 31) (hj : j < n) : Met l y_Me_has (.code y_Me_has b_Me_has 2 (some .boolean) :: lw_g) { frames := 0, cells := 0, slots := 0, locals := 0 } (hP (kE D t G ak av) D vwCl G h [.ref md, .int (nI j)]) (hQi D vwCl G (fun r h' => r = 1 ∧ h = h')) 0 0 G.P := by
  refine Met.ofW (cc := b_Me_has) (maxL := 2) (ret := (some .boolean)) (by decide) rfl ?_
  intro p e s m args below meth c s₁ Bd hml hv
  obtain ⟨ha, hE, hH⟩ := hv
  have hx := Bd.exec
  have hb := Bd.bytes
  have hr := Bd.returns
  have hts : ∀ w ∈ lw_g, w.before args s = true := fun w hw => atoms_spec (ws := (.code y_Me_has b_Me_has 2 (some .boolean) :: lw_g)) Bd.pre w (List.mem_cons_of_mem _ hw)
  have hown : s.vm.findClass R_Me = some m.cls := findClass_of_methodNamed Bd.named
  have hlocks := Bd.notSynchronized
  have hK := hE.1
  have hH0 := hH
  have hLo : hLc G.P [] := hLc_nil
  have hz : s.heap.size ≤ s.heap.size := Nat.le_refl _
  have hkp : kp [] h h := kp_rf
  have hl := lv_entry [.ref md, .int (nI j)] (n := 2) (Nat.le_of_ble_eq_true rfl)
  rw [show entryFrame m args 2 = F0 m 0 ((lg_sl [.ref md, .int (nI j)] ++ List.replicate (2 - (lg_sl [.ref md, .int (nI j)]).length) Slot.unset).toArray) [] from (by rw [ha]; exact lg_entry_eq m [.ref md, .int (nI j)] 2)]
  generalize (lg_sl [.ref md, .int (nI j)] ++ List.replicate (2 - (lg_sl [.ref md, .int (nI j)]).length) Slot.unset).toArray = ls at hl ⊢
  have hl : lv_has ls 2 [(0, .ref md), (1, .int (nI j))] := hl
  refine lv_iload_n hx hb d_Me_has_0 rfl (lv_at hl 1 rfl) ?_
  refine lv_if_lt (tgt := 17) hx hb d_Me_has_1 (by decide) (fun hc1 => absurd hc1 (nI_pos (Nat.lt_trans hj hn))) (fun hc1 => ?_)
  refine lv_iload_n hx hb d_Me_has_4 rfl (lv_at hl 1 rfl) ?_
  refine lv_aload_n hx hb d_Me_has_5 rfl (lv_at hl 0 rfl) ?_
  refine hm_get (ci := 0) (v := .ref sa) (C := R_Me) (T := F_Me) (N := 2) hx hb hts ig_Me hown hK hH f_md rfl 0 (by decide) (hts _ mw_28) (fun _ h9 => h9) rfl d_Me_has_6 ?_
  refine hm_alen (v := nI n) hx hb hK hH 5 f_sa (ty := (.object "WriteOnceDisc$Sector")) rfl rfl d_Me_has_9 ?_
  refine lv_icmp_ge (tgt := 17) hx hb d_Me_has_10 (by decide) (fun hc2 => absurd hc2 (nI_ge hj hn)) (fun hc2 => ?_)
  refine lv_iconst (v := 1) hx hb d_Me_has_13 (by decide) ?_
  refine lv_goto (tgt := 18) hx hb d_Me_has_14 (by decide) ?_
  exact W.zret (v := 1) hx hb hr (by decide) (fun t9 ht hW => ⟨1, h, rfl, ⟨rfl, rfl⟩, by rw [ht]; exact hH, by rw [ht]; exact hz⟩) hLo d_Me_has_18

set_option maxHeartbeats 4000000 in
set_option maxRecDepth 100000 in
theorem c_Medium_hasRoom (l : Launch) (D : va_G) (t : Nat → ClassId) (G : hG) (ak av : Nat → Nat) (h : hM) (md sa n : Nat) (fa : Nat → Option Nat) (x fm ct : Int32) (f_md : h md = some (.inr (0, [.ref sa, .int x]))) (f_sa : h sa = some (.inl ((t 5), n, .inr (.inr (.inr (.inr fa)))))) (hle : fm ≤ nI n - ct) : Met l y_Me_hasRoom (.code y_Me_hasRoom b_Me_hasRoom 3 (some .boolean) :: lw_g) { frames := 0, cells := 0, slots := 0, locals := 0 } (hP (kE D t G ak av) D vwCl G h [.ref md, .int fm, .int ct]) (hQi D vwCl G (fun r h' => r = 1 ∧ h = h')) 0 0 G.P := by
  refine Met.ofW (cc := b_Me_hasRoom) (maxL := 3) (ret := (some .boolean)) (by decide) rfl ?_
  intro p e s m args below meth c s₁ Bd hml hv
  obtain ⟨ha, hE, hH⟩ := hv
  have hx := Bd.exec
  have hb := Bd.bytes
  have hr := Bd.returns
  have hts : ∀ w ∈ lw_g, w.before args s = true := fun w hw => atoms_spec (ws := (.code y_Me_hasRoom b_Me_hasRoom 3 (some .boolean) :: lw_g)) Bd.pre w (List.mem_cons_of_mem _ hw)
  have hown : s.vm.findClass R_Me = some m.cls := findClass_of_methodNamed Bd.named
  have hlocks := Bd.notSynchronized
  have hK := hE.1
  have hH0 := hH
  have hLo : hLc G.P [] := hLc_nil
  have hz : s.heap.size ≤ s.heap.size := Nat.le_refl _
  have hkp : kp [] h h := kp_rf
  have hl := lv_entry [.ref md, .int fm, .int ct] (n := 3) (Nat.le_of_ble_eq_true rfl)
  rw [show entryFrame m args 3 = F0 m 0 ((lg_sl [.ref md, .int fm, .int ct] ++ List.replicate (3 - (lg_sl [.ref md, .int fm, .int ct]).length) Slot.unset).toArray) [] from (by rw [ha]; exact lg_entry_eq m [.ref md, .int fm, .int ct] 3)]
  generalize (lg_sl [.ref md, .int fm, .int ct] ++ List.replicate (3 - (lg_sl [.ref md, .int fm, .int ct]).length) Slot.unset).toArray = ls at hl ⊢
  have hl : lv_has ls 3 [(0, .ref md), (1, .int fm), (2, .int ct)] := hl
  refine lv_iload_n hx hb d_Me_hasRoom_0 rfl (lv_at hl 1 rfl) ?_
  refine lv_aload_n hx hb d_Me_hasRoom_1 rfl (lv_at hl 0 rfl) ?_
  refine hm_get (ci := 0) (v := .ref sa) (C := R_Me) (T := F_Me) (N := 2) hx hb hts ig_Me hown hK hH f_md rfl 0 (by decide) (hts _ mw_28) (fun _ h9 => h9) rfl d_Me_hasRoom_2 ?_
  refine hm_alen (v := nI n) hx hb hK hH 5 f_sa (ty := (.object "WriteOnceDisc$Sector")) rfl rfl d_Me_hasRoom_5 ?_
  refine lv_iload_n hx hb d_Me_hasRoom_6 rfl (lv_at hl 2 rfl) ?_
  refine lv_isub hx hb d_Me_hasRoom_7 ?_
  refine lv_icmp_gt (tgt := 15) hx hb d_Me_hasRoom_8 (by decide) (fun hc1 => absurd hc1 (Int32.not_lt.mpr hle)) (fun hc1 => ?_)
  refine lv_iconst (v := 1) hx hb d_Me_hasRoom_11 (by decide) ?_
  refine lv_goto (tgt := 16) hx hb d_Me_hasRoom_12 (by decide) ?_
  exact W.zret (v := 1) hx hb hr (by decide) (fun t9 ht hW => ⟨1, h, rfl, ⟨rfl, rfl⟩, by rw [ht]; exact hH, by rw [ht]; exact hz⟩) hLo d_Me_hasRoom_16

set_option maxHeartbeats 4000000 in
set_option maxRecDepth 100000 in
theorem c_Power_lasts (l : Launch) (D : va_G) (t : Nat → ClassId) (G : hG) (ak av : Nat → Nat) (h : hM) (su : Nat) (sp : Int32) (f_su : h su = some (.inr (4, [.int (-1), .int 0, .int sp]))) : Met l y_Po_lastsForWrite (.code y_Po_lastsForWrite b_Po_lastsForWrite 1 (some .boolean) :: lw_g) { frames := 0, cells := 0, slots := 0, locals := 0 } (hP (kE D t G ak av) D vwCl G h [.ref su]) (hQi D vwCl G (fun r h' => r = 1 ∧ kp [su] h h' ∧ h' su = some (.inr (4, [.int (-1), .int 0, .int (sp + 1)])))) 0 0 G.P := by
  refine Met.ofW (cc := b_Po_lastsForWrite) (maxL := 1) (ret := (some .boolean)) (by decide) rfl ?_
  intro p e s m args below meth c s₁ Bd hml hv
  obtain ⟨ha, hE, hH⟩ := hv
  have hx := Bd.exec
  have hb := Bd.bytes
  have hr := Bd.returns
  have hts : ∀ w ∈ lw_g, w.before args s = true := fun w hw => atoms_spec (ws := (.code y_Po_lastsForWrite b_Po_lastsForWrite 1 (some .boolean) :: lw_g)) Bd.pre w (List.mem_cons_of_mem _ hw)
  have hown : s.vm.findClass R_Po = some m.cls := findClass_of_methodNamed Bd.named
  have hlocks := Bd.notSynchronized
  have hK := hE.1
  have hH0 := hH
  have hLo : hLc G.P [] := hLc_nil
  have hz : s.heap.size ≤ s.heap.size := Nat.le_refl _
  have hkp : kp [su] h h := kp_rf
  have hl := lv_entry [.ref su] (n := 1) (Nat.le_of_ble_eq_true rfl)
  rw [show entryFrame m args 1 = F0 m 0 ((lg_sl [.ref su] ++ List.replicate (1 - (lg_sl [.ref su]).length) Slot.unset).toArray) [] from (by rw [ha]; exact lg_entry_eq m [.ref su] 1)]
  generalize (lg_sl [.ref su] ++ List.replicate (1 - (lg_sl [.ref su]).length) Slot.unset).toArray = ls at hl ⊢
  have hl : lv_has ls 1 [(0, .ref su)] := hl
  refine lv_aload_n hx hb d_Po_lastsForWrite_0 rfl (lv_at hl 0 rfl) ?_
  refine lv_dup hx hb d_Po_lastsForWrite_1 rfl ?_
  refine hm_get (ci := 4) (v := .int sp) (C := R_Po) (T := F_Po) (N := 3) hx hb hts ig_Po hown hK hH f_su rfl 2 (by decide) (hts _ mw_5) (fun _ h9 => h9) rfl d_Po_lastsForWrite_2 ?_
  refine lv_iconst (v := 1) hx hb d_Po_lastsForWrite_5 (by decide) ?_
  refine lv_iadd hx hb d_Po_lastsForWrite_6 ?_
  refine hm_put (ci := 4) (v := .int (sp + 1)) (ty := .int) (C := R_Po) (T := F_Po) (N := 3) hx hb hts ig_Po t_Po tk_Po nm_Po hown hK hH hLo f_su rfl 2 (by decide) (hts _ mw_5) (fun _ h9 => h9) rfl (by decide +kernel) rfl rfl (Nat.le_of_ble_eq_true rfl) d_Po_lastsForWrite_7 (fun H1 locs hH z2 hLo => ?_)
  have hz : s.heap.size ≤ H1.size := by rw [z2]; exact hz
  obtain ⟨h3, e4⟩ : ∃ z, z = hu h su (.inr (4, [.int (-1), .int 0, .int (sp + 1)])) := ⟨_, rfl⟩
  have hH : hm D vwCl G h3 H1 := by rw [e4]; exact hH
  have f_su : h3 su = some (.inr (4, [.int (-1), .int 0, .int (sp + 1)])) := by rw [e4]; exact hu_s _ _ _
  have hkp : kp [su] h h3 := by rw [e4]; exact kp_put hkp (by simp)
  refine lv_aload_n hx hb d_Po_lastsForWrite_10 rfl (lv_at hl 0 rfl) ?_
  refine hm_get (ci := 4) (v := .int (-1)) (C := R_Po) (T := F_Po) (N := 3) hx hb hts ig_Po hown hK hH f_su rfl 0 (by decide) (hts _ mw_3) (fun _ h9 => h9) rfl d_Po_lastsForWrite_11 ?_
  refine lv_if_ne (tgt := 25) hx hb d_Po_lastsForWrite_14 (by decide) (fun hc5 => ?_) (fun hc5 => absurd hc5 (by decide))
  refine lv_aload_n hx hb d_Po_lastsForWrite_25 rfl (lv_at hl 0 rfl) ?_
  refine hm_get (ci := 4) (v := .int (-1)) (C := R_Po) (T := F_Po) (N := 3) hx hb hts ig_Po hown hK hH f_su rfl 0 (by decide) (hts _ mw_3) (fun _ h9 => h9) rfl d_Po_lastsForWrite_26 ?_
  refine lv_if_le (tgt := 42) hx hb d_Po_lastsForWrite_29 (by decide) (fun hc6 => ?_) (fun hc6 => absurd (by decide) hc6)
  refine lv_aload_n hx hb d_Po_lastsForWrite_42 rfl (lv_at hl 0 rfl) ?_
  refine hm_get (ci := 4) (v := .int 0) (C := R_Po) (T := F_Po) (N := 3) hx hb hts ig_Po hown hK hH f_su rfl 1 (by decide) (hts _ mw_4) (fun _ h9 => h9) rfl d_Po_lastsForWrite_43 ?_
  refine lv_if_ne (tgt := 53) hx hb d_Po_lastsForWrite_46 (by decide) (fun hc7 => absurd rfl hc7) (fun hc7 => ?_)
  refine lv_iconst (v := 1) hx hb d_Po_lastsForWrite_49 (by decide) ?_
  refine lv_goto (tgt := 54) hx hb d_Po_lastsForWrite_50 (by decide) ?_
  exact W.zret (v := 1) hx hb hr (by decide) (fun t9 ht hW => ⟨1, h3, rfl, ⟨rfl, hkp, f_su⟩, by rw [ht]; exact hH, by rw [ht]; exact hz⟩) hLo d_Po_lastsForWrite_54

set_option maxHeartbeats 4000000 in
set_option maxRecDepth 100000 in
theorem c_Sector_take (l : Launch) (D : va_G) (t : Nat → ClassId) (G : hG) (ak av : Nat → Nat) (h : hM) (sc pb : Nat) (cd df : Int32) (f_sc : h sc = some (.inr (6, [.int cd, .int df, .null]))) (hpb : pgF t h pb 2048) : Met l y_Se_take (.code y_Se_take b_Se_take 2 none :: lw_g) { frames := 1, cells := 1, slots := 2048, locals := 80 } (hP (kE D t G ak av) D vwCl G h [.ref sc, .ref pb]) (hQv D vwCl G (fun h' => kp [sc] h h' ∧ ∃ (nb : Nat) (f' : Nat → Int32), h' sc = some (.inr (6, [.int 1, .int df, .ref nb])) ∧ h' nb = some (.inl (t 0, 2048, .inl f')))) 1 2048 G.P := by
  refine Met.ofW (cc := b_Se_take) (maxL := 2) (ret := none) (by decide) rfl ?_
  intro p e s m args below meth c s₁ Bd hml hv
  obtain ⟨ha, hE, hH⟩ := hv
  have hx := Bd.exec
  have hb := Bd.bytes
  have hr := Bd.returns
  have hts : ∀ w ∈ lw_g, w.before args s = true := fun w hw => atoms_spec (ws := (.code y_Se_take b_Se_take 2 none :: lw_g)) Bd.pre w (List.mem_cons_of_mem _ hw)
  have hown : s.vm.findClass R_Se = some m.cls := findClass_of_methodNamed Bd.named
  have hlocks := Bd.notSynchronized
  have hK := hE.1
  have hH0 := hH
  have hLo : hLc G.P [] := hLc_nil
  have hz : s.heap.size ≤ s.heap.size := Nat.le_refl _
  have hkp : kp [sc] h h := kp_rf
  have hl := lv_entry [.ref sc, .ref pb] (n := 2) (Nat.le_of_ble_eq_true rfl)
  rw [show entryFrame m args 2 = F0 m 0 ((lg_sl [.ref sc, .ref pb] ++ List.replicate (2 - (lg_sl [.ref sc, .ref pb]).length) Slot.unset).toArray) [] from (by rw [ha]; exact lg_entry_eq m [.ref sc, .ref pb] 2)]
  generalize (lg_sl [.ref sc, .ref pb] ++ List.replicate (2 - (lg_sl [.ref sc, .ref pb]).length) Slot.unset).toArray = ls at hl ⊢
  have hl : lv_has ls 2 [(0, .ref sc), (1, .ref pb)] := hl
  obtain ⟨f, hfit, f_pb⟩ := hpb
  refine lv_aload_n hx hb d_Se_take_0 rfl (lv_at hl 0 rfl) ?_
  refine hm_get (ci := 6) (v := .null) (C := R_Se) (T := F_Se) (N := 3) hx hb hts ig_Se hown hK hH f_sc rfl 2 (by decide) (hts _ mw_9) (fun _ h9 => h9) rfl d_Se_take_1 ?_
  refine lv_ifnonnullN hx hb d_Se_take_4 ?_
  refine lv_aload_n hx hb d_Se_take_7 rfl (lv_at hl 0 rfl) ?_
  refine lv_sipush (v := 2048) hx hb d_Se_take_8 (by decide) ?_
  refine hm_newa (atype := .byte) (ty := .byte) (N' := 2048) (a0 := (2048, .inl (fun _ => 0))) hx hb (hts _ mw_23) rfl hK hH 0 (cA := (t 0)) rfl (hK.2 0 _ rfl).2 (fun _ => rfl) (by decide) (by decide) (by decide) (Nat.le_of_ble_eq_true rfl) (Nat.le_of_ble_eq_true rfl) d_Se_take_11 (fun q2 H1 hq3 hn4 hH z5 => ?_)
  have hz : s.heap.size ≤ H1.size := by rw [z5]; exact Nat.le_succ_of_le hz
  obtain ⟨h6, e7⟩ : ∃ z, z = hu h q2 (.inl ((t 0), 2048, .inl (fun _ => 0))) := ⟨_, rfl⟩
  have hH : hm D vwCl G h6 H1 := by rw [e7]; exact hH
  have nb_h_q2 : h q2 = none := kp_none hkp hn4 (nmc (Ne.symm (h_nf hn4 f_sc)) nm0)
  have hkp : kp [sc] h h6 := by rw [e7]; exact kp_new hkp hn4
  have ne_sc_q2 : sc ≠ q2 := h_nf hn4 f_sc
  have f_sc : h6 sc = some (.inr (6, [.int cd, .int df, .null])) := by rw [e7, hu_n ne_sc_q2]; exact f_sc
  have ne_pb_q2 : pb ≠ q2 := h_nf hn4 f_pb
  have f_pb : h6 pb = some (.inl ((t 0), 2048, .inl f)) := by rw [e7, hu_n ne_pb_q2]; exact f_pb
  have f_nb : h6 q2 = some (.inl ((t 0), 2048, .inl (fun _ => 0))) := by rw [e7]; exact hu_s _ _ _
  refine hm_put (ci := 6) (v := .ref q2) (ty := (.array .byte)) (C := R_Se) (T := F_Se) (N := 3) hx hb hts ig_Se t_Se tk_Se nm_Se hown hK hH hLo f_sc rfl 2 (by decide) (hts _ mw_9) (fun _ h9 => h9) rfl (by decide +kernel) rfl rfl (Nat.le_of_ble_eq_true rfl) d_Se_take_13 (fun H8 locs hH z9 hLo => ?_)
  have hz : s.heap.size ≤ H8.size := by rw [z9]; exact hz
  obtain ⟨h10, e11⟩ : ∃ z, z = hu h6 sc (.inr (6, [.int cd, .int df, .ref q2])) := ⟨_, rfl⟩
  have hH : hm D vwCl G h10 H8 := by rw [e11]; exact hH
  have f_pb : h10 pb = some (.inl ((t 0), 2048, .inl f)) := by rw [e11, hu_n (h_neA f_pb f_sc)]; exact f_pb
  have f_nb : h10 q2 = some (.inl ((t 0), 2048, .inl (fun _ => 0))) := by rw [e11, hu_n (Ne.symm ne_sc_q2)]; exact f_nb
  have f_sc : h10 sc = some (.inr (6, [.int cd, .int df, .ref q2])) := by rw [e11]; exact hu_s _ _ _
  have hkp : kp [sc] h h10 := by rw [e11]; exact kp_put hkp (by simp)
  refine lv_aload_n hx hb d_Se_take_16 rfl (lv_at hl 1 rfl) ?_
  refine lv_iconst (v := 0) hx hb d_Se_take_17 (by decide) ?_
  refine lv_aload_n hx hb d_Se_take_18 rfl (lv_at hl 0 rfl) ?_
  refine hm_get (ci := 6) (v := .ref q2) (C := R_Se) (T := F_Se) (N := 3) hx hb hts ig_Se hown hK hH f_sc rfl 2 (by decide) (hts _ mw_9) (fun _ h9 => h9) rfl d_Se_take_19 ?_
  refine lv_iconst (v := 0) hx hb d_Se_take_22 (by decide) ?_
  refine lv_aload_n hx hb d_Se_take_23 rfl (lv_at hl 1 rfl) ?_
  refine hm_alen (v := 2048) hx hb hK hH 0 f_pb (ty := .byte) rfl (show Int32.ofNat 2048 = 2048 by decide) d_Se_take_24 ?_
  refine lv_aload_n hx hb d_Se_take_25 rfl (lv_at hl 0 rfl) ?_
  refine hm_get (ci := 6) (v := .ref q2) (C := R_Se) (T := F_Se) (N := 3) hx hb hts ig_Se hown hK hH f_sc rfl 2 (by decide) (hts _ mw_9) (fun _ h9 => h9) rfl d_Se_take_26 ?_
  refine hm_alen (v := 2048) hx hb hK hH 0 f_nb (ty := .byte) rfl (show Int32.ofNat 2048 = 2048 by decide) d_Se_take_29 ?_
  refine va_mmin (x := 2048) (y := 2048) hx hb (hml.trans hl.1.symm) hown (hts _ mw_154) (hts _ mw_155) (hts _ mw_156) (hts _ mw_157) (Nat.le_of_ble_eq_true rfl) (Nat.le_of_ble_eq_true rfl) (Nat.le_of_ble_eq_true rfl) (Nat.le_of_ble_eq_true rfl) d_Se_take_30 ?_
  refine lv_topi (fun v12 e13 => ?_)
  obtain rfl : v12 = nI 2048 := e13.trans (by decide)
  refine hm_copyb hx hb (hml.trans hl.1.symm) hown (hts _ mw_158) (hts _ mw_159) (hts _ mw_160) (hts _ mw_161) hK hH hLo 0 f_pb f_nb rfl 2048 rfl (by decide) (by decide) (by decide) hfit (Nat.le_of_ble_eq_true rfl) (Nat.le_of_ble_eq_true rfl) d_Se_take_33 (fun H14 locs hH z15 hLo => ?_)
  have hz : s.heap.size ≤ H14.size := by rw [z15]; exact hz
  obtain ⟨h16, e17⟩ : ∃ z, z = hu h10 q2 (.inl ((t 0), 2048, .inl (va_cpy f (fun _ => 0) 0 0 2048))) := ⟨_, rfl⟩
  have hH : hm D vwCl G h16 H14 := by rw [e17]; exact hH
  have f_sc : h16 sc = some (.inr (6, [.int cd, .int df, .ref q2])) := by rw [e17, hu_n ne_sc_q2]; exact f_sc
  have f_pb : h16 pb = some (.inl ((t 0), 2048, .inl f)) := by rw [e17, hu_n ne_pb_q2]; exact f_pb
  have f_nb : h16 q2 = some (.inl ((t 0), 2048, .inl (va_cpy f (fun _ => 0) 0 0 2048))) := by rw [e17]; exact hu_s _ _ _
  have hkp : kp [sc] h h16 := by rw [e17]; exact kp_putN hkp nb_h_q2
  refine lv_aload_n hx hb d_Se_take_36 rfl (lv_at hl 0 rfl) ?_
  refine lv_iconst (v := 1) hx hb d_Se_take_37 (by decide) ?_
  refine hm_put (ci := 6) (v := .int 1) (ty := .int) (C := R_Se) (T := F_Se) (N := 3) hx hb hts ig_Se t_Se tk_Se nm_Se hown hK hH hLo f_sc rfl 0 (by decide) (hts _ mw_7) (fun _ h9 => h9) rfl (by decide +kernel) rfl rfl (Nat.le_of_ble_eq_true rfl) d_Se_take_38 (fun H18 locs hH z19 hLo => ?_)
  have hz : s.heap.size ≤ H18.size := by rw [z19]; exact hz
  obtain ⟨h20, e21⟩ : ∃ z, z = hu h16 sc (.inr (6, [.int 1, .int df, .ref q2])) := ⟨_, rfl⟩
  have hH : hm D vwCl G h20 H18 := by rw [e21]; exact hH
  have f_pb : h20 pb = some (.inl ((t 0), 2048, .inl f)) := by rw [e21, hu_n (h_neA f_pb f_sc)]; exact f_pb
  have f_nb : h20 q2 = some (.inl ((t 0), 2048, .inl (va_cpy f (fun _ => 0) 0 0 2048))) := by rw [e21, hu_n (Ne.symm ne_sc_q2)]; exact f_nb
  have f_sc : h20 sc = some (.inr (6, [.int 1, .int df, .ref q2])) := by rw [e21]; exact hu_s _ _ _
  have hkp : kp [sc] h h20 := by rw [e21]; exact kp_put hkp (by simp)
  exact W.vret hx hb hr (fun t9 ht hW => ⟨h20, rfl, ⟨hkp, q2, _, f_sc, f_nb⟩, by rw [ht]; exact hH, by rw [ht]; exact hz⟩) hLo d_Se_take_41

set_option maxHeartbeats 4000000 in
set_option maxRecDepth 100000 in
theorem c_Medium_write (l : Launch) (D : va_G) (t : Nat → ClassId) (G : hG) (ak av : Nat → Nat) (h : hM) (md sa pb su n j fr : Nat) (fa : Nat → Option Nat) (sp : Int32) (f_md : h md = some (.inr (0, [.ref sa, .int (nI fr)]))) (f_sa : h sa = some (.inl ((t 5), n, .inr (.inr (.inr (.inr fa)))))) (f_su : h su = some (.inr (4, [.int (-1), .int 0, .int sp]))) (hpb : pgF t h pb 2048) (hrow : rowP (.inr (6, [.int 0, .int 0, .null])) fa j n h) (hj : j < n) (hfr : fr ≤ j) (hn : n < 2 ^ 31) : Met l y_Me_write (.code y_Me_write b_Me_write 6 (some .int) :: lw_g) { frames := 2, cells := 1, slots := 2048, locals := 101 } (hP (kE D t G ak av) D vwCl G h [.ref md, .int (nI j), .ref pb, .ref su]) (hQi D vwCl G (fun r h' => r = 1 ∧ rowP (.inr (6, [.int 0, .int 0, .null])) fa (j + 1) n h' ∧ kx (.inr (6, [.int 0, .int 0, .null])) [md, su] h h' ∧ h' md = some (.inr (0, [.ref sa, .int (nI (j + 1))])) ∧ h' su = some (.inr (4, [.int (-1), .int 0, .int (sp + 1)])))) 1 2048 G.P := by
  refine Met.ofW (cc := b_Me_write) (maxL := 6) (ret := (some .int)) (by decide) rfl ?_
  intro p e s m args below meth c s₁ Bd hml hv
  obtain ⟨ha, hE, hH⟩ := hv
  have hx := Bd.exec
  have hb := Bd.bytes
  have hr := Bd.returns
  have hts : ∀ w ∈ lw_g, w.before args s = true := fun w hw => atoms_spec (ws := (.code y_Me_write b_Me_write 6 (some .int) :: lw_g)) Bd.pre w (List.mem_cons_of_mem _ hw)
  have hown : s.vm.findClass R_Me = some m.cls := findClass_of_methodNamed Bd.named
  have hlocks := Bd.notSynchronized
  have hK := hE.1
  have hH0 := hH
  have hLo : hLc G.P [] := hLc_nil
  have hz : s.heap.size ≤ s.heap.size := Nat.le_refl _
  have hl := lv_entry [.ref md, .int (nI j), .ref pb, .ref su] (n := 6) (Nat.le_of_ble_eq_true rfl)
  rw [show entryFrame m args 6 = F0 m 0 ((lg_sl [.ref md, .int (nI j), .ref pb, .ref su] ++ List.replicate (6 - (lg_sl [.ref md, .int (nI j), .ref pb, .ref su]).length) Slot.unset).toArray) [] from (by rw [ha]; exact lg_entry_eq m [.ref md, .int (nI j), .ref pb, .ref su] 6)]
  generalize (lg_sl [.ref md, .int (nI j), .ref pb, .ref su] ++ List.replicate (6 - (lg_sl [.ref md, .int (nI j), .ref pb, .ref su]).length) Slot.unset).toArray = ls at hl ⊢
  have hl : lv_has ls 6 [(0, .ref md), (1, .int (nI j)), (2, .ref pb), (3, .ref su)] := hl
  obtain ⟨f, hfit, f_pb⟩ := hpb
  obtain ⟨sc, hsc, f_sc⟩ := hrow.2 j (Nat.le_refl j) hj
  have f_sc0 := f_sc
  have hkp : kp [sc, md, su] h h := kp_rf
  have hrow0 := hrow
  have f_md0 := f_md
  have f_su0 := f_su
  refine lv_aload_n hx hb d_Me_write_0 rfl (lv_at hl 0 rfl) ?_
  refine lv_iload_n hx hb d_Me_write_1 rfl (lv_at hl 1 rfl) ?_
  refine hm_calli (va_runV (As := [.int (nI j)]) (b := md) (rest := []) ⟨hx, hb, hml, hown, hts⟩ (c_Medium_hasYes l D t G ak av h md sa n j fa (nI fr) f_md f_sa hn hj) ⟨cw9B 1 hts mw_162 mw_164 mw_163 rfl rfl (by decide +kernel) ⟨Nat.le_of_ble_eq_true rfl, Nat.le_of_ble_eq_true rfl⟩, hts _ mw_165, hts _ mw_166⟩ (hP_V (q := (R_Me, F_Me, 2)) kE_ok hE hK hH f_md rfl) rfl rfl hl.1 rfl (lv_room (Nat.le_of_ble_eq_true rfl)) d_Me_write_2 ⟨Nat.le_of_ble_eq_true rfl, Nat.le_of_ble_eq_true rfl⟩) hLo (fun r1 h2 H3 locs hp5 hH z4 hLo => ?_)
  have hz : s.heap.size ≤ H3.size := Nat.le_trans hz z4
  obtain ⟨rfl, rfl⟩ := hp5
  refine lv_if_ne (tgt := 10) hx hb d_Me_write_5 (by decide) (fun hc6 => ?_) (fun hc6 => absurd hc6 (by decide))
  refine lv_aload_n hx hb d_Me_write_10 rfl (lv_at hl 0 rfl) ?_
  refine hm_get (ci := 0) (v := .ref sa) (C := R_Me) (T := F_Me) (N := 2) hx hb hts ig_Me hown hK hH f_md rfl 0 (by decide) (hts _ mw_28) (fun _ h9 => h9) rfl d_Me_write_11 ?_
  refine lv_iload_n hx hb d_Me_write_14 rfl (lv_at hl 1 rfl) ?_
  refine hj_aald (v := .ref sc) hx hb hK hH 5 f_sa (C := R_Se) rfl j rfl hj hn (by rw [hsc]; rfl) d_Me_write_15 ?_
  refine lv_astore (lv' := [(4, .ref sc), (0, .ref md), (1, .int (nI j)), (2, .ref pb), (3, .ref su)]) hx hb d_Me_write_16 hl (by decide) rfl (fun ls hl => ?_)
  refine lv_aload_n hx hb d_Me_write_18 rfl (lv_at hl 4 rfl) ?_
  refine hm_calli (va_runV (As := []) (b := su) (rest := []) ⟨hx, hb, hml, hown, hts⟩ (c_Power_lasts l D t G ak av h su sp f_su) ⟨cw9B 0 hts mw_167 mw_168 mw_46 rfl rfl (by decide +kernel) ⟨Nat.le_of_ble_eq_true rfl, Nat.le_of_ble_eq_true rfl⟩, hts _ mw_169, hts _ mw_170⟩ (hP_V (q := (R_Po, F_Po, 3)) kE_ok hE hK hH f_su rfl) rfl rfl hl.1 rfl (lv_room (Nat.le_of_ble_eq_true rfl)) d_Me_write_19 ⟨Nat.le_of_ble_eq_true rfl, Nat.le_of_ble_eq_true rfl⟩) hLo (fun r7 h8 H9 locs hp11 hH z10 hLo => ?_)
  have hz : s.heap.size ≤ H9.size := Nat.le_trans hz z10
  obtain ⟨rfl, hk9, hq9⟩ := hp11
  have f_md : h8 md = some (.inr (0, [.ref sa, .int (nI fr)])) := kp_at hk9 f_md (nmc (h_neC f_md f_su (by decide)) nm0)
  have f_sa : h8 sa = some (.inl ((t 5), n, .inr (.inr (.inr (.inr fa))))) := kp_at hk9 f_sa (nmc (h_neA f_sa f_su) nm0)
  have f_pb : h8 pb = some (.inl ((t 0), 2048, .inl f)) := kp_at hk9 f_pb (nmc (h_neA f_pb f_su) nm0)
  have f_sc : h8 sc = some (.inr (6, [.int 0, .int 0, .null])) := kp_at hk9 f_sc (nmc (h_neC f_sc f_su (by decide)) nm0)
  have hkp : kp [sc, md, su] h h8 := kp_tr2 hkp hk9 (List.forall_mem_cons.mpr ⟨Or.inl (by simp), List.forall_mem_nil _⟩)
  have f_su : h8 su = some (.inr (4, [.int (-1), .int 0, .int (sp + 1)])) := hq9
  refine lv_istore (lv' := [(5, .int 1), (4, .ref sc), (0, .ref md), (1, .int (nI j)), (2, .ref pb), (3, .ref su)]) hx hb d_Me_write_22 hl (by decide) rfl (fun ls hl => ?_)
  refine lv_aload_n hx hb d_Me_write_24 rfl (lv_at hl 2 rfl) ?_
  refine lv_aload_n hx hb d_Me_write_25 rfl (lv_at hl 2 rfl) ?_
  refine hm_get (ci := 0) (v := .int (nI fr)) (C := R_Me) (T := F_Me) (N := 2) hx hb hts ig_Me hown hK hH f_md rfl 1 (by decide) (hts _ mw_26) (fun _ h9 => h9) rfl d_Me_write_26 ?_
  refine lv_iload_n hx hb d_Me_write_29 rfl (lv_at hl 3 rfl) ?_
  refine lv_iconst (v := 1) hx hb d_Me_write_30 (by decide) ?_
  refine lv_iadd hx hb d_Me_write_31 ?_
  refine va_mmax (x := nI fr) (y := (nI j) + 1) hx hb (hml.trans hl.1.symm) hown (hts _ mw_171) (hts _ mw_172) (hts _ mw_156) (hts _ mw_173) (Nat.le_of_ble_eq_true rfl) (Nat.le_of_ble_eq_true rfl) (Nat.le_of_ble_eq_true rfl) (Nat.le_of_ble_eq_true rfl) d_Me_write_32 ?_
  refine lv_topi (fun v12 e13 => ?_)
  obtain rfl : v12 = nI (j + 1) := e13.trans (by rw [nI_1 j, if_pos (nI_lt (by omega) (by omega))])
  refine hm_put (ci := 0) (v := .int (nI (j + 1))) (ty := .int) (C := R_Me) (T := F_Me) (N := 2) hx hb hts ig_Me t_Me tk_Me nm_Me hown hK hH hLo f_md rfl 1 (by decide) (hts _ mw_26) (fun _ h9 => h9) rfl (by decide +kernel) rfl rfl (Nat.le_of_ble_eq_true rfl) d_Me_write_35 (fun H14 locs hH z15 hLo => ?_)
  have hz : s.heap.size ≤ H14.size := by rw [z15]; exact hz
  obtain ⟨h16, e17⟩ : ∃ z, z = hu h8 md (.inr (0, [.ref sa, .int (nI (j + 1))])) := ⟨_, rfl⟩
  have hH : hm D vwCl G h16 H14 := by rw [e17]; exact hH
  have f_sa : h16 sa = some (.inl ((t 5), n, .inr (.inr (.inr (.inr fa))))) := by rw [e17, hu_n (h_neA f_sa f_md)]; exact f_sa
  have f_su : h16 su = some (.inr (4, [.int (-1), .int 0, .int (sp + 1)])) := by rw [e17, hu_n (h_neC f_su f_md (by decide))]; exact f_su
  have f_pb : h16 pb = some (.inl ((t 0), 2048, .inl f)) := by rw [e17, hu_n (h_neA f_pb f_md)]; exact f_pb
  have f_sc : h16 sc = some (.inr (6, [.int 0, .int 0, .null])) := by rw [e17, hu_n (h_neC f_sc f_md (by decide))]; exact f_sc
  have f_md : h16 md = some (.inr (0, [.ref sa, .int (nI (j + 1))])) := by rw [e17]; exact hu_s _ _ _
  have hkp : kp [sc, md, su] h h16 := by rw [e17]; exact kp_put hkp (by simp)
  refine lv_iload hx hb d_Me_write_38 (lv_at hl 0 rfl) ?_
  refine lv_if_eq (tgt := 60) hx hb d_Me_write_40 (by decide) (fun hc18 => absurd hc18 (by decide)) (fun hc18 => ?_)
  refine lv_aload hx hb d_Me_write_43 (lv_at hl 1 rfl) ?_
  refine hm_get (ci := 6) (v := .int 0) (C := R_Se) (T := F_Se) (N := 3) hx hb hts ig_Se hown hK hH f_sc rfl 1 (by decide) (hts _ mw_174) (fun _ h9 => h9) rfl d_Me_write_45 ?_
  refine lv_if_ne (tgt := 60) hx hb d_Me_write_48 (by decide) (fun hc19 => absurd rfl hc19) (fun hc19 => ?_)
  refine lv_aload hx hb d_Me_write_51 (lv_at hl 1 rfl) ?_
  refine lv_aload_n hx hb d_Me_write_53 rfl (lv_at hl 4 rfl) ?_
  refine hm_callv (va_runV (As := [.ref pb]) (b := sc) (rest := []) ⟨hx, hb, hml, hown, hts⟩ (c_Sector_take l D t G ak av h16 sc pb 0 0 f_sc ⟨f, hfit, f_pb⟩) ⟨cw9B 1 hts mw_175 mw_176 mw_30 rfl rfl (by decide +kernel) ⟨Nat.le_of_ble_eq_true rfl, Nat.le_of_ble_eq_true rfl⟩, hts _ mw_177, hts _ mw_178⟩ (hP_V (q := (R_Se, F_Se, 3)) kE_ok hE hK hH f_sc rfl) rfl rfl hl.1 rfl (lv_room (Nat.le_of_ble_eq_true rfl)) d_Me_write_54 ⟨Nat.le_of_ble_eq_true rfl, Nat.le_of_ble_eq_true rfl⟩) hLo (fun h20 H21 locs hp23 hH z22 hLo => ?_)
  have hz : s.heap.size ≤ H21.size := Nat.le_trans hz z22
  obtain ⟨hk9, nb, f9, hq9, hn9⟩ := hp23
  have f_md : h20 md = some (.inr (0, [.ref sa, .int (nI (j + 1))])) := kp_at hk9 f_md (nmc (h_neC f_md f_sc (by decide)) nm0)
  have f_sa : h20 sa = some (.inl ((t 5), n, .inr (.inr (.inr (.inr fa))))) := kp_at hk9 f_sa (nmc (h_neA f_sa f_sc) nm0)
  have f_su : h20 su = some (.inr (4, [.int (-1), .int 0, .int (sp + 1)])) := kp_at hk9 f_su (nmc (h_neC f_su f_sc (by decide)) nm0)
  have f_pb : h20 pb = some (.inl ((t 0), 2048, .inl f)) := kp_at hk9 f_pb (nmc (h_neA f_pb f_sc) nm0)
  have hkp : kp [sc, md, su] h h20 := kp_tr2 hkp hk9 (List.forall_mem_cons.mpr ⟨Or.inl (by simp), List.forall_mem_nil _⟩)
  have f_sc : h20 sc = some (.inr (6, [.int 1, .int 0, .ref nb])) := hq9
  refine lv_goto (tgt := 66) hx hb d_Me_write_57 (by decide) ?_
  refine lv_iload hx hb d_Me_write_66 (lv_at hl 0 rfl) ?_
  refine lv_if_eq (tgt := 79) hx hb d_Me_write_68 (by decide) (fun hc24 => absurd hc24 (by decide)) (fun hc24 => ?_)
  refine lv_aload hx hb d_Me_write_71 (lv_at hl 1 rfl) ?_
  refine hm_get (ci := 6) (v := .int 1) (C := R_Se) (T := F_Se) (N := 3) hx hb hts ig_Se hown hK hH f_sc rfl 0 (by decide) (hts _ mw_179) (fun _ h9 => h9) rfl d_Me_write_73 ?_
  refine lv_goto (tgt := 81) hx hb d_Me_write_76 (by decide) ?_
  exact W.iret (v := 1) hx hb hr (fun t9 ht hW => ⟨1, h20, rfl, ⟨rfl, rowP_next hrow0 hj hsc hkp (List.forall_mem_cons.mpr ⟨by rw [f_md0]; simp, List.forall_mem_cons.mpr ⟨by rw [f_su0]; simp, List.forall_mem_nil _⟩⟩), kx_of hkp f_sc0, f_md, f_su⟩, by rw [ht]; exact hH, by rw [ht]; exact hz⟩) hLo d_Me_write_81
