set_option maxRecDepth 100000 in
theorem mw_0 : Cond.methodLink R_Po 3 objectInit ∈ lw_g := lw_gin (List.mem_append_right _ (List.mem_of_getElem? (i := 41) rfl)) (by decide +kernel)
set_option maxRecDepth 100000 in
theorem mw_1 : Cond.instanceMethod objectInit ∈ lw_g := lw_gin (List.mem_append_right _ (List.mem_of_getElem? (i := 28) rfl)) (by decide +kernel)
set_option maxRecDepth 100000 in
theorem mw_2 : Cond.code objectInit ⟨#[0xb1]⟩ 1 none ∈ lw_g := lw_gin (List.mem_append_right _ (List.mem_of_getElem? (i := 29) rfl)) (by decide +kernel)
set_option maxRecDepth 100000 in
theorem mw_3 : Cond.fieldLink R_Po 9 "WriteOnceDisc$Power" "left" "I" ∈ lw_g := lw_gin (List.mem_append_right _ (List.mem_of_getElem? (i := 42) rfl)) (by decide +kernel)
set_option maxRecDepth 100000 in
theorem mw_4 : Cond.fieldLink R_Po 15 "WriteOnceDisc$Power" "isLost" "Z" ∈ lw_g := lw_gin (List.mem_append_right _ (List.mem_of_getElem? (i := 44) rfl)) (by decide +kernel)
set_option maxRecDepth 100000 in
theorem mw_5 : Cond.fieldLink R_Po 19 "WriteOnceDisc$Power" "spent" "I" ∈ lw_g := lw_gin (List.mem_append_right _ (List.mem_of_getElem? (i := 46) rfl)) (by decide +kernel)
set_option maxRecDepth 100000 in
theorem mw_6 : Cond.methodLink R_Se 3 objectInit ∈ lw_g := lw_gin (List.mem_append_right _ (List.mem_of_getElem? (i := 209) rfl)) (by decide +kernel)
set_option maxRecDepth 100000 in
theorem mw_7 : Cond.fieldLink R_Se 9 "WriteOnceDisc$Sector" "condition" "I" ∈ lw_g := lw_gin (List.mem_append_right _ (List.mem_of_getElem? (i := 210) rfl)) (by decide +kernel)
set_option maxRecDepth 100000 in
theorem mw_8 : Cond.fieldLink R_Se 15 "WriteOnceDisc$Sector" "isDefective" "Z" ∈ lw_g := lw_gin (List.mem_append_right _ (List.mem_of_getElem? (i := 213) rfl)) (by decide +kernel)
set_option maxRecDepth 100000 in
theorem mw_9 : Cond.fieldLink R_Se 19 "WriteOnceDisc$Sector" "bytes" "[B" ∈ lw_g := lw_gin (List.mem_append_right _ (List.mem_of_getElem? (i := 215) rfl)) (by decide +kernel)
set_option maxRecDepth 100000 in
theorem mw_10 : Cond.methodLink R_No 3 objectInit ∈ lw_g := lw_gin (List.mem_append_right _ (List.mem_of_getElem? (i := 89) rfl)) (by decide +kernel)
set_option maxRecDepth 100000 in
theorem mw_11 : Cond.fieldLink R_No 9 "WriteOnceDisc$Node" "number" "I" ∈ lw_g := lw_gin (List.mem_append_right _ (List.mem_of_getElem? (i := 90) rfl)) (by decide +kernel)
set_option maxRecDepth 100000 in
theorem mw_12 : Cond.fieldLink R_No 15 "WriteOnceDisc$Node" "parent" "LWriteOnceDisc$Node;" ∈ lw_g := lw_gin (List.mem_append_right _ (List.mem_of_getElem? (i := 93) rfl)) (by decide +kernel)
set_option maxRecDepth 100000 in
theorem mw_13 : Cond.fieldLink R_No 19 "WriteOnceDisc$Node" "isDirectory" "Z" ∈ lw_g := lw_gin (List.mem_append_right _ (List.mem_of_getElem? (i := 98) rfl)) (by decide +kernel)
set_option maxRecDepth 100000 in
theorem mw_14 : Cond.fieldLink R_No 23 "WriteOnceDisc$Node" "word" "J" ∈ lw_g := lw_gin (List.mem_append_right _ (List.mem_of_getElem? (i := 104) rfl)) (by decide +kernel)
set_option maxRecDepth 100000 in
theorem mw_15 : Cond.fieldLink R_No 27 "WriteOnceDisc$Node" "letters" "I" ∈ lw_g := lw_gin (List.mem_append_right _ (List.mem_of_getElem? (i := 107) rfl)) (by decide +kernel)
set_option maxRecDepth 100000 in
theorem mw_16 : Cond.fieldLink R_No 30 "WriteOnceDisc$Node" "size" "I" ∈ lw_g := lw_gin (List.mem_append_right _ (List.mem_of_getElem? (i := 109) rfl)) (by decide +kernel)
set_option maxRecDepth 100000 in
theorem mw_17 : Cond.fieldLink R_No 33 "WriteOnceDisc$Node" "seed" "I" ∈ lw_g := lw_gin (List.mem_append_right _ (List.mem_of_getElem? (i := 114) rfl)) (by decide +kernel)
set_option maxRecDepth 100000 in
theorem mw_18 : Cond.fieldLink R_No 36 "WriteOnceDisc$Node" "isWritten" "Z" ∈ lw_g := lw_gin (List.mem_append_right _ (List.mem_of_getElem? (i := 116) rfl)) (by decide +kernel)
set_option maxRecDepth 100000 in
theorem mw_19 : Cond.fieldLink R_No 39 "WriteOnceDisc$Node" "extent" "I" ∈ lw_g := lw_gin (List.mem_append_right _ (List.mem_of_getElem? (i := 119) rfl)) (by decide +kernel)
set_option maxRecDepth 100000 in
theorem mw_20 : Cond.fieldLink R_No 42 "WriteOnceDisc$Node" "sector" "I" ∈ lw_g := lw_gin (List.mem_append_right _ (List.mem_of_getElem? (i := 123) rfl)) (by decide +kernel)
set_option maxRecDepth 100000 in
theorem mw_21 : Cond.fieldLink R_No 45 "WriteOnceDisc$Node" "numberInPathTable" "I" ∈ lw_g := lw_gin (List.mem_append_right _ (List.mem_of_getElem? (i := 129) rfl)) (by decide +kernel)
set_option maxRecDepth 100000 in
theorem mw_22 : Cond.methodLink R_Pg 3 objectInit ∈ lw_g := lw_gin (List.mem_append_right _ (List.mem_of_getElem? (i := 60) rfl)) (by decide +kernel)
set_option maxRecDepth 100000 in
theorem mw_23 : Cond.arrayClass .byte ∈ lw_g := lw_gin (List.mem_append_right _ (List.mem_of_getElem? (i := 67) rfl)) (by decide +kernel)
set_option maxRecDepth 100000 in
theorem mw_24 : Cond.fieldLink R_Pg 9 "WriteOnceDisc$Page" "bytes" "[B" ∈ lw_g := lw_gin (List.mem_append_right _ (List.mem_of_getElem? (i := 61) rfl)) (by decide +kernel)
theorem d_Po_init_0 : decode b_Po_init 0 = .ok (.aload_n 0, 1) := by decide +kernel
theorem d_Po_init_1 : decode b_Po_init 1 = .ok (.invokespecial 3, 3) := by decide +kernel
theorem d_Po_init_4 : decode b_Po_init 4 = .ok (.aload_n 0, 1) := by decide +kernel
theorem d_Po_init_5 : decode b_Po_init 5 = .ok (.iconst (-1), 1) := by decide +kernel
theorem d_Po_init_6 : decode b_Po_init 6 = .ok (.putfield 9, 3) := by decide +kernel
theorem d_Po_init_9 : decode b_Po_init 9 = .ok (.aload_n 0, 1) := by decide +kernel
theorem d_Po_init_10 : decode b_Po_init 10 = .ok (.iconst 0, 1) := by decide +kernel
theorem d_Po_init_11 : decode b_Po_init 11 = .ok (.putfield 15, 3) := by decide +kernel
theorem d_Po_init_14 : decode b_Po_init 14 = .ok (.aload_n 0, 1) := by decide +kernel
theorem d_Po_init_15 : decode b_Po_init 15 = .ok (.iconst 0, 1) := by decide +kernel
theorem d_Po_init_16 : decode b_Po_init 16 = .ok (.putfield 19, 3) := by decide +kernel
theorem d_Po_init_19 : decode b_Po_init 19 = .ok (.return_, 1) := by decide +kernel
theorem d_Se_init_0 : decode b_Se_init 0 = .ok (.aload_n 0, 1) := by decide +kernel
theorem d_Se_init_1 : decode b_Se_init 1 = .ok (.invokespecial 3, 3) := by decide +kernel
theorem d_Se_init_4 : decode b_Se_init 4 = .ok (.aload_n 0, 1) := by decide +kernel
theorem d_Se_init_5 : decode b_Se_init 5 = .ok (.iconst 0, 1) := by decide +kernel
theorem d_Se_init_6 : decode b_Se_init 6 = .ok (.putfield 9, 3) := by decide +kernel
theorem d_Se_init_9 : decode b_Se_init 9 = .ok (.aload_n 0, 1) := by decide +kernel
theorem d_Se_init_10 : decode b_Se_init 10 = .ok (.iconst 0, 1) := by decide +kernel
theorem d_Se_init_11 : decode b_Se_init 11 = .ok (.putfield 15, 3) := by decide +kernel
theorem d_Se_init_14 : decode b_Se_init 14 = .ok (.aload_n 0, 1) := by decide +kernel
theorem d_Se_init_15 : decode b_Se_init 15 = .ok (.aconst_null, 1) := by decide +kernel
theorem d_Se_init_16 : decode b_Se_init 16 = .ok (.putfield 19, 3) := by decide +kernel
theorem d_Se_init_19 : decode b_Se_init 19 = .ok (.return_, 1) := by decide +kernel
theorem d_No_init_0 : decode b_No_init 0 = .ok (.aload_n 0, 1) := by decide +kernel
theorem d_No_init_1 : decode b_No_init 1 = .ok (.invokespecial 3, 3) := by decide +kernel
theorem d_No_init_4 : decode b_No_init 4 = .ok (.aload_n 0, 1) := by decide +kernel
theorem d_No_init_5 : decode b_No_init 5 = .ok (.iconst 0, 1) := by decide +kernel
theorem d_No_init_6 : decode b_No_init 6 = .ok (.putfield 9, 3) := by decide +kernel
theorem d_No_init_9 : decode b_No_init 9 = .ok (.aload_n 0, 1) := by decide +kernel
theorem d_No_init_10 : decode b_No_init 10 = .ok (.aconst_null, 1) := by decide +kernel
theorem d_No_init_11 : decode b_No_init 11 = .ok (.putfield 15, 3) := by decide +kernel
theorem d_No_init_14 : decode b_No_init 14 = .ok (.aload_n 0, 1) := by decide +kernel
theorem d_No_init_15 : decode b_No_init 15 = .ok (.iconst 1, 1) := by decide +kernel
theorem d_No_init_16 : decode b_No_init 16 = .ok (.putfield 19, 3) := by decide +kernel
theorem d_No_init_19 : decode b_No_init 19 = .ok (.aload_n 0, 1) := by decide +kernel
theorem d_No_init_20 : decode b_No_init 20 = .ok (.lconst 0, 1) := by decide +kernel
theorem d_No_init_21 : decode b_No_init 21 = .ok (.putfield 23, 3) := by decide +kernel
theorem d_No_init_24 : decode b_No_init 24 = .ok (.aload_n 0, 1) := by decide +kernel
theorem d_No_init_25 : decode b_No_init 25 = .ok (.iconst 0, 1) := by decide +kernel
theorem d_No_init_26 : decode b_No_init 26 = .ok (.putfield 27, 3) := by decide +kernel
theorem d_No_init_29 : decode b_No_init 29 = .ok (.aload_n 0, 1) := by decide +kernel
theorem d_No_init_30 : decode b_No_init 30 = .ok (.iconst 0, 1) := by decide +kernel
theorem d_No_init_31 : decode b_No_init 31 = .ok (.putfield 30, 3) := by decide +kernel
theorem d_No_init_34 : decode b_No_init 34 = .ok (.aload_n 0, 1) := by decide +kernel
theorem d_No_init_35 : decode b_No_init 35 = .ok (.iconst 0, 1) := by decide +kernel
theorem d_No_init_36 : decode b_No_init 36 = .ok (.putfield 33, 3) := by decide +kernel
theorem d_No_init_39 : decode b_No_init 39 = .ok (.aload_n 0, 1) := by decide +kernel
theorem d_No_init_40 : decode b_No_init 40 = .ok (.iconst 0, 1) := by decide +kernel
theorem d_No_init_41 : decode b_No_init 41 = .ok (.putfield 36, 3) := by decide +kernel
theorem d_No_init_44 : decode b_No_init 44 = .ok (.aload_n 0, 1) := by decide +kernel
theorem d_No_init_45 : decode b_No_init 45 = .ok (.iconst 0, 1) := by decide +kernel
theorem d_No_init_46 : decode b_No_init 46 = .ok (.putfield 39, 3) := by decide +kernel
theorem d_No_init_49 : decode b_No_init 49 = .ok (.aload_n 0, 1) := by decide +kernel
theorem d_No_init_50 : decode b_No_init 50 = .ok (.iconst 0, 1) := by decide +kernel
theorem d_No_init_51 : decode b_No_init 51 = .ok (.putfield 42, 3) := by decide +kernel
theorem d_No_init_54 : decode b_No_init 54 = .ok (.aload_n 0, 1) := by decide +kernel
theorem d_No_init_55 : decode b_No_init 55 = .ok (.iconst 1, 1) := by decide +kernel
theorem d_No_init_56 : decode b_No_init 56 = .ok (.putfield 45, 3) := by decide +kernel
theorem d_No_init_59 : decode b_No_init 59 = .ok (.return_, 1) := by decide +kernel
theorem d_Pg_init_0 : decode b_Pg_init 0 = .ok (.aload_n 0, 1) := by decide +kernel
theorem d_Pg_init_1 : decode b_Pg_init 1 = .ok (.invokespecial 3, 3) := by decide +kernel
theorem d_Pg_init_4 : decode b_Pg_init 4 = .ok (.aload_n 0, 1) := by decide +kernel
theorem d_Pg_init_5 : decode b_Pg_init 5 = .ok (.iload_n 1, 1) := by decide +kernel
theorem d_Pg_init_6 : decode b_Pg_init 6 = .ok (.newarray .byte, 2) := by decide +kernel
theorem d_Pg_init_8 : decode b_Pg_init 8 = .ok (.putfield 9, 3) := by decide +kernel
theorem d_Pg_init_11 : decode b_Pg_init 11 = .ok (.return_, 1) := by decide +kernel
set_option maxHeartbeats 4000000 in
set_option maxRecDepth 100000 in
theorem c_Power_init (l : Launch) (D : va_G) (t : Nat → ClassId) (G : hG) (ak av : Nat → Nat) (h : hM) (h0 : Nat) (f_h0 : h h0 = some (.inr (4, [.int 0, .int 0, .int 0]))) : Met l y_Po_init (.code y_Po_init b_Po_init 1 none :: lw_g) { frames := 1, cells := 0, slots := 0, locals := 12 } (hP (kE D t G ak av) D vwCl G h [.ref h0]) (hQv D vwCl G (fun h' => kp [h0] h h' ∧ h' h0 = some (.inr (4, [.int (-1), .int 0, .int 0])))) 0 0 G.P := by
  refine Met.ofW (cc := b_Po_init) (maxL := 1) (ret := none) (by decide) rfl ?_
  intro p e s m args below meth c s₁ Bd hml hv
  obtain ⟨ha, hE, hH⟩ := hv
  have hx := Bd.exec
  have hb := Bd.bytes
  have hr := Bd.returns
  have hts : ∀ w ∈ lw_g, w.before args s = true := fun w hw => atoms_spec (ws := (.code y_Po_init b_Po_init 1 none :: lw_g)) Bd.pre w (List.mem_cons_of_mem _ hw)
  have hown : s.vm.findClass R_Po = some m.cls := findClass_of_methodNamed Bd.named
  have hlocks := Bd.notSynchronized
  have hin : meth.name = "<init>" := (name_of_methodNamed Bd.named Bd.method).1
  have hK := hE.1
  have hH0 := hH
  have hLo : hLc G.P [] := hLc_nil
  have hz : s.heap.size ≤ s.heap.size := Nat.le_refl _
  have hkp : kp [h0] h h := kp_rf
  have hl := lv_entry [.ref h0] (n := 1) (Nat.le_of_ble_eq_true rfl)
  rw [show entryFrame m args 1 = F0 m 0 ((lg_sl [.ref h0] ++ List.replicate (1 - (lg_sl [.ref h0]).length) Slot.unset).toArray) [] from (by rw [ha]; exact lg_entry_eq m [.ref h0] 1)]
  generalize (lg_sl [.ref h0] ++ List.replicate (1 - (lg_sl [.ref h0]).length) Slot.unset).toArray = ls at hl ⊢
  have hl : lv_has ls 1 [(0, .ref h0)] := hl
  refine lv_aload_n hx hb d_Po_init_0 rfl (lv_at hl 0 rfl) ?_
  refine W.objInit hx hb hown (hts _ mw_0) (hts _ mw_1) (hts _ mw_2) rfl (by rw [hml]; exact hl.1) rfl d_Po_init_1 (Nat.le_of_ble_eq_true rfl) (Nat.le_of_ble_eq_true rfl) ?_
  refine W.eq (g2 := F0 m 4 ls []) rfl ?_
  refine lv_aload_n hx hb d_Po_init_4 rfl (lv_at hl 0 rfl) ?_
  refine lv_iconst (v := -1) hx hb d_Po_init_5 (by decide) ?_
  refine hm_put (ci := 4) (v := .int (-1)) (ty := .int) (C := R_Po) (T := F_Po) (N := 3) hx hb hts ig_Po t_Po tk_Po nm_Po hown hK hH hLo f_h0 rfl 0 (by decide) (hts _ mw_3) (fun _ h9 => h9) rfl (by decide +kernel) rfl rfl (Nat.le_of_ble_eq_true rfl) d_Po_init_6 (fun H1 locs hH z2 hLo => ?_)
  have hz : s.heap.size ≤ H1.size := by rw [z2]; exact hz
  obtain ⟨h3, e4⟩ : ∃ z, z = hu h h0 (.inr (4, [.int (-1), .int 0, .int 0])) := ⟨_, rfl⟩
  have hH : hm D vwCl G h3 H1 := by rw [e4]; exact hH
  have f_h0 : h3 h0 = some (.inr (4, [.int (-1), .int 0, .int 0])) := by rw [e4]; exact hu_s _ _ _
  have hkp : kp [h0] h h3 := by rw [e4]; exact kp_put hkp (by simp)
  refine lv_aload_n hx hb d_Po_init_9 rfl (lv_at hl 0 rfl) ?_
  refine lv_iconst (v := 0) hx hb d_Po_init_10 (by decide) ?_
  refine hm_put (ci := 4) (v := .int 0) (ty := .boolean) (C := R_Po) (T := F_Po) (N := 3) hx hb hts ig_Po t_Po tk_Po nm_Po hown hK hH hLo f_h0 rfl 1 (by decide) (hts _ mw_4) (fun _ h9 => h9) rfl (by decide +kernel) (by decide) (by decide) (Nat.le_of_ble_eq_true rfl) d_Po_init_11 (fun H5 locs hH z6 hLo => ?_)
  have hz : s.heap.size ≤ H5.size := by rw [z6]; exact hz
  obtain ⟨h7, e8⟩ : ∃ z, z = hu h3 h0 (.inr (4, [.int (-1), .int 0, .int 0])) := ⟨_, rfl⟩
  have hH : hm D vwCl G h7 H5 := by rw [e8]; exact hH
  have f_h0 : h7 h0 = some (.inr (4, [.int (-1), .int 0, .int 0])) := by rw [e8]; exact hu_s _ _ _
  have hkp : kp [h0] h h7 := by rw [e8]; exact kp_put hkp (by simp)
  refine lv_aload_n hx hb d_Po_init_14 rfl (lv_at hl 0 rfl) ?_
  refine lv_iconst (v := 0) hx hb d_Po_init_15 (by decide) ?_
  refine hm_put (ci := 4) (v := .int 0) (ty := .int) (C := R_Po) (T := F_Po) (N := 3) hx hb hts ig_Po t_Po tk_Po nm_Po hown hK hH hLo f_h0 rfl 2 (by decide) (hts _ mw_5) (fun _ h9 => h9) rfl (by decide +kernel) rfl rfl (Nat.le_of_ble_eq_true rfl) d_Po_init_16 (fun H9 locs hH z10 hLo => ?_)
  have hz : s.heap.size ≤ H9.size := by rw [z10]; exact hz
  obtain ⟨h11, e12⟩ : ∃ z, z = hu h7 h0 (.inr (4, [.int (-1), .int 0, .int 0])) := ⟨_, rfl⟩
  have hH : hm D vwCl G h11 H9 := by rw [e12]; exact hH
  have f_h0 : h11 h0 = some (.inr (4, [.int (-1), .int 0, .int 0])) := by rw [e12]; exact hu_s _ _ _
  have hkp : kp [h0] h h11 := by rw [e12]; exact kp_put hkp (by simp)
  exact W.vret hx hb hr (fun t9 ht hW => ⟨h11, rfl, ⟨hkp, f_h0⟩, by rw [ht]; exact hH, by rw [ht]; exact hz⟩) hLo d_Po_init_19

set_option maxHeartbeats 4000000 in
set_option maxRecDepth 100000 in
theorem c_Sector_init (l : Launch) (D : va_G) (t : Nat → ClassId) (G : hG) (ak av : Nat → Nat) (h : hM) (h0 : Nat) (f_h0 : h h0 = some (.inr (6, [.int 0, .int 0, .null]))) : Met l y_Se_init (.code y_Se_init b_Se_init 1 none :: lw_g) { frames := 1, cells := 0, slots := 0, locals := 12 } (hP (kE D t G ak av) D vwCl G h [.ref h0]) (hQv D vwCl G (fun h' => kp [h0] h h' ∧ h' h0 = some (.inr (6, [.int 0, .int 0, .null])))) 0 0 G.P := by
  refine Met.ofW (cc := b_Se_init) (maxL := 1) (ret := none) (by decide) rfl ?_
  intro p e s m args below meth c s₁ Bd hml hv
  obtain ⟨ha, hE, hH⟩ := hv
  have hx := Bd.exec
  have hb := Bd.bytes
  have hr := Bd.returns
  have hts : ∀ w ∈ lw_g, w.before args s = true := fun w hw => atoms_spec (ws := (.code y_Se_init b_Se_init 1 none :: lw_g)) Bd.pre w (List.mem_cons_of_mem _ hw)
  have hown : s.vm.findClass R_Se = some m.cls := findClass_of_methodNamed Bd.named
  have hlocks := Bd.notSynchronized
  have hin : meth.name = "<init>" := (name_of_methodNamed Bd.named Bd.method).1
  have hK := hE.1
  have hH0 := hH
  have hLo : hLc G.P [] := hLc_nil
  have hz : s.heap.size ≤ s.heap.size := Nat.le_refl _
  have hkp : kp [h0] h h := kp_rf
  have hl := lv_entry [.ref h0] (n := 1) (Nat.le_of_ble_eq_true rfl)
  rw [show entryFrame m args 1 = F0 m 0 ((lg_sl [.ref h0] ++ List.replicate (1 - (lg_sl [.ref h0]).length) Slot.unset).toArray) [] from (by rw [ha]; exact lg_entry_eq m [.ref h0] 1)]
  generalize (lg_sl [.ref h0] ++ List.replicate (1 - (lg_sl [.ref h0]).length) Slot.unset).toArray = ls at hl ⊢
  have hl : lv_has ls 1 [(0, .ref h0)] := hl
  refine lv_aload_n hx hb d_Se_init_0 rfl (lv_at hl 0 rfl) ?_
  refine W.objInit hx hb hown (hts _ mw_6) (hts _ mw_1) (hts _ mw_2) rfl (by rw [hml]; exact hl.1) rfl d_Se_init_1 (Nat.le_of_ble_eq_true rfl) (Nat.le_of_ble_eq_true rfl) ?_
  refine W.eq (g2 := F0 m 4 ls []) rfl ?_
  refine lv_aload_n hx hb d_Se_init_4 rfl (lv_at hl 0 rfl) ?_
  refine lv_iconst (v := 0) hx hb d_Se_init_5 (by decide) ?_
  refine hm_put (ci := 6) (v := .int 0) (ty := .int) (C := R_Se) (T := F_Se) (N := 3) hx hb hts ig_Se t_Se tk_Se nm_Se hown hK hH hLo f_h0 rfl 0 (by decide) (hts _ mw_7) (fun _ h9 => h9) rfl (by decide +kernel) rfl rfl (Nat.le_of_ble_eq_true rfl) d_Se_init_6 (fun H1 locs hH z2 hLo => ?_)
  have hz : s.heap.size ≤ H1.size := by rw [z2]; exact hz
  obtain ⟨h3, e4⟩ : ∃ z, z = hu h h0 (.inr (6, [.int 0, .int 0, .null])) := ⟨_, rfl⟩
  have hH : hm D vwCl G h3 H1 := by rw [e4]; exact hH
  have f_h0 : h3 h0 = some (.inr (6, [.int 0, .int 0, .null])) := by rw [e4]; exact hu_s _ _ _
  have hkp : kp [h0] h h3 := by rw [e4]; exact kp_put hkp (by simp)
  refine lv_aload_n hx hb d_Se_init_9 rfl (lv_at hl 0 rfl) ?_
  refine lv_iconst (v := 0) hx hb d_Se_init_10 (by decide) ?_
  refine hm_put (ci := 6) (v := .int 0) (ty := .boolean) (C := R_Se) (T := F_Se) (N := 3) hx hb hts ig_Se t_Se tk_Se nm_Se hown hK hH hLo f_h0 rfl 1 (by decide) (hts _ mw_8) (fun _ h9 => h9) rfl (by decide +kernel) (by decide) (by decide) (Nat.le_of_ble_eq_true rfl) d_Se_init_11 (fun H5 locs hH z6 hLo => ?_)
  have hz : s.heap.size ≤ H5.size := by rw [z6]; exact hz
  obtain ⟨h7, e8⟩ : ∃ z, z = hu h3 h0 (.inr (6, [.int 0, .int 0, .null])) := ⟨_, rfl⟩
  have hH : hm D vwCl G h7 H5 := by rw [e8]; exact hH
  have f_h0 : h7 h0 = some (.inr (6, [.int 0, .int 0, .null])) := by rw [e8]; exact hu_s _ _ _
  have hkp : kp [h0] h h7 := by rw [e8]; exact kp_put hkp (by simp)
  refine lv_aload_n hx hb d_Se_init_14 rfl (lv_at hl 0 rfl) ?_
  refine lv_null hx hb d_Se_init_15 ?_
  refine hm_put (ci := 6) (v := .null) (ty := (.array .byte)) (C := R_Se) (T := F_Se) (N := 3) hx hb hts ig_Se t_Se tk_Se nm_Se hown hK hH hLo f_h0 rfl 2 (by decide) (hts _ mw_9) (fun _ h9 => h9) rfl (by decide +kernel) rfl rfl (Nat.le_of_ble_eq_true rfl) d_Se_init_16 (fun H9 locs hH z10 hLo => ?_)
  have hz : s.heap.size ≤ H9.size := by rw [z10]; exact hz
  obtain ⟨h11, e12⟩ : ∃ z, z = hu h7 h0 (.inr (6, [.int 0, .int 0, .null])) := ⟨_, rfl⟩
  have hH : hm D vwCl G h11 H9 := by rw [e12]; exact hH
  have f_h0 : h11 h0 = some (.inr (6, [.int 0, .int 0, .null])) := by rw [e12]; exact hu_s _ _ _
  have hkp : kp [h0] h h11 := by rw [e12]; exact kp_put hkp (by simp)
  exact W.vret hx hb hr (fun t9 ht hW => ⟨h11, rfl, ⟨hkp, f_h0⟩, by rw [ht]; exact hH, by rw [ht]; exact hz⟩) hLo d_Se_init_19

set_option maxHeartbeats 4000000 in
set_option maxRecDepth 100000 in
theorem c_Node_init (l : Launch) (D : va_G) (t : Nat → ClassId) (G : hG) (ak av : Nat → Nat) (h : hM) (h0 : Nat) (f_h0 : h h0 = some (.inr (1, [.int 0, .null, .int 0, .long 0, .int 0, .int 0, .int 0, .int 0, .int 0, .int 0, .int 0]))) : Met l y_No_init (.code y_No_init b_No_init 1 none :: lw_g) { frames := 1, cells := 0, slots := 0, locals := 12 } (hP (kE D t G ak av) D vwCl G h [.ref h0]) (hQv D vwCl G (fun h' => kp [h0] h h' ∧ h' h0 = some (.inr (1, [.int 0, .null, .int 1, .long 0, .int 0, .int 0, .int 0, .int 0, .int 0, .int 0, .int 1])))) 0 0 G.P := by
  refine Met.ofW (cc := b_No_init) (maxL := 1) (ret := none) (by decide) rfl ?_
  intro p e s m args below meth c s₁ Bd hml hv
  obtain ⟨ha, hE, hH⟩ := hv
  have hx := Bd.exec
  have hb := Bd.bytes
  have hr := Bd.returns
  have hts : ∀ w ∈ lw_g, w.before args s = true := fun w hw => atoms_spec (ws := (.code y_No_init b_No_init 1 none :: lw_g)) Bd.pre w (List.mem_cons_of_mem _ hw)
  have hown : s.vm.findClass R_No = some m.cls := findClass_of_methodNamed Bd.named
  have hlocks := Bd.notSynchronized
  have hin : meth.name = "<init>" := (name_of_methodNamed Bd.named Bd.method).1
  have hK := hE.1
  have hH0 := hH
  have hLo : hLc G.P [] := hLc_nil
  have hz : s.heap.size ≤ s.heap.size := Nat.le_refl _
  have hkp : kp [h0] h h := kp_rf
  have hl := lv_entry [.ref h0] (n := 1) (Nat.le_of_ble_eq_true rfl)
  rw [show entryFrame m args 1 = F0 m 0 ((lg_sl [.ref h0] ++ List.replicate (1 - (lg_sl [.ref h0]).length) Slot.unset).toArray) [] from (by rw [ha]; exact lg_entry_eq m [.ref h0] 1)]
  generalize (lg_sl [.ref h0] ++ List.replicate (1 - (lg_sl [.ref h0]).length) Slot.unset).toArray = ls at hl ⊢
  have hl : lv_has ls 1 [(0, .ref h0)] := hl
  refine lv_aload_n hx hb d_No_init_0 rfl (lv_at hl 0 rfl) ?_
  refine W.objInit hx hb hown (hts _ mw_10) (hts _ mw_1) (hts _ mw_2) rfl (by rw [hml]; exact hl.1) rfl d_No_init_1 (Nat.le_of_ble_eq_true rfl) (Nat.le_of_ble_eq_true rfl) ?_
  refine W.eq (g2 := F0 m 4 ls []) rfl ?_
  refine lv_aload_n hx hb d_No_init_4 rfl (lv_at hl 0 rfl) ?_
  refine lv_iconst (v := 0) hx hb d_No_init_5 (by decide) ?_
  refine hm_put (ci := 1) (v := .int 0) (ty := .int) (C := R_No) (T := F_No) (N := 11) hx hb hts ig_No t_No tk_No nm_No hown hK hH hLo f_h0 rfl 0 (by decide) (hts _ mw_11) (fun _ h9 => h9) rfl (by decide +kernel) rfl rfl (Nat.le_of_ble_eq_true rfl) d_No_init_6 (fun H1 locs hH z2 hLo => ?_)
  have hz : s.heap.size ≤ H1.size := by rw [z2]; exact hz
  obtain ⟨h3, e4⟩ : ∃ z, z = hu h h0 (.inr (1, [.int 0, .null, .int 0, .long 0, .int 0, .int 0, .int 0, .int 0, .int 0, .int 0, .int 0])) := ⟨_, rfl⟩
  have hH : hm D vwCl G h3 H1 := by rw [e4]; exact hH
  have f_h0 : h3 h0 = some (.inr (1, [.int 0, .null, .int 0, .long 0, .int 0, .int 0, .int 0, .int 0, .int 0, .int 0, .int 0])) := by rw [e4]; exact hu_s _ _ _
  have hkp : kp [h0] h h3 := by rw [e4]; exact kp_put hkp (by simp)
  refine lv_aload_n hx hb d_No_init_9 rfl (lv_at hl 0 rfl) ?_
  refine lv_null hx hb d_No_init_10 ?_
  refine hm_put (ci := 1) (v := .null) (ty := (.object "WriteOnceDisc$Node")) (C := R_No) (T := F_No) (N := 11) hx hb hts ig_No t_No tk_No nm_No hown hK hH hLo f_h0 rfl 1 (by decide) (hts _ mw_12) (fun _ h9 => h9) rfl (by decide +kernel) rfl rfl (Nat.le_of_ble_eq_true rfl) d_No_init_11 (fun H5 locs hH z6 hLo => ?_)
  have hz : s.heap.size ≤ H5.size := by rw [z6]; exact hz
  obtain ⟨h7, e8⟩ : ∃ z, z = hu h3 h0 (.inr (1, [.int 0, .null, .int 0, .long 0, .int 0, .int 0, .int 0, .int 0, .int 0, .int 0, .int 0])) := ⟨_, rfl⟩
  have hH : hm D vwCl G h7 H5 := by rw [e8]; exact hH
  have f_h0 : h7 h0 = some (.inr (1, [.int 0, .null, .int 0, .long 0, .int 0, .int 0, .int 0, .int 0, .int 0, .int 0, .int 0])) := by rw [e8]; exact hu_s _ _ _
  have hkp : kp [h0] h h7 := by rw [e8]; exact kp_put hkp (by simp)
  refine lv_aload_n hx hb d_No_init_14 rfl (lv_at hl 0 rfl) ?_
  refine lv_iconst (v := 1) hx hb d_No_init_15 (by decide) ?_
  refine hm_put (ci := 1) (v := .int 1) (ty := .boolean) (C := R_No) (T := F_No) (N := 11) hx hb hts ig_No t_No tk_No nm_No hown hK hH hLo f_h0 rfl 2 (by decide) (hts _ mw_13) (fun _ h9 => h9) rfl (by decide +kernel) (by decide) (by decide) (Nat.le_of_ble_eq_true rfl) d_No_init_16 (fun H9 locs hH z10 hLo => ?_)
  have hz : s.heap.size ≤ H9.size := by rw [z10]; exact hz
  obtain ⟨h11, e12⟩ : ∃ z, z = hu h7 h0 (.inr (1, [.int 0, .null, .int 1, .long 0, .int 0, .int 0, .int 0, .int 0, .int 0, .int 0, .int 0])) := ⟨_, rfl⟩
  have hH : hm D vwCl G h11 H9 := by rw [e12]; exact hH
  have f_h0 : h11 h0 = some (.inr (1, [.int 0, .null, .int 1, .long 0, .int 0, .int 0, .int 0, .int 0, .int 0, .int 0, .int 0])) := by rw [e12]; exact hu_s _ _ _
  have hkp : kp [h0] h h11 := by rw [e12]; exact kp_put hkp (by simp)
  refine lv_aload_n hx hb d_No_init_19 rfl (lv_at hl 0 rfl) ?_
  refine lv_lconst (v := 0) hx hb d_No_init_20 (by decide) ?_
  refine hm_put (ci := 1) (v := .long 0) (ty := .long) (C := R_No) (T := F_No) (N := 11) hx hb hts ig_No t_No tk_No nm_No hown hK hH hLo f_h0 rfl 3 (by decide) (hts _ mw_14) (fun _ h9 => h9) rfl (by decide +kernel) rfl rfl (Nat.le_of_ble_eq_true rfl) d_No_init_21 (fun H13 locs hH z14 hLo => ?_)
  have hz : s.heap.size ≤ H13.size := by rw [z14]; exact hz
  obtain ⟨h15, e16⟩ : ∃ z, z = hu h11 h0 (.inr (1, [.int 0, .null, .int 1, .long 0, .int 0, .int 0, .int 0, .int 0, .int 0, .int 0, .int 0])) := ⟨_, rfl⟩
  have hH : hm D vwCl G h15 H13 := by rw [e16]; exact hH
  have f_h0 : h15 h0 = some (.inr (1, [.int 0, .null, .int 1, .long 0, .int 0, .int 0, .int 0, .int 0, .int 0, .int 0, .int 0])) := by rw [e16]; exact hu_s _ _ _
  have hkp : kp [h0] h h15 := by rw [e16]; exact kp_put hkp (by simp)
  refine lv_aload_n hx hb d_No_init_24 rfl (lv_at hl 0 rfl) ?_
  refine lv_iconst (v := 0) hx hb d_No_init_25 (by decide) ?_
  refine hm_put (ci := 1) (v := .int 0) (ty := .int) (C := R_No) (T := F_No) (N := 11) hx hb hts ig_No t_No tk_No nm_No hown hK hH hLo f_h0 rfl 4 (by decide) (hts _ mw_15) (fun _ h9 => h9) rfl (by decide +kernel) rfl rfl (Nat.le_of_ble_eq_true rfl) d_No_init_26 (fun H17 locs hH z18 hLo => ?_)
  have hz : s.heap.size ≤ H17.size := by rw [z18]; exact hz
  obtain ⟨h19, e20⟩ : ∃ z, z = hu h15 h0 (.inr (1, [.int 0, .null, .int 1, .long 0, .int 0, .int 0, .int 0, .int 0, .int 0, .int 0, .int 0])) := ⟨_, rfl⟩
  have hH : hm D vwCl G h19 H17 := by rw [e20]; exact hH
  have f_h0 : h19 h0 = some (.inr (1, [.int 0, .null, .int 1, .long 0, .int 0, .int 0, .int 0, .int 0, .int 0, .int 0, .int 0])) := by rw [e20]; exact hu_s _ _ _
  have hkp : kp [h0] h h19 := by rw [e20]; exact kp_put hkp (by simp)
  refine lv_aload_n hx hb d_No_init_29 rfl (lv_at hl 0 rfl) ?_
  refine lv_iconst (v := 0) hx hb d_No_init_30 (by decide) ?_
  refine hm_put (ci := 1) (v := .int 0) (ty := .int) (C := R_No) (T := F_No) (N := 11) hx hb hts ig_No t_No tk_No nm_No hown hK hH hLo f_h0 rfl 5 (by decide) (hts _ mw_16) (fun _ h9 => h9) rfl (by decide +kernel) rfl rfl (Nat.le_of_ble_eq_true rfl) d_No_init_31 (fun H21 locs hH z22 hLo => ?_)
  have hz : s.heap.size ≤ H21.size := by rw [z22]; exact hz
  obtain ⟨h23, e24⟩ : ∃ z, z = hu h19 h0 (.inr (1, [.int 0, .null, .int 1, .long 0, .int 0, .int 0, .int 0, .int 0, .int 0, .int 0, .int 0])) := ⟨_, rfl⟩
  have hH : hm D vwCl G h23 H21 := by rw [e24]; exact hH
  have f_h0 : h23 h0 = some (.inr (1, [.int 0, .null, .int 1, .long 0, .int 0, .int 0, .int 0, .int 0, .int 0, .int 0, .int 0])) := by rw [e24]; exact hu_s _ _ _
  have hkp : kp [h0] h h23 := by rw [e24]; exact kp_put hkp (by simp)
  refine lv_aload_n hx hb d_No_init_34 rfl (lv_at hl 0 rfl) ?_
  refine lv_iconst (v := 0) hx hb d_No_init_35 (by decide) ?_
  refine hm_put (ci := 1) (v := .int 0) (ty := .int) (C := R_No) (T := F_No) (N := 11) hx hb hts ig_No t_No tk_No nm_No hown hK hH hLo f_h0 rfl 6 (by decide) (hts _ mw_17) (fun _ h9 => h9) rfl (by decide +kernel) rfl rfl (Nat.le_of_ble_eq_true rfl) d_No_init_36 (fun H25 locs hH z26 hLo => ?_)
  have hz : s.heap.size ≤ H25.size := by rw [z26]; exact hz
  obtain ⟨h27, e28⟩ : ∃ z, z = hu h23 h0 (.inr (1, [.int 0, .null, .int 1, .long 0, .int 0, .int 0, .int 0, .int 0, .int 0, .int 0, .int 0])) := ⟨_, rfl⟩
  have hH : hm D vwCl G h27 H25 := by rw [e28]; exact hH
  have f_h0 : h27 h0 = some (.inr (1, [.int 0, .null, .int 1, .long 0, .int 0, .int 0, .int 0, .int 0, .int 0, .int 0, .int 0])) := by rw [e28]; exact hu_s _ _ _
  have hkp : kp [h0] h h27 := by rw [e28]; exact kp_put hkp (by simp)
  refine lv_aload_n hx hb d_No_init_39 rfl (lv_at hl 0 rfl) ?_
  refine lv_iconst (v := 0) hx hb d_No_init_40 (by decide) ?_
  refine hm_put (ci := 1) (v := .int 0) (ty := .boolean) (C := R_No) (T := F_No) (N := 11) hx hb hts ig_No t_No tk_No nm_No hown hK hH hLo f_h0 rfl 7 (by decide) (hts _ mw_18) (fun _ h9 => h9) rfl (by decide +kernel) (by decide) (by decide) (Nat.le_of_ble_eq_true rfl) d_No_init_41 (fun H29 locs hH z30 hLo => ?_)
  have hz : s.heap.size ≤ H29.size := by rw [z30]; exact hz
  obtain ⟨h31, e32⟩ : ∃ z, z = hu h27 h0 (.inr (1, [.int 0, .null, .int 1, .long 0, .int 0, .int 0, .int 0, .int 0, .int 0, .int 0, .int 0])) := ⟨_, rfl⟩
  have hH : hm D vwCl G h31 H29 := by rw [e32]; exact hH
  have f_h0 : h31 h0 = some (.inr (1, [.int 0, .null, .int 1, .long 0, .int 0, .int 0, .int 0, .int 0, .int 0, .int 0, .int 0])) := by rw [e32]; exact hu_s _ _ _
  have hkp : kp [h0] h h31 := by rw [e32]; exact kp_put hkp (by simp)
  refine lv_aload_n hx hb d_No_init_44 rfl (lv_at hl 0 rfl) ?_
  refine lv_iconst (v := 0) hx hb d_No_init_45 (by decide) ?_
  refine hm_put (ci := 1) (v := .int 0) (ty := .int) (C := R_No) (T := F_No) (N := 11) hx hb hts ig_No t_No tk_No nm_No hown hK hH hLo f_h0 rfl 8 (by decide) (hts _ mw_19) (fun _ h9 => h9) rfl (by decide +kernel) rfl rfl (Nat.le_of_ble_eq_true rfl) d_No_init_46 (fun H33 locs hH z34 hLo => ?_)
  have hz : s.heap.size ≤ H33.size := by rw [z34]; exact hz
  obtain ⟨h35, e36⟩ : ∃ z, z = hu h31 h0 (.inr (1, [.int 0, .null, .int 1, .long 0, .int 0, .int 0, .int 0, .int 0, .int 0, .int 0, .int 0])) := ⟨_, rfl⟩
  have hH : hm D vwCl G h35 H33 := by rw [e36]; exact hH
  have f_h0 : h35 h0 = some (.inr (1, [.int 0, .null, .int 1, .long 0, .int 0, .int 0, .int 0, .int 0, .int 0, .int 0, .int 0])) := by rw [e36]; exact hu_s _ _ _
  have hkp : kp [h0] h h35 := by rw [e36]; exact kp_put hkp (by simp)
  refine lv_aload_n hx hb d_No_init_49 rfl (lv_at hl 0 rfl) ?_
  refine lv_iconst (v := 0) hx hb d_No_init_50 (by decide) ?_
  refine hm_put (ci := 1) (v := .int 0) (ty := .int) (C := R_No) (T := F_No) (N := 11) hx hb hts ig_No t_No tk_No nm_No hown hK hH hLo f_h0 rfl 9 (by decide) (hts _ mw_20) (fun _ h9 => h9) rfl (by decide +kernel) rfl rfl (Nat.le_of_ble_eq_true rfl) d_No_init_51 (fun H37 locs hH z38 hLo => ?_)
  have hz : s.heap.size ≤ H37.size := by rw [z38]; exact hz
  obtain ⟨h39, e40⟩ : ∃ z, z = hu h35 h0 (.inr (1, [.int 0, .null, .int 1, .long 0, .int 0, .int 0, .int 0, .int 0, .int 0, .int 0, .int 0])) := ⟨_, rfl⟩
  have hH : hm D vwCl G h39 H37 := by rw [e40]; exact hH
  have f_h0 : h39 h0 = some (.inr (1, [.int 0, .null, .int 1, .long 0, .int 0, .int 0, .int 0, .int 0, .int 0, .int 0, .int 0])) := by rw [e40]; exact hu_s _ _ _
  have hkp : kp [h0] h h39 := by rw [e40]; exact kp_put hkp (by simp)
  refine lv_aload_n hx hb d_No_init_54 rfl (lv_at hl 0 rfl) ?_
  refine lv_iconst (v := 1) hx hb d_No_init_55 (by decide) ?_
  refine hm_put (ci := 1) (v := .int 1) (ty := .int) (C := R_No) (T := F_No) (N := 11) hx hb hts ig_No t_No tk_No nm_No hown hK hH hLo f_h0 rfl 10 (by decide) (hts _ mw_21) (fun _ h9 => h9) rfl (by decide +kernel) rfl rfl (Nat.le_of_ble_eq_true rfl) d_No_init_56 (fun H41 locs hH z42 hLo => ?_)
  have hz : s.heap.size ≤ H41.size := by rw [z42]; exact hz
  obtain ⟨h43, e44⟩ : ∃ z, z = hu h39 h0 (.inr (1, [.int 0, .null, .int 1, .long 0, .int 0, .int 0, .int 0, .int 0, .int 0, .int 0, .int 1])) := ⟨_, rfl⟩
  have hH : hm D vwCl G h43 H41 := by rw [e44]; exact hH
  have f_h0 : h43 h0 = some (.inr (1, [.int 0, .null, .int 1, .long 0, .int 0, .int 0, .int 0, .int 0, .int 0, .int 0, .int 1])) := by rw [e44]; exact hu_s _ _ _
  have hkp : kp [h0] h h43 := by rw [e44]; exact kp_put hkp (by simp)
  exact W.vret hx hb hr (fun t9 ht hW => ⟨h43, rfl, ⟨hkp, f_h0⟩, by rw [ht]; exact hH, by rw [ht]; exact hz⟩) hLo d_No_init_59

set_option maxHeartbeats 4000000 in
set_option maxRecDepth 100000 in
theorem c_Page_init_2048 (l : Launch) (D : va_G) (t : Nat → ClassId) (G : hG) (ak av : Nat → Nat) (h : hM) (h0 : Nat) (f_h0 : h h0 = some (.inr (3, [.null]))) : Met l y_Pg_init (.code y_Pg_init b_Pg_init 2 none :: lw_g) { frames := 1, cells := 1, slots := 2048, locals := 12 } (hP (kE D t G ak av) D vwCl G h [.ref h0, .int 2048]) (hQv D vwCl G (fun h' => kp [h0] h h' ∧ ∃ pb, h' h0 = some (.inr (3, [.ref pb])) ∧ h' pb = some (.inl (t 0, 2048, .inl (fun _ => 0))))) 1 2048 G.P := by
  refine Met.ofW (cc := b_Pg_init) (maxL := 2) (ret := none) (by decide) rfl ?_
  intro p e s m args below meth c s₁ Bd hml hv
  obtain ⟨ha, hE, hH⟩ := hv
  have hx := Bd.exec
  have hb := Bd.bytes
  have hr := Bd.returns
  have hts : ∀ w ∈ lw_g, w.before args s = true := fun w hw => atoms_spec (ws := (.code y_Pg_init b_Pg_init 2 none :: lw_g)) Bd.pre w (List.mem_cons_of_mem _ hw)
  have hown : s.vm.findClass R_Pg = some m.cls := findClass_of_methodNamed Bd.named
  have hlocks := Bd.notSynchronized
  have hin : meth.name = "<init>" := (name_of_methodNamed Bd.named Bd.method).1
  have hK := hE.1
  have hH0 := hH
  have hLo : hLc G.P [] := hLc_nil
  have hz : s.heap.size ≤ s.heap.size := Nat.le_refl _
  have hkp : kp [h0] h h := kp_rf
  have hl := lv_entry [.ref h0, .int 2048] (n := 2) (Nat.le_of_ble_eq_true rfl)
  rw [show entryFrame m args 2 = F0 m 0 ((lg_sl [.ref h0, .int 2048] ++ List.replicate (2 - (lg_sl [.ref h0, .int 2048]).length) Slot.unset).toArray) [] from (by rw [ha]; exact lg_entry_eq m [.ref h0, .int 2048] 2)]
  generalize (lg_sl [.ref h0, .int 2048] ++ List.replicate (2 - (lg_sl [.ref h0, .int 2048]).length) Slot.unset).toArray = ls at hl ⊢
  have hl : lv_has ls 2 [(0, .ref h0), (1, .int 2048)] := hl
  refine lv_aload_n hx hb d_Pg_init_0 rfl (lv_at hl 0 rfl) ?_
  refine W.objInit hx hb hown (hts _ mw_22) (hts _ mw_1) (hts _ mw_2) rfl (by rw [hml]; exact hl.1) rfl d_Pg_init_1 (Nat.le_of_ble_eq_true rfl) (Nat.le_of_ble_eq_true rfl) ?_
  refine W.eq (g2 := F0 m 4 ls []) rfl ?_
  refine lv_aload_n hx hb d_Pg_init_4 rfl (lv_at hl 0 rfl) ?_
  refine lv_iload_n hx hb d_Pg_init_5 rfl (lv_at hl 1 rfl) ?_
  refine hm_newa (atype := .byte) (ty := .byte) (N' := 2048) (a0 := (2048, .inl (fun _ => 0))) hx hb (hts _ mw_23) rfl hK hH 0 (cA := (t 0)) rfl (hK.2 0 _ rfl).2 (fun _ => rfl) (by decide) (by decide) (by decide) (Nat.le_of_ble_eq_true rfl) (Nat.le_of_ble_eq_true rfl) d_Pg_init_6 (fun q2 H1 hq3 hn4 hH z5 => ?_)
  have hz : s.heap.size ≤ H1.size := by rw [z5]; exact Nat.le_succ_of_le hz
  obtain ⟨h6, e7⟩ : ∃ z, z = hu h q2 (.inl ((t 0), 2048, .inl (fun _ => 0))) := ⟨_, rfl⟩
  have hH : hm D vwCl G h6 H1 := by rw [e7]; exact hH
  have nb_h_q2 : h q2 = none := kp_none hkp hn4 (nmc (Ne.symm (h_nf hn4 f_h0)) nm0)
  have hkp : kp [h0] h h6 := by rw [e7]; exact kp_new hkp hn4
  have ne_h0_q2 : h0 ≠ q2 := h_nf hn4 f_h0
  have f_h0 : h6 h0 = some (.inr (3, [.null])) := by rw [e7, hu_n ne_h0_q2]; exact f_h0
  have f_pb : h6 q2 = some (.inl ((t 0), 2048, .inl (fun _ => 0))) := by rw [e7]; exact hu_s _ _ _
  refine hm_putF (ci := 3) (v := .ref q2) (ty := (.array .byte)) (C := R_Pg) (T := F_Pg) (N := 1) hx hb hts ig_Pg t_Pg tk_Pg nm_Pg hown hK hH hLo f_h0 rfl 0 (by decide) (hts _ mw_24) (fun _ h9 => h9) rfl hin rfl (by decide +kernel) rfl rfl (Nat.le_of_ble_eq_true rfl) d_Pg_init_8 (fun H8 locs hH z9 hLo => ?_)
  have hz : s.heap.size ≤ H8.size := by rw [z9]; exact hz
  obtain ⟨h10, e11⟩ : ∃ z, z = hu h6 h0 (.inr (3, [.ref q2])) := ⟨_, rfl⟩
  have hH : hm D vwCl G h10 H8 := by rw [e11]; exact hH
  have f_pb : h10 q2 = some (.inl ((t 0), 2048, .inl (fun _ => 0))) := by rw [e11, hu_n (Ne.symm ne_h0_q2)]; exact f_pb
  have f_h0 : h10 h0 = some (.inr (3, [.ref q2])) := by rw [e11]; exact hu_s _ _ _
  have hkp : kp [h0] h h10 := by rw [e11]; exact kp_put hkp (by simp)
  exact W.vret hx hb hr (fun t9 ht hW => ⟨h10, rfl, ⟨hkp, q2, f_h0, f_pb⟩, by rw [ht]; exact hH, by rw [ht]; exact hz⟩) hLo d_Pg_init_11

set_option maxHeartbeats 4000000 in
set_option maxRecDepth 100000 in
theorem c_Page_init_480 (l : Launch) (D : va_G) (t : Nat → ClassId) (G : hG) (ak av : Nat → Nat) (h : hM) (h0 : Nat) (f_h0 : h h0 = some (.inr (3, [.null]))) : Met l y_Pg_init (.code y_Pg_init b_Pg_init 2 none :: lw_g) { frames := 1, cells := 1, slots := 480, locals := 12 } (hP (kE D t G ak av) D vwCl G h [.ref h0, .int 480]) (hQv D vwCl G (fun h' => kp [h0] h h' ∧ ∃ pb, h' h0 = some (.inr (3, [.ref pb])) ∧ h' pb = some (.inl (t 0, 480, .inl (fun _ => 0))))) 1 480 G.P := by
  refine Met.ofW (cc := b_Pg_init) (maxL := 2) (ret := none) (by decide) rfl ?_
  intro p e s m args below meth c s₁ Bd hml hv
  obtain ⟨ha, hE, hH⟩ := hv
  have hx := Bd.exec
  have hb := Bd.bytes
  have hr := Bd.returns
  have hts : ∀ w ∈ lw_g, w.before args s = true := fun w hw => atoms_spec (ws := (.code y_Pg_init b_Pg_init 2 none :: lw_g)) Bd.pre w (List.mem_cons_of_mem _ hw)
  have hown : s.vm.findClass R_Pg = some m.cls := findClass_of_methodNamed Bd.named
  have hlocks := Bd.notSynchronized
  have hin : meth.name = "<init>" := (name_of_methodNamed Bd.named Bd.method).1
  have hK := hE.1
  have hH0 := hH
  have hLo : hLc G.P [] := hLc_nil
  have hz : s.heap.size ≤ s.heap.size := Nat.le_refl _
  have hkp : kp [h0] h h := kp_rf
  have hl := lv_entry [.ref h0, .int 480] (n := 2) (Nat.le_of_ble_eq_true rfl)
  rw [show entryFrame m args 2 = F0 m 0 ((lg_sl [.ref h0, .int 480] ++ List.replicate (2 - (lg_sl [.ref h0, .int 480]).length) Slot.unset).toArray) [] from (by rw [ha]; exact lg_entry_eq m [.ref h0, .int 480] 2)]
  generalize (lg_sl [.ref h0, .int 480] ++ List.replicate (2 - (lg_sl [.ref h0, .int 480]).length) Slot.unset).toArray = ls at hl ⊢
  have hl : lv_has ls 2 [(0, .ref h0), (1, .int 480)] := hl
  refine lv_aload_n hx hb d_Pg_init_0 rfl (lv_at hl 0 rfl) ?_
  refine W.objInit hx hb hown (hts _ mw_22) (hts _ mw_1) (hts _ mw_2) rfl (by rw [hml]; exact hl.1) rfl d_Pg_init_1 (Nat.le_of_ble_eq_true rfl) (Nat.le_of_ble_eq_true rfl) ?_
  refine W.eq (g2 := F0 m 4 ls []) rfl ?_
  refine lv_aload_n hx hb d_Pg_init_4 rfl (lv_at hl 0 rfl) ?_
  refine lv_iload_n hx hb d_Pg_init_5 rfl (lv_at hl 1 rfl) ?_
  refine hm_newa (atype := .byte) (ty := .byte) (N' := 480) (a0 := (480, .inl (fun _ => 0))) hx hb (hts _ mw_23) rfl hK hH 0 (cA := (t 0)) rfl (hK.2 0 _ rfl).2 (fun _ => rfl) (by decide) (by decide) (by decide) (Nat.le_of_ble_eq_true rfl) (Nat.le_of_ble_eq_true rfl) d_Pg_init_6 (fun q2 H1 hq3 hn4 hH z5 => ?_)
  have hz : s.heap.size ≤ H1.size := by rw [z5]; exact Nat.le_succ_of_le hz
  obtain ⟨h6, e7⟩ : ∃ z, z = hu h q2 (.inl ((t 0), 480, .inl (fun _ => 0))) := ⟨_, rfl⟩
  have hH : hm D vwCl G h6 H1 := by rw [e7]; exact hH
  have nb_h_q2 : h q2 = none := kp_none hkp hn4 (nmc (Ne.symm (h_nf hn4 f_h0)) nm0)
  have hkp : kp [h0] h h6 := by rw [e7]; exact kp_new hkp hn4
  have ne_h0_q2 : h0 ≠ q2 := h_nf hn4 f_h0
  have f_h0 : h6 h0 = some (.inr (3, [.null])) := by rw [e7, hu_n ne_h0_q2]; exact f_h0
  have f_pb : h6 q2 = some (.inl ((t 0), 480, .inl (fun _ => 0))) := by rw [e7]; exact hu_s _ _ _
  refine hm_putF (ci := 3) (v := .ref q2) (ty := (.array .byte)) (C := R_Pg) (T := F_Pg) (N := 1) hx hb hts ig_Pg t_Pg tk_Pg nm_Pg hown hK hH hLo f_h0 rfl 0 (by decide) (hts _ mw_24) (fun _ h9 => h9) rfl hin rfl (by decide +kernel) rfl rfl (Nat.le_of_ble_eq_true rfl) d_Pg_init_8 (fun H8 locs hH z9 hLo => ?_)
  have hz : s.heap.size ≤ H8.size := by rw [z9]; exact hz
  obtain ⟨h10, e11⟩ : ∃ z, z = hu h6 h0 (.inr (3, [.ref q2])) := ⟨_, rfl⟩
  have hH : hm D vwCl G h10 H8 := by rw [e11]; exact hH
  have f_pb : h10 q2 = some (.inl ((t 0), 480, .inl (fun _ => 0))) := by rw [e11, hu_n (Ne.symm ne_h0_q2)]; exact f_pb
  have f_h0 : h10 h0 = some (.inr (3, [.ref q2])) := by rw [e11]; exact hu_s _ _ _
  have hkp : kp [h0] h h10 := by rw [e11]; exact kp_put hkp (by simp)
  exact W.vret hx hb hr (fun t9 ht hW => ⟨h10, rfl, ⟨hkp, q2, f_h0, f_pb⟩, by rw [ht]; exact hH, by rw [ht]; exact hz⟩) hLo d_Pg_init_11
