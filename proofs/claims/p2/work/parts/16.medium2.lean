set_option maxRecDepth 100000 in
theorem mw_223 : Cond.fieldLink R_Se 9 "WriteOnceDisc$Sector" "condition" "I" ∈ lw_g := lw_gin (List.mem_append_right _ (List.mem_of_getElem? (i := 210) rfl)) (by decide +kernel)
set_option maxRecDepth 100000 in
theorem mw_224 : Cond.fieldLink R_Se 15 "WriteOnceDisc$Sector" "isDefective" "Z" ∈ lw_g := lw_gin (List.mem_append_right _ (List.mem_of_getElem? (i := 213) rfl)) (by decide +kernel)
set_option maxRecDepth 100000 in
theorem mw_225 : Cond.code y_Se_erase b_Se_erase 1 none ∈ lw_g := lw_gin (List.mem_append_right _ (List.mem_of_getElem? (i := 754) rfl)) (by decide +kernel)
set_option maxRecDepth 100000 in
theorem mw_226 : Cond.initialized R_Se ∈ lw_g := lw_gin (List.mem_append_right _ (List.mem_of_getElem? (i := 9) rfl)) (by decide +kernel)
set_option maxRecDepth 100000 in
theorem mw_227 : Cond.methodLink R_Me 22 y_Se_erase ∈ lw_g := lw_gin (List.mem_append_right _ (List.mem_of_getElem? (i := 751) rfl)) (by decide +kernel)
set_option maxRecDepth 100000 in
theorem mw_228 : Cond.instanceMethod y_Se_erase ∈ lw_g := lw_gin (List.mem_append_right _ (List.mem_of_getElem? (i := 752) rfl)) (by decide +kernel)
set_option maxRecDepth 100000 in
theorem mw_229 : Cond.selects R_Se y_Se_erase y_Se_erase ∈ lw_g := lw_gin (List.mem_append_right _ (List.mem_of_getElem? (i := 753) rfl)) (by decide +kernel)
set_option maxRecDepth 100000 in
theorem mw_230 : Cond.code y_Me_has b_Me_has 2 (some .boolean) ∈ lw_g := lw_gin (List.mem_append_right _ (List.mem_of_getElem? (i := 275) rfl)) (by decide +kernel)
set_option maxRecDepth 100000 in
theorem mw_231 : Cond.methodLink R_Me 28 y_Me_has ∈ lw_g := lw_gin (List.mem_append_right _ (List.mem_of_getElem? (i := 272) rfl)) (by decide +kernel)
set_option maxRecDepth 100000 in
theorem mw_232 : Cond.instanceMethod y_Me_has ∈ lw_g := lw_gin (List.mem_append_right _ (List.mem_of_getElem? (i := 273) rfl)) (by decide +kernel)
set_option maxRecDepth 100000 in
theorem mw_233 : Cond.selects R_Me y_Me_has y_Me_has ∈ lw_g := lw_gin (List.mem_append_right _ (List.mem_of_getElem? (i := 274) rfl)) (by decide +kernel)
set_option maxRecDepth 100000 in
theorem mw_234 : Cond.fieldLink R_Me 32 "WriteOnceDisc$Sector" "isDefective" "Z" ∈ lw_g := lw_gin (List.mem_append_right _ (List.mem_of_getElem? (i := 214) rfl)) (by decide +kernel)
set_option maxRecDepth 100000 in
theorem mw_235 : Cond.fieldLink R_Po 19 "WriteOnceDisc$Power" "spent" "I" ∈ lw_g := lw_gin (List.mem_append_right _ (List.mem_of_getElem? (i := 46) rfl)) (by decide +kernel)
set_option maxRecDepth 100000 in
theorem mw_236 : Cond.fieldLink R_Po 15 "WriteOnceDisc$Power" "isLost" "Z" ∈ lw_g := lw_gin (List.mem_append_right _ (List.mem_of_getElem? (i := 44) rfl)) (by decide +kernel)
set_option maxRecDepth 100000 in
theorem mw_237 : Cond.fieldLink R_Po 9 "WriteOnceDisc$Power" "left" "I" ∈ lw_g := lw_gin (List.mem_append_right _ (List.mem_of_getElem? (i := 42) rfl)) (by decide +kernel)
theorem d_Se_erase_0 : decode b_Se_erase 0 = .ok (.aload_n 0, 1) := by decide +kernel
theorem d_Se_erase_1 : decode b_Se_erase 1 = .ok (.iconst 0, 1) := by decide +kernel
theorem d_Se_erase_2 : decode b_Se_erase 2 = .ok (.putfield 9, 3) := by decide +kernel
theorem d_Se_erase_5 : decode b_Se_erase 5 = .ok (.aload_n 0, 1) := by decide +kernel
theorem d_Se_erase_6 : decode b_Se_erase 6 = .ok (.iconst 0, 1) := by decide +kernel
theorem d_Se_erase_7 : decode b_Se_erase 7 = .ok (.putfield 15, 3) := by decide +kernel
theorem d_Se_erase_10 : decode b_Se_erase 10 = .ok (.return_, 1) := by decide +kernel
theorem d_Me_erase_0 : decode b_Me_erase 0 = .ok (.iconst 0, 1) := by decide +kernel
theorem d_Me_erase_1 : decode b_Me_erase 1 = .ok (.istore_n 1, 1) := by decide +kernel
theorem d_Me_erase_2 : decode b_Me_erase 2 = .ok (.iload_n 1, 1) := by decide +kernel
theorem d_Me_erase_3 : decode b_Me_erase 3 = .ok (.aload_n 0, 1) := by decide +kernel
theorem d_Me_erase_4 : decode b_Me_erase 4 = .ok (.getfield 17, 3) := by decide +kernel
theorem d_Me_erase_7 : decode b_Me_erase 7 = .ok (.arraylength, 1) := by decide +kernel
theorem d_Me_erase_8 : decode b_Me_erase 8 = .ok (.if_icmp .ge 18, 3) := by decide +kernel
theorem d_Me_erase_26 : decode b_Me_erase 26 = .ok (.aload_n 0, 1) := by decide +kernel
theorem d_Me_erase_27 : decode b_Me_erase 27 = .ok (.iconst 0, 1) := by decide +kernel
theorem d_Me_erase_28 : decode b_Me_erase 28 = .ok (.putfield 9, 3) := by decide +kernel
theorem d_Me_erase_31 : decode b_Me_erase 31 = .ok (.return_, 1) := by decide +kernel
theorem d_Me_erase_11 : decode b_Me_erase 11 = .ok (.aload_n 0, 1) := by decide +kernel
theorem d_Me_erase_12 : decode b_Me_erase 12 = .ok (.getfield 17, 3) := by decide +kernel
theorem d_Me_erase_15 : decode b_Me_erase 15 = .ok (.iload_n 1, 1) := by decide +kernel
theorem d_Me_erase_16 : decode b_Me_erase 16 = .ok (.aaload, 1) := by decide +kernel
theorem d_Me_erase_17 : decode b_Me_erase 17 = .ok (.invokevirtual 22, 3) := by decide +kernel
theorem d_Me_erase_20 : decode b_Me_erase 20 = .ok (.iinc 1 1, 3) := by decide +kernel
theorem d_Me_erase_23 : decode b_Me_erase 23 = .ok (.goto (-21), 3) := by decide +kernel
theorem d_Me_takesDefect_0 : decode b_Me_takesDefect 0 = .ok (.aload_n 0, 1) := by decide +kernel
theorem d_Me_takesDefect_1 : decode b_Me_takesDefect 1 = .ok (.iload_n 1, 1) := by decide +kernel
theorem d_Me_takesDefect_2 : decode b_Me_takesDefect 2 = .ok (.invokevirtual 28, 3) := by decide +kernel
theorem d_Me_takesDefect_5 : decode b_Me_takesDefect 5 = .ok (.ifCond .ne 5, 3) := by decide +kernel
theorem d_Me_takesDefect_8 : decode b_Me_takesDefect 8 = .ok (.iconst 0, 1) := by decide +kernel
theorem d_Me_takesDefect_9 : decode b_Me_takesDefect 9 = .ok (.ireturn, 1) := by decide +kernel
theorem d_Me_takesDefect_10 : decode b_Me_takesDefect 10 = .ok (.aload_n 0, 1) := by decide +kernel
theorem d_Me_takesDefect_11 : decode b_Me_takesDefect 11 = .ok (.getfield 17, 3) := by decide +kernel
theorem d_Me_takesDefect_14 : decode b_Me_takesDefect 14 = .ok (.iload_n 1, 1) := by decide +kernel
theorem d_Me_takesDefect_15 : decode b_Me_takesDefect 15 = .ok (.aaload, 1) := by decide +kernel
theorem d_Me_takesDefect_16 : decode b_Me_takesDefect 16 = .ok (.getfield 25, 3) := by decide +kernel
theorem d_Me_takesDefect_19 : decode b_Me_takesDefect 19 = .ok (.ifCond .ne 13, 3) := by decide +kernel
theorem d_Me_takesDefect_32 : decode b_Me_takesDefect 32 = .ok (.iconst 1, 1) := by decide +kernel
theorem d_Me_takesDefect_33 : decode b_Me_takesDefect 33 = .ok (.ireturn, 1) := by decide +kernel
theorem d_Me_takesDefect_22 : decode b_Me_takesDefect 22 = .ok (.aload_n 0, 1) := by decide +kernel
theorem d_Me_takesDefect_23 : decode b_Me_takesDefect 23 = .ok (.getfield 17, 3) := by decide +kernel
theorem d_Me_takesDefect_26 : decode b_Me_takesDefect 26 = .ok (.iload_n 1, 1) := by decide +kernel
theorem d_Me_takesDefect_27 : decode b_Me_takesDefect 27 = .ok (.aaload, 1) := by decide +kernel
theorem d_Me_takesDefect_28 : decode b_Me_takesDefect 28 = .ok (.iconst 1, 1) := by decide +kernel
theorem d_Me_takesDefect_29 : decode b_Me_takesDefect 29 = .ok (.putfield 32, 3) := by decide +kernel
theorem d_Me_change_0 : decode b_Me_change 0 = .ok (.aload_n 0, 1) := by decide +kernel
theorem d_Me_change_1 : decode b_Me_change 1 = .ok (.iload_n 1, 1) := by decide +kernel
theorem d_Me_change_2 : decode b_Me_change 2 = .ok (.invokevirtual 65, 3) := by decide +kernel
theorem d_Me_change_5 : decode b_Me_change 5 = .ok (.istore_n 3, 1) := by decide +kernel
theorem d_Me_change_6 : decode b_Me_change 6 = .ok (.iload_n 1, 1) := by decide +kernel
theorem d_Me_change_7 : decode b_Me_change 7 = .ok (.sipush 2048, 3) := by decide +kernel
theorem d_Me_change_10 : decode b_Me_change 10 = .ok (.idiv, 1) := by decide +kernel
theorem d_Me_change_11 : decode b_Me_change 11 = .ok (.istore 4, 2) := by decide +kernel
theorem d_Me_change_13 : decode b_Me_change 13 = .ok (.iload_n 3, 1) := by decide +kernel
theorem d_Me_change_14 : decode b_Me_change 14 = .ok (.iconst (-1), 1) := by decide +kernel
theorem d_Me_change_15 : decode b_Me_change 15 = .ok (.if_icmp .eq 25, 3) := by decide +kernel
theorem d_Me_change_40 : decode b_Me_change 40 = .ok (.iconst (-1), 1) := by decide +kernel
theorem d_Me_change_41 : decode b_Me_change 41 = .ok (.ireturn, 1) := by decide +kernel
theorem d_Me_change_18 : decode b_Me_change 18 = .ok (.aload_n 0, 1) := by decide +kernel
theorem d_Me_change_19 : decode b_Me_change 19 = .ok (.iload 4, 2) := by decide +kernel
theorem d_Me_change_21 : decode b_Me_change 21 = .ok (.invokevirtual 56, 3) := by decide +kernel
theorem d_Me_change_24 : decode b_Me_change 24 = .ok (.ifCond .eq 16, 3) := by decide +kernel
theorem d_Me_change_27 : decode b_Me_change 27 = .ok (.aload_n 0, 1) := by decide +kernel
theorem d_Me_change_28 : decode b_Me_change 28 = .ok (.getfield 17, 3) := by decide +kernel
theorem d_Me_change_31 : decode b_Me_change 31 = .ok (.iload 4, 2) := by decide +kernel
theorem d_Me_change_33 : decode b_Me_change 33 = .ok (.aaload, 1) := by decide +kernel
theorem d_Me_change_34 : decode b_Me_change 34 = .ok (.getfield 52, 3) := by decide +kernel
theorem d_Me_change_37 : decode b_Me_change 37 = .ok (.ifnonnull 5, 3) := by decide +kernel
theorem d_Me_change_42 : decode b_Me_change 42 = .ok (.aload_n 0, 1) := by decide +kernel
theorem d_Me_change_43 : decode b_Me_change 43 = .ok (.getfield 17, 3) := by decide +kernel
theorem d_Me_change_46 : decode b_Me_change 46 = .ok (.iload 4, 2) := by decide +kernel
theorem d_Me_change_48 : decode b_Me_change 48 = .ok (.aaload, 1) := by decide +kernel
theorem d_Me_change_49 : decode b_Me_change 49 = .ok (.getfield 52, 3) := by decide +kernel
theorem d_Me_change_52 : decode b_Me_change 52 = .ok (.iload_n 1, 1) := by decide +kernel
theorem d_Me_change_53 : decode b_Me_change 53 = .ok (.sipush 2048, 3) := by decide +kernel
theorem d_Me_change_56 : decode b_Me_change 56 = .ok (.irem, 1) := by decide +kernel
theorem d_Me_change_57 : decode b_Me_change 57 = .ok (.iload_n 2, 1) := by decide +kernel
theorem d_Me_change_58 : decode b_Me_change 58 = .ok (.i2b, 1) := by decide +kernel
theorem d_Me_change_59 : decode b_Me_change 59 = .ok (.bastore, 1) := by decide +kernel
theorem d_Me_change_60 : decode b_Me_change 60 = .ok (.iload_n 3, 1) := by decide +kernel
theorem d_Me_change_61 : decode b_Me_change 61 = .ok (.ireturn, 1) := by decide +kernel
theorem d_Po_lastsForWrite_0 : decode b_Po_lastsForWrite 0 = .ok (.aload_n 0, 1) := by decide +kernel
theorem d_Po_lastsForWrite_1 : decode b_Po_lastsForWrite 1 = .ok (.dup, 1) := by decide +kernel
theorem d_Po_lastsForWrite_2 : decode b_Po_lastsForWrite 2 = .ok (.getfield 19, 3) := by decide +kernel
theorem d_Po_lastsForWrite_5 : decode b_Po_lastsForWrite 5 = .ok (.iconst 1, 1) := by decide +kernel
theorem d_Po_lastsForWrite_6 : decode b_Po_lastsForWrite 6 = .ok (.iadd, 1) := by decide +kernel
theorem d_Po_lastsForWrite_7 : decode b_Po_lastsForWrite 7 = .ok (.putfield 19, 3) := by decide +kernel
theorem d_Po_lastsForWrite_42 : decode b_Po_lastsForWrite 42 = .ok (.aload_n 0, 1) := by decide +kernel
theorem d_Po_lastsForWrite_43 : decode b_Po_lastsForWrite 43 = .ok (.getfield 15, 3) := by decide +kernel
theorem d_Po_lastsForWrite_46 : decode b_Po_lastsForWrite 46 = .ok (.ifCond .ne 7, 3) := by decide +kernel
theorem d_Po_lastsForWrite_53 : decode b_Po_lastsForWrite 53 = .ok (.iconst 0, 1) := by decide +kernel
theorem d_Po_lastsForWrite_54 : decode b_Po_lastsForWrite 54 = .ok (.ireturn, 1) := by decide +kernel
theorem d_Po_lastsForWrite_49 : decode b_Po_lastsForWrite 49 = .ok (.iconst 1, 1) := by decide +kernel
theorem d_Po_lastsForWrite_50 : decode b_Po_lastsForWrite 50 = .ok (.goto 4, 3) := by decide +kernel
theorem d_Po_lastsForWrite_10 : decode b_Po_lastsForWrite 10 = .ok (.aload_n 0, 1) := by decide +kernel
theorem d_Po_lastsForWrite_11 : decode b_Po_lastsForWrite 11 = .ok (.getfield 9, 3) := by decide +kernel
theorem d_Po_lastsForWrite_14 : decode b_Po_lastsForWrite 14 = .ok (.ifCond .ne 11, 3) := by decide +kernel
theorem d_Po_lastsForWrite_25 : decode b_Po_lastsForWrite 25 = .ok (.aload_n 0, 1) := by decide +kernel
theorem d_Po_lastsForWrite_26 : decode b_Po_lastsForWrite 26 = .ok (.getfield 9, 3) := by decide +kernel
theorem d_Po_lastsForWrite_29 : decode b_Po_lastsForWrite 29 = .ok (.ifCond .le 13, 3) := by decide +kernel
theorem d_Po_lastsForWrite_32 : decode b_Po_lastsForWrite 32 = .ok (.aload_n 0, 1) := by decide +kernel
theorem d_Po_lastsForWrite_33 : decode b_Po_lastsForWrite 33 = .ok (.dup, 1) := by decide +kernel
theorem d_Po_lastsForWrite_34 : decode b_Po_lastsForWrite 34 = .ok (.getfield 9, 3) := by decide +kernel
theorem d_Po_lastsForWrite_37 : decode b_Po_lastsForWrite 37 = .ok (.iconst 1, 1) := by decide +kernel
theorem d_Po_lastsForWrite_38 : decode b_Po_lastsForWrite 38 = .ok (.isub, 1) := by decide +kernel
theorem d_Po_lastsForWrite_39 : decode b_Po_lastsForWrite 39 = .ok (.putfield 9, 3) := by decide +kernel
theorem d_Po_lastsForWrite_17 : decode b_Po_lastsForWrite 17 = .ok (.aload_n 0, 1) := by decide +kernel
theorem d_Po_lastsForWrite_18 : decode b_Po_lastsForWrite 18 = .ok (.iconst 1, 1) := by decide +kernel
theorem d_Po_lastsForWrite_19 : decode b_Po_lastsForWrite 19 = .ok (.putfield 15, 3) := by decide +kernel
theorem d_Po_lastsForWrite_22 : decode b_Po_lastsForWrite 22 = .ok (.goto 20, 3) := by decide +kernel
theorem d_Po_comeBack_0 : decode b_Po_comeBack 0 = .ok (.aload_n 0, 1) := by decide +kernel
theorem d_Po_comeBack_1 : decode b_Po_comeBack 1 = .ok (.getfield 15, 3) := by decide +kernel
theorem d_Po_comeBack_4 : decode b_Po_comeBack 4 = .ok (.ifCond .eq 8, 3) := by decide +kernel
theorem d_Po_comeBack_12 : decode b_Po_comeBack 12 = .ok (.aload_n 0, 1) := by decide +kernel
theorem d_Po_comeBack_13 : decode b_Po_comeBack 13 = .ok (.iconst 0, 1) := by decide +kernel
theorem d_Po_comeBack_14 : decode b_Po_comeBack 14 = .ok (.putfield 15, 3) := by decide +kernel
theorem d_Po_comeBack_17 : decode b_Po_comeBack 17 = .ok (.return_, 1) := by decide +kernel
theorem d_Po_comeBack_7 : decode b_Po_comeBack 7 = .ok (.aload_n 0, 1) := by decide +kernel
theorem d_Po_comeBack_8 : decode b_Po_comeBack 8 = .ok (.iconst (-1), 1) := by decide +kernel
theorem d_Po_comeBack_9 : decode b_Po_comeBack 9 = .ok (.putfield 9, 3) := by decide +kernel
set_option maxHeartbeats 4000000 in
set_option maxRecDepth 100000 in
theorem t_serase (l : Launch) (D : va_G) (t : Nat → ClassId) (G : hG) (ak av : Nat → Nat) (h : hM) (τ : tM) (n : Nat) (s9 : Nat) (hn : n ≤ 200) (hT : TI τ t n h) (T_s9 : τ s9 = (13, 0)) : Met l y_Se_erase (.code y_Se_erase b_Se_erase 1 none :: lw_g) { frames := 0, cells := 0, slots := 0, locals := 0 } (hP (kE D t G ak av) D vwCl G h [.ref s9]) (hQv D vwCl G (fun h' => TI τ t n h' ∧ kf τ [(13, 0)] [] h h' ∧ nlp τ h h')) 0 0 G.P := by
  refine Met.ofW (cc := b_Se_erase) (maxL := 1) (ret := none) (by decide) rfl ?_
  intro p e s m args below meth c s₁ Bd hml hv
  obtain ⟨ha, hE, hH⟩ := hv
  have hx := Bd.exec
  have hb := Bd.bytes
  have hr := Bd.returns
  have hts : ∀ w ∈ lw_g, w.before args s = true := fun w hw => atoms_spec (ws := (.code y_Se_erase b_Se_erase 1 none :: lw_g)) Bd.pre w (List.mem_cons_of_mem _ hw)
  have hown : s.vm.findClass R_Se = some m.cls := findClass_of_methodNamed Bd.named
  have hlocks := Bd.notSynchronized
  have hK := hE.1
  have hH0 := hH
  have hLo : hLc G.P [] := hLc_nil
  have hz : s.heap.size ≤ s.heap.size := Nat.le_refl _
  have hl := lv_entry [.ref s9] (n := 1) (Nat.le_of_ble_eq_true rfl)
  rw [show entryFrame m args 1 = F0 m 0 ((lg_sl [.ref s9] ++ List.replicate (1 - (lg_sl [.ref s9]).length) Slot.unset).toArray) [] from (by rw [ha]; exact lg_entry_eq m [.ref s9] 1)]
  generalize (lg_sl [.ref s9] ++ List.replicate (1 - (lg_sl [.ref s9]).length) Slot.unset).toArray = ls at hl ⊢
  have hl : lv_has ls 1 [(0, .ref s9)] := hl
  have hkf : kf τ [(13, 0)] [] h h := kf_rf
  have hnl : nlp τ h h := nlp_rf
  refine lv_aload_n hx hb d_Se_erase_0 rfl (lv_at hl 0 rfl) ?_
  refine lv_iconst (v := 0) hx hb d_Se_erase_1 (by decide) ?_
  obtain ⟨v_1, v_2, v_4, F_s9, c_3, c_5⟩ := TI_sec hT T_s9
  refine hm_put (ci := 6) (v := .int 0) (ty := .int) (C := R_Se) (T := F_Se) (N := 3) hx hb hts ig_Se t_Se tk_Se nm_Se hown hK hH hLo F_s9 rfl 0 (by decide) (hts _ mw_223) (fun _ h9 => h9) rfl (by decide +kernel) rfl rfl (Nat.le_of_ble_eq_true rfl) d_Se_erase_2 (fun H_6 locs hH z_7 hLo => ?_)
  have hz : s.heap.size ≤ H_6.size := by rw [z_7]; exact hz
  obtain ⟨h_8, e_9⟩ : ∃ z, z = hu h s9 (.inr (6, [.int 0, .int v_2, va_rf v_4])) := ⟨_, rfl⟩
  have hH : hm D vwCl G h_8 H_6 := by rw [e_9]; exact hH
  have hOld := F_s9
  have F_s9 : h_8 s9 = some (.inr (6, [.int 0, .int v_2, va_rf v_4])) := by rw [e_9]; exact hu_s _ _ _
  have hT : TI τ t n h_8 := by rw [e_9]; exact TI_put hT T_s9 (by decide) ⟨0, v_2, v_4, rfl, c_3, c_5⟩
  have hkf : kf τ [(13, 0)] [] h h_8 := by rw [e_9]; exact kf_put hkf T_s9 List.mem_cons_self
  have c_10 : ∀ q, v_4 = some q → isB τ t h_8 q := fun q hq => by rw [e_9]; exact isB_put (by rw [T_s9]; exact Nat.succ_ne_zero _) (c_5 q hq)
  have hnl : nlp τ h h_8 := by rw [e_9]; exact nlp_put hnl hOld
  refine lv_aload_n hx hb d_Se_erase_5 rfl (lv_at hl 0 rfl) ?_
  refine lv_iconst (v := 0) hx hb d_Se_erase_6 (by decide) ?_
  refine hm_put (ci := 6) (v := .int 0) (ty := .boolean) (C := R_Se) (T := F_Se) (N := 3) hx hb hts ig_Se t_Se tk_Se nm_Se hown hK hH hLo F_s9 rfl 1 (by decide) (hts _ mw_224) (fun _ h9 => h9) rfl (by decide +kernel) (by decide) (by decide) (Nat.le_of_ble_eq_true rfl) d_Se_erase_7 (fun H_11 locs hH z_12 hLo => ?_)
  have hz : s.heap.size ≤ H_11.size := by rw [z_12]; exact hz
  obtain ⟨h_13, e_14⟩ : ∃ z, z = hu h_8 s9 (.inr (6, [.int 0, .int 0, va_rf v_4])) := ⟨_, rfl⟩
  have hH : hm D vwCl G h_13 H_11 := by rw [e_14]; exact hH
  have hOld := F_s9
  have F_s9 : h_13 s9 = some (.inr (6, [.int 0, .int 0, va_rf v_4])) := by rw [e_14]; exact hu_s _ _ _
  have hT : TI τ t n h_13 := by rw [e_14]; exact TI_put hT T_s9 (by decide) ⟨0, 0, v_4, rfl, zb0, c_10⟩
  have hkf : kf τ [(13, 0)] [] h h_13 := by rw [e_14]; exact kf_put hkf T_s9 List.mem_cons_self
  have c_15 : ∀ q, v_4 = some q → isB τ t h_13 q := fun q hq => by rw [e_14]; exact isB_put (by rw [T_s9]; exact Nat.succ_ne_zero _) (c_10 q hq)
  have hnl : nlp τ h h_13 := by rw [e_14]; exact nlp_put hnl hOld
  exact W.vret hx hb hr (fun t9 ht hW => ⟨h_13, rfl, ⟨hT, hkf, hnl⟩, by rw [ht]; exact hH, by rw [ht]; exact hz⟩) hLo d_Se_erase_10

set_option maxHeartbeats 4000000 in
set_option maxRecDepth 100000 in
theorem t_merase (l : Launch) (D : va_G) (t : Nat → ClassId) (G : hG) (ak av : Nat → Nat) (h : hM) (τ : tM) (n : Nat) (m9 : Nat) (hn : n ≤ 200) (hT : TI τ t n h) (T_m9 : τ m9 = (11, 0)) : Met l y_Me_erase (.code y_Me_erase b_Me_erase 2 none :: lw_g) { frames := 1, cells := 0, slots := 0, locals := 20 } (hP (kE D t G ak av) D vwCl G h [.ref m9]) (hQv D vwCl G (fun h' => TI τ t n h' ∧ kf τ [(13, 0), (11, 0)] [] h h' ∧ nlp τ h h')) 0 0 G.P := by
  refine Met.ofW (cc := b_Me_erase) (maxL := 2) (ret := none) (by decide) rfl ?_
  intro p e s m args below meth c s₁ Bd hml hv
  obtain ⟨ha, hE, hH⟩ := hv
  have hx := Bd.exec
  have hb := Bd.bytes
  have hr := Bd.returns
  have hts : ∀ w ∈ lw_g, w.before args s = true := fun w hw => atoms_spec (ws := (.code y_Me_erase b_Me_erase 2 none :: lw_g)) Bd.pre w (List.mem_cons_of_mem _ hw)
  have hown : s.vm.findClass R_Me = some m.cls := findClass_of_methodNamed Bd.named
  have hlocks := Bd.notSynchronized
  have hK := hE.1
  have hH0 := hH
  have hLo : hLc G.P [] := hLc_nil
  have hz : s.heap.size ≤ s.heap.size := Nat.le_refl _
  have hl := lv_entry [.ref m9] (n := 2) (Nat.le_of_ble_eq_true rfl)
  rw [show entryFrame m args 2 = F0 m 0 ((lg_sl [.ref m9] ++ List.replicate (2 - (lg_sl [.ref m9]).length) Slot.unset).toArray) [] from (by rw [ha]; exact lg_entry_eq m [.ref m9] 2)]
  generalize (lg_sl [.ref m9] ++ List.replicate (2 - (lg_sl [.ref m9]).length) Slot.unset).toArray = ls at hl ⊢
  have hl : lv_has ls 2 [(0, .ref m9)] := hl
  have hkf : kf τ [(13, 0), (11, 0)] [] h h := kf_rf
  have hnl : nlp τ h h := nlp_rf
  refine lv_iconst (v := 0) hx hb d_Me_erase_0 (by decide) ?_
  refine lv_istore_n (lv' := [(1, .int 0), (0, .ref m9)]) hx hb d_Me_erase_1 rfl hl (by decide) rfl (fun ls hl => ?_)
  refine hm_loop (fun k2 ls H locs hh2 => ∃ (i9 : Int32), k2 = mU i9 ∧ lv_has ls 2 [(0, .ref m9), (1, .int i9)] ∧ hm D vwCl G hh2 H ∧ s.heap.size ≤ H.size ∧ hLc G.P locs ∧ (TI τ t n hh2) ∧ (kf τ [(13, 0), (11, 0)] [] h hh2) ∧ (nlp τ h hh2) ∧ (0 ≤ i9.toInt)) ?_ (hh := h) ⟨0, rfl, (lv_sub hl [1, 0] rfl), hH, hz, hLo, hT, hkf, hnl, (by decide)⟩
  rintro k2 ls H locs hh2 ⟨i9, hk2, hl, hH, hz, hLo, hT, hkf, hnl, I_i9⟩ ih2
  refine lv_iload_n hx hb d_Me_erase_2 rfl (lv_at hl 1 rfl) ?_
  refine lv_aload_n hx hb d_Me_erase_3 rfl (lv_at hl 0 rfl) ?_
  obtain ⟨v_1, v_3, F_m9, c_2⟩ := TI_med hT T_m9
  refine hm_get (ci := 0) (v := .ref v_1) (C := R_Me) (T := F_Me) (N := 2) hx hb hts ig_Me hown hK hH F_m9 rfl 0 (by decide) (hts _ mw_28) (fun _ h9 => h9) rfl d_Me_erase_4 ?_
  obtain ⟨g_4, F_v_1, c_5⟩ := TI_secs hT c_2
  have iln_6 : (nI n).toInt = (n : Nat) := nI_toInt (by omega)
  refine hm_alen (v := nI n) hx hb hK hH 5 F_v_1 (ty := (.object "WriteOnceDisc$Sector")) rfl rfl d_Me_erase_7 ?_
  refine lv_icmp_ge (tgt := 26) hx hb d_Me_erase_8 (by decide) (fun hc_7 => ?_) (fun hc_7 => ?_)
  · skip
    have ic_8 : (nI n).toInt ≤ i9.toInt := iLe hc_7
    refine lv_aload_n hx hb d_Me_erase_26 rfl (lv_at hl 0 rfl) ?_
    refine lv_iconst (v := 0) hx hb d_Me_erase_27 (by decide) ?_
    refine hm_put (ci := 0) (v := .int 0) (ty := .int) (C := R_Me) (T := F_Me) (N := 2) hx hb hts ig_Me t_Me tk_Me nm_Me hown hK hH hLo F_m9 rfl 1 (by decide) (hts _ mw_64) (fun _ h9 => h9) rfl (by decide +kernel) rfl rfl (Nat.le_of_ble_eq_true rfl) d_Me_erase_28 (fun H_9 locs hH z_10 hLo => ?_)
    have hz : s.heap.size ≤ H_9.size := by rw [z_10]; exact hz
    obtain ⟨h_11, e_12⟩ : ∃ z, z = hu hh2 m9 (.inr (0, [.ref v_1, .int 0])) := ⟨_, rfl⟩
    have hH : hm D vwCl G h_11 H_9 := by rw [e_12]; exact hH
    have F_v_1 : h_11 v_1 = some (.inl ((t 5), n, .inr (.inr (.inr (.inr g_4))))) := by rw [e_12, hu_n (tne c_2 T_m9 (by decide))]; exact F_v_1
    have hOld := F_m9
    have F_m9 : h_11 m9 = some (.inr (0, [.ref v_1, .int 0])) := by rw [e_12]; exact hu_s _ _ _
    have hT : TI τ t n h_11 := by rw [e_12]; exact TI_put hT T_m9 (by decide) ⟨v_1, 0, rfl, c_2⟩
    have hkf : kf τ [(13, 0), (11, 0)] [] h h_11 := by rw [e_12]; exact kf_put hkf T_m9 (List.mem_cons_of_mem _ List.mem_cons_self)
    have hnl : nlp τ h h_11 := by rw [e_12]; exact nlp_put2 hnl (fun z => by have := z.symm.trans T_m9; simp at this)
    exact W.vret hx hb hr (fun t9 ht hW => ⟨h_11, rfl, ⟨hT, hkf, hnl⟩, by rw [ht]; exact hH, by rw [ht]; exact hz⟩) hLo d_Me_erase_31
  · skip
    have ic_13 : i9.toInt < (nI n).toInt := iNe hc_7
    have iu_14 : (nI n).toInt < 2147483648 := iUp _
    refine lv_aload_n hx hb d_Me_erase_11 rfl (lv_at hl 0 rfl) ?_
    refine hm_get (ci := 0) (v := .ref v_1) (C := R_Me) (T := F_Me) (N := 2) hx hb hts ig_Me hown hK hH F_m9 rfl 0 (by decide) (hts _ mw_28) (fun _ h9 => h9) rfl d_Me_erase_12 ?_
    refine lv_iload_n hx hb d_Me_erase_15 rfl (lv_at hl 1 rfl) ?_
    obtain ⟨a_15, e_16, T_17⟩ := c_5 i9.toNatClampNeg (iCl (by omega) (by omega))
    refine hm_aald (v := .ref a_15) hx hb hK hH 5 F_v_1 (C := R_Se) rfl (iIn (by omega) (by omega)) (by rw [e_16]; rfl) d_Me_erase_16 ?_
    obtain ⟨v_18, v_19, v_21, F_a_15, c_20, c_22⟩ := TI_sec hT T_17
    refine hm_callv (va_runV (As := []) (b := a_15) (rest := []) ⟨hx, hb, hml, hown, hts⟩ (t_serase l D t G ak av hh2 τ n a_15  hn hT T_17) ⟨cw9B 0 hts mw_225 mw_227 mw_226 rfl rfl (by decide +kernel) ⟨Nat.le_of_ble_eq_true rfl, Nat.le_of_ble_eq_true rfl⟩, hts _ mw_228, hts _ mw_229⟩ (hP_V (q := (R_Se, F_Se, 3)) kE_ok hE hK hH F_a_15 rfl) rfl rfl hl.1 rfl (lv_room (Nat.le_of_ble_eq_true rfl)) d_Me_erase_17 ⟨Nat.le_of_ble_eq_true rfl, Nat.le_of_ble_eq_true rfl⟩) hLo (fun h_23 H_24 locs hp_26 hH z_25 hLo => ?_)
    have hz : s.heap.size ≤ H_24.size := Nat.le_trans hz z_25
    have hT0 := hT
    obtain ⟨hT, kf_28, xk_29⟩ := hp_26
    have F_m9 : h_23 m9 = some (.inr (0, [.ref v_1, .int v_3])) := kf_at kf_28 T_m9 (by decide) (tnc (by decide) tn0) nm0 F_m9
    have F_v_1 : h_23 v_1 = some (.inl ((t 5), n, .inr (.inr (.inr (.inr g_4))))) := kf_at kf_28 c_2 (by decide) (tnc (by decide) tn0) nm0 F_v_1
    have hnl : nlp τ h h_23 := nlp_tr hnl xk_29
    have hkf : kf τ [(13, 0), (11, 0)] [] h h_23 := kf_tr hkf kf_28 (List.forall_mem_cons.mpr ⟨List.mem_cons_self, List.forall_mem_nil _⟩) (List.forall_mem_nil _)
    obtain ⟨j_30, e_31⟩ : ∃ z : Int32, z = i9 + 1 := ⟨_, rfl⟩
    refine lv_iinc (v := j_30) (lv' := [(1, .int j_30), (0, .ref m9)]) hx hb d_Me_erase_20 hl (k := 1) rfl e_31.symm (by decide) rfl (fun ls hl => ?_)
    refine lv_goto (tgt := 2) hx hb d_Me_erase_23 (by decide) ?_
    have is_32 : j_30.toInt = i9.toInt + 1 := by rw [e_31]; exact iAddK 1 rfl (by omega) (by omega)
    exact ih2 (mU j_30) ls _ locs _ (by rw [hk2]; exact mU_lt (by omega)) ⟨j_30, rfl, (lv_sub hl [1, 0] rfl), hH, hz, hLo, hT, hkf, hnl, (by omega)⟩

set_option maxHeartbeats 4000000 in
set_option maxRecDepth 100000 in
theorem t_takesDef (l : Launch) (D : va_G) (t : Nat → ClassId) (G : hG) (ak av : Nat → Nat) (h : hM) (τ : tM) (n : Nat) (m9 : Nat) (s9 : Int32) (hn : n ≤ 200) (hT : TI τ t n h) (T_m9 : τ m9 = (11, 0)) : Met l y_Me_takesDefect (.code y_Me_takesDefect b_Me_takesDefect 2 (some .boolean) :: lw_g) { frames := 1, cells := 0, slots := 0, locals := 21 } (hP (kE D t G ak av) D vwCl G h [.ref m9, .int s9]) (hQi D vwCl G (fun r h' => zb r ∧ TI τ t n h' ∧ kf τ [(13, 0)] [] h h' ∧ nlp τ h h' ∧ ((r = 0 ∧ (s9.toInt < 0 ∨ (n : Int) ≤ s9.toInt)) ∨ (r = 1 ∧ 0 ≤ s9.toInt ∧ s9.toInt < n)))) 0 0 G.P := by
  refine Met.ofW (cc := b_Me_takesDefect) (maxL := 2) (ret := (some .boolean)) (by decide) rfl ?_
  intro p e s m args below meth c s₁ Bd hml hv
  obtain ⟨ha, hE, hH⟩ := hv
  have hx := Bd.exec
  have hb := Bd.bytes
  have hr := Bd.returns
  have hts : ∀ w ∈ lw_g, w.before args s = true := fun w hw => atoms_spec (ws := (.code y_Me_takesDefect b_Me_takesDefect 2 (some .boolean) :: lw_g)) Bd.pre w (List.mem_cons_of_mem _ hw)
  have hown : s.vm.findClass R_Me = some m.cls := findClass_of_methodNamed Bd.named
  have hlocks := Bd.notSynchronized
  have hK := hE.1
  have hH0 := hH
  have hLo : hLc G.P [] := hLc_nil
  have hz : s.heap.size ≤ s.heap.size := Nat.le_refl _
  have hl := lv_entry [.ref m9, .int s9] (n := 2) (Nat.le_of_ble_eq_true rfl)
  rw [show entryFrame m args 2 = F0 m 0 ((lg_sl [.ref m9, .int s9] ++ List.replicate (2 - (lg_sl [.ref m9, .int s9]).length) Slot.unset).toArray) [] from (by rw [ha]; exact lg_entry_eq m [.ref m9, .int s9] 2)]
  generalize (lg_sl [.ref m9, .int s9] ++ List.replicate (2 - (lg_sl [.ref m9, .int s9]).length) Slot.unset).toArray = ls at hl ⊢
  have hl : lv_has ls 2 [(0, .ref m9), (1, .int s9)] := hl
  have hkf : kf τ [(13, 0)] [] h h := kf_rf
  have hnl : nlp τ h h := nlp_rf
  refine lv_aload_n hx hb d_Me_takesDefect_0 rfl (lv_at hl 0 rfl) ?_
  refine lv_iload_n hx hb d_Me_takesDefect_1 rfl (lv_at hl 1 rfl) ?_
  obtain ⟨v_1, v_3, F_m9, c_2⟩ := TI_med hT T_m9
  refine hm_callPi (va_runV (As := [.int s9]) (b := m9) (rest := []) ⟨hx, hb, hml, hown, hts⟩ (t_has l D t G ak av h τ n m9 s9  hn hT T_m9) ⟨cw9B 1 hts mw_230 mw_231 mw_32 rfl rfl (by decide +kernel) ⟨Nat.le_of_ble_eq_true rfl, Nat.le_of_ble_eq_true rfl⟩, hts _ mw_232, hts _ mw_233⟩ (hP_V (q := (R_Me, F_Me, 2)) kE_ok hE hK hH F_m9 rfl) rfl rfl hl.1 rfl (lv_room (Nat.le_of_ble_eq_true rfl)) d_Me_takesDefect_2 ⟨Nat.le_of_ble_eq_true rfl, Nat.le_of_ble_eq_true rfl⟩) (fun r_4 h_5 H_6 hp_8  hH z_7 => ?_)
  have hz : s.heap.size ≤ H_6.size := Nat.le_trans hz z_7
  obtain ⟨c_9, xp_10, rfl⟩ := hp_8
  rcases xp_10 with ⟨rfl, ix9⟩ | ⟨rfl, ix9, iy9⟩
  · skip
    refine lv_if_ne (tgt := 10) hx hb d_Me_takesDefect_5 (by decide) (fun hc_11 => absurd hc_11 (by decide)) (fun hc_11 => ?_)
    refine lv_iconst (v := 0) hx hb d_Me_takesDefect_8 (by decide) ?_
    exact W.zret (v := 0) hx hb hr (by decide) (fun t9 ht hW => ⟨0, h, rfl, ⟨zb0, hT, hkf, hnl, Or.inl ⟨rfl, by omega⟩⟩, by rw [ht]; exact hH, by rw [ht]; exact hz⟩) hLo d_Me_takesDefect_9
  · skip
    refine lv_if_ne (tgt := 10) hx hb d_Me_takesDefect_5 (by decide) (fun hc_12 => ?_) (fun hc_12 => absurd hc_12 (by decide))
    refine lv_aload_n hx hb d_Me_takesDefect_10 rfl (lv_at hl 0 rfl) ?_
    refine hm_get (ci := 0) (v := .ref v_1) (C := R_Me) (T := F_Me) (N := 2) hx hb hts ig_Me hown hK hH F_m9 rfl 0 (by decide) (hts _ mw_28) (fun _ h9 => h9) rfl d_Me_takesDefect_11 ?_
    refine lv_iload_n hx hb d_Me_takesDefect_14 rfl (lv_at hl 1 rfl) ?_
    obtain ⟨g_13, F_v_1, c_14⟩ := TI_secs hT c_2
    obtain ⟨a_15, e_16, T_17⟩ := c_14 s9.toNatClampNeg (iCl (by omega) (by omega))
    refine hm_aald (v := .ref a_15) hx hb hK hH 5 F_v_1 (C := R_Se) rfl (iIn (by omega) (by omega)) (by rw [e_16]; rfl) d_Me_takesDefect_15 ?_
    obtain ⟨v_18, v_19, v_21, F_a_15, c_20, c_22⟩ := TI_sec hT T_17
    refine hm_get (ci := 6) (v := .int v_18) (C := R_Se) (T := F_Se) (N := 3) hx hb hts ig_Se hown hK hH F_a_15 rfl 0 (by decide) (hts _ mw_29) (fun _ h9 => h9) rfl d_Me_takesDefect_16 ?_
    refine lv_if_ne (tgt := 32) hx hb d_Me_takesDefect_19 (by decide) (fun hc_23 => ?_) (fun hc_23 => ?_)
    · skip
      refine lv_iconst (v := 1) hx hb d_Me_takesDefect_32 (by decide) ?_
      exact W.zret (v := 1) hx hb hr (by decide) (fun t9 ht hW => ⟨1, h, rfl, ⟨zb1, hT, hkf, hnl, Or.inr ⟨rfl, by omega, by omega⟩⟩, by rw [ht]; exact hH, by rw [ht]; exact hz⟩) hLo d_Me_takesDefect_33
    · skip
      have ic_24 : v_18.toInt = 0 := congrArg Int32.toInt hc_23
      refine lv_aload_n hx hb d_Me_takesDefect_22 rfl (lv_at hl 0 rfl) ?_
      refine hm_get (ci := 0) (v := .ref v_1) (C := R_Me) (T := F_Me) (N := 2) hx hb hts ig_Me hown hK hH F_m9 rfl 0 (by decide) (hts _ mw_28) (fun _ h9 => h9) rfl d_Me_takesDefect_23 ?_
      refine lv_iload_n hx hb d_Me_takesDefect_26 rfl (lv_at hl 1 rfl) ?_
      refine hm_aald (v := .ref a_15) hx hb hK hH 5 F_v_1 (C := R_Se) rfl (iIn (by omega) (by omega)) (by rw [e_16]; rfl) d_Me_takesDefect_27 ?_
      refine lv_iconst (v := 1) hx hb d_Me_takesDefect_28 (by decide) ?_
      refine hm_put (ci := 6) (v := .int 1) (ty := .boolean) (C := R_Se) (T := F_Se) (N := 3) hx hb hts ig_Se t_Se tk_Se nm_Se hown hK hH hLo F_a_15 rfl 1 (by decide) (hts _ mw_234) (fun _ h9 => h9) rfl (by decide +kernel) (by decide) (by decide) (Nat.le_of_ble_eq_true rfl) d_Me_takesDefect_29 (fun H_25 locs hH z_26 hLo => ?_)
      have hz : s.heap.size ≤ H_25.size := by rw [z_26]; exact hz
      obtain ⟨h_27, e_28⟩ : ∃ z, z = hu h a_15 (.inr (6, [.int v_18, .int 1, va_rf v_21])) := ⟨_, rfl⟩
      have hH : hm D vwCl G h_27 H_25 := by rw [e_28]; exact hH
      have F_m9 : h_27 m9 = some (.inr (0, [.ref v_1, .int v_3])) := by rw [e_28, hu_n (tne T_m9 T_17 (by decide))]; exact F_m9
      have F_v_1 : h_27 v_1 = some (.inl ((t 5), n, .inr (.inr (.inr (.inr g_13))))) := by rw [e_28, hu_n (tne c_2 T_17 (by decide))]; exact F_v_1
      have hOld := F_a_15
      have F_a_15 : h_27 a_15 = some (.inr (6, [.int v_18, .int 1, va_rf v_21])) := by rw [e_28]; exact hu_s _ _ _
      have hT : TI τ t n h_27 := by rw [e_28]; exact TI_put hT T_17 (by decide) ⟨v_18, 1, v_21, rfl, zb1, c_22⟩
      have hkf : kf τ [(13, 0)] [] h h_27 := by rw [e_28]; exact kf_put hkf T_17 List.mem_cons_self
      have c_29 : ∀ q, v_21 = some q → isB τ t h_27 q := fun q hq => by rw [e_28]; exact isB_put (by rw [T_17]; exact Nat.succ_ne_zero _) (c_22 q hq)
      have hnl : nlp τ h h_27 := by rw [e_28]; exact nlp_put hnl hOld
      refine lv_iconst (v := 1) hx hb d_Me_takesDefect_32 (by decide) ?_
      exact W.zret (v := 1) hx hb hr (by decide) (fun t9 ht hW => ⟨1, h_27, rfl, ⟨zb1, hT, hkf, hnl, Or.inr ⟨rfl, by omega, by omega⟩⟩, by rw [ht]; exact hH, by rw [ht]; exact hz⟩) hLo d_Me_takesDefect_33

set_option maxHeartbeats 4000000 in
set_option maxRecDepth 100000 in
theorem t_change (l : Launch) (D : va_G) (t : Nat → ClassId) (G : hG) (ak av : Nat → Nat) (h : hM) (τ : tM) (n : Nat) (m9 : Nat) (a9 : Int32) (v9 : Int32) (hn : n ≤ 200) (hT : TI τ t n h) (T_m9 : τ m9 = (11, 0)) : Met l y_Me_change (.code y_Me_change b_Me_change 5 (some .int) :: lw_g) { frames := 1, cells := 0, slots := 0, locals := 23 } (hP (kE D t G ak av) D vwCl G h [.ref m9, .int a9, .int v9]) (hQi D vwCl G (fun r h' => TI τ t n h' ∧ kf τ [] [] h h')) 0 0 G.P := by
  refine Met.ofW (cc := b_Me_change) (maxL := 5) (ret := (some .int)) (by decide) rfl ?_
  intro p e s m args below meth c s₁ Bd hml hv
  obtain ⟨ha, hE, hH⟩ := hv
  have hx := Bd.exec
  have hb := Bd.bytes
  have hr := Bd.returns
  have hts : ∀ w ∈ lw_g, w.before args s = true := fun w hw => atoms_spec (ws := (.code y_Me_change b_Me_change 5 (some .int) :: lw_g)) Bd.pre w (List.mem_cons_of_mem _ hw)
  have hown : s.vm.findClass R_Me = some m.cls := findClass_of_methodNamed Bd.named
  have hlocks := Bd.notSynchronized
  have hK := hE.1
  have hH0 := hH
  have hLo : hLc G.P [] := hLc_nil
  have hz : s.heap.size ≤ s.heap.size := Nat.le_refl _
  have hl := lv_entry [.ref m9, .int a9, .int v9] (n := 5) (Nat.le_of_ble_eq_true rfl)
  rw [show entryFrame m args 5 = F0 m 0 ((lg_sl [.ref m9, .int a9, .int v9] ++ List.replicate (5 - (lg_sl [.ref m9, .int a9, .int v9]).length) Slot.unset).toArray) [] from (by rw [ha]; exact lg_entry_eq m [.ref m9, .int a9, .int v9] 5)]
  generalize (lg_sl [.ref m9, .int a9, .int v9] ++ List.replicate (5 - (lg_sl [.ref m9, .int a9, .int v9]).length) Slot.unset).toArray = ls at hl ⊢
  have hl : lv_has ls 5 [(0, .ref m9), (1, .int a9), (2, .int v9)] := hl
  have hkf : kf τ [] [] h h := kf_rf
  refine lv_aload_n hx hb d_Me_change_0 rfl (lv_at hl 0 rfl) ?_
  refine lv_iload_n hx hb d_Me_change_1 rfl (lv_at hl 1 rfl) ?_
  obtain ⟨v_1, v_3, F_m9, c_2⟩ := TI_med hT T_m9
  refine hm_callPi (va_runV (As := [.int a9]) (b := m9) (rest := []) ⟨hx, hb, hml, hown, hts⟩ (t_fetch l D t G ak av h τ n m9 a9  hn hT T_m9) ⟨cw9B 1 hts mw_31 mw_33 mw_32 rfl rfl (by decide +kernel) ⟨Nat.le_of_ble_eq_true rfl, Nat.le_of_ble_eq_true rfl⟩, hts _ mw_34, hts _ mw_35⟩ (hP_V (q := (R_Me, F_Me, 2)) kE_ok hE hK hH F_m9 rfl) rfl rfl hl.1 rfl (lv_room (Nat.le_of_ble_eq_true rfl)) d_Me_change_2 ⟨Nat.le_of_ble_eq_true rfl, Nat.le_of_ble_eq_true rfl⟩) (fun r_4 h_5 H_6 hp_8  hH z_7 => ?_)
  have hz : s.heap.size ≤ H_6.size := Nat.le_trans hz z_7
  obtain ⟨xp_9, rfl⟩ := hp_8
  refine lv_istore_n (lv' := [(3, .int r_4), (0, .ref m9), (1, .int a9), (2, .int v9)]) hx hb d_Me_change_5 rfl hl (by decide) rfl (fun ls hl => ?_)
  refine lv_iload_n hx hb d_Me_change_6 rfl (lv_at hl 2 rfl) ?_
  refine lv_sipush (v := 2048) hx hb d_Me_change_7 (by decide) ?_
  refine lv_idiv hx hb d_Me_change_10 (by decide) ?_
  refine lv_topi (fun v_10 e_11 => ?_)
  have id_12 : 0 ≤ a9.toInt → v_10.toInt = a9.toInt / 2048 := fun h9 => by rw [e_11]; exact i_div (d := 2048) (by decide) h9
  refine lv_istore (lv' := [(4, .int v_10), (3, .int r_4), (0, .ref m9), (1, .int a9), (2, .int v9)]) hx hb d_Me_change_11 hl (by decide) rfl (fun ls hl => ?_)
  refine lv_iload_n hx hb d_Me_change_13 rfl (lv_at hl 1 rfl) ?_
  refine lv_iconst (v := -1) hx hb d_Me_change_14 (by decide) ?_
  refine lv_icmp_eq (tgt := 40) hx hb d_Me_change_15 (by decide) (fun hc_13 => ?_) (fun hc_13 => ?_)
  · skip
    have ic_14 : r_4.toInt = (-1) := congrArg Int32.toInt hc_13
    refine lv_iconst (v := -1) hx hb d_Me_change_40 (by decide) ?_
    exact W.iret (v := (-1)) hx hb hr (fun t9 ht hW => ⟨(-1), h, rfl, ⟨hT, hkf⟩, by rw [ht]; exact hH, by rw [ht]; exact hz⟩) hLo d_Me_change_41
  · skip
    have I_a9 : 0 ≤ a9.toInt := by
      by_cases hz9 : a9.toInt < 0
      · exact absurd (xp_9.2 hz9) hc_13
      · omega
    refine lv_aload_n hx hb d_Me_change_18 rfl (lv_at hl 2 rfl) ?_
    refine lv_iload hx hb d_Me_change_19 (lv_at hl 0 rfl) ?_
    refine hm_callPi (va_runV (As := [.int v_10]) (b := m9) (rest := []) ⟨hx, hb, hml, hown, hts⟩ (t_isWritten l D t G ak av h τ n m9 v_10  hn hT T_m9) ⟨cw9B 1 hts mw_48 mw_49 mw_32 rfl rfl (by decide +kernel) ⟨Nat.le_of_ble_eq_true rfl, Nat.le_of_ble_eq_true rfl⟩, hts _ mw_50, hts _ mw_51⟩ (hP_V (q := (R_Me, F_Me, 2)) kE_ok hE hK hH F_m9 rfl) rfl rfl hl.1 rfl (lv_room (Nat.le_of_ble_eq_true rfl)) d_Me_change_21 ⟨Nat.le_of_ble_eq_true rfl, Nat.le_of_ble_eq_true rfl⟩) (fun r_15 h_16 H_17 hp_19  hH z_18 => ?_)
    have hz : s.heap.size ≤ H_17.size := Nat.le_trans hz z_18
    obtain ⟨c_20, xp_21, rfl⟩ := hp_19
    rcases xp_21 with rfl | ⟨rfl, ix9, iy9⟩
    · skip
      refine lv_if_eq (tgt := 40) hx hb d_Me_change_24 (by decide) (fun hc_22 => ?_) (fun hc_22 => absurd hc_22 (by decide))
      refine lv_iconst (v := -1) hx hb d_Me_change_40 (by decide) ?_
      exact W.iret (v := (-1)) hx hb hr (fun t9 ht hW => ⟨(-1), h, rfl, ⟨hT, hkf⟩, by rw [ht]; exact hH, by rw [ht]; exact hz⟩) hLo d_Me_change_41
    · skip
      refine lv_if_eq (tgt := 40) hx hb d_Me_change_24 (by decide) (fun hc_23 => absurd hc_23 (by decide)) (fun hc_23 => ?_)
      refine lv_aload_n hx hb d_Me_change_27 rfl (lv_at hl 2 rfl) ?_
      refine hm_get (ci := 0) (v := .ref v_1) (C := R_Me) (T := F_Me) (N := 2) hx hb hts ig_Me hown hK hH F_m9 rfl 0 (by decide) (hts _ mw_28) (fun _ h9 => h9) rfl d_Me_change_28 ?_
      refine lv_iload hx hb d_Me_change_31 (lv_at hl 0 rfl) ?_
      obtain ⟨g_24, F_v_1, c_25⟩ := TI_secs hT c_2
      obtain ⟨a_26, e_27, T_28⟩ := c_25 v_10.toNatClampNeg (iCl (by omega) (by omega))
      refine hm_aald (v := .ref a_26) hx hb hK hH 5 F_v_1 (C := R_Se) rfl (iIn (by omega) (by omega)) (by rw [e_27]; rfl) d_Me_change_33 ?_
      obtain ⟨v_29, v_30, v_32, F_a_26, c_31, c_33⟩ := TI_sec hT T_28
      refine hm_get (ci := 6) (v := va_rf v_32) (C := R_Se) (T := F_Se) (N := 3) hx hb hts ig_Se hown hK hH F_a_26 rfl 2 (by decide) (hts _ mw_30) (fun _ h9 => h9) rfl d_Me_change_34 ?_
      rcases v_32 with _ | q_34
      · skip
        refine lv_ifnonnullN hx hb d_Me_change_37 ?_
        refine lv_iconst (v := -1) hx hb d_Me_change_40 (by decide) ?_
        exact W.iret (v := (-1)) hx hb hr (fun t9 ht hW => ⟨(-1), h, rfl, ⟨hT, hkf⟩, by rw [ht]; exact hH, by rw [ht]; exact hz⟩) hLo d_Me_change_41
      · skip
        have T_35 := c_33 q_34 rfl
        refine lv_ifnonnull (tgt := 42) hx hb d_Me_change_37 (by decide) ?_
        refine lv_aload_n hx hb d_Me_change_42 rfl (lv_at hl 2 rfl) ?_
        refine hm_get (ci := 0) (v := .ref v_1) (C := R_Me) (T := F_Me) (N := 2) hx hb hts ig_Me hown hK hH F_m9 rfl 0 (by decide) (hts _ mw_28) (fun _ h9 => h9) rfl d_Me_change_43 ?_
        refine lv_iload hx hb d_Me_change_46 (lv_at hl 0 rfl) ?_
        refine hm_aald (v := .ref a_26) hx hb hK hH 5 F_v_1 (C := R_Se) rfl (iIn (by omega) (by omega)) (by rw [e_27]; rfl) d_Me_change_48 ?_
        refine hm_get (ci := 6) (v := .ref q_34) (C := R_Se) (T := F_Se) (N := 3) hx hb hts ig_Se hown hK hH F_a_26 rfl 2 (by decide) (hts _ mw_30) (fun _ h9 => h9) rfl d_Me_change_49 ?_
        refine lv_iload_n hx hb d_Me_change_52 rfl (lv_at hl 3 rfl) ?_
        refine lv_sipush (v := 2048) hx hb d_Me_change_53 (by decide) ?_
        refine lv_irem hx hb d_Me_change_56 (by decide) ?_
        refine lv_topi (fun v_36 e_37 => ?_)
        have id_38 : 0 ≤ a9.toInt → v_36.toInt = a9.toInt % 2048 := fun h9 => by rw [e_37]; exact i_mod (d := 2048) (by decide) h9
        refine lv_iload_n hx hb d_Me_change_57 rfl (lv_at hl 4 rfl) ?_
        refine lv_i2b (v := v9.toInt8.toInt32) hx hb d_Me_change_58 rfl ?_
        obtain ⟨u_40, g_39, u_41, F_q_34⟩ := T_35
        refine hm_bast hx hb hK hH hLo 0 F_q_34 rfl (iIn (by omega) (by omega)) d_Me_change_59 (fun H_42 locs hH z_43 hLo => ?_)
        have hz : s.heap.size ≤ H_42.size := by rw [z_43]; exact hz
        obtain ⟨h_44, e_45⟩ : ∃ z, z = hu h q_34 (.inl ((t 0), 2048, .inl (upd g_39 v_36.toNatClampNeg (vp_nar .byte v9.toInt8.toInt32)))) := ⟨_, rfl⟩
        have hH : hm D vwCl G h_44 H_42 := by rw [e_45]; exact hH
        have F_m9 : h_44 m9 = some (.inr (0, [.ref v_1, .int v_3])) := by rw [e_45, hu_n (tne0 T_m9 (by decide) u_40)]; exact F_m9
        have F_v_1 : h_44 v_1 = some (.inl ((t 5), n, .inr (.inr (.inr (.inr g_24))))) := by rw [e_45, hu_n (tne0 c_2 (by decide) u_40)]; exact F_v_1
        have F_a_26 : h_44 a_26 = some (.inr (6, [.int v_29, .int v_30, .ref q_34])) := by rw [e_45, hu_n (tne0 T_28 (by decide) u_40)]; exact F_a_26
        have F_q_34 : h_44 q_34 = some (.inl ((t 0), 2048, .inl (upd g_39 v_36.toNatClampNeg (vp_nar .byte v9.toInt8.toInt32)))) := by rw [e_45]; exact hu_s _ _ _
        have hT : TI τ t n h_44 := by rw [e_45]; exact TI_putU hT u_40 (sb_fitU u_41 (fitNar _))
        have hkf : kf τ [] [] h h_44 := by rw [e_45]; exact kf_putU hkf u_40
        have c_46 : ∀ q, (some q_34) = some q → isB τ t h_44 q := fun q hq => by rw [e_45]; exact isB_putU u_40 (sb_fitU u_41 (fitNar _)) (c_33 q hq)
        obtain ⟨g_47, e_48⟩ : ∃ z, z = upd g_39 v_36.toNatClampNeg (vp_nar .byte v9.toInt8.toInt32) := ⟨_, rfl⟩
        rw [← e_48] at F_q_34
        have c_49 : sb_Fit g_47 := by rw [e_48]; exact (sb_fitU u_41 (fitNar _))
        refine lv_iload_n hx hb d_Me_change_60 rfl (lv_at hl 1 rfl) ?_
        exact W.iret (v := r_4) hx hb hr (fun t9 ht hW => ⟨r_4, h_44, rfl, ⟨hT, hkf⟩, by rw [ht]; exact hH, by rw [ht]; exact hz⟩) hLo d_Me_change_61

set_option maxHeartbeats 4000000 in
set_option maxRecDepth 100000 in
theorem t_lasts (l : Launch) (D : va_G) (t : Nat → ClassId) (G : hG) (ak av : Nat → Nat) (h : hM) (τ : tM) (n : Nat) (p9 : Nat) (hn : n ≤ 200) (hT : TI τ t n h) (T_p9 : τ p9 = (3, 0)) : Met l y_Po_lastsForWrite (.code y_Po_lastsForWrite b_Po_lastsForWrite 1 (some .boolean) :: lw_g) { frames := 0, cells := 0, slots := 0, locals := 0 } (hP (kE D t G ak av) D vwCl G h [.ref p9]) (hQi D vwCl G (fun r h' => zb r ∧ TI τ t n h' ∧ kf τ [(3, 0)] [] h h')) 0 0 G.P := by
  refine Met.ofW (cc := b_Po_lastsForWrite) (maxL := 1) (ret := (some .boolean)) (by decide) rfl ?_
  intro p e s m args below meth c s₁ Bd hml hv
  obtain ⟨ha, hE, hH⟩ := hv
  have hx := Bd.exec
  have hb := Bd.bytes
  have hr := Bd.returns
  have hts : ∀ w ∈ lw_g, w.before args s = true := fun w hw => atoms_spec (ws := (.code y_Po_lastsForWrite b_Po_lastsForWrite 1 (some .boolean) :: lw_g)) Bd.pre w (List.mem_cons_of_mem _ hw)
  have hown : s.vm.findClass R_Po = some m.cls := findClass_of_methodNamed Bd.named
  have hlocks := Bd.notSynchronized
  have hK := hE.1
  have hH0 := hH
  have hLo : hLc G.P [] := hLc_nil
  have hz : s.heap.size ≤ s.heap.size := Nat.le_refl _
  have hl := lv_entry [.ref p9] (n := 1) (Nat.le_of_ble_eq_true rfl)
  rw [show entryFrame m args 1 = F0 m 0 ((lg_sl [.ref p9] ++ List.replicate (1 - (lg_sl [.ref p9]).length) Slot.unset).toArray) [] from (by rw [ha]; exact lg_entry_eq m [.ref p9] 1)]
  generalize (lg_sl [.ref p9] ++ List.replicate (1 - (lg_sl [.ref p9]).length) Slot.unset).toArray = ls at hl ⊢
  have hl : lv_has ls 1 [(0, .ref p9)] := hl
  have hkf : kf τ [(3, 0)] [] h h := kf_rf
  refine lv_aload_n hx hb d_Po_lastsForWrite_0 rfl (lv_at hl 0 rfl) ?_
  refine lv_dup hx hb d_Po_lastsForWrite_1 rfl ?_
  obtain ⟨v_1, v_2, v_4, F_p9, c_3⟩ := TI_pow hT T_p9
  refine hm_get (ci := 4) (v := .int v_4) (C := R_Po) (T := F_Po) (N := 3) hx hb hts ig_Po hown hK hH F_p9 rfl 2 (by decide) (hts _ mw_235) (fun _ h9 => h9) rfl d_Po_lastsForWrite_2 ?_
  refine lv_iconst (v := 1) hx hb d_Po_lastsForWrite_5 (by decide) ?_
  refine lv_iadd hx hb d_Po_lastsForWrite_6 ?_
  refine lv_topi (fun v_5 e_6 => ?_)
  refine hm_put (ci := 4) (v := .int v_5) (ty := .int) (C := R_Po) (T := F_Po) (N := 3) hx hb hts ig_Po t_Po tk_Po nm_Po hown hK hH hLo F_p9 rfl 2 (by decide) (hts _ mw_235) (fun _ h9 => h9) rfl (by decide +kernel) rfl rfl (Nat.le_of_ble_eq_true rfl) d_Po_lastsForWrite_7 (fun H_7 locs hH z_8 hLo => ?_)
  have hz : s.heap.size ≤ H_7.size := by rw [z_8]; exact hz
  obtain ⟨h_9, e_10⟩ : ∃ z, z = hu h p9 (.inr (4, [.int v_1, .int v_2, .int v_5])) := ⟨_, rfl⟩
  have hH : hm D vwCl G h_9 H_7 := by rw [e_10]; exact hH
  have F_p9 : h_9 p9 = some (.inr (4, [.int v_1, .int v_2, .int v_5])) := by rw [e_10]; exact hu_s _ _ _
  have hT : TI τ t n h_9 := by rw [e_10]; exact TI_put hT T_p9 (by decide) ⟨v_1, v_2, v_5, rfl, c_3⟩
  have hkf : kf τ [(3, 0)] [] h h_9 := by rw [e_10]; exact kf_put hkf T_p9 List.mem_cons_self
  refine hm_cut (α := Unit) (fun un9 ls H locs HH => (lv_has ls 1 [(0, .ref p9)]) ∧ (hm D vwCl G HH H) ∧ (s.heap.size ≤ H.size) ∧ (hLc G.P locs) ∧ (TI τ t n HH) ∧ (kf τ [(3, 0)] [] h HH)) 42 (fun un9 => []) ?_ (fun J42 => ?_)
  · skip
    rintro un9 ls H locs HH ⟨hl, hH, hz, hLo, hT, hkf⟩
    refine lv_aload_n hx hb d_Po_lastsForWrite_42 rfl (lv_at hl 0 rfl) ?_
    obtain ⟨v_11, v_12, v_14, F_p9, c_13⟩ := TI_pow hT T_p9
    refine hm_get (ci := 4) (v := .int v_12) (C := R_Po) (T := F_Po) (N := 3) hx hb hts ig_Po hown hK hH F_p9 rfl 1 (by decide) (hts _ mw_236) (fun _ h9 => h9) rfl d_Po_lastsForWrite_43 ?_
    refine lv_if_ne (tgt := 53) hx hb d_Po_lastsForWrite_46 (by decide) (fun hc_15 => ?_) (fun hc_15 => ?_)
    · skip
      refine lv_iconst (v := 0) hx hb d_Po_lastsForWrite_53 (by decide) ?_
      exact W.zret (v := 0) hx hb hr (by decide) (fun t9 ht hW => ⟨0, HH, rfl, ⟨zb0, hT, hkf⟩, by rw [ht]; exact hH, by rw [ht]; exact hz⟩) hLo d_Po_lastsForWrite_54
    · skip
      have ic_16 : v_12.toInt = 0 := congrArg Int32.toInt hc_15
      refine lv_iconst (v := 1) hx hb d_Po_lastsForWrite_49 (by decide) ?_
      refine lv_goto (tgt := 54) hx hb d_Po_lastsForWrite_50 (by decide) ?_
      exact W.zret (v := 1) hx hb hr (by decide) (fun t9 ht hW => ⟨1, HH, rfl, ⟨zb1, hT, hkf⟩, by rw [ht]; exact hH, by rw [ht]; exact hz⟩) hLo d_Po_lastsForWrite_54
  · skip
    refine lv_aload_n hx hb d_Po_lastsForWrite_10 rfl (lv_at hl 0 rfl) ?_
    refine hm_get (ci := 4) (v := .int v_1) (C := R_Po) (T := F_Po) (N := 3) hx hb hts ig_Po hown hK hH F_p9 rfl 0 (by decide) (hts _ mw_237) (fun _ h9 => h9) rfl d_Po_lastsForWrite_11 ?_
    refine lv_if_ne (tgt := 25) hx hb d_Po_lastsForWrite_14 (by decide) (fun hc_17 => ?_) (fun hc_17 => ?_)
    · skip
      refine lv_aload_n hx hb d_Po_lastsForWrite_25 rfl (lv_at hl 0 rfl) ?_
      refine hm_get (ci := 4) (v := .int v_1) (C := R_Po) (T := F_Po) (N := 3) hx hb hts ig_Po hown hK hH F_p9 rfl 0 (by decide) (hts _ mw_237) (fun _ h9 => h9) rfl d_Po_lastsForWrite_26 ?_
      refine lv_if_le (tgt := 42) hx hb d_Po_lastsForWrite_29 (by decide) (fun hc_18 => ?_) (fun hc_18 => ?_)
      · skip
        have ic_19 : v_1.toInt ≤ 0 := iLe hc_18
        exact J42 () _ _ _ _ ⟨(lv_sub hl [0] rfl), hH, hz, hLo, hT, hkf⟩
      · skip
        have ic_20 : 0 < v_1.toInt := iNe hc_18
        have iu_21 : v_1.toInt < 2147483648 := iUp _
        refine lv_aload_n hx hb d_Po_lastsForWrite_32 rfl (lv_at hl 0 rfl) ?_
        refine lv_dup hx hb d_Po_lastsForWrite_33 rfl ?_
        refine hm_get (ci := 4) (v := .int v_1) (C := R_Po) (T := F_Po) (N := 3) hx hb hts ig_Po hown hK hH F_p9 rfl 0 (by decide) (hts _ mw_237) (fun _ h9 => h9) rfl d_Po_lastsForWrite_34 ?_
        refine lv_iconst (v := 1) hx hb d_Po_lastsForWrite_37 (by decide) ?_
        refine lv_isub hx hb d_Po_lastsForWrite_38 ?_
        refine lv_topi (fun v_22 e_23 => ?_)
        refine hm_put (ci := 4) (v := .int v_22) (ty := .int) (C := R_Po) (T := F_Po) (N := 3) hx hb hts ig_Po t_Po tk_Po nm_Po hown hK hH hLo F_p9 rfl 0 (by decide) (hts _ mw_237) (fun _ h9 => h9) rfl (by decide +kernel) rfl rfl (Nat.le_of_ble_eq_true rfl) d_Po_lastsForWrite_39 (fun H_24 locs hH z_25 hLo => ?_)
        have hz : s.heap.size ≤ H_24.size := by rw [z_25]; exact hz
        obtain ⟨h_26, e_27⟩ : ∃ z, z = hu h_9 p9 (.inr (4, [.int v_22, .int v_2, .int v_5])) := ⟨_, rfl⟩
        have hH : hm D vwCl G h_26 H_24 := by rw [e_27]; exact hH
        have F_p9 : h_26 p9 = some (.inr (4, [.int v_22, .int v_2, .int v_5])) := by rw [e_27]; exact hu_s _ _ _
        have hT : TI τ t n h_26 := by rw [e_27]; exact TI_put hT T_p9 (by decide) ⟨v_22, v_2, v_5, rfl, c_3⟩
        have hkf : kf τ [(3, 0)] [] h h_26 := by rw [e_27]; exact kf_put hkf T_p9 List.mem_cons_self
        exact J42 () _ _ _ _ ⟨(lv_sub hl [0] rfl), hH, hz, hLo, hT, hkf⟩
    · skip
      have ic_28 : v_1.toInt = 0 := congrArg Int32.toInt hc_17
      refine lv_aload_n hx hb d_Po_lastsForWrite_17 rfl (lv_at hl 0 rfl) ?_
      refine lv_iconst (v := 1) hx hb d_Po_lastsForWrite_18 (by decide) ?_
      refine hm_put (ci := 4) (v := .int 1) (ty := .boolean) (C := R_Po) (T := F_Po) (N := 3) hx hb hts ig_Po t_Po tk_Po nm_Po hown hK hH hLo F_p9 rfl 1 (by decide) (hts _ mw_236) (fun _ h9 => h9) rfl (by decide +kernel) (by decide) (by decide) (Nat.le_of_ble_eq_true rfl) d_Po_lastsForWrite_19 (fun H_29 locs hH z_30 hLo => ?_)
      have hz : s.heap.size ≤ H_29.size := by rw [z_30]; exact hz
      obtain ⟨h_31, e_32⟩ : ∃ z, z = hu h_9 p9 (.inr (4, [.int v_1, .int 1, .int v_5])) := ⟨_, rfl⟩
      have hH : hm D vwCl G h_31 H_29 := by rw [e_32]; exact hH
      have F_p9 : h_31 p9 = some (.inr (4, [.int v_1, .int 1, .int v_5])) := by rw [e_32]; exact hu_s _ _ _
      have hT : TI τ t n h_31 := by rw [e_32]; exact TI_put hT T_p9 (by decide) ⟨v_1, 1, v_5, rfl, zb1⟩
      have hkf : kf τ [(3, 0)] [] h h_31 := by rw [e_32]; exact kf_put hkf T_p9 List.mem_cons_self
      refine lv_goto (tgt := 42) hx hb d_Po_lastsForWrite_22 (by decide) ?_
      exact J42 () _ _ _ _ ⟨(lv_sub hl [0] rfl), hH, hz, hLo, hT, hkf⟩

set_option maxHeartbeats 4000000 in
set_option maxRecDepth 100000 in
theorem t_comeBack (l : Launch) (D : va_G) (t : Nat → ClassId) (G : hG) (ak av : Nat → Nat) (h : hM) (τ : tM) (n : Nat) (p9 : Nat) (hn : n ≤ 200) (hT : TI τ t n h) (T_p9 : τ p9 = (3, 0)) : Met l y_Po_comeBack (.code y_Po_comeBack b_Po_comeBack 1 none :: lw_g) { frames := 0, cells := 0, slots := 0, locals := 0 } (hP (kE D t G ak av) D vwCl G h [.ref p9]) (hQv D vwCl G (fun h' => TI τ t n h' ∧ kf τ [(3, 0)] [] h h')) 0 0 G.P := by
  refine Met.ofW (cc := b_Po_comeBack) (maxL := 1) (ret := none) (by decide) rfl ?_
  intro p e s m args below meth c s₁ Bd hml hv
  obtain ⟨ha, hE, hH⟩ := hv
  have hx := Bd.exec
  have hb := Bd.bytes
  have hr := Bd.returns
  have hts : ∀ w ∈ lw_g, w.before args s = true := fun w hw => atoms_spec (ws := (.code y_Po_comeBack b_Po_comeBack 1 none :: lw_g)) Bd.pre w (List.mem_cons_of_mem _ hw)
  have hown : s.vm.findClass R_Po = some m.cls := findClass_of_methodNamed Bd.named
  have hlocks := Bd.notSynchronized
  have hK := hE.1
  have hH0 := hH
  have hLo : hLc G.P [] := hLc_nil
  have hz : s.heap.size ≤ s.heap.size := Nat.le_refl _
  have hl := lv_entry [.ref p9] (n := 1) (Nat.le_of_ble_eq_true rfl)
  rw [show entryFrame m args 1 = F0 m 0 ((lg_sl [.ref p9] ++ List.replicate (1 - (lg_sl [.ref p9]).length) Slot.unset).toArray) [] from (by rw [ha]; exact lg_entry_eq m [.ref p9] 1)]
  generalize (lg_sl [.ref p9] ++ List.replicate (1 - (lg_sl [.ref p9]).length) Slot.unset).toArray = ls at hl ⊢
  have hl : lv_has ls 1 [(0, .ref p9)] := hl
  have hkf : kf τ [(3, 0)] [] h h := kf_rf
  refine lv_aload_n hx hb d_Po_comeBack_0 rfl (lv_at hl 0 rfl) ?_
  obtain ⟨v_1, v_2, v_4, F_p9, c_3⟩ := TI_pow hT T_p9
  refine hm_get (ci := 4) (v := .int v_2) (C := R_Po) (T := F_Po) (N := 3) hx hb hts ig_Po hown hK hH F_p9 rfl 1 (by decide) (hts _ mw_236) (fun _ h9 => h9) rfl d_Po_comeBack_1 ?_
  refine lv_if_eq (tgt := 12) hx hb d_Po_comeBack_4 (by decide) (fun hc_5 => ?_) (fun hc_5 => ?_)
  · skip
    have ic_6 : v_2.toInt = 0 := congrArg Int32.toInt hc_5
    refine lv_aload_n hx hb d_Po_comeBack_12 rfl (lv_at hl 0 rfl) ?_
    refine lv_iconst (v := 0) hx hb d_Po_comeBack_13 (by decide) ?_
    refine hm_put (ci := 4) (v := .int 0) (ty := .boolean) (C := R_Po) (T := F_Po) (N := 3) hx hb hts ig_Po t_Po tk_Po nm_Po hown hK hH hLo F_p9 rfl 1 (by decide) (hts _ mw_236) (fun _ h9 => h9) rfl (by decide +kernel) (by decide) (by decide) (Nat.le_of_ble_eq_true rfl) d_Po_comeBack_14 (fun H_7 locs hH z_8 hLo => ?_)
    have hz : s.heap.size ≤ H_7.size := by rw [z_8]; exact hz
    obtain ⟨h_9, e_10⟩ : ∃ z, z = hu h p9 (.inr (4, [.int v_1, .int 0, .int v_4])) := ⟨_, rfl⟩
    have hH : hm D vwCl G h_9 H_7 := by rw [e_10]; exact hH
    have F_p9 : h_9 p9 = some (.inr (4, [.int v_1, .int 0, .int v_4])) := by rw [e_10]; exact hu_s _ _ _
    have hT : TI τ t n h_9 := by rw [e_10]; exact TI_put hT T_p9 (by decide) ⟨v_1, 0, v_4, rfl, zb0⟩
    have hkf : kf τ [(3, 0)] [] h h_9 := by rw [e_10]; exact kf_put hkf T_p9 List.mem_cons_self
    exact W.vret hx hb hr (fun t9 ht hW => ⟨h_9, rfl, ⟨hT, hkf⟩, by rw [ht]; exact hH, by rw [ht]; exact hz⟩) hLo d_Po_comeBack_17
  · skip
    refine lv_aload_n hx hb d_Po_comeBack_7 rfl (lv_at hl 0 rfl) ?_
    refine lv_iconst (v := -1) hx hb d_Po_comeBack_8 (by decide) ?_
    refine hm_put (ci := 4) (v := .int (-1)) (ty := .int) (C := R_Po) (T := F_Po) (N := 3) hx hb hts ig_Po t_Po tk_Po nm_Po hown hK hH hLo F_p9 rfl 0 (by decide) (hts _ mw_237) (fun _ h9 => h9) rfl (by decide +kernel) rfl rfl (Nat.le_of_ble_eq_true rfl) d_Po_comeBack_9 (fun H_11 locs hH z_12 hLo => ?_)
    have hz : s.heap.size ≤ H_11.size := by rw [z_12]; exact hz
    obtain ⟨h_13, e_14⟩ : ∃ z, z = hu h p9 (.inr (4, [.int (-1), .int v_2, .int v_4])) := ⟨_, rfl⟩
    have hH : hm D vwCl G h_13 H_11 := by rw [e_14]; exact hH
    have F_p9 : h_13 p9 = some (.inr (4, [.int (-1), .int v_2, .int v_4])) := by rw [e_14]; exact hu_s _ _ _
    have hT : TI τ t n h_13 := by rw [e_14]; exact TI_put hT T_p9 (by decide) ⟨(-1), v_2, v_4, rfl, c_3⟩
    have hkf : kf τ [(3, 0)] [] h h_13 := by rw [e_14]; exact kf_put hkf T_p9 List.mem_cons_self
    refine lv_aload_n hx hb d_Po_comeBack_12 rfl (lv_at hl 0 rfl) ?_
    refine lv_iconst (v := 0) hx hb d_Po_comeBack_13 (by decide) ?_
    refine hm_put (ci := 4) (v := .int 0) (ty := .boolean) (C := R_Po) (T := F_Po) (N := 3) hx hb hts ig_Po t_Po tk_Po nm_Po hown hK hH hLo F_p9 rfl 1 (by decide) (hts _ mw_236) (fun _ h9 => h9) rfl (by decide +kernel) (by decide) (by decide) (Nat.le_of_ble_eq_true rfl) d_Po_comeBack_14 (fun H_15 locs hH z_16 hLo => ?_)
    have hz : s.heap.size ≤ H_15.size := by rw [z_16]; exact hz
    obtain ⟨h_17, e_18⟩ : ∃ z, z = hu h_13 p9 (.inr (4, [.int (-1), .int 0, .int v_4])) := ⟨_, rfl⟩
    have hH : hm D vwCl G h_17 H_15 := by rw [e_18]; exact hH
    have F_p9 : h_17 p9 = some (.inr (4, [.int (-1), .int 0, .int v_4])) := by rw [e_18]; exact hu_s _ _ _
    have hT : TI τ t n h_17 := by rw [e_18]; exact TI_put hT T_p9 (by decide) ⟨(-1), 0, v_4, rfl, zb0⟩
    have hkf : kf τ [(3, 0)] [] h h_17 := by rw [e_18]; exact kf_put hkf T_p9 List.mem_cons_self
    exact W.vret hx hb hr (fun t9 ht hW => ⟨h_17, rfl, ⟨hT, hkf⟩, by rw [ht]; exact hH, by rw [ht]; exact hz⟩) hLo d_Po_comeBack_17
