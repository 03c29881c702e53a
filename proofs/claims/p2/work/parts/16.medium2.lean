set_option maxRecDepth 100000 in
theorem mw_223 : Cond.fieldLink R_Se 9 "WriteOnceDisc$Sector" "condition" "I" ∈ lw_g := lw_gin (List.mem_append_right _ (List.mem_of_getElem? (i := 210) rfl)) (by decide +kernel)
set_option maxRecDepth 100000 in
theorem mw_224 : Cond.fieldLink R_Se 15 "WriteOnceDisc$Sector" "isDefective" "Z" ∈ lw_g := lw_gin (List.mem_append_right _ (List.mem_of_getElem? (i := 213) rfl)) (by decide +kernel)
set_option maxRecDepth 100000 in
theorem mw_225 : Cond.code y_Se_erase b_Se_erase 1 none ∈ lw_g := lw_gin (List.mem_append_right _ (List.mem_of_getElem? (i := 754) rfl)) (by decide +kernel)
set_option maxRecDepth 100000 in
theorem mw_226 : Cond.initialized R_Se ∈ lw_g := lw_gin (List.mem_append_right _ (List.mem_of_getElem? (i := 9) rfl)) (by decide +kernel)
set_option maxRecDepth 100000 in
theorem mw_227 : Cond.methodLink R_Me 22 y_Se_erase ∈ lw_g := lw_gin (List.mem_append_right _ (List.mem_of_getElem? (i := 751) rfl)) (by decide +kernel)
set_option maxRecDepth 100000 in
theorem mw_228 : Cond.instanceMethod y_Se_erase ∈ lw_g := lw_gin (List.mem_append_right _ (List.mem_of_getElem? (i := 752) rfl)) (by decide +kernel)
set_option maxRecDepth 100000 in
theorem mw_229 : Cond.selects R_Se y_Se_erase y_Se_erase ∈ lw_g := lw_gin (List.mem_append_right _ (List.mem_of_getElem? (i := 753) rfl)) (by decide +kernel)
set_option maxRecDepth 100000 in
theorem mw_230 : Cond.code y_Me_has b_Me_has 2 (some .boolean) ∈ lw_g := lw_gin (List.mem_append_right _ (List.mem_of_getElem? (i := 275) rfl)) (by decide +kernel)
set_option maxRecDepth 100000 in
theorem mw_231 : Cond.methodLink R_Me 28 y_Me_has ∈ lw_g := lw_gin (List.mem_append_right _ (List.mem_of_getElem? (i := 272) rfl)) (by decide +kernel)
set_option maxRecDepth 100000 in
theorem mw_232 : Cond.instanceMethod y_Me_has ∈ lw_g := lw_gin (List.mem_append_right _ (List.mem_of_getElem? (i := 273) rfl)) (by decide +kernel)
set_option maxRecDepth 100000 in
theorem mw_233 : Cond.selects R_Me y_Me_has y_Me_has ∈ lw_g := lw_gin (List.mem_append_right _ (List.mem_of_getElem? (i := 274) rfl)) (by decide +kernel)
set_option maxRecDepth 100000 in
theorem mw_234 : Cond.fieldLink R_Me 32 "WriteOnceDisc$Sector" "isDefective" "Z" ∈ lw_g := lw_gin (List.mem_append_right _ (List.mem_of_getElem? (i := 214) rfl)) (by decide +kernel)
set_option maxRecDepth 100000 in
theorem mw_235 : Cond.fieldLink R_Po 19 "WriteOnceDisc$Power" "spent" "I" ∈ lw_g := lw_gin (List.mem_append_right _ (List.mem_of_getElem? (i := 46) rfl)) (by decide +kernel)
set_option maxRecDepth 100000 in
theorem mw_236 : Cond.fieldLink R_Po 15 "WriteOnceDisc$Power" "isLost" "Z" ∈ lw_g := lw_gin (List.mem_append_right _ (List.mem_of_getElem? (i := 44) rfl)) (by decide +kernel)
set_option maxRecDepth 100000 in
theorem mw_237 : Cond.fieldLink R_Po 9 "WriteOnceDisc$Power" "left" "I" ∈ lw_g := lw_gin (List.mem_append_right _ (List.mem_of_getElem? (i := 42) rfl)) (by decide +kernel)
theorem d_Se_erase_0 : decode b_Se_erase 0 = .ok (.aload_n 0, 1) := by decide +kernel
theorem d_Se_erase_1 : decode b_Se_erase 1 = .ok (.iconst 0, 1) := by decide +kernel
theorem d_Se_erase_2 : decode b_Se_erase 2 = .ok (.putfield 9, 3) := by decide +kernel
theorem d_Se_erase_5 : decode b_Se_erase 5 = .ok (.aload_n 0, 1) := by decide +kernel
theorem d_Se_erase_6 : decode b_Se_erase 6 = .ok (.iconst 0, 1) := by decide +kernel
theorem d_Se_erase_7 : decode b_Se_erase 7 = .ok (.putfield 15, 3) := by decide +kernel
theorem d_Se_erase_10 : decode b_Se_erase 10 = .ok (.return_, 1) := by decide +kernel
theorem d_Me_erase_0 : decode b_Me_erase 0 = .ok (.iconst 0, 1) := by decide +kernel
theorem d_Me_erase_1 : decode b_Me_erase 1 = .ok (.istore_n 1, 1) := by decide +kernel
theorem d_Me_erase_2 : decode b_Me_erase 2 = .ok (.iload_n 1, 1) := by decide +kernel
theorem d_Me_erase_3 : decode b_Me_erase 3 = .ok (.aload_n 0, 1) := by decide +kernel
theorem d_Me_erase_4 : decode b_Me_erase 4 = .ok (.getfield 17, 3) := by decide +kernel
theorem d_Me_erase_7 : decode b_Me_erase 7 = .ok (.arraylength, 1) := by decide +kernel
theorem d_Me_erase_8 : decode b_Me_erase 8 = .ok (.if_icmp .ge 18, 3) := by decide +kernel
theorem d_Me_erase_26 : decode b_Me_erase 26 = .ok (.aload_n 0, 1) := by decide +kernel
theorem d_Me_erase_27 : decode b_Me_erase 27 = .ok (.iconst 0, 1) := by decide +kernel
theorem d_Me_erase_28 : decode b_Me_erase 28 = .ok (.putfield 9, 3) := by decide +kernel
theorem d_Me_erase_31 : decode b_Me_erase 31 = .ok (.return_, 1) := by decide +kernel
theorem d_Me_erase_11 : decode b_Me_erase 11 = .ok (.aload_n 0, 1) := by decide +kernel
theorem d_Me_erase_12 : decode b_Me_erase 12 = .ok (.getfield 17, 3) := by decide +kernel
theorem d_Me_erase_15 : decode b_Me_erase 15 = .ok (.iload_n 1, 1) := by decide +kernel
theorem d_Me_erase_16 : decode b_Me_erase 16 = .ok (.aaload, 1) := by decide +kernel
theorem d_Me_erase_17 : decode b_Me_erase 17 = .ok (.invokevirtual 22, 3) := by decide +kernel
theorem d_Me_erase_20 : decode b_Me_erase 20 = .ok (.iinc 1 1, 3) := by decide +kernel
theorem d_Me_erase_23 : decode b_Me_erase 23 = .ok (.goto (-21), 3) := by decide +kernel
theorem d_Me_takesDefect_0 : decode b_Me_takesDefect 0 = .ok (.aload_n 0, 1) := by decide +kernel
theorem d_Me_takesDefect_1 : decode b_Me_takesDefect 1 = .ok (.iload_n 1, 1) := by decide +kernel
theorem d_Me_takesDefect_2 : decode b_Me_takesDefect 2 = .ok (.invokevirtual 28, 3) := by decide +kernel
theorem d_Me_takesDefect_5 : decode b_Me_takesDefect 5 = .ok (.ifCond .ne 5, 3) := by decide +kernel
theorem d_Me_takesDefect_8 : decode b_Me_takesDefect 8 = .ok (.iconst 0, 1) := by decide +kernel
theorem d_Me_takesDefect_9 : decode b_Me_takesDefect 9 = .ok (.ireturn, 1) := by decide +kernel
theorem d_Me_takesDefect_10 : decode b_Me_takesDefect 10 = .ok (.aload_n 0, 1) := by decide +kernel
theorem d_Me_takesDefect_11 : decode b_Me_takesDefect 11 = .ok (.getfield 17, 3) := by decide +kernel
theorem d_Me_takesDefect_14 : decode b_Me_takesDefect 14 = .ok (.iload_n 1, 1) := by decide +kernel
theorem d_Me_takesDefect_15 : decode b_Me_takesDefect 15 = .ok (.aaload, 1) := by decide +kernel
theorem d_Me_takesDefect_16 : decode b_Me_takesDefect 16 = .ok (.getfield 25, 3) := by decide +kernel
theorem d_Me_takesDefect_19 : decode b_Me_takesDefect 19 = .ok (.ifCond .ne 13, 3) := by decide +kernel
theorem d_Me_takesDefect_32 : decode b_Me_takesDefect 32 = .ok (.iconst 1, 1) := by decide +kernel
theorem d_Me_takesDefect_33 : decode b_Me_takesDefect 33 = .ok (.ireturn, 1) := by decide +kernel
theorem d_Me_takesDefect_22 : decode b_Me_takesDefect 22 = .ok (.aload_n 0, 1) := by decide +kernel
theorem d_Me_takesDefect_23 : decode b_Me_takesDefect 23 = .ok (.getfield 17, 3) := by decide +kernel
theorem d_Me_takesDefect_26 : decode b_Me_takesDefect 26 = .ok (.iload_n 1, 1) := by decide +kernel
theorem d_Me_takesDefect_27 : decode b_Me_takesDefect 27 = .ok (.aaload, 1) := by decide +kernel
theorem d_Me_takesDefect_28 : decode b_Me_takesDefect 28 = .ok (.iconst 1, 1) := by decide +kernel
theorem d_Me_takesDefect_29 : decode b_Me_takesDefect 29 = .ok (.putfield 32, 3) := by decide +kernel
theorem d_Me_change_0 : decode b_Me_change 0 = .ok (.aload_n 0, 1) := by decide +kernel
theorem d_Me_change_1 : decode b_Me_change 1 = .ok (.iload_n 1, 1) := by decide +kernel
theorem d_Me_change_2 : decode b_Me_change 2 = .ok (.invokevirtual 65, 3) := by decide +kernel
theorem d_Me_change_5 : decode b_Me_change 5 = .ok (.istore_n 3, 1) := by decide +kernel
theorem d_Me_change_6 : decode b_Me_change 6 = .ok (.iload_n 1, 1) := by decide +kernel
theorem d_Me_change_7 : decode b_Me_change 7 = .ok (.sipush 2048, 3) := by decide +kernel
theorem d_Me_change_10 : decode b_Me_change 10 = .ok (.idiv, 1) := by decide +kernel
theorem d_Me_change_11 : decode b_Me_change 11 = .ok (.istore 4, 2) := by decide +kernel
theorem d_Me_change_13 : decode b_Me_change 13 = .ok (.iload_n 3, 1) := by decide +kernel
theorem d_Me_change_14 : decode b_Me_change 14 = .ok (.iconst (-1), 1) := by decide +kernel
theorem d_Me_change_15 : decode b_Me_change 15 = .ok (.if_icmp .eq 25, 3) := by decide +kernel
theorem d_Me_change_40 : decode b_Me_change 40 = .ok (.iconst (-1), 1) := by decide +kernel
theorem d_Me_change_41 : decode b_Me_change 41 = .ok (.ireturn, 1) := by decide +kernel
theorem d_Me_change_18 : decode b_Me_change 18 = .ok (.aload_n 0, 1) := by decide +kernel
theorem d_Me_change_19 : decode b_Me_change 19 = .ok (.iload 4, 2) := by decide +kernel
theorem d_Me_change_21 : decode b_Me_change 21 = .ok (.invokevirtual 56, 3) := by decide +kernel
theorem d_Me_change_24 : decode b_Me_change 24 = .ok (.ifCond .eq 16, 3) := by decide +kernel
theorem d_Me_change_27 : decode b_Me_change 27 = .ok (.aload_n 0, 1) := by decide +kernel
theorem d_Me_change_28 : decode b_Me_change 28 = .ok (.getfield 17, 3) := by decide +kernel
theorem d_Me_change_31 : decode b_Me_change 31 = .ok (.iload 4, 2) := by decide +kernel
theorem d_Me_change_33 : decode b_Me_change 33 = .ok (.aaload, 1) := by decide +kernel
theorem d_Me_change_34 : decode b_Me_change 34 = .ok (.getfield 52, 3) := by decide +kernel
theorem d_Me_change_37 : decode b_Me_change 37 = .ok (.ifnonnull 5, 3) := by decide +kernel
theorem d_Me_change_42 : decode b_Me_change 42 = .ok (.aload_n 0, 1) := by decide +kernel
theorem d_Me_change_43 : decode b_Me_change 43 = .ok (.getfield 17, 3) := by decide +kernel
theorem d_Me_change_46 : decode b_Me_change 46 = .ok (.iload 4, 2) := by decide +kernel
theorem d_Me_change_48 : decode b_Me_change 48 = .ok (.aaload, 1) := by decide +kernel
theorem d_Me_change_49 : decode b_Me_change 49 = .ok (.getfield 52, 3) := by decide +kernel
theorem d_Me_change_52 : decode b_Me_change 52 = .ok (.iload_n 1, 1) := by decide +kernel
theorem d_Me_change_53 : decode b_Me_change 53 = .ok (.sipush 2048, 3) := by decide +kernel
theorem d_Me_change_56 : decode b_Me_change 56 = .ok (.irem, 1) := by decide +kernel
theorem d_Me_change_57 : decode b_Me_change 57 = .ok (.iload_n 2, 1) := by decide +kernel
theorem d_Me_change_58 : decode b_Me_change 58 = .ok (.i2b, 1) := by decide +kernel
theorem d_Me_change_59 : decode b_Me_change 59 = .ok (.bastore, 1) := by decide +kernel
theorem d_Me_change_60 : decode b_Me_change 60 = .ok (.iload_n 3, 1) := by decide +kernel
theorem d_Me_change_61 : decode b_Me_change 61 = .ok (.ireturn, 1) := by decide +kernel
theorem d_Po_lastsForWrite_0 : decode b_Po_lastsForWrite 0 = .ok (.aload_n 0, 1) := by decide +kernel
theorem d_Po_lastsForWrite_1 : decode b_Po_lastsForWrite 1 = .ok (.dup, 1) := by decide +kernel
theorem d_Po_lastsForWrite_2 : decode b_Po_lastsForWrite 2 = .ok (.getfield 19, 3) := by decide +kernel
theorem d_Po_lastsForWrite_5 : decode b_Po_lastsForWrite 5 = .ok (.iconst 1, 1) := by decide +kernel
theorem d_Po_lastsForWrite_6 : decode b_Po_lastsForWrite 6 = .ok (.iadd, 1) := by decide +kernel
theorem d_Po_lastsForWrite_7 : decode b_Po_lastsForWrite 7 = .ok (.putfield 19, 3) := by decide +kernel
theorem d_Po_lastsForWrite_42 : decode b_Po_lastsForWrite 42 = .ok (.aload_n 0, 1) := by decide +kernel
theorem d_Po_lastsForWrite_43 : decode b_Po_lastsForWrite 43 = .ok (.getfield 15, 3) := by decide +kernel
theorem d_Po_lastsForWrite_46 : decode b_Po_lastsForWrite 46 = .ok (.ifCond .ne 7, 3) := by decide +kernel
theorem d_Po_lastsForWrite_53 : decode b_Po_lastsForWrite 53 = .ok (.iconst 0, 1) := by decide +kernel
theorem d_Po_lastsForWrite_54 : decode b_Po_lastsForWrite 54 = .ok (.ireturn, 1) := by decide +kernel
theorem d_Po_lastsForWrite_49 : decode b_Po_lastsForWrite 49 = .ok (.iconst 1, 1) := by decide +kernel
theorem d_Po_lastsForWrite_50 : decode b_Po_lastsForWrite 50 = .ok (.goto 4, 3) := by decide +kernel
theorem d_Po_lastsForWrite_10 : decode b_Po_lastsForWrite 10 = .ok (.aload_n 0, 1) := by decide +kernel
theorem d_Po_lastsForWrite_11 : decode b_Po_lastsForWrite 11 = .ok (.getfield 9, 3) := by decide +kernel
theorem d_Po_lastsForWrite_14 : decode b_Po_lastsForWrite 14 = .ok (.ifCond .ne 11, 3) := by decide +kernel
theorem d_Po_lastsForWrite_25 : decode b_Po_lastsForWrite 25 = .ok (.aload_n 0, 1) := by decide +kernel
theorem d_Po_lastsForWrite_26 : decode b_Po_lastsForWrite 26 = .ok (.getfield 9, 3) := by decide +kernel
theorem d_Po_lastsForWrite_29 : decode b_Po_lastsForWrite 29 = .ok (.ifCond .le 13, 3) := by decide +kernel
theorem d_Po_lastsForWrite_32 : decode b_Po_lastsForWrite 32 = .ok (.aload_n 0, 1) := by decide +kernel
theorem d_Po_lastsForWrite_33 : decode b_Po_lastsForWrite 33 = .ok (.dup, 1) := by decide +kernel
theorem d_Po_lastsForWrite_34 : decode b_Po_lastsForWrite 34 = .ok (.getfield 9, 3) := by decide +kernel
theorem d_Po_lastsForWrite_37 : decode b_Po_lastsForWrite 37 = .ok (.iconst 1, 1) := by decide +kernel
theorem d_Po_lastsForWrite_38 : decode b_Po_lastsForWrite 38 = .ok (.isub, 1) := by decide +kernel
theorem d_Po_lastsForWrite_39 : decode b_Po_lastsForWrite 39 = .ok (.putfield 9, 3) := by decide +kernel
theorem d_Po_lastsForWrite_17 : decode b_Po_lastsForWrite 17 = .ok (.aload_n 0, 1) := by decide +kernel
theorem d_Po_lastsForWrite_18 : decode b_Po_lastsForWrite 18 = .ok (.iconst 1, 1) := by decide +kernel
theorem d_Po_lastsForWrite_19 : decode b_Po_lastsForWrite 19 = .ok (.putfield 15, 3) := by decide +kernel
theorem d_Po_lastsForWrite_22 : decode b_Po_lastsForWrite 22 = .ok (.goto 20, 3) := by decide +kernel
theorem d_Po_comeBack_0 : decode b_Po_comeBack 0 = .ok (.aload_n 0, 1) := by decide +kernel
theorem d_Po_comeBack_1 : decode b_Po_comeBack 1 = .ok (.getfield 15, 3) := by decide +kernel
theorem d_Po_comeBack_4 : decode b_Po_comeBack 4 = .ok (.ifCond .eq 8, 3) := by decide +kernel
theorem d_Po_comeBack_12 : decode b_Po_comeBack 12 = .ok (.aload_n 0, 1) := by decide +kernel
theorem d_Po_comeBack_13 : decode b_Po_comeBack 13 = .ok (.iconst 0, 1) := by decide +kernel
theorem d_Po_comeBack_14 : decode b_Po_comeBack 14 = .ok (.putfield 15, 3) := by decide +kernel
theorem d_Po_comeBack_17 : decode b_Po_comeBack 17 = .ok (.return_, 1) := by decide +kernel
theorem d_Po_comeBack_7 : decode b_Po_comeBack 7 = .ok (.aload_n 0, 1) := by decide +kernel
theorem d_Po_comeBack_8 : decode b_Po_comeBack 8 = .ok (.iconst (-1), 1) := by decide +kernel
theorem d_Po_comeBack_9 : decode b_Po_comeBack 9 = .ok (.putfield 9, 3) := by decide +kernel
set_option maxHeartbeats 4000000 in
set_option maxRecDepth 100000 in
theorem t_serase (l : Launch) (D : va_G) (t : Nat → ClassId) (G : hG) (ak av : Nat → Nat) (h : hM) (τ : tM) (n : Nat) (s9 : Nat) (hn : n ≤ 200) (hT : TI τ t n h) (T_s9 : τ s9 = (13, 0)) : Met l y_Se_erase (.code y_Se_erase b_Se_erase 1 none :: lw_g) { frames := 0, cells := 0, slots := 0, locals := 0 } (hP (kE D t G ak av) D vwCl G h [.ref s9]) (hQv D vwCl G (fun h' => TI τ t n h' ∧ kf τ [(13, 0)] [] h h' ∧ nlp τ h h')) 0 0 G.P := by
  refine Met.ofW (cc := b_Se_erase) (maxL := 1) (ret := none) (by decide) rfl ?_
  intro p e s m args below meth c s₁ Bd hml hv
  obtain ⟨ha, hE, hH⟩ := hv
  have hx := Bd.exec
  have hb := Bd.bytes
  have hr := Bd.returns
  have hts : ∀ w ∈ lw_g, w.before args s = true := fun w hw => atoms_spec (ws := (.code y_Se_erase b_Se_erase 1 none :: lw_g)) Bd.pre w (List.mem_cons_of_mem _ hw)
  have hown : s.vm.findClass R_Se = some m.cls := findClass_of_methodNamed Bd.named
  have hlocks := Bd.notSynchronized
  have hK := hE.1
  have hH0 := hH
  have hLo : hLc G.P [] := hLc_nil
  have hz : s.heap.size ≤ s.heap.size := Nat.le_refl _
  have hl := lv_entry [.ref s9] (n := 1) (Nat.le_of_ble_eq_true rfl)
  rw [show entryFrame m args 1 = F0 m 0 ((lg_sl [.ref s9] ++ List.replicate (1 - (lg_sl [.ref s9]).length) Slot.unset).toArray) [] from (by rw [ha]; exact lg_entry_eq m [.ref s9] 1)]
  generalize (lg_sl [.ref s9] ++ List.replicate (1 - (lg_sl [.ref s9]).length) Slot.unset).toArray = ls at hl ⊢
  have hl : lv_has ls 1 [(0, .ref s9)] := hl
  have hkf : kf τ [(13, 0)] [] h h := kf_rf
  have hnl : nlp τ h h := nlp_rf
  refine lv_aload_n hx hb d_Se_erase_0 rfl (lv_at hl 0 rfl) ?_
  refine lv_iconst (v := 0) hx hb d_Se_erase_1 (by decide) ?_
  obtain ⟨v1, v2, v4, F_s9, c3, c5⟩ := TI_sec hT T_s9
  refine hm_put (ci := 6) (v := .int 0) (ty := .int) (C := R_Se) (T := F_Se) (N := 3) hx hb hts ig_Se t_Se tk_Se nm_Se hown hK hH hLo F_s9 rfl 0 (by decide) (hts _ mw_223) (fun _ h9 => h9) rfl (by decide +kernel) rfl rfl (Nat.le_of_ble_eq_true rfl) d_Se_erase_2 (fun H6 locs hH z7 hLo => ?_)
  have hz : s.heap.size ≤ H6.size := by rw [z7]; exact hz
  obtain ⟨h8, e9⟩ : ∃ z, z = hu h s9 (.inr (6, [.int 0, .int v2, va_rf v4])) := ⟨_, rfl⟩
  have hH : hm D vwCl G h8 H6 := by rw [e9]; exact hH
  have hOld := F_s9
  have F_s9 : h8 s9 = some (.inr (6, [.int 0, .int v2, va_rf v4])) := by rw [e9]; exact hu_s _ _ _
  have hT : TI τ t n h8 := by rw [e9]; exact TI_put hT T_s9 (by decide) ⟨0, v2, v4, rfl, c3, c5⟩
  have hkf : kf τ [(13, 0)] [] h h8 := by rw [e9]; exact kf_put hkf T_s9 List.mem_cons_self
  have c10 : ∀ q, v4 = some q → isB τ t h8 q := fun q hq => by rw [e9]; exact isB_put (by rw [T_s9]; decide) (c5 q hq)
  have hnl : nlp τ h h8 := by rw [e9]; exact nlp_put hnl hOld
  refine lv_aload_n hx hb d_Se_erase_5 rfl (lv_at hl 0 rfl) ?_
  refine lv_iconst (v := 0) hx hb d_Se_erase_6 (by decide) ?_
  refine hm_put (ci := 6) (v := .int 0) (ty := .boolean) (C := R_Se) (T := F_Se) (N := 3) hx hb hts ig_Se t_Se tk_Se nm_Se hown hK hH hLo F_s9 rfl 1 (by decide) (hts _ mw_224) (fun _ h9 => h9) rfl (by decide +kernel) (by decide) (by decide) (Nat.le_of_ble_eq_true rfl) d_Se_erase_7 (fun H11 locs hH z12 hLo => ?_)
  have hz : s.heap.size ≤ H11.size := by rw [z12]; exact hz
  obtain ⟨h13, e14⟩ : ∃ z, z = hu h8 s9 (.inr (6, [.int 0, .int 0, va_rf v4])) := ⟨_, rfl⟩
  have hH : hm D vwCl G h13 H11 := by rw [e14]; exact hH
  have hOld := F_s9
  have F_s9 : h13 s9 = some (.inr (6, [.int 0, .int 0, va_rf v4])) := by rw [e14]; exact hu_s _ _ _
  have hT : TI τ t n h13 := by rw [e14]; exact TI_put hT T_s9 (by decide) ⟨0, 0, v4, rfl, zb0, c10⟩
  have hkf : kf τ [(13, 0)] [] h h13 := by rw [e14]; exact kf_put hkf T_s9 List.mem_cons_self
  have c15 : ∀ q, v4 = some q → isB τ t h13 q := fun q hq => by rw [e14]; exact isB_put (by rw [T_s9]; decide) (c10 q hq)
  have hnl : nlp τ h h13 := by rw [e14]; exact nlp_put hnl hOld
  exact W.vret hx hb hr (fun t9 ht hW => ⟨h13, rfl, ⟨hT, hkf, hnl⟩, by rw [ht]; exact hH, by rw [ht]; exact hz⟩) hLo d_Se_erase_10

set_option maxHeartbeats 4000000 in
set_option maxRecDepth 100000 in
theorem t_merase (l : Launch) (D : va_G) (t : Nat → ClassId) (G : hG) (ak av : Nat → Nat) (h : hM) (τ : tM) (n : Nat) (m9 : Nat) (hn : n ≤ 200) (hT : TI τ t n h) (T_m9 : τ m9 = (11, 0)) : Met l y_Me_erase (.code y_Me_erase b_Me_erase 2 none :: lw_g) { frames := 1, cells := 0, slots := 0, locals := 20 } (hP (kE D t G ak av) D vwCl G h [.ref m9]) (hQv D vwCl G (fun h' => TI τ t n h' ∧ kf τ [(13, 0), (11, 0)] [] h h' ∧ nlp τ h h')) 0 0 G.P := by
  refine Met.ofW (cc := b_Me_erase) (maxL := 2) (ret := none) (by decide) rfl ?_
  intro p e s m args below meth c s₁ Bd hml hv
  obtain ⟨ha, hE, hH⟩ := hv
  have hx := Bd.exec
  have hb := Bd.bytes
  have hr := Bd.returns
  have hts : ∀ w ∈ lw_g, w.before args s = true := fun w hw => atoms_spec (ws := (.code y_Me_erase b_Me_erase 2 none :: lw_g)) Bd.pre w (List.mem_cons_of_mem _ hw)
  have hown : s.vm.findClass R_Me = some m.cls := findClass_of_methodNamed Bd.named
  have hlocks := Bd.notSynchronized
  have hK := hE.1
  have hH0 := hH
  have hLo : hLc G.P [] := hLc_nil
  have hz : s.heap.size ≤ s.heap.size := Nat.le_refl _
  have hl := lv_entry [.ref m9] (n := 2) (Nat.le_of_ble_eq_true rfl)
  rw [show entryFrame m args 2 = F0 m 0 ((lg_sl [.ref m9] ++ List.replicate (2 - (lg_sl [.ref m9]).length) Slot.unset).toArray) [] from (by rw [ha]; exact lg_entry_eq m [.ref m9] 2)]
  generalize (lg_sl [.ref m9] ++ List.replicate (2 - (lg_sl [.ref m9]).length) Slot.unset).toArray = ls at hl ⊢
  have hl : lv_has ls 2 [(0, .ref m9)] := hl
  have hkf : kf τ [(13, 0), (11, 0)] [] h h := kf_rf
  have hnl : nlp τ h h := nlp_rf
  refine lv_iconst (v := 0) hx hb d_Me_erase_0 (by decide) ?_
  refine lv_istore_n (lv' := [(1, .int 0), (0, .ref m9)]) hx hb d_Me_erase_1 rfl hl (by decide) rfl (fun ls hl => ?_)
  refine hm_loop (fun k2 ls H locs hh2 => ∃ (i9 : Int32), k2 = mU i9 ∧ lv_has ls 2 [(0, .ref m9), (1, .int i9)] ∧ hm D vwCl G hh2 H ∧ s.heap.size ≤ H.size ∧ hLc G.P locs ∧ (TI τ t n hh2) ∧ (kf τ [(13, 0), (11, 0)] [] h hh2) ∧ (nlp τ h hh2) ∧ (0 ≤ i9.toInt)) ?_ (hh := h) ⟨0, rfl, (lv_sub hl [1, 0] rfl), hH, hz, hLo, hT, hkf, hnl, (by decide)⟩
  rintro k2 ls H locs hh2 ⟨i9, hk2, hl, hH, hz, hLo, hT, hkf, hnl, I_i9⟩ ih2
  refine lv_iload_n hx hb d_Me_erase_2 rfl (lv_at hl 1 rfl) ?_
  refine lv_aload_n hx hb d_Me_erase_3 rfl (lv_at hl 0 rfl) ?_
  obtain ⟨v1, v3, F_m9, c2⟩ := TI_med hT T_m9
  refine hm_get (ci := 0) (v := .ref v1) (C := R_Me) (T := F_Me) (N := 2) hx hb hts ig_Me hown hK hH F_m9 rfl 0 (by decide) (hts _ mw_28) (fun _ h9 => h9) rfl d_Me_erase_4 ?_
  obtain ⟨g4, F_v1, c5⟩ := TI_secs hT c2
  have iln6 : (nI n).toInt = (n : Nat) := nI_toInt (by omega)
  refine hm_alen (v := nI n) hx hb hK hH 5 F_v1 (ty := (.object "WriteOnceDisc$Sector")) rfl rfl d_Me_erase_7 ?_
  refine lv_icmp_ge (tgt := 26) hx hb d_Me_erase_8 (by decide) (fun hc7 => ?_) (fun hc7 => ?_)
  · skip
    have ic8 : (nI n).toInt ≤ i9.toInt := iLe hc7
    refine lv_aload_n hx hb d_Me_erase_26 rfl (lv_at hl 0 rfl) ?_
    refine lv_iconst (v := 0) hx hb d_Me_erase_27 (by decide) ?_
    refine hm_put (ci := 0) (v := .int 0) (ty := .int) (C := R_Me) (T := F_Me) (N := 2) hx hb hts ig_Me t_Me tk_Me nm_Me hown hK hH hLo F_m9 rfl 1 (by decide) (hts _ mw_64) (fun _ h9 => h9) rfl (by decide +kernel) rfl rfl (Nat.le_of_ble_eq_true rfl) d_Me_erase_28 (fun H9 locs hH z10 hLo => ?_)
    have hz : s.heap.size ≤ H9.size := by rw [z10]; exact hz
    obtain ⟨h11, e12⟩ : ∃ z, z = hu hh2 m9 (.inr (0, [.ref v1, .int 0])) := ⟨_, rfl⟩
    have hH : hm D vwCl G h11 H9 := by rw [e12]; exact hH
    have F_v1 : h11 v1 = some (.inl ((t 5), n, .inr (.inr (.inr (.inr g4))))) := by rw [e12, hu_n (tne c2 T_m9 (by decide))]; exact F_v1
    have hOld := F_m9
    have F_m9 : h11 m9 = some (.inr (0, [.ref v1, .int 0])) := by rw [e12]; exact hu_s _ _ _
    have hT : TI τ t n h11 := by rw [e12]; exact TI_put hT T_m9 (by decide) ⟨v1, 0, rfl, c2⟩
    have hkf : kf τ [(13, 0), (11, 0)] [] h h11 := by rw [e12]; exact kf_put hkf T_m9 (List.mem_cons_of_mem _ List.mem_cons_self)
    have hnl : nlp τ h h11 := by rw [e12]; exact nlp_put2 hnl (fun z => by have := z.symm.trans T_m9; simp at this)
    exact W.vret hx hb hr (fun t9 ht hW => ⟨h11, rfl, ⟨hT, hkf, hnl⟩, by rw [ht]; exact hH, by rw [ht]; exact hz⟩) hLo d_Me_erase_31
  · skip
    have ic13 : i9.toInt < (nI n).toInt := iNe hc7
    refine lv_aload_n hx hb d_Me_erase_11 rfl (lv_at hl 0 rfl) ?_
    refine hm_get (ci := 0) (v := .ref v1) (C := R_Me) (T := F_Me) (N := 2) hx hb hts ig_Me hown hK hH F_m9 rfl 0 (by decide) (hts _ mw_28) (fun _ h9 => h9) rfl d_Me_erase_12 ?_
    refine lv_iload_n hx hb d_Me_erase_15 rfl (lv_at hl 1 rfl) ?_
    obtain ⟨a14, e15, T16⟩ := c5 i9.toNatClampNeg (iCl (by omega) (by omega))
    refine hm_aald (v := .ref a14) hx hb hK hH 5 F_v1 (C := R_Se) rfl (iIn (by omega) (by omega)) (by rw [e15]; rfl) d_Me_erase_16 ?_
    obtain ⟨v17, v18, v20, F_a14, c19, c21⟩ := TI_sec hT T16
    refine hm_callv (va_runV (As := []) (b := a14) (rest := []) ⟨hx, hb, hml, hown, hts⟩ (t_serase l D t G ak av hh2 τ n a14 hn hT T16) ⟨cw9B 0 hts mw_225 mw_227 mw_226 rfl rfl (by decide +kernel) ⟨Nat.le_of_ble_eq_true rfl, Nat.le_of_ble_eq_true rfl⟩, hts _ mw_228, hts _ mw_229⟩ (hP_V (q := (R_Se, F_Se, 3)) kE_ok hE hK hH F_a14 rfl) rfl rfl hl.1 rfl (lv_room (Nat.le_of_ble_eq_true rfl)) d_Me_erase_17 ⟨Nat.le_of_ble_eq_true rfl, Nat.le_of_ble_eq_true rfl⟩) hLo (fun h22 H23 locs hp25 hH z24 hLo => ?_)
    have hz : s.heap.size ≤ H23.size := Nat.le_trans hz z24
    have hT0 := hT
    obtain ⟨hT, kf27, xk28⟩ := hp25
    have F_m9 : h22 m9 = some (.inr (0, [.ref v1, .int v3])) := kf_at kf27 T_m9 (by decide) (tnc (by decide) tn0) nm0 F_m9
    have F_v1 : h22 v1 = some (.inl ((t 5), n, .inr (.inr (.inr (.inr g4))))) := kf_at kf27 c2 (by decide) (tnc (by decide) tn0) nm0 F_v1
    have hnl : nlp τ h h22 := nlp_tr hnl xk28
    have hkf : kf τ [(13, 0), (11, 0)] [] h h22 := kf_tr hkf kf27 (List.forall_mem_cons.mpr ⟨List.mem_cons_self, List.forall_mem_nil _⟩) (List.forall_mem_nil _)
    refine lv_iinc (v := i9 + 1) (lv' := [(1, .int (i9 + 1)), (0, .ref m9)]) hx hb d_Me_erase_20 hl (k := 1) rfl (by rfl) (by decide) rfl (fun ls hl => ?_)
    refine lv_goto (tgt := 2) hx hb d_Me_erase_23 (by decide) ?_
    have is29 : (i9 + 1).toInt = i9.toInt + 1 := iAddK 1 rfl (by omega) (by omega)
    exact ih2 (mU (i9 + 1)) ls _ locs _ (by rw [hk2]; exact mU_lt (by omega)) ⟨(i9 + 1), rfl, (lv_sub hl [1, 0] rfl), hH, hz, hLo, hT, hkf, hnl, (by omega)⟩

set_option maxHeartbeats 4000000 in
set_option maxRecDepth 100000 in
theorem t_takesDef (l : Launch) (D : va_G) (t : Nat → ClassId) (G : hG) (ak av : Nat → Nat) (h : hM) (τ : tM) (n : Nat) (m9 : Nat) (s9 : Int32) (hn : n ≤ 200) (hT : TI τ t n h) (T_m9 : τ m9 = (11, 0)) : Met l y_Me_takesDefect (.code y_Me_takesDefect b_Me_takesDefect 2 (some .boolean) :: lw_g) { frames := 1, cells := 0, slots := 0, locals := 21 } (hP (kE D t G ak av) D vwCl G h [.ref m9, .int s9]) (hQi D vwCl G (fun r h' => zb r ∧ TI τ t n h' ∧ kf τ [(13, 0)] [] h h' ∧ nlp τ h h' ∧ ((r = 0 ∧ (s9.toInt < 0 ∨ (n : Int) ≤ s9.toInt)) ∨ (r = 1 ∧ 0 ≤ s9.toInt ∧ s9.toInt < n)))) 0 0 G.P := by
  refine Met.ofW (cc := b_Me_takesDefect) (maxL := 2) (ret := (some .boolean)) (by decide) rfl ?_
  intro p e s m args below meth c s₁ Bd hml hv
  obtain ⟨ha, hE, hH⟩ := hv
  have hx := Bd.exec
  have hb := Bd.bytes
  have hr := Bd.returns
  have hts : ∀ w ∈ lw_g, w.before args s = true := fun w hw => atoms_spec (ws := (.code y_Me_takesDefect b_Me_takesDefect 2 (some .boolean) :: lw_g)) Bd.pre w (List.mem_cons_of_mem _ hw)
  have hown : s.vm.findClass R_Me = some m.cls := findClass_of_methodNamed Bd.named
  have hlocks := Bd.notSynchronized
  have hK := hE.1
  have hH0 := hH
  have hLo : hLc G.P [] := hLc_nil
  have hz : s.heap.size ≤ s.heap.size := Nat.le_refl _
  have hl := lv_entry [.ref m9, .int s9] (n := 2) (Nat.le_of_ble_eq_true rfl)
  rw [show entryFrame m args 2 = F0 m 0 ((lg_sl [.ref m9, .int s9] ++ List.replicate (2 - (lg_sl [.ref m9, .int s9]).length) Slot.unset).toArray) [] from (by rw [ha]; exact lg_entry_eq m [.ref m9, .int s9] 2)]
  generalize (lg_sl [.ref m9, .int s9] ++ List.replicate (2 - (lg_sl [.ref m9, .int s9]).length) Slot.unset).toArray = ls at hl ⊢
  have hl : lv_has ls 2 [(0, .ref m9), (1, .int s9)] := hl
  have hkf : kf τ [(13, 0)] [] h h := kf_rf
  have hnl : nlp τ h h := nlp_rf
  refine lv_aload_n hx hb d_Me_takesDefect_0 rfl (lv_at hl 0 rfl) ?_
  refine lv_iload_n hx hb d_Me_takesDefect_1 rfl (lv_at hl 1 rfl) ?_
  obtain ⟨v1, v3, F_m9, c2⟩ := TI_med hT T_m9
  refine hm_callPi (va_runV (As := [.int s9]) (b := m9) (rest := []) ⟨hx, hb, hml, hown, hts⟩ (t_has l D t G ak av h τ n m9 s9 hn hT T_m9) ⟨cw9B 1 hts mw_230 mw_231 mw_32 rfl rfl (by decide +kernel) ⟨Nat.le_of_ble_eq_true rfl, Nat.le_of_ble_eq_true rfl⟩, hts _ mw_232, hts _ mw_233⟩ (hP_V (q := (R_Me, F_Me, 2)) kE_ok hE hK hH F_m9 rfl) rfl rfl hl.1 rfl (lv_room (Nat.le_of_ble_eq_true rfl)) d_Me_takesDefect_2 ⟨Nat.le_of_ble_eq_true rfl, Nat.le_of_ble_eq_true rfl⟩) (fun r4 h5 H6 hp8  hH z7 => ?_)
  have hz : s.heap.size ≤ H6.size := Nat.le_trans hz z7
  obtain ⟨c9, xp10, rfl⟩ := hp8
  rcases xp10 with ⟨rfl, ix9⟩ | ⟨rfl, ix9, iy9⟩
  · skip
    refine lv_if_ne (tgt := 10) hx hb d_Me_takesDefect_5 (by decide) (fun hc11 => absurd hc11 (by decide)) (fun hc11 => ?_)
    refine lv_iconst (v := 0) hx hb d_Me_takesDefect_8 (by decide) ?_
    exact W.zret (v := 0) hx hb hr (by decide) (fun t9 ht hW => ⟨0, h, rfl, ⟨zb0, hT, hkf, hnl, Or.inl ⟨rfl, by omega⟩⟩, by rw [ht]; exact hH, by rw [ht]; exact hz⟩) hLo d_Me_takesDefect_9
  · skip
    refine lv_if_ne (tgt := 10) hx hb d_Me_takesDefect_5 (by decide) (fun hc12 => ?_) (fun hc12 => absurd hc12 (by decide))
    refine lv_aload_n hx hb d_Me_takesDefect_10 rfl (lv_at hl 0 rfl) ?_
    refine hm_get (ci := 0) (v := .ref v1) (C := R_Me) (T := F_Me) (N := 2) hx hb hts ig_Me hown hK hH F_m9 rfl 0 (by decide) (hts _ mw_28) (fun _ h9 => h9) rfl d_Me_takesDefect_11 ?_
    refine lv_iload_n hx hb d_Me_takesDefect_14 rfl (lv_at hl 1 rfl) ?_
    obtain ⟨g13, F_v1, c14⟩ := TI_secs hT c2
    obtain ⟨a15, e16, T17⟩ := c14 s9.toNatClampNeg (iCl (by omega) (by omega))
    refine hm_aald (v := .ref a15) hx hb hK hH 5 F_v1 (C := R_Se) rfl (iIn (by omega) (by omega)) (by rw [e16]; rfl) d_Me_takesDefect_15 ?_
    obtain ⟨v18, v19, v21, F_a15, c20, c22⟩ := TI_sec hT T17
    refine hm_get (ci := 6) (v := .int v18) (C := R_Se) (T := F_Se) (N := 3) hx hb hts ig_Se hown hK hH F_a15 rfl 0 (by decide) (hts _ mw_29) (fun _ h9 => h9) rfl d_Me_takesDefect_16 ?_
    refine lv_if_ne (tgt := 32) hx hb d_Me_takesDefect_19 (by decide) (fun hc23 => ?_) (fun hc23 => ?_)
    · skip
      refine lv_iconst (v := 1) hx hb d_Me_takesDefect_32 (by decide) ?_
      exact W.zret (v := 1) hx hb hr (by decide) (fun t9 ht hW => ⟨1, h, rfl, ⟨zb1, hT, hkf, hnl, Or.inr ⟨rfl, by omega, by omega⟩⟩, by rw [ht]; exact hH, by rw [ht]; exact hz⟩) hLo d_Me_takesDefect_33
    · skip
      have ic24 : v18.toInt = 0 := congrArg Int32.toInt hc23
      refine lv_aload_n hx hb d_Me_takesDefect_22 rfl (lv_at hl 0 rfl) ?_
      refine hm_get (ci := 0) (v := .ref v1) (C := R_Me) (T := F_Me) (N := 2) hx hb hts ig_Me hown hK hH F_m9 rfl 0 (by decide) (hts _ mw_28) (fun _ h9 => h9) rfl d_Me_takesDefect_23 ?_
      refine lv_iload_n hx hb d_Me_takesDefect_26 rfl (lv_at hl 1 rfl) ?_
      refine hm_aald (v := .ref a15) hx hb hK hH 5 F_v1 (C := R_Se) rfl (iIn (by omega) (by omega)) (by rw [e16]; rfl) d_Me_takesDefect_27 ?_
      refine lv_iconst (v := 1) hx hb d_Me_takesDefect_28 (by decide) ?_
      refine hm_put (ci := 6) (v := .int 1) (ty := .boolean) (C := R_Se) (T := F_Se) (N := 3) hx hb hts ig_Se t_Se tk_Se nm_Se hown hK hH hLo F_a15 rfl 1 (by decide) (hts _ mw_234) (fun _ h9 => h9) rfl (by decide +kernel) (by decide) (by decide) (Nat.le_of_ble_eq_true rfl) d_Me_takesDefect_29 (fun H25 locs hH z26 hLo => ?_)
      have hz : s.heap.size ≤ H25.size := by rw [z26]; exact hz
      obtain ⟨h27, e28⟩ : ∃ z, z = hu h a15 (.inr (6, [.int v18, .int 1, va_rf v21])) := ⟨_, rfl⟩
      have hH : hm D vwCl G h27 H25 := by rw [e28]; exact hH
      have F_m9 : h27 m9 = some (.inr (0, [.ref v1, .int v3])) := by rw [e28, hu_n (tne T_m9 T17 (by decide))]; exact F_m9
      have F_v1 : h27 v1 = some (.inl ((t 5), n, .inr (.inr (.inr (.inr g13))))) := by rw [e28, hu_n (tne c2 T17 (by decide))]; exact F_v1
      have hOld := F_a15
      have F_a15 : h27 a15 = some (.inr (6, [.int v18, .int 1, va_rf v21])) := by rw [e28]; exact hu_s _ _ _
      have hT : TI τ t n h27 := by rw [e28]; exact TI_put hT T17 (by decide) ⟨v18, 1, v21, rfl, zb1, c22⟩
      have hkf : kf τ [(13, 0)] [] h h27 := by rw [e28]; exact kf_put hkf T17 List.mem_cons_self
      have c29 : ∀ q, v21 = some q → isB τ t h27 q := fun q hq => by rw [e28]; exact isB_put (by rw [T17]; decide) (c22 q hq)
      have hnl : nlp τ h h27 := by rw [e28]; exact nlp_put hnl hOld
      refine lv_iconst (v := 1) hx hb d_Me_takesDefect_32 (by decide) ?_
      exact W.zret (v := 1) hx hb hr (by decide) (fun t9 ht hW => ⟨1, h27, rfl, ⟨zb1, hT, hkf, hnl, Or.inr ⟨rfl, by omega, by omega⟩⟩, by rw [ht]; exact hH, by rw [ht]; exact hz⟩) hLo d_Me_takesDefect_33

set_option maxHeartbeats 4000000 in
set_option maxRecDepth 100000 in
theorem t_change (l : Launch) (D : va_G) (t : Nat → ClassId) (G : hG) (ak av : Nat → Nat) (h : hM) (τ : tM) (n : Nat) (m9 : Nat) (a9 : Int32) (v9 : Int32) (hn : n ≤ 200) (hT : TI τ t n h) (T_m9 : τ m9 = (11, 0)) : Met l y_Me_change (.code y_Me_change b_Me_change 5 (some .int) :: lw_g) { frames := 1, cells := 0, slots := 0, locals := 23 } (hP (kE D t G ak av) D vwCl G h [.ref m9, .int a9, .int v9]) (hQi D vwCl G (fun r h' => TI τ t n h' ∧ kf τ [] [] h h')) 0 0 G.P := by
  refine Met.ofW (cc := b_Me_change) (maxL := 5) (ret := (some .int)) (by decide) rfl ?_
  intro p e s m args below meth c s₁ Bd hml hv
  obtain ⟨ha, hE, hH⟩ := hv
  have hx := Bd.exec
  have hb := Bd.bytes
  have hr := Bd.returns
  have hts : ∀ w ∈ lw_g, w.before args s = true := fun w hw => atoms_spec (ws := (.code y_Me_change b_Me_change 5 (some .int) :: lw_g)) Bd.pre w (List.mem_cons_of_mem _ hw)
  have hown : s.vm.findClass R_Me = some m.cls := findClass_of_methodNamed Bd.named
  have hlocks := Bd.notSynchronized
  have hK := hE.1
  have hH0 := hH
  have hLo : hLc G.P [] := hLc_nil
  have hz : s.heap.size ≤ s.heap.size := Nat.le_refl _
  have hl := lv_entry [.ref m9, .int a9, .int v9] (n := 5) (Nat.le_of_ble_eq_true rfl)
  rw [show entryFrame m args 5 = F0 m 0 ((lg_sl [.ref m9, .int a9, .int v9] ++ List.replicate (5 - (lg_sl [.ref m9, .int a9, .int v9]).length) Slot.unset).toArray) [] from (by rw [ha]; exact lg_entry_eq m [.ref m9, .int a9, .int v9] 5)]
  generalize (lg_sl [.ref m9, .int a9, .int v9] ++ List.replicate (5 - (lg_sl [.ref m9, .int a9, .int v9]).length) Slot.unset).toArray = ls at hl ⊢
  have hl : lv_has ls 5 [(0, .ref m9), (1, .int a9), (2, .int v9)] := hl
  have hkf : kf τ [] [] h h := kf_rf
  refine lv_aload_n hx hb d_Me_change_0 rfl (lv_at hl 0 rfl) ?_
  refine lv_iload_n hx hb d_Me_change_1 rfl (lv_at hl 1 rfl) ?_
  obtain ⟨v1, v3, F_m9, c2⟩ := TI_med hT T_m9
  refine hm_callPi (va_runV (As := [.int a9]) (b := m9) (rest := []) ⟨hx, hb, hml, hown, hts⟩ (t_fetch l D t G ak av h τ n m9 a9 hn hT T_m9) ⟨cw9B 1 hts mw_31 mw_33 mw_32 rfl rfl (by decide +kernel) ⟨Nat.le_of_ble_eq_true rfl, Nat.le_of_ble_eq_true rfl⟩, hts _ mw_34, hts _ mw_35⟩ (hP_V (q := (R_Me, F_Me, 2)) kE_ok hE hK hH F_m9 rfl) rfl rfl hl.1 rfl (lv_room (Nat.le_of_ble_eq_true rfl)) d_Me_change_2 ⟨Nat.le_of_ble_eq_true rfl, Nat.le_of_ble_eq_true rfl⟩) (fun r4 h5 H6 hp8  hH z7 => ?_)
  have hz : s.heap.size ≤ H6.size := Nat.le_trans hz z7
  obtain ⟨xp9, rfl⟩ := hp8
  refine lv_istore_n (lv' := [(3, .int r4), (0, .ref m9), (1, .int a9), (2, .int v9)]) hx hb d_Me_change_5 rfl hl (by decide) rfl (fun ls hl => ?_)
  refine lv_iload_n hx hb d_Me_change_6 rfl (lv_at hl 2 rfl) ?_
  refine lv_sipush (v := 2048) hx hb d_Me_change_7 (by decide) ?_
  refine lv_idiv hx hb d_Me_change_10 (by decide) ?_
  refine lv_topi (fun v10 e11 => ?_)
  have id12 : 0 ≤ a9.toInt → v10.toInt = a9.toInt / 2048 := fun h9 => by rw [e11]; exact i_div (d := 2048) (by decide) h9
  refine lv_istore (lv' := [(4, .int v10), (3, .int r4), (0, .ref m9), (1, .int a9), (2, .int v9)]) hx hb d_Me_change_11 hl (by decide) rfl (fun ls hl => ?_)
  refine lv_iload_n hx hb d_Me_change_13 rfl (lv_at hl 1 rfl) ?_
  refine lv_iconst (v := -1) hx hb d_Me_change_14 (by decide) ?_
  refine lv_icmp_eq (tgt := 40) hx hb d_Me_change_15 (by decide) (fun hc13 => ?_) (fun hc13 => ?_)
  · skip
    have ic14 : r4.toInt = (-1) := congrArg Int32.toInt hc13
    refine lv_iconst (v := -1) hx hb d_Me_change_40 (by decide) ?_
    exact W.iret (v := (-1)) hx hb hr (fun t9 ht hW => ⟨(-1), h, rfl, ⟨hT, hkf⟩, by rw [ht]; exact hH, by rw [ht]; exact hz⟩) hLo d_Me_change_41
  · skip
    have I_a9 : 0 ≤ a9.toInt := by
      by_cases hz9 : a9.toInt < 0
      · exact absurd (xp9.2 hz9) hc13
      · omega
    refine lv_aload_n hx hb d_Me_change_18 rfl (lv_at hl 2 rfl) ?_
    refine lv_iload hx hb d_Me_change_19 (lv_at hl 0 rfl) ?_
    refine hm_callPi (va_runV (As := [.int v10]) (b := m9) (rest := []) ⟨hx, hb, hml, hown, hts⟩ (t_isWritten l D t G ak av h τ n m9 v10 hn hT T_m9) ⟨cw9B 1 hts mw_48 mw_49 mw_32 rfl rfl (by decide +kernel) ⟨Nat.le_of_ble_eq_true rfl, Nat.le_of_ble_eq_true rfl⟩, hts _ mw_50, hts _ mw_51⟩ (hP_V (q := (R_Me, F_Me, 2)) kE_ok hE hK hH F_m9 rfl) rfl rfl hl.1 rfl (lv_room (Nat.le_of_ble_eq_true rfl)) d_Me_change_21 ⟨Nat.le_of_ble_eq_true rfl, Nat.le_of_ble_eq_true rfl⟩) (fun r15 h16 H17 hp19  hH z18 => ?_)
    have hz : s.heap.size ≤ H17.size := Nat.le_trans hz z18
    obtain ⟨c20, xp21, rfl⟩ := hp19
    rcases xp21 with rfl | ⟨rfl, ix9, iy9⟩
    · skip
      refine lv_if_eq (tgt := 40) hx hb d_Me_change_24 (by decide) (fun hc22 => ?_) (fun hc22 => absurd hc22 (by decide))
      refine lv_iconst (v := -1) hx hb d_Me_change_40 (by decide) ?_
      exact W.iret (v := (-1)) hx hb hr (fun t9 ht hW => ⟨(-1), h, rfl, ⟨hT, hkf⟩, by rw [ht]; exact hH, by rw [ht]; exact hz⟩) hLo d_Me_change_41
    · skip
      refine lv_if_eq (tgt := 40) hx hb d_Me_change_24 (by decide) (fun hc23 => absurd hc23 (by decide)) (fun hc23 => ?_)
      refine lv_aload_n hx hb d_Me_change_27 rfl (lv_at hl 2 rfl) ?_
      refine hm_get (ci := 0) (v := .ref v1) (C := R_Me) (T := F_Me) (N := 2) hx hb hts ig_Me hown hK hH F_m9 rfl 0 (by decide) (hts _ mw_28) (fun _ h9 => h9) rfl d_Me_change_28 ?_
      refine lv_iload hx hb d_Me_change_31 (lv_at hl 0 rfl) ?_
      obtain ⟨g24, F_v1, c25⟩ := TI_secs hT c2
      obtain ⟨a26, e27, T28⟩ := c25 v10.toNatClampNeg (iCl (by omega) (by omega))
      refine hm_aald (v := .ref a26) hx hb hK hH 5 F_v1 (C := R_Se) rfl (iIn (by omega) (by omega)) (by rw [e27]; rfl) d_Me_change_33 ?_
      obtain ⟨v29, v30, v32, F_a26, c31, c33⟩ := TI_sec hT T28
      refine hm_get (ci := 6) (v := va_rf v32) (C := R_Se) (T := F_Se) (N := 3) hx hb hts ig_Se hown hK hH F_a26 rfl 2 (by decide) (hts _ mw_30) (fun _ h9 => h9) rfl d_Me_change_34 ?_
      rcases v32 with _ | q34
      · skip
        refine lv_ifnonnullN hx hb d_Me_change_37 ?_
        refine lv_iconst (v := -1) hx hb d_Me_change_40 (by decide) ?_
        exact W.iret (v := (-1)) hx hb hr (fun t9 ht hW => ⟨(-1), h, rfl, ⟨hT, hkf⟩, by rw [ht]; exact hH, by rw [ht]; exact hz⟩) hLo d_Me_change_41
      · skip
        have T35 := c33 q34 rfl
        refine lv_ifnonnull (tgt := 42) hx hb d_Me_change_37 (by decide) ?_
        refine lv_aload_n hx hb d_Me_change_42 rfl (lv_at hl 2 rfl) ?_
        refine hm_get (ci := 0) (v := .ref v1) (C := R_Me) (T := F_Me) (N := 2) hx hb hts ig_Me hown hK hH F_m9 rfl 0 (by decide) (hts _ mw_28) (fun _ h9 => h9) rfl d_Me_change_43 ?_
        refine lv_iload hx hb d_Me_change_46 (lv_at hl 0 rfl) ?_
        refine hm_aald (v := .ref a26) hx hb hK hH 5 F_v1 (C := R_Se) rfl (iIn (by omega) (by omega)) (by rw [e27]; rfl) d_Me_change_48 ?_
        refine hm_get (ci := 6) (v := .ref q34) (C := R_Se) (T := F_Se) (N := 3) hx hb hts ig_Se hown hK hH F_a26 rfl 2 (by decide) (hts _ mw_30) (fun _ h9 => h9) rfl d_Me_change_49 ?_
        refine lv_iload_n hx hb d_Me_change_52 rfl (lv_at hl 3 rfl) ?_
        refine lv_sipush (v := 2048) hx hb d_Me_change_53 (by decide) ?_
        refine lv_irem hx hb d_Me_change_56 (by decide) ?_
        refine lv_topi (fun v36 e37 => ?_)
        have id38 : 0 ≤ a9.toInt → v36.toInt = a9.toInt % 2048 := fun h9 => by rw [e37]; exact i_mod (d := 2048) (by decide) h9
        refine lv_iload_n hx hb d_Me_change_57 rfl (lv_at hl 4 rfl) ?_
        refine lv_i2b (v := v9.toInt8.toInt32) hx hb d_Me_change_58 rfl ?_
        obtain ⟨u40, g39, u41, F_q34⟩ := T35
        refine hm_bast hx hb hK hH hLo 0 F_q34 rfl (iIn (by omega) (by omega)) d_Me_change_59 (fun H42 locs hH z43 hLo => ?_)
        have hz : s.heap.size ≤ H42.size := by rw [z43]; exact hz
        obtain ⟨h44, e45⟩ : ∃ z, z = hu h q34 (.inl ((t 0), 2048, .inl (upd g39 v36.toNatClampNeg (vp_nar .byte v9.toInt8.toInt32)))) := ⟨_, rfl⟩
        have hH : hm D vwCl G h44 H42 := by rw [e45]; exact hH
        have F_m9 : h44 m9 = some (.inr (0, [.ref v1, .int v3])) := by rw [e45, hu_n (tne0 T_m9 (by decide) u40)]; exact F_m9
        have F_v1 : h44 v1 = some (.inl ((t 5), n, .inr (.inr (.inr (.inr g24))))) := by rw [e45, hu_n (tne0 c2 (by decide) u40)]; exact F_v1
        have F_a26 : h44 a26 = some (.inr (6, [.int v29, .int v30, .ref q34])) := by rw [e45, hu_n (tne0 T28 (by decide) u40)]; exact F_a26
        have F_q34 : h44 q34 = some (.inl ((t 0), 2048, .inl (upd g39 v36.toNatClampNeg (vp_nar .byte v9.toInt8.toInt32)))) := by rw [e45]; exact hu_s _ _ _
        have hT : TI τ t n h44 := by rw [e45]; exact TI_putU hT u40 (sb_fitU u41 (fitNar _))
        have hkf : kf τ [] [] h h44 := by rw [e45]; exact kf_putU hkf u40
        have c46 : ∀ q, (some q34) = some q → isB τ t h44 q := fun q hq => by rw [e45]; exact isB_putU u40 (sb_fitU u41 (fitNar _)) (c33 q hq)
        obtain ⟨g47, e48⟩ : ∃ z, z = upd g39 v36.toNatClampNeg (vp_nar .byte v9.toInt8.toInt32) := ⟨_, rfl⟩
        rw [← e48] at F_q34
        have c49 := (sb_fitU u41 (fitNar _))
        rw [← e48] at c49
        refine lv_iload_n hx hb d_Me_change_60 rfl (lv_at hl 1 rfl) ?_
        exact W.iret (v := r4) hx hb hr (fun t9 ht hW => ⟨r4, h44, rfl, ⟨hT, hkf⟩, by rw [ht]; exact hH, by rw [ht]; exact hz⟩) hLo d_Me_change_61

set_option maxHeartbeats 4000000 in
set_option maxRecDepth 100000 in
theorem t_lasts (l : Launch) (D : va_G) (t : Nat → ClassId) (G : hG) (ak av : Nat → Nat) (h : hM) (τ : tM) (n : Nat) (p9 : Nat) (hn : n ≤ 200) (hT : TI τ t n h) (T_p9 : τ p9 = (3, 0)) : Met l y_Po_lastsForWrite (.code y_Po_lastsForWrite b_Po_lastsForWrite 1 (some .boolean) :: lw_g) { frames := 0, cells := 0, slots := 0, locals := 0 } (hP (kE D t G ak av) D vwCl G h [.ref p9]) (hQi D vwCl G (fun r h' => zb r ∧ TI τ t n h' ∧ kf τ [(3, 0)] [] h h')) 0 0 G.P := by
  refine Met.ofW (cc := b_Po_lastsForWrite) (maxL := 1) (ret := (some .boolean)) (by decide) rfl ?_
  intro p e s m args below meth c s₁ Bd hml hv
  obtain ⟨ha, hE, hH⟩ := hv
  have hx := Bd.exec
  have hb := Bd.bytes
  have hr := Bd.returns
  have hts : ∀ w ∈ lw_g, w.before args s = true := fun w hw => atoms_spec (ws := (.code y_Po_lastsForWrite b_Po_lastsForWrite 1 (some .boolean) :: lw_g)) Bd.pre w (List.mem_cons_of_mem _ hw)
  have hown : s.vm.findClass R_Po = some m.cls := findClass_of_methodNamed Bd.named
  have hlocks := Bd.notSynchronized
  have hK := hE.1
  have hH0 := hH
  have hLo : hLc G.P [] := hLc_nil
  have hz : s.heap.size ≤ s.heap.size := Nat.le_refl _
  have hl := lv_entry [.ref p9] (n := 1) (Nat.le_of_ble_eq_true rfl)
  rw [show entryFrame m args 1 = F0 m 0 ((lg_sl [.ref p9] ++ List.replicate (1 - (lg_sl [.ref p9]).length) Slot.unset).toArray) [] from (by rw [ha]; exact lg_entry_eq m [.ref p9] 1)]
  generalize (lg_sl [.ref p9] ++ List.replicate (1 - (lg_sl [.ref p9]).length) Slot.unset).toArray = ls at hl ⊢
  have hl : lv_has ls 1 [(0, .ref p9)] := hl
  have hkf : kf τ [(3, 0)] [] h h := kf_rf
  refine lv_aload_n hx hb d_Po_lastsForWrite_0 rfl (lv_at hl 0 rfl) ?_
  refine lv_dup hx hb d_Po_lastsForWrite_1 rfl ?_
  obtain ⟨v1, v2, v4, F_p9, c3⟩ := TI_pow hT T_p9
  refine hm_get (ci := 4) (v := .int v4) (C := R_Po) (T := F_Po) (N := 3) hx hb hts ig_Po hown hK hH F_p9 rfl 2 (by decide) (hts _ mw_235) (fun _ h9 => h9) rfl d_Po_lastsForWrite_2 ?_
  refine lv_iconst (v := 1) hx hb d_Po_lastsForWrite_5 (by decide) ?_
  refine lv_iadd hx hb d_Po_lastsForWrite_6 ?_
  refine lv_topi (fun v5 e6 => ?_)
  refine hm_put (ci := 4) (v := .int v5) (ty := .int) (C := R_Po) (T := F_Po) (N := 3) hx hb hts ig_Po t_Po tk_Po nm_Po hown hK hH hLo F_p9 rfl 2 (by decide) (hts _ mw_235) (fun _ h9 => h9) rfl (by decide +kernel) rfl rfl (Nat.le_of_ble_eq_true rfl) d_Po_lastsForWrite_7 (fun H7 locs hH z8 hLo => ?_)
  have hz : s.heap.size ≤ H7.size := by rw [z8]; exact hz
  obtain ⟨h9, e10⟩ : ∃ z, z = hu h p9 (.inr (4, [.int v1, .int v2, .int v5])) := ⟨_, rfl⟩
  have hH : hm D vwCl G h9 H7 := by rw [e10]; exact hH
  have F_p9 : h9 p9 = some (.inr (4, [.int v1, .int v2, .int v5])) := by rw [e10]; exact hu_s _ _ _
  have hT : TI τ t n h9 := by rw [e10]; exact TI_put hT T_p9 (by decide) ⟨v1, v2, v5, rfl, c3⟩
  have hkf : kf τ [(3, 0)] [] h h9 := by rw [e10]; exact kf_put hkf T_p9 List.mem_cons_self
  refine hm_cut (α := Unit) (fun un9 ls H locs HH => (lv_has ls 1 [(0, .ref p9)]) ∧ (hm D vwCl G HH H) ∧ (s.heap.size ≤ H.size) ∧ (hLc G.P locs) ∧ (TI τ t n HH) ∧ (kf τ [(3, 0)] [] h HH)) 42 (fun un9 => []) ?_ (fun J42 => ?_)
  · skip
    rintro un9 ls H locs HH ⟨hl, hH, hz, hLo, hT, hkf⟩
    refine lv_aload_n hx hb d_Po_lastsForWrite_42 rfl (lv_at hl 0 rfl) ?_
    obtain ⟨v11, v12, v14, F_p9, c13⟩ := TI_pow hT T_p9
    refine hm_get (ci := 4) (v := .int v12) (C := R_Po) (T := F_Po) (N := 3) hx hb hts ig_Po hown hK hH F_p9 rfl 1 (by decide) (hts _ mw_236) (fun _ h9 => h9) rfl d_Po_lastsForWrite_43 ?_
    refine lv_if_ne (tgt := 53) hx hb d_Po_lastsForWrite_46 (by decide) (fun hc15 => ?_) (fun hc15 => ?_)
    · skip
      refine lv_iconst (v := 0) hx hb d_Po_lastsForWrite_53 (by decide) ?_
      exact W.zret (v := 0) hx hb hr (by decide) (fun t9 ht hW => ⟨0, HH, rfl, ⟨zb0, hT, hkf⟩, by rw [ht]; exact hH, by rw [ht]; exact hz⟩) hLo d_Po_lastsForWrite_54
    · skip
      have ic16 : v12.toInt = 0 := congrArg Int32.toInt hc15
      refine lv_iconst (v := 1) hx hb d_Po_lastsForWrite_49 (by decide) ?_
      refine lv_goto (tgt := 54) hx hb d_Po_lastsForWrite_50 (by decide) ?_
      exact W.zret (v := 1) hx hb hr (by decide) (fun t9 ht hW => ⟨1, HH, rfl, ⟨zb1, hT, hkf⟩, by rw [ht]; exact hH, by rw [ht]; exact hz⟩) hLo d_Po_lastsForWrite_54
  · skip
    refine lv_aload_n hx hb d_Po_lastsForWrite_10 rfl (lv_at hl 0 rfl) ?_
    refine hm_get (ci := 4) (v := .int v1) (C := R_Po) (T := F_Po) (N := 3) hx hb hts ig_Po hown hK hH F_p9 rfl 0 (by decide) (hts _ mw_237) (fun _ h9 => h9) rfl d_Po_lastsForWrite_11 ?_
    refine lv_if_ne (tgt := 25) hx hb d_Po_lastsForWrite_14 (by decide) (fun hc17 => ?_) (fun hc17 => ?_)
    · skip
      refine lv_aload_n hx hb d_Po_lastsForWrite_25 rfl (lv_at hl 0 rfl) ?_
      refine hm_get (ci := 4) (v := .int v1) (C := R_Po) (T := F_Po) (N := 3) hx hb hts ig_Po hown hK hH F_p9 rfl 0 (by decide) (hts _ mw_237) (fun _ h9 => h9) rfl d_Po_lastsForWrite_26 ?_
      refine lv_if_le (tgt := 42) hx hb d_Po_lastsForWrite_29 (by decide) (fun hc18 => ?_) (fun hc18 => ?_)
      · skip
        have ic19 : v1.toInt ≤ 0 := iLe hc18
        exact J42 () _ _ _ _ ⟨(lv_sub hl [0] rfl), hH, hz, hLo, hT, hkf⟩
      · skip
        have ic20 : 0 < v1.toInt := iNe hc18
        refine lv_aload_n hx hb d_Po_lastsForWrite_32 rfl (lv_at hl 0 rfl) ?_
        refine lv_dup hx hb d_Po_lastsForWrite_33 rfl ?_
        refine hm_get (ci := 4) (v := .int v1) (C := R_Po) (T := F_Po) (N := 3) hx hb hts ig_Po hown hK hH F_p9 rfl 0 (by decide) (hts _ mw_237) (fun _ h9 => h9) rfl d_Po_lastsForWrite_34 ?_
        refine lv_iconst (v := 1) hx hb d_Po_lastsForWrite_37 (by decide) ?_
        refine lv_isub hx hb d_Po_lastsForWrite_38 ?_
        refine lv_topi (fun v21 e22 => ?_)
        refine hm_put (ci := 4) (v := .int v21) (ty := .int) (C := R_Po) (T := F_Po) (N := 3) hx hb hts ig_Po t_Po tk_Po nm_Po hown hK hH hLo F_p9 rfl 0 (by decide) (hts _ mw_237) (fun _ h9 => h9) rfl (by decide +kernel) rfl rfl (Nat.le_of_ble_eq_true rfl) d_Po_lastsForWrite_39 (fun H23 locs hH z24 hLo => ?_)
        have hz : s.heap.size ≤ H23.size := by rw [z24]; exact hz
        obtain ⟨h25, e26⟩ : ∃ z, z = hu h9 p9 (.inr (4, [.int v21, .int v2, .int v5])) := ⟨_, rfl⟩
        have hH : hm D vwCl G h25 H23 := by rw [e26]; exact hH
        have F_p9 : h25 p9 = some (.inr (4, [.int v21, .int v2, .int v5])) := by rw [e26]; exact hu_s _ _ _
        have hT : TI τ t n h25 := by rw [e26]; exact TI_put hT T_p9 (by decide) ⟨v21, v2, v5, rfl, c3⟩
        have hkf : kf τ [(3, 0)] [] h h25 := by rw [e26]; exact kf_put hkf T_p9 List.mem_cons_self
        exact J42 () _ _ _ _ ⟨(lv_sub hl [0] rfl), hH, hz, hLo, hT, hkf⟩
    · skip
      have ic27 : v1.toInt = 0 := congrArg Int32.toInt hc17
      refine lv_aload_n hx hb d_Po_lastsForWrite_17 rfl (lv_at hl 0 rfl) ?_
      refine lv_iconst (v := 1) hx hb d_Po_lastsForWrite_18 (by decide) ?_
      refine hm_put (ci := 4) (v := .int 1) (ty := .boolean) (C := R_Po) (T := F_Po) (N := 3) hx hb hts ig_Po t_Po tk_Po nm_Po hown hK hH hLo F_p9 rfl 1 (by decide) (hts _ mw_236) (fun _ h9 => h9) rfl (by decide +kernel) (by decide) (by decide) (Nat.le_of_ble_eq_true rfl) d_Po_lastsForWrite_19 (fun H28 locs hH z29 hLo => ?_)
      have hz : s.heap.size ≤ H28.size := by rw [z29]; exact hz
      obtain ⟨h30, e31⟩ : ∃ z, z = hu h9 p9 (.inr (4, [.int v1, .int 1, .int v5])) := ⟨_, rfl⟩
      have hH : hm D vwCl G h30 H28 := by rw [e31]; exact hH
      have F_p9 : h30 p9 = some (.inr (4, [.int v1, .int 1, .int v5])) := by rw [e31]; exact hu_s _ _ _
      have hT : TI τ t n h30 := by rw [e31]; exact TI_put hT T_p9 (by decide) ⟨v1, 1, v5, rfl, zb1⟩
      have hkf : kf τ [(3, 0)] [] h h30 := by rw [e31]; exact kf_put hkf T_p9 List.mem_cons_self
      refine lv_goto (tgt := 42) hx hb d_Po_lastsForWrite_22 (by decide) ?_
      exact J42 () _ _ _ _ ⟨(lv_sub hl [0] rfl), hH, hz, hLo, hT, hkf⟩

set_option maxHeartbeats 4000000 in
set_option maxRecDepth 100000 in
theorem t_comeBack (l : Launch) (D : va_G) (t : Nat → ClassId) (G : hG) (ak av : Nat → Nat) (h : hM) (τ : tM) (n : Nat) (p9 : Nat) (hn : n ≤ 200) (hT : TI τ t n h) (T_p9 : τ p9 = (3, 0)) : Met l y_Po_comeBack (.code y_Po_comeBack b_Po_comeBack 1 none :: lw_g) { frames := 0, cells := 0, slots := 0, locals := 0 } (hP (kE D t G ak av) D vwCl G h [.ref p9]) (hQv D vwCl G (fun h' => TI τ t n h' ∧ kf τ [(3, 0)] [] h h')) 0 0 G.P := by
  refine Met.ofW (cc := b_Po_comeBack) (maxL := 1) (ret := none) (by decide) rfl ?_
  intro p e s m args below meth c s₁ Bd hml hv
  obtain ⟨ha, hE, hH⟩ := hv
  have hx := Bd.exec
  have hb := Bd.bytes
  have hr := Bd.returns
  have hts : ∀ w ∈ lw_g, w.before args s = true := fun w hw => atoms_spec (ws := (.code y_Po_comeBack b_Po_comeBack 1 none :: lw_g)) Bd.pre w (List.mem_cons_of_mem _ hw)
  have hown : s.vm.findClass R_Po = some m.cls := findClass_of_methodNamed Bd.named
  have hlocks := Bd.notSynchronized
  have hK := hE.1
  have hH0 := hH
  have hLo : hLc G.P [] := hLc_nil
  have hz : s.heap.size ≤ s.heap.size := Nat.le_refl _
  have hl := lv_entry [.ref p9] (n := 1) (Nat.le_of_ble_eq_true rfl)
  rw [show entryFrame m args 1 = F0 m 0 ((lg_sl [.ref p9] ++ List.replicate (1 - (lg_sl [.ref p9]).length) Slot.unset).toArray) [] from (by rw [ha]; exact lg_entry_eq m [.ref p9] 1)]
  generalize (lg_sl [.ref p9] ++ List.replicate (1 - (lg_sl [.ref p9]).length) Slot.unset).toArray = ls at hl ⊢
  have hl : lv_has ls 1 [(0, .ref p9)] := hl
  have hkf : kf τ [(3, 0)] [] h h := kf_rf
  refine lv_aload_n hx hb d_Po_comeBack_0 rfl (lv_at hl 0 rfl) ?_
  obtain ⟨v1, v2, v4, F_p9, c3⟩ := TI_pow hT T_p9
  refine hm_get (ci := 4) (v := .int v2) (C := R_Po) (T := F_Po) (N := 3) hx hb hts ig_Po hown hK hH F_p9 rfl 1 (by decide) (hts _ mw_236) (fun _ h9 => h9) rfl d_Po_comeBack_1 ?_
  refine lv_if_eq (tgt := 12) hx hb d_Po_comeBack_4 (by decide) (fun hc5 => ?_) (fun hc5 => ?_)
  · skip
    have ic6 : v2.toInt = 0 := congrArg Int32.toInt hc5
    refine lv_aload_n hx hb d_Po_comeBack_12 rfl (lv_at hl 0 rfl) ?_
    refine lv_iconst (v := 0) hx hb d_Po_comeBack_13 (by decide) ?_
    refine hm_put (ci := 4) (v := .int 0) (ty := .boolean) (C := R_Po) (T := F_Po) (N := 3) hx hb hts ig_Po t_Po tk_Po nm_Po hown hK hH hLo F_p9 rfl 1 (by decide) (hts _ mw_236) (fun _ h9 => h9) rfl (by decide +kernel) (by decide) (by decide) (Nat.le_of_ble_eq_true rfl) d_Po_comeBack_14 (fun H7 locs hH z8 hLo => ?_)
    have hz : s.heap.size ≤ H7.size := by rw [z8]; exact hz
    obtain ⟨h9, e10⟩ : ∃ z, z = hu h p9 (.inr (4, [.int v1, .int 0, .int v4])) := ⟨_, rfl⟩
    have hH : hm D vwCl G h9 H7 := by rw [e10]; exact hH
    have F_p9 : h9 p9 = some (.inr (4, [.int v1, .int 0, .int v4])) := by rw [e10]; exact hu_s _ _ _
    have hT : TI τ t n h9 := by rw [e10]; exact TI_put hT T_p9 (by decide) ⟨v1, 0, v4, rfl, zb0⟩
    have hkf : kf τ [(3, 0)] [] h h9 := by rw [e10]; exact kf_put hkf T_p9 List.mem_cons_self
    exact W.vret hx hb hr (fun t9 ht hW => ⟨h9, rfl, ⟨hT, hkf⟩, by rw [ht]; exact hH, by rw [ht]; exact hz⟩) hLo d_Po_comeBack_17
  · skip
    refine lv_aload_n hx hb d_Po_comeBack_7 rfl (lv_at hl 0 rfl) ?_
    refine lv_iconst (v := -1) hx hb d_Po_comeBack_8 (by decide) ?_
    refine hm_put (ci := 4) (v := .int (-1)) (ty := .int) (C := R_Po) (T := F_Po) (N := 3) hx hb hts ig_Po t_Po tk_Po nm_Po hown hK hH hLo F_p9 rfl 0 (by decide) (hts _ mw_237) (fun _ h9 => h9) rfl (by decide +kernel) rfl rfl (Nat.le_of_ble_eq_true rfl) d_Po_comeBack_9 (fun H11 locs hH z12 hLo => ?_)
    have hz : s.heap.size ≤ H11.size := by rw [z12]; exact hz
    obtain ⟨h13, e14⟩ : ∃ z, z = hu h p9 (.inr (4, [.int (-1), .int v2, .int v4])) := ⟨_, rfl⟩
    have hH : hm D vwCl G h13 H11 := by rw [e14]; exact hH
    have F_p9 : h13 p9 = some (.inr (4, [.int (-1), .int v2, .int v4])) := by rw [e14]; exact hu_s _ _ _
    have hT : TI τ t n h13 := by rw [e14]; exact TI_put hT T_p9 (by decide) ⟨(-1), v2, v4, rfl, c3⟩
    have hkf : kf τ [(3, 0)] [] h h13 := by rw [e14]; exact kf_put hkf T_p9 List.mem_cons_self
    refine lv_aload_n hx hb d_Po_comeBack_12 rfl (lv_at hl 0 rfl) ?_
    refine lv_iconst (v := 0) hx hb d_Po_comeBack_13 (by decide) ?_
    refine hm_put (ci := 4) (v := .int 0) (ty := .boolean) (C := R_Po) (T := F_Po) (N := 3) hx hb hts ig_Po t_Po tk_Po nm_Po hown hK hH hLo F_p9 rfl 1 (by decide) (hts _ mw_236) (fun _ h9 => h9) rfl (by decide +kernel) (by decide) (by decide) (Nat.le_of_ble_eq_true rfl) d_Po_comeBack_14 (fun H15 locs hH z16 hLo => ?_)
    have hz : s.heap.size ≤ H15.size := by rw [z16]; exact hz
    obtain ⟨h17, e18⟩ : ∃ z, z = hu h13 p9 (.inr (4, [.int (-1), .int 0, .int v4])) := ⟨_, rfl⟩
    have hH : hm D vwCl G h17 H15 := by rw [e18]; exact hH
    have F_p9 : h17 p9 = some (.inr (4, [.int (-1), .int 0, .int v4])) := by rw [e18]; exact hu_s _ _ _
    have hT : TI τ t n h17 := by rw [e18]; exact TI_put hT T_p9 (by decide) ⟨(-1), 0, v4, rfl, zb0⟩
    have hkf : kf τ [(3, 0)] [] h h17 := by rw [e18]; exact kf_put hkf T_p9 List.mem_cons_self
    exact W.vret hx hb hr (fun t9 ht hW => ⟨h17, rfl, ⟨hT, hkf⟩, by rw [ht]; exact hH, by rw [ht]; exact hz⟩) hLo d_Po_comeBack_17
