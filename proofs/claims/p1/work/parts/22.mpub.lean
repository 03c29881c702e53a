set_option maxRecDepth 100000 in
theorem mw_467 : Cond.fieldLink R_Mo 115 "WriteOnceDiscModel" "side" "I" ∈ lw_g := lw_gin (List.mem_append_right _ (List.mem_of_getElem? (i := 919) rfl)) (by decide +kernel)
set_option maxRecDepth 100000 in
theorem mw_468 : Cond.fieldLink R_Mo 122 "WriteOnceDiscModel" "writes" "I" ∈ lw_g := lw_gin (List.mem_append_right _ (List.mem_of_getElem? (i := 925) rfl)) (by decide +kernel)
theorem d_Mo_replace_0 : decode b_Mo_replace 0 = .ok (.aload_n 0, 1) := by decide +kernel
theorem d_Mo_replace_1 : decode b_Mo_replace 1 = .ok (.iconst 0, 1) := by decide +kernel
theorem d_Mo_replace_2 : decode b_Mo_replace 2 = .ok (.putfield 109, 3) := by decide +kernel
theorem d_Mo_replace_5 : decode b_Mo_replace 5 = .ok (.aload_n 0, 1) := by decide +kernel
theorem d_Mo_replace_6 : decode b_Mo_replace 6 = .ok (.getfield 125, 3) := by decide +kernel
theorem d_Mo_replace_9 : decode b_Mo_replace 9 = .ok (.ifCond .eq 6, 3) := by decide +kernel
theorem d_Mo_replace_15 : decode b_Mo_replace 15 = .ok (.aload_n 0, 1) := by decide +kernel
theorem d_Mo_replace_16 : decode b_Mo_replace 16 = .ok (.iload_n 1, 1) := by decide +kernel
theorem d_Mo_replace_17 : decode b_Mo_replace 17 = .ok (.invokevirtual 139, 3) := by decide +kernel
theorem d_Mo_replace_20 : decode b_Mo_replace 20 = .ok (.ifCond .eq 20, 3) := by decide +kernel
theorem d_Mo_replace_23 : decode b_Mo_replace 23 = .ok (.aload_n 0, 1) := by decide +kernel
theorem d_Mo_replace_24 : decode b_Mo_replace 24 = .ok (.getfield 27, 3) := by decide +kernel
theorem d_Mo_replace_27 : decode b_Mo_replace 27 = .ok (.iload_n 1, 1) := by decide +kernel
theorem d_Mo_replace_28 : decode b_Mo_replace 28 = .ok (.baload, 1) := by decide +kernel
theorem d_Mo_replace_29 : decode b_Mo_replace 29 = .ok (.ifCond .ne 11, 3) := by decide +kernel
theorem d_Mo_replace_40 : decode b_Mo_replace 40 = .ok (.bipush (-2), 2) := by decide +kernel
theorem d_Mo_replace_42 : decode b_Mo_replace 42 = .ok (.ireturn, 1) := by decide +kernel
theorem d_Mo_remove_0 : decode b_Mo_remove 0 = .ok (.aload_n 0, 1) := by decide +kernel
theorem d_Mo_remove_1 : decode b_Mo_remove 1 = .ok (.iconst 0, 1) := by decide +kernel
theorem d_Mo_remove_2 : decode b_Mo_remove 2 = .ok (.putfield 109, 3) := by decide +kernel
theorem d_Mo_remove_5 : decode b_Mo_remove 5 = .ok (.aload_n 0, 1) := by decide +kernel
theorem d_Mo_remove_6 : decode b_Mo_remove 6 = .ok (.getfield 125, 3) := by decide +kernel
theorem d_Mo_remove_9 : decode b_Mo_remove 9 = .ok (.ifCond .eq 6, 3) := by decide +kernel
theorem d_Mo_remove_15 : decode b_Mo_remove 15 = .ok (.aload_n 0, 1) := by decide +kernel
theorem d_Mo_remove_16 : decode b_Mo_remove 16 = .ok (.iload_n 1, 1) := by decide +kernel
theorem d_Mo_remove_17 : decode b_Mo_remove 17 = .ok (.invokevirtual 139, 3) := by decide +kernel
theorem d_Mo_remove_20 : decode b_Mo_remove 20 = .ok (.ifCond .eq 7, 3) := by decide +kernel
theorem d_Mo_remove_23 : decode b_Mo_remove 23 = .ok (.iload_n 1, 1) := by decide +kernel
theorem d_Mo_remove_24 : decode b_Mo_remove 24 = .ok (.ifCond .ne 6, 3) := by decide +kernel
theorem d_Mo_remove_27 : decode b_Mo_remove 27 = .ok (.bipush (-2), 2) := by decide +kernel
theorem d_Mo_remove_29 : decode b_Mo_remove 29 = .ok (.ireturn, 1) := by decide +kernel
theorem d_Mo_rename_0 : decode b_Mo_rename 0 = .ok (.aload_n 0, 1) := by decide +kernel
theorem d_Mo_rename_1 : decode b_Mo_rename 1 = .ok (.iconst 0, 1) := by decide +kernel
theorem d_Mo_rename_2 : decode b_Mo_rename 2 = .ok (.putfield 109, 3) := by decide +kernel
theorem d_Mo_rename_5 : decode b_Mo_rename 5 = .ok (.aload_n 0, 1) := by decide +kernel
theorem d_Mo_rename_6 : decode b_Mo_rename 6 = .ok (.getfield 125, 3) := by decide +kernel
theorem d_Mo_rename_9 : decode b_Mo_rename 9 = .ok (.ifCond .eq 6, 3) := by decide +kernel
theorem d_Mo_rename_15 : decode b_Mo_rename 15 = .ok (.lload_n 3, 1) := by decide +kernel
theorem d_Mo_rename_16 : decode b_Mo_rename 16 = .ok (.invokestatic 135, 3) := by decide +kernel
theorem d_Mo_rename_19 : decode b_Mo_rename 19 = .ok (.lstore 5, 2) := by decide +kernel
theorem d_Mo_rename_21 : decode b_Mo_rename 21 = .ok (.aload_n 0, 1) := by decide +kernel
theorem d_Mo_rename_22 : decode b_Mo_rename 22 = .ok (.iload_n 1, 1) := by decide +kernel
theorem d_Mo_rename_23 : decode b_Mo_rename 23 = .ok (.invokevirtual 139, 3) := by decide +kernel
theorem d_Mo_rename_26 : decode b_Mo_rename 26 = .ok (.ifCond .eq 40, 3) := by decide +kernel
theorem d_Mo_rename_29 : decode b_Mo_rename 29 = .ok (.iload_n 1, 1) := by decide +kernel
theorem d_Mo_rename_30 : decode b_Mo_rename 30 = .ok (.ifCond .eq 36, 3) := by decide +kernel
theorem d_Mo_rename_66 : decode b_Mo_rename 66 = .ok (.bipush (-2), 2) := by decide +kernel
theorem d_Mo_rename_68 : decode b_Mo_rename 68 = .ok (.ireturn, 1) := by decide +kernel
theorem d_Mo_defect_0 : decode b_Mo_defect 0 = .ok (.aload_n 0, 1) := by decide +kernel
theorem d_Mo_defect_1 : decode b_Mo_defect 1 = .ok (.iconst 0, 1) := by decide +kernel
theorem d_Mo_defect_2 : decode b_Mo_defect 2 = .ok (.putfield 109, 3) := by decide +kernel
theorem d_Mo_defect_5 : decode b_Mo_defect 5 = .ok (.iload_n 1, 1) := by decide +kernel
theorem d_Mo_defect_6 : decode b_Mo_defect 6 = .ok (.iconst 0, 1) := by decide +kernel
theorem d_Mo_defect_7 : decode b_Mo_defect 7 = .ok (.aload_n 0, 1) := by decide +kernel
theorem d_Mo_defect_8 : decode b_Mo_defect 8 = .ok (.getfield 99, 3) := by decide +kernel
theorem d_Mo_defect_11 : decode b_Mo_defect 11 = .ok (.iconst 1, 1) := by decide +kernel
theorem d_Mo_defect_12 : decode b_Mo_defect 12 = .ok (.isub, 1) := by decide +kernel
theorem d_Mo_defect_13 : decode b_Mo_defect 13 = .ok (.invokestatic 118, 3) := by decide +kernel
theorem d_Mo_defect_16 : decode b_Mo_defect 16 = .ok (.ifCond .ne 5, 3) := by decide +kernel
theorem d_Mo_defect_21 : decode b_Mo_defect 21 = .ok (.aload_n 0, 1) := by decide +kernel
theorem d_Mo_defect_22 : decode b_Mo_defect 22 = .ok (.getfield 14, 3) := by decide +kernel
theorem d_Mo_defect_25 : decode b_Mo_defect 25 = .ok (.aload_n 0, 1) := by decide +kernel
theorem d_Mo_defect_26 : decode b_Mo_defect 26 = .ok (.getfield 115, 3) := by decide +kernel
theorem d_Mo_defect_29 : decode b_Mo_defect 29 = .ok (.iload_n 1, 1) := by decide +kernel
theorem d_Mo_defect_30 : decode b_Mo_defect 30 = .ok (.iadd, 1) := by decide +kernel
theorem d_Mo_defect_31 : decode b_Mo_defect 31 = .ok (.baload, 1) := by decide +kernel
theorem d_Mo_defect_32 : decode b_Mo_defect 32 = .ok (.ifCond .ne 10, 3) := by decide +kernel
theorem d_Mo_defect_35 : decode b_Mo_defect 35 = .ok (.aload_n 0, 1) := by decide +kernel
theorem d_Mo_defect_36 : decode b_Mo_defect 36 = .ok (.getfield 17, 3) := by decide +kernel
theorem d_Mo_defect_39 : decode b_Mo_defect 39 = .ok (.iload_n 1, 1) := by decide +kernel
theorem d_Mo_defect_40 : decode b_Mo_defect 40 = .ok (.iconst 1, 1) := by decide +kernel
theorem d_Mo_defect_41 : decode b_Mo_defect 41 = .ok (.bastore, 1) := by decide +kernel
theorem d_Mo_defect_42 : decode b_Mo_defect 42 = .ok (.iconst 1, 1) := by decide +kernel
theorem d_Mo_defect_43 : decode b_Mo_defect 43 = .ok (.ireturn, 1) := by decide +kernel
theorem d_Mo_defect_19 : decode b_Mo_defect 19 = .ok (.iconst 0, 1) := by decide +kernel
theorem d_Mo_defect_20 : decode b_Mo_defect 20 = .ok (.ireturn, 1) := by decide +kernel
theorem d_Mo_power_0 : decode b_Mo_power 0 = .ok (.aload_n 0, 1) := by decide +kernel
theorem d_Mo_power_1 : decode b_Mo_power 1 = .ok (.iconst 0, 1) := by decide +kernel
theorem d_Mo_power_2 : decode b_Mo_power 2 = .ok (.putfield 109, 3) := by decide +kernel
theorem d_Mo_power_5 : decode b_Mo_power 5 = .ok (.aload_n 0, 1) := by decide +kernel
theorem d_Mo_power_6 : decode b_Mo_power 6 = .ok (.getfield 125, 3) := by decide +kernel
theorem d_Mo_power_9 : decode b_Mo_power 9 = .ok (.ifCond .ne 16, 3) := by decide +kernel
theorem d_Mo_power_12 : decode b_Mo_power 12 = .ok (.aload_n 0, 1) := by decide +kernel
theorem d_Mo_power_13 : decode b_Mo_power 13 = .ok (.iload_n 1, 1) := by decide +kernel
theorem d_Mo_power_14 : decode b_Mo_power 14 = .ok (.ifCond .ge 7, 3) := by decide +kernel
theorem d_Mo_power_21 : decode b_Mo_power 21 = .ok (.iload_n 1, 1) := by decide +kernel
theorem d_Mo_power_22 : decode b_Mo_power 22 = .ok (.putfield 103, 3) := by decide +kernel
theorem d_Mo_power_25 : decode b_Mo_power 25 = .ok (.return_, 1) := by decide +kernel
theorem d_Mo_power_17 : decode b_Mo_power 17 = .ok (.iconst (-1), 1) := by decide +kernel
theorem d_Mo_power_18 : decode b_Mo_power 18 = .ok (.goto 4, 3) := by decide +kernel
theorem d_Mo_state_0 : decode b_Mo_state 0 = .ok (.aload_n 0, 1) := by decide +kernel
theorem d_Mo_state_1 : decode b_Mo_state 1 = .ok (.iconst 0, 1) := by decide +kernel
theorem d_Mo_state_2 : decode b_Mo_state 2 = .ok (.putfield 109, 3) := by decide +kernel
theorem d_Mo_state_5 : decode b_Mo_state 5 = .ok (.iload_n 1, 1) := by decide +kernel
theorem d_Mo_state_6 : decode b_Mo_state 6 = .ok (.iconst 0, 1) := by decide +kernel
theorem d_Mo_state_7 : decode b_Mo_state 7 = .ok (.aload_n 0, 1) := by decide +kernel
theorem d_Mo_state_8 : decode b_Mo_state 8 = .ok (.getfield 99, 3) := by decide +kernel
theorem d_Mo_state_11 : decode b_Mo_state 11 = .ok (.iconst 1, 1) := by decide +kernel
theorem d_Mo_state_12 : decode b_Mo_state 12 = .ok (.isub, 1) := by decide +kernel
theorem d_Mo_state_13 : decode b_Mo_state 13 = .ok (.invokestatic 118, 3) := by decide +kernel
theorem d_Mo_state_16 : decode b_Mo_state 16 = .ok (.ifCond .eq 17, 3) := by decide +kernel
theorem d_Mo_state_19 : decode b_Mo_state 19 = .ok (.aload_n 0, 1) := by decide +kernel
theorem d_Mo_state_20 : decode b_Mo_state 20 = .ok (.getfield 14, 3) := by decide +kernel
theorem d_Mo_state_23 : decode b_Mo_state 23 = .ok (.aload_n 0, 1) := by decide +kernel
theorem d_Mo_state_24 : decode b_Mo_state 24 = .ok (.getfield 115, 3) := by decide +kernel
theorem d_Mo_state_27 : decode b_Mo_state 27 = .ok (.iload_n 1, 1) := by decide +kernel
theorem d_Mo_state_28 : decode b_Mo_state 28 = .ok (.iadd, 1) := by decide +kernel
theorem d_Mo_state_29 : decode b_Mo_state 29 = .ok (.baload, 1) := by decide +kernel
theorem d_Mo_state_30 : decode b_Mo_state 30 = .ok (.goto 4, 3) := by decide +kernel
theorem d_Mo_state_34 : decode b_Mo_state 34 = .ok (.ireturn, 1) := by decide +kernel
theorem d_Mo_state_33 : decode b_Mo_state 33 = .ok (.iconst (-1), 1) := by decide +kernel
theorem d_Mo_writes_0 : decode b_Mo_writes 0 = .ok (.aload_n 0, 1) := by decide +kernel
theorem d_Mo_writes_1 : decode b_Mo_writes 1 = .ok (.iconst 0, 1) := by decide +kernel
theorem d_Mo_writes_2 : decode b_Mo_writes 2 = .ok (.putfield 109, 3) := by decide +kernel
theorem d_Mo_writes_5 : decode b_Mo_writes 5 = .ok (.aload_n 0, 1) := by decide +kernel
theorem d_Mo_writes_6 : decode b_Mo_writes 6 = .ok (.getfield 122, 3) := by decide +kernel
theorem d_Mo_writes_9 : decode b_Mo_writes 9 = .ok (.ireturn, 1) := by decide +kernel
set_option maxHeartbeats 4000000 in
set_option maxRecDepth 100000 in
theorem c_m_replace (l : Launch) (D : va_G) (t : Nat → ClassId) (G : hG) (ak av : Nat → Nat) (h : hM) (mo n : Nat) (nu sz sd : Int32) (hM : FrM t h mo n) : Met l y_Mo_replace (.code y_Mo_replace b_Mo_replace 4 (some .int) :: lw_g) { frames := 1, cells := 0, slots := 0, locals := 21 } (hP (kE D t G ak av) D vwCl G h [.ref mo, .int nu, .int sz, .int sd]) (hQi D vwCl G (fun r h' => r = -2)) 0 0 G.P := by
  refine Met.ofW (cc := b_Mo_replace) (maxL := 4) (ret := (some .int)) (by decide) rfl ?_
  intro p e s m args below meth c s₁ Bd hml hv
  obtain ⟨ha, hE, hH⟩ := hv
  have hx := Bd.exec
  have hb := Bd.bytes
  have hr := Bd.returns
  have hts : ∀ w ∈ lw_g, w.before args s = true := fun w hw => atoms_spec (ws := (.code y_Mo_replace b_Mo_replace 4 (some .int) :: lw_g)) Bd.pre w (List.mem_cons_of_mem _ hw)
  have hown : s.vm.findClass R_Mo = some m.cls := findClass_of_methodNamed Bd.named
  have hlocks := Bd.notSynchronized
  have hK := hE.1
  have hH0 := hH
  have hLo : hLc G.P [] := hLc_nil
  have hz : s.heap.size ≤ s.heap.size := Nat.le_refl _
  have hkp : kp [] h h := kp_rf
  have hl := lv_entry [.ref mo, .int nu, .int sz, .int sd] (n := 4) (Nat.le_of_ble_eq_true rfl)
  rw [show entryFrame m args 4 = F0 m 0 ((lg_sl [.ref mo, .int nu, .int sz, .int sd] ++ List.replicate (4 - (lg_sl [.ref mo, .int nu, .int sz, .int sd]).length) Slot.unset).toArray) [] from (by rw [ha]; exact lg_entry_eq m [.ref mo, .int nu, .int sz, .int sd] 4)]
  generalize (lg_sl [.ref mo, .int nu, .int sz, .int sd] ++ List.replicate (4 - (lg_sl [.ref mo, .int nu, .int sz, .int sd]).length) Slot.unset).toArray = ls at hl ⊢
  have hl : lv_has ls 4 [(0, .ref mo), (1, .int nu), (2, .int sz), (3, .int sd)] := hl
  refine FrM_elim hM ?_
  intro aBy aSt aDe aPa aIt aId aPr aNa aSi aSe aIw aEx aOl aPl aTa aAt aLo aS1 aS2 aS3 aS4 aS5 aS6 aO1 aO2 aO3 aO4 aO5 gBy gSt gDe gPa gIt gId gPr gSi gSe gIw gEx gOl gPl gTa gAt gLo gNa f_m f_aBy f_aSt f_aDe f_aPa f_aIt f_aId f_aPr f_aNa f_aSi f_aSe f_aIw f_aEx f_aOl f_aPl f_aTa f_aAt f_aLo zBy zSt zDe zIt zId zPr zSi zSe zEx ne_aIt_aId ne_aIt_aPr ne_aIt_aSi ne_aIt_aSe ne_aIt_aEx ne_aId_aPr ne_aId_aSi ne_aId_aSe ne_aId_aEx ne_aPr_aSi ne_aPr_aSe ne_aPr_aEx ne_aSi_aSe ne_aSi_aEx ne_aSe_aEx ne_aId_aAt ne_aId_aLo ne_aAt_aLo ne_aId_aOl ne_aIt_aIw ne_aId_aIw ne_aPr_aIw ne_aSi_aIw ne_aSe_aIw ne_aIw_aEx ne_aEx_aOl ne_aOl_aAt ne_aOl_aLo hn40 hn
  refine lv_aload_n hx hb d_Mo_replace_0 rfl (lv_at hl 0 rfl) ?_
  refine lv_iconst (v := 0) hx hb d_Mo_replace_1 (by decide) ?_
  refine hm_put (ci := 9) (v := .int 0) (ty := .int) (C := R_Mo) (T := F_Mo) (N := 41) hx hb hts ig_Mo t_Mo tk_Mo nm_Mo hown hK hH hLo f_m rfl 0 (by decide) (hts _ mw_432) (fun _ h9 => h9) rfl (by decide +kernel) rfl rfl (Nat.le_of_ble_eq_true rfl) d_Mo_replace_2 (fun H1 locs hH z2 hLo => ?_)
  have hz : s.heap.size ≤ H1.size := by rw [z2]; exact hz
  obtain ⟨h3, e4⟩ : ∃ z, z = hu h mo (.inr (9, [.int 0, .int (nI n), .int 0, .ref aBy, .ref aSt, .ref aDe, .int 0, .int (-1), .int 0, .ref aPa, .int 1, .ref aIt, .ref aId, .ref aPr, .ref aNa, .ref aSi, .ref aSe, .ref aIw, .ref aEx, .ref aOl, .int 0, .ref aPl, .int 0, .int 0, .ref aTa, .ref aAt, .ref aLo, .int 0, .int 0, .ref aS1, .ref aS2, .ref aS3, .ref aS4, .ref aS5, .ref aS6, .int 0, .ref aO1, .ref aO2, .ref aO3, .ref aO4, .ref aO5])) := ⟨_, rfl⟩
  have hH : hm D vwCl G h3 H1 := by rw [e4]; exact hH
  have f_aIt : h3 aIt = some (.inl ((t 1), 700, .inl gIt)) := by rw [e4, hu_n (h_neA f_aIt f_m)]; exact f_aIt
  have f_aId : h3 aId = some (.inl ((t 1), 700, .inl gId)) := by rw [e4, hu_n (h_neA f_aId f_m)]; exact f_aId
  have f_m : h3 mo = some (.inr (9, [.int 0, .int (nI n), .int 0, .ref aBy, .ref aSt, .ref aDe, .int 0, .int (-1), .int 0, .ref aPa, .int 1, .ref aIt, .ref aId, .ref aPr, .ref aNa, .ref aSi, .ref aSe, .ref aIw, .ref aEx, .ref aOl, .int 0, .ref aPl, .int 0, .int 0, .ref aTa, .ref aAt, .ref aLo, .int 0, .int 0, .ref aS1, .ref aS2, .ref aS3, .ref aS4, .ref aS5, .ref aS6, .int 0, .ref aO1, .ref aO2, .ref aO3, .ref aO4, .ref aO5])) := by rw [e4]; exact hu_s _ _ _
  refine lv_aload_n hx hb d_Mo_replace_5 rfl (lv_at hl 0 rfl) ?_
  refine hm_get (ci := 9) (v := .int 0) (C := R_Mo) (T := F_Mo) (N := 41) hx hb hts ig_Mo hown hK hH f_m rfl 6 (by decide) (hts _ mw_440) (fun _ h9 => h9) rfl d_Mo_replace_6 ?_
  refine lv_if_eq (tgt := 15) hx hb d_Mo_replace_9 (by decide) (fun hc5 => ?_) (fun hc5 => absurd rfl hc5)
  refine lv_aload_n hx hb d_Mo_replace_15 rfl (lv_at hl 0 rfl) ?_
  refine lv_iload_n hx hb d_Mo_replace_16 rfl (lv_at hl 1 rfl) ?_
  by_cases hin : nu = 0
  · skip
    refine hm_calli (va_runV (As := [.int nu]) (b := mo) (rest := []) ⟨hx, hb, hml, hown, hts⟩ (c_m_isNode l D t G ak av h3 mo n aBy aSt aDe aPa aIt aId aPr aNa aSi aSe aIw aEx aOl aPl aTa aAt aLo aS1 aS2 aS3 aS4 aS5 aS6 aO1 aO2 aO3 aO4 aO5 gIt nu f_m f_aIt zIt) ⟨cw9B 1 hts mw_444 mw_445 mw_428 rfl rfl (by decide +kernel) ⟨Nat.le_of_ble_eq_true rfl, Nat.le_of_ble_eq_true rfl⟩, hts _ mw_446, hts _ mw_447⟩ (hP_V (q := (R_Mo, F_Mo, 41)) kE_ok hE hK hH f_m rfl) rfl rfl hl.1 rfl (lv_room (Nat.le_of_ble_eq_true rfl)) d_Mo_replace_17 ⟨Nat.le_of_ble_eq_true rfl, Nat.le_of_ble_eq_true rfl⟩) hLo (fun r6 h7 H8 locs hp10 hH z9 hLo => ?_)
    have hz : s.heap.size ≤ H8.size := Nat.le_trans hz z9
    obtain ⟨hr9, rfl⟩ := hp10
    rw [if_pos hin] at hr9
    subst hr9
    have hink := hin
    subst hin
    refine lv_if_eq (tgt := 40) hx hb d_Mo_replace_20 (by decide) (fun hc11 => absurd hc11 (by decide)) (fun hc11 => ?_)
    refine lv_aload_n hx hb d_Mo_replace_23 rfl (lv_at hl 0 rfl) ?_
    refine hm_get (ci := 9) (v := .ref aId) (C := R_Mo) (T := F_Mo) (N := 41) hx hb hts ig_Mo hown hK hH f_m rfl 12 (by decide) (hts _ mw_392) (fun _ h9 => h9) rfl d_Mo_replace_24 ?_
    refine lv_iload_n hx hb d_Mo_replace_27 rfl (lv_at hl 1 rfl) ?_
    refine hj_zald hx hb hK hH 1 f_aId rfl 0 (by decide) (by decide) (by decide) d_Mo_replace_28 ?_
    refine lv_if_ne (tgt := 40) hx hb d_Mo_replace_29 (by decide) (fun hc12 => ?_) (fun hc12 => absurd hc12 (by rw [zId]; decide))
    refine lv_bipush (v := -2) hx hb d_Mo_replace_40 (by decide) ?_
    exact W.iret (v := (-2)) hx hb hr (fun t9 ht hW => ⟨(-2), h3, rfl, rfl, by rw [ht]; exact hH, by rw [ht]; exact hz⟩) hLo d_Mo_replace_42
  · skip
    refine hm_calli (va_runV (As := [.int nu]) (b := mo) (rest := []) ⟨hx, hb, hml, hown, hts⟩ (c_m_isNode l D t G ak av h3 mo n aBy aSt aDe aPa aIt aId aPr aNa aSi aSe aIw aEx aOl aPl aTa aAt aLo aS1 aS2 aS3 aS4 aS5 aS6 aO1 aO2 aO3 aO4 aO5 gIt nu f_m f_aIt zIt) ⟨cw9B 1 hts mw_444 mw_445 mw_428 rfl rfl (by decide +kernel) ⟨Nat.le_of_ble_eq_true rfl, Nat.le_of_ble_eq_true rfl⟩, hts _ mw_446, hts _ mw_447⟩ (hP_V (q := (R_Mo, F_Mo, 41)) kE_ok hE hK hH f_m rfl) rfl rfl hl.1 rfl (lv_room (Nat.le_of_ble_eq_true rfl)) d_Mo_replace_17 ⟨Nat.le_of_ble_eq_true rfl, Nat.le_of_ble_eq_true rfl⟩) hLo (fun r13 h14 H15 locs hp17 hH z16 hLo => ?_)
    have hz : s.heap.size ≤ H15.size := Nat.le_trans hz z16
    obtain ⟨hr9, rfl⟩ := hp17
    rw [if_neg hin] at hr9
    subst hr9
    refine lv_if_eq (tgt := 40) hx hb d_Mo_replace_20 (by decide) (fun hc18 => ?_) (fun hc18 => absurd rfl hc18)
    refine lv_bipush (v := -2) hx hb d_Mo_replace_40 (by decide) ?_
    exact W.iret (v := (-2)) hx hb hr (fun t9 ht hW => ⟨(-2), h3, rfl, rfl, by rw [ht]; exact hH, by rw [ht]; exact hz⟩) hLo d_Mo_replace_42

set_option maxHeartbeats 4000000 in
set_option maxRecDepth 100000 in
theorem c_m_remove (l : Launch) (D : va_G) (t : Nat → ClassId) (G : hG) (ak av : Nat → Nat) (h : hM) (mo n : Nat) (nu : Int32) (hM : FrM t h mo n) : Met l y_Mo_remove (.code y_Mo_remove b_Mo_remove 3 (some .int) :: lw_g) { frames := 1, cells := 0, slots := 0, locals := 21 } (hP (kE D t G ak av) D vwCl G h [.ref mo, .int nu]) (hQi D vwCl G (fun r h' => r = -2)) 0 0 G.P := by
  refine Met.ofW (cc := b_Mo_remove) (maxL := 3) (ret := (some .int)) (by decide) rfl ?_
  intro p e s m args below meth c s₁ Bd hml hv
  obtain ⟨ha, hE, hH⟩ := hv
  have hx := Bd.exec
  have hb := Bd.bytes
  have hr := Bd.returns
  have hts : ∀ w ∈ lw_g, w.before args s = true := fun w hw => atoms_spec (ws := (.code y_Mo_remove b_Mo_remove 3 (some .int) :: lw_g)) Bd.pre w (List.mem_cons_of_mem _ hw)
  have hown : s.vm.findClass R_Mo = some m.cls := findClass_of_methodNamed Bd.named
  have hlocks := Bd.notSynchronized
  have hK := hE.1
  have hH0 := hH
  have hLo : hLc G.P [] := hLc_nil
  have hz : s.heap.size ≤ s.heap.size := Nat.le_refl _
  have hkp : kp [] h h := kp_rf
  have hl := lv_entry [.ref mo, .int nu] (n := 3) (Nat.le_of_ble_eq_true rfl)
  rw [show entryFrame m args 3 = F0 m 0 ((lg_sl [.ref mo, .int nu] ++ List.replicate (3 - (lg_sl [.ref mo, .int nu]).length) Slot.unset).toArray) [] from (by rw [ha]; exact lg_entry_eq m [.ref mo, .int nu] 3)]
  generalize (lg_sl [.ref mo, .int nu] ++ List.replicate (3 - (lg_sl [.ref mo, .int nu]).length) Slot.unset).toArray = ls at hl ⊢
  have hl : lv_has ls 3 [(0, .ref mo), (1, .int nu)] := hl
  refine FrM_elim hM ?_
  intro aBy aSt aDe aPa aIt aId aPr aNa aSi aSe aIw aEx aOl aPl aTa aAt aLo aS1 aS2 aS3 aS4 aS5 aS6 aO1 aO2 aO3 aO4 aO5 gBy gSt gDe gPa gIt gId gPr gSi gSe gIw gEx gOl gPl gTa gAt gLo gNa f_m f_aBy f_aSt f_aDe f_aPa f_aIt f_aId f_aPr f_aNa f_aSi f_aSe f_aIw f_aEx f_aOl f_aPl f_aTa f_aAt f_aLo zBy zSt zDe zIt zId zPr zSi zSe zEx ne_aIt_aId ne_aIt_aPr ne_aIt_aSi ne_aIt_aSe ne_aIt_aEx ne_aId_aPr ne_aId_aSi ne_aId_aSe ne_aId_aEx ne_aPr_aSi ne_aPr_aSe ne_aPr_aEx ne_aSi_aSe ne_aSi_aEx ne_aSe_aEx ne_aId_aAt ne_aId_aLo ne_aAt_aLo ne_aId_aOl ne_aIt_aIw ne_aId_aIw ne_aPr_aIw ne_aSi_aIw ne_aSe_aIw ne_aIw_aEx ne_aEx_aOl ne_aOl_aAt ne_aOl_aLo hn40 hn
  refine lv_aload_n hx hb d_Mo_remove_0 rfl (lv_at hl 0 rfl) ?_
  refine lv_iconst (v := 0) hx hb d_Mo_remove_1 (by decide) ?_
  refine hm_put (ci := 9) (v := .int 0) (ty := .int) (C := R_Mo) (T := F_Mo) (N := 41) hx hb hts ig_Mo t_Mo tk_Mo nm_Mo hown hK hH hLo f_m rfl 0 (by decide) (hts _ mw_432) (fun _ h9 => h9) rfl (by decide +kernel) rfl rfl (Nat.le_of_ble_eq_true rfl) d_Mo_remove_2 (fun H1 locs hH z2 hLo => ?_)
  have hz : s.heap.size ≤ H1.size := by rw [z2]; exact hz
  obtain ⟨h3, e4⟩ : ∃ z, z = hu h mo (.inr (9, [.int 0, .int (nI n), .int 0, .ref aBy, .ref aSt, .ref aDe, .int 0, .int (-1), .int 0, .ref aPa, .int 1, .ref aIt, .ref aId, .ref aPr, .ref aNa, .ref aSi, .ref aSe, .ref aIw, .ref aEx, .ref aOl, .int 0, .ref aPl, .int 0, .int 0, .ref aTa, .ref aAt, .ref aLo, .int 0, .int 0, .ref aS1, .ref aS2, .ref aS3, .ref aS4, .ref aS5, .ref aS6, .int 0, .ref aO1, .ref aO2, .ref aO3, .ref aO4, .ref aO5])) := ⟨_, rfl⟩
  have hH : hm D vwCl G h3 H1 := by rw [e4]; exact hH
  have f_aIt : h3 aIt = some (.inl ((t 1), 700, .inl gIt)) := by rw [e4, hu_n (h_neA f_aIt f_m)]; exact f_aIt
  have f_m : h3 mo = some (.inr (9, [.int 0, .int (nI n), .int 0, .ref aBy, .ref aSt, .ref aDe, .int 0, .int (-1), .int 0, .ref aPa, .int 1, .ref aIt, .ref aId, .ref aPr, .ref aNa, .ref aSi, .ref aSe, .ref aIw, .ref aEx, .ref aOl, .int 0, .ref aPl, .int 0, .int 0, .ref aTa, .ref aAt, .ref aLo, .int 0, .int 0, .ref aS1, .ref aS2, .ref aS3, .ref aS4, .ref aS5, .ref aS6, .int 0, .ref aO1, .ref aO2, .ref aO3, .ref aO4, .ref aO5])) := by rw [e4]; exact hu_s _ _ _
  refine lv_aload_n hx hb d_Mo_remove_5 rfl (lv_at hl 0 rfl) ?_
  refine hm_get (ci := 9) (v := .int 0) (C := R_Mo) (T := F_Mo) (N := 41) hx hb hts ig_Mo hown hK hH f_m rfl 6 (by decide) (hts _ mw_440) (fun _ h9 => h9) rfl d_Mo_remove_6 ?_
  refine lv_if_eq (tgt := 15) hx hb d_Mo_remove_9 (by decide) (fun hc5 => ?_) (fun hc5 => absurd rfl hc5)
  refine lv_aload_n hx hb d_Mo_remove_15 rfl (lv_at hl 0 rfl) ?_
  refine lv_iload_n hx hb d_Mo_remove_16 rfl (lv_at hl 1 rfl) ?_
  by_cases hin : nu = 0
  · skip
    refine hm_calli (va_runV (As := [.int nu]) (b := mo) (rest := []) ⟨hx, hb, hml, hown, hts⟩ (c_m_isNode l D t G ak av h3 mo n aBy aSt aDe aPa aIt aId aPr aNa aSi aSe aIw aEx aOl aPl aTa aAt aLo aS1 aS2 aS3 aS4 aS5 aS6 aO1 aO2 aO3 aO4 aO5 gIt nu f_m f_aIt zIt) ⟨cw9B 1 hts mw_444 mw_445 mw_428 rfl rfl (by decide +kernel) ⟨Nat.le_of_ble_eq_true rfl, Nat.le_of_ble_eq_true rfl⟩, hts _ mw_446, hts _ mw_447⟩ (hP_V (q := (R_Mo, F_Mo, 41)) kE_ok hE hK hH f_m rfl) rfl rfl hl.1 rfl (lv_room (Nat.le_of_ble_eq_true rfl)) d_Mo_remove_17 ⟨Nat.le_of_ble_eq_true rfl, Nat.le_of_ble_eq_true rfl⟩) hLo (fun r6 h7 H8 locs hp10 hH z9 hLo => ?_)
    have hz : s.heap.size ≤ H8.size := Nat.le_trans hz z9
    obtain ⟨hr9, rfl⟩ := hp10
    rw [if_pos hin] at hr9
    subst hr9
    have hink := hin
    subst hin
    refine lv_if_eq (tgt := 27) hx hb d_Mo_remove_20 (by decide) (fun hc11 => absurd hc11 (by decide)) (fun hc11 => ?_)
    refine lv_iload_n hx hb d_Mo_remove_23 rfl (lv_at hl 1 rfl) ?_
    refine lv_if_ne (tgt := 30) hx hb d_Mo_remove_24 (by decide) (fun hc12 => absurd rfl hc12) (fun hc12 => ?_)
    refine lv_bipush (v := -2) hx hb d_Mo_remove_27 (by decide) ?_
    exact W.iret (v := (-2)) hx hb hr (fun t9 ht hW => ⟨(-2), h3, rfl, rfl, by rw [ht]; exact hH, by rw [ht]; exact hz⟩) hLo d_Mo_remove_29
  · skip
    refine hm_calli (va_runV (As := [.int nu]) (b := mo) (rest := []) ⟨hx, hb, hml, hown, hts⟩ (c_m_isNode l D t G ak av h3 mo n aBy aSt aDe aPa aIt aId aPr aNa aSi aSe aIw aEx aOl aPl aTa aAt aLo aS1 aS2 aS3 aS4 aS5 aS6 aO1 aO2 aO3 aO4 aO5 gIt nu f_m f_aIt zIt) ⟨cw9B 1 hts mw_444 mw_445 mw_428 rfl rfl (by decide +kernel) ⟨Nat.le_of_ble_eq_true rfl, Nat.le_of_ble_eq_true rfl⟩, hts _ mw_446, hts _ mw_447⟩ (hP_V (q := (R_Mo, F_Mo, 41)) kE_ok hE hK hH f_m rfl) rfl rfl hl.1 rfl (lv_room (Nat.le_of_ble_eq_true rfl)) d_Mo_remove_17 ⟨Nat.le_of_ble_eq_true rfl, Nat.le_of_ble_eq_true rfl⟩) hLo (fun r13 h14 H15 locs hp17 hH z16 hLo => ?_)
    have hz : s.heap.size ≤ H15.size := Nat.le_trans hz z16
    obtain ⟨hr9, rfl⟩ := hp17
    rw [if_neg hin] at hr9
    subst hr9
    refine lv_if_eq (tgt := 27) hx hb d_Mo_remove_20 (by decide) (fun hc18 => ?_) (fun hc18 => absurd rfl hc18)
    refine lv_bipush (v := -2) hx hb d_Mo_remove_27 (by decide) ?_
    exact W.iret (v := (-2)) hx hb hr (fun t9 ht hW => ⟨(-2), h3, rfl, rfl, by rw [ht]; exact hH, by rw [ht]; exact hz⟩) hLo d_Mo_remove_29

set_option maxHeartbeats 4000000 in
set_option maxRecDepth 100000 in
theorem c_m_rename (l : Launch) (D : va_G) (t : Nat → ClassId) (G : hG) (ak av : Nat → Nat) (h : hM) (mo n : Nat) (nu nu2 : Int32) (wo : Int64) (hM : FrM t h mo n) : Met l y_Mo_rename (.code y_Mo_rename b_Mo_rename 9 (some .int) :: lw_g) { frames := 2, cells := 0, slots := 0, locals := 45 } (hP (kE D t G ak av) D vwCl G h [.ref mo, .int nu, .int nu2, .long wo]) (hQi D vwCl G (fun r h' => r = -2)) 0 0 G.P := by
  refine Met.ofW (cc := b_Mo_rename) (maxL := 9) (ret := (some .int)) (by decide) rfl ?_
  intro p e s m args below meth c s₁ Bd hml hv
  obtain ⟨ha, hE, hH⟩ := hv
  have hx := Bd.exec
  have hb := Bd.bytes
  have hr := Bd.returns
  have hts : ∀ w ∈ lw_g, w.before args s = true := fun w hw => atoms_spec (ws := (.code y_Mo_rename b_Mo_rename 9 (some .int) :: lw_g)) Bd.pre w (List.mem_cons_of_mem _ hw)
  have hown : s.vm.findClass R_Mo = some m.cls := findClass_of_methodNamed Bd.named
  have hlocks := Bd.notSynchronized
  have hK := hE.1
  have hH0 := hH
  have hLo : hLc G.P [] := hLc_nil
  have hz : s.heap.size ≤ s.heap.size := Nat.le_refl _
  have hkp : kp [] h h := kp_rf
  have hl := lv_entry [.ref mo, .int nu, .int nu2, .long wo] (n := 9) (Nat.le_of_ble_eq_true rfl)
  rw [show entryFrame m args 9 = F0 m 0 ((lg_sl [.ref mo, .int nu, .int nu2, .long wo] ++ List.replicate (9 - (lg_sl [.ref mo, .int nu, .int nu2, .long wo]).length) Slot.unset).toArray) [] from (by rw [ha]; exact lg_entry_eq m [.ref mo, .int nu, .int nu2, .long wo] 9)]
  generalize (lg_sl [.ref mo, .int nu, .int nu2, .long wo] ++ List.replicate (9 - (lg_sl [.ref mo, .int nu, .int nu2, .long wo]).length) Slot.unset).toArray = ls at hl ⊢
  have hl : lv_has ls 9 [(0, .ref mo), (1, .int nu), (2, .int nu2), (3, .long wo)] := hl
  refine FrM_elim hM ?_
  intro aBy aSt aDe aPa aIt aId aPr aNa aSi aSe aIw aEx aOl aPl aTa aAt aLo aS1 aS2 aS3 aS4 aS5 aS6 aO1 aO2 aO3 aO4 aO5 gBy gSt gDe gPa gIt gId gPr gSi gSe gIw gEx gOl gPl gTa gAt gLo gNa f_m f_aBy f_aSt f_aDe f_aPa f_aIt f_aId f_aPr f_aNa f_aSi f_aSe f_aIw f_aEx f_aOl f_aPl f_aTa f_aAt f_aLo zBy zSt zDe zIt zId zPr zSi zSe zEx ne_aIt_aId ne_aIt_aPr ne_aIt_aSi ne_aIt_aSe ne_aIt_aEx ne_aId_aPr ne_aId_aSi ne_aId_aSe ne_aId_aEx ne_aPr_aSi ne_aPr_aSe ne_aPr_aEx ne_aSi_aSe ne_aSi_aEx ne_aSe_aEx ne_aId_aAt ne_aId_aLo ne_aAt_aLo ne_aId_aOl ne_aIt_aIw ne_aId_aIw ne_aPr_aIw ne_aSi_aIw ne_aSe_aIw ne_aIw_aEx ne_aEx_aOl ne_aOl_aAt ne_aOl_aLo hn40 hn
  refine lv_aload_n hx hb d_Mo_rename_0 rfl (lv_at hl 0 rfl) ?_
  refine lv_iconst (v := 0) hx hb d_Mo_rename_1 (by decide) ?_
  refine hm_put (ci := 9) (v := .int 0) (ty := .int) (C := R_Mo) (T := F_Mo) (N := 41) hx hb hts ig_Mo t_Mo tk_Mo nm_Mo hown hK hH hLo f_m rfl 0 (by decide) (hts _ mw_432) (fun _ h9 => h9) rfl (by decide +kernel) rfl rfl (Nat.le_of_ble_eq_true rfl) d_Mo_rename_2 (fun H1 locs hH z2 hLo => ?_)
  have hz : s.heap.size ≤ H1.size := by rw [z2]; exact hz
  obtain ⟨h3, e4⟩ : ∃ z, z = hu h mo (.inr (9, [.int 0, .int (nI n), .int 0, .ref aBy, .ref aSt, .ref aDe, .int 0, .int (-1), .int 0, .ref aPa, .int 1, .ref aIt, .ref aId, .ref aPr, .ref aNa, .ref aSi, .ref aSe, .ref aIw, .ref aEx, .ref aOl, .int 0, .ref aPl, .int 0, .int 0, .ref aTa, .ref aAt, .ref aLo, .int 0, .int 0, .ref aS1, .ref aS2, .ref aS3, .ref aS4, .ref aS5, .ref aS6, .int 0, .ref aO1, .ref aO2, .ref aO3, .ref aO4, .ref aO5])) := ⟨_, rfl⟩
  have hH : hm D vwCl G h3 H1 := by rw [e4]; exact hH
  have f_aIt : h3 aIt = some (.inl ((t 1), 700, .inl gIt)) := by rw [e4, hu_n (h_neA f_aIt f_m)]; exact f_aIt
  have f_m : h3 mo = some (.inr (9, [.int 0, .int (nI n), .int 0, .ref aBy, .ref aSt, .ref aDe, .int 0, .int (-1), .int 0, .ref aPa, .int 1, .ref aIt, .ref aId, .ref aPr, .ref aNa, .ref aSi, .ref aSe, .ref aIw, .ref aEx, .ref aOl, .int 0, .ref aPl, .int 0, .int 0, .ref aTa, .ref aAt, .ref aLo, .int 0, .int 0, .ref aS1, .ref aS2, .ref aS3, .ref aS4, .ref aS5, .ref aS6, .int 0, .ref aO1, .ref aO2, .ref aO3, .ref aO4, .ref aO5])) := by rw [e4]; exact hu_s _ _ _
  refine lv_aload_n hx hb d_Mo_rename_5 rfl (lv_at hl 0 rfl) ?_
  refine hm_get (ci := 9) (v := .int 0) (C := R_Mo) (T := F_Mo) (N := 41) hx hb hts ig_Mo hown hK hH f_m rfl 6 (by decide) (hts _ mw_440) (fun _ h9 => h9) rfl d_Mo_rename_6 ?_
  refine lv_if_eq (tgt := 15) hx hb d_Mo_rename_9 (by decide) (fun hc5 => ?_) (fun hc5 => absurd rfl hc5)
  refine lv_lload_n hx hb d_Mo_rename_15 rfl (lv_at hl 3 rfl) ?_
  refine hm_calll (va_runS (As := [.long wo]) (rest := []) ⟨hx, hb, hml, hown, hts⟩ (c_m_told l D t G ak av h3 wo) ⟨cw9B 1 hts mw_441 mw_442 mw_428 rfl rfl (by decide +kernel) ⟨Nat.le_of_ble_eq_true rfl, Nat.le_of_ble_eq_true rfl⟩, hts _ mw_443⟩ (hP_S kE_ok hE hH) rfl rfl hl.1 rfl (lv_room (Nat.le_of_ble_eq_true rfl)) d_Mo_rename_16 ⟨Nat.le_of_ble_eq_true rfl, Nat.le_of_ble_eq_true rfl⟩) hLo (fun r6 h7 H8 locs hp10 hH z9 hLo => ?_)
  have hz : s.heap.size ≤ H8.size := Nat.le_trans hz z9
  obtain ⟨rfl, rfl⟩ := hp10
  refine lv_lstore (lv' := [(5, .long (tlV wo)), (0, .ref mo), (1, .int nu), (2, .int nu2), (3, .long wo)]) hx hb d_Mo_rename_19 hl (by decide) rfl (fun ls hl => ?_)
  refine lv_aload_n hx hb d_Mo_rename_21 rfl (lv_at hl 1 rfl) ?_
  refine lv_iload_n hx hb d_Mo_rename_22 rfl (lv_at hl 2 rfl) ?_
  by_cases hin : nu = 0
  · skip
    refine hm_calli (va_runV (As := [.int nu]) (b := mo) (rest := []) ⟨hx, hb, hml, hown, hts⟩ (c_m_isNode l D t G ak av h3 mo n aBy aSt aDe aPa aIt aId aPr aNa aSi aSe aIw aEx aOl aPl aTa aAt aLo aS1 aS2 aS3 aS4 aS5 aS6 aO1 aO2 aO3 aO4 aO5 gIt nu f_m f_aIt zIt) ⟨cw9B 1 hts mw_444 mw_445 mw_428 rfl rfl (by decide +kernel) ⟨Nat.le_of_ble_eq_true rfl, Nat.le_of_ble_eq_true rfl⟩, hts _ mw_446, hts _ mw_447⟩ (hP_V (q := (R_Mo, F_Mo, 41)) kE_ok hE hK hH f_m rfl) rfl rfl hl.1 rfl (lv_room (Nat.le_of_ble_eq_true rfl)) d_Mo_rename_23 ⟨Nat.le_of_ble_eq_true rfl, Nat.le_of_ble_eq_true rfl⟩) hLo (fun r11 h12 H13 locs hp15 hH z14 hLo => ?_)
    have hz : s.heap.size ≤ H13.size := Nat.le_trans hz z14
    obtain ⟨hr9, rfl⟩ := hp15
    rw [if_pos hin] at hr9
    subst hr9
    have hink := hin
    subst hin
    refine lv_if_eq (tgt := 66) hx hb d_Mo_rename_26 (by decide) (fun hc16 => absurd hc16 (by decide)) (fun hc16 => ?_)
    refine lv_iload_n hx hb d_Mo_rename_29 rfl (lv_at hl 2 rfl) ?_
    refine lv_if_eq (tgt := 66) hx hb d_Mo_rename_30 (by decide) (fun hc17 => ?_) (fun hc17 => absurd rfl hc17)
    refine lv_bipush (v := -2) hx hb d_Mo_rename_66 (by decide) ?_
    exact W.iret (v := (-2)) hx hb hr (fun t9 ht hW => ⟨(-2), h3, rfl, rfl, by rw [ht]; exact hH, by rw [ht]; exact hz⟩) hLo d_Mo_rename_68
  · skip
    refine hm_calli (va_runV (As := [.int nu]) (b := mo) (rest := []) ⟨hx, hb, hml, hown, hts⟩ (c_m_isNode l D t G ak av h3 mo n aBy aSt aDe aPa aIt aId aPr aNa aSi aSe aIw aEx aOl aPl aTa aAt aLo aS1 aS2 aS3 aS4 aS5 aS6 aO1 aO2 aO3 aO4 aO5 gIt nu f_m f_aIt zIt) ⟨cw9B 1 hts mw_444 mw_445 mw_428 rfl rfl (by decide +kernel) ⟨Nat.le_of_ble_eq_true rfl, Nat.le_of_ble_eq_true rfl⟩, hts _ mw_446, hts _ mw_447⟩ (hP_V (q := (R_Mo, F_Mo, 41)) kE_ok hE hK hH f_m rfl) rfl rfl hl.1 rfl (lv_room (Nat.le_of_ble_eq_true rfl)) d_Mo_rename_23 ⟨Nat.le_of_ble_eq_true rfl, Nat.le_of_ble_eq_true rfl⟩) hLo (fun r18 h19 H20 locs hp22 hH z21 hLo => ?_)
    have hz : s.heap.size ≤ H20.size := Nat.le_trans hz z21
    obtain ⟨hr9, rfl⟩ := hp22
    rw [if_neg hin] at hr9
    subst hr9
    refine lv_if_eq (tgt := 66) hx hb d_Mo_rename_26 (by decide) (fun hc23 => ?_) (fun hc23 => absurd rfl hc23)
    refine lv_bipush (v := -2) hx hb d_Mo_rename_66 (by decide) ?_
    exact W.iret (v := (-2)) hx hb hr (fun t9 ht hW => ⟨(-2), h3, rfl, rfl, by rw [ht]; exact hH, by rw [ht]; exact hz⟩) hLo d_Mo_rename_68

set_option maxHeartbeats 4000000 in
set_option maxRecDepth 100000 in
theorem c_m_defect (l : Launch) (D : va_G) (t : Nat → ClassId) (G : hG) (ak av : Nat → Nat) (h : hM) (mo n : Nat) (sx : Int32) (hM : FrM t h mo n) : Met l y_Mo_defect (.code y_Mo_defect b_Mo_defect 2 (some .boolean) :: lw_g) { frames := 1, cells := 0, slots := 0, locals := 22 } (hP (kE D t G ak av) D vwCl G h [.ref mo, .int sx]) (hQi D vwCl G (fun r h' => (r = 1 ∧ ∃ j, j < n ∧ sx = nI j) ∨ (r = 0 ∧ (sx < 0 ∨ nI n ≤ sx)))) 0 0 G.P := by
  refine Met.ofW (cc := b_Mo_defect) (maxL := 2) (ret := (some .boolean)) (by decide) rfl ?_
  intro p e s m args below meth c s₁ Bd hml hv
  obtain ⟨ha, hE, hH⟩ := hv
  have hx := Bd.exec
  have hb := Bd.bytes
  have hr := Bd.returns
  have hts : ∀ w ∈ lw_g, w.before args s = true := fun w hw => atoms_spec (ws := (.code y_Mo_defect b_Mo_defect 2 (some .boolean) :: lw_g)) Bd.pre w (List.mem_cons_of_mem _ hw)
  have hown : s.vm.findClass R_Mo = some m.cls := findClass_of_methodNamed Bd.named
  have hlocks := Bd.notSynchronized
  have hK := hE.1
  have hH0 := hH
  have hLo : hLc G.P [] := hLc_nil
  have hz : s.heap.size ≤ s.heap.size := Nat.le_refl _
  have hkp : kp [] h h := kp_rf
  have hl := lv_entry [.ref mo, .int sx] (n := 2) (Nat.le_of_ble_eq_true rfl)
  rw [show entryFrame m args 2 = F0 m 0 ((lg_sl [.ref mo, .int sx] ++ List.replicate (2 - (lg_sl [.ref mo, .int sx]).length) Slot.unset).toArray) [] from (by rw [ha]; exact lg_entry_eq m [.ref mo, .int sx] 2)]
  generalize (lg_sl [.ref mo, .int sx] ++ List.replicate (2 - (lg_sl [.ref mo, .int sx]).length) Slot.unset).toArray = ls at hl ⊢
  have hl : lv_has ls 2 [(0, .ref mo), (1, .int sx)] := hl
  refine FrM_elim hM ?_
  intro aBy aSt aDe aPa aIt aId aPr aNa aSi aSe aIw aEx aOl aPl aTa aAt aLo aS1 aS2 aS3 aS4 aS5 aS6 aO1 aO2 aO3 aO4 aO5 gBy gSt gDe gPa gIt gId gPr gSi gSe gIw gEx gOl gPl gTa gAt gLo gNa f_m f_aBy f_aSt f_aDe f_aPa f_aIt f_aId f_aPr f_aNa f_aSi f_aSe f_aIw f_aEx f_aOl f_aPl f_aTa f_aAt f_aLo zBy zSt zDe zIt zId zPr zSi zSe zEx ne_aIt_aId ne_aIt_aPr ne_aIt_aSi ne_aIt_aSe ne_aIt_aEx ne_aId_aPr ne_aId_aSi ne_aId_aSe ne_aId_aEx ne_aPr_aSi ne_aPr_aSe ne_aPr_aEx ne_aSi_aSe ne_aSi_aEx ne_aSe_aEx ne_aId_aAt ne_aId_aLo ne_aAt_aLo ne_aId_aOl ne_aIt_aIw ne_aId_aIw ne_aPr_aIw ne_aSi_aIw ne_aSe_aIw ne_aIw_aEx ne_aEx_aOl ne_aOl_aAt ne_aOl_aLo hn40 hn
  refine lv_aload_n hx hb d_Mo_defect_0 rfl (lv_at hl 0 rfl) ?_
  refine lv_iconst (v := 0) hx hb d_Mo_defect_1 (by decide) ?_
  refine hm_put (ci := 9) (v := .int 0) (ty := .int) (C := R_Mo) (T := F_Mo) (N := 41) hx hb hts ig_Mo t_Mo tk_Mo nm_Mo hown hK hH hLo f_m rfl 0 (by decide) (hts _ mw_432) (fun _ h9 => h9) rfl (by decide +kernel) rfl rfl (Nat.le_of_ble_eq_true rfl) d_Mo_defect_2 (fun H1 locs hH z2 hLo => ?_)
  have hz : s.heap.size ≤ H1.size := by rw [z2]; exact hz
  obtain ⟨h3, e4⟩ : ∃ z, z = hu h mo (.inr (9, [.int 0, .int (nI n), .int 0, .ref aBy, .ref aSt, .ref aDe, .int 0, .int (-1), .int 0, .ref aPa, .int 1, .ref aIt, .ref aId, .ref aPr, .ref aNa, .ref aSi, .ref aSe, .ref aIw, .ref aEx, .ref aOl, .int 0, .ref aPl, .int 0, .int 0, .ref aTa, .ref aAt, .ref aLo, .int 0, .int 0, .ref aS1, .ref aS2, .ref aS3, .ref aS4, .ref aS5, .ref aS6, .int 0, .ref aO1, .ref aO2, .ref aO3, .ref aO4, .ref aO5])) := ⟨_, rfl⟩
  have hH : hm D vwCl G h3 H1 := by rw [e4]; exact hH
  have f_aSt : h3 aSt = some (.inl ((t 0), 400, .inl gSt)) := by rw [e4, hu_n (h_neA f_aSt f_m)]; exact f_aSt
  have f_aDe : h3 aDe = some (.inl ((t 1), 200, .inl gDe)) := by rw [e4, hu_n (h_neA f_aDe f_m)]; exact f_aDe
  have f_m : h3 mo = some (.inr (9, [.int 0, .int (nI n), .int 0, .ref aBy, .ref aSt, .ref aDe, .int 0, .int (-1), .int 0, .ref aPa, .int 1, .ref aIt, .ref aId, .ref aPr, .ref aNa, .ref aSi, .ref aSe, .ref aIw, .ref aEx, .ref aOl, .int 0, .ref aPl, .int 0, .int 0, .ref aTa, .ref aAt, .ref aLo, .int 0, .int 0, .ref aS1, .ref aS2, .ref aS3, .ref aS4, .ref aS5, .ref aS6, .int 0, .ref aO1, .ref aO2, .ref aO3, .ref aO4, .ref aO5])) := by rw [e4]; exact hu_s _ _ _
  refine lv_iload_n hx hb d_Mo_defect_5 rfl (lv_at hl 1 rfl) ?_
  refine lv_iconst (v := 0) hx hb d_Mo_defect_6 (by decide) ?_
  refine lv_aload_n hx hb d_Mo_defect_7 rfl (lv_at hl 0 rfl) ?_
  refine hm_get (ci := 9) (v := .int (nI n)) (C := R_Mo) (T := F_Mo) (N := 41) hx hb hts ig_Mo hown hK hH f_m rfl 1 (by decide) (hts _ mw_425) (fun _ h9 => h9) rfl d_Mo_defect_8 ?_
  refine lv_iconst (v := 1) hx hb d_Mo_defect_11 (by decide) ?_
  refine lv_isub hx hb d_Mo_defect_12 ?_
  refine hm_calli (va_runS (As := [.int sx, .int 0, .int ((nI n) - 1)]) (rest := []) ⟨hx, hb, hml, hown, hts⟩ (c_m_in l D t G ak av h3 sx 0 (nI n - 1)) ⟨cw9B 3 hts mw_437 mw_438 mw_428 rfl rfl (by decide +kernel) ⟨Nat.le_of_ble_eq_true rfl, Nat.le_of_ble_eq_true rfl⟩, hts _ mw_439⟩ (hP_S kE_ok hE hH) rfl rfl hl.1 rfl (lv_room (Nat.le_of_ble_eq_true rfl)) d_Mo_defect_13 ⟨Nat.le_of_ble_eq_true rfl, Nat.le_of_ble_eq_true rfl⟩) hLo (fun r5 h6 H7 locs hp9 hH z8 hLo => ?_)
  have hz : s.heap.size ≤ H7.size := Nat.le_trans hz z8
  obtain ⟨hr9, rfl⟩ := hp9
  rcases in9 (sx := sx) hn (by omega) with ⟨hi9, j, hj, hsx⟩ | ⟨hi9, ho⟩
  · skip
    rw [hi9] at hr9
    subst hr9
    subst hsx
    refine lv_if_ne (tgt := 21) hx hb d_Mo_defect_16 (by decide) (fun hc10 => ?_) (fun hc10 => absurd hc10 (by decide))
    refine lv_aload_n hx hb d_Mo_defect_21 rfl (lv_at hl 0 rfl) ?_
    refine hm_get (ci := 9) (v := .ref aSt) (C := R_Mo) (T := F_Mo) (N := 41) hx hb hts ig_Mo hown hK hH f_m rfl 4 (by decide) (hts _ mw_401) (fun _ h9 => h9) rfl d_Mo_defect_22 ?_
    refine lv_aload_n hx hb d_Mo_defect_25 rfl (lv_at hl 0 rfl) ?_
    refine hm_get (ci := 9) (v := .int 0) (C := R_Mo) (T := F_Mo) (N := 41) hx hb hts ig_Mo hown hK hH f_m rfl 2 (by decide) (hts _ mw_467) (fun _ h9 => h9) rfl d_Mo_defect_26 ?_
    refine lv_iload_n hx hb d_Mo_defect_29 rfl (lv_at hl 1 rfl) ?_
    refine lv_iadd hx hb d_Mo_defect_30 ?_
    refine hj_bald hx hb hK hH 0 f_aSt rfl j (Int32.zero_add _) (by omega) (by decide) d_Mo_defect_31 ?_
    refine lv_if_ne (tgt := 42) hx hb d_Mo_defect_32 (by decide) (fun hc11 => absurd (zSt j) hc11) (fun hc11 => ?_)
    refine lv_aload_n hx hb d_Mo_defect_35 rfl (lv_at hl 0 rfl) ?_
    refine hm_get (ci := 9) (v := .ref aDe) (C := R_Mo) (T := F_Mo) (N := 41) hx hb hts ig_Mo hown hK hH f_m rfl 5 (by decide) (hts _ mw_403) (fun _ h9 => h9) rfl d_Mo_defect_36 ?_
    refine lv_iload_n hx hb d_Mo_defect_39 rfl (lv_at hl 1 rfl) ?_
    refine lv_iconst (v := 1) hx hb d_Mo_defect_40 (by decide) ?_
    refine hj_zast hx hb hK hH hLo 1 f_aDe rfl j rfl (by omega) (by decide) d_Mo_defect_41 (fun H12 locs hH z13 hLo => ?_)
    have hz : s.heap.size ≤ H12.size := by rw [z13]; exact hz
    obtain ⟨h14, e15⟩ : ∃ z, z = hu h3 aDe (.inl ((t 1), 200, .inl (upd gDe j (vp_nar .boolean 1)))) := ⟨_, rfl⟩
    have hH : hm D vwCl G h14 H12 := by rw [e15]; exact hH
    have f_m : h14 mo = some (.inr (9, [.int 0, .int (nI n), .int 0, .ref aBy, .ref aSt, .ref aDe, .int 0, .int (-1), .int 0, .ref aPa, .int 1, .ref aIt, .ref aId, .ref aPr, .ref aNa, .ref aSi, .ref aSe, .ref aIw, .ref aEx, .ref aOl, .int 0, .ref aPl, .int 0, .int 0, .ref aTa, .ref aAt, .ref aLo, .int 0, .int 0, .ref aS1, .ref aS2, .ref aS3, .ref aS4, .ref aS5, .ref aS6, .int 0, .ref aO1, .ref aO2, .ref aO3, .ref aO4, .ref aO5])) := by rw [e15, hu_n (Ne.symm (h_neA f_aDe f_m))]; exact f_m
    have f_aSt : h14 aSt = some (.inl ((t 0), 400, .inl gSt)) := by rw [e15, hu_n (h_neL (k1 := 400) (k2 := 200) f_aSt f_aDe rfl rfl (by omega))]; exact f_aSt
    have f_aDe : h14 aDe = some (.inl ((t 1), 200, .inl (upd gDe j (vp_nar .boolean 1)))) := by rw [e15]; exact hu_s _ _ _
    refine lv_iconst (v := 1) hx hb d_Mo_defect_42 (by decide) ?_
    exact W.zret (v := 1) hx hb hr (by decide) (fun t9 ht hW => ⟨1, h14, rfl, Or.inl ⟨rfl, j, hj, rfl⟩, by rw [ht]; exact hH, by rw [ht]; exact hz⟩) hLo d_Mo_defect_43
  · skip
    rw [hi9] at hr9
    subst hr9
    refine lv_if_ne (tgt := 21) hx hb d_Mo_defect_16 (by decide) (fun hc16 => absurd rfl hc16) (fun hc16 => ?_)
    refine lv_iconst (v := 0) hx hb d_Mo_defect_19 (by decide) ?_
    exact W.zret (v := 0) hx hb hr (by decide) (fun t9 ht hW => ⟨0, h3, rfl, Or.inr ⟨rfl, ho⟩, by rw [ht]; exact hH, by rw [ht]; exact hz⟩) hLo d_Mo_defect_20

set_option maxHeartbeats 4000000 in
set_option maxRecDepth 100000 in
theorem c_m_power (l : Launch) (D : va_G) (t : Nat → ClassId) (G : hG) (ak av : Nat → Nat) (h : hM) (mo n : Nat) (v : Int32) (hM : FrM t h mo n) : Met l y_Mo_power (.code y_Mo_power b_Mo_power 2 none :: lw_g) { frames := 0, cells := 0, slots := 0, locals := 0 } (hP (kE D t G ak av) D vwCl G h [.ref mo, .int v]) (hQv D vwCl G (fun h' => True)) 0 0 G.P := by
  refine Met.ofW (cc := b_Mo_power) (maxL := 2) (ret := none) (by decide) rfl ?_
  intro p e s m args below meth c s₁ Bd hml hv
  obtain ⟨ha, hE, hH⟩ := hv
  have hx := Bd.exec
  have hb := Bd.bytes
  have hr := Bd.returns
  have hts : ∀ w ∈ lw_g, w.before args s = true := fun w hw => atoms_spec (ws := (.code y_Mo_power b_Mo_power 2 none :: lw_g)) Bd.pre w (List.mem_cons_of_mem _ hw)
  have hown : s.vm.findClass R_Mo = some m.cls := findClass_of_methodNamed Bd.named
  have hlocks := Bd.notSynchronized
  have hK := hE.1
  have hH0 := hH
  have hLo : hLc G.P [] := hLc_nil
  have hz : s.heap.size ≤ s.heap.size := Nat.le_refl _
  have hkp : kp [] h h := kp_rf
  have hl := lv_entry [.ref mo, .int v] (n := 2) (Nat.le_of_ble_eq_true rfl)
  rw [show entryFrame m args 2 = F0 m 0 ((lg_sl [.ref mo, .int v] ++ List.replicate (2 - (lg_sl [.ref mo, .int v]).length) Slot.unset).toArray) [] from (by rw [ha]; exact lg_entry_eq m [.ref mo, .int v] 2)]
  generalize (lg_sl [.ref mo, .int v] ++ List.replicate (2 - (lg_sl [.ref mo, .int v]).length) Slot.unset).toArray = ls at hl ⊢
  have hl : lv_has ls 2 [(0, .ref mo), (1, .int v)] := hl
  refine FrM_elim hM ?_
  intro aBy aSt aDe aPa aIt aId aPr aNa aSi aSe aIw aEx aOl aPl aTa aAt aLo aS1 aS2 aS3 aS4 aS5 aS6 aO1 aO2 aO3 aO4 aO5 gBy gSt gDe gPa gIt gId gPr gSi gSe gIw gEx gOl gPl gTa gAt gLo gNa f_m f_aBy f_aSt f_aDe f_aPa f_aIt f_aId f_aPr f_aNa f_aSi f_aSe f_aIw f_aEx f_aOl f_aPl f_aTa f_aAt f_aLo zBy zSt zDe zIt zId zPr zSi zSe zEx ne_aIt_aId ne_aIt_aPr ne_aIt_aSi ne_aIt_aSe ne_aIt_aEx ne_aId_aPr ne_aId_aSi ne_aId_aSe ne_aId_aEx ne_aPr_aSi ne_aPr_aSe ne_aPr_aEx ne_aSi_aSe ne_aSi_aEx ne_aSe_aEx ne_aId_aAt ne_aId_aLo ne_aAt_aLo ne_aId_aOl ne_aIt_aIw ne_aId_aIw ne_aPr_aIw ne_aSi_aIw ne_aSe_aIw ne_aIw_aEx ne_aEx_aOl ne_aOl_aAt ne_aOl_aLo hn40 hn
  refine lv_aload_n hx hb d_Mo_power_0 rfl (lv_at hl 0 rfl) ?_
  refine lv_iconst (v := 0) hx hb d_Mo_power_1 (by decide) ?_
  refine hm_put (ci := 9) (v := .int 0) (ty := .int) (C := R_Mo) (T := F_Mo) (N := 41) hx hb hts ig_Mo t_Mo tk_Mo nm_Mo hown hK hH hLo f_m rfl 0 (by decide) (hts _ mw_432) (fun _ h9 => h9) rfl (by decide +kernel) rfl rfl (Nat.le_of_ble_eq_true rfl) d_Mo_power_2 (fun H1 locs hH z2 hLo => ?_)
  have hz : s.heap.size ≤ H1.size := by rw [z2]; exact hz
  obtain ⟨h3, e4⟩ : ∃ z, z = hu h mo (.inr (9, [.int 0, .int (nI n), .int 0, .ref aBy, .ref aSt, .ref aDe, .int 0, .int (-1), .int 0, .ref aPa, .int 1, .ref aIt, .ref aId, .ref aPr, .ref aNa, .ref aSi, .ref aSe, .ref aIw, .ref aEx, .ref aOl, .int 0, .ref aPl, .int 0, .int 0, .ref aTa, .ref aAt, .ref aLo, .int 0, .int 0, .ref aS1, .ref aS2, .ref aS3, .ref aS4, .ref aS5, .ref aS6, .int 0, .ref aO1, .ref aO2, .ref aO3, .ref aO4, .ref aO5])) := ⟨_, rfl⟩
  have hH : hm D vwCl G h3 H1 := by rw [e4]; exact hH
  have f_m : h3 mo = some (.inr (9, [.int 0, .int (nI n), .int 0, .ref aBy, .ref aSt, .ref aDe, .int 0, .int (-1), .int 0, .ref aPa, .int 1, .ref aIt, .ref aId, .ref aPr, .ref aNa, .ref aSi, .ref aSe, .ref aIw, .ref aEx, .ref aOl, .int 0, .ref aPl, .int 0, .int 0, .ref aTa, .ref aAt, .ref aLo, .int 0, .int 0, .ref aS1, .ref aS2, .ref aS3, .ref aS4, .ref aS5, .ref aS6, .int 0, .ref aO1, .ref aO2, .ref aO3, .ref aO4, .ref aO5])) := by rw [e4]; exact hu_s _ _ _
  refine lv_aload_n hx hb d_Mo_power_5 rfl (lv_at hl 0 rfl) ?_
  refine hm_get (ci := 9) (v := .int 0) (C := R_Mo) (T := F_Mo) (N := 41) hx hb hts ig_Mo hown hK hH f_m rfl 6 (by decide) (hts _ mw_440) (fun _ h9 => h9) rfl d_Mo_power_6 ?_
  refine lv_if_ne (tgt := 25) hx hb d_Mo_power_9 (by decide) (fun hc5 => absurd rfl hc5) (fun hc5 => ?_)
  refine lv_aload_n hx hb d_Mo_power_12 rfl (lv_at hl 0 rfl) ?_
  refine lv_iload_n hx hb d_Mo_power_13 rfl (lv_at hl 1 rfl) ?_
  refine lv_if_ge (tgt := 21) hx hb d_Mo_power_14 (by decide) (fun hc6 => ?_) (fun hc6 => ?_)
  · skip
    refine lv_iload_n hx hb d_Mo_power_21 rfl (lv_at hl 1 rfl) ?_
    refine hm_put (ci := 9) (v := .int v) (ty := .int) (C := R_Mo) (T := F_Mo) (N := 41) hx hb hts ig_Mo t_Mo tk_Mo nm_Mo hown hK hH hLo f_m rfl 7 (by decide) (hts _ mw_426) (fun _ h9 => h9) rfl (by decide +kernel) rfl rfl (Nat.le_of_ble_eq_true rfl) d_Mo_power_22 (fun H7 locs hH z8 hLo => ?_)
    have hz : s.heap.size ≤ H7.size := by rw [z8]; exact hz
    obtain ⟨h9, e10⟩ : ∃ z, z = hu h3 mo (.inr (9, [.int 0, .int (nI n), .int 0, .ref aBy, .ref aSt, .ref aDe, .int 0, .int v, .int 0, .ref aPa, .int 1, .ref aIt, .ref aId, .ref aPr, .ref aNa, .ref aSi, .ref aSe, .ref aIw, .ref aEx, .ref aOl, .int 0, .ref aPl, .int 0, .int 0, .ref aTa, .ref aAt, .ref aLo, .int 0, .int 0, .ref aS1, .ref aS2, .ref aS3, .ref aS4, .ref aS5, .ref aS6, .int 0, .ref aO1, .ref aO2, .ref aO3, .ref aO4, .ref aO5])) := ⟨_, rfl⟩
    have hH : hm D vwCl G h9 H7 := by rw [e10]; exact hH
    have f_m : h9 mo = some (.inr (9, [.int 0, .int (nI n), .int 0, .ref aBy, .ref aSt, .ref aDe, .int 0, .int v, .int 0, .ref aPa, .int 1, .ref aIt, .ref aId, .ref aPr, .ref aNa, .ref aSi, .ref aSe, .ref aIw, .ref aEx, .ref aOl, .int 0, .ref aPl, .int 0, .int 0, .ref aTa, .ref aAt, .ref aLo, .int 0, .int 0, .ref aS1, .ref aS2, .ref aS3, .ref aS4, .ref aS5, .ref aS6, .int 0, .ref aO1, .ref aO2, .ref aO3, .ref aO4, .ref aO5])) := by rw [e10]; exact hu_s _ _ _
    exact W.vret hx hb hr (fun t9 ht hW => ⟨h9, rfl, trivial, by rw [ht]; exact hH, by rw [ht]; exact hz⟩) hLo d_Mo_power_25
  · skip
    refine lv_iconst (v := -1) hx hb d_Mo_power_17 (by decide) ?_
    refine lv_goto (tgt := 22) hx hb d_Mo_power_18 (by decide) ?_
    refine hm_put (ci := 9) (v := .int (-1)) (ty := .int) (C := R_Mo) (T := F_Mo) (N := 41) hx hb hts ig_Mo t_Mo tk_Mo nm_Mo hown hK hH hLo f_m rfl 7 (by decide) (hts _ mw_426) (fun _ h9 => h9) rfl (by decide +kernel) rfl rfl (Nat.le_of_ble_eq_true rfl) d_Mo_power_22 (fun H11 locs hH z12 hLo => ?_)
    have hz : s.heap.size ≤ H11.size := by rw [z12]; exact hz
    obtain ⟨h13, e14⟩ : ∃ z, z = hu h3 mo (.inr (9, [.int 0, .int (nI n), .int 0, .ref aBy, .ref aSt, .ref aDe, .int 0, .int (-1), .int 0, .ref aPa, .int 1, .ref aIt, .ref aId, .ref aPr, .ref aNa, .ref aSi, .ref aSe, .ref aIw, .ref aEx, .ref aOl, .int 0, .ref aPl, .int 0, .int 0, .ref aTa, .ref aAt, .ref aLo, .int 0, .int 0, .ref aS1, .ref aS2, .ref aS3, .ref aS4, .ref aS5, .ref aS6, .int 0, .ref aO1, .ref aO2, .ref aO3, .ref aO4, .ref aO5])) := ⟨_, rfl⟩
    have hH : hm D vwCl G h13 H11 := by rw [e14]; exact hH
    have f_m : h13 mo = some (.inr (9, [.int 0, .int (nI n), .int 0, .ref aBy, .ref aSt, .ref aDe, .int 0, .int (-1), .int 0, .ref aPa, .int 1, .ref aIt, .ref aId, .ref aPr, .ref aNa, .ref aSi, .ref aSe, .ref aIw, .ref aEx, .ref aOl, .int 0, .ref aPl, .int 0, .int 0, .ref aTa, .ref aAt, .ref aLo, .int 0, .int 0, .ref aS1, .ref aS2, .ref aS3, .ref aS4, .ref aS5, .ref aS6, .int 0, .ref aO1, .ref aO2, .ref aO3, .ref aO4, .ref aO5])) := by rw [e14]; exact hu_s _ _ _
    exact W.vret hx hb hr (fun t9 ht hW => ⟨h13, rfl, trivial, by rw [ht]; exact hH, by rw [ht]; exact hz⟩) hLo d_Mo_power_25

set_option maxHeartbeats 4000000 in
set_option maxRecDepth 100000 in
theorem c_m_state (l : Launch) (D : va_G) (t : Nat → ClassId) (G : hG) (ak av : Nat → Nat) (h : hM) (mo n : Nat) (sx : Int32) (hM : FrM t h mo n) : Met l y_Mo_state (.code y_Mo_state b_Mo_state 2 (some .int) :: lw_g) { frames := 1, cells := 0, slots := 0, locals := 22 } (hP (kE D t G ak av) D vwCl G h [.ref mo, .int sx]) (hQi D vwCl G (fun r h' => (r = 0 ∧ ∃ j, j < n ∧ sx = nI j) ∨ (r = -1 ∧ (sx < 0 ∨ nI n ≤ sx)))) 0 0 G.P := by
  refine Met.ofW (cc := b_Mo_state) (maxL := 2) (ret := (some .int)) (by decide) rfl ?_
  intro p e s m args below meth c s₁ Bd hml hv
  obtain ⟨ha, hE, hH⟩ := hv
  have hx := Bd.exec
  have hb := Bd.bytes
  have hr := Bd.returns
  have hts : ∀ w ∈ lw_g, w.before args s = true := fun w hw => atoms_spec (ws := (.code y_Mo_state b_Mo_state 2 (some .int) :: lw_g)) Bd.pre w (List.mem_cons_of_mem _ hw)
  have hown : s.vm.findClass R_Mo = some m.cls := findClass_of_methodNamed Bd.named
  have hlocks := Bd.notSynchronized
  have hK := hE.1
  have hH0 := hH
  have hLo : hLc G.P [] := hLc_nil
  have hz : s.heap.size ≤ s.heap.size := Nat.le_refl _
  have hkp : kp [] h h := kp_rf
  have hl := lv_entry [.ref mo, .int sx] (n := 2) (Nat.le_of_ble_eq_true rfl)
  rw [show entryFrame m args 2 = F0 m 0 ((lg_sl [.ref mo, .int sx] ++ List.replicate (2 - (lg_sl [.ref mo, .int sx]).length) Slot.unset).toArray) [] from (by rw [ha]; exact lg_entry_eq m [.ref mo, .int sx] 2)]
  generalize (lg_sl [.ref mo, .int sx] ++ List.replicate (2 - (lg_sl [.ref mo, .int sx]).length) Slot.unset).toArray = ls at hl ⊢
  have hl : lv_has ls 2 [(0, .ref mo), (1, .int sx)] := hl
  refine FrM_elim hM ?_
  intro aBy aSt aDe aPa aIt aId aPr aNa aSi aSe aIw aEx aOl aPl aTa aAt aLo aS1 aS2 aS3 aS4 aS5 aS6 aO1 aO2 aO3 aO4 aO5 gBy gSt gDe gPa gIt gId gPr gSi gSe gIw gEx gOl gPl gTa gAt gLo gNa f_m f_aBy f_aSt f_aDe f_aPa f_aIt f_aId f_aPr f_aNa f_aSi f_aSe f_aIw f_aEx f_aOl f_aPl f_aTa f_aAt f_aLo zBy zSt zDe zIt zId zPr zSi zSe zEx ne_aIt_aId ne_aIt_aPr ne_aIt_aSi ne_aIt_aSe ne_aIt_aEx ne_aId_aPr ne_aId_aSi ne_aId_aSe ne_aId_aEx ne_aPr_aSi ne_aPr_aSe ne_aPr_aEx ne_aSi_aSe ne_aSi_aEx ne_aSe_aEx ne_aId_aAt ne_aId_aLo ne_aAt_aLo ne_aId_aOl ne_aIt_aIw ne_aId_aIw ne_aPr_aIw ne_aSi_aIw ne_aSe_aIw ne_aIw_aEx ne_aEx_aOl ne_aOl_aAt ne_aOl_aLo hn40 hn
  refine lv_aload_n hx hb d_Mo_state_0 rfl (lv_at hl 0 rfl) ?_
  refine lv_iconst (v := 0) hx hb d_Mo_state_1 (by decide) ?_
  refine hm_put (ci := 9) (v := .int 0) (ty := .int) (C := R_Mo) (T := F_Mo) (N := 41) hx hb hts ig_Mo t_Mo tk_Mo nm_Mo hown hK hH hLo f_m rfl 0 (by decide) (hts _ mw_432) (fun _ h9 => h9) rfl (by decide +kernel) rfl rfl (Nat.le_of_ble_eq_true rfl) d_Mo_state_2 (fun H1 locs hH z2 hLo => ?_)
  have hz : s.heap.size ≤ H1.size := by rw [z2]; exact hz
  obtain ⟨h3, e4⟩ : ∃ z, z = hu h mo (.inr (9, [.int 0, .int (nI n), .int 0, .ref aBy, .ref aSt, .ref aDe, .int 0, .int (-1), .int 0, .ref aPa, .int 1, .ref aIt, .ref aId, .ref aPr, .ref aNa, .ref aSi, .ref aSe, .ref aIw, .ref aEx, .ref aOl, .int 0, .ref aPl, .int 0, .int 0, .ref aTa, .ref aAt, .ref aLo, .int 0, .int 0, .ref aS1, .ref aS2, .ref aS3, .ref aS4, .ref aS5, .ref aS6, .int 0, .ref aO1, .ref aO2, .ref aO3, .ref aO4, .ref aO5])) := ⟨_, rfl⟩
  have hH : hm D vwCl G h3 H1 := by rw [e4]; exact hH
  have f_aSt : h3 aSt = some (.inl ((t 0), 400, .inl gSt)) := by rw [e4, hu_n (h_neA f_aSt f_m)]; exact f_aSt
  have f_m : h3 mo = some (.inr (9, [.int 0, .int (nI n), .int 0, .ref aBy, .ref aSt, .ref aDe, .int 0, .int (-1), .int 0, .ref aPa, .int 1, .ref aIt, .ref aId, .ref aPr, .ref aNa, .ref aSi, .ref aSe, .ref aIw, .ref aEx, .ref aOl, .int 0, .ref aPl, .int 0, .int 0, .ref aTa, .ref aAt, .ref aLo, .int 0, .int 0, .ref aS1, .ref aS2, .ref aS3, .ref aS4, .ref aS5, .ref aS6, .int 0, .ref aO1, .ref aO2, .ref aO3, .ref aO4, .ref aO5])) := by rw [e4]; exact hu_s _ _ _
  refine lv_iload_n hx hb d_Mo_state_5 rfl (lv_at hl 1 rfl) ?_
  refine lv_iconst (v := 0) hx hb d_Mo_state_6 (by decide) ?_
  refine lv_aload_n hx hb d_Mo_state_7 rfl (lv_at hl 0 rfl) ?_
  refine hm_get (ci := 9) (v := .int (nI n)) (C := R_Mo) (T := F_Mo) (N := 41) hx hb hts ig_Mo hown hK hH f_m rfl 1 (by decide) (hts _ mw_425) (fun _ h9 => h9) rfl d_Mo_state_8 ?_
  refine lv_iconst (v := 1) hx hb d_Mo_state_11 (by decide) ?_
  refine lv_isub hx hb d_Mo_state_12 ?_
  refine hm_calli (va_runS (As := [.int sx, .int 0, .int ((nI n) - 1)]) (rest := []) ⟨hx, hb, hml, hown, hts⟩ (c_m_in l D t G ak av h3 sx 0 (nI n - 1)) ⟨cw9B 3 hts mw_437 mw_438 mw_428 rfl rfl (by decide +kernel) ⟨Nat.le_of_ble_eq_true rfl, Nat.le_of_ble_eq_true rfl⟩, hts _ mw_439⟩ (hP_S kE_ok hE hH) rfl rfl hl.1 rfl (lv_room (Nat.le_of_ble_eq_true rfl)) d_Mo_state_13 ⟨Nat.le_of_ble_eq_true rfl, Nat.le_of_ble_eq_true rfl⟩) hLo (fun r5 h6 H7 locs hp9 hH z8 hLo => ?_)
  have hz : s.heap.size ≤ H7.size := Nat.le_trans hz z8
  obtain ⟨hr9, rfl⟩ := hp9
  rcases in9 (sx := sx) hn (by omega) with ⟨hi9, j, hj, hsx⟩ | ⟨hi9, ho⟩
  · skip
    rw [hi9] at hr9
    subst hr9
    subst hsx
    refine lv_if_eq (tgt := 33) hx hb d_Mo_state_16 (by decide) (fun hc10 => absurd hc10 (by decide)) (fun hc10 => ?_)
    refine lv_aload_n hx hb d_Mo_state_19 rfl (lv_at hl 0 rfl) ?_
    refine hm_get (ci := 9) (v := .ref aSt) (C := R_Mo) (T := F_Mo) (N := 41) hx hb hts ig_Mo hown hK hH f_m rfl 4 (by decide) (hts _ mw_401) (fun _ h9 => h9) rfl d_Mo_state_20 ?_
    refine lv_aload_n hx hb d_Mo_state_23 rfl (lv_at hl 0 rfl) ?_
    refine hm_get (ci := 9) (v := .int 0) (C := R_Mo) (T := F_Mo) (N := 41) hx hb hts ig_Mo hown hK hH f_m rfl 2 (by decide) (hts _ mw_467) (fun _ h9 => h9) rfl d_Mo_state_24 ?_
    refine lv_iload_n hx hb d_Mo_state_27 rfl (lv_at hl 1 rfl) ?_
    refine lv_iadd hx hb d_Mo_state_28 ?_
    refine hj_bald hx hb hK hH 0 f_aSt rfl j (Int32.zero_add _) (by omega) (by decide) d_Mo_state_29 ?_
    refine lv_goto (tgt := 34) hx hb d_Mo_state_30 (by decide) ?_
    exact W.iret (v := gSt j) hx hb hr (fun t9 ht hW => ⟨gSt j, h3, rfl, Or.inl ⟨zSt j, j, hj, rfl⟩, by rw [ht]; exact hH, by rw [ht]; exact hz⟩) hLo d_Mo_state_34
  · skip
    rw [hi9] at hr9
    subst hr9
    refine lv_if_eq (tgt := 33) hx hb d_Mo_state_16 (by decide) (fun hc11 => ?_) (fun hc11 => absurd rfl hc11)
    refine lv_iconst (v := -1) hx hb d_Mo_state_33 (by decide) ?_
    exact W.iret (v := (-1)) hx hb hr (fun t9 ht hW => ⟨(-1), h3, rfl, Or.inr ⟨rfl, ho⟩, by rw [ht]; exact hH, by rw [ht]; exact hz⟩) hLo d_Mo_state_34

set_option maxHeartbeats 4000000 in
set_option maxRecDepth 100000 in
theorem c_m_writes (l : Launch) (D : va_G) (t : Nat → ClassId) (G : hG) (ak av : Nat → Nat) (h : hM) (mo n : Nat) (hM : FrM t h mo n) : Met l y_Mo_writes (.code y_Mo_writes b_Mo_writes 1 (some .int) :: lw_g) { frames := 0, cells := 0, slots := 0, locals := 0 } (hP (kE D t G ak av) D vwCl G h [.ref mo]) (hQi D vwCl G (fun r h' => r = 0)) 0 0 G.P := by
  refine Met.ofW (cc := b_Mo_writes) (maxL := 1) (ret := (some .int)) (by decide) rfl ?_
  intro p e s m args below meth c s₁ Bd hml hv
  obtain ⟨ha, hE, hH⟩ := hv
  have hx := Bd.exec
  have hb := Bd.bytes
  have hr := Bd.returns
  have hts : ∀ w ∈ lw_g, w.before args s = true := fun w hw => atoms_spec (ws := (.code y_Mo_writes b_Mo_writes 1 (some .int) :: lw_g)) Bd.pre w (List.mem_cons_of_mem _ hw)
  have hown : s.vm.findClass R_Mo = some m.cls := findClass_of_methodNamed Bd.named
  have hlocks := Bd.notSynchronized
  have hK := hE.1
  have hH0 := hH
  have hLo : hLc G.P [] := hLc_nil
  have hz : s.heap.size ≤ s.heap.size := Nat.le_refl _
  have hkp : kp [] h h := kp_rf
  have hl := lv_entry [.ref mo] (n := 1) (Nat.le_of_ble_eq_true rfl)
  rw [show entryFrame m args 1 = F0 m 0 ((lg_sl [.ref mo] ++ List.replicate (1 - (lg_sl [.ref mo]).length) Slot.unset).toArray) [] from (by rw [ha]; exact lg_entry_eq m [.ref mo] 1)]
  generalize (lg_sl [.ref mo] ++ List.replicate (1 - (lg_sl [.ref mo]).length) Slot.unset).toArray = ls at hl ⊢
  have hl : lv_has ls 1 [(0, .ref mo)] := hl
  refine FrM_elim hM ?_
  intro aBy aSt aDe aPa aIt aId aPr aNa aSi aSe aIw aEx aOl aPl aTa aAt aLo aS1 aS2 aS3 aS4 aS5 aS6 aO1 aO2 aO3 aO4 aO5 gBy gSt gDe gPa gIt gId gPr gSi gSe gIw gEx gOl gPl gTa gAt gLo gNa f_m f_aBy f_aSt f_aDe f_aPa f_aIt f_aId f_aPr f_aNa f_aSi f_aSe f_aIw f_aEx f_aOl f_aPl f_aTa f_aAt f_aLo zBy zSt zDe zIt zId zPr zSi zSe zEx ne_aIt_aId ne_aIt_aPr ne_aIt_aSi ne_aIt_aSe ne_aIt_aEx ne_aId_aPr ne_aId_aSi ne_aId_aSe ne_aId_aEx ne_aPr_aSi ne_aPr_aSe ne_aPr_aEx ne_aSi_aSe ne_aSi_aEx ne_aSe_aEx ne_aId_aAt ne_aId_aLo ne_aAt_aLo ne_aId_aOl ne_aIt_aIw ne_aId_aIw ne_aPr_aIw ne_aSi_aIw ne_aSe_aIw ne_aIw_aEx ne_aEx_aOl ne_aOl_aAt ne_aOl_aLo hn40 hn
  refine lv_aload_n hx hb d_Mo_writes_0 rfl (lv_at hl 0 rfl) ?_
  refine lv_iconst (v := 0) hx hb d_Mo_writes_1 (by decide) ?_
  refine hm_put (ci := 9) (v := .int 0) (ty := .int) (C := R_Mo) (T := F_Mo) (N := 41) hx hb hts ig_Mo t_Mo tk_Mo nm_Mo hown hK hH hLo f_m rfl 0 (by decide) (hts _ mw_432) (fun _ h9 => h9) rfl (by decide +kernel) rfl rfl (Nat.le_of_ble_eq_true rfl) d_Mo_writes_2 (fun H1 locs hH z2 hLo => ?_)
  have hz : s.heap.size ≤ H1.size := by rw [z2]; exact hz
  obtain ⟨h3, e4⟩ : ∃ z, z = hu h mo (.inr (9, [.int 0, .int (nI n), .int 0, .ref aBy, .ref aSt, .ref aDe, .int 0, .int (-1), .int 0, .ref aPa, .int 1, .ref aIt, .ref aId, .ref aPr, .ref aNa, .ref aSi, .ref aSe, .ref aIw, .ref aEx, .ref aOl, .int 0, .ref aPl, .int 0, .int 0, .ref aTa, .ref aAt, .ref aLo, .int 0, .int 0, .ref aS1, .ref aS2, .ref aS3, .ref aS4, .ref aS5, .ref aS6, .int 0, .ref aO1, .ref aO2, .ref aO3, .ref aO4, .ref aO5])) := ⟨_, rfl⟩
  have hH : hm D vwCl G h3 H1 := by rw [e4]; exact hH
  have f_m : h3 mo = some (.inr (9, [.int 0, .int (nI n), .int 0, .ref aBy, .ref aSt, .ref aDe, .int 0, .int (-1), .int 0, .ref aPa, .int 1, .ref aIt, .ref aId, .ref aPr, .ref aNa, .ref aSi, .ref aSe, .ref aIw, .ref aEx, .ref aOl, .int 0, .ref aPl, .int 0, .int 0, .ref aTa, .ref aAt, .ref aLo, .int 0, .int 0, .ref aS1, .ref aS2, .ref aS3, .ref aS4, .ref aS5, .ref aS6, .int 0, .ref aO1, .ref aO2, .ref aO3, .ref aO4, .ref aO5])) := by rw [e4]; exact hu_s _ _ _
  refine lv_aload_n hx hb d_Mo_writes_5 rfl (lv_at hl 0 rfl) ?_
  refine hm_get (ci := 9) (v := .int 0) (C := R_Mo) (T := F_Mo) (N := 41) hx hb hts ig_Mo hown hK hH f_m rfl 8 (by decide) (hts _ mw_468) (fun _ h9 => h9) rfl d_Mo_writes_6 ?_
  exact W.iret (v := 0) hx hb hr (fun t9 ht hW => ⟨0, h3, rfl, rfl, by rw [ht]; exact hH, by rw [ht]; exact hz⟩) hLo d_Mo_writes_9
