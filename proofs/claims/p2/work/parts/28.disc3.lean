set_option maxRecDepth 100000 in
theorem mw_462 : Cond.code y_Ns_directoryOf b_Ns_directoryOf 3 (some (.object "WriteOnceDisc$Node")) ∈ lw_g := lw_gin (List.mem_append_right _ (List.mem_of_getElem? (i := 287) rfl)) (by decide +kernel)
set_option maxRecDepth 100000 in
theorem mw_463 : Cond.methodLink R_Di 72 y_Ns_directoryOf ∈ lw_g := lw_gin (List.mem_append_right _ (List.mem_of_getElem? (i := 284) rfl)) (by decide +kernel)
set_option maxRecDepth 100000 in
theorem mw_464 : Cond.instanceMethod y_Ns_directoryOf ∈ lw_g := lw_gin (List.mem_append_right _ (List.mem_of_getElem? (i := 285) rfl)) (by decide +kernel)
set_option maxRecDepth 100000 in
theorem mw_465 : Cond.selects R_Ns y_Ns_directoryOf y_Ns_directoryOf ∈ lw_g := lw_gin (List.mem_append_right _ (List.mem_of_getElem? (i := 286) rfl)) (by decide +kernel)
set_option maxRecDepth 100000 in
theorem mw_466 : Cond.methodLink R_Di 76 y_No_depth ∈ lw_g := lw_gin (List.mem_append_right _ (List.mem_of_getElem? (i := 292) rfl)) (by decide +kernel)
set_option maxRecDepth 100000 in
theorem mw_467 : Cond.code y_Di_added b_Di_added 8 (some .int) ∈ lw_g := lw_gin (List.mem_append_right _ (List.mem_of_getElem? (i := 299) rfl)) (by decide +kernel)
set_option maxRecDepth 100000 in
theorem mw_468 : Cond.methodLink R_Di 82 y_Di_added ∈ lw_g := lw_gin (List.mem_append_right _ (List.mem_of_getElem? (i := 296) rfl)) (by decide +kernel)
set_option maxRecDepth 100000 in
theorem mw_469 : Cond.instanceMethod y_Di_added ∈ lw_g := lw_gin (List.mem_append_right _ (List.mem_of_getElem? (i := 298) rfl)) (by decide +kernel)
set_option maxRecDepth 100000 in
theorem mw_470 : Cond.selects R_Di y_Di_added y_Di_added ∈ lw_g := lw_gin (List.mem_append_left _ (List.mem_of_getElem? (i := 0) rfl)) (by decide +kernel)
set_option maxRecDepth 100000 in
theorem mw_471 : Cond.fieldLink R_Di 100 "WriteOnceDisc$Node" "parent" "LWriteOnceDisc$Node;" ∈ lw_g := lw_gin (List.mem_append_right _ (List.mem_of_getElem? (i := 96) rfl)) (by decide +kernel)
set_option maxRecDepth 100000 in
theorem mw_472 : Cond.code y_Ns_hasChildren b_Ns_hasChildren 3 (some .boolean) ∈ lw_g := lw_gin (List.mem_append_right _ (List.mem_of_getElem? (i := 346) rfl)) (by decide +kernel)
set_option maxRecDepth 100000 in
theorem mw_473 : Cond.methodLink R_Di 104 y_Ns_hasChildren ∈ lw_g := lw_gin (List.mem_append_right _ (List.mem_of_getElem? (i := 343) rfl)) (by decide +kernel)
set_option maxRecDepth 100000 in
theorem mw_474 : Cond.instanceMethod y_Ns_hasChildren ∈ lw_g := lw_gin (List.mem_append_right _ (List.mem_of_getElem? (i := 344) rfl)) (by decide +kernel)
set_option maxRecDepth 100000 in
theorem mw_475 : Cond.selects R_Ns y_Ns_hasChildren y_Ns_hasChildren ∈ lw_g := lw_gin (List.mem_append_right _ (List.mem_of_getElem? (i := 345) rfl)) (by decide +kernel)
set_option maxRecDepth 100000 in
theorem mw_476 : Cond.code y_Ns_drop b_Ns_drop 4 none ∈ lw_g := lw_gin (List.mem_append_right _ (List.mem_of_getElem? (i := 350) rfl)) (by decide +kernel)
set_option maxRecDepth 100000 in
theorem mw_477 : Cond.methodLink R_Di 108 y_Ns_drop ∈ lw_g := lw_gin (List.mem_append_right _ (List.mem_of_getElem? (i := 347) rfl)) (by decide +kernel)
set_option maxRecDepth 100000 in
theorem mw_478 : Cond.instanceMethod y_Ns_drop ∈ lw_g := lw_gin (List.mem_append_right _ (List.mem_of_getElem? (i := 348) rfl)) (by decide +kernel)
set_option maxRecDepth 100000 in
theorem mw_479 : Cond.selects R_Ns y_Ns_drop y_Ns_drop ∈ lw_g := lw_gin (List.mem_append_right _ (List.mem_of_getElem? (i := 349) rfl)) (by decide +kernel)
theorem d_Di_directory_0 : decode b_Di_directory 0 = .ok (.aload_n 0, 1) := by decide +kernel
theorem d_Di_directory_1 : decode b_Di_directory 1 = .ok (.getfield 10, 3) := by decide +kernel
theorem d_Di_directory_4 : decode b_Di_directory 4 = .ok (.getfield 60, 3) := by decide +kernel
theorem d_Di_directory_7 : decode b_Di_directory 7 = .ok (.getfield 69, 3) := by decide +kernel
theorem d_Di_directory_10 : decode b_Di_directory 10 = .ok (.ifCond .eq 6, 3) := by decide +kernel
theorem d_Di_directory_16 : decode b_Di_directory 16 = .ok (.aload_n 0, 1) := by decide +kernel
theorem d_Di_directory_17 : decode b_Di_directory 17 = .ok (.getfield 26, 3) := by decide +kernel
theorem d_Di_directory_20 : decode b_Di_directory 20 = .ok (.iload_n 1, 1) := by decide +kernel
theorem d_Di_directory_21 : decode b_Di_directory 21 = .ok (.invokevirtual 72, 3) := by decide +kernel
theorem d_Di_directory_24 : decode b_Di_directory 24 = .ok (.astore 4, 2) := by decide +kernel
theorem d_Di_directory_26 : decode b_Di_directory 26 = .ok (.aload 4, 2) := by decide +kernel
theorem d_Di_directory_28 : decode b_Di_directory 28 = .ok (.ifnull 13, 3) := by decide +kernel
theorem d_Di_directory_41 : decode b_Di_directory 41 = .ok (.bipush (-2), 2) := by decide +kernel
theorem d_Di_directory_43 : decode b_Di_directory 43 = .ok (.ireturn, 1) := by decide +kernel
theorem d_Di_directory_31 : decode b_Di_directory 31 = .ok (.aload 4, 2) := by decide +kernel
theorem d_Di_directory_33 : decode b_Di_directory 33 = .ok (.invokevirtual 76, 3) := by decide +kernel
theorem d_Di_directory_36 : decode b_Di_directory 36 = .ok (.bipush 6, 2) := by decide +kernel
theorem d_Di_directory_38 : decode b_Di_directory 38 = .ok (.if_icmp .lt 6, 3) := by decide +kernel
theorem d_Di_directory_44 : decode b_Di_directory 44 = .ok (.aload_n 0, 1) := by decide +kernel
theorem d_Di_directory_45 : decode b_Di_directory 45 = .ok (.aload 4, 2) := by decide +kernel
theorem d_Di_directory_47 : decode b_Di_directory 47 = .ok (.iconst 1, 1) := by decide +kernel
theorem d_Di_directory_48 : decode b_Di_directory 48 = .ok (.lload_n 2, 1) := by decide +kernel
theorem d_Di_directory_49 : decode b_Di_directory 49 = .ok (.invokevirtual 82, 3) := by decide +kernel
theorem d_Di_directory_52 : decode b_Di_directory 52 = .ok (.ireturn, 1) := by decide +kernel
theorem d_Di_directory_13 : decode b_Di_directory 13 = .ok (.bipush (-4), 2) := by decide +kernel
theorem d_Di_directory_15 : decode b_Di_directory 15 = .ok (.ireturn, 1) := by decide +kernel
theorem d_Di_file_0 : decode b_Di_file 0 = .ok (.aload_n 0, 1) := by decide +kernel
theorem d_Di_file_1 : decode b_Di_file 1 = .ok (.getfield 10, 3) := by decide +kernel
theorem d_Di_file_4 : decode b_Di_file 4 = .ok (.getfield 60, 3) := by decide +kernel
theorem d_Di_file_7 : decode b_Di_file 7 = .ok (.getfield 69, 3) := by decide +kernel
theorem d_Di_file_10 : decode b_Di_file 10 = .ok (.ifCond .eq 6, 3) := by decide +kernel
theorem d_Di_file_16 : decode b_Di_file 16 = .ok (.aload_n 0, 1) := by decide +kernel
theorem d_Di_file_17 : decode b_Di_file 17 = .ok (.getfield 26, 3) := by decide +kernel
theorem d_Di_file_20 : decode b_Di_file 20 = .ok (.iload_n 1, 1) := by decide +kernel
theorem d_Di_file_21 : decode b_Di_file 21 = .ok (.invokevirtual 72, 3) := by decide +kernel
theorem d_Di_file_24 : decode b_Di_file 24 = .ok (.astore 6, 2) := by decide +kernel
theorem d_Di_file_26 : decode b_Di_file 26 = .ok (.aload 6, 2) := by decide +kernel
theorem d_Di_file_28 : decode b_Di_file 28 = .ok (.ifnull 13, 3) := by decide +kernel
theorem d_Di_file_41 : decode b_Di_file 41 = .ok (.bipush (-2), 2) := by decide +kernel
theorem d_Di_file_43 : decode b_Di_file 43 = .ok (.ireturn, 1) := by decide +kernel
theorem d_Di_file_31 : decode b_Di_file 31 = .ok (.iload 4, 2) := by decide +kernel
theorem d_Di_file_33 : decode b_Di_file 33 = .ok (.iload 5, 2) := by decide +kernel
theorem d_Di_file_35 : decode b_Di_file 35 = .ok (.invokestatic 86, 3) := by decide +kernel
theorem d_Di_file_38 : decode b_Di_file 38 = .ok (.ifCond .ne 6, 3) := by decide +kernel
theorem d_Di_file_44 : decode b_Di_file 44 = .ok (.aload_n 0, 1) := by decide +kernel
theorem d_Di_file_45 : decode b_Di_file 45 = .ok (.aload 6, 2) := by decide +kernel
theorem d_Di_file_47 : decode b_Di_file 47 = .ok (.iconst 0, 1) := by decide +kernel
theorem d_Di_file_48 : decode b_Di_file 48 = .ok (.lload_n 2, 1) := by decide +kernel
theorem d_Di_file_49 : decode b_Di_file 49 = .ok (.invokevirtual 82, 3) := by decide +kernel
theorem d_Di_file_52 : decode b_Di_file 52 = .ok (.istore 7, 2) := by decide +kernel
theorem d_Di_file_54 : decode b_Di_file 54 = .ok (.aload_n 0, 1) := by decide +kernel
theorem d_Di_file_55 : decode b_Di_file 55 = .ok (.getfield 26, 3) := by decide +kernel
theorem d_Di_file_58 : decode b_Di_file 58 = .ok (.iload 7, 2) := by decide +kernel
theorem d_Di_file_60 : decode b_Di_file 60 = .ok (.invokevirtual 90, 3) := by decide +kernel
theorem d_Di_file_63 : decode b_Di_file 63 = .ok (.astore 8, 2) := by decide +kernel
theorem d_Di_file_65 : decode b_Di_file 65 = .ok (.aload 8, 2) := by decide +kernel
theorem d_Di_file_67 : decode b_Di_file 67 = .ok (.ifnull 12, 3) := by decide +kernel
theorem d_Di_file_79 : decode b_Di_file 79 = .ok (.iload 7, 2) := by decide +kernel
theorem d_Di_file_81 : decode b_Di_file 81 = .ok (.ireturn, 1) := by decide +kernel
theorem d_Di_file_70 : decode b_Di_file 70 = .ok (.aload 8, 2) := by decide +kernel
theorem d_Di_file_72 : decode b_Di_file 72 = .ok (.iload 4, 2) := by decide +kernel
theorem d_Di_file_74 : decode b_Di_file 74 = .ok (.iload 5, 2) := by decide +kernel
theorem d_Di_file_76 : decode b_Di_file 76 = .ok (.invokevirtual 93, 3) := by decide +kernel
theorem d_Di_file_13 : decode b_Di_file 13 = .ok (.bipush (-4), 2) := by decide +kernel
theorem d_Di_file_15 : decode b_Di_file 15 = .ok (.ireturn, 1) := by decide +kernel
theorem d_Di_remove_0 : decode b_Di_remove 0 = .ok (.aload_n 0, 1) := by decide +kernel
theorem d_Di_remove_1 : decode b_Di_remove 1 = .ok (.getfield 10, 3) := by decide +kernel
theorem d_Di_remove_4 : decode b_Di_remove 4 = .ok (.getfield 60, 3) := by decide +kernel
theorem d_Di_remove_7 : decode b_Di_remove 7 = .ok (.getfield 69, 3) := by decide +kernel
theorem d_Di_remove_10 : decode b_Di_remove 10 = .ok (.ifCond .eq 6, 3) := by decide +kernel
theorem d_Di_remove_16 : decode b_Di_remove 16 = .ok (.aload_n 0, 1) := by decide +kernel
theorem d_Di_remove_17 : decode b_Di_remove 17 = .ok (.getfield 26, 3) := by decide +kernel
theorem d_Di_remove_20 : decode b_Di_remove 20 = .ok (.iload_n 1, 1) := by decide +kernel
theorem d_Di_remove_21 : decode b_Di_remove 21 = .ok (.invokevirtual 90, 3) := by decide +kernel
theorem d_Di_remove_24 : decode b_Di_remove 24 = .ok (.astore_n 2, 1) := by decide +kernel
theorem d_Di_remove_25 : decode b_Di_remove 25 = .ok (.aload_n 2, 1) := by decide +kernel
theorem d_Di_remove_26 : decode b_Di_remove 26 = .ok (.ifnull 21, 3) := by decide +kernel
theorem d_Di_remove_47 : decode b_Di_remove 47 = .ok (.bipush (-2), 2) := by decide +kernel
theorem d_Di_remove_49 : decode b_Di_remove 49 = .ok (.ireturn, 1) := by decide +kernel
theorem d_Di_remove_29 : decode b_Di_remove 29 = .ok (.aload_n 2, 1) := by decide +kernel
theorem d_Di_remove_30 : decode b_Di_remove 30 = .ok (.getfield 100, 3) := by decide +kernel
theorem d_Di_remove_33 : decode b_Di_remove 33 = .ok (.ifnull 14, 3) := by decide +kernel
theorem d_Di_remove_36 : decode b_Di_remove 36 = .ok (.aload_n 0, 1) := by decide +kernel
theorem d_Di_remove_37 : decode b_Di_remove 37 = .ok (.getfield 26, 3) := by decide +kernel
theorem d_Di_remove_40 : decode b_Di_remove 40 = .ok (.aload_n 2, 1) := by decide +kernel
theorem d_Di_remove_41 : decode b_Di_remove 41 = .ok (.invokevirtual 104, 3) := by decide +kernel
theorem d_Di_remove_44 : decode b_Di_remove 44 = .ok (.ifCond .eq 6, 3) := by decide +kernel
theorem d_Di_remove_50 : decode b_Di_remove 50 = .ok (.aload_n 0, 1) := by decide +kernel
theorem d_Di_remove_51 : decode b_Di_remove 51 = .ok (.getfield 26, 3) := by decide +kernel
theorem d_Di_remove_54 : decode b_Di_remove 54 = .ok (.aload_n 2, 1) := by decide +kernel
theorem d_Di_remove_55 : decode b_Di_remove 55 = .ok (.invokevirtual 108, 3) := by decide +kernel
theorem d_Di_remove_58 : decode b_Di_remove 58 = .ok (.iconst 0, 1) := by decide +kernel
theorem d_Di_remove_59 : decode b_Di_remove 59 = .ok (.ireturn, 1) := by decide +kernel
theorem d_Di_remove_13 : decode b_Di_remove 13 = .ok (.bipush (-4), 2) := by decide +kernel
theorem d_Di_remove_15 : decode b_Di_remove 15 = .ok (.ireturn, 1) := by decide +kernel
theorem TrP_drop {τ : tM} {t : Nat → ClassId} {n f : Nat} {h h' : hM} {P x : Nat} (hI : TI τ t n h) (hP : τ P = (7, f)) (hT : TrP t h P) (hd : drP t h h' P x) (hlv : ndlv t h P x) (hno : ∀ s o c nn sl, Nds t h P s o c nn sl → ∀ a, live sl c.toInt.toNat a → prt h a ≠ some x) (hk : ∀ a, τ a = (10, f) → h' a = h a) : TrP t h' P := by
  obtain ⟨s, o, c, nn, sl, g1, g2, g3, g4⟩ := hT
  obtain ⟨s', o', c', nn', sl', q1, q2⟩ := hlv
  obtain ⟨rfl, rfl, rfl, rfl, rfl⟩ := Nds_eq g1 q1
  obtain ⟨c2, sl2, r1, r2, r3⟩ := hd _ _ _ _ _ g1 q2
  obtain ⟨t1, -, -⟩ := TJ_nds hI hP g1.1
  obtain ⟨t3, t4⟩ := TJ_slo hI t1 g1.2
  have hpos : 0 < c.toInt := by
    obtain ⟨i, hi, -⟩ := q2
    omega
  refine ⟨s, o, c2, nn, sl2, r1, by omega, by omega, Tr_drop g4 (hno _ _ _ _ _ g1) (fun a ⟨i, hi, hs⟩ => ?_) r3⟩
  obtain ⟨a', e1, e2⟩ := t3 i (by omega)
  obtain rfl : a' = a := Option.some.inj (e1.symm.trans hs)
  exact prt_nod (by simp [nod, hk a' e2])

set_option maxHeartbeats 4000000 in
set_option maxRecDepth 100000 in
theorem x_directory (l : Launch) (D : va_G) (t : Nat → ClassId) (G : hG) (ak av : Nat → Nat) (h : hM) (τ : tM) (n : Nat) (x9 : Nat) (a9 : Int32) (w9 : Int64) (hn : n ≤ 200) (hT : TI τ t n h) (T_x9 : τ x9 = (1, 0)) (hU : ∀ a b, τ a = (7, 0) → τ b = (7, 0) → a = b) (hTr : ∀ P, τ P = (7, 0) → TrP t h P) : Met l y_Di_directory (.code y_Di_directory b_Di_directory 5 (some .int) :: lw_g) { frames := 3, cells := 0, slots := 0, locals := 74 } (hP (kE D t G ak av) D vwCl G h [.ref x9, .int a9, .long w9]) (hQi D vwCl G (fun r h' => TI τ t n h' ∧ kf τ [(10, 0), (7, 0)] [] h h' ∧ (∀ P, τ P = (7, 0) → TrP t h' P))) 0 0 G.P := by
  refine Met.ofW (cc := b_Di_directory) (maxL := 5) (ret := (some .int)) (by decide) rfl ?_
  intro p e s m args below meth c s₁ Bd hml hv
  obtain ⟨ha, hE, hH⟩ := hv
  have hx := Bd.exec
  have hb := Bd.bytes
  have hr := Bd.returns
  have hts : ∀ w ∈ lw_g, w.before args s = true := fun w hw => atoms_spec (ws := (.code y_Di_directory b_Di_directory 5 (some .int) :: lw_g)) Bd.pre w (List.mem_cons_of_mem _ hw)
  have hown : s.vm.findClass R_Di = some m.cls := findClass_of_methodNamed Bd.named
  have hlocks := Bd.notSynchronized
  have hK := hE.1
  have hH0 := hH
  have hLo : hLc G.P [] := hLc_nil
  have hz : s.heap.size ≤ s.heap.size := Nat.le_refl _
  have hl := lv_entry [.ref x9, .int a9, .long w9] (n := 5) (Nat.le_of_ble_eq_true rfl)
  rw [show entryFrame m args 5 = F0 m 0 ((lg_sl [.ref x9, .int a9, .long w9] ++ List.replicate (5 - (lg_sl [.ref x9, .int a9, .long w9]).length) Slot.unset).toArray) [] from (by rw [ha]; exact lg_entry_eq m [.ref x9, .int a9, .long w9] 5)]
  generalize (lg_sl [.ref x9, .int a9, .long w9] ++ List.replicate (5 - (lg_sl [.ref x9, .int a9, .long w9]).length) Slot.unset).toArray = ls at hl ⊢
  have hl : lv_has ls 5 [(0, .ref x9), (1, .int a9), (2, .long w9)] := hl
  have hkf : kf τ [(10, 0), (7, 0)] [] h h := kf_rf
  refine lv_aload_n hx hb d_Di_directory_0 rfl (lv_at hl 0 rfl) ?_
  obtain ⟨v_1, v_3, v_5, v_7, v_9, v_11, v_12, v_14, v_16, F_x9, c_2, c_4, c_6, c_8, c_10, c_13, c_15, c_17⟩ := TI_disc hT T_x9
  refine hm_get (ci := 8) (v := .ref v_1) (C := R_Di) (T := F_Di) (N := 9) hx hb hts ig_Di hown hK hH F_x9 rfl 0 (by decide) (hts _ mw_430) (fun _ h9 => h9) rfl d_Di_directory_1 ?_
  obtain ⟨v_18, v_20, F_v_1, c_19, c_21⟩ := TI_wri hT c_2
  refine hm_get (ci := 7) (v := .ref v_18) (C := R_Wr) (T := F_Wr) (N := 2) hx hb hts ig_Wr hown hK hH F_v_1 rfl 0 (by decide) (hts _ mw_431) (fun _ h9 => h9) rfl d_Di_directory_4 ?_
  obtain ⟨v_22, v_23, v_25, F_v_18, c_24⟩ := TI_pow hT c_19
  refine hm_get (ci := 4) (v := .int v_23) (C := R_Po) (T := F_Po) (N := 3) hx hb hts ig_Po hown hK hH F_v_18 rfl 1 (by decide) (hts _ mw_442) (fun _ h9 => h9) rfl d_Di_directory_7 ?_
  refine lv_if_eq (tgt := 16) hx hb d_Di_directory_10 (by decide) (fun hc_26 => ?_) (fun hc_26 => ?_)
  · skip
    have ic_27 : v_23.toInt = 0 := congrArg Int32.toInt hc_26
    refine lv_aload_n hx hb d_Di_directory_16 rfl (lv_at hl 0 rfl) ?_
    refine hm_get (ci := 8) (v := .ref v_5) (C := R_Di) (T := F_Di) (N := 9) hx hb hts ig_Di hown hK hH F_x9 rfl 2 (by decide) (hts _ mw_443) (fun _ h9 => h9) rfl d_Di_directory_17 ?_
    refine lv_iload_n hx hb d_Di_directory_20 rfl (lv_at hl 1 rfl) ?_
    obtain ⟨v_28, v_30, v_32, v_34, F_v_5, c_29, c_31, c_33⟩ := TI_nds hT c_6
    refine hm_callPr (va_runV (As := [.int a9]) (b := v_5) (rest := []) ⟨hx, hb, hml, hown, hts⟩ (t_dirOf l D t G ak av h τ n 0 v_5 a9  hn hT c_6) ⟨cw9B 1 hts mw_462 mw_463 mw_132 rfl rfl (by decide +kernel) ⟨Nat.le_of_ble_eq_true rfl, Nat.le_of_ble_eq_true rfl⟩, hts _ mw_464, hts _ mw_465⟩ (hP_V (q := (R_Ns, F_Ns, 4)) kE_ok hE hK hH F_v_5 rfl) rfl rfl hl.1 rfl (lv_room (Nat.le_of_ble_eq_true rfl)) d_Di_directory_21 ⟨Nat.le_of_ble_eq_true rfl, Nat.le_of_ble_eq_true rfl⟩) (fun r_35 h_36 H_37 hp_39  hH z_38 => ?_)
    have hz : s.heap.size ≤ H_37.size := Nat.le_trans hz z_38
    obtain ⟨c_40, xp_41, rfl⟩ := hp_39
    have T_P := c_6
    rcases r_35 with _ | q_42
    · skip
      refine lv_astoreN (lv' := [(4, .null), (0, .ref x9), (1, .int a9), (2, .long w9)]) hx hb d_Di_directory_24 hl (by decide) rfl (fun ls hl => ?_)
      refine lv_aloadN hx hb d_Di_directory_26 (lv_at hl 0 rfl) ?_
      refine lv_ifnullN (tgt := 41) hx hb d_Di_directory_28 (by decide) ?_
      refine lv_bipush (v := -2) hx hb d_Di_directory_41 (by decide) ?_
      exact W.iret (v := (-2)) hx hb hr (fun t9 ht hW => ⟨(-2), h, rfl, ⟨hT, hkf, hTr⟩, by rw [ht]; exact hH, by rw [ht]; exact hz⟩) hLo d_Di_directory_43
    · skip
      have T_43 := c_40 q_42 rfl
      refine lv_astore (lv' := [(4, .ref q_42), (0, .ref x9), (1, .int a9), (2, .long w9)]) hx hb d_Di_directory_24 hl (by decide) rfl (fun ls hl => ?_)
      refine lv_aload hx hb d_Di_directory_26 (lv_at hl 0 rfl) ?_
      refine lv_ifnull hx hb d_Di_directory_28 ?_
      refine lv_aload hx hb d_Di_directory_31 (lv_at hl 0 rfl) ?_
      obtain ⟨v_44, v_45, v_47, v_49, v_50, v_52, v_53, v_54, v_56, v_57, v_58, F_q_42, c_46, c_48, c_51, c_55⟩ := TI_node hT T_43
      refine hm_callPi (va_runV (As := []) (b := q_42) (rest := []) ⟨hx, hb, hml, hown, hts⟩ (t_depth l D t G ak av h τ n 0 q_42  hn hT T_43 (ndl_ch (xp_41 q_42 rfl) (hTr _ T_P))) ⟨cw9B 0 hts mw_143 mw_466 mw_106 rfl rfl (by decide +kernel) ⟨Nat.le_of_ble_eq_true rfl, Nat.le_of_ble_eq_true rfl⟩, hts _ mw_145, hts _ mw_146⟩ (hP_V (q := (R_No, F_No, 11)) kE_ok hE hK hH F_q_42 rfl) rfl rfl hl.1 rfl (lv_room (Nat.le_of_ble_eq_true rfl)) d_Di_directory_33 ⟨Nat.le_of_ble_eq_true rfl, Nat.le_of_ble_eq_true rfl⟩) (fun r_59 h_60 H_61 hp_63  hH z_62 => ?_)
      have hz : s.heap.size ≤ H_61.size := Nat.le_trans hz z_62
      obtain rfl := hp_63
      refine lv_bipush (v := 6) hx hb d_Di_directory_36 (by decide) ?_
      refine lv_icmp_lt (tgt := 44) hx hb d_Di_directory_38 (by decide) (fun hc_65 => ?_) (fun hc_65 => ?_)
      · skip
        have ic_66 : r_59.toInt < 6 := iLt hc_65
        refine lv_aload_n hx hb d_Di_directory_44 rfl (lv_at hl 1 rfl) ?_
        refine lv_aload hx hb d_Di_directory_45 (lv_at hl 0 rfl) ?_
        refine lv_iconst (v := 1) hx hb d_Di_directory_47 (by decide) ?_
        refine lv_lload_n hx hb d_Di_directory_48 rfl (lv_at hl 3 rfl) ?_
        refine hm_calli (va_runV (As := [.ref q_42, .int 1, .long w9]) (b := x9) (rest := []) ⟨hx, hb, hml, hown, hts⟩ (x_added l D t G ak av h τ n x9 q_42 (1 : Int32) w9  hn hT T_x9 T_43 zb1 hU hTr (fun P hP => by obtain rfl := hU v_5 P T_P hP; exact ndl_lv (xp_41 q_42 rfl))) ⟨cw9B 3 hts mw_467 mw_468 mw_25 rfl rfl (by decide +kernel) ⟨Nat.le_of_ble_eq_true rfl, Nat.le_of_ble_eq_true rfl⟩, hts _ mw_469, hts _ mw_470⟩ (hP_V (q := (R_Di, F_Di, 9)) kE_ok hE hK hH F_x9 rfl) rfl rfl hl.1 rfl (lv_room (Nat.le_of_ble_eq_true rfl)) d_Di_directory_49 ⟨Nat.le_of_ble_eq_true rfl, Nat.le_of_ble_eq_true rfl⟩) hLo (fun r_67 h_68 H_69 locs hp_71 hH z_70 hLo => ?_)
        have hz : s.heap.size ≤ H_69.size := Nat.le_trans hz z_70
        have hT0 := hT
        obtain ⟨hT, kf_73, xp_72⟩ := hp_71
        have F_x9 : h_68 x9 = some (.inr (8, [.ref v_1, .ref v_3, .ref v_5, .ref v_7, va_rf v_9, .int v_11, .int v_12, .ref v_14, .ref v_16])) := kf_at kf_73 T_x9 (by decide) (tnc (by decide) (tnc (by decide) tn0)) nm0 F_x9
        have F_v_1 : h_68 v_1 = some (.inr (7, [.ref v_18, .ref v_20])) := kf_at kf_73 c_2 (by decide) (tnc (by decide) (tnc (by decide) tn0)) nm0 F_v_1
        have F_v_18 : h_68 v_18 = some (.inr (4, [.int v_22, .int v_23, .int v_25])) := kf_at kf_73 c_19 (by decide) (tnc (by decide) (tnc (by decide) tn0)) nm0 F_v_18
        have hkf : kf τ [(10, 0), (7, 0)] [] h h_68 := kf_tr hkf kf_73 (List.forall_mem_cons.mpr ⟨List.mem_cons_self, List.forall_mem_cons.mpr ⟨(List.mem_cons_of_mem _ List.mem_cons_self), List.forall_mem_nil _⟩⟩) (List.forall_mem_nil _)
        have hTr := xp_72
        exact W.iret (v := r_67) hx hb hr (fun t9 ht hW => ⟨r_67, h_68, rfl, ⟨hT, hkf, hTr⟩, by rw [ht]; exact hH, by rw [ht]; exact hz⟩) hLo d_Di_directory_52
      · skip
        have ic_74 : 6 ≤ r_59.toInt := iNl hc_65
        refine lv_bipush (v := -2) hx hb d_Di_directory_41 (by decide) ?_
        exact W.iret (v := (-2)) hx hb hr (fun t9 ht hW => ⟨(-2), h, rfl, ⟨hT, hkf, hTr⟩, by rw [ht]; exact hH, by rw [ht]; exact hz⟩) hLo d_Di_directory_43
  · skip
    refine lv_bipush (v := -4) hx hb d_Di_directory_13 (by decide) ?_
    exact W.iret (v := (-4)) hx hb hr (fun t9 ht hW => ⟨(-4), h, rfl, ⟨hT, hkf, hTr⟩, by rw [ht]; exact hH, by rw [ht]; exact hz⟩) hLo d_Di_directory_15

set_option maxHeartbeats 4000000 in
set_option maxRecDepth 100000 in
theorem x_file (l : Launch) (D : va_G) (t : Nat → ClassId) (G : hG) (ak av : Nat → Nat) (h : hM) (τ : tM) (n : Nat) (x9 : Nat) (a9 : Int32) (w9 : Int64) (b9 : Int32) (c9 : Int32) (hn : n ≤ 200) (hT : TI τ t n h) (T_x9 : τ x9 = (1, 0)) (hU : ∀ a b, τ a = (7, 0) → τ b = (7, 0) → a = b) (hTr : ∀ P, τ P = (7, 0) → TrP t h P) : Met l y_Di_file (.code y_Di_file b_Di_file 9 (some .int) :: lw_g) { frames := 3, cells := 0, slots := 0, locals := 74 } (hP (kE D t G ak av) D vwCl G h [.ref x9, .int a9, .long w9, .int b9, .int c9]) (hQi D vwCl G (fun r h' => TI τ t n h' ∧ kf τ [(10, 0), (7, 0)] [] h h' ∧ (∀ P, τ P = (7, 0) → TrP t h' P))) 0 0 G.P := by
  refine Met.ofW (cc := b_Di_file) (maxL := 9) (ret := (some .int)) (by decide) rfl ?_
  intro p e s m args below meth c s₁ Bd hml hv
  obtain ⟨ha, hE, hH⟩ := hv
  have hx := Bd.exec
  have hb := Bd.bytes
  have hr := Bd.returns
  have hts : ∀ w ∈ lw_g, w.before args s = true := fun w hw => atoms_spec (ws := (.code y_Di_file b_Di_file 9 (some .int) :: lw_g)) Bd.pre w (List.mem_cons_of_mem _ hw)
  have hown : s.vm.findClass R_Di = some m.cls := findClass_of_methodNamed Bd.named
  have hlocks := Bd.notSynchronized
  have hK := hE.1
  have hH0 := hH
  have hLo : hLc G.P [] := hLc_nil
  have hz : s.heap.size ≤ s.heap.size := Nat.le_refl _
  have hl := lv_entry [.ref x9, .int a9, .long w9, .int b9, .int c9] (n := 9) (Nat.le_of_ble_eq_true rfl)
  rw [show entryFrame m args 9 = F0 m 0 ((lg_sl [.ref x9, .int a9, .long w9, .int b9, .int c9] ++ List.replicate (9 - (lg_sl [.ref x9, .int a9, .long w9, .int b9, .int c9]).length) Slot.unset).toArray) [] from (by rw [ha]; exact lg_entry_eq m [.ref x9, .int a9, .long w9, .int b9, .int c9] 9)]
  generalize (lg_sl [.ref x9, .int a9, .long w9, .int b9, .int c9] ++ List.replicate (9 - (lg_sl [.ref x9, .int a9, .long w9, .int b9, .int c9]).length) Slot.unset).toArray = ls at hl ⊢
  have hl : lv_has ls 9 [(0, .ref x9), (1, .int a9), (2, .long w9), (4, .int b9), (5, .int c9)] := hl
  have hkf : kf τ [(10, 0), (7, 0)] [] h h := kf_rf
  refine lv_aload_n hx hb d_Di_file_0 rfl (lv_at hl 0 rfl) ?_
  obtain ⟨v_1, v_3, v_5, v_7, v_9, v_11, v_12, v_14, v_16, F_x9, c_2, c_4, c_6, c_8, c_10, c_13, c_15, c_17⟩ := TI_disc hT T_x9
  refine hm_get (ci := 8) (v := .ref v_1) (C := R_Di) (T := F_Di) (N := 9) hx hb hts ig_Di hown hK hH F_x9 rfl 0 (by decide) (hts _ mw_430) (fun _ h9 => h9) rfl d_Di_file_1 ?_
  obtain ⟨v_18, v_20, F_v_1, c_19, c_21⟩ := TI_wri hT c_2
  refine hm_get (ci := 7) (v := .ref v_18) (C := R_Wr) (T := F_Wr) (N := 2) hx hb hts ig_Wr hown hK hH F_v_1 rfl 0 (by decide) (hts _ mw_431) (fun _ h9 => h9) rfl d_Di_file_4 ?_
  obtain ⟨v_22, v_23, v_25, F_v_18, c_24⟩ := TI_pow hT c_19
  refine hm_get (ci := 4) (v := .int v_23) (C := R_Po) (T := F_Po) (N := 3) hx hb hts ig_Po hown hK hH F_v_18 rfl 1 (by decide) (hts _ mw_442) (fun _ h9 => h9) rfl d_Di_file_7 ?_
  refine lv_if_eq (tgt := 16) hx hb d_Di_file_10 (by decide) (fun hc_26 => ?_) (fun hc_26 => ?_)
  · skip
    have ic_27 : v_23.toInt = 0 := congrArg Int32.toInt hc_26
    refine lv_aload_n hx hb d_Di_file_16 rfl (lv_at hl 0 rfl) ?_
    refine hm_get (ci := 8) (v := .ref v_5) (C := R_Di) (T := F_Di) (N := 9) hx hb hts ig_Di hown hK hH F_x9 rfl 2 (by decide) (hts _ mw_443) (fun _ h9 => h9) rfl d_Di_file_17 ?_
    refine lv_iload_n hx hb d_Di_file_20 rfl (lv_at hl 1 rfl) ?_
    obtain ⟨v_28, v_30, v_32, v_34, F_v_5, c_29, c_31, c_33⟩ := TI_nds hT c_6
    refine hm_callPr (va_runV (As := [.int a9]) (b := v_5) (rest := []) ⟨hx, hb, hml, hown, hts⟩ (t_dirOf l D t G ak av h τ n 0 v_5 a9  hn hT c_6) ⟨cw9B 1 hts mw_462 mw_463 mw_132 rfl rfl (by decide +kernel) ⟨Nat.le_of_ble_eq_true rfl, Nat.le_of_ble_eq_true rfl⟩, hts _ mw_464, hts _ mw_465⟩ (hP_V (q := (R_Ns, F_Ns, 4)) kE_ok hE hK hH F_v_5 rfl) rfl rfl hl.1 rfl (lv_room (Nat.le_of_ble_eq_true rfl)) d_Di_file_21 ⟨Nat.le_of_ble_eq_true rfl, Nat.le_of_ble_eq_true rfl⟩) (fun r_35 h_36 H_37 hp_39  hH z_38 => ?_)
    have hz : s.heap.size ≤ H_37.size := Nat.le_trans hz z_38
    obtain ⟨c_40, xp_41, rfl⟩ := hp_39
    have T_P := c_6
    rcases r_35 with _ | q_42
    · skip
      refine lv_astoreN (lv' := [(6, .null), (0, .ref x9), (1, .int a9), (2, .long w9), (4, .int b9), (5, .int c9)]) hx hb d_Di_file_24 hl (by decide) rfl (fun ls hl => ?_)
      refine lv_aloadN hx hb d_Di_file_26 (lv_at hl 0 rfl) ?_
      refine lv_ifnullN (tgt := 41) hx hb d_Di_file_28 (by decide) ?_
      refine lv_bipush (v := -2) hx hb d_Di_file_41 (by decide) ?_
      exact W.iret (v := (-2)) hx hb hr (fun t9 ht hW => ⟨(-2), h, rfl, ⟨hT, hkf, hTr⟩, by rw [ht]; exact hH, by rw [ht]; exact hz⟩) hLo d_Di_file_43
    · skip
      have T_43 := c_40 q_42 rfl
      refine lv_astore (lv' := [(6, .ref q_42), (0, .ref x9), (1, .int a9), (2, .long w9), (4, .int b9), (5, .int c9)]) hx hb d_Di_file_24 hl (by decide) rfl (fun ls hl => ?_)
      refine lv_aload hx hb d_Di_file_26 (lv_at hl 0 rfl) ?_
      refine lv_ifnull hx hb d_Di_file_28 ?_
      refine lv_iload hx hb d_Di_file_31 (lv_at hl 4 rfl) ?_
      refine lv_iload hx hb d_Di_file_33 (lv_at hl 5 rfl) ?_
      refine hm_callPi (va_runS (As := [.int b9, .int c9]) (rest := []) ⟨hx, hb, hml, hown, hts⟩ (t_isContent l D t G ak av h τ n b9 c9  hn hT ) ⟨cw9B 2 hts mw_446 mw_447 mw_25 rfl rfl (by decide +kernel) ⟨Nat.le_of_ble_eq_true rfl, Nat.le_of_ble_eq_true rfl⟩, hts _ mw_448⟩ (hP_S kE_ok hE hH) rfl rfl hl.1 rfl (lv_room (Nat.le_of_ble_eq_true rfl)) d_Di_file_35 ⟨Nat.le_of_ble_eq_true rfl, Nat.le_of_ble_eq_true rfl⟩) (fun r_44 h_45 H_46 hp_48  hH z_47 => ?_)
      have hz : s.heap.size ≤ H_46.size := Nat.le_trans hz z_47
      obtain ⟨c_49, rfl⟩ := hp_48
      refine lv_if_ne (tgt := 44) hx hb d_Di_file_38 (by decide) (fun hc_51 => ?_) (fun hc_51 => ?_)
      · skip
        refine lv_aload_n hx hb d_Di_file_44 rfl (lv_at hl 1 rfl) ?_
        refine lv_aload hx hb d_Di_file_45 (lv_at hl 0 rfl) ?_
        refine lv_iconst (v := 0) hx hb d_Di_file_47 (by decide) ?_
        refine lv_lload_n hx hb d_Di_file_48 rfl (lv_at hl 3 rfl) ?_
        refine hm_calli (va_runV (As := [.ref q_42, .int 0, .long w9]) (b := x9) (rest := []) ⟨hx, hb, hml, hown, hts⟩ (x_added l D t G ak av h τ n x9 q_42 (0 : Int32) w9  hn hT T_x9 T_43 zb0 hU hTr (fun P hP => by obtain rfl := hU v_5 P T_P hP; exact ndl_lv (xp_41 q_42 rfl))) ⟨cw9B 3 hts mw_467 mw_468 mw_25 rfl rfl (by decide +kernel) ⟨Nat.le_of_ble_eq_true rfl, Nat.le_of_ble_eq_true rfl⟩, hts _ mw_469, hts _ mw_470⟩ (hP_V (q := (R_Di, F_Di, 9)) kE_ok hE hK hH F_x9 rfl) rfl rfl hl.1 rfl (lv_room (Nat.le_of_ble_eq_true rfl)) d_Di_file_49 ⟨Nat.le_of_ble_eq_true rfl, Nat.le_of_ble_eq_true rfl⟩) hLo (fun r_52 h_53 H_54 locs hp_56 hH z_55 hLo => ?_)
        have hz : s.heap.size ≤ H_54.size := Nat.le_trans hz z_55
        have hT0 := hT
        obtain ⟨hT, kf_58, xp_57⟩ := hp_56
        have F_x9 : h_53 x9 = some (.inr (8, [.ref v_1, .ref v_3, .ref v_5, .ref v_7, va_rf v_9, .int v_11, .int v_12, .ref v_14, .ref v_16])) := kf_at kf_58 T_x9 (by decide) (tnc (by decide) (tnc (by decide) tn0)) nm0 F_x9
        have F_v_1 : h_53 v_1 = some (.inr (7, [.ref v_18, .ref v_20])) := kf_at kf_58 c_2 (by decide) (tnc (by decide) (tnc (by decide) tn0)) nm0 F_v_1
        have F_v_18 : h_53 v_18 = some (.inr (4, [.int v_22, .int v_23, .int v_25])) := kf_at kf_58 c_19 (by decide) (tnc (by decide) (tnc (by decide) tn0)) nm0 F_v_18
        have hkf : kf τ [(10, 0), (7, 0)] [] h h_53 := kf_tr hkf kf_58 (List.forall_mem_cons.mpr ⟨List.mem_cons_self, List.forall_mem_cons.mpr ⟨(List.mem_cons_of_mem _ List.mem_cons_self), List.forall_mem_nil _⟩⟩) (List.forall_mem_nil _)
        have hTr := xp_57
        refine lv_istore (lv' := [(7, .int r_52), (6, .ref q_42), (0, .ref x9), (1, .int a9), (2, .long w9), (4, .int b9), (5, .int c9)]) hx hb d_Di_file_52 hl (by decide) rfl (fun ls hl => ?_)
        refine lv_aload_n hx hb d_Di_file_54 rfl (lv_at hl 2 rfl) ?_
        refine hm_get (ci := 8) (v := .ref v_5) (C := R_Di) (T := F_Di) (N := 9) hx hb hts ig_Di hown hK hH F_x9 rfl 2 (by decide) (hts _ mw_443) (fun _ h9 => h9) rfl d_Di_file_55 ?_
        refine lv_iload hx hb d_Di_file_58 (lv_at hl 0 rfl) ?_
        obtain ⟨v_59, v_61, v_63, v_65, F_v_5, c_60, c_62, c_64⟩ := TI_nds hT c_6
        refine hm_callPr (va_runV (As := [.int r_52]) (b := v_5) (rest := []) ⟨hx, hb, hml, hown, hts⟩ (t_nodeOf l D t G ak av h_53 τ n 0 v_5 r_52  hn hT c_6) ⟨cw9B 1 hts mw_131 mw_444 mw_132 rfl rfl (by decide +kernel) ⟨Nat.le_of_ble_eq_true rfl, Nat.le_of_ble_eq_true rfl⟩, hts _ mw_134, hts _ mw_135⟩ (hP_V (q := (R_Ns, F_Ns, 4)) kE_ok hE hK hH F_v_5 rfl) rfl rfl hl.1 rfl (lv_room (Nat.le_of_ble_eq_true rfl)) d_Di_file_60 ⟨Nat.le_of_ble_eq_true rfl, Nat.le_of_ble_eq_true rfl⟩) (fun r_66 h_67 H_68 hp_70  hH z_69 => ?_)
        have hz : s.heap.size ≤ H_68.size := Nat.le_trans hz z_69
        obtain ⟨c_71, xp_72, rfl⟩ := hp_70
        rcases r_66 with _ | q_73
        · skip
          refine lv_astoreN (lv' := [(8, .null), (7, .int r_52), (6, .ref q_42), (0, .ref x9), (1, .int a9), (2, .long w9), (4, .int b9), (5, .int c9)]) hx hb d_Di_file_63 hl (by decide) rfl (fun ls hl => ?_)
          refine lv_aloadN hx hb d_Di_file_65 (lv_at hl 0 rfl) ?_
          refine lv_ifnullN (tgt := 79) hx hb d_Di_file_67 (by decide) ?_
          refine lv_iload hx hb d_Di_file_79 (lv_at hl 1 rfl) ?_
          exact W.iret (v := r_52) hx hb hr (fun t9 ht hW => ⟨r_52, h_53, rfl, ⟨hT, hkf, hTr⟩, by rw [ht]; exact hH, by rw [ht]; exact hz⟩) hLo d_Di_file_81
        · skip
          have T_74 := c_71 q_73 rfl
          refine lv_astore (lv' := [(8, .ref q_73), (7, .int r_52), (6, .ref q_42), (0, .ref x9), (1, .int a9), (2, .long w9), (4, .int b9), (5, .int c9)]) hx hb d_Di_file_63 hl (by decide) rfl (fun ls hl => ?_)
          refine lv_aload hx hb d_Di_file_65 (lv_at hl 0 rfl) ?_
          refine lv_ifnull hx hb d_Di_file_67 ?_
          refine lv_aload hx hb d_Di_file_70 (lv_at hl 0 rfl) ?_
          refine lv_iload hx hb d_Di_file_72 (lv_at hl 6 rfl) ?_
          refine lv_iload hx hb d_Di_file_74 (lv_at hl 7 rfl) ?_
          obtain ⟨v_75, v_76, v_78, v_80, v_81, v_83, v_84, v_85, v_87, v_88, v_89, F_q_73, c_77, c_79, c_82, c_86⟩ := TI_node hT T_74
          refine hm_callv (va_runV (As := [.int b9, .int c9]) (b := q_73) (rest := []) ⟨hx, hb, hml, hown, hts⟩ (t_takeContent l D t G ak av h_53 τ n 0 q_73 b9 c9  hn hT T_74) ⟨cw9B 2 hts mw_120 mw_449 mw_106 rfl rfl (by decide +kernel) ⟨Nat.le_of_ble_eq_true rfl, Nat.le_of_ble_eq_true rfl⟩, hts _ mw_122, hts _ mw_123⟩ (hP_V (q := (R_No, F_No, 11)) kE_ok hE hK hH F_q_73 rfl) rfl rfl hl.1 rfl (lv_room (Nat.le_of_ble_eq_true rfl)) d_Di_file_76 ⟨Nat.le_of_ble_eq_true rfl, Nat.le_of_ble_eq_true rfl⟩) hLo (fun h_90 H_91 locs hp_93 hH z_92 hLo => ?_)
          have hz : s.heap.size ≤ H_91.size := Nat.le_trans hz z_92
          have hT0 := hT
          obtain ⟨hT, kf_95, xk_96⟩ := hp_93
          have F_x9 : h_90 x9 = some (.inr (8, [.ref v_1, .ref v_3, .ref v_5, .ref v_7, va_rf v_9, .int v_11, .int v_12, .ref v_14, .ref v_16])) := kf_at kf_95 T_x9 (by decide) tn0 (nmc (tne T_x9 T_74 (by decide)) nm0) F_x9
          have F_v_1 : h_90 v_1 = some (.inr (7, [.ref v_18, .ref v_20])) := kf_at kf_95 c_2 (by decide) tn0 (nmc (tne c_2 T_74 (by decide)) nm0) F_v_1
          have F_v_18 : h_90 v_18 = some (.inr (4, [.int v_22, .int v_23, .int v_25])) := kf_at kf_95 c_19 (by decide) tn0 (nmc (tne c_19 T_74 (by decide)) nm0) F_v_18
          have F_v_5 : h_90 v_5 = some (.inr (2, [.ref v_59, .ref v_61, .int v_63, .int v_65])) := kf_at kf_95 c_6 (by decide) tn0 (nmc (tne c_6 T_74 (by decide)) nm0) F_v_5
          have hkf : kf τ [(10, 0), (7, 0)] [] h h_90 := kf_tr hkf kf_95 (List.forall_mem_nil _) (List.forall_mem_cons.mpr ⟨Or.inr (by rw [T_74]; exact List.mem_cons_self), List.forall_mem_nil _⟩)
          have hTr : ∀ P, τ P = (7, 0) → TrP t h_90 P := fun P hP => TrP_same hT0 hP (hTr P hP) (kf_95 P (by rw [hP]; exact Nat.succ_ne_zero _) tn0 (nmc (tne hP T_74 (by decide)) nm0)) (fun s9 hs9 => kf_95 s9 (by rw [hs9]; exact Nat.succ_ne_zero _) tn0 (nmc (tne hs9 T_74 (by decide)) nm0)) xk_96
          refine lv_iload hx hb d_Di_file_79 (lv_at hl 1 rfl) ?_
          exact W.iret (v := r_52) hx hb hr (fun t9 ht hW => ⟨r_52, h_90, rfl, ⟨hT, hkf, hTr⟩, by rw [ht]; exact hH, by rw [ht]; exact hz⟩) hLo d_Di_file_81
      · skip
        have ic_97 : r_44.toInt = 0 := congrArg Int32.toInt hc_51
        refine lv_bipush (v := -2) hx hb d_Di_file_41 (by decide) ?_
        exact W.iret (v := (-2)) hx hb hr (fun t9 ht hW => ⟨(-2), h, rfl, ⟨hT, hkf, hTr⟩, by rw [ht]; exact hH, by rw [ht]; exact hz⟩) hLo d_Di_file_43
  · skip
    refine lv_bipush (v := -4) hx hb d_Di_file_13 (by decide) ?_
    exact W.iret (v := (-4)) hx hb hr (fun t9 ht hW => ⟨(-4), h, rfl, ⟨hT, hkf, hTr⟩, by rw [ht]; exact hH, by rw [ht]; exact hz⟩) hLo d_Di_file_15

set_option maxHeartbeats 4000000 in
set_option maxRecDepth 100000 in
theorem x_remove (l : Launch) (D : va_G) (t : Nat → ClassId) (G : hG) (ak av : Nat → Nat) (h : hM) (τ : tM) (n : Nat) (x9 : Nat) (a9 : Int32) (hn : n ≤ 200) (hT : TI τ t n h) (T_x9 : τ x9 = (1, 0)) (hU : ∀ a b, τ a = (7, 0) → τ b = (7, 0) → a = b) (hTr : ∀ P, τ P = (7, 0) → TrP t h P) : Met l y_Di_remove (.code y_Di_remove b_Di_remove 3 (some .int) :: lw_g) { frames := 1, cells := 0, slots := 0, locals := 23 } (hP (kE D t G ak av) D vwCl G h [.ref x9, .int a9]) (hQi D vwCl G (fun r h' => TI τ t n h' ∧ kf τ [(8, 0), (7, 0)] [] h h' ∧ (∀ P, τ P = (7, 0) → TrP t h' P))) 0 0 G.P := by
  refine Met.ofW (cc := b_Di_remove) (maxL := 3) (ret := (some .int)) (by decide) rfl ?_
  intro p e s m args below meth c s₁ Bd hml hv
  obtain ⟨ha, hE, hH⟩ := hv
  have hx := Bd.exec
  have hb := Bd.bytes
  have hr := Bd.returns
  have hts : ∀ w ∈ lw_g, w.before args s = true := fun w hw => atoms_spec (ws := (.code y_Di_remove b_Di_remove 3 (some .int) :: lw_g)) Bd.pre w (List.mem_cons_of_mem _ hw)
  have hown : s.vm.findClass R_Di = some m.cls := findClass_of_methodNamed Bd.named
  have hlocks := Bd.notSynchronized
  have hK := hE.1
  have hH0 := hH
  have hLo : hLc G.P [] := hLc_nil
  have hz : s.heap.size ≤ s.heap.size := Nat.le_refl _
  have hl := lv_entry [.ref x9, .int a9] (n := 3) (Nat.le_of_ble_eq_true rfl)
  rw [show entryFrame m args 3 = F0 m 0 ((lg_sl [.ref x9, .int a9] ++ List.replicate (3 - (lg_sl [.ref x9, .int a9]).length) Slot.unset).toArray) [] from (by rw [ha]; exact lg_entry_eq m [.ref x9, .int a9] 3)]
  generalize (lg_sl [.ref x9, .int a9] ++ List.replicate (3 - (lg_sl [.ref x9, .int a9]).length) Slot.unset).toArray = ls at hl ⊢
  have hl : lv_has ls 3 [(0, .ref x9), (1, .int a9)] := hl
  have hkf : kf τ [(8, 0), (7, 0)] [] h h := kf_rf
  refine lv_aload_n hx hb d_Di_remove_0 rfl (lv_at hl 0 rfl) ?_
  obtain ⟨v_1, v_3, v_5, v_7, v_9, v_11, v_12, v_14, v_16, F_x9, c_2, c_4, c_6, c_8, c_10, c_13, c_15, c_17⟩ := TI_disc hT T_x9
  refine hm_get (ci := 8) (v := .ref v_1) (C := R_Di) (T := F_Di) (N := 9) hx hb hts ig_Di hown hK hH F_x9 rfl 0 (by decide) (hts _ mw_430) (fun _ h9 => h9) rfl d_Di_remove_1 ?_
  obtain ⟨v_18, v_20, F_v_1, c_19, c_21⟩ := TI_wri hT c_2
  refine hm_get (ci := 7) (v := .ref v_18) (C := R_Wr) (T := F_Wr) (N := 2) hx hb hts ig_Wr hown hK hH F_v_1 rfl 0 (by decide) (hts _ mw_431) (fun _ h9 => h9) rfl d_Di_remove_4 ?_
  obtain ⟨v_22, v_23, v_25, F_v_18, c_24⟩ := TI_pow hT c_19
  refine hm_get (ci := 4) (v := .int v_23) (C := R_Po) (T := F_Po) (N := 3) hx hb hts ig_Po hown hK hH F_v_18 rfl 1 (by decide) (hts _ mw_442) (fun _ h9 => h9) rfl d_Di_remove_7 ?_
  refine lv_if_eq (tgt := 16) hx hb d_Di_remove_10 (by decide) (fun hc_26 => ?_) (fun hc_26 => ?_)
  · skip
    have ic_27 : v_23.toInt = 0 := congrArg Int32.toInt hc_26
    refine lv_aload_n hx hb d_Di_remove_16 rfl (lv_at hl 0 rfl) ?_
    refine hm_get (ci := 8) (v := .ref v_5) (C := R_Di) (T := F_Di) (N := 9) hx hb hts ig_Di hown hK hH F_x9 rfl 2 (by decide) (hts _ mw_443) (fun _ h9 => h9) rfl d_Di_remove_17 ?_
    refine lv_iload_n hx hb d_Di_remove_20 rfl (lv_at hl 1 rfl) ?_
    obtain ⟨v_28, v_30, v_32, v_34, F_v_5, c_29, c_31, c_33⟩ := TI_nds hT c_6
    refine hm_callPr (va_runV (As := [.int a9]) (b := v_5) (rest := []) ⟨hx, hb, hml, hown, hts⟩ (t_nodeOf l D t G ak av h τ n 0 v_5 a9  hn hT c_6) ⟨cw9B 1 hts mw_131 mw_444 mw_132 rfl rfl (by decide +kernel) ⟨Nat.le_of_ble_eq_true rfl, Nat.le_of_ble_eq_true rfl⟩, hts _ mw_134, hts _ mw_135⟩ (hP_V (q := (R_Ns, F_Ns, 4)) kE_ok hE hK hH F_v_5 rfl) rfl rfl hl.1 rfl (lv_room (Nat.le_of_ble_eq_true rfl)) d_Di_remove_21 ⟨Nat.le_of_ble_eq_true rfl, Nat.le_of_ble_eq_true rfl⟩) (fun r_35 h_36 H_37 hp_39  hH z_38 => ?_)
    have hz : s.heap.size ≤ H_37.size := Nat.le_trans hz z_38
    obtain ⟨c_40, xp_41, rfl⟩ := hp_39
    have T_P := c_6
    rcases r_35 with _ | q_42
    · skip
      refine lv_astore_nN (lv' := [(2, .null), (0, .ref x9), (1, .int a9)]) hx hb d_Di_remove_24 rfl hl (by decide) rfl (fun ls hl => ?_)
      refine lv_aload_nN hx hb d_Di_remove_25 rfl (lv_at hl 0 rfl) ?_
      refine lv_ifnullN (tgt := 47) hx hb d_Di_remove_26 (by decide) ?_
      refine lv_bipush (v := -2) hx hb d_Di_remove_47 (by decide) ?_
      exact W.iret (v := (-2)) hx hb hr (fun t9 ht hW => ⟨(-2), h, rfl, ⟨hT, hkf, hTr⟩, by rw [ht]; exact hH, by rw [ht]; exact hz⟩) hLo d_Di_remove_49
    · skip
      have T_43 := c_40 q_42 rfl
      refine lv_astore_n (lv' := [(2, .ref q_42), (0, .ref x9), (1, .int a9)]) hx hb d_Di_remove_24 rfl hl (by decide) rfl (fun ls hl => ?_)
      refine lv_aload_n hx hb d_Di_remove_25 rfl (lv_at hl 0 rfl) ?_
      refine lv_ifnull hx hb d_Di_remove_26 ?_
      refine lv_aload_n hx hb d_Di_remove_29 rfl (lv_at hl 0 rfl) ?_
      obtain ⟨v_44, v_45, v_47, v_49, v_50, v_52, v_53, v_54, v_56, v_57, v_58, F_q_42, c_46, c_48, c_51, c_55⟩ := TI_node hT T_43
      refine hm_get (ci := 1) (v := va_rf v_45) (C := R_No) (T := F_No) (N := 11) hx hb hts ig_No hown hK hH F_q_42 rfl 1 (by decide) (hts _ mw_471) (fun _ h9 => h9) rfl d_Di_remove_30 ?_
      rcases v_45 with _ | q_59
      · skip
        refine lv_ifnullN (tgt := 47) hx hb d_Di_remove_33 (by decide) ?_
        refine lv_bipush (v := -2) hx hb d_Di_remove_47 (by decide) ?_
        exact W.iret (v := (-2)) hx hb hr (fun t9 ht hW => ⟨(-2), h, rfl, ⟨hT, hkf, hTr⟩, by rw [ht]; exact hH, by rw [ht]; exact hz⟩) hLo d_Di_remove_49
      · skip
        have T_60 := c_46 q_59 rfl
        refine lv_ifnull hx hb d_Di_remove_33 ?_
        refine lv_aload_n hx hb d_Di_remove_36 rfl (lv_at hl 1 rfl) ?_
        refine hm_get (ci := 8) (v := .ref v_5) (C := R_Di) (T := F_Di) (N := 9) hx hb hts ig_Di hown hK hH F_x9 rfl 2 (by decide) (hts _ mw_443) (fun _ h9 => h9) rfl d_Di_remove_37 ?_
        refine lv_aload_n hx hb d_Di_remove_40 rfl (lv_at hl 0 rfl) ?_
        refine hm_callPi (va_runV (As := [.ref q_42]) (b := v_5) (rest := []) ⟨hx, hb, hml, hown, hts⟩ (t_hasCh l D t G ak av h τ n 0 v_5 q_42  hn hT c_6 T_43) ⟨cw9B 1 hts mw_472 mw_473 mw_132 rfl rfl (by decide +kernel) ⟨Nat.le_of_ble_eq_true rfl, Nat.le_of_ble_eq_true rfl⟩, hts _ mw_474, hts _ mw_475⟩ (hP_V (q := (R_Ns, F_Ns, 4)) kE_ok hE hK hH F_v_5 rfl) rfl rfl hl.1 rfl (lv_room (Nat.le_of_ble_eq_true rfl)) d_Di_remove_41 ⟨Nat.le_of_ble_eq_true rfl, Nat.le_of_ble_eq_true rfl⟩) (fun r_61 h_62 H_63 hp_65  hH z_64 => ?_)
        have hz : s.heap.size ≤ H_63.size := Nat.le_trans hz z_64
        obtain ⟨c_66, xp_67, rfl⟩ := hp_65
        rcases c_66 with rfl | rfl
        · skip
          refine lv_if_eq (tgt := 50) hx hb d_Di_remove_44 (by decide) (fun hc_68 => ?_) (fun hc_68 => absurd hc_68 (by decide))
          refine lv_aload_n hx hb d_Di_remove_50 rfl (lv_at hl 1 rfl) ?_
          refine hm_get (ci := 8) (v := .ref v_5) (C := R_Di) (T := F_Di) (N := 9) hx hb hts ig_Di hown hK hH F_x9 rfl 2 (by decide) (hts _ mw_443) (fun _ h9 => h9) rfl d_Di_remove_51 ?_
          refine lv_aload_n hx hb d_Di_remove_54 rfl (lv_at hl 0 rfl) ?_
          refine hm_callv (va_runV (As := [.ref q_42]) (b := v_5) (rest := []) ⟨hx, hb, hml, hown, hts⟩ (t_drop l D t G ak av h τ n 0 v_5 q_42  hn hT c_6 T_43 (ndl_lv (xp_41.1 q_42 rfl))) ⟨cw9B 1 hts mw_476 mw_477 mw_132 rfl rfl (by decide +kernel) ⟨Nat.le_of_ble_eq_true rfl, Nat.le_of_ble_eq_true rfl⟩, hts _ mw_478, hts _ mw_479⟩ (hP_V (q := (R_Ns, F_Ns, 4)) kE_ok hE hK hH F_v_5 rfl) rfl rfl hl.1 rfl (lv_room (Nat.le_of_ble_eq_true rfl)) d_Di_remove_55 ⟨Nat.le_of_ble_eq_true rfl, Nat.le_of_ble_eq_true rfl⟩) hLo (fun h_69 H_70 locs hp_72 hH z_71 hLo => ?_)
          have hz : s.heap.size ≤ H_70.size := Nat.le_trans hz z_71
          have hT0 := hT
          obtain ⟨hT, kf_74, xp_73⟩ := hp_72
          have F_x9 : h_69 x9 = some (.inr (8, [.ref v_1, .ref v_3, .ref v_5, .ref v_7, va_rf v_9, .int v_11, .int v_12, .ref v_14, .ref v_16])) := kf_at kf_74 T_x9 (by decide) (tnc (by decide) tn0) (nmc (tne T_x9 c_6 (by decide)) nm0) F_x9
          have F_v_1 : h_69 v_1 = some (.inr (7, [.ref v_18, .ref v_20])) := kf_at kf_74 c_2 (by decide) (tnc (by decide) tn0) (nmc (tne c_2 c_6 (by decide)) nm0) F_v_1
          have F_v_18 : h_69 v_18 = some (.inr (4, [.int v_22, .int v_23, .int v_25])) := kf_at kf_74 c_19 (by decide) (tnc (by decide) tn0) (nmc (tne c_19 c_6 (by decide)) nm0) F_v_18
          have F_q_42 : h_69 q_42 = some (.inr (1, [.int v_44, .ref q_59, .int v_47, .long v_49, .int v_50, .int v_52, .int v_53, .int v_54, .int v_56, .int v_57, .int v_58])) := kf_at kf_74 T_43 (by decide) (tnc (by decide) tn0) (nmc (tne T_43 c_6 (by decide)) nm0) F_q_42
          have hkf : kf τ [(8, 0), (7, 0)] [] h h_69 := kf_tr hkf kf_74 (List.forall_mem_cons.mpr ⟨List.mem_cons_self, List.forall_mem_nil _⟩) (List.forall_mem_cons.mpr ⟨Or.inr (by rw [c_6]; exact (List.mem_cons_of_mem _ List.mem_cons_self)), List.forall_mem_nil _⟩)
          have hTr : ∀ P, τ P = (7, 0) → TrP t h_69 P := fun P hP => by
            obtain rfl := hU v_5 P T_P hP
            exact TrP_drop hT0 T_P (hTr _ T_P) xp_73 (ndl_lv (xp_41.1 q_42 rfl)) (xp_67 rfl) (fun a ha => kf_74 a (by rw [ha]; exact Nat.succ_ne_zero _) (by rw [ha]; exact tnc (by decide) tn0) (nmc (tne ha T_P (by decide)) nm0))
          refine lv_iconst (v := 0) hx hb d_Di_remove_58 (by decide) ?_
          exact W.iret (v := 0) hx hb hr (fun t9 ht hW => ⟨0, h_69, rfl, ⟨hT, hkf, hTr⟩, by rw [ht]; exact hH, by rw [ht]; exact hz⟩) hLo d_Di_remove_59
        · skip
          refine lv_if_eq (tgt := 50) hx hb d_Di_remove_44 (by decide) (fun hc_75 => absurd hc_75 (by decide)) (fun hc_75 => ?_)
          refine lv_bipush (v := -2) hx hb d_Di_remove_47 (by decide) ?_
          exact W.iret (v := (-2)) hx hb hr (fun t9 ht hW => ⟨(-2), h, rfl, ⟨hT, hkf, hTr⟩, by rw [ht]; exact hH, by rw [ht]; exact hz⟩) hLo d_Di_remove_49
  · skip
    refine lv_bipush (v := -4) hx hb d_Di_remove_13 (by decide) ?_
    exact W.iret (v := (-4)) hx hb hr (fun t9 ht hW => ⟨(-4), h, rfl, ⟨hT, hkf, hTr⟩, by rw [ht]; exact hH, by rw [ht]; exact hz⟩) hLo d_Di_remove_15
