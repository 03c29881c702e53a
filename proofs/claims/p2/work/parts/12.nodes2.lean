set_option maxRecDepth 100000 in
theorem mw_114 : Cond.fieldLink R_No 36 "WriteOnceDisc$Node" "isWritten" "Z" ∈ lw_g := lw_gin (List.mem_append_right _ (List.mem_of_getElem? (i := 116) rfl)) (by decide +kernel)
set_option maxRecDepth 100000 in
theorem mw_115 : Cond.fieldLink R_No 39 "WriteOnceDisc$Node" "extent" "I" ∈ lw_g := lw_gin (List.mem_append_right _ (List.mem_of_getElem? (i := 119) rfl)) (by decide +kernel)
set_option maxRecDepth 100000 in
theorem mw_116 : Cond.code y_No_takeName b_No_takeName 4 none ∈ lw_g := lw_gin (List.mem_append_right _ (List.mem_of_getElem? (i := 321) rfl)) (by decide +kernel)
set_option maxRecDepth 100000 in
theorem mw_117 : Cond.methodLink R_No 48 y_No_takeName ∈ lw_g := lw_gin (List.mem_append_right _ (List.mem_of_getElem? (i := 318) rfl)) (by decide +kernel)
set_option maxRecDepth 100000 in
theorem mw_118 : Cond.instanceMethod y_No_takeName ∈ lw_g := lw_gin (List.mem_append_right _ (List.mem_of_getElem? (i := 319) rfl)) (by decide +kernel)
set_option maxRecDepth 100000 in
theorem mw_119 : Cond.selects R_No y_No_takeName y_No_takeName ∈ lw_g := lw_gin (List.mem_append_right _ (List.mem_of_getElem? (i := 320) rfl)) (by decide +kernel)
set_option maxRecDepth 100000 in
theorem mw_120 : Cond.code y_No_takeContent b_No_takeContent 3 none ∈ lw_g := lw_gin (List.mem_append_right _ (List.mem_of_getElem? (i := 325) rfl)) (by decide +kernel)
set_option maxRecDepth 100000 in
theorem mw_121 : Cond.methodLink R_No 52 y_No_takeContent ∈ lw_g := lw_gin (List.mem_append_right _ (List.mem_of_getElem? (i := 322) rfl)) (by decide +kernel)
set_option maxRecDepth 100000 in
theorem mw_122 : Cond.instanceMethod y_No_takeContent ∈ lw_g := lw_gin (List.mem_append_right _ (List.mem_of_getElem? (i := 323) rfl)) (by decide +kernel)
set_option maxRecDepth 100000 in
theorem mw_123 : Cond.selects R_No y_No_takeContent y_No_takeContent ∈ lw_g := lw_gin (List.mem_append_right _ (List.mem_of_getElem? (i := 324) rfl)) (by decide +kernel)
set_option maxRecDepth 100000 in
theorem mw_124 : Cond.code y_No_settle b_No_settle 2 none ∈ lw_g := lw_gin (List.mem_append_right _ (List.mem_of_getElem? (i := 447) rfl)) (by decide +kernel)
set_option maxRecDepth 100000 in
theorem mw_125 : Cond.methodLink R_No 56 y_No_settle ∈ lw_g := lw_gin (List.mem_append_right _ (List.mem_of_getElem? (i := 733) rfl)) (by decide +kernel)
set_option maxRecDepth 100000 in
theorem mw_126 : Cond.instanceMethod y_No_settle ∈ lw_g := lw_gin (List.mem_append_right _ (List.mem_of_getElem? (i := 445) rfl)) (by decide +kernel)
set_option maxRecDepth 100000 in
theorem mw_127 : Cond.selects R_No y_No_settle y_No_settle ∈ lw_g := lw_gin (List.mem_append_right _ (List.mem_of_getElem? (i := 446) rfl)) (by decide +kernel)
theorem d_No_depth_0 : decode b_No_depth 0 = .ok (.iconst 0, 1) := by decide +kernel
theorem d_No_depth_1 : decode b_No_depth 1 = .ok (.istore_n 1, 1) := by decide +kernel
theorem d_No_depth_2 : decode b_No_depth 2 = .ok (.aload_n 0, 1) := by decide +kernel
theorem d_No_depth_3 : decode b_No_depth 3 = .ok (.getfield 15, 3) := by decide +kernel
theorem d_No_depth_6 : decode b_No_depth 6 = .ok (.astore_n 2, 1) := by decide +kernel
theorem d_No_depth_7 : decode b_No_depth 7 = .ok (.aload_n 2, 1) := by decide +kernel
theorem d_No_depth_8 : decode b_No_depth 8 = .ok (.ifnull 14, 3) := by decide +kernel
theorem d_No_depth_22 : decode b_No_depth 22 = .ok (.iload_n 1, 1) := by decide +kernel
theorem d_No_depth_23 : decode b_No_depth 23 = .ok (.ireturn, 1) := by decide +kernel
theorem d_No_depth_11 : decode b_No_depth 11 = .ok (.iinc 1 1, 3) := by decide +kernel
theorem d_No_depth_14 : decode b_No_depth 14 = .ok (.aload_n 2, 1) := by decide +kernel
theorem d_No_depth_15 : decode b_No_depth 15 = .ok (.getfield 15, 3) := by decide +kernel
theorem d_No_depth_18 : decode b_No_depth 18 = .ok (.astore_n 2, 1) := by decide +kernel
theorem d_No_depth_19 : decode b_No_depth 19 = .ok (.goto (-12), 3) := by decide +kernel
theorem d_No_isWithin_0 : decode b_No_isWithin 0 = .ok (.aload_n 0, 1) := by decide +kernel
theorem d_No_isWithin_1 : decode b_No_isWithin 1 = .ok (.astore_n 2, 1) := by decide +kernel
theorem d_No_isWithin_2 : decode b_No_isWithin 2 = .ok (.aload_n 2, 1) := by decide +kernel
theorem d_No_isWithin_3 : decode b_No_isWithin 3 = .ok (.ifnull 18, 3) := by decide +kernel
theorem d_No_isWithin_21 : decode b_No_isWithin 21 = .ok (.iconst 0, 1) := by decide +kernel
theorem d_No_isWithin_22 : decode b_No_isWithin 22 = .ok (.ireturn, 1) := by decide +kernel
theorem d_No_isWithin_6 : decode b_No_isWithin 6 = .ok (.aload_n 2, 1) := by decide +kernel
theorem d_No_isWithin_7 : decode b_No_isWithin 7 = .ok (.aload_n 1, 1) := by decide +kernel
theorem d_No_isWithin_8 : decode b_No_isWithin 8 = .ok (.if_acmp .ne 5, 3) := by decide +kernel
theorem d_No_isWithin_13 : decode b_No_isWithin 13 = .ok (.aload_n 2, 1) := by decide +kernel
theorem d_No_isWithin_14 : decode b_No_isWithin 14 = .ok (.getfield 15, 3) := by decide +kernel
theorem d_No_isWithin_17 : decode b_No_isWithin 17 = .ok (.astore_n 2, 1) := by decide +kernel
theorem d_No_isWithin_18 : decode b_No_isWithin 18 = .ok (.goto (-16), 3) := by decide +kernel
theorem d_No_isWithin_11 : decode b_No_isWithin 11 = .ok (.iconst 1, 1) := by decide +kernel
theorem d_No_isWithin_12 : decode b_No_isWithin 12 = .ok (.ireturn, 1) := by decide +kernel
theorem d_No_takeContent_0 : decode b_No_takeContent 0 = .ok (.aload_n 0, 1) := by decide +kernel
theorem d_No_takeContent_1 : decode b_No_takeContent 1 = .ok (.iload_n 1, 1) := by decide +kernel
theorem d_No_takeContent_2 : decode b_No_takeContent 2 = .ok (.putfield 30, 3) := by decide +kernel
theorem d_No_takeContent_5 : decode b_No_takeContent 5 = .ok (.aload_n 0, 1) := by decide +kernel
theorem d_No_takeContent_6 : decode b_No_takeContent 6 = .ok (.iload_n 2, 1) := by decide +kernel
theorem d_No_takeContent_7 : decode b_No_takeContent 7 = .ok (.putfield 33, 3) := by decide +kernel
theorem d_No_takeContent_10 : decode b_No_takeContent 10 = .ok (.aload_n 0, 1) := by decide +kernel
theorem d_No_takeContent_11 : decode b_No_takeContent 11 = .ok (.iconst 0, 1) := by decide +kernel
theorem d_No_takeContent_12 : decode b_No_takeContent 12 = .ok (.putfield 36, 3) := by decide +kernel
theorem d_No_takeContent_15 : decode b_No_takeContent 15 = .ok (.aload_n 0, 1) := by decide +kernel
theorem d_No_takeContent_16 : decode b_No_takeContent 16 = .ok (.iconst 0, 1) := by decide +kernel
theorem d_No_takeContent_17 : decode b_No_takeContent 17 = .ok (.putfield 39, 3) := by decide +kernel
theorem d_No_takeContent_20 : decode b_No_takeContent 20 = .ok (.return_, 1) := by decide +kernel
theorem d_No_settle_0 : decode b_No_settle 0 = .ok (.aload_n 0, 1) := by decide +kernel
theorem d_No_settle_1 : decode b_No_settle 1 = .ok (.iload_n 1, 1) := by decide +kernel
theorem d_No_settle_2 : decode b_No_settle 2 = .ok (.putfield 39, 3) := by decide +kernel
theorem d_No_settle_5 : decode b_No_settle 5 = .ok (.aload_n 0, 1) := by decide +kernel
theorem d_No_settle_6 : decode b_No_settle 6 = .ok (.iconst 1, 1) := by decide +kernel
theorem d_No_settle_7 : decode b_No_settle 7 = .ok (.putfield 36, 3) := by decide +kernel
theorem d_No_settle_10 : decode b_No_settle 10 = .ok (.return_, 1) := by decide +kernel
theorem d_No_takeName_0 : decode b_No_takeName 0 = .ok (.aload_n 0, 1) := by decide +kernel
theorem d_No_takeName_1 : decode b_No_takeName 1 = .ok (.lload_n 1, 1) := by decide +kernel
theorem d_No_takeName_2 : decode b_No_takeName 2 = .ok (.putfield 23, 3) := by decide +kernel
theorem d_No_takeName_5 : decode b_No_takeName 5 = .ok (.aload_n 0, 1) := by decide +kernel
theorem d_No_takeName_6 : decode b_No_takeName 6 = .ok (.iconst 0, 1) := by decide +kernel
theorem d_No_takeName_7 : decode b_No_takeName 7 = .ok (.putfield 27, 3) := by decide +kernel
theorem d_No_takeName_10 : decode b_No_takeName 10 = .ok (.iconst 0, 1) := by decide +kernel
theorem d_No_takeName_11 : decode b_No_takeName 11 = .ok (.istore_n 3, 1) := by decide +kernel
theorem d_No_takeName_12 : decode b_No_takeName 12 = .ok (.iload_n 3, 1) := by decide +kernel
theorem d_No_takeName_13 : decode b_No_takeName 13 = .ok (.bipush 64, 2) := by decide +kernel
theorem d_No_takeName_15 : decode b_No_takeName 15 = .ok (.if_icmp .ge 27, 3) := by decide +kernel
theorem d_No_takeName_42 : decode b_No_takeName 42 = .ok (.return_, 1) := by decide +kernel
theorem d_No_takeName_18 : decode b_No_takeName 18 = .ok (.lload_n 1, 1) := by decide +kernel
theorem d_No_takeName_19 : decode b_No_takeName 19 = .ok (.iload_n 3, 1) := by decide +kernel
theorem d_No_takeName_20 : decode b_No_takeName 20 = .ok (.lushr, 1) := by decide +kernel
theorem d_No_takeName_21 : decode b_No_takeName 21 = .ok (.lconst 0, 1) := by decide +kernel
theorem d_No_takeName_22 : decode b_No_takeName 22 = .ok (.lcmp, 1) := by decide +kernel
theorem d_No_takeName_23 : decode b_No_takeName 23 = .ok (.ifCond .eq 13, 3) := by decide +kernel
theorem d_No_takeName_36 : decode b_No_takeName 36 = .ok (.iinc 3 8, 3) := by decide +kernel
theorem d_No_takeName_39 : decode b_No_takeName 39 = .ok (.goto (-27), 3) := by decide +kernel
theorem d_No_takeName_26 : decode b_No_takeName 26 = .ok (.aload_n 0, 1) := by decide +kernel
theorem d_No_takeName_27 : decode b_No_takeName 27 = .ok (.dup, 1) := by decide +kernel
theorem d_No_takeName_28 : decode b_No_takeName 28 = .ok (.getfield 27, 3) := by decide +kernel
theorem d_No_takeName_31 : decode b_No_takeName 31 = .ok (.iconst 1, 1) := by decide +kernel
theorem d_No_takeName_32 : decode b_No_takeName 32 = .ok (.iadd, 1) := by decide +kernel
theorem d_No_takeName_33 : decode b_No_takeName 33 = .ok (.putfield 27, 3) := by decide +kernel
theorem d_No_become_0 : decode b_No_become 0 = .ok (.aload_n 0, 1) := by decide +kernel
theorem d_No_become_1 : decode b_No_become 1 = .ok (.aload_n 1, 1) := by decide +kernel
theorem d_No_become_2 : decode b_No_become 2 = .ok (.putfield 15, 3) := by decide +kernel
theorem d_No_become_5 : decode b_No_become 5 = .ok (.aload_n 0, 1) := by decide +kernel
theorem d_No_become_6 : decode b_No_become 6 = .ok (.iload_n 2, 1) := by decide +kernel
theorem d_No_become_7 : decode b_No_become 7 = .ok (.putfield 19, 3) := by decide +kernel
theorem d_No_become_10 : decode b_No_become 10 = .ok (.aload_n 0, 1) := by decide +kernel
theorem d_No_become_11 : decode b_No_become 11 = .ok (.lload_n 3, 1) := by decide +kernel
theorem d_No_become_12 : decode b_No_become 12 = .ok (.invokevirtual 48, 3) := by decide +kernel
theorem d_No_become_15 : decode b_No_become 15 = .ok (.aload_n 0, 1) := by decide +kernel
theorem d_No_become_16 : decode b_No_become 16 = .ok (.iconst 0, 1) := by decide +kernel
theorem d_No_become_17 : decode b_No_become 17 = .ok (.iconst 0, 1) := by decide +kernel
theorem d_No_become_18 : decode b_No_become 18 = .ok (.invokevirtual 52, 3) := by decide +kernel
theorem d_No_become_21 : decode b_No_become 21 = .ok (.return_, 1) := by decide +kernel
theorem d_No_adopt_0 : decode b_No_adopt 0 = .ok (.aload_n 0, 1) := by decide +kernel
theorem d_No_adopt_1 : decode b_No_adopt 1 = .ok (.aload_n 1, 1) := by decide +kernel
theorem d_No_adopt_2 : decode b_No_adopt 2 = .ok (.getfield 19, 3) := by decide +kernel
theorem d_No_adopt_5 : decode b_No_adopt 5 = .ok (.putfield 19, 3) := by decide +kernel
theorem d_No_adopt_8 : decode b_No_adopt 8 = .ok (.aload_n 0, 1) := by decide +kernel
theorem d_No_adopt_9 : decode b_No_adopt 9 = .ok (.aload_n 1, 1) := by decide +kernel
theorem d_No_adopt_10 : decode b_No_adopt 10 = .ok (.getfield 23, 3) := by decide +kernel
theorem d_No_adopt_13 : decode b_No_adopt 13 = .ok (.invokevirtual 48, 3) := by decide +kernel
theorem d_No_adopt_32 : decode b_No_adopt 32 = .ok (.iconst (-1), 1) := by decide +kernel
theorem d_No_adopt_33 : decode b_No_adopt 33 = .ok (.invokevirtual 52, 3) := by decide +kernel
theorem d_No_adopt_52 : decode b_No_adopt 52 = .ok (.invokevirtual 56, 3) := by decide +kernel
theorem d_No_adopt_55 : decode b_No_adopt 55 = .ok (.return_, 1) := by decide +kernel
theorem d_No_adopt_36 : decode b_No_adopt 36 = .ok (.aload_n 0, 1) := by decide +kernel
theorem d_No_adopt_37 : decode b_No_adopt 37 = .ok (.aload_n 0, 1) := by decide +kernel
theorem d_No_adopt_38 : decode b_No_adopt 38 = .ok (.getfield 19, 3) := by decide +kernel
theorem d_No_adopt_41 : decode b_No_adopt 41 = .ok (.ifCond .eq 7, 3) := by decide +kernel
theorem d_No_adopt_48 : decode b_No_adopt 48 = .ok (.aload_n 1, 1) := by decide +kernel
theorem d_No_adopt_49 : decode b_No_adopt 49 = .ok (.getfield 42, 3) := by decide +kernel
theorem d_No_adopt_44 : decode b_No_adopt 44 = .ok (.iconst 0, 1) := by decide +kernel
theorem d_No_adopt_45 : decode b_No_adopt 45 = .ok (.goto 7, 3) := by decide +kernel
theorem d_No_adopt_16 : decode b_No_adopt 16 = .ok (.aload_n 0, 1) := by decide +kernel
theorem d_No_adopt_17 : decode b_No_adopt 17 = .ok (.aload_n 0, 1) := by decide +kernel
theorem d_No_adopt_18 : decode b_No_adopt 18 = .ok (.getfield 19, 3) := by decide +kernel
theorem d_No_adopt_21 : decode b_No_adopt 21 = .ok (.ifCond .eq 7, 3) := by decide +kernel
theorem d_No_adopt_28 : decode b_No_adopt 28 = .ok (.aload_n 1, 1) := by decide +kernel
theorem d_No_adopt_29 : decode b_No_adopt 29 = .ok (.getfield 30, 3) := by decide +kernel
theorem d_No_adopt_24 : decode b_No_adopt 24 = .ok (.iconst 0, 1) := by decide +kernel
theorem d_No_adopt_25 : decode b_No_adopt 25 = .ok (.goto 7, 3) := by decide +kernel
set_option maxHeartbeats 4000000 in
set_option maxRecDepth 100000 in
theorem t_depth (l : Launch) (D : va_G) (t : Nat → ClassId) (G : hG) (ak av : Nat → Nat) (h : hM) (τ : tM) (n f : Nat) (d9 : Nat) (hn : n ≤ 200) (hT : TI τ t n h) (T_d9 : τ d9 = (10, f)) (hC : ∃ k, Ch (prt h) k d9) : Met l y_No_depth (.code y_No_depth b_No_depth 3 (some .int) :: lw_g) { frames := 0, cells := 0, slots := 0, locals := 0 } (hP (kE D t G ak av) D vwCl G h [.ref d9]) (hQi D vwCl G (fun r h' => h = h')) 0 0 nof := by
  refine Met.ofW (cc := b_No_depth) (maxL := 3) (ret := (some .int)) (by decide) rfl ?_
  intro p e s m args below meth c s₁ Bd hml hv
  obtain ⟨ha, hE, hH⟩ := hv
  have hx := Bd.exec
  have hb := Bd.bytes
  have hr := Bd.returns
  have hts : ∀ w ∈ lw_g, w.before args s = true := fun w hw => atoms_spec (ws := (.code y_No_depth b_No_depth 3 (some .int) :: lw_g)) Bd.pre w (List.mem_cons_of_mem _ hw)
  have hown : s.vm.findClass R_No = some m.cls := findClass_of_methodNamed Bd.named
  have hlocks := Bd.notSynchronized
  have hK := hE.1
  have hH0 := hH
  have hLo : hLc nof [] := hLc_nil
  have hz : s.heap.size ≤ s.heap.size := Nat.le_refl _
  have hl := lv_entry [.ref d9] (n := 3) (Nat.le_of_ble_eq_true rfl)
  rw [show entryFrame m args 3 = F0 m 0 ((lg_sl [.ref d9] ++ List.replicate (3 - (lg_sl [.ref d9]).length) Slot.unset).toArray) [] from (by rw [ha]; exact lg_entry_eq m [.ref d9] 3)]
  generalize (lg_sl [.ref d9] ++ List.replicate (3 - (lg_sl [.ref d9]).length) Slot.unset).toArray = ls at hl ⊢
  have hl : lv_has ls 3 [(0, .ref d9)] := hl
  obtain ⟨k0, hC⟩ := hC
  have hD : dpI (prt h) (k0 + 1) (some d9) := ⟨k0, rfl, hC⟩
  refine lv_iconst (v := 0) hx hb d_No_depth_0 (by decide) ?_
  refine lv_istore_n (lv' := [(1, .int 0), (0, .ref d9)]) hx hb d_No_depth_1 rfl hl (by decide) rfl (fun ls hl => ?_)
  refine lv_aload_n hx hb d_No_depth_2 rfl (lv_at hl 1 rfl) ?_
  obtain ⟨v_1, v_2, v_4, v_6, v_7, v_9, v_10, v_11, v_13, v_14, v_15, F_d9, c_3, c_5, c_8, c_12⟩ := TI_node hT T_d9
  refine hm_get (ci := 1) (v := va_rf v_2) (C := R_No) (T := F_No) (N := 11) hx hb hts ig_No hown hK hH F_d9 rfl 1 (by decide) (hts _ mw_96) (fun _ h9 => h9) rfl d_No_depth_3 ?_
  refine lv_astore_nQ (lv' := [(2, va_rf v_2), (1, .int 0), (0, .ref d9)]) hx hb d_No_depth_6 rfl hl (by decide) rfl (fun ls hl => ?_)
  obtain ⟨k8, hk8, hD8⟩ := dpI_next hD (prt_of F_d9)
  refine hm_loop (fun k7 ls H locs hh7 => ∃ (dp : Int32) (o9 : Option Nat) (k9 : Nat), k7 = k9 ∧ lv_has ls 3 [(0, .ref d9), (1, .int dp), (2, va_rf o9)] ∧ hm D vwCl G hh7 H ∧ s.heap.size ≤ H.size ∧ hLc nof locs ∧ (h = hh7) ∧ (∀ q, o9 = some q → τ q = (10, f)) ∧ (dpI (prt h) k9 o9)) ?_ (hh := h) ⟨0, v_2, k8, rfl, (lv_sub hl [2, 1, 0] rfl), hH, hz, hLo, rfl, c_3, hD8⟩
  rintro k7 ls H locs hh7 ⟨dp, o9, k9, hk7, hl, hH, hz, hLo, rfl, Q_o9, hD⟩ ih7
  refine lv_aload_nQ hx hb d_No_depth_7 rfl (lv_at hl 2 rfl) ?_
  rcases o9 with _ | q_16
  · skip
    refine lv_ifnullN (tgt := 22) hx hb d_No_depth_8 (by decide) ?_
    refine lv_iload_n hx hb d_No_depth_22 rfl (lv_at hl 1 rfl) ?_
    exact W.iret (v := dp) hx hb hr (fun t9 ht hW => ⟨dp, h, rfl, rfl, by rw [ht]; exact hH, by rw [ht]; exact hz⟩) hLo d_No_depth_23
  · skip
    have T_17 := Q_o9 q_16 rfl
    refine lv_ifnull hx hb d_No_depth_8 ?_
    obtain ⟨j_18, e_19⟩ : ∃ z : Int32, z = dp + 1 := ⟨_, rfl⟩
    refine lv_iinc (v := j_18) (lv' := [(1, .int j_18), (0, .ref d9), (2, .ref q_16)]) hx hb d_No_depth_11 hl (k := 1) rfl e_19.symm (by decide) rfl (fun ls hl => ?_)
    refine lv_aload_n hx hb d_No_depth_14 rfl (lv_at hl 2 rfl) ?_
    obtain ⟨v_20, v_21, v_23, v_25, v_26, v_28, v_29, v_30, v_32, v_33, v_34, F_q_16, c_22, c_24, c_27, c_31⟩ := TI_node hT T_17
    refine hm_get (ci := 1) (v := va_rf v_21) (C := R_No) (T := F_No) (N := 11) hx hb hts ig_No hown hK hH F_q_16 rfl 1 (by decide) (hts _ mw_96) (fun _ h9 => h9) rfl d_No_depth_15 ?_
    refine lv_astore_nQ (lv' := [(2, va_rf v_21), (1, .int j_18), (0, .ref d9)]) hx hb d_No_depth_18 rfl hl (by decide) rfl (fun ls hl => ?_)
    refine lv_goto (tgt := 7) hx hb d_No_depth_19 (by decide) ?_
    obtain ⟨k8, hk8, hD8⟩ := dpI_next hD (prt_of F_q_16)
    exact ih7 (k8) ls _ locs _ (by rw [hk7]; exact hk8) ⟨j_18, v_21, k8, rfl, (lv_sub hl [2, 1, 0] rfl), hH, hz, hLo, rfl, c_22, hD8⟩

set_option maxHeartbeats 4000000 in
set_option maxRecDepth 100000 in
theorem t_within (l : Launch) (D : va_G) (t : Nat → ClassId) (G : hG) (ak av : Nat → Nat) (h : hM) (τ : tM) (n f : Nat) (d9 : Nat) (e9 : Nat) (hn : n ≤ 200) (hT : TI τ t n h) (T_d9 : τ d9 = (10, f)) (T_e9 : τ e9 = (10, f)) (hC : ∃ k, Ch (prt h) k d9) : Met l y_No_isWithin (.code y_No_isWithin b_No_isWithin 3 (some .boolean) :: lw_g) { frames := 0, cells := 0, slots := 0, locals := 0 } (hP (kE D t G ak av) D vwCl G h [.ref d9, .ref e9]) (hQi D vwCl G (fun r h' => zb r ∧ (r = 0 → ∃ k, ChN (prt h) e9 k d9) ∧ h = h')) 0 0 nof := by
  refine Met.ofW (cc := b_No_isWithin) (maxL := 3) (ret := (some .boolean)) (by decide) rfl ?_
  intro p e s m args below meth c s₁ Bd hml hv
  obtain ⟨ha, hE, hH⟩ := hv
  have hx := Bd.exec
  have hb := Bd.bytes
  have hr := Bd.returns
  have hts : ∀ w ∈ lw_g, w.before args s = true := fun w hw => atoms_spec (ws := (.code y_No_isWithin b_No_isWithin 3 (some .boolean) :: lw_g)) Bd.pre w (List.mem_cons_of_mem _ hw)
  have hown : s.vm.findClass R_No = some m.cls := findClass_of_methodNamed Bd.named
  have hlocks := Bd.notSynchronized
  have hK := hE.1
  have hH0 := hH
  have hLo : hLc nof [] := hLc_nil
  have hz : s.heap.size ≤ s.heap.size := Nat.le_refl _
  have hl := lv_entry [.ref d9, .ref e9] (n := 3) (Nat.le_of_ble_eq_true rfl)
  rw [show entryFrame m args 3 = F0 m 0 ((lg_sl [.ref d9, .ref e9] ++ List.replicate (3 - (lg_sl [.ref d9, .ref e9]).length) Slot.unset).toArray) [] from (by rw [ha]; exact lg_entry_eq m [.ref d9, .ref e9] 3)]
  generalize (lg_sl [.ref d9, .ref e9] ++ List.replicate (3 - (lg_sl [.ref d9, .ref e9]).length) Slot.unset).toArray = ls at hl ⊢
  have hl : lv_has ls 3 [(0, .ref d9), (1, .ref e9)] := hl
  obtain ⟨k0, hC⟩ := hC
  have hD : dpI (prt h) (k0 + 1) (some d9) := ⟨k0, rfl, hC⟩
  refine lv_aload_n hx hb d_No_isWithin_0 rfl (lv_at hl 0 rfl) ?_
  refine lv_astore_n (lv' := [(2, .ref d9), (0, .ref d9), (1, .ref e9)]) hx hb d_No_isWithin_1 rfl hl (by decide) rfl (fun ls hl => ?_)
  refine hm_loop (fun k2 ls H locs hh2 => ∃ (o9 : Option Nat) (k9 : Nat), k2 = k9 ∧ lv_has ls 3 [(0, .ref d9), (1, .ref e9), (2, va_rf o9)] ∧ hm D vwCl G hh2 H ∧ s.heap.size ≤ H.size ∧ hLc nof locs ∧ (h = hh2) ∧ (∀ q, o9 = some q → τ q = (10, f)) ∧ (dpI (prt h) k9 o9) ∧ (wiI (prt h) e9 d9 o9)) ?_ (hh := h) ⟨(some d9), k0 + 1, rfl, (lv_sub hl [1, 2, 0] rfl), hH, hz, hLo, rfl, (fun _ h9 => by cases h9; exact T_d9), hD, (fun j hj => ⟨j, hj⟩)⟩
  rintro k2 ls H locs hh2 ⟨o9, k9, hk2, hl, hH, hz, hLo, rfl, Q_o9, hD, hWi⟩ ih2
  refine lv_aload_nQ hx hb d_No_isWithin_2 rfl (lv_at hl 2 rfl) ?_
  rcases o9 with _ | q_1
  · skip
    refine lv_ifnullN (tgt := 21) hx hb d_No_isWithin_3 (by decide) ?_
    refine lv_iconst (v := 0) hx hb d_No_isWithin_21 (by decide) ?_
    exact W.zret (v := 0) hx hb hr (by decide) (fun t9 ht hW => ⟨0, h, rfl, ⟨zb0, (fun _ => hWi), rfl⟩, by rw [ht]; exact hH, by rw [ht]; exact hz⟩) hLo d_No_isWithin_22
  · skip
    have T_2 := Q_o9 q_1 rfl
    refine lv_ifnull hx hb d_No_isWithin_3 ?_
    refine lv_aload_n hx hb d_No_isWithin_6 rfl (lv_at hl 2 rfl) ?_
    refine lv_aload_n hx hb d_No_isWithin_7 rfl (lv_at hl 1 rfl) ?_
    refine lv_acmp_ne (rx := some q_1) (ry := some e9) (tgt := 13) hx hb d_No_isWithin_8 (by decide) (fun hc_3 => ?_) (fun hc_3 => ?_)
    · skip
      refine lv_aload_n hx hb d_No_isWithin_13 rfl (lv_at hl 2 rfl) ?_
      obtain ⟨v_4, v_5, v_7, v_9, v_10, v_12, v_13, v_14, v_16, v_17, v_18, F_q_1, c_6, c_8, c_11, c_15⟩ := TI_node hT T_2
      refine hm_get (ci := 1) (v := va_rf v_5) (C := R_No) (T := F_No) (N := 11) hx hb hts ig_No hown hK hH F_q_1 rfl 1 (by decide) (hts _ mw_96) (fun _ h9 => h9) rfl d_No_isWithin_14 ?_
      refine lv_astore_nQ (lv' := [(2, va_rf v_5), (0, .ref d9), (1, .ref e9)]) hx hb d_No_isWithin_17 rfl hl (by decide) rfl (fun ls hl => ?_)
      refine lv_goto (tgt := 2) hx hb d_No_isWithin_18 (by decide) ?_
      obtain ⟨k8, hk8, hD8⟩ := dpI_next hD (prt_of F_q_1)
      have hW8 := wiI_next hWi (fun z => hc_3 (by rw [z])) (prt_of F_q_1)
      exact ih2 (k8) ls _ locs _ (by rw [hk2]; exact hk8) ⟨v_5, k8, rfl, (lv_sub hl [1, 2, 0] rfl), hH, hz, hLo, rfl, c_6, hD8, hW8⟩
    · skip
      refine lv_iconst (v := 1) hx hb d_No_isWithin_11 (by decide) ?_
      exact W.zret (v := 1) hx hb hr (by decide) (fun t9 ht hW => ⟨1, h, rfl, ⟨zb1, (fun z => absurd z (by decide)), rfl⟩, by rw [ht]; exact hH, by rw [ht]; exact hz⟩) hLo d_No_isWithin_12

set_option maxHeartbeats 4000000 in
set_option maxRecDepth 100000 in
theorem t_takeContent (l : Launch) (D : va_G) (t : Nat → ClassId) (G : hG) (ak av : Nat → Nat) (h : hM) (τ : tM) (n f : Nat) (d9 : Nat) (s9 : Int32) (e8 : Int32) (hn : n ≤ 200) (hT : TI τ t n h) (T_d9 : τ d9 = (10, f)) : Met l y_No_takeContent (.code y_No_takeContent b_No_takeContent 3 none :: lw_g) { frames := 0, cells := 0, slots := 0, locals := 0 } (hP (kE D t G ak av) D vwCl G h [.ref d9, .int s9, .int e8]) (hQv D vwCl G (fun h' => TI τ t n h' ∧ kf τ [] [d9] h h' ∧ knp τ f h h')) 0 0 G.P := by
  refine Met.ofW (cc := b_No_takeContent) (maxL := 3) (ret := none) (by decide) rfl ?_
  intro p e s m args below meth c s₁ Bd hml hv
  obtain ⟨ha, hE, hH⟩ := hv
  have hx := Bd.exec
  have hb := Bd.bytes
  have hr := Bd.returns
  have hts : ∀ w ∈ lw_g, w.before args s = true := fun w hw => atoms_spec (ws := (.code y_No_takeContent b_No_takeContent 3 none :: lw_g)) Bd.pre w (List.mem_cons_of_mem _ hw)
  have hown : s.vm.findClass R_No = some m.cls := findClass_of_methodNamed Bd.named
  have hlocks := Bd.notSynchronized
  have hK := hE.1
  have hH0 := hH
  have hLo : hLc G.P [] := hLc_nil
  have hz : s.heap.size ≤ s.heap.size := Nat.le_refl _
  have hl := lv_entry [.ref d9, .int s9, .int e8] (n := 3) (Nat.le_of_ble_eq_true rfl)
  rw [show entryFrame m args 3 = F0 m 0 ((lg_sl [.ref d9, .int s9, .int e8] ++ List.replicate (3 - (lg_sl [.ref d9, .int s9, .int e8]).length) Slot.unset).toArray) [] from (by rw [ha]; exact lg_entry_eq m [.ref d9, .int s9, .int e8] 3)]
  generalize (lg_sl [.ref d9, .int s9, .int e8] ++ List.replicate (3 - (lg_sl [.ref d9, .int s9, .int e8]).length) Slot.unset).toArray = ls at hl ⊢
  have hl : lv_has ls 3 [(0, .ref d9), (1, .int s9), (2, .int e8)] := hl
  have hkf : kf τ [] [d9] h h := kf_rf
  have hnp_f : knp τ f h h := knp_rf
  refine lv_aload_n hx hb d_No_takeContent_0 rfl (lv_at hl 0 rfl) ?_
  refine lv_iload_n hx hb d_No_takeContent_1 rfl (lv_at hl 1 rfl) ?_
  obtain ⟨v_1, v_2, v_4, v_6, v_7, v_9, v_10, v_11, v_13, v_14, v_15, F_d9, c_3, c_5, c_8, c_12⟩ := TI_node hT T_d9
  refine hm_put (ci := 1) (v := .int s9) (ty := .int) (C := R_No) (T := F_No) (N := 11) hx hb hts ig_No t_No tk_No nm_No hown hK hH hLo F_d9 rfl 5 (by decide) (hts _ mw_95) (fun _ h9 => h9) rfl (by decide +kernel) rfl rfl (Nat.le_of_ble_eq_true rfl) d_No_takeContent_2 (fun H_16 locs hH z_17 hLo => ?_)
  have hz : s.heap.size ≤ H_16.size := by rw [z_17]; exact hz
  obtain ⟨h_18, e_19⟩ : ∃ z, z = hu h d9 (.inr (1, [.int v_1, va_rf v_2, .int v_4, .long v_6, .int v_7, .int s9, .int v_10, .int v_11, .int v_13, .int v_14, .int v_15])) := ⟨_, rfl⟩
  have hH : hm D vwCl G h_18 H_16 := by rw [e_19]; exact hH
  have hOld := F_d9
  have F_d9 : h_18 d9 = some (.inr (1, [.int v_1, va_rf v_2, .int v_4, .long v_6, .int v_7, .int s9, .int v_10, .int v_11, .int v_13, .int v_14, .int v_15])) := by rw [e_19]; exact hu_s _ _ _
  have hT : TI τ t n h_18 := by rw [e_19]; exact TI_put hT T_d9 (by decide) ⟨v_1, v_2, v_4, v_6, v_7, s9, v_10, v_11, v_13, v_14, v_15, rfl, c_3, c_5, c_8, c_12⟩
  have hkf : kf τ [] [d9] h h_18 := by rw [e_19]; exact kf_putM hkf (by simp)
  have hnp_f : knp τ f h h_18 := by rw [e_19]; exact knp_put hnp_f hOld
  refine lv_aload_n hx hb d_No_takeContent_5 rfl (lv_at hl 0 rfl) ?_
  refine lv_iload_n hx hb d_No_takeContent_6 rfl (lv_at hl 2 rfl) ?_
  refine hm_put (ci := 1) (v := .int e8) (ty := .int) (C := R_No) (T := F_No) (N := 11) hx hb hts ig_No t_No tk_No nm_No hown hK hH hLo F_d9 rfl 6 (by decide) (hts _ mw_93) (fun _ h9 => h9) rfl (by decide +kernel) rfl rfl (Nat.le_of_ble_eq_true rfl) d_No_takeContent_7 (fun H_20 locs hH z_21 hLo => ?_)
  have hz : s.heap.size ≤ H_20.size := by rw [z_21]; exact hz
  obtain ⟨h_22, e_23⟩ : ∃ z, z = hu h_18 d9 (.inr (1, [.int v_1, va_rf v_2, .int v_4, .long v_6, .int v_7, .int s9, .int e8, .int v_11, .int v_13, .int v_14, .int v_15])) := ⟨_, rfl⟩
  have hH : hm D vwCl G h_22 H_20 := by rw [e_23]; exact hH
  have hOld := F_d9
  have F_d9 : h_22 d9 = some (.inr (1, [.int v_1, va_rf v_2, .int v_4, .long v_6, .int v_7, .int s9, .int e8, .int v_11, .int v_13, .int v_14, .int v_15])) := by rw [e_23]; exact hu_s _ _ _
  have hT : TI τ t n h_22 := by rw [e_23]; exact TI_put hT T_d9 (by decide) ⟨v_1, v_2, v_4, v_6, v_7, s9, e8, v_11, v_13, v_14, v_15, rfl, c_3, c_5, c_8, c_12⟩
  have hkf : kf τ [] [d9] h h_22 := by rw [e_23]; exact kf_putM hkf (by simp)
  have hnp_f : knp τ f h h_22 := by rw [e_23]; exact knp_put hnp_f hOld
  refine lv_aload_n hx hb d_No_takeContent_10 rfl (lv_at hl 0 rfl) ?_
  refine lv_iconst (v := 0) hx hb d_No_takeContent_11 (by decide) ?_
  refine hm_put (ci := 1) (v := .int 0) (ty := .boolean) (C := R_No) (T := F_No) (N := 11) hx hb hts ig_No t_No tk_No nm_No hown hK hH hLo F_d9 rfl 7 (by decide) (hts _ mw_114) (fun _ h9 => h9) rfl (by decide +kernel) (by decide) (by decide) (Nat.le_of_ble_eq_true rfl) d_No_takeContent_12 (fun H_24 locs hH z_25 hLo => ?_)
  have hz : s.heap.size ≤ H_24.size := by rw [z_25]; exact hz
  obtain ⟨h_26, e_27⟩ : ∃ z, z = hu h_22 d9 (.inr (1, [.int v_1, va_rf v_2, .int v_4, .long v_6, .int v_7, .int s9, .int e8, .int 0, .int v_13, .int v_14, .int v_15])) := ⟨_, rfl⟩
  have hH : hm D vwCl G h_26 H_24 := by rw [e_27]; exact hH
  have hOld := F_d9
  have F_d9 : h_26 d9 = some (.inr (1, [.int v_1, va_rf v_2, .int v_4, .long v_6, .int v_7, .int s9, .int e8, .int 0, .int v_13, .int v_14, .int v_15])) := by rw [e_27]; exact hu_s _ _ _
  have hT : TI τ t n h_26 := by rw [e_27]; exact TI_put hT T_d9 (by decide) ⟨v_1, v_2, v_4, v_6, v_7, s9, e8, 0, v_13, v_14, v_15, rfl, c_3, c_5, c_8, zb0⟩
  have hkf : kf τ [] [d9] h h_26 := by rw [e_27]; exact kf_putM hkf (by simp)
  have hnp_f : knp τ f h h_26 := by rw [e_27]; exact knp_put hnp_f hOld
  refine lv_aload_n hx hb d_No_takeContent_15 rfl (lv_at hl 0 rfl) ?_
  refine lv_iconst (v := 0) hx hb d_No_takeContent_16 (by decide) ?_
  refine hm_put (ci := 1) (v := .int 0) (ty := .int) (C := R_No) (T := F_No) (N := 11) hx hb hts ig_No t_No tk_No nm_No hown hK hH hLo F_d9 rfl 8 (by decide) (hts _ mw_115) (fun _ h9 => h9) rfl (by decide +kernel) rfl rfl (Nat.le_of_ble_eq_true rfl) d_No_takeContent_17 (fun H_28 locs hH z_29 hLo => ?_)
  have hz : s.heap.size ≤ H_28.size := by rw [z_29]; exact hz
  obtain ⟨h_30, e_31⟩ : ∃ z, z = hu h_26 d9 (.inr (1, [.int v_1, va_rf v_2, .int v_4, .long v_6, .int v_7, .int s9, .int e8, .int 0, .int 0, .int v_14, .int v_15])) := ⟨_, rfl⟩
  have hH : hm D vwCl G h_30 H_28 := by rw [e_31]; exact hH
  have hOld := F_d9
  have F_d9 : h_30 d9 = some (.inr (1, [.int v_1, va_rf v_2, .int v_4, .long v_6, .int v_7, .int s9, .int e8, .int 0, .int 0, .int v_14, .int v_15])) := by rw [e_31]; exact hu_s _ _ _
  have hT : TI τ t n h_30 := by rw [e_31]; exact TI_put hT T_d9 (by decide) ⟨v_1, v_2, v_4, v_6, v_7, s9, e8, 0, 0, v_14, v_15, rfl, c_3, c_5, c_8, zb0⟩
  have hkf : kf τ [] [d9] h h_30 := by rw [e_31]; exact kf_putM hkf (by simp)
  have hnp_f : knp τ f h h_30 := by rw [e_31]; exact knp_put hnp_f hOld
  exact W.vret hx hb hr (fun t9 ht hW => ⟨h_30, rfl, ⟨hT, hkf, hnp_f⟩, by rw [ht]; exact hH, by rw [ht]; exact hz⟩) hLo d_No_takeContent_20

set_option maxHeartbeats 4000000 in
set_option maxRecDepth 100000 in
theorem t_nsettle (l : Launch) (D : va_G) (t : Nat → ClassId) (G : hG) (ak av : Nat → Nat) (h : hM) (τ : tM) (n f : Nat) (d9 : Nat) (x9 : Int32) (hn : n ≤ 200) (hT : TI τ t n h) (T_d9 : τ d9 = (10, f)) : Met l y_No_settle (.code y_No_settle b_No_settle 2 none :: lw_g) { frames := 0, cells := 0, slots := 0, locals := 0 } (hP (kE D t G ak av) D vwCl G h [.ref d9, .int x9]) (hQv D vwCl G (fun h' => TI τ t n h' ∧ kf τ [] [d9] h h' ∧ knp τ f h h')) 0 0 G.P := by
  refine Met.ofW (cc := b_No_settle) (maxL := 2) (ret := none) (by decide) rfl ?_
  intro p e s m args below meth c s₁ Bd hml hv
  obtain ⟨ha, hE, hH⟩ := hv
  have hx := Bd.exec
  have hb := Bd.bytes
  have hr := Bd.returns
  have hts : ∀ w ∈ lw_g, w.before args s = true := fun w hw => atoms_spec (ws := (.code y_No_settle b_No_settle 2 none :: lw_g)) Bd.pre w (List.mem_cons_of_mem _ hw)
  have hown : s.vm.findClass R_No = some m.cls := findClass_of_methodNamed Bd.named
  have hlocks := Bd.notSynchronized
  have hK := hE.1
  have hH0 := hH
  have hLo : hLc G.P [] := hLc_nil
  have hz : s.heap.size ≤ s.heap.size := Nat.le_refl _
  have hl := lv_entry [.ref d9, .int x9] (n := 2) (Nat.le_of_ble_eq_true rfl)
  rw [show entryFrame m args 2 = F0 m 0 ((lg_sl [.ref d9, .int x9] ++ List.replicate (2 - (lg_sl [.ref d9, .int x9]).length) Slot.unset).toArray) [] from (by rw [ha]; exact lg_entry_eq m [.ref d9, .int x9] 2)]
  generalize (lg_sl [.ref d9, .int x9] ++ List.replicate (2 - (lg_sl [.ref d9, .int x9]).length) Slot.unset).toArray = ls at hl ⊢
  have hl : lv_has ls 2 [(0, .ref d9), (1, .int x9)] := hl
  have hkf : kf τ [] [d9] h h := kf_rf
  have hnp_f : knp τ f h h := knp_rf
  refine lv_aload_n hx hb d_No_settle_0 rfl (lv_at hl 0 rfl) ?_
  refine lv_iload_n hx hb d_No_settle_1 rfl (lv_at hl 1 rfl) ?_
  obtain ⟨v_1, v_2, v_4, v_6, v_7, v_9, v_10, v_11, v_13, v_14, v_15, F_d9, c_3, c_5, c_8, c_12⟩ := TI_node hT T_d9
  refine hm_put (ci := 1) (v := .int x9) (ty := .int) (C := R_No) (T := F_No) (N := 11) hx hb hts ig_No t_No tk_No nm_No hown hK hH hLo F_d9 rfl 8 (by decide) (hts _ mw_115) (fun _ h9 => h9) rfl (by decide +kernel) rfl rfl (Nat.le_of_ble_eq_true rfl) d_No_settle_2 (fun H_16 locs hH z_17 hLo => ?_)
  have hz : s.heap.size ≤ H_16.size := by rw [z_17]; exact hz
  obtain ⟨h_18, e_19⟩ : ∃ z, z = hu h d9 (.inr (1, [.int v_1, va_rf v_2, .int v_4, .long v_6, .int v_7, .int v_9, .int v_10, .int v_11, .int x9, .int v_14, .int v_15])) := ⟨_, rfl⟩
  have hH : hm D vwCl G h_18 H_16 := by rw [e_19]; exact hH
  have hOld := F_d9
  have F_d9 : h_18 d9 = some (.inr (1, [.int v_1, va_rf v_2, .int v_4, .long v_6, .int v_7, .int v_9, .int v_10, .int v_11, .int x9, .int v_14, .int v_15])) := by rw [e_19]; exact hu_s _ _ _
  have hT : TI τ t n h_18 := by rw [e_19]; exact TI_put hT T_d9 (by decide) ⟨v_1, v_2, v_4, v_6, v_7, v_9, v_10, v_11, x9, v_14, v_15, rfl, c_3, c_5, c_8, c_12⟩
  have hkf : kf τ [] [d9] h h_18 := by rw [e_19]; exact kf_putM hkf (by simp)
  have hnp_f : knp τ f h h_18 := by rw [e_19]; exact knp_put hnp_f hOld
  refine lv_aload_n hx hb d_No_settle_5 rfl (lv_at hl 0 rfl) ?_
  refine lv_iconst (v := 1) hx hb d_No_settle_6 (by decide) ?_
  refine hm_put (ci := 1) (v := .int 1) (ty := .boolean) (C := R_No) (T := F_No) (N := 11) hx hb hts ig_No t_No tk_No nm_No hown hK hH hLo F_d9 rfl 7 (by decide) (hts _ mw_114) (fun _ h9 => h9) rfl (by decide +kernel) (by decide) (by decide) (Nat.le_of_ble_eq_true rfl) d_No_settle_7 (fun H_20 locs hH z_21 hLo => ?_)
  have hz : s.heap.size ≤ H_20.size := by rw [z_21]; exact hz
  obtain ⟨h_22, e_23⟩ : ∃ z, z = hu h_18 d9 (.inr (1, [.int v_1, va_rf v_2, .int v_4, .long v_6, .int v_7, .int v_9, .int v_10, .int 1, .int x9, .int v_14, .int v_15])) := ⟨_, rfl⟩
  have hH : hm D vwCl G h_22 H_20 := by rw [e_23]; exact hH
  have hOld := F_d9
  have F_d9 : h_22 d9 = some (.inr (1, [.int v_1, va_rf v_2, .int v_4, .long v_6, .int v_7, .int v_9, .int v_10, .int 1, .int x9, .int v_14, .int v_15])) := by rw [e_23]; exact hu_s _ _ _
  have hT : TI τ t n h_22 := by rw [e_23]; exact TI_put hT T_d9 (by decide) ⟨v_1, v_2, v_4, v_6, v_7, v_9, v_10, 1, x9, v_14, v_15, rfl, c_3, c_5, c_8, zb1⟩
  have hkf : kf τ [] [d9] h h_22 := by rw [e_23]; exact kf_putM hkf (by simp)
  have hnp_f : knp τ f h h_22 := by rw [e_23]; exact knp_put hnp_f hOld
  exact W.vret hx hb hr (fun t9 ht hW => ⟨h_22, rfl, ⟨hT, hkf, hnp_f⟩, by rw [ht]; exact hH, by rw [ht]; exact hz⟩) hLo d_No_settle_10

set_option maxHeartbeats 4000000 in
set_option maxRecDepth 100000 in
theorem t_takeName (l : Launch) (D : va_G) (t : Nat → ClassId) (G : hG) (ak av : Nat → Nat) (h : hM) (τ : tM) (n f : Nat) (d9 : Nat) (w9 : Int64) (hn : n ≤ 200) (hT : TI τ t n h) (T_d9 : τ d9 = (10, f)) : Met l y_No_takeName (.code y_No_takeName b_No_takeName 4 none :: lw_g) { frames := 0, cells := 0, slots := 0, locals := 0 } (hP (kE D t G ak av) D vwCl G h [.ref d9, .long w9]) (hQv D vwCl G (fun h' => TI τ t n h' ∧ kf τ [] [d9] h h' ∧ knp τ f h h' ∧ (rngN n h d9 → rngN n h' d9))) 0 0 G.P := by
  refine Met.ofW (cc := b_No_takeName) (maxL := 4) (ret := none) (by decide) rfl ?_
  intro p e s m args below meth c s₁ Bd hml hv
  obtain ⟨ha, hE, hH⟩ := hv
  have hx := Bd.exec
  have hb := Bd.bytes
  have hr := Bd.returns
  have hts : ∀ w ∈ lw_g, w.before args s = true := fun w hw => atoms_spec (ws := (.code y_No_takeName b_No_takeName 4 none :: lw_g)) Bd.pre w (List.mem_cons_of_mem _ hw)
  have hown : s.vm.findClass R_No = some m.cls := findClass_of_methodNamed Bd.named
  have hlocks := Bd.notSynchronized
  have hK := hE.1
  have hH0 := hH
  have hLo : hLc G.P [] := hLc_nil
  have hz : s.heap.size ≤ s.heap.size := Nat.le_refl _
  have hl := lv_entry [.ref d9, .long w9] (n := 4) (Nat.le_of_ble_eq_true rfl)
  rw [show entryFrame m args 4 = F0 m 0 ((lg_sl [.ref d9, .long w9] ++ List.replicate (4 - (lg_sl [.ref d9, .long w9]).length) Slot.unset).toArray) [] from (by rw [ha]; exact lg_entry_eq m [.ref d9, .long w9] 4)]
  generalize (lg_sl [.ref d9, .long w9] ++ List.replicate (4 - (lg_sl [.ref d9, .long w9]).length) Slot.unset).toArray = ls at hl ⊢
  have hl : lv_has ls 4 [(0, .ref d9), (1, .long w9)] := hl
  have hkf : kf τ [] [d9] h h := kf_rf
  have hnp_f : knp τ f h h := knp_rf
  obtain ⟨v_1, v_2, v_4, v_6, v_7, v_9, v_10, v_11, v_13, v_14, v_15, F_d9, c_3, c_5, c_8, c_12⟩ := TI_node hT T_d9
  have O_d9 := F_d9
  refine lv_aload_n hx hb d_No_takeName_0 rfl (lv_at hl 0 rfl) ?_
  refine lv_lload_n hx hb d_No_takeName_1 rfl (lv_at hl 1 rfl) ?_
  refine hm_put (ci := 1) (v := .long w9) (ty := .long) (C := R_No) (T := F_No) (N := 11) hx hb hts ig_No t_No tk_No nm_No hown hK hH hLo F_d9 rfl 3 (by decide) (hts _ mw_104) (fun _ h9 => h9) rfl (by decide +kernel) rfl rfl (Nat.le_of_ble_eq_true rfl) d_No_takeName_2 (fun H_16 locs hH z_17 hLo => ?_)
  have hz : s.heap.size ≤ H_16.size := by rw [z_17]; exact hz
  obtain ⟨h_18, e_19⟩ : ∃ z, z = hu h d9 (.inr (1, [.int v_1, va_rf v_2, .int v_4, .long w9, .int v_7, .int v_9, .int v_10, .int v_11, .int v_13, .int v_14, .int v_15])) := ⟨_, rfl⟩
  have hH : hm D vwCl G h_18 H_16 := by rw [e_19]; exact hH
  have hOld := F_d9
  have F_d9 : h_18 d9 = some (.inr (1, [.int v_1, va_rf v_2, .int v_4, .long w9, .int v_7, .int v_9, .int v_10, .int v_11, .int v_13, .int v_14, .int v_15])) := by rw [e_19]; exact hu_s _ _ _
  have hT : TI τ t n h_18 := by rw [e_19]; exact TI_put hT T_d9 (by decide) ⟨v_1, v_2, v_4, w9, v_7, v_9, v_10, v_11, v_13, v_14, v_15, rfl, c_3, c_5, c_8, c_12⟩
  have hkf : kf τ [] [d9] h h_18 := by rw [e_19]; exact kf_putM hkf (by simp)
  have hnp_f : knp τ f h h_18 := by rw [e_19]; exact knp_put hnp_f hOld
  refine lv_aload_n hx hb d_No_takeName_5 rfl (lv_at hl 0 rfl) ?_
  refine lv_iconst (v := 0) hx hb d_No_takeName_6 (by decide) ?_
  refine hm_put (ci := 1) (v := .int 0) (ty := .int) (C := R_No) (T := F_No) (N := 11) hx hb hts ig_No t_No tk_No nm_No hown hK hH hLo F_d9 rfl 4 (by decide) (hts _ mw_101) (fun _ h9 => h9) rfl (by decide +kernel) rfl rfl (Nat.le_of_ble_eq_true rfl) d_No_takeName_7 (fun H_20 locs hH z_21 hLo => ?_)
  have hz : s.heap.size ≤ H_20.size := by rw [z_21]; exact hz
  obtain ⟨h_22, e_23⟩ : ∃ z, z = hu h_18 d9 (.inr (1, [.int v_1, va_rf v_2, .int v_4, .long w9, .int 0, .int v_9, .int v_10, .int v_11, .int v_13, .int v_14, .int v_15])) := ⟨_, rfl⟩
  have hH : hm D vwCl G h_22 H_20 := by rw [e_23]; exact hH
  have hOld := F_d9
  have F_d9 : h_22 d9 = some (.inr (1, [.int v_1, va_rf v_2, .int v_4, .long w9, .int 0, .int v_9, .int v_10, .int v_11, .int v_13, .int v_14, .int v_15])) := by rw [e_23]; exact hu_s _ _ _
  have hT : TI τ t n h_22 := by rw [e_23]; exact TI_put hT T_d9 (by decide) ⟨v_1, v_2, v_4, w9, 0, v_9, v_10, v_11, v_13, v_14, v_15, rfl, c_3, c_5, ⟨by decide, by decide⟩, c_12⟩
  have hkf : kf τ [] [d9] h h_22 := by rw [e_23]; exact kf_putM hkf (by simp)
  have hnp_f : knp τ f h h_22 := by rw [e_23]; exact knp_put hnp_f hOld
  refine lv_iconst (v := 0) hx hb d_No_takeName_10 (by decide) ?_
  refine lv_istore_n (lv' := [(3, .int 0), (0, .ref d9), (1, .long w9)]) hx hb d_No_takeName_11 rfl hl (by decide) rfl (fun ls hl => ?_)
  refine hm_loop (fun k12 ls H locs hh12 => ∃ (sh : Int32) (le : Int32), k12 = (64 - sh.toInt).toNat ∧ lv_has ls 4 [(3, .int sh), (0, .ref d9), (1, .long w9)] ∧ hm D vwCl G hh12 H ∧ s.heap.size ≤ H.size ∧ hLc G.P locs ∧ hh12 d9 = some (.inr (1, [.int v_1, va_rf v_2, .int v_4, .long w9, .int le, .int v_9, .int v_10, .int v_11, .int v_13, .int v_14, .int v_15])) ∧ (TI τ t n hh12) ∧ (kf τ [] [d9] h hh12) ∧ (knp τ f h hh12) ∧ (0 ≤ sh.toInt ∧ sh.toInt ≤ 64 ∧ sh.toInt % 8 = 0) ∧ (0 ≤ le.toInt ∧ 8 * le.toInt ≤ sh.toInt)) ?_ (hh := h_22) ⟨0, 0, rfl, (lv_sub hl [0, 1, 2] rfl), hH, hz, hLo, F_d9, hT, hkf, hnp_f, (by decide), (by decide)⟩
  rintro k12 ls H locs hh12 ⟨sh, le, hk12, hl, hH, hz, hLo, F_d9, hT, hkf, hnp_f, I1, I2⟩ ih12
  refine lv_iload_n hx hb d_No_takeName_12 rfl (lv_at hl 0 rfl) ?_
  refine lv_bipush (v := 64) hx hb d_No_takeName_13 (by decide) ?_
  refine lv_icmp_ge (tgt := 42) hx hb d_No_takeName_15 (by decide) (fun hc_24 => ?_) (fun hc_24 => ?_)
  · skip
    have ic_25 : 64 ≤ sh.toInt := iLe hc_24
    exact W.vret hx hb hr (fun t9 ht hW => ⟨hh12, rfl, ⟨hT, hkf, hnp_f, (fun hq => rng_set hq O_d9 F_d9)⟩, by rw [ht]; exact hH, by rw [ht]; exact hz⟩) hLo d_No_takeName_42
  · skip
    have ic_26 : sh.toInt < 64 := iNe hc_24
    refine lv_lload_n hx hb d_No_takeName_18 rfl (lv_at hl 2 rfl) ?_
    refine lv_iload_n hx hb d_No_takeName_19 rfl (lv_at hl 0 rfl) ?_
    refine lv_lushr (v := (w9.toUInt64 >>> (sh.toInt64.toUInt64 &&& Int64.toUInt64 63)).toInt64) hx hb d_No_takeName_20 rfl ?_
    refine lv_lconst (v := 0) hx hb d_No_takeName_21 (by decide) ?_
    refine W.lcmp hx hb d_No_takeName_22 ?_
    refine lv_if_eq (tgt := 36) hx hb d_No_takeName_23 (by decide) (fun hc_27 => ?_) (fun hc_27 => ?_)
    · skip
      obtain ⟨j_28, e_29⟩ : ∃ z : Int32, z = sh + 8 := ⟨_, rfl⟩
      refine lv_iinc (v := j_28) (lv' := [(3, .int j_28), (0, .ref d9), (1, .long w9)]) hx hb d_No_takeName_36 hl (k := 0) rfl e_29.symm (by decide) rfl (fun ls hl => ?_)
      refine lv_goto (tgt := 12) hx hb d_No_takeName_39 (by decide) ?_
      have is_30 : j_28.toInt = sh.toInt + 8 := by rw [e_29]; exact iAddK 8 rfl (by omega) (by omega)
      exact ih12 ((64 - j_28.toInt).toNat) ls _ locs _ (by rw [hk12]; omega) ⟨j_28, le, rfl, (lv_sub hl [0, 1, 2] rfl), hH, hz, hLo, F_d9, hT, hkf, hnp_f, (by omega), (by omega)⟩
    · skip
      refine lv_aload_n hx hb d_No_takeName_26 rfl (lv_at hl 1 rfl) ?_
      refine lv_dup hx hb d_No_takeName_27 rfl ?_
      refine hm_get (ci := 1) (v := .int le) (C := R_No) (T := F_No) (N := 11) hx hb hts ig_No hown hK hH F_d9 rfl 4 (by decide) (hts _ mw_101) (fun _ h9 => h9) rfl d_No_takeName_28 ?_
      refine lv_iconst (v := 1) hx hb d_No_takeName_31 (by decide) ?_
      refine lv_iadd hx hb d_No_takeName_32 ?_
      refine lv_topi (fun v_31 e_32 => ?_)
      have is_33 : v_31.toInt = le.toInt + 1 := by rw [e_32]; exact iAddK 1 rfl (by omega) (by omega)
      refine hm_put (ci := 1) (v := .int v_31) (ty := .int) (C := R_No) (T := F_No) (N := 11) hx hb hts ig_No t_No tk_No nm_No hown hK hH hLo F_d9 rfl 4 (by decide) (hts _ mw_101) (fun _ h9 => h9) rfl (by decide +kernel) rfl rfl (Nat.le_of_ble_eq_true rfl) d_No_takeName_33 (fun H_34 locs hH z_35 hLo => ?_)
      have hz : s.heap.size ≤ H_34.size := by rw [z_35]; exact hz
      obtain ⟨h_36, e_37⟩ : ∃ z, z = hu hh12 d9 (.inr (1, [.int v_1, va_rf v_2, .int v_4, .long w9, .int v_31, .int v_9, .int v_10, .int v_11, .int v_13, .int v_14, .int v_15])) := ⟨_, rfl⟩
      have hH : hm D vwCl G h_36 H_34 := by rw [e_37]; exact hH
      have hOld := F_d9
      have F_d9 : h_36 d9 = some (.inr (1, [.int v_1, va_rf v_2, .int v_4, .long w9, .int v_31, .int v_9, .int v_10, .int v_11, .int v_13, .int v_14, .int v_15])) := by rw [e_37]; exact hu_s _ _ _
      have hT : TI τ t n h_36 := by rw [e_37]; exact TI_put hT T_d9 (by decide) ⟨v_1, v_2, v_4, w9, v_31, v_9, v_10, v_11, v_13, v_14, v_15, rfl, c_3, c_5, ⟨by omega, by omega⟩, c_12⟩
      have hkf : kf τ [] [d9] h h_36 := by rw [e_37]; exact kf_putM hkf (by simp)
      have hnp_f : knp τ f h h_36 := by rw [e_37]; exact knp_put hnp_f hOld
      obtain ⟨j_38, e_39⟩ : ∃ z : Int32, z = sh + 8 := ⟨_, rfl⟩
      refine lv_iinc (v := j_38) (lv' := [(3, .int j_38), (0, .ref d9), (1, .long w9)]) hx hb d_No_takeName_36 hl (k := 0) rfl e_39.symm (by decide) rfl (fun ls hl => ?_)
      refine lv_goto (tgt := 12) hx hb d_No_takeName_39 (by decide) ?_
      have is_40 : j_38.toInt = sh.toInt + 8 := by rw [e_39]; exact iAddK 8 rfl (by omega) (by omega)
      exact ih12 ((64 - j_38.toInt).toNat) ls _ locs _ (by rw [hk12]; omega) ⟨j_38, v_31, rfl, (lv_sub hl [0, 1, 2] rfl), hH, hz, hLo, F_d9, hT, hkf, hnp_f, (by omega), (by omega)⟩

set_option maxHeartbeats 4000000 in
set_option maxRecDepth 100000 in
theorem t_become0 (l : Launch) (D : va_G) (t : Nat → ClassId) (G : hG) (ak av : Nat → Nat) (h : hM) (τ : tM) (n f : Nat) (d9 : Nat) (z9 : Int32) (w9 : Int64) (hn : n ≤ 200) (hT : TI τ t n h) (T_d9 : τ d9 = (10, f)) (Z_z9 : zb z9) : Met l y_No_become (.code y_No_become b_No_become 5 none :: lw_g) { frames := 1, cells := 0, slots := 0, locals := 23 } (hP (kE D t G ak av) D vwCl G h [.ref d9, .null, .int z9, .long w9]) (hQv D vwCl G (fun h' => TI τ t n h' ∧ kf τ [] [d9] h h' ∧ (∀ x y, nod h d9 = some (x, y) → nod h' d9 = some (x, .null)))) 0 0 G.P := by
  refine Met.ofW (cc := b_No_become) (maxL := 5) (ret := none) (by decide) rfl ?_
  intro p e s m args below meth c s₁ Bd hml hv
  obtain ⟨ha, hE, hH⟩ := hv
  have hx := Bd.exec
  have hb := Bd.bytes
  have hr := Bd.returns
  have hts : ∀ w ∈ lw_g, w.before args s = true := fun w hw => atoms_spec (ws := (.code y_No_become b_No_become 5 none :: lw_g)) Bd.pre w (List.mem_cons_of_mem _ hw)
  have hown : s.vm.findClass R_No = some m.cls := findClass_of_methodNamed Bd.named
  have hlocks := Bd.notSynchronized
  have hK := hE.1
  have hH0 := hH
  have hLo : hLc G.P [] := hLc_nil
  have hz : s.heap.size ≤ s.heap.size := Nat.le_refl _
  have hl := lv_entry [.ref d9, .null, .int z9, .long w9] (n := 5) (Nat.le_of_ble_eq_true rfl)
  rw [show entryFrame m args 5 = F0 m 0 ((lg_sl [.ref d9, .null, .int z9, .long w9] ++ List.replicate (5 - (lg_sl [.ref d9, .null, .int z9, .long w9]).length) Slot.unset).toArray) [] from (by rw [ha]; exact lg_entry_eq m [.ref d9, .null, .int z9, .long w9] 5)]
  generalize (lg_sl [.ref d9, .null, .int z9, .long w9] ++ List.replicate (5 - (lg_sl [.ref d9, .null, .int z9, .long w9]).length) Slot.unset).toArray = ls at hl ⊢
  have hl : lv_has ls 5 [(0, .ref d9), (1, .null), (2, .int z9), (3, .long w9)] := hl
  have hkf : kf τ [] [d9] h h := kf_rf
  obtain ⟨v_1, v_2, v_4, v_6, v_7, v_9, v_10, v_11, v_13, v_14, v_15, F_d9, c_3, c_5, c_8, c_12⟩ := TI_node hT T_d9
  have hO : nod h d9 = some (.int v_1, va_rf v_2) := nod_of F_d9
  refine lv_aload_n hx hb d_No_become_0 rfl (lv_at hl 0 rfl) ?_
  refine lv_aload_nN hx hb d_No_become_1 rfl (lv_at hl 1 rfl) ?_
  refine hm_put (ci := 1) (v := .null) (ty := (.object "WriteOnceDisc$Node")) (C := R_No) (T := F_No) (N := 11) hx hb hts ig_No t_No tk_No nm_No hown hK hH hLo F_d9 rfl 1 (by decide) (hts _ mw_96) (fun _ h9 => h9) rfl (by decide +kernel) rfl rfl (Nat.le_of_ble_eq_true rfl) d_No_become_2 (fun H_16 locs hH z_17 hLo => ?_)
  have hz : s.heap.size ≤ H_16.size := by rw [z_17]; exact hz
  obtain ⟨h_18, e_19⟩ : ∃ z, z = hu h d9 (.inr (1, [.int v_1, .null, .int v_4, .long v_6, .int v_7, .int v_9, .int v_10, .int v_11, .int v_13, .int v_14, .int v_15])) := ⟨_, rfl⟩
  have hH : hm D vwCl G h_18 H_16 := by rw [e_19]; exact hH
  have F_d9 : h_18 d9 = some (.inr (1, [.int v_1, .null, .int v_4, .long v_6, .int v_7, .int v_9, .int v_10, .int v_11, .int v_13, .int v_14, .int v_15])) := by rw [e_19]; exact hu_s _ _ _
  have hT : TI τ t n h_18 := by rw [e_19]; exact TI_put hT T_d9 (by decide) ⟨v_1, none, v_4, v_6, v_7, v_9, v_10, v_11, v_13, v_14, v_15, rfl, (fun _ h9 => by cases h9), c_5, c_8, c_12⟩
  have hkf : kf τ [] [d9] h h_18 := by rw [e_19]; exact kf_putM hkf (by simp)
  have hbn : nod h_18 d9 = some (.int v_1, .null) := nod_of F_d9
  refine lv_aload_n hx hb d_No_become_5 rfl (lv_at hl 0 rfl) ?_
  refine lv_iload_n hx hb d_No_become_6 rfl (lv_at hl 2 rfl) ?_
  refine hm_put (ci := 1) (v := .int z9) (ty := .boolean) (C := R_No) (T := F_No) (N := 11) hx hb hts ig_No t_No tk_No nm_No hown hK hH hLo F_d9 rfl 2 (by decide) (hts _ mw_94) (fun _ h9 => h9) rfl (by decide +kernel) (zb_n Z_z9) (zb_f Z_z9) (Nat.le_of_ble_eq_true rfl) d_No_become_7 (fun H_20 locs hH z_21 hLo => ?_)
  have hz : s.heap.size ≤ H_20.size := by rw [z_21]; exact hz
  obtain ⟨h_22, e_23⟩ : ∃ z, z = hu h_18 d9 (.inr (1, [.int v_1, .null, .int z9, .long v_6, .int v_7, .int v_9, .int v_10, .int v_11, .int v_13, .int v_14, .int v_15])) := ⟨_, rfl⟩
  have hH : hm D vwCl G h_22 H_20 := by rw [e_23]; exact hH
  have hOld := F_d9
  have F_d9 : h_22 d9 = some (.inr (1, [.int v_1, .null, .int z9, .long v_6, .int v_7, .int v_9, .int v_10, .int v_11, .int v_13, .int v_14, .int v_15])) := by rw [e_23]; exact hu_s _ _ _
  have hT : TI τ t n h_22 := by rw [e_23]; exact TI_put hT T_d9 (by decide) ⟨v_1, none, z9, v_6, v_7, v_9, v_10, v_11, v_13, v_14, v_15, rfl, (fun _ h9 => by cases h9), Z_z9, c_8, c_12⟩
  have hkf : kf τ [] [d9] h h_22 := by rw [e_23]; exact kf_putM hkf (by simp)
  have hbn : nod h_22 d9 = some (.int v_1, .null) := nod_of F_d9
  refine lv_aload_n hx hb d_No_become_10 rfl (lv_at hl 0 rfl) ?_
  refine lv_lload_n hx hb d_No_become_11 rfl (lv_at hl 3 rfl) ?_
  refine hm_callv (va_runV (As := [.long w9]) (b := d9) (rest := []) ⟨hx, hb, hml, hown, hts⟩ (t_takeName l D t G ak av h_22 τ n f d9 w9  hn hT T_d9) ⟨cw9B 1 hts mw_116 mw_117 mw_106 rfl rfl (by decide +kernel) ⟨Nat.le_of_ble_eq_true rfl, Nat.le_of_ble_eq_true rfl⟩, hts _ mw_118, hts _ mw_119⟩ (hP_V (q := (R_No, F_No, 11)) kE_ok hE hK hH F_d9 rfl) rfl rfl hl.1 rfl (lv_room (Nat.le_of_ble_eq_true rfl)) d_No_become_12 ⟨Nat.le_of_ble_eq_true rfl, Nat.le_of_ble_eq_true rfl⟩) hLo (fun h_24 H_25 locs hp_27 hH z_26 hLo => ?_)
  have hz : s.heap.size ≤ H_25.size := Nat.le_trans hz z_26
  have hT0 := hT
  obtain ⟨hT, kf_29, xk_30, xp_28⟩ := hp_27
  have hbn : nod h_24 d9 = some (.int v_1, .null) := by rw [xk_30 d9 T_d9]; exact hbn
  have hkf : kf τ [] [d9] h h_24 := kf_tr hkf kf_29 (List.forall_mem_nil _) (List.forall_mem_cons.mpr ⟨Or.inl (by simp), List.forall_mem_nil _⟩)
  refine lv_aload_n hx hb d_No_become_15 rfl (lv_at hl 0 rfl) ?_
  refine lv_iconst (v := 0) hx hb d_No_become_16 (by decide) ?_
  refine lv_iconst (v := 0) hx hb d_No_become_17 (by decide) ?_
  obtain ⟨v_31, v_32, v_34, v_36, v_37, v_39, v_40, v_41, v_43, v_44, v_45, F_d9, c_33, c_35, c_38, c_42⟩ := TI_node hT T_d9
  refine hm_callv (va_runV (As := [.int 0, .int 0]) (b := d9) (rest := []) ⟨hx, hb, hml, hown, hts⟩ (t_takeContent l D t G ak av h_24 τ n f d9 0 0  hn hT T_d9) ⟨cw9B 2 hts mw_120 mw_121 mw_106 rfl rfl (by decide +kernel) ⟨Nat.le_of_ble_eq_true rfl, Nat.le_of_ble_eq_true rfl⟩, hts _ mw_122, hts _ mw_123⟩ (hP_V (q := (R_No, F_No, 11)) kE_ok hE hK hH F_d9 rfl) rfl rfl hl.1 rfl (lv_room (Nat.le_of_ble_eq_true rfl)) d_No_become_18 ⟨Nat.le_of_ble_eq_true rfl, Nat.le_of_ble_eq_true rfl⟩) hLo (fun h_46 H_47 locs hp_49 hH z_48 hLo => ?_)
  have hz : s.heap.size ≤ H_47.size := Nat.le_trans hz z_48
  have hT0 := hT
  obtain ⟨hT, kf_51, xk_52⟩ := hp_49
  have hbn : nod h_46 d9 = some (.int v_1, .null) := by rw [xk_52 d9 T_d9]; exact hbn
  have hkf : kf τ [] [d9] h h_46 := kf_tr hkf kf_51 (List.forall_mem_nil _) (List.forall_mem_cons.mpr ⟨Or.inl (by simp), List.forall_mem_nil _⟩)
  exact W.vret hx hb hr (fun t9 ht hW => ⟨h_46, rfl, ⟨hT, hkf, (fun x y h9 => by rw [hO] at h9; cases h9; exact hbn)⟩, by rw [ht]; exact hH, by rw [ht]; exact hz⟩) hLo d_No_become_21

set_option maxHeartbeats 4000000 in
set_option maxRecDepth 100000 in
theorem t_become1 (l : Launch) (D : va_G) (t : Nat → ClassId) (G : hG) (ak av : Nat → Nat) (h : hM) (τ : tM) (n f : Nat) (d9 : Nat) (p9 : Nat) (z9 : Int32) (w9 : Int64) (hn : n ≤ 200) (hT : TI τ t n h) (T_d9 : τ d9 = (10, f)) (T_p9 : τ p9 = (10, f)) (Z_z9 : zb z9) : Met l y_No_become (.code y_No_become b_No_become 5 none :: lw_g) { frames := 1, cells := 0, slots := 0, locals := 23 } (hP (kE D t G ak av) D vwCl G h [.ref d9, .ref p9, .int z9, .long w9]) (hQv D vwCl G (fun h' => TI τ t n h' ∧ kf τ [] [d9] h h' ∧ (∀ x y, nod h d9 = some (x, y) → nod h' d9 = some (x, .ref p9)))) 0 0 G.P := by
  refine Met.ofW (cc := b_No_become) (maxL := 5) (ret := none) (by decide) rfl ?_
  intro p e s m args below meth c s₁ Bd hml hv
  obtain ⟨ha, hE, hH⟩ := hv
  have hx := Bd.exec
  have hb := Bd.bytes
  have hr := Bd.returns
  have hts : ∀ w ∈ lw_g, w.before args s = true := fun w hw => atoms_spec (ws := (.code y_No_become b_No_become 5 none :: lw_g)) Bd.pre w (List.mem_cons_of_mem _ hw)
  have hown : s.vm.findClass R_No = some m.cls := findClass_of_methodNamed Bd.named
  have hlocks := Bd.notSynchronized
  have hK := hE.1
  have hH0 := hH
  have hLo : hLc G.P [] := hLc_nil
  have hz : s.heap.size ≤ s.heap.size := Nat.le_refl _
  have hl := lv_entry [.ref d9, .ref p9, .int z9, .long w9] (n := 5) (Nat.le_of_ble_eq_true rfl)
  rw [show entryFrame m args 5 = F0 m 0 ((lg_sl [.ref d9, .ref p9, .int z9, .long w9] ++ List.replicate (5 - (lg_sl [.ref d9, .ref p9, .int z9, .long w9]).length) Slot.unset).toArray) [] from (by rw [ha]; exact lg_entry_eq m [.ref d9, .ref p9, .int z9, .long w9] 5)]
  generalize (lg_sl [.ref d9, .ref p9, .int z9, .long w9] ++ List.replicate (5 - (lg_sl [.ref d9, .ref p9, .int z9, .long w9]).length) Slot.unset).toArray = ls at hl ⊢
  have hl : lv_has ls 5 [(0, .ref d9), (1, .ref p9), (2, .int z9), (3, .long w9)] := hl
  have hkf : kf τ [] [d9] h h := kf_rf
  obtain ⟨v_1, v_2, v_4, v_6, v_7, v_9, v_10, v_11, v_13, v_14, v_15, F_d9, c_3, c_5, c_8, c_12⟩ := TI_node hT T_d9
  have hO : nod h d9 = some (.int v_1, va_rf v_2) := nod_of F_d9
  refine lv_aload_n hx hb d_No_become_0 rfl (lv_at hl 0 rfl) ?_
  refine lv_aload_n hx hb d_No_become_1 rfl (lv_at hl 1 rfl) ?_
  refine hm_put (ci := 1) (v := .ref p9) (ty := (.object "WriteOnceDisc$Node")) (C := R_No) (T := F_No) (N := 11) hx hb hts ig_No t_No tk_No nm_No hown hK hH hLo F_d9 rfl 1 (by decide) (hts _ mw_96) (fun _ h9 => h9) rfl (by decide +kernel) rfl rfl (Nat.le_of_ble_eq_true rfl) d_No_become_2 (fun H_16 locs hH z_17 hLo => ?_)
  have hz : s.heap.size ≤ H_16.size := by rw [z_17]; exact hz
  obtain ⟨h_18, e_19⟩ : ∃ z, z = hu h d9 (.inr (1, [.int v_1, .ref p9, .int v_4, .long v_6, .int v_7, .int v_9, .int v_10, .int v_11, .int v_13, .int v_14, .int v_15])) := ⟨_, rfl⟩
  have hH : hm D vwCl G h_18 H_16 := by rw [e_19]; exact hH
  have F_d9 : h_18 d9 = some (.inr (1, [.int v_1, .ref p9, .int v_4, .long v_6, .int v_7, .int v_9, .int v_10, .int v_11, .int v_13, .int v_14, .int v_15])) := by rw [e_19]; exact hu_s _ _ _
  have hT : TI τ t n h_18 := by rw [e_19]; exact TI_put hT T_d9 (by decide) ⟨v_1, some p9, v_4, v_6, v_7, v_9, v_10, v_11, v_13, v_14, v_15, rfl, (fun _ h9 => by cases h9; exact T_p9), c_5, c_8, c_12⟩
  have hkf : kf τ [] [d9] h h_18 := by rw [e_19]; exact kf_putM hkf (by simp)
  have hbn : nod h_18 d9 = some (.int v_1, .ref p9) := nod_of F_d9
  refine lv_aload_n hx hb d_No_become_5 rfl (lv_at hl 0 rfl) ?_
  refine lv_iload_n hx hb d_No_become_6 rfl (lv_at hl 2 rfl) ?_
  refine hm_put (ci := 1) (v := .int z9) (ty := .boolean) (C := R_No) (T := F_No) (N := 11) hx hb hts ig_No t_No tk_No nm_No hown hK hH hLo F_d9 rfl 2 (by decide) (hts _ mw_94) (fun _ h9 => h9) rfl (by decide +kernel) (zb_n Z_z9) (zb_f Z_z9) (Nat.le_of_ble_eq_true rfl) d_No_become_7 (fun H_20 locs hH z_21 hLo => ?_)
  have hz : s.heap.size ≤ H_20.size := by rw [z_21]; exact hz
  obtain ⟨h_22, e_23⟩ : ∃ z, z = hu h_18 d9 (.inr (1, [.int v_1, .ref p9, .int z9, .long v_6, .int v_7, .int v_9, .int v_10, .int v_11, .int v_13, .int v_14, .int v_15])) := ⟨_, rfl⟩
  have hH : hm D vwCl G h_22 H_20 := by rw [e_23]; exact hH
  have hOld := F_d9
  have F_d9 : h_22 d9 = some (.inr (1, [.int v_1, .ref p9, .int z9, .long v_6, .int v_7, .int v_9, .int v_10, .int v_11, .int v_13, .int v_14, .int v_15])) := by rw [e_23]; exact hu_s _ _ _
  have hT : TI τ t n h_22 := by rw [e_23]; exact TI_put hT T_d9 (by decide) ⟨v_1, some p9, z9, v_6, v_7, v_9, v_10, v_11, v_13, v_14, v_15, rfl, (fun _ h9 => by cases h9; exact T_p9), Z_z9, c_8, c_12⟩
  have hkf : kf τ [] [d9] h h_22 := by rw [e_23]; exact kf_putM hkf (by simp)
  have hbn : nod h_22 d9 = some (.int v_1, .ref p9) := nod_of F_d9
  refine lv_aload_n hx hb d_No_become_10 rfl (lv_at hl 0 rfl) ?_
  refine lv_lload_n hx hb d_No_become_11 rfl (lv_at hl 3 rfl) ?_
  refine hm_callv (va_runV (As := [.long w9]) (b := d9) (rest := []) ⟨hx, hb, hml, hown, hts⟩ (t_takeName l D t G ak av h_22 τ n f d9 w9  hn hT T_d9) ⟨cw9B 1 hts mw_116 mw_117 mw_106 rfl rfl (by decide +kernel) ⟨Nat.le_of_ble_eq_true rfl, Nat.le_of_ble_eq_true rfl⟩, hts _ mw_118, hts _ mw_119⟩ (hP_V (q := (R_No, F_No, 11)) kE_ok hE hK hH F_d9 rfl) rfl rfl hl.1 rfl (lv_room (Nat.le_of_ble_eq_true rfl)) d_No_become_12 ⟨Nat.le_of_ble_eq_true rfl, Nat.le_of_ble_eq_true rfl⟩) hLo (fun h_24 H_25 locs hp_27 hH z_26 hLo => ?_)
  have hz : s.heap.size ≤ H_25.size := Nat.le_trans hz z_26
  have hT0 := hT
  obtain ⟨hT, kf_29, xk_30, xp_28⟩ := hp_27
  have hbn : nod h_24 d9 = some (.int v_1, .ref p9) := by rw [xk_30 d9 T_d9]; exact hbn
  have hkf : kf τ [] [d9] h h_24 := kf_tr hkf kf_29 (List.forall_mem_nil _) (List.forall_mem_cons.mpr ⟨Or.inl (by simp), List.forall_mem_nil _⟩)
  refine lv_aload_n hx hb d_No_become_15 rfl (lv_at hl 0 rfl) ?_
  refine lv_iconst (v := 0) hx hb d_No_become_16 (by decide) ?_
  refine lv_iconst (v := 0) hx hb d_No_become_17 (by decide) ?_
  obtain ⟨v_31, v_32, v_34, v_36, v_37, v_39, v_40, v_41, v_43, v_44, v_45, F_d9, c_33, c_35, c_38, c_42⟩ := TI_node hT T_d9
  refine hm_callv (va_runV (As := [.int 0, .int 0]) (b := d9) (rest := []) ⟨hx, hb, hml, hown, hts⟩ (t_takeContent l D t G ak av h_24 τ n f d9 0 0  hn hT T_d9) ⟨cw9B 2 hts mw_120 mw_121 mw_106 rfl rfl (by decide +kernel) ⟨Nat.le_of_ble_eq_true rfl, Nat.le_of_ble_eq_true rfl⟩, hts _ mw_122, hts _ mw_123⟩ (hP_V (q := (R_No, F_No, 11)) kE_ok hE hK hH F_d9 rfl) rfl rfl hl.1 rfl (lv_room (Nat.le_of_ble_eq_true rfl)) d_No_become_18 ⟨Nat.le_of_ble_eq_true rfl, Nat.le_of_ble_eq_true rfl⟩) hLo (fun h_46 H_47 locs hp_49 hH z_48 hLo => ?_)
  have hz : s.heap.size ≤ H_47.size := Nat.le_trans hz z_48
  have hT0 := hT
  obtain ⟨hT, kf_51, xk_52⟩ := hp_49
  have hbn : nod h_46 d9 = some (.int v_1, .ref p9) := by rw [xk_52 d9 T_d9]; exact hbn
  have hkf : kf τ [] [d9] h h_46 := kf_tr hkf kf_51 (List.forall_mem_nil _) (List.forall_mem_cons.mpr ⟨Or.inl (by simp), List.forall_mem_nil _⟩)
  exact W.vret hx hb hr (fun t9 ht hW => ⟨h_46, rfl, ⟨hT, hkf, (fun x y h9 => by rw [hO] at h9; cases h9; exact hbn)⟩, by rw [ht]; exact hH, by rw [ht]; exact hz⟩) hLo d_No_become_21

set_option maxHeartbeats 4000000 in
set_option maxRecDepth 100000 in
theorem t_nadopt (l : Launch) (D : va_G) (t : Nat → ClassId) (G : hG) (ak av : Nat → Nat) (h : hM) (τ : tM) (n f g : Nat) (d9 : Nat) (e9 : Nat) (hn : n ≤ 200) (hT : TI τ t n h) (T_d9 : τ d9 = (10, f)) (T_e9 : τ e9 = (10, g)) : Met l y_No_adopt (.code y_No_adopt b_No_adopt 2 none :: lw_g) { frames := 1, cells := 0, slots := 0, locals := 23 } (hP (kE D t G ak av) D vwCl G h [.ref d9, .ref e9]) (hQv D vwCl G (fun h' => TI τ t n h' ∧ kf τ [] [d9] h h' ∧ knp τ f h h')) 0 0 G.P := by
  refine Met.ofW (cc := b_No_adopt) (maxL := 2) (ret := none) (by decide) rfl ?_
  intro p e s m args below meth c s₁ Bd hml hv
  obtain ⟨ha, hE, hH⟩ := hv
  have hx := Bd.exec
  have hb := Bd.bytes
  have hr := Bd.returns
  have hts : ∀ w ∈ lw_g, w.before args s = true := fun w hw => atoms_spec (ws := (.code y_No_adopt b_No_adopt 2 none :: lw_g)) Bd.pre w (List.mem_cons_of_mem _ hw)
  have hown : s.vm.findClass R_No = some m.cls := findClass_of_methodNamed Bd.named
  have hlocks := Bd.notSynchronized
  have hK := hE.1
  have hH0 := hH
  have hLo : hLc G.P [] := hLc_nil
  have hz : s.heap.size ≤ s.heap.size := Nat.le_refl _
  have hl := lv_entry [.ref d9, .ref e9] (n := 2) (Nat.le_of_ble_eq_true rfl)
  rw [show entryFrame m args 2 = F0 m 0 ((lg_sl [.ref d9, .ref e9] ++ List.replicate (2 - (lg_sl [.ref d9, .ref e9]).length) Slot.unset).toArray) [] from (by rw [ha]; exact lg_entry_eq m [.ref d9, .ref e9] 2)]
  generalize (lg_sl [.ref d9, .ref e9] ++ List.replicate (2 - (lg_sl [.ref d9, .ref e9]).length) Slot.unset).toArray = ls at hl ⊢
  have hl : lv_has ls 2 [(0, .ref d9), (1, .ref e9)] := hl
  have hkf : kf τ [] [d9] h h := kf_rf
  have hnp_f : knp τ f h h := knp_rf
  refine lv_aload_n hx hb d_No_adopt_0 rfl (lv_at hl 0 rfl) ?_
  refine lv_aload_n hx hb d_No_adopt_1 rfl (lv_at hl 1 rfl) ?_
  obtain ⟨v_1, v_2, v_4, v_6, v_7, v_9, v_10, v_11, v_13, v_14, v_15, F_e9, c_3, c_5, c_8, c_12⟩ := TI_node hT T_e9
  refine hm_get (ci := 1) (v := .int v_4) (C := R_No) (T := F_No) (N := 11) hx hb hts ig_No hown hK hH F_e9 rfl 2 (by decide) (hts _ mw_94) (fun _ h9 => h9) rfl d_No_adopt_2 ?_
  obtain ⟨v_16, v_17, v_19, v_21, v_22, v_24, v_25, v_26, v_28, v_29, v_30, F_d9, c_18, c_20, c_23, c_27⟩ := TI_node hT T_d9
  refine hm_put (ci := 1) (v := .int v_4) (ty := .boolean) (C := R_No) (T := F_No) (N := 11) hx hb hts ig_No t_No tk_No nm_No hown hK hH hLo F_d9 rfl 2 (by decide) (hts _ mw_94) (fun _ h9 => h9) rfl (by decide +kernel) (zb_n c_5) (zb_f c_5) (Nat.le_of_ble_eq_true rfl) d_No_adopt_5 (fun H_31 locs hH z_32 hLo => ?_)
  have hz : s.heap.size ≤ H_31.size := by rw [z_32]; exact hz
  obtain ⟨h_33, e_34⟩ : ∃ z, z = hu h d9 (.inr (1, [.int v_16, va_rf v_17, .int v_4, .long v_21, .int v_22, .int v_24, .int v_25, .int v_26, .int v_28, .int v_29, .int v_30])) := ⟨_, rfl⟩
  have hH : hm D vwCl G h_33 H_31 := by rw [e_34]; exact hH
  have hOld := F_d9
  have F_d9 : h_33 d9 = some (.inr (1, [.int v_16, va_rf v_17, .int v_4, .long v_21, .int v_22, .int v_24, .int v_25, .int v_26, .int v_28, .int v_29, .int v_30])) := by rw [e_34]; exact hu_s _ _ _
  have hT : TI τ t n h_33 := by rw [e_34]; exact TI_put hT T_d9 (by decide) ⟨v_16, v_17, v_4, v_21, v_22, v_24, v_25, v_26, v_28, v_29, v_30, rfl, c_18, c_5, c_23, c_27⟩
  have hkf : kf τ [] [d9] h h_33 := by rw [e_34]; exact kf_putM hkf (by simp)
  have hnp_f : knp τ f h h_33 := by rw [e_34]; exact knp_put hnp_f hOld
  refine lv_aload_n hx hb d_No_adopt_8 rfl (lv_at hl 0 rfl) ?_
  refine lv_aload_n hx hb d_No_adopt_9 rfl (lv_at hl 1 rfl) ?_
  obtain ⟨v_35, v_36, v_38, v_40, v_41, v_43, v_44, v_45, v_47, v_48, v_49, F_e9, c_37, c_39, c_42, c_46⟩ := TI_node hT T_e9
  refine hm_get (ci := 1) (v := .long v_40) (C := R_No) (T := F_No) (N := 11) hx hb hts ig_No hown hK hH F_e9 rfl 3 (by decide) (hts _ mw_104) (fun _ h9 => h9) rfl d_No_adopt_10 ?_
  refine hm_callv (va_runV (As := [.long v_40]) (b := d9) (rest := []) ⟨hx, hb, hml, hown, hts⟩ (t_takeName l D t G ak av h_33 τ n f d9 v_40  hn hT T_d9) ⟨cw9B 1 hts mw_116 mw_117 mw_106 rfl rfl (by decide +kernel) ⟨Nat.le_of_ble_eq_true rfl, Nat.le_of_ble_eq_true rfl⟩, hts _ mw_118, hts _ mw_119⟩ (hP_V (q := (R_No, F_No, 11)) kE_ok hE hK hH F_d9 rfl) rfl rfl hl.1 rfl (lv_room (Nat.le_of_ble_eq_true rfl)) d_No_adopt_13 ⟨Nat.le_of_ble_eq_true rfl, Nat.le_of_ble_eq_true rfl⟩) hLo (fun h_50 H_51 locs hp_53 hH z_52 hLo => ?_)
  have hz : s.heap.size ≤ H_51.size := Nat.le_trans hz z_52
  have hT0 := hT
  obtain ⟨hT, kf_55, xk_56, xp_54⟩ := hp_53
  have hnp_f : knp τ f h h_50 := knp_tr hnp_f xk_56
  have hkf : kf τ [] [d9] h h_50 := kf_tr hkf kf_55 (List.forall_mem_nil _) (List.forall_mem_cons.mpr ⟨Or.inl (by simp), List.forall_mem_nil _⟩)
  refine hm_cut (α := Int32) (fun sz9 ls H locs HH => (lv_has ls 2 [(0, .ref d9), (1, .ref e9)]) ∧ (hm D vwCl G HH H) ∧ (s.heap.size ≤ H.size) ∧ (hLc G.P locs) ∧ (TI τ t n HH) ∧ (kf τ [] [d9] h HH) ∧ (knp τ f h HH)) 32 (fun sz9 => [.int sz9, .ref d9]) ?_ (fun J32 => ?_)
  · skip
    rintro sz9 ls H locs HH ⟨hl, hH, hz, hLo, hT, hkf, hnp_f⟩
    refine lv_iconst (v := -1) hx hb d_No_adopt_32 (by decide) ?_
    obtain ⟨v_57, v_58, v_60, v_62, v_63, v_65, v_66, v_67, v_69, v_70, v_71, F_d9, c_59, c_61, c_64, c_68⟩ := TI_node hT T_d9
    refine hm_callv (va_runV (As := [.int sz9, .int (-1)]) (b := d9) (rest := []) ⟨hx, hb, hml, hown, hts⟩ (t_takeContent l D t G ak av HH τ n f d9 sz9 (-1)  hn hT T_d9) ⟨cw9B 2 hts mw_120 mw_121 mw_106 rfl rfl (by decide +kernel) ⟨Nat.le_of_ble_eq_true rfl, Nat.le_of_ble_eq_true rfl⟩, hts _ mw_122, hts _ mw_123⟩ (hP_V (q := (R_No, F_No, 11)) kE_ok hE hK hH F_d9 rfl) rfl rfl hl.1 rfl (lv_room (Nat.le_of_ble_eq_true rfl)) d_No_adopt_33 ⟨Nat.le_of_ble_eq_true rfl, Nat.le_of_ble_eq_true rfl⟩) hLo (fun h_72 H_73 locs hp_75 hH z_74 hLo => ?_)
    have hz : s.heap.size ≤ H_73.size := Nat.le_trans hz z_74
    have hT0 := hT
    obtain ⟨hT, kf_77, xk_78⟩ := hp_75
    have hnp_f : knp τ f h h_72 := knp_tr hnp_f xk_78
    have hkf : kf τ [] [d9] h h_72 := kf_tr hkf kf_77 (List.forall_mem_nil _) (List.forall_mem_cons.mpr ⟨Or.inl (by simp), List.forall_mem_nil _⟩)
    refine hm_cut (α := Int32) (fun sc9 ls H locs HH => (lv_has ls 2 [(0, .ref d9), (1, .ref e9)]) ∧ (hm D vwCl G HH H) ∧ (s.heap.size ≤ H.size) ∧ (hLc G.P locs) ∧ (TI τ t n HH) ∧ (kf τ [] [d9] h HH) ∧ (knp τ f h HH)) 52 (fun sc9 => [.int sc9, .ref d9]) ?_ (fun J52 => ?_)
    · skip
      rintro sc9 ls H locs HH ⟨hl, hH, hz, hLo, hT, hkf, hnp_f⟩
      obtain ⟨v_79, v_80, v_82, v_84, v_85, v_87, v_88, v_89, v_91, v_92, v_93, F_d9, c_81, c_83, c_86, c_90⟩ := TI_node hT T_d9
      refine hm_callv (va_runV (As := [.int sc9]) (b := d9) (rest := []) ⟨hx, hb, hml, hown, hts⟩ (t_nsettle l D t G ak av HH τ n f d9 sc9  hn hT T_d9) ⟨cw9B 1 hts mw_124 mw_125 mw_106 rfl rfl (by decide +kernel) ⟨Nat.le_of_ble_eq_true rfl, Nat.le_of_ble_eq_true rfl⟩, hts _ mw_126, hts _ mw_127⟩ (hP_V (q := (R_No, F_No, 11)) kE_ok hE hK hH F_d9 rfl) rfl rfl hl.1 rfl (lv_room (Nat.le_of_ble_eq_true rfl)) d_No_adopt_52 ⟨Nat.le_of_ble_eq_true rfl, Nat.le_of_ble_eq_true rfl⟩) hLo (fun h_94 H_95 locs hp_97 hH z_96 hLo => ?_)
      have hz : s.heap.size ≤ H_95.size := Nat.le_trans hz z_96
      have hT0 := hT
      obtain ⟨hT, kf_99, xk_100⟩ := hp_97
      have hnp_f : knp τ f h h_94 := knp_tr hnp_f xk_100
      have hkf : kf τ [] [d9] h h_94 := kf_tr hkf kf_99 (List.forall_mem_nil _) (List.forall_mem_cons.mpr ⟨Or.inl (by simp), List.forall_mem_nil _⟩)
      exact W.vret hx hb hr (fun t9 ht hW => ⟨h_94, rfl, ⟨hT, hkf, hnp_f⟩, by rw [ht]; exact hH, by rw [ht]; exact hz⟩) hLo d_No_adopt_55
    · skip
      refine lv_aload_n hx hb d_No_adopt_36 rfl (lv_at hl 0 rfl) ?_
      refine lv_aload_n hx hb d_No_adopt_37 rfl (lv_at hl 0 rfl) ?_
      obtain ⟨v_101, v_102, v_104, v_106, v_107, v_109, v_110, v_111, v_113, v_114, v_115, F_d9, c_103, c_105, c_108, c_112⟩ := TI_node hT T_d9
      refine hm_get (ci := 1) (v := .int v_104) (C := R_No) (T := F_No) (N := 11) hx hb hts ig_No hown hK hH F_d9 rfl 2 (by decide) (hts _ mw_94) (fun _ h9 => h9) rfl d_No_adopt_38 ?_
      refine lv_if_eq (tgt := 48) hx hb d_No_adopt_41 (by decide) (fun hc_116 => ?_) (fun hc_116 => ?_)
      · skip
        have ic_117 : v_104.toInt = 0 := congrArg Int32.toInt hc_116
        refine lv_aload_n hx hb d_No_adopt_48 rfl (lv_at hl 1 rfl) ?_
        obtain ⟨v_118, v_119, v_121, v_123, v_124, v_126, v_127, v_128, v_130, v_131, v_132, F_e9, c_120, c_122, c_125, c_129⟩ := TI_node hT T_e9
        refine hm_get (ci := 1) (v := .int v_131) (C := R_No) (T := F_No) (N := 11) hx hb hts ig_No hown hK hH F_e9 rfl 9 (by decide) (hts _ mw_98) (fun _ h9 => h9) rfl d_No_adopt_49 ?_
        exact J52 v_131 _ _ _ _ ⟨(lv_sub hl [0, 1] rfl), hH, hz, hLo, hT, hkf, hnp_f⟩
      · skip
        refine lv_iconst (v := 0) hx hb d_No_adopt_44 (by decide) ?_
        refine lv_goto (tgt := 52) hx hb d_No_adopt_45 (by decide) ?_
        exact J52 0 _ _ _ _ ⟨(lv_sub hl [0, 1] rfl), hH, hz, hLo, hT, hkf, hnp_f⟩
  · skip
    refine lv_aload_n hx hb d_No_adopt_16 rfl (lv_at hl 0 rfl) ?_
    refine lv_aload_n hx hb d_No_adopt_17 rfl (lv_at hl 0 rfl) ?_
    obtain ⟨v_133, v_134, v_136, v_138, v_139, v_141, v_142, v_143, v_145, v_146, v_147, F_d9, c_135, c_137, c_140, c_144⟩ := TI_node hT T_d9
    refine hm_get (ci := 1) (v := .int v_136) (C := R_No) (T := F_No) (N := 11) hx hb hts ig_No hown hK hH F_d9 rfl 2 (by decide) (hts _ mw_94) (fun _ h9 => h9) rfl d_No_adopt_18 ?_
    refine lv_if_eq (tgt := 28) hx hb d_No_adopt_21 (by decide) (fun hc_148 => ?_) (fun hc_148 => ?_)
    · skip
      have ic_149 : v_136.toInt = 0 := congrArg Int32.toInt hc_148
      refine lv_aload_n hx hb d_No_adopt_28 rfl (lv_at hl 1 rfl) ?_
      obtain ⟨v_150, v_151, v_153, v_155, v_156, v_158, v_159, v_160, v_162, v_163, v_164, F_e9, c_152, c_154, c_157, c_161⟩ := TI_node hT T_e9
      refine hm_get (ci := 1) (v := .int v_158) (C := R_No) (T := F_No) (N := 11) hx hb hts ig_No hown hK hH F_e9 rfl 5 (by decide) (hts _ mw_95) (fun _ h9 => h9) rfl d_No_adopt_29 ?_
      exact J32 v_158 _ _ _ _ ⟨(lv_sub hl [0, 1] rfl), hH, hz, hLo, hT, hkf, hnp_f⟩
    · skip
      refine lv_iconst (v := 0) hx hb d_No_adopt_24 (by decide) ?_
      refine lv_goto (tgt := 32) hx hb d_No_adopt_25 (by decide) ?_
      exact J32 0 _ _ _ _ ⟨(lv_sub hl [0, 1] rfl), hH, hz, hLo, hT, hkf, hnp_f⟩
