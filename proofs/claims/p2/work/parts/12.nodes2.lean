set_option maxRecDepth 100000 in
theorem mw_114 : Cond.fieldLink R_No 36 "WriteOnceDisc$Node" "isWritten" "Z" ∈ lw_g := lw_gin (List.mem_append_right _ (List.mem_of_getElem? (i := 116) rfl)) (by decide +kernel)
set_option maxRecDepth 100000 in
theorem mw_115 : Cond.fieldLink R_No 39 "WriteOnceDisc$Node" "extent" "I" ∈ lw_g := lw_gin (List.mem_append_right _ (List.mem_of_getElem? (i := 119) rfl)) (by decide +kernel)
set_option maxRecDepth 100000 in
theorem mw_116 : Cond.code y_No_takeName b_No_takeName 4 none ∈ lw_g := lw_gin (List.mem_append_right _ (List.mem_of_getElem? (i := 321) rfl)) (by decide +kernel)
set_option maxRecDepth 100000 in
theorem mw_117 : Cond.methodLink R_No 48 y_No_takeName ∈ lw_g := lw_gin (List.mem_append_right _ (List.mem_of_getElem? (i := 318) rfl)) (by decide +kernel)
set_option maxRecDepth 100000 in
theorem mw_118 : Cond.instanceMethod y_No_takeName ∈ lw_g := lw_gin (List.mem_append_right _ (List.mem_of_getElem? (i := 319) rfl)) (by decide +kernel)
set_option maxRecDepth 100000 in
theorem mw_119 : Cond.selects R_No y_No_takeName y_No_takeName ∈ lw_g := lw_gin (List.mem_append_right _ (List.mem_of_getElem? (i := 320) rfl)) (by decide +kernel)
set_option maxRecDepth 100000 in
theorem mw_120 : Cond.code y_No_takeContent b_No_takeContent 3 none ∈ lw_g := lw_gin (List.mem_append_right _ (List.mem_of_getElem? (i := 325) rfl)) (by decide +kernel)
set_option maxRecDepth 100000 in
theorem mw_121 : Cond.methodLink R_No 52 y_No_takeContent ∈ lw_g := lw_gin (List.mem_append_right _ (List.mem_of_getElem? (i := 322) rfl)) (by decide +kernel)
set_option maxRecDepth 100000 in
theorem mw_122 : Cond.instanceMethod y_No_takeContent ∈ lw_g := lw_gin (List.mem_append_right _ (List.mem_of_getElem? (i := 323) rfl)) (by decide +kernel)
set_option maxRecDepth 100000 in
theorem mw_123 : Cond.selects R_No y_No_takeContent y_No_takeContent ∈ lw_g := lw_gin (List.mem_append_right _ (List.mem_of_getElem? (i := 324) rfl)) (by decide +kernel)
set_option maxRecDepth 100000 in
theorem mw_124 : Cond.code y_No_settle b_No_settle 2 none ∈ lw_g := lw_gin (List.mem_append_right _ (List.mem_of_getElem? (i := 447) rfl)) (by decide +kernel)
set_option maxRecDepth 100000 in
theorem mw_125 : Cond.methodLink R_No 56 y_No_settle ∈ lw_g := lw_gin (List.mem_append_right _ (List.mem_of_getElem? (i := 733) rfl)) (by decide +kernel)
set_option maxRecDepth 100000 in
theorem mw_126 : Cond.instanceMethod y_No_settle ∈ lw_g := lw_gin (List.mem_append_right _ (List.mem_of_getElem? (i := 445) rfl)) (by decide +kernel)
set_option maxRecDepth 100000 in
theorem mw_127 : Cond.selects R_No y_No_settle y_No_settle ∈ lw_g := lw_gin (List.mem_append_right _ (List.mem_of_getElem? (i := 446) rfl)) (by decide +kernel)
theorem d_No_depth_0 : decode b_No_depth 0 = .ok (.iconst 0, 1) := by decide +kernel
theorem d_No_depth_1 : decode b_No_depth 1 = .ok (.istore_n 1, 1) := by decide +kernel
theorem d_No_depth_2 : decode b_No_depth 2 = .ok (.aload_n 0, 1) := by decide +kernel
theorem d_No_depth_3 : decode b_No_depth 3 = .ok (.getfield 15, 3) := by decide +kernel
theorem d_No_depth_6 : decode b_No_depth 6 = .ok (.astore_n 2, 1) := by decide +kernel
theorem d_No_depth_7 : decode b_No_depth 7 = .ok (.aload_n 2, 1) := by decide +kernel
theorem d_No_depth_8 : decode b_No_depth 8 = .ok (.ifnull 14, 3) := by decide +kernel
theorem d_No_depth_22 : decode b_No_depth 22 = .ok (.iload_n 1, 1) := by decide +kernel
theorem d_No_depth_23 : decode b_No_depth 23 = .ok (.ireturn, 1) := by decide +kernel
theorem d_No_depth_11 : decode b_No_depth 11 = .ok (.iinc 1 1, 3) := by decide +kernel
theorem d_No_depth_14 : decode b_No_depth 14 = .ok (.aload_n 2, 1) := by decide +kernel
theorem d_No_depth_15 : decode b_No_depth 15 = .ok (.getfield 15, 3) := by decide +kernel
theorem d_No_depth_18 : decode b_No_depth 18 = .ok (.astore_n 2, 1) := by decide +kernel
theorem d_No_depth_19 : decode b_No_depth 19 = .ok (.goto (-12), 3) := by decide +kernel
theorem d_No_isWithin_0 : decode b_No_isWithin 0 = .ok (.aload_n 0, 1) := by decide +kernel
theorem d_No_isWithin_1 : decode b_No_isWithin 1 = .ok (.astore_n 2, 1) := by decide +kernel
theorem d_No_isWithin_2 : decode b_No_isWithin 2 = .ok (.aload_n 2, 1) := by decide +kernel
theorem d_No_isWithin_3 : decode b_No_isWithin 3 = .ok (.ifnull 18, 3) := by decide +kernel
theorem d_No_isWithin_21 : decode b_No_isWithin 21 = .ok (.iconst 0, 1) := by decide +kernel
theorem d_No_isWithin_22 : decode b_No_isWithin 22 = .ok (.ireturn, 1) := by decide +kernel
theorem d_No_isWithin_6 : decode b_No_isWithin 6 = .ok (.aload_n 2, 1) := by decide +kernel
theorem d_No_isWithin_7 : decode b_No_isWithin 7 = .ok (.aload_n 1, 1) := by decide +kernel
theorem d_No_isWithin_8 : decode b_No_isWithin 8 = .ok (.if_acmp .ne 5, 3) := by decide +kernel
theorem d_No_isWithin_13 : decode b_No_isWithin 13 = .ok (.aload_n 2, 1) := by decide +kernel
theorem d_No_isWithin_14 : decode b_No_isWithin 14 = .ok (.getfield 15, 3) := by decide +kernel
theorem d_No_isWithin_17 : decode b_No_isWithin 17 = .ok (.astore_n 2, 1) := by decide +kernel
theorem d_No_isWithin_18 : decode b_No_isWithin 18 = .ok (.goto (-16), 3) := by decide +kernel
theorem d_No_isWithin_11 : decode b_No_isWithin 11 = .ok (.iconst 1, 1) := by decide +kernel
theorem d_No_isWithin_12 : decode b_No_isWithin 12 = .ok (.ireturn, 1) := by decide +kernel
theorem d_No_takeContent_0 : decode b_No_takeContent 0 = .ok (.aload_n 0, 1) := by decide +kernel
theorem d_No_takeContent_1 : decode b_No_takeContent 1 = .ok (.iload_n 1, 1) := by decide +kernel
theorem d_No_takeContent_2 : decode b_No_takeContent 2 = .ok (.putfield 30, 3) := by decide +kernel
theorem d_No_takeContent_5 : decode b_No_takeContent 5 = .ok (.aload_n 0, 1) := by decide +kernel
theorem d_No_takeContent_6 : decode b_No_takeContent 6 = .ok (.iload_n 2, 1) := by decide +kernel
theorem d_No_takeContent_7 : decode b_No_takeContent 7 = .ok (.putfield 33, 3) := by decide +kernel
theorem d_No_takeContent_10 : decode b_No_takeContent 10 = .ok (.aload_n 0, 1) := by decide +kernel
theorem d_No_takeContent_11 : decode b_No_takeContent 11 = .ok (.iconst 0, 1) := by decide +kernel
theorem d_No_takeContent_12 : decode b_No_takeContent 12 = .ok (.putfield 36, 3) := by decide +kernel
theorem d_No_takeContent_15 : decode b_No_takeContent 15 = .ok (.aload_n 0, 1) := by decide +kernel
theorem d_No_takeContent_16 : decode b_No_takeContent 16 = .ok (.iconst 0, 1) := by decide +kernel
theorem d_No_takeContent_17 : decode b_No_takeContent 17 = .ok (.putfield 39, 3) := by decide +kernel
theorem d_No_takeContent_20 : decode b_No_takeContent 20 = .ok (.return_, 1) := by decide +kernel
theorem d_No_settle_0 : decode b_No_settle 0 = .ok (.aload_n 0, 1) := by decide +kernel
theorem d_No_settle_1 : decode b_No_settle 1 = .ok (.iload_n 1, 1) := by decide +kernel
theorem d_No_settle_2 : decode b_No_settle 2 = .ok (.putfield 39, 3) := by decide +kernel
theorem d_No_settle_5 : decode b_No_settle 5 = .ok (.aload_n 0, 1) := by decide +kernel
theorem d_No_settle_6 : decode b_No_settle 6 = .ok (.iconst 1, 1) := by decide +kernel
theorem d_No_settle_7 : decode b_No_settle 7 = .ok (.putfield 36, 3) := by decide +kernel
theorem d_No_settle_10 : decode b_No_settle 10 = .ok (.return_, 1) := by decide +kernel
theorem d_No_takeName_0 : decode b_No_takeName 0 = .ok (.aload_n 0, 1) := by decide +kernel
theorem d_No_takeName_1 : decode b_No_takeName 1 = .ok (.lload_n 1, 1) := by decide +kernel
theorem d_No_takeName_2 : decode b_No_takeName 2 = .ok (.putfield 23, 3) := by decide +kernel
theorem d_No_takeName_5 : decode b_No_takeName 5 = .ok (.aload_n 0, 1) := by decide +kernel
theorem d_No_takeName_6 : decode b_No_takeName 6 = .ok (.iconst 0, 1) := by decide +kernel
theorem d_No_takeName_7 : decode b_No_takeName 7 = .ok (.putfield 27, 3) := by decide +kernel
theorem d_No_takeName_10 : decode b_No_takeName 10 = .ok (.iconst 0, 1) := by decide +kernel
theorem d_No_takeName_11 : decode b_No_takeName 11 = .ok (.istore_n 3, 1) := by decide +kernel
theorem d_No_become_0 : decode b_No_become 0 = .ok (.aload_n 0, 1) := by decide +kernel
theorem d_No_become_1 : decode b_No_become 1 = .ok (.aload_n 1, 1) := by decide +kernel
theorem d_No_become_2 : decode b_No_become 2 = .ok (.putfield 15, 3) := by decide +kernel
theorem d_No_become_5 : decode b_No_become 5 = .ok (.aload_n 0, 1) := by decide +kernel
theorem d_No_become_6 : decode b_No_become 6 = .ok (.iload_n 2, 1) := by decide +kernel
theorem d_No_become_7 : decode b_No_become 7 = .ok (.putfield 19, 3) := by decide +kernel
theorem d_No_become_10 : decode b_No_become 10 = .ok (.aload_n 0, 1) := by decide +kernel
theorem d_No_become_11 : decode b_No_become 11 = .ok (.lload_n 3, 1) := by decide +kernel
theorem d_No_become_12 : decode b_No_become 12 = .ok (.invokevirtual 48, 3) := by decide +kernel
theorem d_No_become_15 : decode b_No_become 15 = .ok (.aload_n 0, 1) := by decide +kernel
theorem d_No_become_16 : decode b_No_become 16 = .ok (.iconst 0, 1) := by decide +kernel
theorem d_No_become_17 : decode b_No_become 17 = .ok (.iconst 0, 1) := by decide +kernel
theorem d_No_become_18 : decode b_No_become 18 = .ok (.invokevirtual 52, 3) := by decide +kernel
theorem d_No_become_21 : decode b_No_become 21 = .ok (.return_, 1) := by decide +kernel
theorem d_No_adopt_0 : decode b_No_adopt 0 = .ok (.aload_n 0, 1) := by decide +kernel
theorem d_No_adopt_1 : decode b_No_adopt 1 = .ok (.aload_n 1, 1) := by decide +kernel
theorem d_No_adopt_2 : decode b_No_adopt 2 = .ok (.getfield 19, 3) := by decide +kernel
theorem d_No_adopt_5 : decode b_No_adopt 5 = .ok (.putfield 19, 3) := by decide +kernel
theorem d_No_adopt_8 : decode b_No_adopt 8 = .ok (.aload_n 0, 1) := by decide +kernel
theorem d_No_adopt_9 : decode b_No_adopt 9 = .ok (.aload_n 1, 1) := by decide +kernel
theorem d_No_adopt_10 : decode b_No_adopt 10 = .ok (.getfield 23, 3) := by decide +kernel
theorem d_No_adopt_13 : decode b_No_adopt 13 = .ok (.invokevirtual 48, 3) := by decide +kernel
theorem d_No_adopt_32 : decode b_No_adopt 32 = .ok (.iconst (-1), 1) := by decide +kernel
theorem d_No_adopt_33 : decode b_No_adopt 33 = .ok (.invokevirtual 52, 3) := by decide +kernel
theorem d_No_adopt_52 : decode b_No_adopt 52 = .ok (.invokevirtual 56, 3) := by decide +kernel
theorem d_No_adopt_55 : decode b_No_adopt 55 = .ok (.return_, 1) := by decide +kernel
theorem d_No_adopt_36 : decode b_No_adopt 36 = .ok (.aload_n 0, 1) := by decide +kernel
theorem d_No_adopt_37 : decode b_No_adopt 37 = .ok (.aload_n 0, 1) := by decide +kernel
theorem d_No_adopt_38 : decode b_No_adopt 38 = .ok (.getfield 19, 3) := by decide +kernel
theorem d_No_adopt_41 : decode b_No_adopt 41 = .ok (.ifCond .eq 7, 3) := by decide +kernel
theorem d_No_adopt_48 : decode b_No_adopt 48 = .ok (.aload_n 1, 1) := by decide +kernel
theorem d_No_adopt_49 : decode b_No_adopt 49 = .ok (.getfield 42, 3) := by decide +kernel
theorem d_No_adopt_44 : decode b_No_adopt 44 = .ok (.iconst 0, 1) := by decide +kernel
theorem d_No_adopt_45 : decode b_No_adopt 45 = .ok (.goto 7, 3) := by decide +kernel
theorem d_No_adopt_16 : decode b_No_adopt 16 = .ok (.aload_n 0, 1) := by decide +kernel
theorem d_No_adopt_17 : decode b_No_adopt 17 = .ok (.aload_n 0, 1) := by decide +kernel
theorem d_No_adopt_18 : decode b_No_adopt 18 = .ok (.getfield 19, 3) := by decide +kernel
theorem d_No_adopt_21 : decode b_No_adopt 21 = .ok (.ifCond .eq 7, 3) := by decide +kernel
theorem d_No_adopt_28 : decode b_No_adopt 28 = .ok (.aload_n 1, 1) := by decide +kernel
theorem d_No_adopt_29 : decode b_No_adopt 29 = .ok (.getfield 30, 3) := by decide +kernel
theorem d_No_adopt_24 : decode b_No_adopt 24 = .ok (.iconst 0, 1) := by decide +kernel
theorem d_No_adopt_25 : decode b_No_adopt 25 = .ok (.goto 7, 3) := by decide +kernel
set_option maxHeartbeats 4000000 in
set_option maxRecDepth 100000 in
theorem t_depth (l : Launch) (D : va_G) (t : Nat → ClassId) (G : hG) (ak av : Nat → Nat) (h : hM) (τ : tM) (n f : Nat) (d9 : Nat) (hn : n ≤ 200) (hT : TI τ t n h) (T_d9 : τ d9 = (10, f)) (hC : ∃ k, Ch (prt h) k d9) : Met l y_No_depth (.code y_No_depth b_No_depth 3 (some .int) :: lw_g) { frames := 0, cells := 0, slots := 0, locals := 0 } (hP (kE D t G ak av) D vwCl G h [.ref d9]) (hQi D vwCl G (fun r h' => h = h')) 0 0 nof := by
  refine Met.ofW (cc := b_No_depth) (maxL := 3) (ret := (some .int)) (by decide) rfl ?_
  intro p e s m args below meth c s₁ Bd hml hv
  obtain ⟨ha, hE, hH⟩ := hv
  have hx := Bd.exec
  have hb := Bd.bytes
  have hr := Bd.returns
  have hts : ∀ w ∈ lw_g, w.before args s = true := fun w hw => atoms_spec (ws := (.code y_No_depth b_No_depth 3 (some .int) :: lw_g)) Bd.pre w (List.mem_cons_of_mem _ hw)
  have hown : s.vm.findClass R_No = some m.cls := findClass_of_methodNamed Bd.named
  have hlocks := Bd.notSynchronized
  have hK := hE.1
  have hH0 := hH
  have hLo : hLc nof [] := hLc_nil
  have hz : s.heap.size ≤ s.heap.size := Nat.le_refl _
  have hl := lv_entry [.ref d9] (n := 3) (Nat.le_of_ble_eq_true rfl)
  rw [show entryFrame m args 3 = F0 m 0 ((lg_sl [.ref d9] ++ List.replicate (3 - (lg_sl [.ref d9]).length) Slot.unset).toArray) [] from (by rw [ha]; exact lg_entry_eq m [.ref d9] 3)]
  generalize (lg_sl [.ref d9] ++ List.replicate (3 - (lg_sl [.ref d9]).length) Slot.unset).toArray = ls at hl ⊢
  have hl : lv_has ls 3 [(0, .ref d9)] := hl
  obtain ⟨k0, hC⟩ := hC
  have hD : dpI (prt h) (k0 + 1) (some d9) := ⟨k0, rfl, hC⟩
  refine lv_iconst (v := 0) hx hb d_No_depth_0 (by decide) ?_
  refine lv_istore_n (lv' := [(1, .int 0), (0, .ref d9)]) hx hb d_No_depth_1 rfl hl (by decide) rfl (fun ls hl => ?_)
  refine lv_aload_n hx hb d_No_depth_2 rfl (lv_at hl 1 rfl) ?_
  obtain ⟨v1, v2, v4, v6, v7, v9, v10, v11, v13, v14, v15, F_d9, c3, c5, c8, c12⟩ := TI_node hT T_d9
  refine hm_get (ci := 1) (v := va_rf v2) (C := R_No) (T := F_No) (N := 11) hx hb hts ig_No hown hK hH F_d9 rfl 1 (by decide) (hts _ mw_96) (fun _ h9 => h9) rfl d_No_depth_3 ?_
  refine lv_astore_nQ (lv' := [(2, va_rf v2), (1, .int 0), (0, .ref d9)]) hx hb d_No_depth_6 rfl hl (by decide) rfl (fun ls hl => ?_)
  obtain ⟨k8, hk8, hD8⟩ := dpI_next hD (prt_of F_d9)
  refine hm_loop (fun k7 ls H locs hh7 => ∃ (dp : Int32) (o9 : Option Nat) (k9 : Nat), k7 = k9 ∧ lv_has ls 3 [(0, .ref d9), (1, .int dp), (2, va_rf o9)] ∧ hm D vwCl G hh7 H ∧ s.heap.size ≤ H.size ∧ hLc nof locs ∧ (h = hh7) ∧ (∀ q, o9 = some q → τ q = (10, f)) ∧ (dpI (prt h) k9 o9)) ?_ (hh := h) ⟨0, v2, k8, rfl, (lv_sub hl [2, 1, 0] rfl), hH, hz, hLo, rfl, c3, hD8⟩
  rintro k7 ls H locs hh7 ⟨dp, o9, k9, hk7, hl, hH, hz, hLo, rfl, Q_o9, hD⟩ ih7
  refine lv_aload_nQ hx hb d_No_depth_7 rfl (lv_at hl 2 rfl) ?_
  rcases o9 with _ | q16
  · skip
    refine lv_ifnullN (tgt := 22) hx hb d_No_depth_8 (by decide) ?_
    refine lv_iload_n hx hb d_No_depth_22 rfl (lv_at hl 1 rfl) ?_
    exact W.iret (v := dp) hx hb hr (fun t9 ht hW => ⟨dp, h, rfl, rfl, by rw [ht]; exact hH, by rw [ht]; exact hz⟩) hLo d_No_depth_23
  · skip
    have T17 := Q_o9 q16 rfl
    refine lv_ifnull hx hb d_No_depth_8 ?_
    refine lv_iinc (v := dp + 1) (lv' := [(1, .int (dp + 1)), (0, .ref d9), (2, .ref q16)]) hx hb d_No_depth_11 hl (k := 1) rfl (by rfl) (by decide) rfl (fun ls hl => ?_)
    refine lv_aload_n hx hb d_No_depth_14 rfl (lv_at hl 2 rfl) ?_
    obtain ⟨v18, v19, v21, v23, v24, v26, v27, v28, v30, v31, v32, F_q16, c20, c22, c25, c29⟩ := TI_node hT T17
    refine hm_get (ci := 1) (v := va_rf v19) (C := R_No) (T := F_No) (N := 11) hx hb hts ig_No hown hK hH F_q16 rfl 1 (by decide) (hts _ mw_96) (fun _ h9 => h9) rfl d_No_depth_15 ?_
    refine lv_astore_nQ (lv' := [(2, va_rf v19), (1, .int (dp + 1)), (0, .ref d9)]) hx hb d_No_depth_18 rfl hl (by decide) rfl (fun ls hl => ?_)
    refine lv_goto (tgt := 7) hx hb d_No_depth_19 (by decide) ?_
    have is33 : (dp + 1).toInt = dp.toInt + 1 := iAddK 1 rfl (by omega) (by omega)
    obtain ⟨k8, hk8, hD8⟩ := dpI_next hD (prt_of F_q16)
    exact ih7 (k8) ls _ locs _ (by rw [hk7]; exact hk8) ⟨(dp + 1), v19, k8, rfl, (lv_sub hl [2, 1, 0] rfl), hH, hz, hLo, rfl, c20, hD8⟩

set_option maxHeartbeats 4000000 in
set_option maxRecDepth 100000 in
theorem t_within (l : Launch) (D : va_G) (t : Nat → ClassId) (G : hG) (ak av : Nat → Nat) (h : hM) (τ : tM) (n f : Nat) (d9 : Nat) (e9 : Nat) (hn : n ≤ 200) (hT : TI τ t n h) (T_d9 : τ d9 = (10, f)) (T_e9 : τ e9 = (10, f)) (hC : ∃ k, Ch (prt h) k d9) : Met l y_No_isWithin (.code y_No_isWithin b_No_isWithin 3 (some .boolean) :: lw_g) { frames := 0, cells := 0, slots := 0, locals := 0 } (hP (kE D t G ak av) D vwCl G h [.ref d9, .ref e9]) (hQi D vwCl G (fun r h' => zb r ∧ (r = 0 → ∃ k, ChN (prt h) e9 k d9) ∧ h = h')) 0 0 nof := by
  refine Met.ofW (cc := b_No_isWithin) (maxL := 3) (ret := (some .boolean)) (by decide) rfl ?_
  intro p e s m args below meth c s₁ Bd hml hv
  obtain ⟨ha, hE, hH⟩ := hv
  have hx := Bd.exec
  have hb := Bd.bytes
  have hr := Bd.returns
  have hts : ∀ w ∈ lw_g, w.before args s = true := fun w hw => atoms_spec (ws := (.code y_No_isWithin b_No_isWithin 3 (some .boolean) :: lw_g)) Bd.pre w (List.mem_cons_of_mem _ hw)
  have hown : s.vm.findClass R_No = some m.cls := findClass_of_methodNamed Bd.named
  have hlocks := Bd.notSynchronized
  have hK := hE.1
  have hH0 := hH
  have hLo : hLc nof [] := hLc_nil
  have hz : s.heap.size ≤ s.heap.size := Nat.le_refl _
  have hl := lv_entry [.ref d9, .ref e9] (n := 3) (Nat.le_of_ble_eq_true rfl)
  rw [show entryFrame m args 3 = F0 m 0 ((lg_sl [.ref d9, .ref e9] ++ List.replicate (3 - (lg_sl [.ref d9, .ref e9]).length) Slot.unset).toArray) [] from (by rw [ha]; exact lg_entry_eq m [.ref d9, .ref e9] 3)]
  generalize (lg_sl [.ref d9, .ref e9] ++ List.replicate (3 - (lg_sl [.ref d9, .ref e9]).length) Slot.unset).toArray = ls at hl ⊢
  have hl : lv_has ls 3 [(0, .ref d9), (1, .ref e9)] := hl
  obtain ⟨k0, hC⟩ := hC
  have hD : dpI (prt h) (k0 + 1) (some d9) := ⟨k0, rfl, hC⟩
  refine lv_aload_n hx hb d_No_isWithin_0 rfl (lv_at hl 0 rfl) ?_
  refine lv_astore_n (lv' := [(2, .ref d9), (0, .ref d9), (1, .ref e9)]) hx hb d_No_isWithin_1 rfl hl (by decide) rfl (fun ls hl => ?_)
  refine hm_loop (fun k2 ls H locs hh2 => ∃ (o9 : Option Nat) (k9 : Nat), k2 = k9 ∧ lv_has ls 3 [(0, .ref d9), (1, .ref e9), (2, va_rf o9)] ∧ hm D vwCl G hh2 H ∧ s.heap.size ≤ H.size ∧ hLc nof locs ∧ (h = hh2) ∧ (∀ q, o9 = some q → τ q = (10, f)) ∧ (dpI (prt h) k9 o9) ∧ (wiI (prt h) e9 d9 o9)) ?_ (hh := h) ⟨(some d9), k0 + 1, rfl, (lv_sub hl [1, 2, 0] rfl), hH, hz, hLo, rfl, (fun _ h9 => by cases h9; exact T_d9), hD, (fun j hj => ⟨j, hj⟩)⟩
  rintro k2 ls H locs hh2 ⟨o9, k9, hk2, hl, hH, hz, hLo, rfl, Q_o9, hD, hW⟩ ih2
  refine lv_aload_nQ hx hb d_No_isWithin_2 rfl (lv_at hl 2 rfl) ?_
  rcases o9 with _ | q1
  · skip
    refine lv_ifnullN (tgt := 21) hx hb d_No_isWithin_3 (by decide) ?_
    refine lv_iconst (v := 0) hx hb d_No_isWithin_21 (by decide) ?_
    exact W.zret (v := 0) hx hb hr (by decide) (fun t9 ht hW => ⟨0, h, rfl, ⟨zb0, (fun _ => hW), rfl⟩, by rw [ht]; exact hH, by rw [ht]; exact hz⟩) hLo d_No_isWithin_22
  · skip
    have T2 := Q_o9 q1 rfl
    refine lv_ifnull hx hb d_No_isWithin_3 ?_
    refine lv_aload_n hx hb d_No_isWithin_6 rfl (lv_at hl 2 rfl) ?_
    refine lv_aload_n hx hb d_No_isWithin_7 rfl (lv_at hl 1 rfl) ?_
    refine lv_acmp_ne (rx := some q1) (ry := some e9) (tgt := 13) hx hb d_No_isWithin_8 (by decide) (fun hc3 => ?_) (fun hc3 => ?_)
    · skip
      refine lv_aload_n hx hb d_No_isWithin_13 rfl (lv_at hl 2 rfl) ?_
      obtain ⟨v4, v5, v7, v9, v10, v12, v13, v14, v16, v17, v18, F_q1, c6, c8, c11, c15⟩ := TI_node hT T2
      refine hm_get (ci := 1) (v := va_rf v5) (C := R_No) (T := F_No) (N := 11) hx hb hts ig_No hown hK hH F_q1 rfl 1 (by decide) (hts _ mw_96) (fun _ h9 => h9) rfl d_No_isWithin_14 ?_
      refine lv_astore_nQ (lv' := [(2, va_rf v5), (0, .ref d9), (1, .ref e9)]) hx hb d_No_isWithin_17 rfl hl (by decide) rfl (fun ls hl => ?_)
      refine lv_goto (tgt := 2) hx hb d_No_isWithin_18 (by decide) ?_
      obtain ⟨k8, hk8, hD8⟩ := dpI_next hD (prt_of F_q1)
      have hW8 := wiI_next hW (fun z => hc3 (by rw [z])) (prt_of F_q1)
      exact ih2 (k8) ls _ locs _ (by rw [hk2]; exact hk8) ⟨v5, k8, rfl, (lv_sub hl [1, 2, 0] rfl), hH, hz, hLo, rfl, c6, hD8, hW8⟩
    · skip
      refine lv_iconst (v := 1) hx hb d_No_isWithin_11 (by decide) ?_
      exact W.zret (v := 1) hx hb hr (by decide) (fun t9 ht hW => ⟨1, h, rfl, ⟨zb1, (fun z => absurd z (by decide)), rfl⟩, by rw [ht]; exact hH, by rw [ht]; exact hz⟩) hLo d_No_isWithin_12

set_option maxHeartbeats 4000000 in
set_option maxRecDepth 100000 in
theorem t_takeContent (l : Launch) (D : va_G) (t : Nat → ClassId) (G : hG) (ak av : Nat → Nat) (h : hM) (τ : tM) (n f : Nat) (d9 : Nat) (s9 : Int32) (e8 : Int32) (hn : n ≤ 200) (hT : TI τ t n h) (T_d9 : τ d9 = (10, f)) : Met l y_No_takeContent (.code y_No_takeContent b_No_takeContent 3 none :: lw_g) { frames := 0, cells := 0, slots := 0, locals := 0 } (hP (kE D t G ak av) D vwCl G h [.ref d9, .int s9, .int e8]) (hQv D vwCl G (fun h' => TI τ t n h' ∧ kf τ [] [d9] h h' ∧ knp τ f h h')) 0 0 G.P := by
  refine Met.ofW (cc := b_No_takeContent) (maxL := 3) (ret := none) (by decide) rfl ?_
  intro p e s m args below meth c s₁ Bd hml hv
  obtain ⟨ha, hE, hH⟩ := hv
  have hx := Bd.exec
  have hb := Bd.bytes
  have hr := Bd.returns
  have hts : ∀ w ∈ lw_g, w.before args s = true := fun w hw => atoms_spec (ws := (.code y_No_takeContent b_No_takeContent 3 none :: lw_g)) Bd.pre w (List.mem_cons_of_mem _ hw)
  have hown : s.vm.findClass R_No = some m.cls := findClass_of_methodNamed Bd.named
  have hlocks := Bd.notSynchronized
  have hK := hE.1
  have hH0 := hH
  have hLo : hLc G.P [] := hLc_nil
  have hz : s.heap.size ≤ s.heap.size := Nat.le_refl _
  have hl := lv_entry [.ref d9, .int s9, .int e8] (n := 3) (Nat.le_of_ble_eq_true rfl)
  rw [show entryFrame m args 3 = F0 m 0 ((lg_sl [.ref d9, .int s9, .int e8] ++ List.replicate (3 - (lg_sl [.ref d9, .int s9, .int e8]).length) Slot.unset).toArray) [] from (by rw [ha]; exact lg_entry_eq m [.ref d9, .int s9, .int e8] 3)]
  generalize (lg_sl [.ref d9, .int s9, .int e8] ++ List.replicate (3 - (lg_sl [.ref d9, .int s9, .int e8]).length) Slot.unset).toArray = ls at hl ⊢
  have hl : lv_has ls 3 [(0, .ref d9), (1, .int s9), (2, .int e8)] := hl
  have hkf : kf τ [] [d9] h h := kf_rf
  have hnp_f : knp τ f h h := knp_rf
  refine lv_aload_n hx hb d_No_takeContent_0 rfl (lv_at hl 0 rfl) ?_
  refine lv_iload_n hx hb d_No_takeContent_1 rfl (lv_at hl 1 rfl) ?_
  obtain ⟨v1, v2, v4, v6, v7, v9, v10, v11, v13, v14, v15, F_d9, c3, c5, c8, c12⟩ := TI_node hT T_d9
  refine hm_put (ci := 1) (v := .int s9) (ty := .int) (C := R_No) (T := F_No) (N := 11) hx hb hts ig_No t_No tk_No nm_No hown hK hH hLo F_d9 rfl 5 (by decide) (hts _ mw_95) (fun _ h9 => h9) rfl (by decide +kernel) rfl rfl (Nat.le_of_ble_eq_true rfl) d_No_takeContent_2 (fun H16 locs hH z17 hLo => ?_)
  have hz : s.heap.size ≤ H16.size := by rw [z17]; exact hz
  obtain ⟨h18, e19⟩ : ∃ z, z = hu h d9 (.inr (1, [.int v1, va_rf v2, .int v4, .long v6, .int v7, .int s9, .int v10, .int v11, .int v13, .int v14, .int v15])) := ⟨_, rfl⟩
  have hH : hm D vwCl G h18 H16 := by rw [e19]; exact hH
  have hOld := F_d9
  have F_d9 : h18 d9 = some (.inr (1, [.int v1, va_rf v2, .int v4, .long v6, .int v7, .int s9, .int v10, .int v11, .int v13, .int v14, .int v15])) := by rw [e19]; exact hu_s _ _ _
  have hT : TI τ t n h18 := by rw [e19]; exact TI_put hT T_d9 (by decide) ⟨v1, v2, v4, v6, v7, s9, v10, v11, v13, v14, v15, rfl, c3, c5, c8, c12⟩
  have hkf : kf τ [] [d9] h h18 := by rw [e19]; exact kf_putM hkf (by simp)
  have hnp_f : knp τ f h h18 := by rw [e19]; exact knp_put hnp_f hOld
  refine lv_aload_n hx hb d_No_takeContent_5 rfl (lv_at hl 0 rfl) ?_
  refine lv_iload_n hx hb d_No_takeContent_6 rfl (lv_at hl 2 rfl) ?_
  refine hm_put (ci := 1) (v := .int e8) (ty := .int) (C := R_No) (T := F_No) (N := 11) hx hb hts ig_No t_No tk_No nm_No hown hK hH hLo F_d9 rfl 6 (by decide) (hts _ mw_93) (fun _ h9 => h9) rfl (by decide +kernel) rfl rfl (Nat.le_of_ble_eq_true rfl) d_No_takeContent_7 (fun H20 locs hH z21 hLo => ?_)
  have hz : s.heap.size ≤ H20.size := by rw [z21]; exact hz
  obtain ⟨h22, e23⟩ : ∃ z, z = hu h18 d9 (.inr (1, [.int v1, va_rf v2, .int v4, .long v6, .int v7, .int s9, .int e8, .int v11, .int v13, .int v14, .int v15])) := ⟨_, rfl⟩
  have hH : hm D vwCl G h22 H20 := by rw [e23]; exact hH
  have hOld := F_d9
  have F_d9 : h22 d9 = some (.inr (1, [.int v1, va_rf v2, .int v4, .long v6, .int v7, .int s9, .int e8, .int v11, .int v13, .int v14, .int v15])) := by rw [e23]; exact hu_s _ _ _
  have hT : TI τ t n h22 := by rw [e23]; exact TI_put hT T_d9 (by decide) ⟨v1, v2, v4, v6, v7, s9, e8, v11, v13, v14, v15, rfl, c3, c5, c8, c12⟩
  have hkf : kf τ [] [d9] h h22 := by rw [e23]; exact kf_putM hkf (by simp)
  have hnp_f : knp τ f h h22 := by rw [e23]; exact knp_put hnp_f hOld
  refine lv_aload_n hx hb d_No_takeContent_10 rfl (lv_at hl 0 rfl) ?_
  refine lv_iconst (v := 0) hx hb d_No_takeContent_11 (by decide) ?_
  refine hm_put (ci := 1) (v := .int 0) (ty := .boolean) (C := R_No) (T := F_No) (N := 11) hx hb hts ig_No t_No tk_No nm_No hown hK hH hLo F_d9 rfl 7 (by decide) (hts _ mw_114) (fun _ h9 => h9) rfl (by decide +kernel) (by decide) (by decide) (Nat.le_of_ble_eq_true rfl) d_No_takeContent_12 (fun H24 locs hH z25 hLo => ?_)
  have hz : s.heap.size ≤ H24.size := by rw [z25]; exact hz
  obtain ⟨h26, e27⟩ : ∃ z, z = hu h22 d9 (.inr (1, [.int v1, va_rf v2, .int v4, .long v6, .int v7, .int s9, .int e8, .int 0, .int v13, .int v14, .int v15])) := ⟨_, rfl⟩
  have hH : hm D vwCl G h26 H24 := by rw [e27]; exact hH
  have hOld := F_d9
  have F_d9 : h26 d9 = some (.inr (1, [.int v1, va_rf v2, .int v4, .long v6, .int v7, .int s9, .int e8, .int 0, .int v13, .int v14, .int v15])) := by rw [e27]; exact hu_s _ _ _
  have hT : TI τ t n h26 := by rw [e27]; exact TI_put hT T_d9 (by decide) ⟨v1, v2, v4, v6, v7, s9, e8, 0, v13, v14, v15, rfl, c3, c5, c8, zb0⟩
  have hkf : kf τ [] [d9] h h26 := by rw [e27]; exact kf_putM hkf (by simp)
  have hnp_f : knp τ f h h26 := by rw [e27]; exact knp_put hnp_f hOld
  refine lv_aload_n hx hb d_No_takeContent_15 rfl (lv_at hl 0 rfl) ?_
  refine lv_iconst (v := 0) hx hb d_No_takeContent_16 (by decide) ?_
  refine hm_put (ci := 1) (v := .int 0) (ty := .int) (C := R_No) (T := F_No) (N := 11) hx hb hts ig_No t_No tk_No nm_No hown hK hH hLo F_d9 rfl 8 (by decide) (hts _ mw_115) (fun _ h9 => h9) rfl (by decide +kernel) rfl rfl (Nat.le_of_ble_eq_true rfl) d_No_takeContent_17 (fun H28 locs hH z29 hLo => ?_)
  have hz : s.heap.size ≤ H28.size := by rw [z29]; exact hz
  obtain ⟨h30, e31⟩ : ∃ z, z = hu h26 d9 (.inr (1, [.int v1, va_rf v2, .int v4, .long v6, .int v7, .int s9, .int e8, .int 0, .int 0, .int v14, .int v15])) := ⟨_, rfl⟩
  have hH : hm D vwCl G h30 H28 := by rw [e31]; exact hH
  have hOld := F_d9
  have F_d9 : h30 d9 = some (.inr (1, [.int v1, va_rf v2, .int v4, .long v6, .int v7, .int s9, .int e8, .int 0, .int 0, .int v14, .int v15])) := by rw [e31]; exact hu_s _ _ _
  have hT : TI τ t n h30 := by rw [e31]; exact TI_put hT T_d9 (by decide) ⟨v1, v2, v4, v6, v7, s9, e8, 0, 0, v14, v15, rfl, c3, c5, c8, zb0⟩
  have hkf : kf τ [] [d9] h h30 := by rw [e31]; exact kf_putM hkf (by simp)
  have hnp_f : knp τ f h h30 := by rw [e31]; exact knp_put hnp_f hOld
  exact W.vret hx hb hr (fun t9 ht hW => ⟨h30, rfl, ⟨hT, hkf, hnp_f⟩, by rw [ht]; exact hH, by rw [ht]; exact hz⟩) hLo d_No_takeContent_20

set_option maxHeartbeats 4000000 in
set_option maxRecDepth 100000 in
theorem t_nsettle (l : Launch) (D : va_G) (t : Nat → ClassId) (G : hG) (ak av : Nat → Nat) (h : hM) (τ : tM) (n f : Nat) (d9 : Nat) (x9 : Int32) (hn : n ≤ 200) (hT : TI τ t n h) (T_d9 : τ d9 = (10, f)) : Met l y_No_settle (.code y_No_settle b_No_settle 2 none :: lw_g) { frames := 0, cells := 0, slots := 0, locals := 0 } (hP (kE D t G ak av) D vwCl G h [.ref d9, .int x9]) (hQv D vwCl G (fun h' => TI τ t n h' ∧ kf τ [] [d9] h h' ∧ knp τ f h h')) 0 0 G.P := by
  refine Met.ofW (cc := b_No_settle) (maxL := 2) (ret := none) (by decide) rfl ?_
  intro p e s m args below meth c s₁ Bd hml hv
  obtain ⟨ha, hE, hH⟩ := hv
  have hx := Bd.exec
  have hb := Bd.bytes
  have hr := Bd.returns
  have hts : ∀ w ∈ lw_g, w.before args s = true := fun w hw => atoms_spec (ws := (.code y_No_settle b_No_settle 2 none :: lw_g)) Bd.pre w (List.mem_cons_of_mem _ hw)
  have hown : s.vm.findClass R_No = some m.cls := findClass_of_methodNamed Bd.named
  have hlocks := Bd.notSynchronized
  have hK := hE.1
  have hH0 := hH
  have hLo : hLc G.P [] := hLc_nil
  have hz : s.heap.size ≤ s.heap.size := Nat.le_refl _
  have hl := lv_entry [.ref d9, .int x9] (n := 2) (Nat.le_of_ble_eq_true rfl)
  rw [show entryFrame m args 2 = F0 m 0 ((lg_sl [.ref d9, .int x9] ++ List.replicate (2 - (lg_sl [.ref d9, .int x9]).length) Slot.unset).toArray) [] from (by rw [ha]; exact lg_entry_eq m [.ref d9, .int x9] 2)]
  generalize (lg_sl [.ref d9, .int x9] ++ List.replicate (2 - (lg_sl [.ref d9, .int x9]).length) Slot.unset).toArray = ls at hl ⊢
  have hl : lv_has ls 2 [(0, .ref d9), (1, .int x9)] := hl
  have hkf : kf τ [] [d9] h h := kf_rf
  have hnp_f : knp τ f h h := knp_rf
  refine lv_aload_n hx hb d_No_settle_0 rfl (lv_at hl 0 rfl) ?_
  refine lv_iload_n hx hb d_No_settle_1 rfl (lv_at hl 1 rfl) ?_
  obtain ⟨v1, v2, v4, v6, v7, v9, v10, v11, v13, v14, v15, F_d9, c3, c5, c8, c12⟩ := TI_node hT T_d9
  refine hm_put (ci := 1) (v := .int x9) (ty := .int) (C := R_No) (T := F_No) (N := 11) hx hb hts ig_No t_No tk_No nm_No hown hK hH hLo F_d9 rfl 8 (by decide) (hts _ mw_115) (fun _ h9 => h9) rfl (by decide +kernel) rfl rfl (Nat.le_of_ble_eq_true rfl) d_No_settle_2 (fun H16 locs hH z17 hLo => ?_)
  have hz : s.heap.size ≤ H16.size := by rw [z17]; exact hz
  obtain ⟨h18, e19⟩ : ∃ z, z = hu h d9 (.inr (1, [.int v1, va_rf v2, .int v4, .long v6, .int v7, .int v9, .int v10, .int v11, .int x9, .int v14, .int v15])) := ⟨_, rfl⟩
  have hH : hm D vwCl G h18 H16 := by rw [e19]; exact hH
  have hOld := F_d9
  have F_d9 : h18 d9 = some (.inr (1, [.int v1, va_rf v2, .int v4, .long v6, .int v7, .int v9, .int v10, .int v11, .int x9, .int v14, .int v15])) := by rw [e19]; exact hu_s _ _ _
  have hT : TI τ t n h18 := by rw [e19]; exact TI_put hT T_d9 (by decide) ⟨v1, v2, v4, v6, v7, v9, v10, v11, x9, v14, v15, rfl, c3, c5, c8, c12⟩
  have hkf : kf τ [] [d9] h h18 := by rw [e19]; exact kf_putM hkf (by simp)
  have hnp_f : knp τ f h h18 := by rw [e19]; exact knp_put hnp_f hOld
  refine lv_aload_n hx hb d_No_settle_5 rfl (lv_at hl 0 rfl) ?_
  refine lv_iconst (v := 1) hx hb d_No_settle_6 (by decide) ?_
  refine hm_put (ci := 1) (v := .int 1) (ty := .boolean) (C := R_No) (T := F_No) (N := 11) hx hb hts ig_No t_No tk_No nm_No hown hK hH hLo F_d9 rfl 7 (by decide) (hts _ mw_114) (fun _ h9 => h9) rfl (by decide +kernel) (by decide) (by decide) (Nat.le_of_ble_eq_true rfl) d_No_settle_7 (fun H20 locs hH z21 hLo => ?_)
  have hz : s.heap.size ≤ H20.size := by rw [z21]; exact hz
  obtain ⟨h22, e23⟩ : ∃ z, z = hu h18 d9 (.inr (1, [.int v1, va_rf v2, .int v4, .long v6, .int v7, .int v9, .int v10, .int 1, .int x9, .int v14, .int v15])) := ⟨_, rfl⟩
  have hH : hm D vwCl G h22 H20 := by rw [e23]; exact hH
  have hOld := F_d9
  have F_d9 : h22 d9 = some (.inr (1, [.int v1, va_rf v2, .int v4, .long v6, .int v7, .int v9, .int v10, .int 1, .int x9, .int v14, .int v15])) := by rw [e23]; exact hu_s _ _ _
  have hT : TI τ t n h22 := by rw [e23]; exact TI_put hT T_d9 (by decide) ⟨v1, v2, v4, v6, v7, v9, v10, 1, x9, v14, v15, rfl, c3, c5, c8, zb1⟩
  have hkf : kf τ [] [d9] h h22 := by rw [e23]; exact kf_putM hkf (by simp)
  have hnp_f : knp τ f h h22 := by rw [e23]; exact knp_put hnp_f hOld
  exact W.vret hx hb hr (fun t9 ht hW => ⟨h22, rfl, ⟨hT, hkf, hnp_f⟩, by rw [ht]; exact hH, by rw [ht]; exact hz⟩) hLo d_No_settle_10

set_option maxHeartbeats 4000000 in
set_option maxRecDepth 100000 in
theorem t_takeName (l : Launch) (D : va_G) (t : Nat → ClassId) (G : hG) (ak av : Nat → Nat) (h : hM) (τ : tM) (n f : Nat) (d9 : Nat) (w9 : Int64) (hn : n ≤ 200) (hT : TI τ t n h) (T_d9 : τ d9 = (10, f)) : Met l y_No_takeName (.code y_No_takeName b_No_takeName 4 none :: lw_g) { frames := 0, cells := 0, slots := 0, locals := 0 } (hP (kE D t G ak av) D vwCl G h [.ref d9, .long w9]) (hQv D vwCl G (fun h' => TI τ t n h' ∧ kf τ [] [d9] h h' ∧ knp τ f h h' ∧ (rngN n h d9 → rngN n h' d9))) 0 0 G.P := by
  refine Met.ofW (cc := b_No_takeName) (maxL := 4) (ret := none) (by decide) rfl ?_
  intro p e s m args below meth c s₁ Bd hml hv
  obtain ⟨ha, hE, hH⟩ := hv
  have hx := Bd.exec
  have hb := Bd.bytes
  have hr := Bd.returns
  have hts : ∀ w ∈ lw_g, w.before args s = true := fun w hw => atoms_spec (ws := (.code y_No_takeName b_No_takeName 4 none :: lw_g)) Bd.pre w (List.mem_cons_of_mem _ hw)
  have hown : s.vm.findClass R_No = some m.cls := findClass_of_methodNamed Bd.named
  have hlocks := Bd.notSynchronized
  have hK := hE.1
  have hH0 := hH
  have hLo : hLc G.P [] := hLc_nil
  have hz : s.heap.size ≤ s.heap.size := Nat.le_refl _
  have hl := lv_entry [.ref d9, .long w9] (n := 4) (Nat.le_of_ble_eq_true rfl)
  rw [show entryFrame m args 4 = F0 m 0 ((lg_sl [.ref d9, .long w9] ++ List.replicate (4 - (lg_sl [.ref d9, .long w9]).length) Slot.unset).toArray) [] from (by rw [ha]; exact lg_entry_eq m [.ref d9, .long w9] 4)]
  generalize (lg_sl [.ref d9, .long w9] ++ List.replicate (4 - (lg_sl [.ref d9, .long w9]).length) Slot.unset).toArray = ls at hl ⊢
  have hl : lv_has ls 4 [(0, .ref d9), (1, .long w9)] := hl
  have hkf : kf τ [] [d9] h h := kf_rf
  have hnp_f : knp τ f h h := knp_rf
  obtain ⟨v1, v2, v4, v6, v7, v9, v10, v11, v13, v14, v15, F_d9, c3, c5, c8, c12⟩ := TI_node hT T_d9
  have O_d9 := F_d9
  refine lv_aload_n hx hb d_No_takeName_0 rfl (lv_at hl 0 rfl) ?_
  refine lv_lload_n hx hb d_No_takeName_1 rfl (lv_at hl 1 rfl) ?_
  refine hm_put (ci := 1) (v := .long w9) (ty := .long) (C := R_No) (T := F_No) (N := 11) hx hb hts ig_No t_No tk_No nm_No hown hK hH hLo F_d9 rfl 3 (by decide) (hts _ mw_104) (fun _ h9 => h9) rfl (by decide +kernel) rfl rfl (Nat.le_of_ble_eq_true rfl) d_No_takeName_2 (fun H16 locs hH z17 hLo => ?_)
  have hz : s.heap.size ≤ H16.size := by rw [z17]; exact hz
  obtain ⟨h18, e19⟩ : ∃ z, z = hu h d9 (.inr (1, [.int v1, va_rf v2, .int v4, .long w9, .int v7, .int v9, .int v10, .int v11, .int v13, .int v14, .int v15])) := ⟨_, rfl⟩
  have hH : hm D vwCl G h18 H16 := by rw [e19]; exact hH
  have hOld := F_d9
  have F_d9 : h18 d9 = some (.inr (1, [.int v1, va_rf v2, .int v4, .long w9, .int v7, .int v9, .int v10, .int v11, .int v13, .int v14, .int v15])) := by rw [e19]; exact hu_s _ _ _
  have hT : TI τ t n h18 := by rw [e19]; exact TI_put hT T_d9 (by decide) ⟨v1, v2, v4, w9, v7, v9, v10, v11, v13, v14, v15, rfl, c3, c5, c8, c12⟩
  have hkf : kf τ [] [d9] h h18 := by rw [e19]; exact kf_putM hkf (by simp)
  have hnp_f : knp τ f h h18 := by rw [e19]; exact knp_put hnp_f hOld
  refine lv_aload_n hx hb d_No_takeName_5 rfl (lv_at hl 0 rfl) ?_
  refine lv_iconst (v := 0) hx hb d_No_takeName_6 (by decide) ?_
  refine hm_put (ci := 1) (v := .int 0) (ty := .int) (C := R_No) (T := F_No) (N := 11) hx hb hts ig_No t_No tk_No nm_No hown hK hH hLo F_d9 rfl 4 (by decide) (hts _ mw_101) (fun _ h9 => h9) rfl (by decide +kernel) rfl rfl (Nat.le_of_ble_eq_true rfl) d_No_takeName_7 (fun H20 locs hH z21 hLo => ?_)
  have hz : s.heap.size ≤ H20.size := by rw [z21]; exact hz
  obtain ⟨h22, e23⟩ : ∃ z, z = hu h18 d9 (.inr (1, [.int v1, va_rf v2, .int v4, .long w9, .int 0, .int v9, .int v10, .int v11, .int v13, .int v14, .int v15])) := ⟨_, rfl⟩
  have hH : hm D vwCl G h22 H20 := by rw [e23]; exact hH
  have hOld := F_d9
  have F_d9 : h22 d9 = some (.inr (1, [.int v1, va_rf v2, .int v4, .long w9, .int 0, .int v9, .int v10, .int v11, .int v13, .int v14, .int v15])) := by rw [e23]; exact hu_s _ _ _
  have hT : TI τ t n h22 := by rw [e23]; exact TI_put hT T_d9 (by decide) ⟨v1, v2, v4, w9, 0, v9, v10, v11, v13, v14, v15, rfl, c3, c5, ⟨by omega, by omega⟩, c12⟩
  have hkf : kf τ [] [d9] h h22 := by rw [e23]; exact kf_putM hkf (by simp)
  have hnp_f : knp τ f h h22 := by rw [e23]; exact knp_put hnp_f hOld
  refine lv_iconst (v := 0) hx hb d_No_takeName_10 (by decide) ?_
  refine lv_istore_n (lv' := [(3, .int 0), (0, .ref d9), (1, .long w9)]) hx hb d_No_takeName_11 rfl hl (by decide) rfl (fun ls hl => ?_)
  refine hm_loop (fun k12 ls H locs hh12 => ∃ (sh : Int32) (le : Int32), k12 = (64 - sh.toInt).toNat ∧ lv_has ls 4 [(3, .int sh), (0, .ref d9), (1, .long w9)] ∧ hm D vwCl G hh12 H ∧ s.heap.size ≤ H.size ∧ hLc G.P locs ∧ hh12 d9 = some (.inr (1, [.int v1, va_rf v2, .int v4, .long w9, .int le, .int v9, .int v10, .int v11, .int v13, .int v14, .int v15])) ∧ (TI τ t n hh12) ∧ (kf τ [] [d9] h hh12) ∧ (knp τ f h hh12) ∧ (0 ≤ sh.toInt ∧ sh.toInt ≤ 64 ∧ sh.toInt % 8 = 0) ∧ (0 ≤ le.toInt ∧ 8 * le.toInt ≤ sh.toInt)) ?_ (hh := h22) ⟨0, 0, rfl, (lv_sub hl [0, 1, 2] rfl), hH, hz, hLo, F_d9, hT, hkf, hnp_f, (by decide), (by decide)⟩
  rintro k12 ls H locs hh12 ⟨sh, le, hk12, hl, hH, hz, hLo, F_d9, hT, hkf, hnp_f, I1, I2⟩ ih12
  exact ih12 ((64 - sh.toInt).toNat) ls _ locs _ (by rw [hk12]; omega) ⟨sh, le, rfl, (lv_sub hl [0, 1, 2] rfl), hH, hz, hLo, F_d9, hT, hkf, hnp_f, (by omega), (by omega)⟩

set_option maxHeartbeats 4000000 in
set_option maxRecDepth 100000 in
theorem t_become (l : Launch) (D : va_G) (t : Nat → ClassId) (G : hG) (ak av : Nat → Nat) (h : hM) (τ : tM) (n f : Nat) (d9 : Nat) (p9 : Option Nat) (z9 : Int32) (w9 : Int64) (hn : n ≤ 200) (hT : TI τ t n h) (T_d9 : τ d9 = (10, f)) (Q_p9 : ∀ q, p9 = some q → τ q = (10, f)) (Z_z9 : zb z9) : Met l y_No_become (.code y_No_become b_No_become 5 none :: lw_g) { frames := 1, cells := 0, slots := 0, locals := 23 } (hP (kE D t G ak av) D vwCl G h [.ref d9, va_rf p9, .int z9, .long w9]) (hQv D vwCl G (fun h' => TI τ t n h' ∧ kf τ [] [d9] h h' ∧ (∀ x y, nod h d9 = some (x, y) → nod h' d9 = some (x, va_rf p9)))) 0 0 G.P := by
  refine Met.ofW (cc := b_No_become) (maxL := 5) (ret := none) (by decide) rfl ?_
  intro p e s m args below meth c s₁ Bd hml hv
  obtain ⟨ha, hE, hH⟩ := hv
  have hx := Bd.exec
  have hb := Bd.bytes
  have hr := Bd.returns
  have hts : ∀ w ∈ lw_g, w.before args s = true := fun w hw => atoms_spec (ws := (.code y_No_become b_No_become 5 none :: lw_g)) Bd.pre w (List.mem_cons_of_mem _ hw)
  have hown : s.vm.findClass R_No = some m.cls := findClass_of_methodNamed Bd.named
  have hlocks := Bd.notSynchronized
  have hK := hE.1
  have hH0 := hH
  have hLo : hLc G.P [] := hLc_nil
  have hz : s.heap.size ≤ s.heap.size := Nat.le_refl _
  have hl := lv_entry [.ref d9, va_rf p9, .int z9, .long w9] (n := 5) (Nat.le_of_ble_eq_true rfl)
  rw [show entryFrame m args 5 = F0 m 0 ((lg_sl [.ref d9, va_rf p9, .int z9, .long w9] ++ List.replicate (5 - (lg_sl [.ref d9, va_rf p9, .int z9, .long w9]).length) Slot.unset).toArray) [] from (by rw [ha]; exact lg_entry_eq m [.ref d9, va_rf p9, .int z9, .long w9] 5)]
  generalize (lg_sl [.ref d9, va_rf p9, .int z9, .long w9] ++ List.replicate (5 - (lg_sl [.ref d9, va_rf p9, .int z9, .long w9]).length) Slot.unset).toArray = ls at hl ⊢
  have hl : lv_has ls 5 [(0, .ref d9), (1, va_rf p9), (2, .int z9), (3, .long w9)] := hl
  have hkf : kf τ [] [d9] h h := kf_rf
  obtain ⟨v1, v2, v4, v6, v7, v9, v10, v11, v13, v14, v15, F_d9, c3, c5, c8, c12⟩ := TI_node hT T_d9
  have hO : nod h d9 = some (.int v1, va_rf v2) := nod_of F_d9
  refine lv_aload_n hx hb d_No_become_0 rfl (lv_at hl 0 rfl) ?_
  refine lv_aload_nQ hx hb d_No_become_1 rfl (lv_at hl 1 rfl) ?_
  refine hm_put (ci := 1) (v := va_rf p9) (ty := (.object "WriteOnceDisc$Node")) (C := R_No) (T := F_No) (N := 11) hx hb hts ig_No t_No tk_No nm_No hown hK hH hLo F_d9 rfl 1 (by decide) (hts _ mw_96) (fun _ h9 => h9) rfl (by decide +kernel) rfl rfl (Nat.le_of_ble_eq_true rfl) d_No_become_2 (fun H16 locs hH z17 hLo => ?_)
  have hz : s.heap.size ≤ H16.size := by rw [z17]; exact hz
  obtain ⟨h18, e19⟩ : ∃ z, z = hu h d9 (.inr (1, [.int v1, va_rf p9, .int v4, .long v6, .int v7, .int v9, .int v10, .int v11, .int v13, .int v14, .int v15])) := ⟨_, rfl⟩
  have hH : hm D vwCl G h18 H16 := by rw [e19]; exact hH
  have F_d9 : h18 d9 = some (.inr (1, [.int v1, va_rf p9, .int v4, .long v6, .int v7, .int v9, .int v10, .int v11, .int v13, .int v14, .int v15])) := by rw [e19]; exact hu_s _ _ _
  have hT : TI τ t n h18 := by rw [e19]; exact TI_put hT T_d9 (by decide) ⟨v1, p9, v4, v6, v7, v9, v10, v11, v13, v14, v15, rfl, Q_p9, c5, c8, c12⟩
  have hkf : kf τ [] [d9] h h18 := by rw [e19]; exact kf_putM hkf (by simp)
  have hbn : nod h18 d9 = some (.int v1, va_rf p9) := nod_of F_d9
  refine lv_aload_n hx hb d_No_become_5 rfl (lv_at hl 0 rfl) ?_
  refine lv_iload_n hx hb d_No_become_6 rfl (lv_at hl 2 rfl) ?_
  refine hm_put (ci := 1) (v := .int z9) (ty := .boolean) (C := R_No) (T := F_No) (N := 11) hx hb hts ig_No t_No tk_No nm_No hown hK hH hLo F_d9 rfl 2 (by decide) (hts _ mw_94) (fun _ h9 => h9) rfl (by decide +kernel) (zb_n Z_z9) (zb_f Z_z9) (Nat.le_of_ble_eq_true rfl) d_No_become_7 (fun H20 locs hH z21 hLo => ?_)
  have hz : s.heap.size ≤ H20.size := by rw [z21]; exact hz
  obtain ⟨h22, e23⟩ : ∃ z, z = hu h18 d9 (.inr (1, [.int v1, va_rf p9, .int z9, .long v6, .int v7, .int v9, .int v10, .int v11, .int v13, .int v14, .int v15])) := ⟨_, rfl⟩
  have hH : hm D vwCl G h22 H20 := by rw [e23]; exact hH
  have hOld := F_d9
  have F_d9 : h22 d9 = some (.inr (1, [.int v1, va_rf p9, .int z9, .long v6, .int v7, .int v9, .int v10, .int v11, .int v13, .int v14, .int v15])) := by rw [e23]; exact hu_s _ _ _
  have hT : TI τ t n h22 := by rw [e23]; exact TI_put hT T_d9 (by decide) ⟨v1, p9, z9, v6, v7, v9, v10, v11, v13, v14, v15, rfl, Q_p9, Z_z9, c8, c12⟩
  have hkf : kf τ [] [d9] h h22 := by rw [e23]; exact kf_putM hkf (by simp)
  have hbn : nod h22 d9 = some (.int v1, va_rf p9) := nod_of F_d9
  refine lv_aload_n hx hb d_No_become_10 rfl (lv_at hl 0 rfl) ?_
  refine lv_lload_n hx hb d_No_become_11 rfl (lv_at hl 3 rfl) ?_
  refine hm_callv (va_runV (As := [.long w9]) (b := d9) (rest := []) ⟨hx, hb, hml, hown, hts⟩ (t_takeName l D t G ak av h22 τ n f d9 w9 hn hT T_d9) ⟨cw9B 1 hts mw_116 mw_117 mw_106 rfl rfl (by decide +kernel) ⟨Nat.le_of_ble_eq_true rfl, Nat.le_of_ble_eq_true rfl⟩, hts _ mw_118, hts _ mw_119⟩ (hP_V (q := (R_No, F_No, 11)) kE_ok hE hK hH F_d9 rfl) rfl rfl hl.1 rfl (lv_room (Nat.le_of_ble_eq_true rfl)) d_No_become_12 ⟨Nat.le_of_ble_eq_true rfl, Nat.le_of_ble_eq_true rfl⟩) hLo (fun h24 H25 locs hp27 hH z26 hLo => ?_)
  have hz : s.heap.size ≤ H25.size := Nat.le_trans hz z26
  have hT0 := hT
  obtain ⟨hT, kf29, xk30, xp28⟩ := hp27
  have hbn : nod h24 d9 = some (.int v1, va_rf p9) := by rw [xk30 d9 T_d9]; exact hbn
  have hkf : kf τ [] [d9] h h24 := kf_tr hkf kf29 (List.forall_mem_nil _) (List.forall_mem_cons.mpr ⟨Or.inl (by simp), List.forall_mem_nil _⟩)
  refine lv_aload_n hx hb d_No_become_15 rfl (lv_at hl 0 rfl) ?_
  refine lv_iconst (v := 0) hx hb d_No_become_16 (by decide) ?_
  refine lv_iconst (v := 0) hx hb d_No_become_17 (by decide) ?_
  obtain ⟨v31, v32, v34, v36, v37, v39, v40, v41, v43, v44, v45, F_d9, c33, c35, c38, c42⟩ := TI_node hT T_d9
  refine hm_callv (va_runV (As := [.int 0, .int 0]) (b := d9) (rest := []) ⟨hx, hb, hml, hown, hts⟩ (t_takeContent l D t G ak av h24 τ n f d9 0 0 hn hT T_d9) ⟨cw9B 2 hts mw_120 mw_121 mw_106 rfl rfl (by decide +kernel) ⟨Nat.le_of_ble_eq_true rfl, Nat.le_of_ble_eq_true rfl⟩, hts _ mw_122, hts _ mw_123⟩ (hP_V (q := (R_No, F_No, 11)) kE_ok hE hK hH F_d9 rfl) rfl rfl hl.1 rfl (lv_room (Nat.le_of_ble_eq_true rfl)) d_No_become_18 ⟨Nat.le_of_ble_eq_true rfl, Nat.le_of_ble_eq_true rfl⟩) hLo (fun h46 H47 locs hp49 hH z48 hLo => ?_)
  have hz : s.heap.size ≤ H47.size := Nat.le_trans hz z48
  have hT0 := hT
  obtain ⟨hT, kf51, xk52⟩ := hp49
  have hbn : nod h46 d9 = some (.int v1, va_rf p9) := by rw [xk52 d9 T_d9]; exact hbn
  have hkf : kf τ [] [d9] h h46 := kf_tr hkf kf51 (List.forall_mem_nil _) (List.forall_mem_cons.mpr ⟨Or.inl (by simp), List.forall_mem_nil _⟩)
  exact W.vret hx hb hr (fun t9 ht hW => ⟨h46, rfl, ⟨hT, hkf, (fun x y h9 => by rw [hO] at h9; cases h9; exact hbn)⟩, by rw [ht]; exact hH, by rw [ht]; exact hz⟩) hLo d_No_become_21

set_option maxHeartbeats 4000000 in
set_option maxRecDepth 100000 in
theorem t_nadopt (l : Launch) (D : va_G) (t : Nat → ClassId) (G : hG) (ak av : Nat → Nat) (h : hM) (τ : tM) (n f g : Nat) (d9 : Nat) (e9 : Nat) (hn : n ≤ 200) (hT : TI τ t n h) (T_d9 : τ d9 = (10, f)) (T_e9 : τ e9 = (10, g)) : Met l y_No_adopt (.code y_No_adopt b_No_adopt 2 none :: lw_g) { frames := 1, cells := 0, slots := 0, locals := 23 } (hP (kE D t G ak av) D vwCl G h [.ref d9, .ref e9]) (hQv D vwCl G (fun h' => TI τ t n h' ∧ kf τ [] [d9] h h' ∧ knp τ f h h')) 0 0 G.P := by
  refine Met.ofW (cc := b_No_adopt) (maxL := 2) (ret := none) (by decide) rfl ?_
  intro p e s m args below meth c s₁ Bd hml hv
  obtain ⟨ha, hE, hH⟩ := hv
  have hx := Bd.exec
  have hb := Bd.bytes
  have hr := Bd.returns
  have hts : ∀ w ∈ lw_g, w.before args s = true := fun w hw => atoms_spec (ws := (.code y_No_adopt b_No_adopt 2 none :: lw_g)) Bd.pre w (List.mem_cons_of_mem _ hw)
  have hown : s.vm.findClass R_No = some m.cls := findClass_of_methodNamed Bd.named
  have hlocks := Bd.notSynchronized
  have hK := hE.1
  have hH0 := hH
  have hLo : hLc G.P [] := hLc_nil
  have hz : s.heap.size ≤ s.heap.size := Nat.le_refl _
  have hl := lv_entry [.ref d9, .ref e9] (n := 2) (Nat.le_of_ble_eq_true rfl)
  rw [show entryFrame m args 2 = F0 m 0 ((lg_sl [.ref d9, .ref e9] ++ List.replicate (2 - (lg_sl [.ref d9, .ref e9]).length) Slot.unset).toArray) [] from (by rw [ha]; exact lg_entry_eq m [.ref d9, .ref e9] 2)]
  generalize (lg_sl [.ref d9, .ref e9] ++ List.replicate (2 - (lg_sl [.ref d9, .ref e9]).length) Slot.unset).toArray = ls at hl ⊢
  have hl : lv_has ls 2 [(0, .ref d9), (1, .ref e9)] := hl
  have hkf : kf τ [] [d9] h h := kf_rf
  have hnp_f : knp τ f h h := knp_rf
  refine lv_aload_n hx hb d_No_adopt_0 rfl (lv_at hl 0 rfl) ?_
  refine lv_aload_n hx hb d_No_adopt_1 rfl (lv_at hl 1 rfl) ?_
  obtain ⟨v1, v2, v4, v6, v7, v9, v10, v11, v13, v14, v15, F_e9, c3, c5, c8, c12⟩ := TI_node hT T_e9
  refine hm_get (ci := 1) (v := .int v4) (C := R_No) (T := F_No) (N := 11) hx hb hts ig_No hown hK hH F_e9 rfl 2 (by decide) (hts _ mw_94) (fun _ h9 => h9) rfl d_No_adopt_2 ?_
  obtain ⟨v16, v17, v19, v21, v22, v24, v25, v26, v28, v29, v30, F_d9, c18, c20, c23, c27⟩ := TI_node hT T_d9
  refine hm_put (ci := 1) (v := .int v4) (ty := .boolean) (C := R_No) (T := F_No) (N := 11) hx hb hts ig_No t_No tk_No nm_No hown hK hH hLo F_d9 rfl 2 (by decide) (hts _ mw_94) (fun _ h9 => h9) rfl (by decide +kernel) (zb_n c5) (zb_f c5) (Nat.le_of_ble_eq_true rfl) d_No_adopt_5 (fun H31 locs hH z32 hLo => ?_)
  have hz : s.heap.size ≤ H31.size := by rw [z32]; exact hz
  obtain ⟨h33, e34⟩ : ∃ z, z = hu h d9 (.inr (1, [.int v16, va_rf v17, .int v4, .long v21, .int v22, .int v24, .int v25, .int v26, .int v28, .int v29, .int v30])) := ⟨_, rfl⟩
  have hH : hm D vwCl G h33 H31 := by rw [e34]; exact hH
  have hOld := F_d9
  have F_d9 : h33 d9 = some (.inr (1, [.int v16, va_rf v17, .int v4, .long v21, .int v22, .int v24, .int v25, .int v26, .int v28, .int v29, .int v30])) := by rw [e34]; exact hu_s _ _ _
  have hT : TI τ t n h33 := by rw [e34]; exact TI_put hT T_d9 (by decide) ⟨v16, v17, v4, v21, v22, v24, v25, v26, v28, v29, v30, rfl, c18, c5, c23, c27⟩
  have hkf : kf τ [] [d9] h h33 := by rw [e34]; exact kf_putM hkf (by simp)
  have hnp_f : knp τ f h h33 := by rw [e34]; exact knp_put hnp_f hOld
  refine lv_aload_n hx hb d_No_adopt_8 rfl (lv_at hl 0 rfl) ?_
  refine lv_aload_n hx hb d_No_adopt_9 rfl (lv_at hl 1 rfl) ?_
  obtain ⟨v35, v36, v38, v40, v41, v43, v44, v45, v47, v48, v49, F_e9, c37, c39, c42, c46⟩ := TI_node hT T_e9
  refine hm_get (ci := 1) (v := .long v40) (C := R_No) (T := F_No) (N := 11) hx hb hts ig_No hown hK hH F_e9 rfl 3 (by decide) (hts _ mw_104) (fun _ h9 => h9) rfl d_No_adopt_10 ?_
  refine hm_callv (va_runV (As := [.long v40]) (b := d9) (rest := []) ⟨hx, hb, hml, hown, hts⟩ (t_takeName l D t G ak av h33 τ n f d9 v40 hn hT T_d9) ⟨cw9B 1 hts mw_116 mw_117 mw_106 rfl rfl (by decide +kernel) ⟨Nat.le_of_ble_eq_true rfl, Nat.le_of_ble_eq_true rfl⟩, hts _ mw_118, hts _ mw_119⟩ (hP_V (q := (R_No, F_No, 11)) kE_ok hE hK hH F_d9 rfl) rfl rfl hl.1 rfl (lv_room (Nat.le_of_ble_eq_true rfl)) d_No_adopt_13 ⟨Nat.le_of_ble_eq_true rfl, Nat.le_of_ble_eq_true rfl⟩) hLo (fun h50 H51 locs hp53 hH z52 hLo => ?_)
  have hz : s.heap.size ≤ H51.size := Nat.le_trans hz z52
  have hT0 := hT
  obtain ⟨hT, kf55, xk56, xp54⟩ := hp53
  have hnp_f : knp τ f h h50 := knp_tr hnp_f xk56
  have hkf : kf τ [] [d9] h h50 := kf_tr hkf kf55 (List.forall_mem_nil _) (List.forall_mem_cons.mpr ⟨Or.inl (by simp), List.forall_mem_nil _⟩)
  refine hm_cut (α := Int32) (fun sz9 ls H locs HH => (lv_has ls 2 [(0, .ref d9), (1, .ref e9)]) ∧ (hm D vwCl G HH H) ∧ (s.heap.size ≤ H.size) ∧ (hLc G.P locs) ∧ (TI τ t n HH) ∧ (kf τ [] [d9] h HH) ∧ (knp τ f h HH)) 32 (fun sz9 => [.int sz9, .ref d9]) ?_ (fun J32 => ?_)
  · skip
    rintro sz9 ls H locs HH ⟨hl, hH, hz, hLo, hT, hkf, hnp_f⟩
    refine lv_iconst (v := -1) hx hb d_No_adopt_32 (by decide) ?_
    obtain ⟨v57, v58, v60, v62, v63, v65, v66, v67, v69, v70, v71, F_d9, c59, c61, c64, c68⟩ := TI_node hT T_d9
    refine hm_callv (va_runV (As := [.int sz9, .int (-1)]) (b := d9) (rest := []) ⟨hx, hb, hml, hown, hts⟩ (t_takeContent l D t G ak av HH τ n f d9 sz9 (-1) hn hT T_d9) ⟨cw9B 2 hts mw_120 mw_121 mw_106 rfl rfl (by decide +kernel) ⟨Nat.le_of_ble_eq_true rfl, Nat.le_of_ble_eq_true rfl⟩, hts _ mw_122, hts _ mw_123⟩ (hP_V (q := (R_No, F_No, 11)) kE_ok hE hK hH F_d9 rfl) rfl rfl hl.1 rfl (lv_room (Nat.le_of_ble_eq_true rfl)) d_No_adopt_33 ⟨Nat.le_of_ble_eq_true rfl, Nat.le_of_ble_eq_true rfl⟩) hLo (fun h72 H73 locs hp75 hH z74 hLo => ?_)
    have hz : s.heap.size ≤ H73.size := Nat.le_trans hz z74
    have hT0 := hT
    obtain ⟨hT, kf77, xk78⟩ := hp75
    have hnp_f : knp τ f h h72 := knp_tr hnp_f xk78
    have hkf : kf τ [] [d9] h h72 := kf_tr hkf kf77 (List.forall_mem_nil _) (List.forall_mem_cons.mpr ⟨Or.inl (by simp), List.forall_mem_nil _⟩)
    refine hm_cut (α := Int32) (fun sc9 ls H locs HH => (lv_has ls 2 [(0, .ref d9), (1, .ref e9)]) ∧ (hm D vwCl G HH H) ∧ (s.heap.size ≤ H.size) ∧ (hLc G.P locs) ∧ (TI τ t n HH) ∧ (kf τ [] [d9] h HH) ∧ (knp τ f h HH)) 52 (fun sc9 => [.int sc9, .ref d9]) ?_ (fun J52 => ?_)
    · skip
      rintro sc9 ls H locs HH ⟨hl, hH, hz, hLo, hT, hkf, hnp_f⟩
      obtain ⟨v79, v80, v82, v84, v85, v87, v88, v89, v91, v92, v93, F_d9, c81, c83, c86, c90⟩ := TI_node hT T_d9
      refine hm_callv (va_runV (As := [.int sc9]) (b := d9) (rest := []) ⟨hx, hb, hml, hown, hts⟩ (t_nsettle l D t G ak av HH τ n f d9 sc9 hn hT T_d9) ⟨cw9B 1 hts mw_124 mw_125 mw_106 rfl rfl (by decide +kernel) ⟨Nat.le_of_ble_eq_true rfl, Nat.le_of_ble_eq_true rfl⟩, hts _ mw_126, hts _ mw_127⟩ (hP_V (q := (R_No, F_No, 11)) kE_ok hE hK hH F_d9 rfl) rfl rfl hl.1 rfl (lv_room (Nat.le_of_ble_eq_true rfl)) d_No_adopt_52 ⟨Nat.le_of_ble_eq_true rfl, Nat.le_of_ble_eq_true rfl⟩) hLo (fun h94 H95 locs hp97 hH z96 hLo => ?_)
      have hz : s.heap.size ≤ H95.size := Nat.le_trans hz z96
      have hT0 := hT
      obtain ⟨hT, kf99, xk100⟩ := hp97
      have hnp_f : knp τ f h h94 := knp_tr hnp_f xk100
      have hkf : kf τ [] [d9] h h94 := kf_tr hkf kf99 (List.forall_mem_nil _) (List.forall_mem_cons.mpr ⟨Or.inl (by simp), List.forall_mem_nil _⟩)
      exact W.vret hx hb hr (fun t9 ht hW => ⟨h94, rfl, ⟨hT, hkf, hnp_f⟩, by rw [ht]; exact hH, by rw [ht]; exact hz⟩) hLo d_No_adopt_55
    · skip
      refine lv_aload_n hx hb d_No_adopt_36 rfl (lv_at hl 0 rfl) ?_
      refine lv_aload_n hx hb d_No_adopt_37 rfl (lv_at hl 0 rfl) ?_
      obtain ⟨v101, v102, v104, v106, v107, v109, v110, v111, v113, v114, v115, F_d9, c103, c105, c108, c112⟩ := TI_node hT T_d9
      refine hm_get (ci := 1) (v := .int v104) (C := R_No) (T := F_No) (N := 11) hx hb hts ig_No hown hK hH F_d9 rfl 2 (by decide) (hts _ mw_94) (fun _ h9 => h9) rfl d_No_adopt_38 ?_
      refine lv_if_eq (tgt := 48) hx hb d_No_adopt_41 (by decide) (fun hc116 => ?_) (fun hc116 => ?_)
      · skip
        have ic117 : v104.toInt = 0 := congrArg Int32.toInt hc116
        refine lv_aload_n hx hb d_No_adopt_48 rfl (lv_at hl 1 rfl) ?_
        obtain ⟨v118, v119, v121, v123, v124, v126, v127, v128, v130, v131, v132, F_e9, c120, c122, c125, c129⟩ := TI_node hT T_e9
        refine hm_get (ci := 1) (v := .int v131) (C := R_No) (T := F_No) (N := 11) hx hb hts ig_No hown hK hH F_e9 rfl 9 (by decide) (hts _ mw_98) (fun _ h9 => h9) rfl d_No_adopt_49 ?_
        exact J52 v131 _ _ _ _ ⟨(lv_sub hl [0, 1] rfl), hH, hz, hLo, hT, hkf, hnp_f⟩
      · skip
        refine lv_iconst (v := 0) hx hb d_No_adopt_44 (by decide) ?_
        refine lv_goto (tgt := 52) hx hb d_No_adopt_45 (by decide) ?_
        exact J52 0 _ _ _ _ ⟨(lv_sub hl [0, 1] rfl), hH, hz, hLo, hT, hkf, hnp_f⟩
  · skip
    refine lv_aload_n hx hb d_No_adopt_16 rfl (lv_at hl 0 rfl) ?_
    refine lv_aload_n hx hb d_No_adopt_17 rfl (lv_at hl 0 rfl) ?_
    obtain ⟨v133, v134, v136, v138, v139, v141, v142, v143, v145, v146, v147, F_d9, c135, c137, c140, c144⟩ := TI_node hT T_d9
    refine hm_get (ci := 1) (v := .int v136) (C := R_No) (T := F_No) (N := 11) hx hb hts ig_No hown hK hH F_d9 rfl 2 (by decide) (hts _ mw_94) (fun _ h9 => h9) rfl d_No_adopt_18 ?_
    refine lv_if_eq (tgt := 28) hx hb d_No_adopt_21 (by decide) (fun hc148 => ?_) (fun hc148 => ?_)
    · skip
      have ic149 : v136.toInt = 0 := congrArg Int32.toInt hc148
      refine lv_aload_n hx hb d_No_adopt_28 rfl (lv_at hl 1 rfl) ?_
      obtain ⟨v150, v151, v153, v155, v156, v158, v159, v160, v162, v163, v164, F_e9, c152, c154, c157, c161⟩ := TI_node hT T_e9
      refine hm_get (ci := 1) (v := .int v158) (C := R_No) (T := F_No) (N := 11) hx hb hts ig_No hown hK hH F_e9 rfl 5 (by decide) (hts _ mw_95) (fun _ h9 => h9) rfl d_No_adopt_29 ?_
      exact J32 v158 _ _ _ _ ⟨(lv_sub hl [0, 1] rfl), hH, hz, hLo, hT, hkf, hnp_f⟩
    · skip
      refine lv_iconst (v := 0) hx hb d_No_adopt_24 (by decide) ?_
      refine lv_goto (tgt := 32) hx hb d_No_adopt_25 (by decide) ?_
      exact J32 0 _ _ _ _ ⟨(lv_sub hl [0, 1] rfl), hH, hz, hLo, hT, hkf, hnp_f⟩
